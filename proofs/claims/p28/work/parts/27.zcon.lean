theorem zl_l {w v : va_W} {k : Nat} {q : Nat × va_E} (h : w[k]? = some q) : (w ++ v)[k]? = some q := by
  rw [List.getElem?_append_left (List.getElem?_eq_some_iff.mp h).1]; exact h
theorem zl_r {w v : va_W} {j k n : Nat} {q : Nat × va_E} (h : v[j]? = some q) (hn : w.length = n) (hk : k = n + j) : (w ++ v)[k]? = some q := by
  subst hk
  subst hn
  rw [List.getElem?_append_right (by omega), show w.length + j - w.length = j by omega]; exact h
theorem zl_s {w : va_W} {j k : Nat} {q r : Nat × va_E} (h : w[k]? = some q) (hk : j ≠ k) : (w.set j r)[k]? = some q := by
  rw [List.getElem?_set_ne hk]; exact h
/-- a table's cells, as they are made, from place k on -/
def zTab (I : Nat → ClassId) (w : va_W) (k b : Nat) : Prop := ∃ (a1 a2 a3 a4 : Nat) (f1 f2 f3 f4 : Nat → Int32), w[k]? = some (b, .inr (3, [.int 1, .ref a1, .ref a2, .int 0, .ref a3, .ref a4])) ∧ w[k + 1]? = some (a1, .inl (I 1, 240, .inl f1)) ∧ w[k + 2]? = some (a2, .inl (I 1, 240, .inl f2)) ∧ w[k + 3]? = some (a3, .inl (I 1, 24, .inl f3)) ∧ w[k + 4]? = some (a4, .inl (I 1, 192, .inl f4)) ∧ (∀ z : Nat, z < 240 → f1 z = -1) ∧ ∀ z : Nat, f2 z = 0
theorem zTab.l {I : Nat → ClassId} {w v : va_W} {k b : Nat} (h : zTab I w k b) : zTab I (w ++ v) k b := by
  obtain ⟨a1, a2, a3, a4, f1, f2, f3, f4, h0, h1, h2, h3, h4, h5⟩ := h
  exact ⟨a1, a2, a3, a4, f1, f2, f3, f4, zl_l h0, zl_l h1, zl_l h2, zl_l h3, zl_l h4, h5⟩
theorem zTab.r {I : Nat → ClassId} {w v : va_W} {j k n b : Nat} (h : zTab I v j b) (hn : w.length = n) (hk : k = n + j) : zTab I (w ++ v) k b := by
  obtain ⟨a1, a2, a3, a4, f1, f2, f3, f4, h0, h1, h2, h3, h4, h5⟩ := h
  exact ⟨a1, a2, a3, a4, f1, f2, f3, f4, zl_r h0 hn hk, zl_r h1 hn (by omega), zl_r h2 hn (by omega), zl_r h3 hn (by omega), zl_r h4 hn (by omega), h5⟩
theorem zTab.s {I : Nat → ClassId} {w : va_W} {j k b : Nat} {r : Nat × va_E} (h : zTab I w k b) (hk : j < k) : zTab I (w.set j r) k b := by
  obtain ⟨a1, a2, a3, a4, f1, f2, f3, f4, h0, h1, h2, h3, h4, h5⟩ := h
  exact ⟨a1, a2, a3, a4, f1, f2, f3, f4, zl_s h0 (by omega), zl_s h1 (by omega), zl_s h2 (by omega), zl_s h3 (by omega), zl_s h4 (by omega), h5⟩
def zCm (w : va_W) (k b : Nat) : Prop := ∃ x1 x2 x3 x4 x5 : Int32, w[k]? = some (b, .inr (0, [.int x1, .int x2, .int x3, .int x4, .int x5]))
theorem zCm.l {w v : va_W} {k b : Nat} (h : zCm w k b) : zCm (w ++ v) k b := by
  obtain ⟨x1, x2, x3, x4, x5, h0⟩ := h
  exact ⟨x1, x2, x3, x4, x5, zl_l h0⟩
theorem zCm.r {w v : va_W} {j k n b : Nat} (h : zCm v j b) (hn : w.length = n) (hk : k = n + j) : zCm (w ++ v) k b := by
  obtain ⟨x1, x2, x3, x4, x5, h0⟩ := h
  exact ⟨x1, x2, x3, x4, x5, zl_r h0 hn hk⟩
theorem zCm.s {w : va_W} {j k b : Nat} {r : Nat × va_E} (h : zCm w k b) (hk : j < k) : zCm (w.set j r) k b := by
  obtain ⟨x1, x2, x3, x4, x5, h0⟩ := h
  exact ⟨x1, x2, x3, x4, x5, zl_s h0 (by omega)⟩
/-- a history's cells, i tables made -/
def zHis (I : Nat → ClassId) (w : va_W) (k b i : Nat) : Prop := ∃ (a1 : Nat) (sl : Nat → Option Nat), w[k]? = some (b, .inr (1, [.ref a1, .int 0, .int 0])) ∧ w[k + 1]? = some (a1, .inl (I 3, 5, .inr (.inr (.inr (.inr sl))))) ∧ ∀ j : Nat, j < i → ∃ b2 : Nat, sl j = some b2 ∧ zTab I w (k + 2 + 5 * j) b2
theorem zHis.l {I : Nat → ClassId} {w v : va_W} {k b i : Nat} (h : zHis I w k b i) : zHis I (w ++ v) k b i := by
  obtain ⟨a1, sl, h0, h1, h2⟩ := h
  exact ⟨a1, sl, zl_l h0, zl_l h1, fun j hj => by obtain ⟨b2, g1, g2⟩ := h2 j hj; exact ⟨b2, g1, g2.l⟩⟩
theorem zHis.r {I : Nat → ClassId} {w v : va_W} {g k n b i : Nat} (h : zHis I v g b i) (hn : w.length = n) (hk : k = n + g) : zHis I (w ++ v) k b i := by
  obtain ⟨a1, sl, h0, h1, h2⟩ := h
  exact ⟨a1, sl, zl_r h0 hn hk, zl_r h1 hn (by omega), fun j hj => by obtain ⟨b2, g1, g2⟩ := h2 j hj; exact ⟨b2, g1, g2.r hn (by omega)⟩⟩
theorem zHis.s {I : Nat → ClassId} {w : va_W} {g k b i : Nat} {r : Nat × va_E} (h : zHis I w k b i) (hk : g < k) : zHis I (w.set g r) k b i := by
  obtain ⟨a1, sl, h0, h1, h2⟩ := h
  exact ⟨a1, sl, zl_s h0 (by omega), zl_s h1 (by omega), fun j hj => by obtain ⟨b2, g1, g2⟩ := h2 j hj; exact ⟨b2, g1, g2.s (by omega)⟩⟩
/-- a script's cells, i commands made -/
def zScr (I : Nat → ClassId) (w : va_W) (k b i : Nat) : Prop := ∃ (a1 a2 : Nat) (xt : Nat → Int32) (cm : Nat → Option Nat), w[k]? = some (b, .inr (2, [.ref a1, .int 0, .ref a2, .int 0, .int 0, .int 0])) ∧ w[k + 1]? = some (a1, .inl (I 0, 80, .inl xt)) ∧ w[k + 2]? = some (a2, .inl (I 2, 20, .inr (.inr (.inr (.inr cm))))) ∧ ∀ j : Nat, j < i → ∃ b2 : Nat, cm j = some b2 ∧ zCm w (k + 3 + j) b2
theorem zScr.r {I : Nat → ClassId} {w v : va_W} {g k n b i : Nat} (h : zScr I v g b i) (hn : w.length = n) (hk : k = n + g) : zScr I (w ++ v) k b i := by
  obtain ⟨a1, a2, xt, cm, h0, h1, h2, h3⟩ := h
  exact ⟨a1, a2, xt, cm, zl_r h0 hn hk, zl_r h1 hn (by omega), zl_r h2 hn (by omega), fun j hj => by obtain ⟨b2, g1, g2⟩ := h3 j hj; exact ⟨b2, g1, g2.r hn (by omega)⟩⟩
theorem zScr.l {I : Nat → ClassId} {w v : va_W} {k b i : Nat} (h : zScr I w k b i) : zScr I (w ++ v) k b i := by
  obtain ⟨a1, a2, xt, cm, h0, h1, h2, h3⟩ := h
  exact ⟨a1, a2, xt, cm, zl_l h0, zl_l h1, zl_l h2, fun j hj => by obtain ⟨b2, g1, g2⟩ := h3 j hj; exact ⟨b2, g1, g2.l⟩⟩
theorem zScr.s {I : Nat → ClassId} {w : va_W} {g k b i : Nat} {r : Nat × va_E} (h : zScr I w k b i) (hk : g < k) : zScr I (w.set g r) k b i := by
  obtain ⟨a1, a2, xt, cm, h0, h1, h2, h3⟩ := h
  exact ⟨a1, a2, xt, cm, zl_s h0 (by omega), zl_s h1 (by omega), zl_s h2 (by omega), fun j hj => by obtain ⟨b2, g1, g2⟩ := h3 j hj; exact ⟨b2, g1, g2.s (by omega)⟩⟩
/-- all cells of the class, all of the reference -/
def zSys (I : Nat → ClassId) (w : va_W) (k b : Nat) : Prop := ∃ a1 a6 a33 a38 : Nat, w[k]? = some (b, .inr (4, [.ref a1, .ref a6, .ref a33, .int 0, .ref a38, .int (-1), .int (-1)])) ∧ zTab I w (k + 1) a1 ∧ zHis I w (k + 6) a6 5 ∧ zTab I w (k + 33) a33 ∧ zScr I w (k + 38) a38 20
theorem zSys.l {I : Nat → ClassId} {w v : va_W} {k b : Nat} (h : zSys I w k b) : zSys I (w ++ v) k b := by
  obtain ⟨a1, a6, a33, a38, h0, h1, h2, h3, h4⟩ := h
  exact ⟨a1, a6, a33, a38, zl_l h0, h1.l, h2.l, h3.l, h4.l⟩

set_option maxRecDepth 100000 in
set_option maxHeartbeats 4000000 in
theorem zX0_init {D : va_G} {I : Nat → ClassId} {l : Launch} {h0 : Nat} : zM D I l yX0_init wsX0_init 1 12 0 0 [.ref h0] [(h0, .inr (0, [.int 0, .int 0, .int 0, .int 0, .int 0]))] (fun w => w.length = 1 ∧ zCm w 0 h0) := by
  refine zM_ofY (cc := cX0_init) (maxL := 1) (ret := none) (by decide) rfl (Nat.le_of_ble_eq_true rfl) ?_
  intro p e s m args below meth c A hA X hr hnm
  clear hA
  have hin2 : meth.name = "<init>" := hnm
  clear hnm
  have inX0 : ∀ w ∈ wsX00, w ∈ wsX0_init := by decide +kernel
  refine z_lv [(0, .ref h0)] rfl ?_
  refine z_aload_n X dX0_init_0 0 rfl ?_
  refine z_objInit X (by decide +kernel : Cond.methodLink RX0 3 Lib.objectInit ∈ wsX0_init) (by decide +kernel : Cond.instanceMethod Lib.objectInit ∈ wsX0_init) (List.mem_of_getElem? (i := 3) rfl) dX0_init_1 (Nat.le_of_ble_eq_true rfl) (Nat.le_of_ble_eq_true rfl) ?_
  refine z_aload_n X dX0_init_4 0 rfl ?_
  refine z_iconst X (v := 3) dX0_init_5 (by decide) ?_
  refine z_put X 0 0 0 (Cn := RX0) (T := TX0) (N := 5) (index := 11) tyX0 (v := .int 3) dX0_init_6 rfl rfl (by decide) inX0 (by decide +kernel : Cond.fieldLink RX0 11 RX0 "verb" "I" ∈ wsX0_init) rfl tyX0_ok nmX0 rfl rfl rfl (Nat.le_of_ble_eq_true rfl) ?_
  refine z_w ([(h0, .inr (0, [.int 3, .int 0, .int 0, .int 0, .int 0]))]) rfl ?_
  refine z_aload_n X dX0_init_9 0 rfl ?_
  refine z_iconst X (v := 0) dX0_init_10 (by decide) ?_
  refine z_put X 0 0 1 (Cn := RX0) (T := TX0) (N := 5) (index := 15) tyX0 (v := .int 0) dX0_init_11 rfl rfl (by decide) inX0 (by decide +kernel : Cond.fieldLink RX0 15 RX0 "row" "I" ∈ wsX0_init) rfl tyX0_ok nmX0 rfl rfl rfl (Nat.le_of_ble_eq_true rfl) ?_
  refine z_w ([(h0, .inr (0, [.int 3, .int 0, .int 0, .int 0, .int 0]))]) rfl ?_
  refine z_aload_n X dX0_init_14 0 rfl ?_
  refine z_iconst X (v := 0) dX0_init_15 (by decide) ?_
  refine z_put X 0 0 2 (Cn := RX0) (T := TX0) (N := 5) (index := 18) tyX0 (v := .int 0) dX0_init_16 rfl rfl (by decide) inX0 (by decide +kernel : Cond.fieldLink RX0 18 RX0 "name" "I" ∈ wsX0_init) rfl tyX0_ok nmX0 rfl rfl rfl (Nat.le_of_ble_eq_true rfl) ?_
  refine z_w ([(h0, .inr (0, [.int 3, .int 0, .int 0, .int 0, .int 0]))]) rfl ?_
  refine z_aload_n X dX0_init_19 0 rfl ?_
  refine z_iconst X (v := 0) dX0_init_20 (by decide) ?_
  refine z_put X 0 0 3 (Cn := RX0) (T := TX0) (N := 5) (index := 21) tyX0 (v := .int 0) dX0_init_21 rfl rfl (by decide) inX0 (by decide +kernel : Cond.fieldLink RX0 21 RX0 "kind" "I" ∈ wsX0_init) rfl tyX0_ok nmX0 rfl rfl rfl (Nat.le_of_ble_eq_true rfl) ?_
  refine z_w ([(h0, .inr (0, [.int 3, .int 0, .int 0, .int 0, .int 0]))]) rfl ?_
  refine z_aload_n X dX0_init_24 0 rfl ?_
  refine z_iconst X (v := 0) dX0_init_25 (by decide) ?_
  refine z_put X 0 0 4 (Cn := RX0) (T := TX0) (N := 5) (index := 24) tyX0 (v := .int 0) dX0_init_26 rfl rfl (by decide) inX0 (by decide +kernel : Cond.fieldLink RX0 24 RX0 "number" "I" ∈ wsX0_init) rfl tyX0_ok nmX0 rfl rfl rfl (Nat.le_of_ble_eq_true rfl) ?_
  refine z_w ([(h0, .inr (0, [.int 3, .int 0, .int 0, .int 0, .int 0]))]) rfl ?_
  exact z_vret X hr dX0_init_29 ⟨rfl, _, _, _, _, _, rfl⟩
set_option maxRecDepth 100000 in
set_option maxHeartbeats 4000000 in
theorem zJ7_fill {D : va_G} {I : Nat → ClassId} {l : Launch} {h0 n : Nat} {v : Int32} {f : Nat → Int32} (hn : n < 2 ^ 31) : zM D I l yJ7_fill_53178 wsJ7_fill_53178 0 0 0 0 [.ref h0, .int v] [(h0, .inl (I 1, n, .inl f))] (fun w => ∃ g : Nat → Int32, w = [(h0, .inl (I 1, n, .inl g))] ∧ ∀ z : Nat, z < n → g z = v) := by
  refine zM_ofY (cc := cJ7_fill_53178) (maxL := 4) (ret := none) (by decide) rfl (Nat.le_of_ble_eq_true rfl) ?_
  intro p e s m args below meth c A hA X hr hnm
  clear hA hnm
  refine z_lv [(0, .ref h0), (1, .int v)] rfl ?_
  have hgo : ∀ (k j : Nat) (g : Nat → Int32), j + k = n → (∀ z : Nat, z < j → g z = v) → zY p l e ({ frames := 0, cells := 0, slots := 0, locals := 0 } : Room) s m args below meth c D I A 4 0 0 (MQ below (va_Qv (fun w => ∃ g : Nat → Int32, w = [(h0, .inl (I 1, n, .inl g))] ∧ ∀ z : Nat, z < n → g z = v) (zE D I A) A) args s 0 0 A) [(h0, .inl (I 1, n, .inl g))] 5 [(2, .int (nI j)), (3, .int (nI n)), (0, .ref h0), (1, .int v)] [] := by
    intro k
    induction k with
    | zero =>
      intro j g hj hg
      refine z_iload_n X dJ7_fill_53178_5 0 rfl ?_
      refine z_iload_n X dJ7_fill_53178_6 1 rfl ?_
      refine z_icmp_ge X 20 (n ≤ j) dJ7_fill_53178_7 (by decide) (nI_leI (a := n) (b := j) (by omega) (by omega)) (fun c_1 => ?_) (fun c_1 => ?_)
      · exact z_vret X hr dJ7_fill_53178_20 ⟨g, rfl, fun z hz => hg z (by omega)⟩
      · exact absurd (show n ≤ j by omega) c_1
    | succ k ihk =>
      intro j g hj hg
      refine z_iload_n X dJ7_fill_53178_5 0 rfl ?_
      refine z_iload_n X dJ7_fill_53178_6 1 rfl ?_
      refine z_icmp_ge X 20 (n ≤ j) dJ7_fill_53178_7 (by decide) (nI_leI (a := n) (b := j) (by omega) (by omega)) (fun c_1 => ?_) (fun c_1 => ?_)
      · exact z_vret X hr dJ7_fill_53178_20 ⟨g, rfl, fun z hz => hg z (by omega)⟩
      · refine z_aload_n X dJ7_fill_53178_10 2 rfl ?_
        refine z_iload_n X dJ7_fill_53178_11 0 rfl ?_
        refine z_iload_n X dJ7_fill_53178_12 3 rfl ?_
        refine z_iast X 0 (j := j) dJ7_fill_53178_13 rfl rfl (by omega) (by omega) ?_
        refine z_w [(h0, .inl (I 1, n, .inl (upd g j v)))] rfl ?_
        refine z_iinc X [(2, .int (nI (j + 1))), (3, .int (nI n)), (0, .ref h0), (1, .int v)] dJ7_fill_53178_14 0 rfl (nI_1 _) (by decide) rfl ?_
        refine z_goto X 5 dJ7_fill_53178_17 (by decide) ?_
        refine ihk (j + 1) (upd g j v) (by omega) (fun z hz => ?_)
        rcases Nat.lt_or_ge z j with q | q
        · rw [pk_un (by omega)]; exact hg z q
        · rw [show z = j by omega, pk_us]
  refine z_iconst X (v := 0) dJ7_fill_53178_0 (by decide) ?_
  refine z_istore_n X [(2, .int 0), (0, .ref h0), (1, .int v)] dJ7_fill_53178_1 rfl (by decide) rfl ?_
  refine z_aload_n X dJ7_fill_53178_2 1 rfl ?_
  refine z_alen X 0 1 dJ7_fill_53178_3 rfl rfl rfl ?_
  refine z_istore_n X [(3, .int (nI n)), (2, .int 0), (0, .ref h0), (1, .int v)] dJ7_fill_53178_4 rfl (by decide) rfl ?_
  refine z_pick [1, 0, 2, 3] [(2, .int (nI 0)), (3, .int (nI n)), (0, .ref h0), (1, .int v)] rfl ?_
  exact hgo n 0 f (by omega) (fun z hz => absurd hz (Nat.not_lt_zero _))
set_option maxRecDepth 100000 in
set_option maxHeartbeats 4000000 in
theorem zX3_init {D : va_G} {I : Nat → ClassId} {l : Launch} {h0 : Nat} : zM D I l yX3_init wsX3_init 1 23 4 696 [.ref h0] [(h0, .inr (3, [.int 0, .null, .null, .int 0, .null, .null]))] (fun w => w.length = 5 ∧ zTab I w 0 h0) := by
  refine zM_ofY (cc := cX3_init) (maxL := 1) (ret := none) (by decide) rfl (Nat.le_of_ble_eq_true rfl) ?_
  intro p e s m args below meth c A hA X hr hnm
  clear hA
  have hin2 : meth.name = "<init>" := hnm
  clear hnm
  have inX3 : ∀ w ∈ wsX30, w ∈ wsX3_init := by decide +kernel
  refine z_lv [(0, .ref h0)] rfl ?_
  refine z_aload_n X dX3_init_0 0 rfl ?_
  refine z_objInit X (by decide +kernel : Cond.methodLink RX3 3 Lib.objectInit ∈ wsX3_init) (by decide +kernel : Cond.instanceMethod Lib.objectInit ∈ wsX3_init) (List.mem_of_getElem? (i := 3) rfl) dX3_init_1 (Nat.le_of_ble_eq_true rfl) (Nat.le_of_ble_eq_true rfl) ?_
  refine z_aload_n X dX3_init_4 0 rfl ?_
  refine z_iconst X (v := 1) dX3_init_5 (by decide) ?_
  refine z_put X 0 3 0 (Cn := RX3) (T := TX3) (N := 6) (index := 9) tyX3 (v := .int 1) dX3_init_6 rfl rfl (by decide) inX3 (by decide +kernel : Cond.fieldLink RX3 9 RX3 "seasons" "I" ∈ wsX3_init) rfl tyX3_ok nmX3 rfl rfl rfl (Nat.le_of_ble_eq_true rfl) ?_
  refine z_w ([(h0, .inr (3, [.int 1, .null, .null, .int 0, .null, .null]))]) rfl ?_
  refine z_aload_n X dX3_init_9 0 rfl ?_
  refine z_sipush X (v := 240) dX3_init_10 (by decide) ?_
  refine z_newI X (n := 240) (by decide +kernel : Cond.arrayClass .int ∈ wsX3_init) dX3_init_13 rfl (by decide) (Nat.le_of_ble_eq_true rfl) (Nat.le_of_ble_eq_true rfl) (fun q1 => ?_)
  refine z_w ([(h0, .inr (3, [.int 1, .null, .null, .int 0, .null, .null])), (q1, .inl (I 1, 240, .inl (fun _ => 0)))]) rfl ?_
  refine z_putF X hin2 0 3 1 (Cn := RX3) (T := TX3) (N := 6) (index := 15) tyX3 (v := .ref q1) dX3_init_15 rfl rfl (by decide) inX3 (by decide +kernel : Cond.fieldLink RX3 15 RX3 "kinds" "[I" ∈ wsX3_init) rfl tyX3_ok nmX3 rfl rfl rfl (Nat.le_of_ble_eq_true rfl) ?_
  refine z_w ([(h0, .inr (3, [.int 1, .ref q1, .null, .int 0, .null, .null])), (q1, .inl (I 1, 240, .inl (fun _ => 0)))]) rfl ?_
  refine z_aload_n X dX3_init_18 0 rfl ?_
  refine z_sipush X (v := 240) dX3_init_19 (by decide) ?_
  refine z_newI X (n := 240) (by decide +kernel : Cond.arrayClass .int ∈ wsX3_init) dX3_init_22 rfl (by decide) (Nat.le_of_ble_eq_true rfl) (Nat.le_of_ble_eq_true rfl) (fun q2 => ?_)
  refine z_w ([(h0, .inr (3, [.int 1, .ref q1, .null, .int 0, .null, .null])), (q1, .inl (I 1, 240, .inl (fun _ => 0))), (q2, .inl (I 1, 240, .inl (fun _ => 0)))]) rfl ?_
  refine z_putF X hin2 0 3 2 (Cn := RX3) (T := TX3) (N := 6) (index := 19) tyX3 (v := .ref q2) dX3_init_24 rfl rfl (by decide) inX3 (by decide +kernel : Cond.fieldLink RX3 19 RX3 "standards" "[I" ∈ wsX3_init) rfl tyX3_ok nmX3 rfl rfl rfl (Nat.le_of_ble_eq_true rfl) ?_
  refine z_w ([(h0, .inr (3, [.int 1, .ref q1, .ref q2, .int 0, .null, .null])), (q1, .inl (I 1, 240, .inl (fun _ => 0))), (q2, .inl (I 1, 240, .inl (fun _ => 0)))]) rfl ?_
  refine z_aload_n X dX3_init_27 0 rfl ?_
  refine z_iconst X (v := 0) dX3_init_28 (by decide) ?_
  refine z_put X 0 3 3 (Cn := RX3) (T := TX3) (N := 6) (index := 22) tyX3 (v := .int 0) dX3_init_29 rfl rfl (by decide) inX3 (by decide +kernel : Cond.fieldLink RX3 22 RX3 "rows" "I" ∈ wsX3_init) rfl tyX3_ok nmX3 rfl rfl rfl (Nat.le_of_ble_eq_true rfl) ?_
  refine z_w ([(h0, .inr (3, [.int 1, .ref q1, .ref q2, .int 0, .null, .null])), (q1, .inl (I 1, 240, .inl (fun _ => 0))), (q2, .inl (I 1, 240, .inl (fun _ => 0)))]) rfl ?_
  refine z_aload_n X dX3_init_32 0 rfl ?_
  refine z_bipush X (v := 24) dX3_init_33 (by decide) ?_
  refine z_newI X (n := 24) (by decide +kernel : Cond.arrayClass .int ∈ wsX3_init) dX3_init_35 rfl (by decide) (Nat.le_of_ble_eq_true rfl) (Nat.le_of_ble_eq_true rfl) (fun q3 => ?_)
  refine z_w ([(h0, .inr (3, [.int 1, .ref q1, .ref q2, .int 0, .null, .null])), (q1, .inl (I 1, 240, .inl (fun _ => 0))), (q2, .inl (I 1, 240, .inl (fun _ => 0))), (q3, .inl (I 1, 24, .inl (fun _ => 0)))]) rfl ?_
  refine z_putF X hin2 0 3 4 (Cn := RX3) (T := TX3) (N := 6) (index := 25) tyX3 (v := .ref q3) dX3_init_37 rfl rfl (by decide) inX3 (by decide +kernel : Cond.fieldLink RX3 25 RX3 "rowSeasons" "[I" ∈ wsX3_init) rfl tyX3_ok nmX3 rfl rfl rfl (Nat.le_of_ble_eq_true rfl) ?_
  refine z_w ([(h0, .inr (3, [.int 1, .ref q1, .ref q2, .int 0, .ref q3, .null])), (q1, .inl (I 1, 240, .inl (fun _ => 0))), (q2, .inl (I 1, 240, .inl (fun _ => 0))), (q3, .inl (I 1, 24, .inl (fun _ => 0)))]) rfl ?_
  refine z_aload_n X dX3_init_40 0 rfl ?_
  refine z_sipush X (v := 192) dX3_init_41 (by decide) ?_
  refine z_newI X (n := 192) (by decide +kernel : Cond.arrayClass .int ∈ wsX3_init) dX3_init_44 rfl (by decide) (Nat.le_of_ble_eq_true rfl) (Nat.le_of_ble_eq_true rfl) (fun q4 => ?_)
  refine z_w ([(h0, .inr (3, [.int 1, .ref q1, .ref q2, .int 0, .ref q3, .null])), (q1, .inl (I 1, 240, .inl (fun _ => 0))), (q2, .inl (I 1, 240, .inl (fun _ => 0))), (q3, .inl (I 1, 24, .inl (fun _ => 0))), (q4, .inl (I 1, 192, .inl (fun _ => 0)))]) rfl ?_
  refine z_putF X hin2 0 3 5 (Cn := RX3) (T := TX3) (N := 6) (index := 28) tyX3 (v := .ref q4) dX3_init_46 rfl rfl (by decide) inX3 (by decide +kernel : Cond.fieldLink RX3 28 RX3 "values" "[I" ∈ wsX3_init) rfl tyX3_ok nmX3 rfl rfl rfl (Nat.le_of_ble_eq_true rfl) ?_
  refine z_w ([(h0, .inr (3, [.int 1, .ref q1, .ref q2, .int 0, .ref q3, .ref q4])), (q1, .inl (I 1, 240, .inl (fun _ => 0))), (q2, .inl (I 1, 240, .inl (fun _ => 0))), (q3, .inl (I 1, 24, .inl (fun _ => 0))), (q4, .inl (I 1, 192, .inl (fun _ => 0)))]) rfl ?_
  refine z_aload_n X dX3_init_49 0 rfl ?_
  refine z_get X 0 3 1 (Cn := RX3) (T := TX3) (N := 6) (index := 15) (v := .ref q1) dX3_init_50 rfl rfl (by decide) inX3 (by decide +kernel : Cond.fieldLink RX3 15 RX3 "kinds" "[I" ∈ wsX3_init) rfl rfl ?_
  refine z_iconst X (v := (-1)) dX3_init_53 (by decide) ?_
  refine z_sub [(h0, .inr (3, [.int 1, .ref q1, .ref q2, .int 0, .ref q3, .ref q4])), (q2, .inl (I 1, 240, .inl (fun _ => 0))), (q3, .inl (I 1, 24, .inl (fun _ => 0))), (q4, .inl (I 1, 192, .inl (fun _ => 0))), (q1, .inl (I 1, 240, .inl (fun _ => 0)))] [0, 2, 3, 4, 1] (by decide) rfl rfl ?_
  refine z_callS X (av := [.ref q1, .int (-1)]) [] 2 [(h0, .inr (3, [.int 1, .ref q1, .ref q2, .int 0, .ref q3, .ref q4])), (q2, .inl (I 1, 240, .inl (fun _ => 0))), (q3, .inl (I 1, 24, .inl (fun _ => 0))), (q4, .inl (I 1, 192, .inl (fun _ => 0)))] [(q1, .inl (I 1, 240, .inl (fun _ => 0)))] (zJ7_fill (by decide)) gX3_init_J7_fill_53178 rfl ⟨by decide, by decide, by decide +kernel⟩ rfl ⟨Nat.le_of_ble_eq_true rfl, Nat.le_of_ble_eq_true rfl⟩ (Nat.zero_le _) rfl dX3_init_54 ⟨Nat.le_of_ble_eq_true rfl, Nat.le_of_ble_eq_true rfl⟩ rfl (fun w1 hw1 => ?_)
  obtain ⟨g, rfl, hg⟩ := hw1
  refine z_sub [(h0, .inr (3, [.int 1, .ref q1, .ref q2, .int 0, .ref q3, .ref q4])), (q1, .inl (I 1, 240, .inl g)), (q2, .inl (I 1, 240, .inl (fun _ => 0))), (q3, .inl (I 1, 24, .inl (fun _ => 0))), (q4, .inl (I 1, 192, .inl (fun _ => 0)))] [0, 4, 1, 2, 3] (by decide) rfl rfl ?_
  refine z_n 4 696 (Nat.le_of_ble_eq_true rfl) (Nat.le_of_ble_eq_true rfl) ?_
  exact z_vret X hr dX3_init_57 ⟨rfl, q1, q2, q3, q4, g, _, _, _, rfl, rfl, rfl, rfl, rfl, hg, fun _ => rfl⟩
set_option maxRecDepth 100000 in
set_option maxHeartbeats 4000000 in
theorem zX1_init {D : va_G} {I : Nat → ClassId} {l : Launch} {h0 : Nat} : zM D I l yX1_init wsX1_init 2 43 26 3515 [.ref h0] [(h0, .inr (1, [.null, .int 0, .int 0]))] (fun w => w.length = 27 ∧ zHis I w 0 h0 5) := by
  refine zM_ofY (cc := cX1_init) (maxL := 2) (ret := none) (by decide) rfl (Nat.le_of_ble_eq_true rfl) ?_
  intro p e s m args below meth c A hA X hr hnm
  clear hA
  have hin2 : meth.name = "<init>" := hnm
  clear hnm
  have inX1 : ∀ w ∈ wsX10, w ∈ wsX1_init := by decide +kernel
  have inX3 : ∀ w ∈ wsX30, w ∈ wsX1_init := by decide +kernel
  refine z_lv [(0, .ref h0)] rfl ?_
  have hgo : ∀ (k i : Nat) (w : va_W), i + k = 5 → w.length = 2 + 5 * i → zHis I w 0 h0 i → zY p l e ({ frames := 2, cells := 26, slots := 3515, locals := 43 } : Room) s m args below meth c D I A 2 (1 + 5 * i) (5 + 702 * i) (MQ below (va_Qv (fun w => w.length = 27 ∧ zHis I w 0 h0 5) (zE D I A) A) args s 26 3515 A) w 24 [(1, .int (nI i)), (0, .ref h0)] [] := by
    intro k
    induction k with
    | zero =>
      intro i w hi hl hw
      refine z_iload_n X dX1_init_24 0 rfl ?_
      refine z_iconst X (v := 5) dX1_init_25 (by decide) ?_
      refine z_icmp_ge X 48 (5 ≤ i) dX1_init_26 (by decide) (nI_leI (a := 5) (b := i) (by omega) (by omega)) (fun c_1 => ?_) (fun c_1 => ?_)
      · obtain rfl : i = 5 := by omega
        refine z_n 26 3515 (Nat.le_of_ble_eq_true rfl) (Nat.le_of_ble_eq_true rfl) ?_
        exact z_vret X hr dX1_init_48 ⟨hl, hw⟩
      · exact absurd (show 5 ≤ i by omega) c_1
    | succ k ihk =>
      intro i w hi hl hw
      refine z_iload_n X dX1_init_24 0 rfl ?_
      refine z_iconst X (v := 5) dX1_init_25 (by decide) ?_
      refine z_icmp_ge X 48 (5 ≤ i) dX1_init_26 (by decide) (nI_leI (a := 5) (b := i) (by omega) (by omega)) (fun c_1 => ?_) (fun c_1 => ?_)
      · obtain rfl : i = 5 := by omega
        refine z_n 26 3515 (Nat.le_of_ble_eq_true rfl) (Nat.le_of_ble_eq_true rfl) ?_
        exact z_vret X hr dX1_init_48 ⟨hl, hw⟩
      · obtain ⟨a1, sl, h0w, h1w, hjw⟩ := hw
        refine z_aload_n X dX1_init_29 1 rfl ?_
        refine z_get X 0 1 0 (Cn := RX1) (T := TX1) (N := 3) (index := 13) (v := .ref a1) dX1_init_30 h0w rfl (by decide) inX1 (by decide +kernel : Cond.fieldLink RX1 13 RX1 "slots" "[LColumnSeasons$Table;" ∈ wsX1_init) rfl rfl ?_
        refine z_iload_n X dX1_init_33 0 rfl ?_
        refine z_new X 3 (Cn := RX3) (T := TX3) (N := 6) [.int 0, .null, .null, .int 0, .null, .null] tyX3 dX1_init_34 rfl inX3 tyX3_ok (by decide +kernel : Cond.classLink RX1 11 RX3 ∈ wsX1_init) (by decide +kernel : Cond.instantiable RX3 6 ∈ wsX1_init) (by decide +kernel : Cond.initialized RX3 ∈ wsX1_init) (fun j hj => by rcases (show j = 0 ∨ j = 1 ∨ j = 2 ∨ j = 3 ∨ j = 4 ∨ j = 5 by omega) with rfl | rfl | rfl | rfl | rfl | rfl <;> rfl) (by show 1 + 5 * i + 1 ≤ 26; omega) (by show 5 + 702 * i + 6 ≤ 3515; omega) (fun q => ?_)
        refine z_dup X dX1_init_37 rfl ?_
        refine z_callI X w [(q, .inr (3, [.int 0, .null, .null, .int 0, .null, .null]))] zX3_init gX1_init_X3_init rfl rfl (by decide +kernel : Cond.initialized RX3 ∈ wsX1_init) (by decide +kernel : Cond.methodLink RX1 24 yX3_init ∈ wsX1_init) (by decide +kernel : Cond.instanceMethod yX3_init ∈ wsX1_init) ⟨by decide, by decide, by decide +kernel⟩ ⟨Nat.le_of_ble_eq_true rfl, Nat.le_of_ble_eq_true rfl⟩ (Nat.le_of_ble_eq_true rfl) dX1_init_38 ⟨by show 1 + 5 * i + 1 + 4 ≤ 26; omega, by show 5 + 702 * i + 6 + 696 ≤ 3515; omega⟩ rfl (fun w1 hw1 => ?_)
        obtain ⟨hl1, ht1⟩ := hw1
        have ht2 : zTab I (w ++ w1) (2 + 5 * i) q := ht1.r hl (by omega)
        have hq0 := ht2
        obtain ⟨b1, b2, b3, b4, f1, f2, f3, f4, hq, hqr⟩ := hq0
        clear hqr
        refine z_aast X 1 3 (2 + 5 * i) 3 (q := (RX3, TX3, 6)) (j := i) dX1_init_41 (zl_l h1w) rfl hq rfl rfl (by omega) (by decide) ?_
        refine z_iinc X [(1, .int (nI (i + 1))), (0, .ref h0)] dX1_init_42 0 rfl (nI_1 _) (by decide) rfl ?_
        refine z_goto X 24 dX1_init_45 (by decide) ?_
        refine z_n (1 + 5 * (i + 1)) (5 + 702 * (i + 1)) (by omega) (by omega) ?_
        refine ihk (i + 1) _ (by omega) (by rw [List.length_set, List.length_append, hl, hl1]; omega) ⟨a1, va_up sl i (some q), zl_s (zl_l h0w) (by decide), List.getElem?_set_self (by rw [List.length_append, hl, hl1]; omega), fun j hj => ?_⟩
        rcases Nat.lt_or_ge j i with g1 | g1
        · obtain ⟨b5, u1, u2⟩ := hjw j g1
          exact ⟨b5, by rw [va_up, if_neg (show ¬ j = i by omega)]; exact u1, (u2.l).s (by omega)⟩
        · obtain rfl : j = i := by omega
          exact ⟨q, by rw [va_up, if_pos rfl], by rw [show 0 + 2 + 5 * j = 2 + 5 * j by omega]; exact ht2.s (by omega)⟩
  refine z_aload_n X dX1_init_0 0 rfl ?_
  refine z_objInit X (by decide +kernel : Cond.methodLink RX1 3 Lib.objectInit ∈ wsX1_init) (by decide +kernel : Cond.instanceMethod Lib.objectInit ∈ wsX1_init) (List.mem_of_getElem? (i := 3) rfl) dX1_init_1 (Nat.le_of_ble_eq_true rfl) (Nat.le_of_ble_eq_true rfl) ?_
  refine z_aload_n X dX1_init_4 0 rfl ?_
  refine z_iconst X (v := 5) dX1_init_5 (by decide) ?_
  refine z_newq X 3 (Cn := RX3) (n := 5) rfl X.2.2.1.2.2 (by decide +kernel : Cond.classLink RX1 11 RX3 ∈ wsX1_init) dX1_init_6 rfl (by decide) (Nat.le_of_ble_eq_true rfl) (Nat.le_of_ble_eq_true rfl) (fun q1 => ?_)
  refine z_w ([(h0, .inr (1, [.null, .int 0, .int 0])), (q1, .inl (I 3, 5, .inr (.inr (.inr (.inr (fun _ => none))))))]) rfl ?_
  refine z_putF X hin2 0 1 0 (Cn := RX1) (T := TX1) (N := 3) (index := 13) tyX1 (v := .ref q1) dX1_init_9 rfl rfl (by decide) inX1 (by decide +kernel : Cond.fieldLink RX1 13 RX1 "slots" "[LColumnSeasons$Table;" ∈ wsX1_init) rfl tyX1_ok nmX1 rfl rfl rfl (Nat.le_of_ble_eq_true rfl) ?_
  refine z_w ([(h0, .inr (1, [.ref q1, .int 0, .int 0])), (q1, .inl (I 3, 5, .inr (.inr (.inr (.inr (fun _ => none))))))]) rfl ?_
  refine z_aload_n X dX1_init_12 0 rfl ?_
  refine z_iconst X (v := 0) dX1_init_13 (by decide) ?_
  refine z_put X 0 1 1 (Cn := RX1) (T := TX1) (N := 3) (index := 17) tyX1 (v := .int 0) dX1_init_14 rfl rfl (by decide) inX1 (by decide +kernel : Cond.fieldLink RX1 17 RX1 "oldest" "I" ∈ wsX1_init) rfl tyX1_ok nmX1 rfl rfl rfl (Nat.le_of_ble_eq_true rfl) ?_
  refine z_w ([(h0, .inr (1, [.ref q1, .int 0, .int 0])), (q1, .inl (I 3, 5, .inr (.inr (.inr (.inr (fun _ => none))))))]) rfl ?_
  refine z_aload_n X dX1_init_17 0 rfl ?_
  refine z_iconst X (v := 0) dX1_init_18 (by decide) ?_
  refine z_put X 0 1 2 (Cn := RX1) (T := TX1) (N := 3) (index := 21) tyX1 (v := .int 0) dX1_init_19 rfl rfl (by decide) inX1 (by decide +kernel : Cond.fieldLink RX1 21 RX1 "length" "I" ∈ wsX1_init) rfl tyX1_ok nmX1 rfl rfl rfl (Nat.le_of_ble_eq_true rfl) ?_
  refine z_w ([(h0, .inr (1, [.ref q1, .int 0, .int 0])), (q1, .inl (I 3, 5, .inr (.inr (.inr (.inr (fun _ => none))))))]) rfl ?_
  refine z_iconst X (v := 0) dX1_init_22 (by decide) ?_
  refine z_istore_n X [(1, .int 0), (0, .ref h0)] dX1_init_23 rfl (by decide) rfl ?_
  refine z_n (1 + 5 * 0) (5 + 702 * 0) (Nat.le_of_ble_eq_true rfl) (Nat.le_of_ble_eq_true rfl) ?_
  exact hgo 5 0 _ rfl rfl ⟨q1, (fun _ => none), rfl, rfl, fun j hj => absurd hj (Nat.not_lt_zero _)⟩
set_option maxRecDepth 100000 in
set_option maxHeartbeats 4000000 in
theorem zX2_init {D : va_G} {I : Nat → ClassId} {l : Launch} {h0 : Nat} : zM D I l yX2_init wsX2_init 2 32 22 200 [.ref h0] [(h0, .inr (2, [.null, .int 0, .null, .int 0, .int 0, .int 0]))] (fun w => w.length = 23 ∧ zScr I w 0 h0 20) := by
  refine zM_ofY (cc := cX2_init) (maxL := 2) (ret := none) (by decide) rfl (Nat.le_of_ble_eq_true rfl) ?_
  intro p e s m args below meth c A hA X hr hnm
  clear hA
  have hin2 : meth.name = "<init>" := hnm
  clear hnm
  have inX0 : ∀ w ∈ wsX00, w ∈ wsX2_init := by decide +kernel
  have inX2 : ∀ w ∈ wsX20, w ∈ wsX2_init := by decide +kernel
  refine z_lv [(0, .ref h0)] rfl ?_
  have hgo : ∀ (k i : Nat) (w : va_W), i + k = 20 → w.length = 3 + i → zScr I w 0 h0 i → zY p l e ({ frames := 2, cells := 22, slots := 200, locals := 32 } : Room) s m args below meth c D I A 2 (2 + i) (100 + 5 * i) (MQ below (va_Qv (fun w => w.length = 23 ∧ zScr I w 0 h0 20) (zE D I A) A) args s 22 200 A) w 43 [(1, .int (nI i)), (0, .ref h0)] [] := by
    intro k
    induction k with
    | zero =>
      intro i w hi hl hw
      refine z_iload_n X dX2_init_43 0 rfl ?_
      refine z_bipush X (v := 20) dX2_init_44 (by decide) ?_
      refine z_icmp_ge X 68 (20 ≤ i) dX2_init_46 (by decide) (nI_leI (a := 20) (b := i) (by omega) (by omega)) (fun c_1 => ?_) (fun c_1 => ?_)
      · obtain rfl : i = 20 := by omega
        refine z_n 22 200 (Nat.le_of_ble_eq_true rfl) (Nat.le_of_ble_eq_true rfl) ?_
        exact z_vret X hr dX2_init_68 ⟨hl, hw⟩
      · exact absurd (show 20 ≤ i by omega) c_1
    | succ k ihk =>
      intro i w hi hl hw
      refine z_iload_n X dX2_init_43 0 rfl ?_
      refine z_bipush X (v := 20) dX2_init_44 (by decide) ?_
      refine z_icmp_ge X 68 (20 ≤ i) dX2_init_46 (by decide) (nI_leI (a := 20) (b := i) (by omega) (by omega)) (fun c_1 => ?_) (fun c_1 => ?_)
      · obtain rfl : i = 20 := by omega
        refine z_n 22 200 (Nat.le_of_ble_eq_true rfl) (Nat.le_of_ble_eq_true rfl) ?_
        exact z_vret X hr dX2_init_68 ⟨hl, hw⟩
      · obtain ⟨a1, a2, xt, cm, h0w, h1w, h2w, hjw⟩ := hw
        refine z_aload_n X dX2_init_49 1 rfl ?_
        refine z_get X 0 2 2 (Cn := RX2) (T := TX2) (N := 6) (index := 21) (v := .ref a2) dX2_init_50 h0w rfl (by decide) inX2 (by decide +kernel : Cond.fieldLink RX2 21 RX2 "commands" "[LColumnSeasons$Command;" ∈ wsX2_init) rfl rfl ?_
        refine z_iload_n X dX2_init_53 0 rfl ?_
        refine z_new X 0 (Cn := RX0) (T := TX0) (N := 5) [.int 0, .int 0, .int 0, .int 0, .int 0] tyX0 dX2_init_54 rfl inX0 tyX0_ok (by decide +kernel : Cond.classLink RX2 19 RX0 ∈ wsX2_init) (by decide +kernel : Cond.instantiable RX0 5 ∈ wsX2_init) (by decide +kernel : Cond.initialized RX0 ∈ wsX2_init) (fun j hj => by rcases (show j = 0 ∨ j = 1 ∨ j = 2 ∨ j = 3 ∨ j = 4 by omega) with rfl | rfl | rfl | rfl | rfl <;> rfl) (by show 2 + i + 1 ≤ 22; omega) (by show 100 + 5 * i + 5 ≤ 200; omega) (fun q => ?_)
        refine z_dup X dX2_init_57 rfl ?_
        refine z_callI X w [(q, .inr (0, [.int 0, .int 0, .int 0, .int 0, .int 0]))] zX0_init gX2_init_X0_init rfl rfl (by decide +kernel : Cond.initialized RX0 ∈ wsX2_init) (by decide +kernel : Cond.methodLink RX2 34 yX0_init ∈ wsX2_init) (by decide +kernel : Cond.instanceMethod yX0_init ∈ wsX2_init) ⟨by decide, by decide, by decide +kernel⟩ ⟨Nat.le_of_ble_eq_true rfl, Nat.le_of_ble_eq_true rfl⟩ (Nat.le_of_ble_eq_true rfl) dX2_init_58 ⟨by show 2 + i + 1 + 0 ≤ 22; omega, by show 100 + 5 * i + 5 + 0 ≤ 200; omega⟩ rfl (fun w1 hw1 => ?_)
        obtain ⟨hl1, ht1⟩ := hw1
        have ht2 : zCm (w ++ w1) (3 + i) q := ht1.r hl (by omega)
        have hq0 := ht2
        obtain ⟨x1, x2, x3, x4, x5, hq⟩ := hq0
        refine z_aast X 2 2 (3 + i) 0 (q := (RX0, TX0, 5)) (j := i) dX2_init_61 (zl_l h2w) rfl hq rfl rfl (by omega) (by decide) ?_
        refine z_iinc X [(1, .int (nI (i + 1))), (0, .ref h0)] dX2_init_62 0 rfl (nI_1 _) (by decide) rfl ?_
        refine z_goto X 43 dX2_init_65 (by decide) ?_
        refine z_n (2 + (i + 1)) (100 + 5 * (i + 1)) (by omega) (by omega) ?_
        refine ihk (i + 1) _ (by omega) (by rw [List.length_set, List.length_append, hl, hl1]; omega) ⟨a1, a2, xt, va_up cm i (some q), zl_s (zl_l h0w) (by decide), zl_s (zl_l h1w) (by decide), List.getElem?_set_self (by rw [List.length_append, hl, hl1]; omega), fun j hj => ?_⟩
        rcases Nat.lt_or_ge j i with g1 | g1
        · obtain ⟨b5, u1, u2⟩ := hjw j g1
          exact ⟨b5, by rw [va_up, if_neg (show ¬ j = i by omega)]; exact u1, (u2.l).s (by omega)⟩
        · obtain rfl : j = i := by omega
          exact ⟨q, by rw [va_up, if_pos rfl], by rw [show 0 + 3 + j = 3 + j by omega]; exact ht2.s (by omega)⟩
  refine z_aload_n X dX2_init_0 0 rfl ?_
  refine z_objInit X (by decide +kernel : Cond.methodLink RX2 3 Lib.objectInit ∈ wsX2_init) (by decide +kernel : Cond.instanceMethod Lib.objectInit ∈ wsX2_init) (List.mem_of_getElem? (i := 3) rfl) dX2_init_1 (Nat.le_of_ble_eq_true rfl) (Nat.le_of_ble_eq_true rfl) ?_
  refine z_aload_n X dX2_init_4 0 rfl ?_
  refine z_bipush X (v := 80) dX2_init_5 (by decide) ?_
  refine z_newC X (n := 80) (by decide +kernel : Cond.arrayClass .char ∈ wsX2_init) dX2_init_7 rfl (by decide) (Nat.le_of_ble_eq_true rfl) (Nat.le_of_ble_eq_true rfl) (fun q1 => ?_)
  refine z_w ([(h0, .inr (2, [.null, .int 0, .null, .int 0, .int 0, .int 0])), (q1, .inl (I 0, 80, .inl (fun _ => 0)))]) rfl ?_
  refine z_putF X hin2 0 2 0 (Cn := RX2) (T := TX2) (N := 6) (index := 9) tyX2 (v := .ref q1) dX2_init_9 rfl rfl (by decide) inX2 (by decide +kernel : Cond.fieldLink RX2 9 RX2 "text" "[C" ∈ wsX2_init) rfl tyX2_ok nmX2 rfl rfl rfl (Nat.le_of_ble_eq_true rfl) ?_
  refine z_w ([(h0, .inr (2, [.ref q1, .int 0, .null, .int 0, .int 0, .int 0])), (q1, .inl (I 0, 80, .inl (fun _ => 0)))]) rfl ?_
  refine z_aload_n X dX2_init_12 0 rfl ?_
  refine z_iconst X (v := 0) dX2_init_13 (by decide) ?_
  refine z_put X 0 2 1 (Cn := RX2) (T := TX2) (N := 6) (index := 15) tyX2 (v := .int 0) dX2_init_14 rfl rfl (by decide) inX2 (by decide +kernel : Cond.fieldLink RX2 15 RX2 "length" "I" ∈ wsX2_init) rfl tyX2_ok nmX2 rfl rfl rfl (Nat.le_of_ble_eq_true rfl) ?_
  refine z_w ([(h0, .inr (2, [.ref q1, .int 0, .null, .int 0, .int 0, .int 0])), (q1, .inl (I 0, 80, .inl (fun _ => 0)))]) rfl ?_
  refine z_aload_n X dX2_init_17 0 rfl ?_
  refine z_bipush X (v := 20) dX2_init_18 (by decide) ?_
  refine z_newq X 2 (Cn := RX0) (n := 20) rfl X.2.2.1.2.1 (by decide +kernel : Cond.classLink RX2 19 RX0 ∈ wsX2_init) dX2_init_20 rfl (by decide) (Nat.le_of_ble_eq_true rfl) (Nat.le_of_ble_eq_true rfl) (fun q2 => ?_)
  refine z_w ([(h0, .inr (2, [.ref q1, .int 0, .null, .int 0, .int 0, .int 0])), (q1, .inl (I 0, 80, .inl (fun _ => 0))), (q2, .inl (I 2, 20, .inr (.inr (.inr (.inr (fun _ => none))))))]) rfl ?_
  refine z_putF X hin2 0 2 2 (Cn := RX2) (T := TX2) (N := 6) (index := 21) tyX2 (v := .ref q2) dX2_init_23 rfl rfl (by decide) inX2 (by decide +kernel : Cond.fieldLink RX2 21 RX2 "commands" "[LColumnSeasons$Command;" ∈ wsX2_init) rfl tyX2_ok nmX2 rfl rfl rfl (Nat.le_of_ble_eq_true rfl) ?_
  refine z_w ([(h0, .inr (2, [.ref q1, .int 0, .ref q2, .int 0, .int 0, .int 0])), (q1, .inl (I 0, 80, .inl (fun _ => 0))), (q2, .inl (I 2, 20, .inr (.inr (.inr (.inr (fun _ => none))))))]) rfl ?_
  refine z_aload_n X dX2_init_26 0 rfl ?_
  refine z_iconst X (v := 0) dX2_init_27 (by decide) ?_
  refine z_put X 0 2 3 (Cn := RX2) (T := TX2) (N := 6) (index := 25) tyX2 (v := .int 0) dX2_init_28 rfl rfl (by decide) inX2 (by decide +kernel : Cond.fieldLink RX2 25 RX2 "commandCount" "I" ∈ wsX2_init) rfl tyX2_ok nmX2 rfl rfl rfl (Nat.le_of_ble_eq_true rfl) ?_
  refine z_w ([(h0, .inr (2, [.ref q1, .int 0, .ref q2, .int 0, .int 0, .int 0])), (q1, .inl (I 0, 80, .inl (fun _ => 0))), (q2, .inl (I 2, 20, .inr (.inr (.inr (.inr (fun _ => none))))))]) rfl ?_
  refine z_aload_n X dX2_init_31 0 rfl ?_
  refine z_iconst X (v := 0) dX2_init_32 (by decide) ?_
  refine z_put X 0 2 4 (Cn := RX2) (T := TX2) (N := 6) (index := 28) tyX2 (v := .int 0) dX2_init_33 rfl rfl (by decide) inX2 (by decide +kernel : Cond.fieldLink RX2 28 RX2 "place" "I" ∈ wsX2_init) rfl tyX2_ok nmX2 rfl rfl rfl (Nat.le_of_ble_eq_true rfl) ?_
  refine z_w ([(h0, .inr (2, [.ref q1, .int 0, .ref q2, .int 0, .int 0, .int 0])), (q1, .inl (I 0, 80, .inl (fun _ => 0))), (q2, .inl (I 2, 20, .inr (.inr (.inr (.inr (fun _ => none))))))]) rfl ?_
  refine z_aload_n X dX2_init_36 0 rfl ?_
  refine z_iconst X (v := 0) dX2_init_37 (by decide) ?_
  refine z_put X 0 2 5 (Cn := RX2) (T := TX2) (N := 6) (index := 31) tyX2 (v := .int 0) dX2_init_38 rfl rfl (by decide) inX2 (by decide +kernel : Cond.fieldLink RX2 31 RX2 "number" "I" ∈ wsX2_init) rfl tyX2_ok nmX2 rfl rfl rfl (Nat.le_of_ble_eq_true rfl) ?_
  refine z_w ([(h0, .inr (2, [.ref q1, .int 0, .ref q2, .int 0, .int 0, .int 0])), (q1, .inl (I 0, 80, .inl (fun _ => 0))), (q2, .inl (I 2, 20, .inr (.inr (.inr (.inr (fun _ => none))))))]) rfl ?_
  refine z_iconst X (v := 0) dX2_init_41 (by decide) ?_
  refine z_istore_n X [(1, .int 0), (0, .ref h0)] dX2_init_42 rfl (by decide) rfl ?_
  refine z_n (2 + 0) (100 + 5 * 0) (Nat.le_of_ble_eq_true rfl) (Nat.le_of_ble_eq_true rfl) ?_
  exact hgo 20 0 _ rfl rfl ⟨q1, q2, (fun _ => 0), (fun _ => none), rfl, rfl, rfl, fun j hj => absurd hj (Nat.not_lt_zero _)⟩
set_option maxRecDepth 100000 in
set_option maxHeartbeats 4000000 in
theorem zX4_init {D : va_G} {I : Nat → ClassId} {l : Launch} {h0 : Nat} : zM D I l yX4_init wsX4_init 3 64 60 5128 [.ref h0] [(h0, .inr (4, [.null, .null, .null, .int 0, .null, .int 0, .int 0]))] (fun w => w.length = 61 ∧ zSys I w 0 h0) := by
  refine zM_ofY (cc := cX4_init) (maxL := 1) (ret := none) (by decide) rfl (Nat.le_of_ble_eq_true rfl) ?_
  intro p e s m args below meth c A hA X hr hnm
  clear hA
  have hin2 : meth.name = "<init>" := hnm
  clear hnm
  have inX1 : ∀ w ∈ wsX10, w ∈ wsX4_init := by decide +kernel
  have inX2 : ∀ w ∈ wsX20, w ∈ wsX4_init := by decide +kernel
  have inX3 : ∀ w ∈ wsX30, w ∈ wsX4_init := by decide +kernel
  have inX4 : ∀ w ∈ wsX40, w ∈ wsX4_init := by decide +kernel
  refine z_lv [(0, .ref h0)] rfl ?_
  refine z_aload_n X dX4_init_0 0 rfl ?_
  refine z_objInit X (by decide +kernel : Cond.methodLink RX4 1 Lib.objectInit ∈ wsX4_init) (by decide +kernel : Cond.instanceMethod Lib.objectInit ∈ wsX4_init) (List.mem_of_getElem? (i := 3) rfl) dX4_init_1 (Nat.le_of_ble_eq_true rfl) (Nat.le_of_ble_eq_true rfl) ?_
  refine z_aload_n X dX4_init_4 0 rfl ?_
  refine z_new X 3 (Cn := RX3) (T := TX3) (N := 6) [.int 0, .null, .null, .int 0, .null, .null] tyX3 dX4_init_5 rfl inX3 tyX3_ok (by decide +kernel : Cond.classLink RX4 7 RX3 ∈ wsX4_init) (by decide +kernel : Cond.instantiable RX3 6 ∈ wsX4_init) (by decide +kernel : Cond.initialized RX3 ∈ wsX4_init) (fun j hj => by rcases (show j = 0 ∨ j = 1 ∨ j = 2 ∨ j = 3 ∨ j = 4 ∨ j = 5 by omega) with rfl | rfl | rfl | rfl | rfl | rfl <;> rfl) (Nat.le_of_ble_eq_true rfl) (Nat.le_of_ble_eq_true rfl) (fun q1 => ?_)
  refine z_dup X dX4_init_8 rfl ?_
  refine z_callI X ([(h0, .inr (4, [.null, .null, .null, .int 0, .null, .int 0, .int 0]))]) [(q1, .inr (3, [.int 0, .null, .null, .int 0, .null, .null]))] zX3_init gX4_init_X3_init rfl rfl (by decide +kernel : Cond.initialized RX3 ∈ wsX4_init) (by decide +kernel : Cond.methodLink RX4 9 yX3_init ∈ wsX4_init) (by decide +kernel : Cond.instanceMethod yX3_init ∈ wsX4_init) ⟨by decide, by decide, by decide +kernel⟩ ⟨Nat.le_of_ble_eq_true rfl, Nat.le_of_ble_eq_true rfl⟩ (Nat.le_of_ble_eq_true rfl) dX4_init_9 ⟨Nat.le_of_ble_eq_true rfl, Nat.le_of_ble_eq_true rfl⟩ rfl (fun w1 hw1 => ?_)
  refine z_putF X hin2 0 4 0 (Cn := RX4) (T := TX4) (N := 7) (index := 10) tyX4 (v := .ref q1) dX4_init_12 rfl rfl (by decide) inX4 (by decide +kernel : Cond.fieldLink RX4 10 RX4 "table" "LColumnSeasons$Table;" ∈ wsX4_init) rfl tyX4_ok nmX4 rfl rfl rfl (Nat.le_of_ble_eq_true rfl) ?_
  refine z_w (([(h0, .inr (4, [.ref q1, .null, .null, .int 0, .null, .int 0, .int 0]))] ++ w1)) rfl ?_
  refine z_aload_n X dX4_init_15 0 rfl ?_
  refine z_new X 1 (Cn := RX1) (T := TX1) (N := 3) [.null, .int 0, .int 0] tyX1 dX4_init_16 rfl inX1 tyX1_ok (by decide +kernel : Cond.classLink RX4 16 RX1 ∈ wsX4_init) (by decide +kernel : Cond.instantiable RX1 3 ∈ wsX4_init) (by decide +kernel : Cond.initialized RX1 ∈ wsX4_init) (fun j hj => by rcases (show j = 0 ∨ j = 1 ∨ j = 2 by omega) with rfl | rfl | rfl <;> rfl) (Nat.le_of_ble_eq_true rfl) (Nat.le_of_ble_eq_true rfl) (fun q2 => ?_)
  refine z_dup X dX4_init_19 rfl ?_
  refine z_callI X (([(h0, .inr (4, [.ref q1, .null, .null, .int 0, .null, .int 0, .int 0]))] ++ w1)) [(q2, .inr (1, [.null, .int 0, .int 0]))] zX1_init gX4_init_X1_init rfl rfl (by decide +kernel : Cond.initialized RX1 ∈ wsX4_init) (by decide +kernel : Cond.methodLink RX4 18 yX1_init ∈ wsX4_init) (by decide +kernel : Cond.instanceMethod yX1_init ∈ wsX4_init) ⟨by decide, by decide, by decide +kernel⟩ ⟨Nat.le_of_ble_eq_true rfl, Nat.le_of_ble_eq_true rfl⟩ (Nat.le_of_ble_eq_true rfl) dX4_init_20 ⟨Nat.le_of_ble_eq_true rfl, Nat.le_of_ble_eq_true rfl⟩ rfl (fun w2 hw2 => ?_)
  refine z_putF X hin2 0 4 1 (Cn := RX4) (T := TX4) (N := 7) (index := 19) tyX4 (v := .ref q2) dX4_init_23 rfl rfl (by decide) inX4 (by decide +kernel : Cond.fieldLink RX4 19 RX4 "history" "LColumnSeasons$History;" ∈ wsX4_init) rfl tyX4_ok nmX4 rfl rfl rfl (Nat.le_of_ble_eq_true rfl) ?_
  refine z_w ((([(h0, .inr (4, [.ref q1, .ref q2, .null, .int 0, .null, .int 0, .int 0]))] ++ w1) ++ w2)) rfl ?_
  refine z_aload_n X dX4_init_26 0 rfl ?_
  refine z_new X 3 (Cn := RX3) (T := TX3) (N := 6) [.int 0, .null, .null, .int 0, .null, .null] tyX3 dX4_init_27 rfl inX3 tyX3_ok (by decide +kernel : Cond.classLink RX4 7 RX3 ∈ wsX4_init) (by decide +kernel : Cond.instantiable RX3 6 ∈ wsX4_init) (by decide +kernel : Cond.initialized RX3 ∈ wsX4_init) (fun j hj => by rcases (show j = 0 ∨ j = 1 ∨ j = 2 ∨ j = 3 ∨ j = 4 ∨ j = 5 by omega) with rfl | rfl | rfl | rfl | rfl | rfl <;> rfl) (Nat.le_of_ble_eq_true rfl) (Nat.le_of_ble_eq_true rfl) (fun q3 => ?_)
  refine z_dup X dX4_init_30 rfl ?_
  refine z_callI X ((([(h0, .inr (4, [.ref q1, .ref q2, .null, .int 0, .null, .int 0, .int 0]))] ++ w1) ++ w2)) [(q3, .inr (3, [.int 0, .null, .null, .int 0, .null, .null]))] zX3_init gX4_init_X3_init rfl rfl (by decide +kernel : Cond.initialized RX3 ∈ wsX4_init) (by decide +kernel : Cond.methodLink RX4 9 yX3_init ∈ wsX4_init) (by decide +kernel : Cond.instanceMethod yX3_init ∈ wsX4_init) ⟨by decide, by decide, by decide +kernel⟩ ⟨Nat.le_of_ble_eq_true rfl, Nat.le_of_ble_eq_true rfl⟩ (Nat.le_of_ble_eq_true rfl) dX4_init_31 ⟨Nat.le_of_ble_eq_true rfl, Nat.le_of_ble_eq_true rfl⟩ rfl (fun w3 hw3 => ?_)
  refine z_putF X hin2 0 4 2 (Cn := RX4) (T := TX4) (N := 7) (index := 23) tyX4 (v := .ref q3) dX4_init_34 rfl rfl (by decide) inX4 (by decide +kernel : Cond.fieldLink RX4 23 RX4 "snapshot" "LColumnSeasons$Table;" ∈ wsX4_init) rfl tyX4_ok nmX4 rfl rfl rfl (Nat.le_of_ble_eq_true rfl) ?_
  refine z_w (((([(h0, .inr (4, [.ref q1, .ref q2, .ref q3, .int 0, .null, .int 0, .int 0]))] ++ w1) ++ w2) ++ w3)) rfl ?_
  refine z_aload_n X dX4_init_37 0 rfl ?_
  refine z_iconst X (v := 0) dX4_init_38 (by decide) ?_
  refine z_put X 0 4 3 (Cn := RX4) (T := TX4) (N := 7) (index := 26) tyX4 (v := .int 0) dX4_init_39 rfl rfl (by decide) inX4 (by decide +kernel : Cond.fieldLink RX4 26 RX4 "hasSnapshot" "Z" ∈ wsX4_init) rfl tyX4_ok nmX4 rfl rfl rfl (Nat.le_of_ble_eq_true rfl) ?_
  refine z_w (((([(h0, .inr (4, [.ref q1, .ref q2, .ref q3, .int 0, .null, .int 0, .int 0]))] ++ w1) ++ w2) ++ w3)) rfl ?_
  refine z_aload_n X dX4_init_42 0 rfl ?_
  refine z_new X 2 (Cn := RX2) (T := TX2) (N := 6) [.null, .int 0, .null, .int 0, .int 0, .int 0] tyX2 dX4_init_43 rfl inX2 tyX2_ok (by decide +kernel : Cond.classLink RX4 30 RX2 ∈ wsX4_init) (by decide +kernel : Cond.instantiable RX2 6 ∈ wsX4_init) (by decide +kernel : Cond.initialized RX2 ∈ wsX4_init) (fun j hj => by rcases (show j = 0 ∨ j = 1 ∨ j = 2 ∨ j = 3 ∨ j = 4 ∨ j = 5 by omega) with rfl | rfl | rfl | rfl | rfl | rfl <;> rfl) (Nat.le_of_ble_eq_true rfl) (Nat.le_of_ble_eq_true rfl) (fun q4 => ?_)
  refine z_dup X dX4_init_46 rfl ?_
  refine z_callI X (((([(h0, .inr (4, [.ref q1, .ref q2, .ref q3, .int 0, .null, .int 0, .int 0]))] ++ w1) ++ w2) ++ w3)) [(q4, .inr (2, [.null, .int 0, .null, .int 0, .int 0, .int 0]))] zX2_init gX4_init_X2_init rfl rfl (by decide +kernel : Cond.initialized RX2 ∈ wsX4_init) (by decide +kernel : Cond.methodLink RX4 32 yX2_init ∈ wsX4_init) (by decide +kernel : Cond.instanceMethod yX2_init ∈ wsX4_init) ⟨by decide, by decide, by decide +kernel⟩ ⟨Nat.le_of_ble_eq_true rfl, Nat.le_of_ble_eq_true rfl⟩ (Nat.le_of_ble_eq_true rfl) dX4_init_47 ⟨Nat.le_of_ble_eq_true rfl, Nat.le_of_ble_eq_true rfl⟩ rfl (fun w4 hw4 => ?_)
  refine z_putF X hin2 0 4 4 (Cn := RX4) (T := TX4) (N := 7) (index := 33) tyX4 (v := .ref q4) dX4_init_50 rfl rfl (by decide) inX4 (by decide +kernel : Cond.fieldLink RX4 33 RX4 "script" "LColumnSeasons$Script;" ∈ wsX4_init) rfl tyX4_ok nmX4 rfl rfl rfl (Nat.le_of_ble_eq_true rfl) ?_
  refine z_w ((((([(h0, .inr (4, [.ref q1, .ref q2, .ref q3, .int 0, .ref q4, .int 0, .int 0]))] ++ w1) ++ w2) ++ w3) ++ w4)) rfl ?_
  refine z_aload_n X dX4_init_53 0 rfl ?_
  refine z_iconst X (v := (-1)) dX4_init_54 (by decide) ?_
  refine z_put X 0 4 5 (Cn := RX4) (T := TX4) (N := 7) (index := 37) tyX4 (v := .int (-1)) dX4_init_55 rfl rfl (by decide) inX4 (by decide +kernel : Cond.fieldLink RX4 37 RX4 "stoppedCommand" "I" ∈ wsX4_init) rfl tyX4_ok nmX4 rfl rfl rfl (Nat.le_of_ble_eq_true rfl) ?_
  refine z_w ((((([(h0, .inr (4, [.ref q1, .ref q2, .ref q3, .int 0, .ref q4, .int (-1), .int 0]))] ++ w1) ++ w2) ++ w3) ++ w4)) rfl ?_
  refine z_aload_n X dX4_init_58 0 rfl ?_
  refine z_iconst X (v := (-1)) dX4_init_59 (by decide) ?_
  refine z_put X 0 4 6 (Cn := RX4) (T := TX4) (N := 7) (index := 41) tyX4 (v := .int (-1)) dX4_init_60 rfl rfl (by decide) inX4 (by decide +kernel : Cond.fieldLink RX4 41 RX4 "stoppedError" "I" ∈ wsX4_init) rfl tyX4_ok nmX4 rfl rfl rfl (Nat.le_of_ble_eq_true rfl) ?_
  refine z_w ((((([(h0, .inr (4, [.ref q1, .ref q2, .ref q3, .int 0, .ref q4, .int (-1), .int (-1)]))] ++ w1) ++ w2) ++ w3) ++ w4)) rfl ?_
  refine z_n 60 5128 (Nat.le_of_ble_eq_true rfl) (Nat.le_of_ble_eq_true rfl) ?_
  obtain ⟨hl1, ht1⟩ := hw1
  obtain ⟨hl2, ht2⟩ := hw2
  obtain ⟨hl3, ht3⟩ := hw3
  obtain ⟨hl4, ht4⟩ := hw4
  have e1 : ([(h0, .inr (4, [.ref q1, .ref q2, .ref q3, .int 0, .ref q4, .int (-1), .int (-1)]))] ++ w1 : va_W).length = 6 := by rw [List.length_append, hl1]; rfl
  have e2 : (([(h0, .inr (4, [.ref q1, .ref q2, .ref q3, .int 0, .ref q4, .int (-1), .int (-1)]))] ++ w1) ++ w2 : va_W).length = 33 := by rw [List.length_append, e1, hl2]
  have e3 : ((([(h0, .inr (4, [.ref q1, .ref q2, .ref q3, .int 0, .ref q4, .int (-1), .int (-1)]))] ++ w1) ++ w2) ++ w3 : va_W).length = 38 := by rw [List.length_append, e2, hl3]
  exact z_vret X hr dX4_init_63 ⟨by rw [List.length_append, e3, hl4], q1, q2, q3, q4, zl_l (zl_l (zl_l (zl_l rfl))), (((ht1.r (n := 1) rfl (by omega)).l).l).l, ((ht2.r e1 (by omega)).l).l, (ht3.r e2 (by omega)).l, ht4.r e3 (by omega)⟩
