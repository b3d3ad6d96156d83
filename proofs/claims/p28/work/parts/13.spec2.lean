theorem xin3 {k : Int32} (h : xin k 3) : k = 0 ∨ k = 1 ∨ k = 2 := by
  obtain ⟨j, hj, rfl⟩ := xin_of h (by decide)
  rcases (show j = 0 ∨ j = 1 ∨ j = 2 by omega) with rfl | rfl | rfl
  · exact Or.inl rfl
  · exact Or.inr (Or.inl rfl)
  · exact Or.inr (Or.inr rfl)
theorem dn_toInt {r : Nat} (h : r < 2 ^ 31) : (nI r - 1).toInt = (r : Int) - 1 := by
  cases r with
  | zero => decide
  | succ k =>
    rw [nI_pred, nI_toInt (by omega)]
    omega
/-- numbers in the widest range -/
abbrev rng (v : Int32) : Prop := -9999 ≤ v.toInt ∧ v.toInt ≤ 9999
theorem okv_rng {v k : Int32} (hk : xin k 3) (h : okv v k) : rng v := by
  rcases xin3 hk with rfl | rfl | rfl
  · have h1 : (0 : Int) ≤ v.toInt := h.1
    have h2 : v.toInt ≤ 1 := h.2
    exact ⟨by omega, by omega⟩
  · have h1 : (0 : Int) ≤ v.toInt := h.1
    have h2 : v.toInt ≤ 9 := h.2
    exact ⟨by omega, by omega⟩
  · have h1 : (-9999 : Int) ≤ v.toInt := h.1
    have h2 : v.toInt ≤ 9999 := h.2
    exact ⟨h1, h2⟩
theorem i32lt {x y : Int32} : x < y ↔ x.toInt < y.toInt := Int32.lt_iff_toInt_lt
theorem cst_eq {v k : Int32} (hk : xin k 3) (hv : rng v) : cst v k = cstC k v := by
  have e9 : (9 : Int32).toInt = 9 := by decide
  have e0 : (0 : Int32).toInt = 0 := by decide
  have e99 : (9999 : Int32).toInt = 9999 := by decide
  have en : (-9999 : Int32).toInt = -9999 := by decide
  rcases xin3 hk with rfl | rfl | rfl
  · rfl
  · show (if v < 0 then (0 : Int32) else if 9 < v then 9 else v) = if (0 : Int32) < (if v < 9 then v else 9) then (if v < 9 then v else 9) else 0
    by_cases h3 : v < 9
    · rw [if_pos h3]
      by_cases h4 : (0 : Int32) < v
      · rw [if_pos h4, if_neg (show ¬ v < 0 by rw [i32lt] at h4 ⊢; omega), if_neg (show ¬ 9 < v by rw [i32lt] at h3 ⊢; omega)]
      · rw [if_neg h4]
        by_cases h1 : v < 0
        · rw [if_pos h1]
        · rw [if_neg h1, if_neg (show ¬ 9 < v by rw [i32lt] at h3 ⊢; omega), ← Int32.toInt_inj]
          rw [i32lt] at h1 h4
          omega
    · rw [if_neg h3, if_pos (show (0 : Int32) < 9 by decide), if_neg (show ¬ v < 0 by rw [i32lt] at h3 ⊢; omega)]
      by_cases h2 : 9 < v
      · rw [if_pos h2]
      · rw [if_neg h2, ← Int32.toInt_inj]
        rw [i32lt] at h2 h3
        omega
  · show v = if (-9999 : Int32) < (if v < 9999 then v else 9999) then (if v < 9999 then v else 9999) else -9999
    obtain ⟨r1, r2⟩ := hv
    by_cases h3 : v < 9999
    · rw [if_pos h3]
      by_cases h4 : -9999 < v
      · rw [if_pos h4]
      · rw [if_neg h4, ← Int32.toInt_inj]
        rw [i32lt] at h4
        omega
    · rw [if_neg h3, if_pos (by decide), ← Int32.toInt_inj]
      rw [i32lt] at h3
      omega
theorem cst_ok {v k : Int32} (hk : xin k 3) (hv : rng v) : okv (cstC k v) k := by
  rw [← cst_eq hk hv]
  have e9 : (9 : Int32).toInt = 9 := by decide
  have e0 : (0 : Int32).toInt = 0 := by decide
  rcases xin3 hk with rfl | rfl | rfl
  · show (0 : Int32).toInt ≤ (if v = 0 then (0 : Int32) else 1).toInt ∧ (if v = 0 then (0 : Int32) else 1).toInt ≤ (1 : Int32).toInt
    by_cases h : v = 0
    · rw [if_pos h]; decide
    · rw [if_neg h]; decide
  · show (0 : Int32).toInt ≤ (if v < 0 then (0 : Int32) else if 9 < v then 9 else v).toInt ∧ (if v < 0 then (0 : Int32) else if 9 < v then 9 else v).toInt ≤ (9 : Int32).toInt
    by_cases h1 : v < 0
    · rw [if_pos h1]; decide
    · rw [if_neg h1]
      by_cases h2 : 9 < v
      · rw [if_pos h2]; decide
      · rw [if_neg h2]
        rw [i32lt] at h1 h2
        omega
  · show (-9999 : Int32).toInt ≤ v.toInt ∧ v.toInt ≤ (9999 : Int32).toInt
    exact hv
/-- a value of its own kind is cast to itself -/
theorem cst_id {v k : Int32} (hk : xin k 3) (h : okv v k) : cstC k v = v := by
  rw [← cst_eq hk (okv_rng hk h)]
  have e9 : (9 : Int32).toInt = 9 := by decide
  have e0 : (0 : Int32).toInt = 0 := by decide
  have e1 : (1 : Int32).toInt = 1 := by decide
  rcases xin3 hk with rfl | rfl | rfl
  · show (if v = 0 then (0 : Int32) else 1) = v
    have h1 : (0 : Int) ≤ v.toInt := h.1
    have h2 : v.toInt ≤ 1 := h.2
    by_cases hz : v = 0
    · rw [if_pos hz, hz]
    · rw [if_neg hz, ← Int32.toInt_inj]
      rw [← Int32.toInt_inj] at hz
      omega
  · show (if v < 0 then (0 : Int32) else if 9 < v then 9 else v) = v
    have h1 : (0 : Int) ≤ v.toInt := h.1
    have h2 : v.toInt ≤ 9 := h.2
    rw [if_neg (by rw [i32lt]; omega), if_neg (by rw [i32lt]; omega)]
  · rfl
theorem WF_B {T : Tb} (h : WF T) : WB T := h.1
theorem WF_k {T : Tb} (h : WF T) {q j : Nat} (hq : q < tn T) (hj : j < 8) : tk T q j = -1 ∨ xin (tk T q j) 3 := by
  rcases h.2.1 q j hq hj with e | e
  · exact Or.inl e
  · exact Or.inr e.1
theorem kge {x : Int32} (h : x = -1 ∨ xin x 3) : (0 : Int) ≤ x.toInt ↔ ¬ x = -1 := by
  rcases h with e | e
  · subst e
    exact ⟨fun z => absurd z (by decide), fun z => absurd rfl z⟩
  · exact ⟨fun _ z => by subst z; exact absurd e.1 (by decide), fun _ => e.1⟩
theorem klt {x : Int32} (h : x = -1 ∨ xin x 3) : x.toInt < (0 : Int) ↔ x = -1 := by
  have := kge h
  constructor
  · intro z
    exact Decidable.by_contra fun w => absurd (this.mpr w) (by omega)
  · intro z
    exact Decidable.by_contra fun w => absurd z (this.mp (by omega))
theorem i1s (x : Int32) : x + 1 - 1 = x := Int32.add_sub_cancel x 1
/-- sets of names are below 256 -/
def m8 (x : Int32) : Prop := x &&& 255 = x
theorem m8_hb {x : Int32} : m8 x ↔ ∀ i : Nat, 8 ≤ i → hb x i = false := by
  unfold m8
  have e255 : ∀ i : Nat, hb 255 i = decide (i < 8) := by
    intro i
    rcases Nat.lt_or_ge i 32 with q1 | q1
    · exact (show ∀ i : Nat, i < 32 → hb 255 i = decide (i < 8) by decide +kernel) i q1
    · unfold hb
      rw [BitVec.getLsbD_of_ge _ _ q1]
      exact (decide_eq_false (by omega)).symm
  constructor
  · intro h i hi
    rw [← h, hb_and, e255 i, decide_eq_false (by omega), Bool.and_false]
  · intro h
    rw [← Int32.toBitVec_inj]
    apply BitVec.eq_of_getLsbD_eq
    intro i _
    show hb (x &&& 255) i = hb x i
    rw [hb_and, e255]
    by_cases hi : i < 8
    · rw [decide_eq_true hi, Bool.and_true]
    · rw [h i (by omega), Bool.false_and]
theorem m8_and {x y : Int32} (h : m8 x) : m8 (x &&& y) := m8_hb.mpr fun i hi => by rw [hb_and, m8_hb.mp h i hi, Bool.false_and]
theorem m8_and' {x y : Int32} (h : m8 y) : m8 (x &&& y) := m8_hb.mpr fun i hi => by rw [hb_and, m8_hb.mp h i hi, Bool.and_false]
theorem m8_or {x y : Int32} (h : m8 x) (h2 : m8 y) : m8 (x ||| y) := m8_hb.mpr fun i hi => by rw [hb_or, m8_hb.mp h i hi, m8_hb.mp h2 i hi, Bool.or_false]
theorem m8_0 : m8 0 := by
  unfold m8
  decide
theorem m8_bitN : ∀ j : Nat, j < 8 → m8 (bitN j) := by
  intro j hj
  exact (show ∀ j : Nat, j < 8 → bitN j &&& 255 = bitN j by decide +kernel) j hj
theorem m8_orf {f : Nat → Int32} : ∀ n : Nat, (∀ i : Nat, i < n → m8 (f i)) → m8 (orf f n) := by
  intro n
  induction n with
  | zero => intro _; exact m8_0
  | succ n ih => intro h; exact m8_or (ih fun i hi => h i (by omega)) (h n (by omega))
theorem m8_nmS {T : Tb} {q : Nat} : m8 (nmS T q) := m8_orf 8 fun i hi => by
  by_cases e : tk T q i = -1
  · rw [if_pos e]; exact m8_0
  · rw [if_neg e]; exact m8_bitN i hi
theorem m8_shr {T : Tb} {a : Nat} : ∀ k : Nat, m8 (shr T a k)
  | 0 => m8_nmS
  | _ + 1 => m8_and (m8_shr _)
theorem m8_shN {T : Tb} {a b : Nat} : m8 (shN T a b) := by
  unfold shN
  by_cases e : b < a
  · rw [if_pos e]; exact m8_0
  · rw [if_neg e]; exact m8_shr _
theorem m8_255 {x : Int32} (h : m8 x) : 255 &&& x = x := by
  rw [Int32.and_comm]
  exact h
theorem m8_nI {x : Int32} (h : m8 x) : ∃ w : Nat, w < 256 ∧ x = nI w := by
  obtain ⟨w, hw, e⟩ := pk_andE x (m := 255) 8 (by decide)
  exact ⟨w, hw, h.symm.trans e⟩
/-- Kernighan's step -/
theorem onesStep : ∀ w : Nat, w < 256 → 0 < w → nI w &&& (nI w - 1) = nI (w &&& (w - 1)) ∧ bcn (nI w) = bcn (nI (w &&& (w - 1))) + 1 := by decide +kernel
theorem onesLess {w : Nat} (h : 0 < w) : w &&& (w - 1) < w := Nat.lt_of_le_of_lt Nat.and_le_right (by omega)
theorem bcn0 : bcn (nI 0) = 0 := by decide
/-- a bit of a set, as the reference asks for it -/
theorem bit1 : ∀ j : Nat, j < 8 → ∀ w : Nat, w < 256 → (((nI w) >>> (nI j &&& 31)) &&& 1 = 1 ↔ hb (nI w) j = true) := by decide +kernel
theorem bit1z : ∀ j : Nat, j < 8 → ∀ w : Nat, w < 256 → (((nI w) >>> (nI j &&& 31)) &&& 1 = 0 ↔ hb (nI w) j = false) := by decide +kernel
theorem bitOne {x : Int32} {j : Nat} (h : m8 x) (hj : j < 8) : (x >>> (nI j &&& 31)) &&& 1 = 1 ↔ ¬ (x &&& bitN j) = 0 := by
  obtain ⟨w, hw, rfl⟩ := m8_nI h
  rw [has_iff' hj]
  exact bit1 j hj w hw
theorem bitZero {x : Int32} {j : Nat} (h : m8 x) (hj : j < 8) : (x >>> (nI j &&& 31)) &&& 1 = 0 ↔ (x &&& bitN j) = 0 := by
  obtain ⟨w, hw, rfl⟩ := m8_nI h
  rw [has_iff hj]
  exact bit1z j hj w hw
theorem kltI {x : Int32} (h : x = -1 ∨ xin x 3) : x < 0 ↔ x = -1 := (cLt rfl (by decide)).trans (klt h)
theorem kgeI {x : Int32} (h : x = -1 ∨ xin x 3) : 0 ≤ x ↔ ¬ x = -1 := (cLe (by decide) rfl).trans (kge h)
theorem orf_add {f : Nat → Int32} {n : Nat} {v : Int32} (h : f n = v) : orf f n ||| v = orf f (n + 1) := by rw [orf, h]
theorem clos_iff {T : Tb} {q i j : Nat} (hv : WF T) (hq : q < tn T) (hi : i < tr T) (hj : j < 8) (h1 : ¬ tk T (ts T i) j = -1) (h2 : ¬ tk T q j = -1) : (¬ cst (cst (tv T i j) (tk T q j)) (tk T (ts T i) j) = tv T i j) ↔ clos T q i j := by
  have hs := hv.1.2.2.2 i hi
  have k1 := (WF_k hv hs hj).resolve_left h1
  have k2 := (WF_k hv hq hj).resolve_left h2
  have o1 := (hv.2.2 i j hi hj).resolve_left h1
  rw [cst_eq k2 (okv_rng k1 o1), cst_eq k1 (okv_rng k2 (cst_ok k2 (okv_rng k1 o1)))]
theorem rd_eq {T : Tb} {q i j : Nat} (hv : WF T) (hq : q < tn T) (hi : i < tr T) (hj : j < 8) (h1 : ¬ tk T (ts T i) j = -1) (h2 : ¬ tk T q j = -1) : cst (tv T i j) (tk T q j) = cstC (tk T q j) (tv T i j) := by
  have hs := hv.1.2.2.2 i hi
  have k1 := (WF_k hv hs hj).resolve_left h1
  have k2 := (WF_k hv hq hj).resolve_left h2
  have o1 := (hv.2.2 i j hi hj).resolve_left h1
  exact cst_eq k2 (okv_rng k1 o1)
/-- the names that n rows from a on share, from all names downwards -/
def cmF (T : Tb) (a : Nat) : Nat → Int32
  | 0 => 255
  | k + 1 => cmF T a k &&& nmS T (ts T (a + k))
theorem cmF_shr {T : Tb} {a : Nat} : ∀ k : Nat, cmF T a (k + 1) = shr T a k := by
  intro k
  induction k with
  | zero =>
    rw [cmF, cmF, shr]
    exact m8_255 m8_nmS
  | succ k ih => rw [cmF, ih, shr]
theorem cmF_shN {T : Tb} {a b : Nat} (h : ¬ b < a) : cmF T a (b + 1 - a) = shN T a b := by
  rw [shN, if_neg h, show b + 1 - a = (b - a) + 1 by omega]
  exact cmF_shr _
abbrev dfJ (T : Tb) (a b j : Nat) : Prop := ¬ (shN T a b &&& bitN j) = 0 ∧ ¬ tk T (tn T - 1) j = -1
def dfC (T : Tb) (a j : Nat) : Nat → Int32 := sm (fun k => if tv T (a + k) j = td T (tn T - 1) j then 1 else 0)
def dfM (T : Tb) (a b : Nat) : Nat → Int32 := sm (fun j => if dfJ T a b j then dfC T a j (b + 1 - a) else 0)
theorem sm_0 {n : Nat} : sm (fun _ => 0) n = 0 := by
  induction n with
  | zero => rfl
  | succ n ih => rw [sm, ih]; rfl
theorem sm_plus {f g : Nat → Int32} {n : Nat} : sm (fun i => f i + g i) n = sm f n + sm g n := by
  induction n with
  | zero => rfl
  | succ n ih =>
    rw [sm, sm, sm, ih, Int32.add_assoc, Int32.add_assoc]
    rw [← Int32.add_assoc (sm g n), Int32.add_comm (sm g n) (f n), Int32.add_assoc (f n)]
theorem sm_swap {f : Nat → Nat → Int32} {m : Nat} : ∀ n : Nat, sm (fun i => sm (fun j => f i j) m) n = sm (fun j => sm (fun i => f i j) n) m := by
  intro n
  induction n with
  | zero => exact sm_0.symm
  | succ n ih =>
    rw [sm, ih]
    show _ = sm (fun j => sm (fun i => f i j) n + f n j) m
    rw [sm_plus]
theorem dfM_eq {T : Tb} {a b : Nat} : dfM T a b 8 = dfV T a b := by
  unfold dfM dfV dfR dfC
  rw [sm_swap]
  apply sm_congr
  intro j hj
  have e : (¬ (shN T a b &&& nmS T (tn T - 1) &&& bitN j) = 0) ↔ dfJ T a b j := by
    rw [has_iff' hj, hb_and, Bool.and_eq_true, ← has_iff' hj, nmS_bit hj]
  by_cases h : dfJ T a b j
  · rw [if_pos h]
    apply sm_congr
    intro k hk
    by_cases h2 : tv T (a + k) j = td T (tn T - 1) j
    · rw [if_pos h2, if_pos ⟨e.mpr h, h2⟩]
    · rw [if_neg h2, if_neg (fun z => h2 z.2)]
  · rw [if_neg h]
    refine (Eq.trans (sm_congr (g := fun _ => 0) ?_) sm_0).symm
    intro k hk
    rw [if_neg (fun z => h (e.mp z.1))]
abbrev oldV (T : Tb) (a j i k : Nat) : Prop := ¬ ∀ z : Nat, z < k → ¬ tv T (a + z) j = tv T i j
/-! the whole state: the table, the history, the snapshot, the text, the latest stop -/
def recH (h : Nat → Tb) (n : Nat) (T : Tb) : Nat → Tb := if n = 4 then (fun k => if k = 3 then T else h (k + 1)) else (fun k => if k = n then T else h k)
def recN (n : Nat) : Nat := if n = 4 then 4 else n + 1
def flg : Option Tb → Int32
  | none => 0
  | some _ => 1
def soM : Option (Nat × Int32) → Int32
  | none => -10005
  | some q => nI q.1
def seM : Option (Nat × Int32) → Int32
  | none => -10005
  | some q => q.2
/-- a state as it may be -/
def WX (T : Tb) (hh : Nat → Tb) (hn : Nat) (sn : Option Tb) (tx : Nat → Int32) (ln : Nat) (sp : Option (Nat × Int32)) : Prop := WF T ∧ hn ≤ 4 ∧ (∀ k : Nat, k < hn → WF (hh k)) ∧ (∀ S : Tb, sn = some S → WF S) ∧ ln ≤ 80 ∧ (∀ z : Nat, z < ln → xin (tx z) 65536) ∧ (∀ k : Nat × Int32, sp = some k → k.1 < 20)
/-- an act: what becomes of the table and of the history -/
def acT (r : Int32 × Tb) (T : Tb) : Tb := if -10001 < r.1 then r.2 else T
def acH (r : Int32 × Tb) (T : Tb) (hh : Nat → Tb) (hn : Nat) : Nat → Tb := if -10001 < r.1 then recH hh hn T else hh
def acN (r : Int32 × Tb) (hn : Nat) : Nat := if -10001 < r.1 then recN hn else hn
theorem recN_le {n : Nat} (h : n ≤ 4) : recN n ≤ 4 := by
  unfold recN
  by_cases e : n = 4
  · rw [if_pos e]; omega
  · rw [if_neg e]; omega
def aAdd (T : Tb) (j : Nat) (kd d : Int32) : Int32 × Tb := if tk T (tn T - 1) j = -1 then (if tn T < 30 then (nI (tn T), bgn T j kd d) else (-10003, T)) else (-10004, T)
def aDrop (T : Tb) (j : Nat) : Int32 × Tb := if ¬ tk T (tn T - 1) j = -1 then (if tn T < 30 then (nI (tn T), bgn T j (-1) 0) else (-10003, T)) else (-10001, T)
def aKind (T : Tb) (j : Nat) (kd : Int32) : Int32 × Tb := if ¬ tk T (tn T - 1) j = -1 then (if tn T < 30 then (if tk T (tn T - 1) j = kd then (-10005, T) else (nI (tn T), bgn T j kd (cstC kd (td T (tn T - 1) j)))) else (-10003, T)) else (-10001, T)
theorem sAdd_a {T : Tb} {j : Nat} {kd d : Int32} (hj : j < 8) (h1 : xin kd 3) (h2 : okv d kd) : sAdd T (nI j) kd d = aAdd T j kd d := by
  rw [sAdd, if_pos (xin_nI hj (by decide)), if_pos ⟨h1, h2⟩, ix_nI (by omega), aAdd]
theorem sDrop_a {T : Tb} {j : Nat} (hj : j < 8) : sDrop T (nI j) = aDrop T j := by
  rw [sDrop, aDrop, ix_nI (by omega)]
  by_cases h : tk T (tn T - 1) j = -1
  · rw [if_neg (fun z => z.2 h), if_neg (fun z => z h)]
  · rw [if_pos ⟨xin_nI hj (by decide), h⟩, if_pos h]
theorem sKind_a {T : Tb} {j : Nat} {kd : Int32} (hj : j < 8) (h1 : xin kd 3) : sKind T (nI j) kd = aKind T j kd := by
  rw [sKind, aKind, ix_nI (by omega)]
  by_cases h : tk T (tn T - 1) j = -1
  · rw [if_neg (fun z => z.2 h), if_neg (fun z => z h)]
  · rw [if_pos ⟨xin_nI hj (by decide), h⟩, if_pos h, if_pos h1]
/-! the acts keep a table as it may be -/
theorem WF_bgn {T : Tb} {j : Nat} {kd d : Int32} (h : WF T) (hm : tn T < 30) (hj : j < 8) (hk : kd = -1 ∨ (xin kd 3 ∧ okv d kd)) : WF (bgn T j kd d) := by
  obtain ⟨⟨w1, w2, w3, w4⟩, w5, w6⟩ := h
  refine ⟨⟨Nat.le_add_left 1 _, hm, w3, fun i hi => Nat.lt_succ_of_lt (w4 i hi)⟩, fun q i hq hi => ?_, fun i j1 hi hj1 => ?_⟩
  · have hq2 : q < tn T + 1 := hq
    show (if q = tn T then (if i = j then kd else tk T (tn T - 1) i) else tk T q i) = -1 ∨ (xin (if q = tn T then (if i = j then kd else tk T (tn T - 1) i) else tk T q i) 3 ∧ okv (if q = tn T then (if i = j then d else td T (tn T - 1) i) else td T q i) (if q = tn T then (if i = j then kd else tk T (tn T - 1) i) else tk T q i))
    by_cases c1 : q = tn T
    · simp only [if_pos c1]
      by_cases c2 : i = j
      · simp only [if_pos c2]; exact hk
      · simp only [if_neg c2]; exact w5 _ i (by omega) hi
    · simp only [if_neg c1]; exact w5 q i (by omega) hi
  · have hs := w4 i hi
    have e : tk (bgn T j kd d) (ts (bgn T j kd d) i) j1 = tk T (ts T i) j1 := by
      show (if ts T i = tn T then _ else tk T (ts T i) j1) = _
      rw [if_neg (by omega)]
    rw [e]
    exact w6 i j1 hi hj1
theorem WF_wrt {T : Tb} (h : WF T) (hm : tr T < 24) : WF (wrt T) := by
  obtain ⟨⟨w1, w2, w3, w4⟩, w5, w6⟩ := h
  refine ⟨⟨w1, w2, hm, fun i hi => ?_⟩, fun q i hq hi => w5 q i hq hi, fun i j hi hj => ?_⟩
  · have hi2 : i < tr T + 1 := hi
    show (if i = tr T then tn T - 1 else ts T i) < tn T
    by_cases e : i = tr T
    · rw [if_pos e]; omega
    · rw [if_neg e]; exact w4 i (by omega)
  · have hi2 : i < tr T + 1 := hi
    show tk T (if i = tr T then tn T - 1 else ts T i) j = -1 ∨ okv (if i = tr T then td T (tn T - 1) j else tv T i j) (tk T (if i = tr T then tn T - 1 else ts T i) j)
    by_cases e : i = tr T
    · simp only [if_pos e]
      rcases w5 (tn T - 1) j (by omega) hj with z | z
      · exact Or.inl z
      · exact Or.inr z.2
    · simp only [if_neg e]; exact w6 i j (by omega) hj
theorem WF_setv {T : Tb} {i j : Nat} {v : Int32} (h : WF T) (hv : okv v (tk T (ts T i) j)) : WF (setv T i j v) := by
  obtain ⟨w0, w5, w6⟩ := h
  refine ⟨w0, w5, fun i2 j2 hi hj => ?_⟩
  show tk T (ts T i2) j2 = -1 ∨ okv (if i2 = i ∧ j2 = j then v else tv T i2 j2) (tk T (ts T i2) j2)
  by_cases e : i2 = i ∧ j2 = j
  · simp only [if_pos e]; rw [e.1, e.2]; exact Or.inr hv
  · simp only [if_neg e]; exact w6 i2 j2 hi hj
theorem WF_rmv {T : Tb} {i : Nat} (h : WF T) (hi : i < tr T) : WF (rmv T i) := by
  obtain ⟨⟨w1, w2, w3, w4⟩, w5, w6⟩ := h
  refine ⟨⟨w1, w2, Nat.le_trans (Nat.sub_le _ _) w3, fun i2 hi2 => ?_⟩, w5, fun i2 j hi2 hj => ?_⟩
  · have hi3 : i2 < tr T - 1 := hi2
    show (if i2 < i then ts T i2 else ts T (i2 + 1)) < tn T
    by_cases e : i2 < i
    · rw [if_pos e]; exact w4 _ (by omega)
    · rw [if_neg e]; exact w4 _ (by omega)
  · have hi3 : i2 < tr T - 1 := hi2
    show tk T (if i2 < i then ts T i2 else ts T (i2 + 1)) j = -1 ∨ okv (if i2 < i then tv T i2 j else tv T (i2 + 1) j) (tk T (if i2 < i then ts T i2 else ts T (i2 + 1)) j)
    by_cases e : i2 < i
    · simp only [if_pos e]; exact w6 _ j (by omega) hj
    · simp only [if_neg e]; exact w6 _ j (by omega) hj
theorem WF_fgt {T : Tb} {n : Nat} (h : WF T) (hn : n < tn T) (hs : ∀ i : Nat, i < tr T → n ≤ ts T i) : WF (fgt T n) := by
  obtain ⟨⟨w1, w2, w3, w4⟩, w5, w6⟩ := h
  refine ⟨⟨?_, Nat.le_trans (Nat.sub_le _ _) w2, w3, fun i hi => ?_⟩, fun q j hq hj => ?_, fun i j hi hj => ?_⟩
  · show 1 ≤ tn T - n; omega
  · have hi2 : i < tr T := hi
    have a1 := w4 i hi2
    have a2 := hs i hi2
    show ts T i - n < tn T - n
    omega
  · have hq2 : q < tn T - n := hq
    exact w5 (q + n) j (by omega) hj
  · have hi2 : i < tr T := hi
    have a2 := hs i hi2
    have e : tk (fgt T n) (ts (fgt T n) i) j = tk T (ts T i) j := by
      show tk T (ts T i - n + n) j = _
      rw [show ts T i - n + n = ts T i by omega]
    rw [e]
    exact w6 i j hi2 hj
theorem WF_dre {T : Tb} {i : Nat} (h : WF T) (hi : i < tr T) : WF (dre T i) := by
  obtain ⟨⟨w1, w2, w3, w4⟩, w5, w6⟩ := id h
  refine ⟨⟨w1, w2, w3, fun i2 hi2 => ?_⟩, w5, fun i2 j hi2 hj => ?_⟩
  · have hi3 : i2 < tr T := hi2
    show (if i2 = i then tn T - 1 else ts T i2) < tn T
    by_cases e : i2 = i
    · rw [if_pos e]; omega
    · rw [if_neg e]; exact w4 _ hi3
  · have hi3 : i2 < tr T := hi2
    show tk T (if i2 = i then tn T - 1 else ts T i2) j = -1 ∨ okv (if i2 = i then rdC T (tn T - 1) i j else tv T i2 j) (tk T (if i2 = i then tn T - 1 else ts T i2) j)
    by_cases e : i2 = i
    · simp only [if_pos e]
      rcases w5 (tn T - 1) j (by omega) hj with z | z
      · exact Or.inl z
      · right
        unfold rdC
        by_cases c : tk T (ts T i) j = -1
        · rw [if_pos c]; exact z.2
        · rw [if_neg c]
          have k1 := (WF_k h (w4 i hi) hj).resolve_left c
          exact cst_ok z.1 (okv_rng k1 ((w6 i j hi hj).resolve_left c))
    · simp only [if_neg e]; exact w6 _ j hi3 hj
theorem WF_mkP {T : Tb} {a : Nat} (h : WF T) : ∀ k : Nat, a + k ≤ tr T → WF (mkP T a k) := by
  intro k
  induction k with
  | zero => intro _; exact h
  | succ k ih =>
    intro hk
    rw [mkP]
    by_cases e : ts T (a + k) = tn T - 1
    · rw [if_pos e]; exact ih (by omega)
    · rw [if_neg e]
      refine WF_dre (ih (by omega)) ?_
      rw [(mkP_out k).2.1]
      omega
theorem WF_aAdd {T : Tb} {j : Nat} {kd d : Int32} (h : WF T) (hj : j < 8) (h1 : xin kd 3) (h2 : okv d kd) : WF (aAdd T j kd d).2 := by
  unfold aAdd
  by_cases c : tk T (tn T - 1) j = -1
  · rw [if_pos c]
    by_cases c2 : tn T < 30
    · rw [if_pos c2]; exact WF_bgn h c2 hj (Or.inr ⟨h1, h2⟩)
    · rw [if_neg c2]; exact h
  · rw [if_neg c]; exact h
theorem WF_aDrop {T : Tb} {j : Nat} (h : WF T) (hj : j < 8) : WF (aDrop T j).2 := by
  unfold aDrop
  by_cases c : ¬ tk T (tn T - 1) j = -1
  · rw [if_pos c]
    by_cases c2 : tn T < 30
    · rw [if_pos c2]; exact WF_bgn h c2 hj (Or.inl rfl)
    · rw [if_neg c2]; exact h
  · rw [if_neg c]; exact h
theorem WF_aKind {T : Tb} {j : Nat} {kd : Int32} (h : WF T) (hj : j < 8) (h1 : xin kd 3) : WF (aKind T j kd).2 := by
  unfold aKind
  by_cases c : ¬ tk T (tn T - 1) j = -1
  · rw [if_pos c]
    by_cases c2 : tn T < 30
    · rw [if_pos c2]
      by_cases c3 : tk T (tn T - 1) j = kd
      · rw [if_pos c3]; exact h
      · rw [if_neg c3]
        have o := (h.2.1 (tn T - 1) j (by have := h.1.1; omega) hj).resolve_left c
        exact WF_bgn h c2 hj (Or.inr ⟨h1, cst_ok h1 (okv_rng o.1 o.2)⟩)
    · rw [if_neg c2]; exact h
  · rw [if_neg c]; exact h
theorem WF_sRow {T : Tb} (h : WF T) : WF (sRow T).2 := by
  unfold sRow
  by_cases c : tr T < 24
  · rw [if_pos c]; exact WF_wrt h c
  · rw [if_neg c]; exact h
theorem WF_sSet {T : Tb} {x y v : Int32} (h : WF T) : WF (sSet T x y v).2 := by
  unfold sSet
  by_cases c : (xin x (tr T) ∧ xin y 8) ∧ ¬ tk T (ts T (ix x)) (ix y) = -1
  · rw [if_pos c]
    by_cases c2 : okv v (tk T (ts T (ix x)) (ix y))
    · rw [if_pos c2]
      by_cases c3 : tv T (ix x) (ix y) = v
      · rw [if_pos c3]; exact h
      · rw [if_neg c3]; exact WF_setv h c2
    · rw [if_neg c2]; exact h
  · rw [if_neg c]; exact h
theorem act_pos {n : Nat} (h : n < 2 ^ 31) : (-10001 : Int32) < nI n := by
  rw [i32lt, nI_toInt h, show (-10001 : Int32).toInt = -10001 by decide]
  omega
/-- rows of a season, counted -/
def wrC (T : Tb) (q : Nat) : Nat → Nat
  | 0 => 0
  | n + 1 => wrC T q n + (if ts T n = q then 1 else 0)
theorem wrC_le {T : Tb} {q : Nat} : ∀ n : Nat, wrC T q n ≤ n := by
  intro n
  induction n with
  | zero => exact Nat.le_refl 0
  | succ n ih =>
    rw [wrC]
    by_cases e : ts T n = q
    · rw [if_pos e]; omega
    · rw [if_neg e]; omega
theorem wrC_0 {T : Tb} {q : Nat} : ∀ n : Nat, wrC T q n = 0 ↔ ∀ i : Nat, i < n → ¬ ts T i = q := by
  intro n
  induction n with
  | zero => exact ⟨fun _ i hi => absurd hi (Nat.not_lt_zero _), fun _ => rfl⟩
  | succ n ih =>
    rw [wrC]
    by_cases e : ts T n = q
    · rw [if_pos e]
      exact ⟨fun z => absurd z (by omega), fun z => absurd e (z n (by omega))⟩
    · rw [if_neg e, Nat.add_zero, ih]
      constructor
      · intro z i hi
        rcases Nat.lt_or_ge i n with q1 | q1
        · exact z i q1
        · rw [show i = n by omega]; exact e
      · intro z i hi
        exact z i (by omega)
theorem wear_C {T : Tb} {q : Nat} (hw : WB T) (hq : q < 2 ^ 31) : wear T q = nI (wrC T q (tr T)) := by
  have key : ∀ n : Nat, n ≤ tr T → sm (fun i => if nI (ts T i) = nI q then 1 else 0) n = nI (wrC T q n) := by
    intro n
    induction n with
    | zero => intro _; rfl
    | succ n ih =>
      intro hn
      have hs := hw.2.2.2 n (by omega)
      have h30 := hw.2.1
      rw [sm, ih (by omega), wrC]
      by_cases e : ts T n = q
      · rw [if_pos (by rw [e]), if_pos e]; exact nI_1 _
      · rw [if_neg (fun z => e ((nI_eq (by omega) hq).mp z)), if_neg e, Int32.add_zero, Nat.add_zero]
  exact key _ (Nat.le_refl _)
theorem wear_0 {T : Tb} {q : Nat} (hw : WB T) (hq : q < 2 ^ 31) : wear T q = 0 ↔ ∀ i : Nat, i < tr T → ¬ ts T i = q := by
  have := wrC_le (T := T) (q := q) (tr T)
  have := hw.2.2.1
  rw [wear_C hw hq, ← wrC_0]
  exact nI_eq (b := 0) (by omega) (by omega)
theorem fgF_at {T : Tb} : ∀ k : Nat, fgF T k = tn T - 1 ∨ ∃ i : Nat, i < k ∧ ts T i = fgF T k := by
  intro k
  induction k with
  | zero => exact Or.inl rfl
  | succ k ih =>
    rw [fgF]
    by_cases e : ts T k < fgF T k
    · rw [if_pos e]; exact Or.inr ⟨k, by omega, rfl⟩
    · rw [if_neg e]
      rcases ih with z | ⟨i, z1, z2⟩
      · exact Or.inl z
      · exact Or.inr ⟨i, by omega, z2⟩
theorem fgm_is {T : Tb} {n : Nat} (h1 : n ≤ tn T - 1) (h2 : ∀ q : Nat, q < n → ∀ i : Nat, i < tr T → ¬ ts T i = q) (h3 : n = tn T - 1 ∨ ∃ i : Nat, i < tr T ∧ ts T i = n) : fgm T = n := by
  have a1 := fgF_le (T := T) (tr T)
  have a2 := fgF_at (T := T) (tr T)
  unfold fgm
  apply Nat.le_antisymm
  · rcases h3 with z | ⟨i, z1, z2⟩
    · rw [z]; exact a1.1
    · rw [← z2]; exact a1.2 i z1
  · rcases a2 with z | ⟨i, z1, z2⟩
    · rw [z]; exact h1
    · rcases Nat.lt_or_ge (fgF T (tr T)) n with q1 | q1
      · exact absurd z2 (h2 _ q1 i z1)
      · exact q1
theorem lsR_own {T : Tb} {i : Nat} (h : WF T) (hi : i < tr T) : lsR T (ts T i) i = 0 := by
  unfold lsR
  refine Eq.trans (sm_congr (g := fun _ => 0) ?_) sm_0
  intro j hj
  refine if_neg (fun z => ?_)
  rcases z with ⟨z1, z2 | z2⟩
  · exact z1 z2
  · have k1 := (WF_k h (h.1.2.2.2 i hi) hj).resolve_left z1
    have o1 := (h.2.2 i j hi hj).resolve_left z1
    exact z2 (by rw [cst_id k1 o1, cst_id k1 o1])
theorem mkL_eq {T : Tb} {a : Nat} (h : WF T) : ∀ n : Nat, a + n ≤ tr T → mkL T a n = sm (fun k => lsR T (tn T - 1) (a + k)) n := by
  intro n hn
  unfold mkL
  apply sm_congr
  intro k hk
  by_cases e : ts T (a + k) = tn T - 1
  · rw [if_pos e, ← e, lsR_own h (by omega)]
  · rw [if_neg e]
theorem rd_own {T : Tb} {i j : Nat} (h : WF T) (hi : i < tr T) (hj : j < 8) (hc : ¬ tk T (ts T i) j = -1) : rdC T (ts T i) i j = tv T i j := by
  unfold rdC
  rw [if_neg hc]
  exact cst_id ((WF_k h (h.1.2.2.2 i hi) hj).resolve_left hc) ((h.2.2 i j hi hj).resolve_left hc)
theorem mkP_in {T : Tb} {a : Nat} (h : WF T) : ∀ n : Nat, a + n ≤ tr T → ∀ i : Nat, a ≤ i → i < a + n → ts (mkP T a n) i = tn T - 1 ∧ ∀ j : Nat, j < 8 → ¬ tk T (tn T - 1) j = -1 → tv (mkP T a n) i j = rdC T (tn T - 1) i j := by
  intro n
  induction n with
  | zero => intro _ i h1 h2; exact absurd h2 (by omega)
  | succ n ih =>
    intro hn i h1 h2
    obtain ⟨o1, o2, o3, o4, o5⟩ := mkP_out (T := T) (a := a) n
    rw [mkP]
    by_cases e : ts T (a + n) = tn T - 1
    · rw [if_pos e]
      rcases Nat.lt_or_ge i (a + n) with q1 | q1
      · exact ih (by omega) i h1 q1
      · obtain ⟨e1, e2⟩ := o5 i (by omega)
        have ei : i = a + n := by omega
        rw [e1, e2, ei]
        refine ⟨e, fun j hj hc => ?_⟩
        have := rd_own h (show a + n < tr T by omega) hj (by rw [e]; exact hc)
        rw [e] at this
        exact this.symm
    · rw [if_neg e]
      by_cases ei : i = a + n
      · refine ⟨?_, fun j hj hc => ?_⟩
        · show (if i = a + n then tn (mkP T a n) - 1 else _) = _
          rw [if_pos ei, o1]
        · show (if i = a + n then rdC (mkP T a n) (tn (mkP T a n) - 1) (a + n) j else _) = _
          obtain ⟨e1, e2⟩ := o5 (a + n) (by omega)
          rw [if_pos ei, ei]
          unfold rdC
          rw [o1, o3, o4, e1, e2]
      · obtain ⟨i1, i2⟩ := ih (by omega) i h1 (by omega)
        refine ⟨?_, fun j hj hc => ?_⟩
        · show (if i = a + n then _ else ts (mkP T a n) i) = _
          rw [if_neg ei, i1]
        · show (if i = a + n then _ else tv (mkP T a n) i j) = _
          rw [if_neg ei]
          exact i2 j hj hc
theorem mkL_pos {T : Tb} {a n : Nat} (hn : n ≤ 24) : (-10001 : Int32) < mkL T a n := by
  have key : ∀ n : Nat, n ≤ 24 → ∃ w : Nat, w ≤ 8 * n ∧ mkL T a n = nI w := by
    intro n
    induction n with
    | zero => intro _; exact ⟨0, Nat.le_refl 0, rfl⟩
    | succ n ih =>
      intro h
      obtain ⟨w, w1, w2⟩ := ih (by omega)
      have k8 : ∀ q i m : Nat, m ≤ 8 → ∃ u : Nat, u ≤ m ∧ sm (fun j => if lostC T q i j then 1 else 0) m = nI u := by
        intro q i m
        induction m with
        | zero => intro _; exact ⟨0, Nat.le_refl 0, rfl⟩
        | succ m im =>
          intro h9
          obtain ⟨u, u1, u2⟩ := im (by omega)
          by_cases e : lostC T q i m
          · exact ⟨u + 1, by omega, by rw [sm, u2, if_pos e]; exact nI_1 u⟩
          · exact ⟨u, by omega, by rw [sm, u2, if_neg e, Int32.add_zero]⟩
      by_cases e : ts T (a + n) = tn T - 1
      · exact ⟨w, by omega, by rw [mkL, sm, if_pos e, Int32.add_zero]; exact w2⟩
      · obtain ⟨u, u1, u2⟩ := k8 (tn T - 1) (a + n) 8 (Nat.le_refl 8)
        refine ⟨w + u, by omega, ?_⟩
        rw [mkL, sm, if_neg e]
        show mkL T a n + lsR T (tn T - 1) (a + n) = _
        rw [w2, lsR, u2, nI_add]
  obtain ⟨w, w1, w2⟩ := key n hn
  rw [w2]
  exact act_pos (by omega)
/-! what the telling calls answer -/
def rCol (T : Tb) (q x w : Int32) : Int32 := if xin q (tn T) ∧ xin x 8 then (if xin w 2 then (if tk T (ix q) (ix x) = -1 then -10005 else if w = 0 then tk T (ix q) (ix x) else td T (ix q) (ix x)) else -10002) else -10001
def rSea (T : Tb) (q w : Int32) : Int32 := if xin q (tn T) then (if w = 0 then bcn (nmS T (ix q)) else if w = 1 then nmS T (ix q) else if w = 2 then wear T (ix q) else if w = 3 then newC T (ix q) else -10002) else -10001
def rVal (T : Tb) (x y : Int32) : Int32 := if xin x (tr T) ∧ xin y 8 then (if tk T (ts T (ix x)) (ix y) = -1 then -10005 else tv T (ix x) (ix y)) else -10001
def rRead (T : Tb) (x q y w : Int32) : Int32 := if (xin x (tr T) ∧ xin q (tn T)) ∧ xin y 8 then (if xin w 2 then (if tk T (ix q) (ix y) = -1 then -10005 else if w = 0 then rdC T (ix q) (ix x) (ix y) else howC T (ix q) (ix x) (ix y)) else -10002) else -10001
def rSof (T : Tb) (x : Int32) : Int32 := if xin x (tr T) then nI (ts T (ix x)) else -10001
def rView (T : Tb) (x y w : Int32) : Int32 := if xin x (tr T) ∧ xin y (tr T) then (if w = 0 then shN T (ix x) (ix y) else if w = 1 then nI (ix y + 1 - ix x) else if w = 2 then dfV T (ix x) (ix y) else -10002) else -10001
def vcV (T : Tb) (a b j : Nat) (w : Int32) : Int32 := if w = 0 then wdt T a j (b + 1 - a) else if w = 1 then svs T a j (b + 1 - a) else if w = 2 then lea T a j (b + 1 - a) else if w = 3 then gre T a j (b + 1 - a) else unl T a j (b + 1 - a)
def rVC (T : Tb) (x y z w : Int32) : Int32 := if (xin x (tr T) ∧ xin y (tr T)) ∧ xin z 8 then (if xin w 5 then (if (shN T (ix x) (ix y) &&& bitN (ix z)) = 0 then -10005 else vcV T (ix x) (ix y) (ix z) w) else -10002) else -10001
def rBf (T : Tb) : Int32 := if tr T = 0 then -10005 else nI (bfC T)
def rBs (T : Tb) (w : Int32) : Int32 := if xin w 2 then (if w = 0 then nI (bsC T) else lsA T (bsC T)) else -10002
def rCt (T : Tb) (hn ln : Nat) (w : Int32) : Int32 := if w = 0 then nI (tn T - 1) else if w = 1 then bcn (nmS T (tn T - 1)) else if w = 2 then nI (tr T) else if w = 3 then wear T (tn T - 1) else if w = 4 then allV T else if w = 5 then lsA T (tn T - 1) else if w = 6 then evN T else if w = 7 then nI hn else if w = 8 then nI ln else -10002
/-- the reference's least and greatest: they begin with the first row's value -/
def leM (T : Tb) (a j : Nat) : Nat → Int32
  | 0 => tv T a j
  | k + 1 => if tv T (a + k) j < leM T a j k then tv T (a + k) j else leM T a j k
def grM (T : Tb) (a j : Nat) : Nat → Int32
  | 0 => tv T a j
  | k + 1 => if grM T a j k < tv T (a + k) j then tv T (a + k) j else grM T a j k
theorem i32irr {x : Int32} : ¬ x < x := by
  rw [i32lt]
  omega
theorem leM_eq {T : Tb} {a j : Nat} (h : ∀ i : Nat, rng (tv T (a + i) j) ∨ True) (h0 : rng (tv T a j)) : ∀ k : Nat, leM T a j (k + 1) = lea T a j (k + 1) := by
  intro k
  induction k with
  | zero =>
    show (if tv T (a + 0) j < tv T a j then tv T (a + 0) j else tv T a j) = (if tv T (a + 0) j < 9999 then tv T (a + 0) j else 9999)
    rw [Nat.add_zero, if_neg i32irr]
    by_cases e : tv T a j < 9999
    · rw [if_pos e]
    · rw [if_neg e, ← Int32.toInt_inj]
      rw [i32lt] at e
      have e9 : (9999 : Int32).toInt = 9999 := by decide
      have := h0.2
      omega
  | succ k ih =>
    show (if tv T (a + (k + 1)) j < leM T a j (k + 1) then tv T (a + (k + 1)) j else leM T a j (k + 1)) = i32min (lea T a j (k + 1)) (tv T (a + (k + 1)) j)
    rw [ih]
    rfl
theorem grM_eq {T : Tb} {a j : Nat} (h0 : rng (tv T a j)) : ∀ k : Nat, grM T a j (k + 1) = gre T a j (k + 1) := by
  intro k
  induction k with
  | zero =>
    show (if tv T a j < tv T (a + 0) j then tv T (a + 0) j else tv T a j) = (if -9999 < tv T (a + 0) j then tv T (a + 0) j else -9999)
    rw [Nat.add_zero, if_neg i32irr]
    by_cases e : -9999 < tv T a j
    · rw [if_pos e]
    · rw [if_neg e, ← Int32.toInt_inj]
      rw [i32lt] at e
      have e9 : (-9999 : Int32).toInt = -9999 := by decide
      have := h0.1
      omega
  | succ k ih =>
    show (if grM T a j (k + 1) < tv T (a + (k + 1)) j then tv T (a + (k + 1)) j else grM T a j (k + 1)) = i32max (gre T a j (k + 1)) (tv T (a + (k + 1)) j)
    rw [ih]
    rfl
/-- the reference's search for the best row, downwards in what is left -/
def bfM (T : Tb) : Nat → Int32 × Int32
  | 0 => (-10005, -1)
  | k + 1 => (if (bfM T k).2 < bcn (shN T k (tr T - 1)) then nI k else (bfM T k).1, if (bfM T k).2 < bcn (shN T k (tr T - 1)) then bcn (shN T k (tr T - 1)) else (bfM T k).2)
/-- the same for the seasons -/
def bsM (T : Tb) : Nat → Nat × Int32
  | 0 => (0, lsA T 0)
  | k + 1 => (if lsA T (k + 1) ≤ (bsM T k).2 then k + 1 else (bsM T k).1, if lsA T (k + 1) ≤ (bsM T k).2 then lsA T (k + 1) else (bsM T k).2)
theorem bcn_pos : ∀ w : Nat, w < 256 → (0 : Int) ≤ (bcn (nI w)).toInt := by decide +kernel
theorem bcn_ge {x : Int32} (h : m8 x) : (0 : Int) ≤ (bcn x).toInt := by
  obtain ⟨w, hw, rfl⟩ := m8_nI h
  exact bcn_pos w hw
/-- what is found: the first of the greatest ones -/
theorem bfM_is {T : Tb} : ∀ k : Nat, 1 ≤ k → ∃ b : Nat, b < k ∧ bfM T k = (nI b, bcn (shN T b (tr T - 1))) ∧ (∀ i : Nat, i < k → (bcn (shN T i (tr T - 1))).toInt ≤ (bcn (shN T b (tr T - 1))).toInt) ∧ ∀ i : Nat, i < b → (bcn (shN T i (tr T - 1))).toInt < (bcn (shN T b (tr T - 1))).toInt := by
  intro k
  induction k with
  | zero => intro h; exact absurd h (by omega)
  | succ k ih =>
    intro _
    rcases Nat.eq_zero_or_pos k with e | e
    · subst e
      refine ⟨0, by omega, ?_, fun i hi => by rw [show i = 0 by omega]; exact Int.le_refl _, fun i hi => absurd hi (Nat.not_lt_zero _)⟩
      have hp : (-1 : Int32) < bcn (shN T 0 (tr T - 1)) := by
        rw [i32lt, show (-1 : Int32).toInt = -1 by decide]
        have := bcn_ge (m8_shN (T := T) (a := 0) (b := tr T - 1))
        omega
      show (if (-1 : Int32) < bcn (shN T 0 (tr T - 1)) then nI 0 else -10005, if (-1 : Int32) < bcn (shN T 0 (tr T - 1)) then bcn (shN T 0 (tr T - 1)) else -1) = _
      rw [if_pos hp, if_pos hp]
    · obtain ⟨b, b1, b2, b3, b4⟩ := ih e
      rw [bfM, b2]
      by_cases c : bcn (shN T b (tr T - 1)) < bcn (shN T k (tr T - 1))
      · refine ⟨k, by omega, by simp only [if_pos c], fun i hi => ?_, fun i hi => ?_⟩
        · rcases Nat.lt_or_ge i k with q1 | q1
          · have := b3 i q1
            rw [i32lt] at c
            omega
          · rw [show i = k by omega]
            exact Int.le_refl _
        · have := b3 i hi
          rw [i32lt] at c
          omega
      · refine ⟨b, by omega, by simp only [if_neg c], fun i hi => ?_, b4⟩
        rcases Nat.lt_or_ge i k with q1 | q1
        · exact b3 i q1
        · rw [show i = k by omega]
          rw [i32lt] at c
          omega
/-- the class's search, upwards from the last row -/
theorem bfd_is {T : Tb} (hT : 1 ≤ tr T) : ∀ k : Nat, 1 ≤ k → k ≤ tr T → (bfd T k).1 = shr T (tr T - k) (k - 1) ∧ ∃ b : Nat, tr T - k ≤ b ∧ b < tr T ∧ (bfd T k).2 = (b, bcn (shr T b (tr T - 1 - b))) ∧ (∀ i : Nat, tr T - k ≤ i → i < tr T → (bcn (shr T i (tr T - 1 - i))).toInt ≤ (bcn (shr T b (tr T - 1 - b))).toInt) ∧ ∀ i : Nat, tr T - k ≤ i → i < b → (bcn (shr T i (tr T - 1 - i))).toInt < (bcn (shr T b (tr T - 1 - b))).toInt := by
  intro k
  induction k with
  | zero => intro h; exact absurd h (by omega)
  | succ k ih =>
    intro _ hk
    have hsh : ∀ z : Nat, ∀ a : Nat, shr T a (z + 1) = nmS T (ts T a) &&& shr T (a + 1) z := by
      intro z
      induction z with
      | zero => intro a; rfl
      | succ z iz =>
        intro a
        rw [shr, iz, shr, Int32.and_assoc, show a + (z + 1 + 1) = a + 1 + (z + 1) by omega]
    rcases Nat.eq_zero_or_pos k with e | e
    · subst e
      have g1 : (bfd T 0).1 &&& nmS T (ts T (tr T - 1)) = shr T (tr T - 1) 0 := m8_255 m8_nmS
      have hp : (bfd T 0).2.2 ≤ bcn ((bfd T 0).1 &&& nmS T (ts T (tr T - (0 + 1)))) := by
        show (0 : Int32) ≤ bcn ((bfd T 0).1 &&& nmS T (ts T (tr T - 1)))
        rw [g1, Int32.le_iff_toInt_le]
        exact bcn_ge m8_nmS
      refine ⟨?_, tr T - 1, by omega, by omega, ?_, fun i h1 h2 => by rw [show i = tr T - 1 by omega]; exact Int.le_refl _, fun i h1 h2 => absurd h2 (by omega)⟩
      · rw [bfd]
        simp only [if_pos hp]
        exact g1
      · rw [bfd]
        simp only [if_pos hp]
        show (tr T - 1, bcn ((bfd T 0).1 &&& nmS T (ts T (tr T - 1)))) = _
        rw [g1, show tr T - 1 - (tr T - 1) = 0 by omega]
    · obtain ⟨a1, b, b1, b2, b3, b4, b5⟩ := ih e (by omega)
      have g1 : (bfd T k).1 &&& nmS T (ts T (tr T - (k + 1))) = shr T (tr T - (k + 1)) k := by
        rw [a1, Int32.and_comm, show tr T - k = tr T - (k + 1) + 1 by omega, ← hsh, show k - 1 + 1 = k by omega]
      have b3' : (bfd T k).2.2 = bcn (shr T b (tr T - 1 - b)) := by rw [b3]
      have b3'' : (bfd T k).2.1 = b := by rw [b3]
      rw [bfd]
      simp only [g1, b3', b3'']
      have ek : tr T - 1 - (tr T - (k + 1)) = k := by omega
      by_cases c : bcn (shr T b (tr T - 1 - b)) ≤ bcn (shr T (tr T - (k + 1)) k)
      · simp only [if_pos c]
        rw [Int32.le_iff_toInt_le] at c
        refine ⟨by rw [show k + 1 - 1 = k by omega], tr T - (k + 1), by omega, by omega, by rw [ek], fun i h1 h2 => ?_, fun i h1 h2 => absurd h2 (by omega)⟩
        rw [ek]
        rcases Nat.lt_or_ge (tr T - (k + 1)) i with q1 | q1
        · have := b4 i (by omega) h2
          omega
        · rw [show i = tr T - (k + 1) by omega, ek]
          exact Int.le_refl _
      · simp only [if_neg c]
        rw [Int32.le_iff_toInt_le] at c
        refine ⟨by rw [show k + 1 - 1 = k by omega], b, by omega, b2, rfl, fun i h1 h2 => ?_, fun i h1 h2 => ?_⟩
        · rcases Nat.lt_or_ge (tr T - (k + 1)) i with q1 | q1
          · exact b4 i (by omega) h2
          · rw [show i = tr T - (k + 1) by omega, ek]
            omega
        · rcases Nat.lt_or_ge (tr T - (k + 1)) i with q1 | q1
          · exact b5 i (by omega) h2
          · rw [show i = tr T - (k + 1) by omega, ek]
            omega
theorem bf_eq {T : Tb} (hT : 1 ≤ tr T) : (bfM T (tr T)).1 = nI (bfC T) := by
  obtain ⟨b, b1, b2, b3, b4⟩ := bfM_is (T := T) (tr T) hT
  obtain ⟨-, d, d1, d2, d3, d4, d5⟩ := bfd_is hT (tr T) hT (Nat.le_refl _)
  have es : ∀ i : Nat, i < tr T → shN T i (tr T - 1) = shr T i (tr T - 1 - i) := fun i hi => by rw [shN, if_neg (by omega)]
  have ebd : b = d := by
    rcases Nat.lt_trichotomy b d with q | q | q
    · have x1 := d5 b (by omega) q
      have x2 := b3 d d2
      rw [es d d2, es b b1] at x2
      omega
    · exact q
    · have x1 := b4 d q
      have x2 := d4 b (by omega) b1
      rw [es d d2, es b b1] at x1
      omega
  rw [b2, bfC, d3, ebd]
theorem bsM_is {T : Tb} : ∀ k : Nat, (bsM T k).1 ≤ k ∧ (bsM T k).2 = lsA T (bsM T k).1 ∧ (∀ i : Nat, i ≤ k → (lsA T (bsM T k).1).toInt ≤ (lsA T i).toInt) ∧ ∀ i : Nat, (bsM T k).1 < i → i ≤ k → (lsA T (bsM T k).1).toInt < (lsA T i).toInt := by
  intro k
  induction k with
  | zero => exact ⟨Nat.le_refl 0, rfl, fun i hi => by rw [show i = 0 by omega]; exact Int.le_refl _, fun i h1 h2 => absurd h2 (by omega)⟩
  | succ k ih =>
    obtain ⟨b1, b2, b3, b4⟩ := ih
    rw [bsM]
    by_cases c : lsA T (k + 1) ≤ (bsM T k).2
    · simp only [if_pos c]
      rw [b2, Int32.le_iff_toInt_le] at c
      refine ⟨Nat.le_refl _, trivial, fun i hi => ?_, fun i h1 h2 => absurd h2 (by omega)⟩
      rcases Nat.lt_or_ge k i with q | q
      · rw [show i = k + 1 by omega]; exact Int.le_refl _
      · have := b3 i q
        omega
    · simp only [if_neg c]
      rw [b2, Int32.le_iff_toInt_le] at c
      refine ⟨by omega, b2, fun i hi => ?_, fun i h1 h2 => ?_⟩
      · rcases Nat.lt_or_ge k i with q | q
        · rw [show i = k + 1 by omega]; omega
        · exact b3 i q
      · rcases Nat.lt_or_ge k i with q | q
        · rw [show i = k + 1 by omega]; omega
        · exact b4 i h1 q
theorem bsd_is {T : Tb} (hT : 1 ≤ tn T) : ∀ k : Nat, k ≤ tn T - 1 → tn T - 1 - k ≤ (bsd T k).1 ∧ (bsd T k).1 ≤ tn T - 1 ∧ (bsd T k).2 = lsA T (bsd T k).1 ∧ (∀ i : Nat, tn T - 1 - k ≤ i → i ≤ tn T - 1 → (lsA T (bsd T k).1).toInt ≤ (lsA T i).toInt) ∧ ∀ i : Nat, (bsd T k).1 < i → i ≤ tn T - 1 → (lsA T (bsd T k).1).toInt < (lsA T i).toInt := by
  intro k
  induction k with
  | zero => intro _; exact ⟨Nat.le_refl _, Nat.le_refl _, rfl, fun i h1 h2 => by rw [show i = tn T - 1 by omega]; exact Int.le_refl _, fun i h1 h2 => absurd h2 (by have : (bsd T 0).1 = tn T - 1 := rfl; omega)⟩
  | succ k ih =>
    intro hk
    obtain ⟨b0, b1, b2, b3, b4⟩ := ih (by omega)
    rw [bsd]
    by_cases c : lsA T (tn T - 1 - (k + 1)) < (bsd T k).2
    · simp only [if_pos c]
      rw [b2, i32lt] at c
      refine ⟨Nat.le_refl _, by omega, trivial, fun i h1 h2 => ?_, fun i h1 h2 => ?_⟩
      · rcases Nat.lt_or_ge (tn T - 1 - (k + 1)) i with q | q
        · have := b3 i (by omega) h2
          omega
        · rw [show i = tn T - 1 - (k + 1) by omega]; exact Int.le_refl _
      · have := b3 i (by omega) h2
        omega
    · simp only [if_neg c]
      rw [b2, i32lt] at c
      refine ⟨by omega, b1, b2, fun i h1 h2 => ?_, b4⟩
      rcases Nat.lt_or_ge (tn T - 1 - (k + 1)) i with q | q
      · exact b3 i (by omega) h2
      · rw [show i = tn T - 1 - (k + 1) by omega]; omega
theorem bs_eq {T : Tb} (hT : 1 ≤ tn T) : bsM T (tn T - 1) = (bsC T, lsA T (bsC T)) := by
  obtain ⟨b1, b2, b3, b4⟩ := bsM_is (T := T) (tn T - 1)
  obtain ⟨d0, d1, d2, d3, d4⟩ := bsd_is hT (tn T - 1) (Nat.le_refl _)
  have e : (bsM T (tn T - 1)).1 = bsC T := by
    show (bsM T (tn T - 1)).1 = (bsd T (tn T - 1)).1
    rcases Nat.lt_trichotomy (bsM T (tn T - 1)).1 (bsd T (tn T - 1)).1 with q | q | q
    · have x1 := b4 _ q d1
      have x2 := d3 _ (by omega) b1
      omega
    · exact q
    · have x1 := d4 _ q b1
      have x2 := b3 _ d1
      omega
  exact Prod.ext e (by rw [b2, e])
theorem shN_le {T : Tb} {a b : Nat} {m : Int32} (h : ¬ (shN T a b &&& m) = 0) : a ≤ b := by
  rcases Nat.lt_or_ge b a with q | q
  · exact absurd (by rw [shN, if_pos q, Int32.zero_and]) h
  · exact q
