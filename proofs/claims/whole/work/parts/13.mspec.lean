/-! the reference's row of numbers for a table -/
def RTm (T : Tb) (f : Nat → Int32) : Prop := f 0 = nI (tn T) ∧ f 1 = nI (tr T) ∧ (∀ q j : Nat, q < tn T → j < 8 → f (2 + 16 * q + j) = tk T q j + 1) ∧ (∀ q j : Nat, q < tn T → j < 8 → f (2 + 16 * q + 8 + j) = td T q j) ∧ (∀ i : Nat, i < tr T → f (482 + 9 * i) = nI (ts T i)) ∧ (∀ i j : Nat, i < tr T → j < 8 → ¬ tk T (ts T i) j = -1 → f (482 + 9 * i + 1 + j) = tv T i j)
def RM (E : xE) (C : xC) (a : Nat) (T : Tb) : Prop := ∃ f : Nat → Int32, C (a) = .inl (E.2.2.1 1, 698, .inl f) ∧ RTm T f
theorem xin3 {k : Int32} (h : xin k 3) : k = 0 ∨ k = 1 ∨ k = 2 := by
  obtain ⟨j, hj, rfl⟩ := xin_of h (by decide)
  rcases (show j = 0 ∨ j = 1 ∨ j = 2 by omega) with rfl | rfl | rfl
  · exact Or.inl rfl
  · exact Or.inr (Or.inl rfl)
  · exact Or.inr (Or.inr rfl)
theorem dn_toInt {r : Nat} (h : r < 2 ^ 31) : (nI r - 1).toInt = (r : Int) - 1 := by
  cases r with
  | zero => decide
  | succ k =>
    rw [nI_pred, nI_toInt (by omega)]
    omega
/-- numbers in the widest range -/
abbrev rng (v : Int32) : Prop := -9999 ≤ v.toInt ∧ v.toInt ≤ 9999
theorem okv_rng {v k : Int32} (hk : xin k 3) (h : okv v k) : rng v := by
  rcases xin3 hk with rfl | rfl | rfl
  · have h1 : (0 : Int) ≤ v.toInt := h.1
    have h2 : v.toInt ≤ 1 := h.2
    exact ⟨by omega, by omega⟩
  · have h1 : (0 : Int) ≤ v.toInt := h.1
    have h2 : v.toInt ≤ 9 := h.2
    exact ⟨by omega, by omega⟩
  · have h1 : (-9999 : Int) ≤ v.toInt := h.1
    have h2 : v.toInt ≤ 9999 := h.2
    exact ⟨h1, h2⟩
theorem i32lt {x y : Int32} : x < y ↔ x.toInt < y.toInt := Int32.lt_iff_toInt_lt
theorem cst_eq {v k : Int32} (hk : xin k 3) (hv : rng v) : cst v k = cstC k v := by
  have e9 : (9 : Int32).toInt = 9 := by decide
  have e0 : (0 : Int32).toInt = 0 := by decide
  have e99 : (9999 : Int32).toInt = 9999 := by decide
  have en : (-9999 : Int32).toInt = -9999 := by decide
  rcases xin3 hk with rfl | rfl | rfl
  · rfl
  · show (if v < 0 then (0 : Int32) else if 9 < v then 9 else v) = if (0 : Int32) < (if v < 9 then v else 9) then (if v < 9 then v else 9) else 0
    by_cases h3 : v < 9
    · rw [if_pos h3]
      by_cases h4 : (0 : Int32) < v
      · rw [if_pos h4, if_neg (show ¬ v < 0 by rw [i32lt] at h4 ⊢; omega), if_neg (show ¬ 9 < v by rw [i32lt] at h3 ⊢; omega)]
      · rw [if_neg h4]
        by_cases h1 : v < 0
        · rw [if_pos h1]
        · rw [if_neg h1, if_neg (show ¬ 9 < v by rw [i32lt] at h3 ⊢; omega), ← Int32.toInt_inj]
          rw [i32lt] at h1 h4
          omega
    · rw [if_neg h3, if_pos (show (0 : Int32) < 9 by decide), if_neg (show ¬ v < 0 by rw [i32lt] at h3 ⊢; omega)]
      by_cases h2 : 9 < v
      · rw [if_pos h2]
      · rw [if_neg h2, ← Int32.toInt_inj]
        rw [i32lt] at h2 h3
        omega
  · show v = if (-9999 : Int32) < (if v < 9999 then v else 9999) then (if v < 9999 then v else 9999) else -9999
    obtain ⟨r1, r2⟩ := hv
    by_cases h3 : v < 9999
    · rw [if_pos h3]
      by_cases h4 : -9999 < v
      · rw [if_pos h4]
      · rw [if_neg h4, ← Int32.toInt_inj]
        rw [i32lt] at h4
        omega
    · rw [if_neg h3, if_pos (by decide), ← Int32.toInt_inj]
      rw [i32lt] at h3
      omega
theorem cst_ok {v k : Int32} (hk : xin k 3) (hv : rng v) : okv (cstC k v) k := by
  rw [← cst_eq hk hv]
  have e9 : (9 : Int32).toInt = 9 := by decide
  have e0 : (0 : Int32).toInt = 0 := by decide
  rcases xin3 hk with rfl | rfl | rfl
  · show (0 : Int32).toInt ≤ (if v = 0 then (0 : Int32) else 1).toInt ∧ (if v = 0 then (0 : Int32) else 1).toInt ≤ (1 : Int32).toInt
    by_cases h : v = 0
    · rw [if_pos h]; decide
    · rw [if_neg h]; decide
  · show (0 : Int32).toInt ≤ (if v < 0 then (0 : Int32) else if 9 < v then 9 else v).toInt ∧ (if v < 0 then (0 : Int32) else if 9 < v then 9 else v).toInt ≤ (9 : Int32).toInt
    by_cases h1 : v < 0
    · rw [if_pos h1]; decide
    · rw [if_neg h1]
      by_cases h2 : 9 < v
      · rw [if_pos h2]; decide
      · rw [if_neg h2]
        rw [i32lt] at h1 h2
        omega
  · show (-9999 : Int32).toInt ≤ v.toInt ∧ v.toInt ≤ (9999 : Int32).toInt
    exact hv
/-- a value of its own kind is cast to itself -/
theorem cst_id {v k : Int32} (hk : xin k 3) (h : okv v k) : cstC k v = v := by
  rw [← cst_eq hk (okv_rng hk h)]
  have e9 : (9 : Int32).toInt = 9 := by decide
  have e0 : (0 : Int32).toInt = 0 := by decide
  have e1 : (1 : Int32).toInt = 1 := by decide
  rcases xin3 hk with rfl | rfl | rfl
  · show (if v = 0 then (0 : Int32) else 1) = v
    have h1 : (0 : Int) ≤ v.toInt := h.1
    have h2 : v.toInt ≤ 1 := h.2
    by_cases hz : v = 0
    · rw [if_pos hz, hz]
    · rw [if_neg hz, ← Int32.toInt_inj]
      rw [← Int32.toInt_inj] at hz
      omega
  · show (if v < 0 then (0 : Int32) else if 9 < v then 9 else v) = v
    have h1 : (0 : Int) ≤ v.toInt := h.1
    have h2 : v.toInt ≤ 9 := h.2
    rw [if_neg (by rw [i32lt]; omega), if_neg (by rw [i32lt]; omega)]
  · rfl
theorem WF_B {T : Tb} (h : WF T) : WB T := h.1
theorem WF_k {T : Tb} (h : WF T) {q j : Nat} (hq : q < tn T) (hj : j < 8) : tk T q j = -1 ∨ xin (tk T q j) 3 := by
  rcases h.2.1 q j hq hj with e | e
  · exact Or.inl e
  · exact Or.inr e.1
theorem kge {x : Int32} (h : x = -1 ∨ xin x 3) : (0 : Int) ≤ x.toInt ↔ ¬ x = -1 := by
  rcases h with e | e
  · subst e
    exact ⟨fun z => absurd z (by decide), fun z => absurd rfl z⟩
  · exact ⟨fun _ z => by subst z; exact absurd e.1 (by decide), fun _ => e.1⟩
theorem klt {x : Int32} (h : x = -1 ∨ xin x 3) : x.toInt < (0 : Int) ↔ x = -1 := by
  have := kge h
  constructor
  · intro z
    exact Decidable.by_contra fun w => absurd (this.mpr w) (by omega)
  · intro z
    exact Decidable.by_contra fun w => absurd z (this.mp (by omega))
theorem i1s (x : Int32) : x + 1 - 1 = x := Int32.add_sub_cancel x 1
/-- sets of names are below 256 -/
def m8 (x : Int32) : Prop := x &&& 255 = x
theorem m8_hb {x : Int32} : m8 x ↔ ∀ i : Nat, 8 ≤ i → hb x i = false := by
  unfold m8
  have e255 : ∀ i : Nat, hb 255 i = decide (i < 8) := by
    intro i
    rcases Nat.lt_or_ge i 32 with q1 | q1
    · exact (show ∀ i : Nat, i < 32 → hb 255 i = decide (i < 8) by decide +kernel) i q1
    · unfold hb
      rw [BitVec.getLsbD_of_ge _ _ q1]
      exact (decide_eq_false (by omega)).symm
  constructor
  · intro h i hi
    rw [← h, hb_and, e255 i, decide_eq_false (by omega), Bool.and_false]
  · intro h
    rw [← Int32.toBitVec_inj]
    apply BitVec.eq_of_getLsbD_eq
    intro i _
    show hb (x &&& 255) i = hb x i
    rw [hb_and, e255]
    by_cases hi : i < 8
    · rw [decide_eq_true hi, Bool.and_true]
    · rw [h i (by omega), Bool.false_and]
theorem m8_and {x y : Int32} (h : m8 x) : m8 (x &&& y) := m8_hb.mpr fun i hi => by rw [hb_and, m8_hb.mp h i hi, Bool.false_and]
theorem m8_and' {x y : Int32} (h : m8 y) : m8 (x &&& y) := m8_hb.mpr fun i hi => by rw [hb_and, m8_hb.mp h i hi, Bool.and_false]
theorem m8_or {x y : Int32} (h : m8 x) (h2 : m8 y) : m8 (x ||| y) := m8_hb.mpr fun i hi => by rw [hb_or, m8_hb.mp h i hi, m8_hb.mp h2 i hi, Bool.or_false]
theorem m8_0 : m8 0 := by
  unfold m8
  decide
theorem m8_bitN : ∀ j : Nat, j < 8 → m8 (bitN j) := by
  intro j hj
  exact (show ∀ j : Nat, j < 8 → bitN j &&& 255 = bitN j by decide +kernel) j hj
theorem m8_orf {f : Nat → Int32} : ∀ n : Nat, (∀ i : Nat, i < n → m8 (f i)) → m8 (orf f n) := by
  intro n
  induction n with
  | zero => intro _; exact m8_0
  | succ n ih => intro h; exact m8_or (ih fun i hi => h i (by omega)) (h n (by omega))
theorem m8_nmS {T : Tb} {q : Nat} : m8 (nmS T q) := m8_orf 8 fun i hi => by
  by_cases e : tk T q i = -1
  · rw [if_pos e]; exact m8_0
  · rw [if_neg e]; exact m8_bitN i hi
theorem m8_shr {T : Tb} {a : Nat} : ∀ k : Nat, m8 (shr T a k)
  | 0 => m8_nmS
  | _ + 1 => m8_and (m8_shr _)
theorem m8_shN {T : Tb} {a b : Nat} : m8 (shN T a b) := by
  unfold shN
  by_cases e : b < a
  · rw [if_pos e]; exact m8_0
  · rw [if_neg e]; exact m8_shr _
theorem m8_255 {x : Int32} (h : m8 x) : 255 &&& x = x := by
  rw [Int32.and_comm]
  exact h
theorem m8_nI {x : Int32} (h : m8 x) : ∃ w : Nat, w < 256 ∧ x = nI w := by
  obtain ⟨w, hw, e⟩ := pk_andE x (m := 255) 8 (by decide)
  exact ⟨w, hw, h.symm.trans e⟩
/-- Kernighan's step -/
theorem onesStep : ∀ w : Nat, w < 256 → 0 < w → nI w &&& (nI w - 1) = nI (w &&& (w - 1)) ∧ bcn (nI w) = bcn (nI (w &&& (w - 1))) + 1 := by decide +kernel
theorem onesLess {w : Nat} (h : 0 < w) : w &&& (w - 1) < w := Nat.lt_of_le_of_lt Nat.and_le_right (by omega)
theorem bcn0 : bcn (nI 0) = 0 := by decide
/-- a bit of a set, as the reference asks for it -/
theorem bit1 : ∀ j : Nat, j < 8 → ∀ w : Nat, w < 256 → (((nI w) >>> (nI j &&& 31)) &&& 1 = 1 ↔ hb (nI w) j = true) := by decide +kernel
theorem bit1z : ∀ j : Nat, j < 8 → ∀ w : Nat, w < 256 → (((nI w) >>> (nI j &&& 31)) &&& 1 = 0 ↔ hb (nI w) j = false) := by decide +kernel
theorem bitOne {x : Int32} {j : Nat} (h : m8 x) (hj : j < 8) : (x >>> (nI j &&& 31)) &&& 1 = 1 ↔ ¬ (x &&& bitN j) = 0 := by
  obtain ⟨w, hw, rfl⟩ := m8_nI h
  rw [has_iff' hj]
  exact bit1 j hj w hw
theorem bitZero {x : Int32} {j : Nat} (h : m8 x) (hj : j < 8) : (x >>> (nI j &&& 31)) &&& 1 = 0 ↔ (x &&& bitN j) = 0 := by
  obtain ⟨w, hw, rfl⟩ := m8_nI h
  rw [has_iff hj]
  exact bit1z j hj w hw
theorem kltI {x : Int32} (h : x = -1 ∨ xin x 3) : x < 0 ↔ x = -1 := (cLt rfl (by decide)).trans (klt h)
theorem kgeI {x : Int32} (h : x = -1 ∨ xin x 3) : 0 ≤ x ↔ ¬ x = -1 := (cLe (by decide) rfl).trans (kge h)
theorem orf_add {f : Nat → Int32} {n : Nat} {v : Int32} (h : f n = v) : orf f n ||| v = orf f (n + 1) := by rw [orf, h]
theorem clos_iff {T : Tb} {q i j : Nat} (hv : WF T) (hq : q < tn T) (hi : i < tr T) (hj : j < 8) (h1 : ¬ tk T (ts T i) j = -1) (h2 : ¬ tk T q j = -1) : (¬ cst (cst (tv T i j) (tk T q j)) (tk T (ts T i) j) = tv T i j) ↔ clos T q i j := by
  have hs := hv.1.2.2.2 i hi
  have k1 := (WF_k hv hs hj).resolve_left h1
  have k2 := (WF_k hv hq hj).resolve_left h2
  have o1 := (hv.2.2 i j hi hj).resolve_left h1
  rw [cst_eq k2 (okv_rng k1 o1), cst_eq k1 (okv_rng k2 (cst_ok k2 (okv_rng k1 o1)))]
theorem rd_eq {T : Tb} {q i j : Nat} (hv : WF T) (hq : q < tn T) (hi : i < tr T) (hj : j < 8) (h1 : ¬ tk T (ts T i) j = -1) (h2 : ¬ tk T q j = -1) : cst (tv T i j) (tk T q j) = cstC (tk T q j) (tv T i j) := by
  have hs := hv.1.2.2.2 i hi
  have k1 := (WF_k hv hs hj).resolve_left h1
  have k2 := (WF_k hv hq hj).resolve_left h2
  have o1 := (hv.2.2 i j hi hj).resolve_left h1
  exact cst_eq k2 (okv_rng k1 o1)
/-- the names that n rows from a on share, from all names downwards -/
def cmF (T : Tb) (a : Nat) : Nat → Int32
  | 0 => 255
  | k + 1 => cmF T a k &&& nmS T (ts T (a + k))
theorem cmF_shr {T : Tb} {a : Nat} : ∀ k : Nat, cmF T a (k + 1) = shr T a k := by
  intro k
  induction k with
  | zero =>
    rw [cmF, cmF, shr]
    exact m8_255 m8_nmS
  | succ k ih => rw [cmF, ih, shr]
theorem cmF_shN {T : Tb} {a b : Nat} (h : ¬ b < a) : cmF T a (b + 1 - a) = shN T a b := by
  rw [shN, if_neg h, show b + 1 - a = (b - a) + 1 by omega]
  exact cmF_shr _
abbrev dfJ (T : Tb) (a b j : Nat) : Prop := ¬ (shN T a b &&& bitN j) = 0 ∧ ¬ tk T (tn T - 1) j = -1
def dfC (T : Tb) (a j : Nat) : Nat → Int32 := sm (fun k => if tv T (a + k) j = td T (tn T - 1) j then 1 else 0)
def dfM (T : Tb) (a b : Nat) : Nat → Int32 := sm (fun j => if dfJ T a b j then dfC T a j (b + 1 - a) else 0)
theorem sm_0 {n : Nat} : sm (fun _ => 0) n = 0 := by
  induction n with
  | zero => rfl
  | succ n ih => rw [sm, ih]; rfl
theorem sm_plus {f g : Nat → Int32} {n : Nat} : sm (fun i => f i + g i) n = sm f n + sm g n := by
  induction n with
  | zero => rfl
  | succ n ih =>
    rw [sm, sm, sm, ih, Int32.add_assoc, Int32.add_assoc]
    rw [← Int32.add_assoc (sm g n), Int32.add_comm (sm g n) (f n), Int32.add_assoc (f n)]
theorem sm_swap {f : Nat → Nat → Int32} {m : Nat} : ∀ n : Nat, sm (fun i => sm (fun j => f i j) m) n = sm (fun j => sm (fun i => f i j) n) m := by
  intro n
  induction n with
  | zero => exact sm_0.symm
  | succ n ih =>
    rw [sm, ih]
    show _ = sm (fun j => sm (fun i => f i j) n + f n j) m
    rw [sm_plus]
theorem dfM_eq {T : Tb} {a b : Nat} : dfM T a b 8 = dfV T a b := by
  unfold dfM dfV dfR dfC
  rw [sm_swap]
  apply sm_congr
  intro j hj
  have e : (¬ (shN T a b &&& nmS T (tn T - 1) &&& bitN j) = 0) ↔ dfJ T a b j := by
    rw [has_iff' hj, hb_and, Bool.and_eq_true, ← has_iff' hj, nmS_bit hj]
  by_cases h : dfJ T a b j
  · rw [if_pos h]
    apply sm_congr
    intro k hk
    by_cases h2 : tv T (a + k) j = td T (tn T - 1) j
    · rw [if_pos h2, if_pos ⟨e.mpr h, h2⟩]
    · rw [if_neg h2, if_neg (fun z => h2 z.2)]
  · rw [if_neg h]
    refine (Eq.trans (sm_congr (g := fun _ => 0) ?_) sm_0).symm
    intro k hk
    rw [if_neg (fun z => h (e.mp z.1))]
abbrev oldV (T : Tb) (a j i k : Nat) : Prop := ¬ ∀ z : Nat, z < k → ¬ tv T (a + z) j = tv T i j
