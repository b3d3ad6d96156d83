/-! the state of a table, as a value: seasons, rows, kinds, defaults, the rows' seasons, the values -/
abbrev Tb : Type := Nat × Nat × (Nat → Nat → Int32) × (Nat → Nat → Int32) × (Nat → Nat) × (Nat → Nat → Int32)
def tn (T : Tb) : Nat := T.1
def tr (T : Tb) : Nat := T.2.1
def tk (T : Tb) : Nat → Nat → Int32 := T.2.2.1
def td (T : Tb) : Nat → Nat → Int32 := T.2.2.2.1
def ts (T : Tb) : Nat → Nat := T.2.2.2.2.1
def tv (T : Tb) : Nat → Nat → Int32 := T.2.2.2.2.2
def loK (k : Int32) : Int32 := if k = 2 then -9999 else 0
def hiK (k : Int32) : Int32 := if k = 0 then 1 else if k = 1 then 9 else 9999
abbrev okv (v k : Int32) : Prop := (loK k).toInt ≤ v.toInt ∧ v.toInt ≤ (hiK k).toInt
/-- a value cast to a kind, as the class does it -/
def cstC (k v : Int32) : Int32 := if k = 0 then (if v = 0 then 0 else 1) else if loK k < (if v < hiK k then v else hiK k) then (if v < hiK k then v else hiK k) else loK k
/-- the same, as the reference does it -/
def cst (v k : Int32) : Int32 := if k = 2 then v else if k = 1 then (if v < 0 then 0 else if 9 < v then 9 else v) else (if v = 0 then 0 else 1)
abbrev erP (a : Int32) : Prop := a.toInt ≤ -10001 ∧ ¬ a = -10005
/-- what a table's arrays hold of it -/
def RT (T : Tb) (K D S V : Nat → Int32) : Prop := (∀ q j : Nat, q < tn T → j < 8 → K (q * 8 + j) = tk T q j) ∧ (∀ q j : Nat, q < tn T → j < 8 → D (q * 8 + j) = td T q j) ∧ (∀ i : Nat, i < tr T → S i = nI (ts T i)) ∧ (∀ i j : Nat, i < tr T → j < 8 → ¬ tk T (ts T i) j = -1 → V (i * 8 + j) = tv T i j)
/-- the cells b to b + 4 hold a table -/
def RC (E : xE) (C : xC) (b : Nat) (T : Tb) : Prop := ∃ K D S V : Nat → Int32, C (b) = .inr (3, [.int (nI (tn T)), .ref (E.2.1 (b + 1)), .ref (E.2.1 (b + 2)), .int (nI (tr T)), .ref (E.2.1 (b + 3)), .ref (E.2.1 (b + 4))]) ∧ C (b + 1) = .inl (E.2.2.1 1, 240, .inl K) ∧ C (b + 2) = .inl (E.2.2.1 1, 240, .inl D) ∧ C (b + 3) = .inl (E.2.2.1 1, 24, .inl S) ∧ C (b + 4) = .inl (E.2.2.1 1, 192, .inl V) ∧ RT T K D S V
/-- bounds of a table -/
def WB (T : Tb) : Prop := 1 ≤ tn T ∧ tn T ≤ 30 ∧ tr T ≤ 24 ∧ (∀ i : Nat, i < tr T → ts T i < tn T)
/-- a table as it may be -/
def WF (T : Tb) : Prop := WB T ∧ (∀ q j : Nat, q < tn T → j < 8 → tk T q j = -1 ∨ (xin (tk T q j) 3 ∧ okv (td T q j) (tk T q j))) ∧ (∀ i j : Nat, i < tr T → j < 8 → tk T (ts T i) j = -1 ∨ okv (tv T i j) (tk T (ts T i) j))
theorem RC_same {E : xE} {C C1 : xC} {b : Nat} {T : Tb} (h : RC E C b T) (he : ∀ i : Nat, b ≤ i → i ≤ b + 4 → C1 i = C i) : RC E C1 b T := by
  obtain ⟨K, D, S, V, h0, h1, h2, h3, h4, hR⟩ := h
  exact ⟨K, D, S, V, by rw [he _ (by omega) (by omega)]; exact h0, by rw [he _ (by omega) (by omega)]; exact h1, by rw [he _ (by omega) (by omega)]; exact h2, by rw [he _ (by omega) (by omega)]; exact h3, by rw [he _ (by omega) (by omega)]; exact h4, hR⟩
/-- a sum and a union, term by term -/
def sm (f : Nat → Int32) : Nat → Int32
  | 0 => 0
  | n + 1 => sm f n + f n
def orf (f : Nat → Int32) : Nat → Int32
  | 0 => 0
  | n + 1 => orf f n ||| f n
theorem sm_congr {f g : Nat → Int32} {n : Nat} (h : ∀ i : Nat, i < n → f i = g i) : sm f n = sm g n := by
  induction n with
  | zero => rfl
  | succ n ih => rw [sm, sm, ih (fun i hi => h i (by omega)), h n (by omega)]
theorem orf_congr {f g : Nat → Int32} {n : Nat} (h : ∀ i : Nat, i < n → f i = g i) : orf f n = orf g n := by
  induction n with
  | zero => rfl
  | succ n ih => rw [orf, orf, ih (fun i hi => h i (by omega)), h n (by omega)]
theorem pk_m1b {n : Nat} (h : 1 ≤ n) : nI n + Int32.ofInt (-1) = nI (n - 1) := by
  obtain ⟨k, rfl⟩ : ∃ k, n = k + 1 := ⟨n - 1, by omega⟩
  exact pk_m1 k
theorem pk_addm {n k : Nat} (h : k ≤ n) : nI n + (-(Int32.ofNat k)) = nI (n - k) := by
  rw [← pk_sub h, Int32.sub_eq_add_neg]
  rfl
/-- the names of a season, as a set -/
def bitN (j : Nat) : Int32 := 1 <<< (nI j &&& 31)
def nmS (T : Tb) (q : Nat) : Int32 := orf (fun j => if tk T q j = -1 then 0 else bitN j) 8
/-! what is told of a table -/
def newC (T : Tb) (q : Nat) : Int32 := if q = 0 then 0 else sm (fun j => if ¬ tk T q j = -1 ∧ ¬ tk T q j = tk T (q - 1) j then 1 else 0) 8
def wear (T : Tb) (q : Nat) : Int32 := sm (fun i => if nI (ts T i) = nI q then 1 else 0) (tr T)
/-- the number of ones, as the JDK counts them -/
def bc0 (x : Int32) : Int32 := x - (((x.toUInt32 >>> ((1 : Int32).toUInt32 &&& Int32.toUInt32 31)).toInt32) &&& 1431655765)
def bc1 (x : Int32) : Int32 := (x &&& 858993459) + (((x.toUInt32 >>> ((2 : Int32).toUInt32 &&& Int32.toUInt32 31)).toInt32) &&& 858993459)
def bc2 (x : Int32) : Int32 := (x + ((x.toUInt32 >>> ((4 : Int32).toUInt32 &&& Int32.toUInt32 31)).toInt32)) &&& 252645135
def bc3 (x : Int32) : Int32 := x + ((x.toUInt32 >>> ((8 : Int32).toUInt32 &&& Int32.toUInt32 31)).toInt32)
def bc4 (x : Int32) : Int32 := x + ((x.toUInt32 >>> ((16 : Int32).toUInt32 &&& Int32.toUInt32 31)).toInt32)
def bcn (x : Int32) : Int32 := bc4 (bc3 (bc2 (bc1 (bc0 x)))) &&& 63
def allV (T : Tb) : Int32 := sm (fun i => bcn (nmS T (ts T i))) (tr T)
def evN (T : Tb) : Int32 := orf (fun q => nmS T q) (tn T)
/-- a value of a row read in a season's dress; how it came; whether something of it is lost -/
def rdC (T : Tb) (q i j : Nat) : Int32 := if tk T (ts T i) j = -1 then td T q j else cstC (tk T q j) (tv T i j)
abbrev clos (T : Tb) (q i j : Nat) : Prop := ¬ cstC (tk T (ts T i) j) (cstC (tk T q j) (tv T i j)) = tv T i j
def howC (T : Tb) (q i j : Nat) : Int32 := if tk T (ts T i) j = -1 then 3 else if tk T (ts T i) j = tk T q j then 0 else if clos T q i j then 2 else 1
abbrev lostC (T : Tb) (q i j : Nat) : Prop := ¬ tk T (ts T i) j = -1 ∧ (tk T q j = -1 ∨ clos T q i j)
def lsR (T : Tb) (q i : Nat) : Int32 := sm (fun j => if lostC T q i j then 1 else 0) 8
def lsA (T : Tb) (q : Nat) : Int32 := sm (fun i => lsR T q i) (tr T)
/-- the best season so far, from now down to season q -/
def bsd (T : Tb) : Nat → Nat × Int32
  | 0 => (tn T - 1, lsA T (tn T - 1))
  | k + 1 => if lsA T (tn T - 1 - (k + 1)) < (bsd T k).2 then (tn T - 1 - (k + 1), lsA T (tn T - 1 - (k + 1))) else bsd T k
def bsC (T : Tb) : Nat := (bsd T (tn T - 1)).1
/-- the names that rows a to a + k share -/
def shr (T : Tb) (a : Nat) : Nat → Int32
  | 0 => nmS T (ts T a)
  | k + 1 => shr T a k &&& nmS T (ts T (a + (k + 1)))
def shN (T : Tb) (a b : Nat) : Int32 := if b < a then 0 else shr T a (b - a)
def dfR (T : Tb) (g : Int32) (i : Nat) : Int32 := sm (fun j => if ¬ (g &&& bitN j) = 0 ∧ tv T i j = td T (tn T - 1) j then 1 else 0) 8
def dfV (T : Tb) (a b : Nat) : Int32 := sm (fun k => dfR T (shN T a b &&& nmS T (tn T - 1)) (a + k)) (b + 1 - a)
def i32max (x y : Int32) : Int32 := if x < y then y else x
def i32min (x y : Int32) : Int32 := if y < x then y else x
def wdt (T : Tb) (a j : Nat) : Nat → Int32
  | 0 => 0
  | k + 1 => i32max (wdt T a j k) (tk T (ts T (a + k)) j)
def svs (T : Tb) (a j : Nat) : Nat → Int32 := sm (fun k => tv T (a + k) j)
def lea (T : Tb) (a j : Nat) : Nat → Int32
  | 0 => 9999
  | k + 1 => i32min (lea T a j k) (tv T (a + k) j)
def gre (T : Tb) (a j : Nat) : Nat → Int32
  | 0 => -9999
  | k + 1 => i32max (gre T a j k) (tv T (a + k) j)
abbrev fstV (T : Tb) (a j i : Nat) : Prop := ∀ k : Nat, k < i - a → ¬ tv T (a + k) j = tv T i j
def unl (T : Tb) (a j : Nat) : Nat → Int32 := sm (fun k => if fstV T a j (a + k) then 1 else 0)
/-- the best row from which on, upwards from the last row -/
def bfd (T : Tb) : Nat → Int32 × Nat × Int32
  | 0 => (255, 0, 0)
  | k + 1 => let g := (bfd T k).1 &&& nmS T (ts T (tr T - (k + 1))); if (bfd T k).2.2 ≤ bcn g then (g, tr T - (k + 1), bcn g) else (g, (bfd T k).2.1, (bfd T k).2.2)
def bfC (T : Tb) : Nat := (bfd T (tr T)).2.1
theorem dn_lt {r : Nat} (h : r < 2 ^ 31) : nI r - 1 < 0 ↔ r = 0 := by
  constructor
  · intro hz
    cases r with
    | zero => rfl
    | succ k =>
      rw [nI_pred] at hz
      exact absurd hz (nI_pos (by omega))
  · intro hz
    subst hz
    decide
theorem dn_eq {r : Nat} (h : 1 ≤ r) : nI r - 1 = nI (r - 1) := by
  obtain ⟨k, rfl⟩ : ∃ k, r = k + 1 := ⟨r - 1, by omega⟩
  exact nI_pred k
theorem dn_inc (x : Int32) : x + Int32.ofInt (-1) = x - 1 := by
  rw [Int32.sub_eq_add_neg]
  rfl
/-! sets of names, bit by bit -/
def hb (x : Int32) (j : Nat) : Bool := x.toBitVec.getLsbD j
theorem hb_and (x y : Int32) (j : Nat) : hb (x &&& y) j = (hb x j && hb y j) := by
  unfold hb
  rw [Int32.toBitVec_and, BitVec.getLsbD_and]
theorem hb_or (x y : Int32) (j : Nat) : hb (x ||| y) j = (hb x j || hb y j) := by
  unfold hb
  rw [Int32.toBitVec_or, BitVec.getLsbD_or]
theorem hb_zero (j : Nat) : hb 0 j = false := by
  unfold hb
  show (0#32).getLsbD j = false
  simp
theorem hb_bitN : ∀ i : Nat, i < 8 → ∀ j : Nat, j < 8 → hb (bitN i) j = decide (i = j) := by decide +kernel
theorem has_iff {x : Int32} {j : Nat} (h : j < 8) : (x &&& bitN j) = 0 ↔ hb x j = false := by
  have e1 : ∀ j : Nat, j < 8 → (bitN j).toBitVec = BitVec.twoPow 32 j := by decide +kernel
  have e2 : ∀ j : Nat, j < 8 → ¬ BitVec.twoPow 32 j = 0#32 := by decide +kernel
  unfold hb
  rw [← Int32.toBitVec_inj, Int32.toBitVec_and, e1 j h, BitVec.and_twoPow]
  show (if x.toBitVec.getLsbD j = true then BitVec.twoPow 32 j else 0#32) = 0#32 ↔ _
  cases hz : x.toBitVec.getLsbD j with
  | false => exact ⟨fun _ => rfl, fun _ => by rw [if_neg (by decide)]⟩
  | true => exact ⟨fun z => by rw [if_pos rfl] at z; exact absurd z (e2 j h), fun z => absurd z (by decide)⟩
theorem has_iff' {x : Int32} {j : Nat} (h : j < 8) : ¬ (x &&& bitN j) = 0 ↔ hb x j = true := by
  rw [has_iff h]
  cases hb x j <;> simp
theorem and_has_l {x y : Int32} {j : Nat} (h : j < 8) (hz : ¬ ((x &&& y) &&& bitN j) = 0) : ¬ (x &&& bitN j) = 0 := by
  rw [has_iff' h] at hz ⊢
  rw [hb_and] at hz
  cases hx : hb x j
  · rw [hx] at hz; exact absurd hz (by simp)
  · rfl
theorem orf_bit {f : Nat → Int32} {j : Nat} : ∀ n : Nat, hb (orf f n) j = true ↔ ∃ i : Nat, i < n ∧ hb (f i) j = true := by
  intro n
  induction n with
  | zero =>
    rw [orf, hb_zero]
    exact ⟨fun z => absurd z (by decide), fun ⟨i, hi, _⟩ => absurd hi (Nat.not_lt_zero _)⟩
  | succ n ih =>
    rw [orf, hb_or, Bool.or_eq_true, ih]
    constructor
    · rintro (⟨i, hi, h⟩ | h)
      · exact ⟨i, by omega, h⟩
      · exact ⟨n, by omega, h⟩
    · rintro ⟨i, hi, h⟩
      rcases Nat.lt_or_ge i n with q1 | q1
      · exact Or.inl ⟨i, q1, h⟩
      · rw [show i = n by omega] at h
        exact Or.inr h
theorem nmS_bit {T : Tb} {q j : Nat} (hj : j < 8) : hb (nmS T q) j = true ↔ ¬ tk T q j = -1 := by
  rw [nmS, orf_bit]
  constructor
  · rintro ⟨i, hi, h⟩
    by_cases hc : tk T q i = -1
    · rw [if_pos hc, hb_zero] at h
      exact absurd h (by decide)
    · rw [if_neg hc, hb_bitN i hi j hj] at h
      rw [← of_decide_eq_true h]
      exact hc
  · intro h
    exact ⟨j, hj, by rw [if_neg h, hb_bitN j hj j hj]; exact decide_eq_true rfl⟩
theorem shr_bit {T : Tb} {a j : Nat} (hj : j < 8) : ∀ k : Nat, hb (shr T a k) j = true ↔ ∀ z : Nat, z ≤ k → ¬ tk T (ts T (a + z)) j = -1 := by
  intro k
  induction k with
  | zero =>
    rw [shr, nmS_bit hj]
    exact ⟨fun h z hz => by rw [show z = 0 by omega]; exact h, fun h => h 0 (Nat.le_refl 0)⟩
  | succ k ih =>
    rw [shr, hb_and, Bool.and_eq_true, ih, nmS_bit hj]
    constructor
    · rintro ⟨h1, h2⟩ z hz
      rcases Nat.lt_or_ge z (k + 1) with q1 | q1
      · exact h1 z (by omega)
      · rw [show z = k + 1 by omega]
        exact h2
    · intro h
      exact ⟨fun z hz => h z (by omega), h (k + 1) (Nat.le_refl _)⟩
theorem shN_has {T : Tb} {a b i j : Nat} (hj : j < 8) (h1 : a ≤ i) (h2 : i ≤ b) (h : ¬ (shN T a b &&& bitN j) = 0) : ¬ tk T (ts T i) j = -1 := by
  rw [has_iff' hj, shN, if_neg (by omega), shr_bit hj] at h
  have := h (i - a) (by omega)
  rw [show a + (i - a) = i by omega] at this
  exact this
/-! what the acts make of a table -/
def ix (x : Int32) : Nat := x.toNatClampNeg
theorem ix_nI {j : Nat} (h : j < 2 ^ 31) : ix (nI j) = j := nI_clamp h
def bgn (T : Tb) (j : Nat) (k d : Int32) : Tb := (tn T + 1, tr T, fun q i => if q = tn T then (if i = j then k else tk T (tn T - 1) i) else tk T q i, fun q i => if q = tn T then (if i = j then d else td T (tn T - 1) i) else td T q i, ts T, tv T)
def wrt (T : Tb) : Tb := (tn T, tr T + 1, tk T, td T, fun i => if i = tr T then tn T - 1 else ts T i, fun i j => if i = tr T then td T (tn T - 1) j else tv T i j)
def setv (T : Tb) (i j : Nat) (v : Int32) : Tb := (tn T, tr T, tk T, td T, ts T, fun i2 j2 => if i2 = i ∧ j2 = j then v else tv T i2 j2)
def rmv (T : Tb) (i : Nat) : Tb := (tn T, tr T - 1, tk T, td T, fun i2 => if i2 < i then ts T i2 else ts T (i2 + 1), fun i2 j => if i2 < i then tv T i2 j else tv T (i2 + 1) j)
def fgt (T : Tb) (n : Nat) : Tb := (tn T - n, tr T, fun q j => tk T (q + n) j, fun q j => td T (q + n) j, fun i => ts T i - n, tv T)
def dre (T : Tb) (i : Nat) : Tb := (tn T, tr T, tk T, td T, fun i2 => if i2 = i then tn T - 1 else ts T i2, fun i2 j => if i2 = i then rdC T (tn T - 1) i j else tv T i2 j)
def mkP (T : Tb) (a : Nat) : Nat → Tb
  | 0 => T
  | k + 1 => if ts T (a + k) = tn T - 1 then mkP T a k else dre (mkP T a k) (a + k)
def mkL (T : Tb) (a : Nat) : Nat → Int32 := sm (fun k => if ts T (a + k) = tn T - 1 then 0 else lsR T (tn T - 1) (a + k))
abbrev mkN (T : Tb) (a n : Nat) : Prop := ∀ k : Nat, k < n → ts T (a + k) = tn T - 1
def fgF (T : Tb) : Nat → Nat
  | 0 => tn T - 1
  | k + 1 => if ts T k < fgF T k then ts T k else fgF T k
def fgm (T : Tb) : Nat := fgF T (tr T)
def sAdd (T : Tb) (x k d : Int32) : Int32 × Tb := if xin x 8 then (if xin k 3 ∧ okv d k then (if tk T (tn T - 1) (ix x) = -1 then (if tn T < 30 then (nI (tn T), bgn T (ix x) k d) else (-10003, T)) else (-10004, T)) else (-10002, T)) else (-10001, T)
def sDrop (T : Tb) (x : Int32) : Int32 × Tb := if xin x 8 ∧ ¬ tk T (tn T - 1) (ix x) = -1 then (if tn T < 30 then (nI (tn T), bgn T (ix x) (-1) 0) else (-10003, T)) else (-10001, T)
def sKind (T : Tb) (x k : Int32) : Int32 × Tb := if xin x 8 ∧ ¬ tk T (tn T - 1) (ix x) = -1 then (if xin k 3 then (if tn T < 30 then (if tk T (tn T - 1) (ix x) = k then (-10005, T) else (nI (tn T), bgn T (ix x) k (cstC k (td T (tn T - 1) (ix x))))) else (-10003, T)) else (-10002, T)) else (-10001, T)
def sRow (T : Tb) : Int32 × Tb := if tr T < 24 then (nI (tr T), wrt T) else (-10003, T)
def sSet (T : Tb) (x y v : Int32) : Int32 × Tb := if (xin x (tr T) ∧ xin y 8) ∧ ¬ tk T (ts T (ix x)) (ix y) = -1 then (if okv v (tk T (ts T (ix x)) (ix y)) then (if tv T (ix x) (ix y) = v then (-10005, T) else (tv T (ix x) (ix y), setv T (ix x) (ix y) v)) else (-10002, T)) else (-10001, T)
def sRem (T : Tb) (x : Int32) : Int32 × Tb := if xin x (tr T) then (nI (tr T - 1), rmv T (ix x)) else (-10001, T)
def sMk (T : Tb) (x y : Int32) : Int32 × Tb := if xin x (tr T) ∧ xin y (tr T) then (if ix y < ix x then (-10002, T) else if mkN T (ix x) (ix y + 1 - ix x) then (-10005, T) else (mkL T (ix x) (ix y + 1 - ix x), mkP T (ix x) (ix y + 1 - ix x))) else (-10001, T)
def sFor (T : Tb) : Int32 × Tb := if fgm T = 0 then (-10005, T) else (nI (fgm T), fgt T (fgm T))
/-! arrays behind the acts -/
theorem bgnA {A : Nat → Int32} {f : Nat → Nat → Int32} {n j : Nat} {v : Int32} (hn : 1 ≤ n) (hj : j < 8) (h : ∀ q i : Nat, q < n → i < 8 → A (q * 8 + i) = f q i) : ∀ q i : Nat, q < n + 1 → i < 8 → upd (va_cpy A A ((n - 1) * 8) ((n - 1) * 8 + 8) 8) ((n - 1) * 8 + 8 + j) v (q * 8 + i) = if q = n then (if i = j then v else f (n - 1) i) else f q i := by
  intro q i hq hi
  by_cases e1 : q = n
  · rw [if_pos e1]
    by_cases e2 : i = j
    · rw [if_pos e2, show q * 8 + i = (n - 1) * 8 + 8 + j by omega, pk_us]
    · rw [if_neg e2, pk_un (by omega), pk_cpy_in (by omega) (by omega), show (n - 1) * 8 + (q * 8 + i - ((n - 1) * 8 + 8)) = (n - 1) * 8 + i by omega]
      exact h _ _ (by omega) hi
  · rw [if_neg e1, pk_un (by omega), pk_cpy_out (by omega)]
    exact h _ _ (by omega) hi
theorem cpyA {A B : Nat → Int32} {n z : Nat} (h : z < n) : va_cpy A B 0 0 n z = A z := by
  rw [pk_cpy_in (by omega) (by omega)]
  rw [show 0 + (z - 0) = z by omega]
def rawT (n r : Nat) (K D : Nat → Int32) (s : Nat → Nat) (V : Nat → Int32) : Tb := (n, r, fun q j => K (q * 8 + j), fun q j => D (q * 8 + j), s, fun i j => V (i * 8 + j))
theorem RC_raw {E : xE} {C : xC} {b n r : Nat} {K D S V : Nat → Int32} {s : Nat → Nat} (h0 : C (b) = .inr (3, [.int (nI n), .ref (E.2.1 (b + 1)), .ref (E.2.1 (b + 2)), .int (nI r), .ref (E.2.1 (b + 3)), .ref (E.2.1 (b + 4))])) (h1 : C (b + 1) = .inl (E.2.2.1 1, 240, .inl K)) (h2 : C (b + 2) = .inl (E.2.2.1 1, 240, .inl D)) (h3 : C (b + 3) = .inl (E.2.2.1 1, 24, .inl S)) (h4 : C (b + 4) = .inl (E.2.2.1 1, 192, .inl V)) (hs : ∀ i : Nat, i < r → S i = nI (s i)) : RC E C b (rawT n r K D s V) :=
  ⟨K, D, S, V, h0, h1, h2, h3, h4, fun _ _ _ _ => rfl, fun _ _ _ _ => rfl, hs, fun _ _ _ _ _ => rfl⟩
/-- two tables that show the same -/
def eqv (T U : Tb) : Prop := tn T = tn U ∧ tr T = tr U ∧ (∀ q j : Nat, q < tn T → j < 8 → tk T q j = tk U q j) ∧ (∀ q j : Nat, q < tn T → j < 8 → td T q j = td U q j) ∧ (∀ i : Nat, i < tr T → ts T i = ts U i) ∧ (∀ i j : Nat, i < tr T → j < 8 → ¬ tk T (ts T i) j = -1 → tv T i j = tv U i j)
theorem bgnR {T : Tb} {K D S V : Nat → Int32} {j : Nat} {k d : Int32} (h : RT T K D S V) (hw : WB T) (hj : j < 8) : RT (bgn T j k d) (upd (va_cpy K K ((tn T - 1) * 8) ((tn T - 1) * 8 + 8) 8) ((tn T - 1) * 8 + 8 + j) k) (upd (va_cpy D D ((tn T - 1) * 8) ((tn T - 1) * 8 + 8) 8) ((tn T - 1) * 8 + 8 + j) d) S V := by
  obtain ⟨h1, h2, h3, h4⟩ := h
  obtain ⟨w1, w2, w3, w4⟩ := hw
  refine ⟨bgnA w1 hj h1, bgnA w1 hj h2, h3, fun i j1 q1 q2 q3 => h4 i j1 q1 q2 (fun z => q3 ?_)⟩
  have hi := w4 i q1
  show (if ts T i = tn T then (if j1 = j then k else tk T (tn T - 1) j1) else tk T (ts T i) j1) = -1
  rw [if_neg (by omega)]
  exact z
theorem wrtR {T : Tb} {K D S V : Nat → Int32} (h : RT T K D S V) (hw : WB T) : RT (wrt T) K D (upd S (tr T) (nI (tn T - 1))) (va_cpy D V ((tn T - 1) * 8) (tr T * 8) 8) := by
  obtain ⟨h1, h2, h3, h4⟩ := h
  obtain ⟨w1, w2, w3, w4⟩ := hw
  refine ⟨h1, h2, fun i hi => ?_, fun i j hi hj hc => ?_⟩
  · show upd S (tr T) (nI (tn T - 1)) i = nI (if i = tr T then tn T - 1 else ts T i)
    by_cases e : i = tr T
    · rw [if_pos e, e, pk_us]
    · rw [if_neg e, pk_un e]
      have hi2 : i < tr T + 1 := hi
      exact h3 i (by omega)
  · have hi2 : i < tr T + 1 := hi
    have hc2 : ¬ tk T (if i = tr T then tn T - 1 else ts T i) j = -1 := hc
    show va_cpy D V ((tn T - 1) * 8) (tr T * 8) 8 (i * 8 + j) = if i = tr T then td T (tn T - 1) j else tv T i j
    by_cases e : i = tr T
    · rw [if_pos e, pk_cpy_in (by omega) (by omega), show (tn T - 1) * 8 + (i * 8 + j - tr T * 8) = (tn T - 1) * 8 + j by omega]
      exact h2 _ _ (by omega) hj
    · rw [if_neg e] at hc2 ⊢
      rw [pk_cpy_out (by omega)]
      exact h4 i j (by omega) hj hc2
theorem setR {T : Tb} {K D S V : Nat → Int32} {i j : Nat} {v : Int32} (h : RT T K D S V) (hj : j < 8) : RT (setv T i j v) K D S (upd V (i * 8 + j) v) := by
  obtain ⟨h1, h2, h3, h4⟩ := h
  refine ⟨h1, h2, h3, fun i2 j2 hi hj2 hc => ?_⟩
  show upd V (i * 8 + j) v (i2 * 8 + j2) = if i2 = i ∧ j2 = j then v else tv T i2 j2
  by_cases e : i2 = i ∧ j2 = j
  · rw [if_pos e, e.1, e.2, pk_us]
  · rw [if_neg e, pk_un (fun z => e ⟨by omega, by omega⟩)]
    exact h4 i2 j2 hi hj2 hc
theorem rmvR {T : Tb} {K D S V : Nat → Int32} {i : Nat} (h : RT T K D S V) (hi : i < tr T) : RT (rmv T i) K D (va_cpy S S (i + 1) i (tr T - i - 1)) (va_cpy V V ((i + 1) * 8) (i * 8) ((tr T - i - 1) * 8)) := by
  obtain ⟨h1, h2, h3, h4⟩ := h
  refine ⟨h1, h2, fun i2 hi2 => ?_, fun i2 j hi2 hj hc => ?_⟩
  · have hi3 : i2 < tr T - 1 := hi2
    show va_cpy S S (i + 1) i (tr T - i - 1) i2 = nI (if i2 < i then ts T i2 else ts T (i2 + 1))
    by_cases e : i2 < i
    · rw [if_pos e, pk_cpy_out (by omega)]
      exact h3 i2 (by omega)
    · rw [if_neg e, pk_cpy_in (by omega) (by omega), show i + 1 + (i2 - i) = i2 + 1 by omega]
      exact h3 _ (by omega)
  · have hi3 : i2 < tr T - 1 := hi2
    have hc2 : ¬ tk T (if i2 < i then ts T i2 else ts T (i2 + 1)) j = -1 := hc
    show va_cpy V V ((i + 1) * 8) (i * 8) ((tr T - i - 1) * 8) (i2 * 8 + j) = if i2 < i then tv T i2 j else tv T (i2 + 1) j
    by_cases e : i2 < i
    · rw [if_pos e] at hc2 ⊢
      rw [pk_cpy_out (by omega)]
      exact h4 i2 j (by omega) hj hc2
    · rw [if_neg e] at hc2 ⊢
      rw [pk_cpy_in (by omega) (by omega), show (i + 1) * 8 + (i2 * 8 + j - i * 8) = (i2 + 1) * 8 + j by omega]
      exact h4 _ j (by omega) hj hc2
theorem fgtR {T : Tb} {K D S V S2 : Nat → Int32} {m : Nat} (h : RT T K D S V) (hw : WB T) (hm : m < tn T) (h0 : ∀ i : Nat, i < tr T → m ≤ ts T i) (hs : ∀ i : Nat, i < tr T → S2 i = nI (ts T i - m)) : RT (fgt T m) (va_cpy K K (m * 8) 0 ((tn T - m) * 8)) (va_cpy D D (m * 8) 0 ((tn T - m) * 8)) S2 V := by
  obtain ⟨h1, h2, h3, h4⟩ := h
  obtain ⟨w1, w2, w3, w4⟩ := hw
  refine ⟨fun q j hq hj => ?_, fun q j hq hj => ?_, hs, fun i j hi hj hc => ?_⟩
  · have hq2 : q < tn T - m := hq
    show va_cpy K K (m * 8) 0 ((tn T - m) * 8) (q * 8 + j) = tk T (q + m) j
    rw [pk_cpy_in (by omega) (by omega), show m * 8 + (q * 8 + j - 0) = (q + m) * 8 + j by omega]
    exact h1 _ _ (by omega) hj
  · have hq2 : q < tn T - m := hq
    show va_cpy D D (m * 8) 0 ((tn T - m) * 8) (q * 8 + j) = td T (q + m) j
    rw [pk_cpy_in (by omega) (by omega), show m * 8 + (q * 8 + j - 0) = (q + m) * 8 + j by omega]
    exact h2 _ _ (by omega) hj
  · have hi2 : i < tr T := hi
    have hc2 : ¬ tk T (ts T i - m + m) j = -1 := hc
    rw [show ts T i - m + m = ts T i by have := h0 i hi2; omega] at hc2
    exact h4 i j hi2 hj hc2
/-- a row made over, its values written, the season last -/
theorem dreR {T : Tb} {K D S V V2 : Nat → Int32} {i : Nat} (h : RT T K D S V) (hV : ∀ z : Nat, z < i * 8 ∨ i * 8 + 8 ≤ z → V2 z = V z) (hd : ∀ j : Nat, j < 8 → ¬ tk T (tn T - 1) j = -1 → V2 (i * 8 + j) = rdC T (tn T - 1) i j) : RT (dre T i) K D (upd S i (nI (tn T - 1))) V2 := by
  obtain ⟨h1, h2, h3, h4⟩ := h
  refine ⟨h1, h2, fun i2 hi => ?_, fun i2 j hi hj hc => ?_⟩
  · show upd S i (nI (tn T - 1)) i2 = nI (if i2 = i then tn T - 1 else ts T i2)
    by_cases e : i2 = i
    · rw [if_pos e, e, pk_us]
    · rw [if_neg e, pk_un e]
      exact h3 i2 hi
  · have hc2 : ¬ tk T (if i2 = i then tn T - 1 else ts T i2) j = -1 := hc
    show V2 (i2 * 8 + j) = if i2 = i then rdC T (tn T - 1) i j else tv T i2 j
    by_cases e : i2 = i
    · rw [if_pos e] at hc2 ⊢
      rw [e]
      exact hd j hj hc2
    · rw [if_neg e] at hc2 ⊢
      rw [hV _ (by omega)]
      exact h4 i2 j hi hj hc2
theorem fgF_le {T : Tb} : ∀ k : Nat, fgF T k ≤ tn T - 1 ∧ ∀ i : Nat, i < k → fgF T k ≤ ts T i := by
  intro k
  induction k with
  | zero => exact ⟨Nat.le_refl _, fun i hi => absurd hi (Nat.not_lt_zero _)⟩
  | succ k ih =>
    rw [fgF]
    by_cases e : ts T k < fgF T k
    · rw [if_pos e]
      refine ⟨by omega, fun i hi => ?_⟩
      rcases Nat.lt_or_ge i k with q1 | q1
      · have := ih.2 i q1
        omega
      · rw [show i = k by omega]
        exact Nat.le_refl _
    · rw [if_neg e]
      refine ⟨ih.1, fun i hi => ?_⟩
      rcases Nat.lt_or_ge i k with q1 | q1
      · exact ih.2 i q1
      · rw [show i = k by omega]
        omega
theorem mkP_out {T : Tb} {a : Nat} : ∀ k : Nat, tn (mkP T a k) = tn T ∧ tr (mkP T a k) = tr T ∧ tk (mkP T a k) = tk T ∧ td (mkP T a k) = td T ∧ (∀ i : Nat, (i < a ∨ a + k ≤ i) → ts (mkP T a k) i = ts T i ∧ tv (mkP T a k) i = tv T i) := by
  intro k
  induction k with
  | zero => exact ⟨rfl, rfl, rfl, rfl, fun i _ => ⟨rfl, rfl⟩⟩
  | succ k ih =>
    obtain ⟨i1, i2, i3, i4, i5⟩ := ih
    rw [mkP]
    by_cases e : ts T (a + k) = tn T - 1
    · rw [if_pos e]
      exact ⟨i1, i2, i3, i4, fun i hi => i5 i (by omega)⟩
    · rw [if_neg e]
      refine ⟨i1, i2, i3, i4, fun i hi => ?_⟩
      obtain ⟨e1, e2⟩ := i5 i (by omega)
      refine ⟨?_, ?_⟩
      · show (if i = a + k then _ else ts (mkP T a k) i) = _
        rw [if_neg (by omega), e1]
      · show (fun j => if i = a + k then _ else tv (mkP T a k) i j) = _
        funext j
        rw [if_neg (by omega), e2]
theorem mkP_WB {T : Tb} {a : Nat} (hw : WB T) : ∀ k : Nat, WB (mkP T a k) := by
  intro k
  induction k with
  | zero => exact hw
  | succ k ih =>
    rw [mkP]
    by_cases e : ts T (a + k) = tn T - 1
    · rw [if_pos e]
      exact ih
    · rw [if_neg e]
      obtain ⟨i1, i2, i3, i4⟩ := ih
      refine ⟨i1, i2, i3, fun i hi => ?_⟩
      show (if i = a + k then tn (mkP T a k) - 1 else ts (mkP T a k) i) < tn (mkP T a k)
      by_cases e2 : i = a + k
      · rw [if_pos e2]; omega
      · rw [if_neg e2]; exact i4 i hi
theorem lsR_mkP {T : Tb} {a k : Nat} : lsR (mkP T a k) (tn T - 1) (a + k) = lsR T (tn T - 1) (a + k) := by
  obtain ⟨i1, i2, i3, i4, i5⟩ := mkP_out (T := T) (a := a) k
  obtain ⟨e1, e2⟩ := i5 (a + k) (by omega)
  unfold lsR lostC clos
  rw [i3, e1, e2]
def wvT (T : Tb) (V : Nat → Int32) : Tb := (tn T, tr T, tk T, td T, ts T, fun i j => V (i * 8 + j))
theorem rdC_wv {T : Tb} {V : Nat → Int32} {q i j : Nat} (h : ¬ tk T (ts T i) j = -1 → V (i * 8 + j) = tv T i j) : rdC (wvT T V) q i j = rdC T q i j := by
  show (if tk T (ts T i) j = -1 then td T q j else cstC (tk T q j) (V (i * 8 + j))) = (if tk T (ts T i) j = -1 then td T q j else cstC (tk T q j) (tv T i j))
  by_cases e : tk T (ts T i) j = -1
  · rw [if_pos e, if_pos e]
  · rw [if_neg e, if_neg e, h e]
theorem nI_min {a b : Nat} (ha : a < 2 ^ 31) (hb : b < 2 ^ 31) : (if nI a < nI b then nI a else nI b) = nI (if a < b then a else b) := by
  by_cases e : a < b
  · rw [if_pos e, if_pos ((nI_ltI ha hb).mpr e)]
  · rw [if_neg e, if_neg (fun z => e ((nI_ltI ha hb).mp z))]
theorem mkP_all {E : xE} {C : xC} {b : Nat} {T : Tb} {a n k : Nat} (hk : k = n) (h : mkN T a n) (hR : RC E C b (mkP T a k)) : RC E C b T := by
  subst hk
  have e : ∀ z : Nat, z ≤ k → mkP T a z = T := by
    intro z
    induction z with
    | zero => intro _; rfl
    | succ z ih =>
      intro hz
      rw [mkP, if_pos (h z (by omega))]
      exact ih (by omega)
  rw [e k (Nat.le_refl _)] at hR
  exact hR
theorem sm_pos {f : Nat → Int32} {n : Nat} (h : f n = 1) : sm f n + 1 = sm f (n + 1) := by rw [sm, h]
theorem sm_zero {f : Nat → Int32} {n : Nat} (h : f n = 0) : sm f n = sm f (n + 1) := by rw [sm, h, Int32.add_zero]
theorem sm_add {f : Nat → Int32} {n : Nat} {v : Int32} (h : f n = v) : sm f n + v = sm f (n + 1) := by rw [sm, h]
theorem smx_pos {f : Nat → Int32} {n : Nat} {x : Int32} (h : f n = 1) : x + sm f n + 1 = x + sm f (n + 1) := by rw [sm, h, Int32.add_assoc]
theorem smx_zero {f : Nat → Int32} {n : Nat} {x : Int32} (h : f n = 0) : x + sm f n = x + sm f (n + 1) := by rw [sm, h, Int32.add_zero]
