/-! what the telling calls answer -/
def rCol (T : Tb) (q x w : Int32) : Int32 := if xin q (tn T) ∧ xin x 8 then (if xin w 2 then (if tk T (ix q) (ix x) = -1 then -10005 else if w = 0 then tk T (ix q) (ix x) else td T (ix q) (ix x)) else -10002) else -10001
def rSea (T : Tb) (q w : Int32) : Int32 := if xin q (tn T) then (if w = 0 then bcn (nmS T (ix q)) else if w = 1 then nmS T (ix q) else if w = 2 then wear T (ix q) else if w = 3 then newC T (ix q) else -10002) else -10001
def rVal (T : Tb) (x y : Int32) : Int32 := if xin x (tr T) ∧ xin y 8 then (if tk T (ts T (ix x)) (ix y) = -1 then -10005 else tv T (ix x) (ix y)) else -10001
def rRead (T : Tb) (x q y w : Int32) : Int32 := if (xin x (tr T) ∧ xin q (tn T)) ∧ xin y 8 then (if xin w 2 then (if tk T (ix q) (ix y) = -1 then -10005 else if w = 0 then rdC T (ix q) (ix x) (ix y) else howC T (ix q) (ix x) (ix y)) else -10002) else -10001
def rSof (T : Tb) (x : Int32) : Int32 := if xin x (tr T) then nI (ts T (ix x)) else -10001
def rView (T : Tb) (x y w : Int32) : Int32 := if xin x (tr T) ∧ xin y (tr T) then (if w = 0 then shN T (ix x) (ix y) else if w = 1 then nI (ix y + 1 - ix x) else if w = 2 then dfV T (ix x) (ix y) else -10002) else -10001
def vcV (T : Tb) (a b j : Nat) (w : Int32) : Int32 := if w = 0 then wdt T a j (b + 1 - a) else if w = 1 then svs T a j (b + 1 - a) else if w = 2 then lea T a j (b + 1 - a) else if w = 3 then gre T a j (b + 1 - a) else unl T a j (b + 1 - a)
def rVC (T : Tb) (x y z w : Int32) : Int32 := if (xin x (tr T) ∧ xin y (tr T)) ∧ xin z 8 then (if xin w 5 then (if (shN T (ix x) (ix y) &&& bitN (ix z)) = 0 then -10005 else vcV T (ix x) (ix y) (ix z) w) else -10002) else -10001
def rBf (T : Tb) : Int32 := if tr T = 0 then -10005 else nI (bfC T)
def rBs (T : Tb) (w : Int32) : Int32 := if xin w 2 then (if w = 0 then nI (bsC T) else lsA T (bsC T)) else -10002
def rCt (T : Tb) (hn ln : Nat) (w : Int32) : Int32 := if w = 0 then nI (tn T - 1) else if w = 1 then bcn (nmS T (tn T - 1)) else if w = 2 then nI (tr T) else if w = 3 then wear T (tn T - 1) else if w = 4 then allV T else if w = 5 then lsA T (tn T - 1) else if w = 6 then evN T else if w = 7 then nI hn else if w = 8 then nI ln else -10002
/-- the reference's least and greatest: they begin with the first row's value -/
def leM (T : Tb) (a j : Nat) : Nat → Int32
  | 0 => tv T a j
  | k + 1 => if tv T (a + k) j < leM T a j k then tv T (a + k) j else leM T a j k
def grM (T : Tb) (a j : Nat) : Nat → Int32
  | 0 => tv T a j
  | k + 1 => if grM T a j k < tv T (a + k) j then tv T (a + k) j else grM T a j k
theorem i32irr {x : Int32} : ¬ x < x := by
  rw [i32lt]
  omega
theorem leM_eq {T : Tb} {a j : Nat} (h : ∀ i : Nat, rng (tv T (a + i) j) ∨ True) (h0 : rng (tv T a j)) : ∀ k : Nat, leM T a j (k + 1) = lea T a j (k + 1) := by
  intro k
  induction k with
  | zero =>
    show (if tv T (a + 0) j < tv T a j then tv T (a + 0) j else tv T a j) = (if tv T (a + 0) j < 9999 then tv T (a + 0) j else 9999)
    rw [Nat.add_zero, if_neg i32irr]
    by_cases e : tv T a j < 9999
    · rw [if_pos e]
    · rw [if_neg e, ← Int32.toInt_inj]
      rw [i32lt] at e
      have e9 : (9999 : Int32).toInt = 9999 := by decide
      have := h0.2
      omega
  | succ k ih =>
    show (if tv T (a + (k + 1)) j < leM T a j (k + 1) then tv T (a + (k + 1)) j else leM T a j (k + 1)) = i32min (lea T a j (k + 1)) (tv T (a + (k + 1)) j)
    rw [ih]
    rfl
theorem grM_eq {T : Tb} {a j : Nat} (h0 : rng (tv T a j)) : ∀ k : Nat, grM T a j (k + 1) = gre T a j (k + 1) := by
  intro k
  induction k with
  | zero =>
    show (if tv T a j < tv T (a + 0) j then tv T (a + 0) j else tv T a j) = (if -9999 < tv T (a + 0) j then tv T (a + 0) j else -9999)
    rw [Nat.add_zero, if_neg i32irr]
    by_cases e : -9999 < tv T a j
    · rw [if_pos e]
    · rw [if_neg e, ← Int32.toInt_inj]
      rw [i32lt] at e
      have e9 : (-9999 : Int32).toInt = -9999 := by decide
      have := h0.1
      omega
  | succ k ih =>
    show (if grM T a j (k + 1) < tv T (a + (k + 1)) j then tv T (a + (k + 1)) j else grM T a j (k + 1)) = i32max (gre T a j (k + 1)) (tv T (a + (k + 1)) j)
    rw [ih]
    rfl
/-- the reference's search for the best row, downwards in what is left -/
def bfM (T : Tb) : Nat → Int32 × Int32
  | 0 => (-10005, -1)
  | k + 1 => (if (bfM T k).2 < bcn (shN T k (tr T - 1)) then nI k else (bfM T k).1, if (bfM T k).2 < bcn (shN T k (tr T - 1)) then bcn (shN T k (tr T - 1)) else (bfM T k).2)
/-- the same for the seasons -/
def bsM (T : Tb) : Nat → Nat × Int32
  | 0 => (0, lsA T 0)
  | k + 1 => (if lsA T (k + 1) ≤ (bsM T k).2 then k + 1 else (bsM T k).1, if lsA T (k + 1) ≤ (bsM T k).2 then lsA T (k + 1) else (bsM T k).2)
theorem bcn_pos : ∀ w : Nat, w < 256 → (0 : Int) ≤ (bcn (nI w)).toInt := by decide +kernel
theorem bcn_ge {x : Int32} (h : m8 x) : (0 : Int) ≤ (bcn x).toInt := by
  obtain ⟨w, hw, rfl⟩ := m8_nI h
  exact bcn_pos w hw
/-- what is found: the first of the greatest ones -/
theorem bfM_is {T : Tb} : ∀ k : Nat, 1 ≤ k → ∃ b : Nat, b < k ∧ bfM T k = (nI b, bcn (shN T b (tr T - 1))) ∧ (∀ i : Nat, i < k → (bcn (shN T i (tr T - 1))).toInt ≤ (bcn (shN T b (tr T - 1))).toInt) ∧ ∀ i : Nat, i < b → (bcn (shN T i (tr T - 1))).toInt < (bcn (shN T b (tr T - 1))).toInt := by
  intro k
  induction k with
  | zero => intro h; exact absurd h (by omega)
  | succ k ih =>
    intro _
    rcases Nat.eq_zero_or_pos k with e | e
    · subst e
      refine ⟨0, by omega, ?_, fun i hi => by rw [show i = 0 by omega]; exact Int.le_refl _, fun i hi => absurd hi (Nat.not_lt_zero _)⟩
      have hp : (-1 : Int32) < bcn (shN T 0 (tr T - 1)) := by
        rw [i32lt, show (-1 : Int32).toInt = -1 by decide]
        have := bcn_ge (m8_shN (T := T) (a := 0) (b := tr T - 1))
        omega
      show (if (-1 : Int32) < bcn (shN T 0 (tr T - 1)) then nI 0 else -10005, if (-1 : Int32) < bcn (shN T 0 (tr T - 1)) then bcn (shN T 0 (tr T - 1)) else -1) = _
      rw [if_pos hp, if_pos hp]
    · obtain ⟨b, b1, b2, b3, b4⟩ := ih e
      rw [bfM, b2]
      by_cases c : bcn (shN T b (tr T - 1)) < bcn (shN T k (tr T - 1))
      · refine ⟨k, by omega, by simp only [if_pos c], fun i hi => ?_, fun i hi => ?_⟩
        · rcases Nat.lt_or_ge i k with q1 | q1
          · have := b3 i q1
            rw [i32lt] at c
            omega
          · rw [show i = k by omega]
            exact Int.le_refl _
        · have := b3 i hi
          rw [i32lt] at c
          omega
      · refine ⟨b, by omega, by simp only [if_neg c], fun i hi => ?_, b4⟩
        rcases Nat.lt_or_ge i k with q1 | q1
        · exact b3 i q1
        · rw [show i = k by omega]
          rw [i32lt] at c
          omega
/-- the class's search, upwards from the last row -/
theorem bfd_is {T : Tb} (hT : 1 ≤ tr T) : ∀ k : Nat, 1 ≤ k → k ≤ tr T → (bfd T k).1 = shr T (tr T - k) (k - 1) ∧ ∃ b : Nat, tr T - k ≤ b ∧ b < tr T ∧ (bfd T k).2 = (b, bcn (shr T b (tr T - 1 - b))) ∧ (∀ i : Nat, tr T - k ≤ i → i < tr T → (bcn (shr T i (tr T - 1 - i))).toInt ≤ (bcn (shr T b (tr T - 1 - b))).toInt) ∧ ∀ i : Nat, tr T - k ≤ i → i < b → (bcn (shr T i (tr T - 1 - i))).toInt < (bcn (shr T b (tr T - 1 - b))).toInt := by
  intro k
  induction k with
  | zero => intro h; exact absurd h (by omega)
  | succ k ih =>
    intro _ hk
    have hsh : ∀ z : Nat, ∀ a : Nat, shr T a (z + 1) = nmS T (ts T a) &&& shr T (a + 1) z := by
      intro z
      induction z with
      | zero => intro a; rfl
      | succ z iz =>
        intro a
        rw [shr, iz, shr, Int32.and_assoc, show a + (z + 1 + 1) = a + 1 + (z + 1) by omega]
    rcases Nat.eq_zero_or_pos k with e | e
    · subst e
      have g1 : (bfd T 0).1 &&& nmS T (ts T (tr T - 1)) = shr T (tr T - 1) 0 := m8_255 m8_nmS
      have hp : (bfd T 0).2.2 ≤ bcn ((bfd T 0).1 &&& nmS T (ts T (tr T - (0 + 1)))) := by
        show (0 : Int32) ≤ bcn ((bfd T 0).1 &&& nmS T (ts T (tr T - 1)))
        rw [g1, Int32.le_iff_toInt_le]
        exact bcn_ge m8_nmS
      refine ⟨?_, tr T - 1, by omega, by omega, ?_, fun i h1 h2 => by rw [show i = tr T - 1 by omega]; exact Int.le_refl _, fun i h1 h2 => absurd h2 (by omega)⟩
      · rw [bfd]
        simp only [if_pos hp]
        exact g1
      · rw [bfd]
        simp only [if_pos hp]
        show (tr T - 1, bcn ((bfd T 0).1 &&& nmS T (ts T (tr T - 1)))) = _
        rw [g1, show tr T - 1 - (tr T - 1) = 0 by omega]
    · obtain ⟨a1, b, b1, b2, b3, b4, b5⟩ := ih e (by omega)
      have g1 : (bfd T k).1 &&& nmS T (ts T (tr T - (k + 1))) = shr T (tr T - (k + 1)) k := by
        rw [a1, Int32.and_comm, show tr T - k = tr T - (k + 1) + 1 by omega, ← hsh, show k - 1 + 1 = k by omega]
      have b3' : (bfd T k).2.2 = bcn (shr T b (tr T - 1 - b)) := by rw [b3]
      have b3'' : (bfd T k).2.1 = b := by rw [b3]
      rw [bfd]
      simp only [g1, b3', b3'']
      have ek : tr T - 1 - (tr T - (k + 1)) = k := by omega
      by_cases c : bcn (shr T b (tr T - 1 - b)) ≤ bcn (shr T (tr T - (k + 1)) k)
      · simp only [if_pos c]
        rw [Int32.le_iff_toInt_le] at c
        refine ⟨by rw [show k + 1 - 1 = k by omega], tr T - (k + 1), by omega, by omega, by rw [ek], fun i h1 h2 => ?_, fun i h1 h2 => absurd h2 (by omega)⟩
        rw [ek]
        rcases Nat.lt_or_ge (tr T - (k + 1)) i with q1 | q1
        · have := b4 i (by omega) h2
          omega
        · rw [show i = tr T - (k + 1) by omega, ek]
          exact Int.le_refl _
      · simp only [if_neg c]
        rw [Int32.le_iff_toInt_le] at c
        refine ⟨by rw [show k + 1 - 1 = k by omega], b, by omega, b2, rfl, fun i h1 h2 => ?_, fun i h1 h2 => ?_⟩
        · rcases Nat.lt_or_ge (tr T - (k + 1)) i with q1 | q1
          · exact b4 i (by omega) h2
          · rw [show i = tr T - (k + 1) by omega, ek]
            omega
        · rcases Nat.lt_or_ge (tr T - (k + 1)) i with q1 | q1
          · exact b5 i (by omega) h2
          · rw [show i = tr T - (k + 1) by omega, ek]
            omega
theorem bf_eq {T : Tb} (hT : 1 ≤ tr T) : (bfM T (tr T)).1 = nI (bfC T) := by
  obtain ⟨b, b1, b2, b3, b4⟩ := bfM_is (T := T) (tr T) hT
  obtain ⟨-, d, d1, d2, d3, d4, d5⟩ := bfd_is hT (tr T) hT (Nat.le_refl _)
  have es : ∀ i : Nat, i < tr T → shN T i (tr T - 1) = shr T i (tr T - 1 - i) := fun i hi => by rw [shN, if_neg (by omega)]
  have ebd : b = d := by
    rcases Nat.lt_trichotomy b d with q | q | q
    · have x1 := d5 b (by omega) q
      have x2 := b3 d d2
      rw [es d d2, es b b1] at x2
      omega
    · exact q
    · have x1 := b4 d q
      have x2 := d4 b (by omega) b1
      rw [es d d2, es b b1] at x1
      omega
  rw [b2, bfC, d3, ebd]
theorem bsM_is {T : Tb} : ∀ k : Nat, (bsM T k).1 ≤ k ∧ (bsM T k).2 = lsA T (bsM T k).1 ∧ (∀ i : Nat, i ≤ k → (lsA T (bsM T k).1).toInt ≤ (lsA T i).toInt) ∧ ∀ i : Nat, (bsM T k).1 < i → i ≤ k → (lsA T (bsM T k).1).toInt < (lsA T i).toInt := by
  intro k
  induction k with
  | zero => exact ⟨Nat.le_refl 0, rfl, fun i hi => by rw [show i = 0 by omega]; exact Int.le_refl _, fun i h1 h2 => absurd h2 (by omega)⟩
  | succ k ih =>
    obtain ⟨b1, b2, b3, b4⟩ := ih
    rw [bsM]
    by_cases c : lsA T (k + 1) ≤ (bsM T k).2
    · simp only [if_pos c]
      rw [b2, Int32.le_iff_toInt_le] at c
      refine ⟨Nat.le_refl _, trivial, fun i hi => ?_, fun i h1 h2 => absurd h2 (by omega)⟩
      rcases Nat.lt_or_ge k i with q | q
      · rw [show i = k + 1 by omega]; exact Int.le_refl _
      · have := b3 i q
        omega
    · simp only [if_neg c]
      rw [b2, Int32.le_iff_toInt_le] at c
      refine ⟨by omega, b2, fun i hi => ?_, fun i h1 h2 => ?_⟩
      · rcases Nat.lt_or_ge k i with q | q
        · rw [show i = k + 1 by omega]; omega
        · exact b3 i q
      · rcases Nat.lt_or_ge k i with q | q
        · rw [show i = k + 1 by omega]; omega
        · exact b4 i h1 q
theorem bsd_is {T : Tb} (hT : 1 ≤ tn T) : ∀ k : Nat, k ≤ tn T - 1 → tn T - 1 - k ≤ (bsd T k).1 ∧ (bsd T k).1 ≤ tn T - 1 ∧ (bsd T k).2 = lsA T (bsd T k).1 ∧ (∀ i : Nat, tn T - 1 - k ≤ i → i ≤ tn T - 1 → (lsA T (bsd T k).1).toInt ≤ (lsA T i).toInt) ∧ ∀ i : Nat, (bsd T k).1 < i → i ≤ tn T - 1 → (lsA T (bsd T k).1).toInt < (lsA T i).toInt := by
  intro k
  induction k with
  | zero => intro _; exact ⟨Nat.le_refl _, Nat.le_refl _, rfl, fun i h1 h2 => by rw [show i = tn T - 1 by omega]; exact Int.le_refl _, fun i h1 h2 => absurd h2 (by have : (bsd T 0).1 = tn T - 1 := rfl; omega)⟩
  | succ k ih =>
    intro hk
    obtain ⟨b0, b1, b2, b3, b4⟩ := ih (by omega)
    rw [bsd]
    by_cases c : lsA T (tn T - 1 - (k + 1)) < (bsd T k).2
    · simp only [if_pos c]
      rw [b2, i32lt] at c
      refine ⟨Nat.le_refl _, by omega, trivial, fun i h1 h2 => ?_, fun i h1 h2 => ?_⟩
      · rcases Nat.lt_or_ge (tn T - 1 - (k + 1)) i with q | q
        · have := b3 i (by omega) h2
          omega
        · rw [show i = tn T - 1 - (k + 1) by omega]; exact Int.le_refl _
      · have := b3 i (by omega) h2
        omega
    · simp only [if_neg c]
      rw [b2, i32lt] at c
      refine ⟨by omega, b1, b2, fun i h1 h2 => ?_, b4⟩
      rcases Nat.lt_or_ge (tn T - 1 - (k + 1)) i with q | q
      · exact b3 i (by omega) h2
      · rw [show i = tn T - 1 - (k + 1) by omega]; omega
theorem bs_eq {T : Tb} (hT : 1 ≤ tn T) : bsM T (tn T - 1) = (bsC T, lsA T (bsC T)) := by
  obtain ⟨b1, b2, b3, b4⟩ := bsM_is (T := T) (tn T - 1)
  obtain ⟨d0, d1, d2, d3, d4⟩ := bsd_is hT (tn T - 1) (Nat.le_refl _)
  have e : (bsM T (tn T - 1)).1 = bsC T := by
    show (bsM T (tn T - 1)).1 = (bsd T (tn T - 1)).1
    rcases Nat.lt_trichotomy (bsM T (tn T - 1)).1 (bsd T (tn T - 1)).1 with q | q | q
    · have x1 := b4 _ q d1
      have x2 := d3 _ (by omega) b1
      omega
    · exact q
    · have x1 := d4 _ q b1
      have x2 := b3 _ d1
      omega
  exact Prod.ext e (by rw [b2, e])
theorem shN_le {T : Tb} {a b : Nat} {m : Int32} (h : ¬ (shN T a b &&& m) = 0) : a ≤ b := by
  rcases Nat.lt_or_ge b a with q | q
  · exact absurd (by rw [shN, if_pos q, Int32.zero_and]) h
  · exact q
