theorem act_pos {n : Nat} (h : n < 2 ^ 31) : (-10001 : Int32) < nI n := by
  rw [i32lt, nI_toInt h, show (-10001 : Int32).toInt = -10001 by decide]
  omega
theorem MX_ok {E : xE} {C1 : xC} {r : Int32 × Tb} {T : Tb} {hh : Nat → Tb} {hn : Nat} {sn : Option Tb} {tx : Nat → Int32} {ln : Nat} {sp : Option (Nat × Int32)} (hx : -10001 < r.1) (h : MX E C1 r.2 (recH hh hn T) (recN hn) sn tx ln sp) : MX E C1 (acT r T) (acH r T hh hn) (acN r hn) sn tx ln sp := by
  rw [acT, acH, acN, if_pos hx, if_pos hx, if_pos hx]
  exact h
theorem rmvM {T : Tb} {f g : Nat → Int32} {i : Nat} (h : RTm T f) (hw : WB T) (hi : i < tr T) (e1 : g 1 = nI (tr T - 1)) (e0 : ∀ z : Nat, ¬ z = 1 → z < 482 + 9 * i → g z = f z) (e2 : ∀ z : Nat, 482 + 9 * i ≤ z → z < 482 + 9 * (tr T - 1) → g z = f (z + 9)) : RTm (rmv T i) g := by
  obtain ⟨w1, w2, w3, w4⟩ := hw
  obtain ⟨h0, h1, h2, h3, h4, h5⟩ := h
  refine ⟨(e0 0 (by omega) (by omega)).trans h0, e1, fun q j hq hj => ?_, fun q j hq hj => ?_, fun i2 hi2 => ?_, fun i2 j hi2 hj hc => ?_⟩
  · have hq2 : q < tn T := hq
    exact (e0 _ (by omega) (by omega)).trans (h2 q j hq2 hj)
  · have hq2 : q < tn T := hq
    exact (e0 _ (by omega) (by omega)).trans (h3 q j hq2 hj)
  · have hi3 : i2 < tr T - 1 := hi2
    show g (482 + 9 * i2) = nI (if i2 < i then ts T i2 else ts T (i2 + 1))
    by_cases e : i2 < i
    · rw [if_pos e, e0 _ (by omega) (by omega)]
      exact h4 i2 (by omega)
    · rw [if_neg e, e2 _ (by omega) (by omega), show 482 + 9 * i2 + 9 = 482 + 9 * (i2 + 1) by omega]
      exact h4 _ (by omega)
  · have hi3 : i2 < tr T - 1 := hi2
    have hc2 : ¬ tk T (if i2 < i then ts T i2 else ts T (i2 + 1)) j = -1 := hc
    show g (482 + 9 * i2 + 1 + j) = if i2 < i then tv T i2 j else tv T (i2 + 1) j
    by_cases e : i2 < i
    · rw [if_pos e] at hc2 ⊢
      rw [e0 _ (by omega) (by omega)]
      exact h5 i2 j (by omega) hj hc2
    · rw [if_neg e] at hc2 ⊢
      rw [e2 _ (by omega) (by omega), show 482 + 9 * i2 + 1 + j + 9 = 482 + 9 * (i2 + 1) + 1 + j by omega]
      exact h5 _ j (by omega) hj hc2
theorem fgtM {T : Tb} {f g : Nat → Int32} {n : Nat} (h : RTm T f) (hw : WB T) (hn : n < tn T) (hs : ∀ i : Nat, i < tr T → n ≤ ts T i) (e0 : g 0 = nI (tn T - n)) (e1 : g 1 = f 1) (e2 : ∀ z : Nat, 2 ≤ z → z < 2 + 16 * (tn T - n) → g z = f (z + 16 * n)) (e3 : ∀ i : Nat, i < tr T → g (482 + 9 * i) = nI (ts T i - n)) (e4 : ∀ i j : Nat, i < tr T → j < 8 → g (482 + 9 * i + 1 + j) = f (482 + 9 * i + 1 + j)) : RTm (fgt T n) g := by
  obtain ⟨w1, w2, w3, w4⟩ := hw
  obtain ⟨h0, h1, h2, h3, h4, h5⟩ := h
  refine ⟨e0, e1.trans h1, fun q j hq hj => ?_, fun q j hq hj => ?_, e3, fun i j hi hj hc => ?_⟩
  · have hq2 : q < tn T - n := hq
    show g (2 + 16 * q + j) = tk T (q + n) j + 1
    rw [e2 _ (by omega) (by omega), show 2 + 16 * q + j + 16 * n = 2 + 16 * (q + n) + j by omega]
    exact h2 _ j (by omega) hj
  · have hq2 : q < tn T - n := hq
    show g (2 + 16 * q + 8 + j) = td T (q + n) j
    rw [e2 _ (by omega) (by omega), show 2 + 16 * q + 8 + j + 16 * n = 2 + 16 * (q + n) + 8 + j by omega]
    exact h3 _ j (by omega) hj
  · have hi2 : i < tr T := hi
    have hc2 : ¬ tk T (ts T i - n + n) j = -1 := hc
    rw [show ts T i - n + n = ts T i by have := hs i hi2; omega] at hc2
    exact (e4 i j hi2 hj).trans (h5 i j hi2 hj hc2)
/-- rows of a season, counted -/
def wrC (T : Tb) (q : Nat) : Nat → Nat
  | 0 => 0
  | n + 1 => wrC T q n + (if ts T n = q then 1 else 0)
theorem wrC_le {T : Tb} {q : Nat} : ∀ n : Nat, wrC T q n ≤ n := by
  intro n
  induction n with
  | zero => exact Nat.le_refl 0
  | succ n ih =>
    rw [wrC]
    by_cases e : ts T n = q
    · rw [if_pos e]; omega
    · rw [if_neg e]; omega
theorem wrC_0 {T : Tb} {q : Nat} : ∀ n : Nat, wrC T q n = 0 ↔ ∀ i : Nat, i < n → ¬ ts T i = q := by
  intro n
  induction n with
  | zero => exact ⟨fun _ i hi => absurd hi (Nat.not_lt_zero _), fun _ => rfl⟩
  | succ n ih =>
    rw [wrC]
    by_cases e : ts T n = q
    · rw [if_pos e]
      exact ⟨fun z => absurd z (by omega), fun z => absurd e (z n (by omega))⟩
    · rw [if_neg e, Nat.add_zero, ih]
      constructor
      · intro z i hi
        rcases Nat.lt_or_ge i n with q1 | q1
        · exact z i q1
        · rw [show i = n by omega]; exact e
      · intro z i hi
        exact z i (by omega)
theorem wear_C {T : Tb} {q : Nat} (hw : WB T) (hq : q < 2 ^ 31) : wear T q = nI (wrC T q (tr T)) := by
  have key : ∀ n : Nat, n ≤ tr T → sm (fun i => if nI (ts T i) = nI q then 1 else 0) n = nI (wrC T q n) := by
    intro n
    induction n with
    | zero => intro _; rfl
    | succ n ih =>
      intro hn
      have hs := hw.2.2.2 n (by omega)
      have h30 := hw.2.1
      rw [sm, ih (by omega), wrC]
      by_cases e : ts T n = q
      · rw [if_pos (by rw [e]), if_pos e]; exact nI_1 _
      · rw [if_neg (fun z => e ((nI_eq (by omega) hq).mp z)), if_neg e, Int32.add_zero, Nat.add_zero]
  exact key _ (Nat.le_refl _)
theorem wear_0 {T : Tb} {q : Nat} (hw : WB T) (hq : q < 2 ^ 31) : wear T q = 0 ↔ ∀ i : Nat, i < tr T → ¬ ts T i = q := by
  have := wrC_le (T := T) (q := q) (tr T)
  have := hw.2.2.1
  rw [wear_C hw hq, ← wrC_0]
  exact nI_eq (b := 0) (by omega) (by omega)
theorem fgF_at {T : Tb} : ∀ k : Nat, fgF T k = tn T - 1 ∨ ∃ i : Nat, i < k ∧ ts T i = fgF T k := by
  intro k
  induction k with
  | zero => exact Or.inl rfl
  | succ k ih =>
    rw [fgF]
    by_cases e : ts T k < fgF T k
    · rw [if_pos e]; exact Or.inr ⟨k, by omega, rfl⟩
    · rw [if_neg e]
      rcases ih with z | ⟨i, z1, z2⟩
      · exact Or.inl z
      · exact Or.inr ⟨i, by omega, z2⟩
theorem fgm_is {T : Tb} {n : Nat} (h1 : n ≤ tn T - 1) (h2 : ∀ q : Nat, q < n → ∀ i : Nat, i < tr T → ¬ ts T i = q) (h3 : n = tn T - 1 ∨ ∃ i : Nat, i < tr T ∧ ts T i = n) : fgm T = n := by
  have a1 := fgF_le (T := T) (tr T)
  have a2 := fgF_at (T := T) (tr T)
  unfold fgm
  apply Nat.le_antisymm
  · rcases h3 with z | ⟨i, z1, z2⟩
    · rw [z]; exact a1.1
    · rw [← z2]; exact a1.2 i z1
  · rcases a2 with z | ⟨i, z1, z2⟩
    · rw [z]; exact h1
    · rcases Nat.lt_or_ge (fgF T (tr T)) n with q1 | q1
      · exact absurd z2 (h2 _ q1 i z1)
      · exact q1
theorem lsR_own {T : Tb} {i : Nat} (h : WF T) (hi : i < tr T) : lsR T (ts T i) i = 0 := by
  unfold lsR
  refine Eq.trans (sm_congr (g := fun _ => 0) ?_) sm_0
  intro j hj
  refine if_neg (fun z => ?_)
  rcases z with ⟨z1, z2 | z2⟩
  · exact z1 z2
  · have k1 := (WF_k h (h.1.2.2.2 i hi) hj).resolve_left z1
    have o1 := (h.2.2 i j hi hj).resolve_left z1
    exact z2 (by rw [cst_id k1 o1, cst_id k1 o1])
theorem mkL_eq {T : Tb} {a : Nat} (h : WF T) : ∀ n : Nat, a + n ≤ tr T → mkL T a n = sm (fun k => lsR T (tn T - 1) (a + k)) n := by
  intro n hn
  unfold mkL
  apply sm_congr
  intro k hk
  by_cases e : ts T (a + k) = tn T - 1
  · rw [if_pos e, ← e, lsR_own h (by omega)]
  · rw [if_neg e]
theorem rd_own {T : Tb} {i j : Nat} (h : WF T) (hi : i < tr T) (hj : j < 8) (hc : ¬ tk T (ts T i) j = -1) : rdC T (ts T i) i j = tv T i j := by
  unfold rdC
  rw [if_neg hc]
  exact cst_id ((WF_k h (h.1.2.2.2 i hi) hj).resolve_left hc) ((h.2.2 i j hi hj).resolve_left hc)
theorem mkP_in {T : Tb} {a : Nat} (h : WF T) : ∀ n : Nat, a + n ≤ tr T → ∀ i : Nat, a ≤ i → i < a + n → ts (mkP T a n) i = tn T - 1 ∧ ∀ j : Nat, j < 8 → ¬ tk T (tn T - 1) j = -1 → tv (mkP T a n) i j = rdC T (tn T - 1) i j := by
  intro n
  induction n with
  | zero => intro _ i h1 h2; exact absurd h2 (by omega)
  | succ n ih =>
    intro hn i h1 h2
    obtain ⟨o1, o2, o3, o4, o5⟩ := mkP_out (T := T) (a := a) n
    rw [mkP]
    by_cases e : ts T (a + n) = tn T - 1
    · rw [if_pos e]
      rcases Nat.lt_or_ge i (a + n) with q1 | q1
      · exact ih (by omega) i h1 q1
      · obtain ⟨e1, e2⟩ := o5 i (by omega)
        have ei : i = a + n := by omega
        rw [e1, e2, ei]
        refine ⟨e, fun j hj hc => ?_⟩
        have := rd_own h (show a + n < tr T by omega) hj (by rw [e]; exact hc)
        rw [e] at this
        exact this.symm
    · rw [if_neg e]
      by_cases ei : i = a + n
      · refine ⟨?_, fun j hj hc => ?_⟩
        · show (if i = a + n then tn (mkP T a n) - 1 else _) = _
          rw [if_pos ei, o1]
        · show (if i = a + n then rdC (mkP T a n) (tn (mkP T a n) - 1) (a + n) j else _) = _
          obtain ⟨e1, e2⟩ := o5 (a + n) (by omega)
          rw [if_pos ei, ei]
          unfold rdC
          rw [o1, o3, o4, e1, e2]
      · obtain ⟨i1, i2⟩ := ih (by omega) i h1 (by omega)
        refine ⟨?_, fun j hj hc => ?_⟩
        · show (if i = a + n then _ else ts (mkP T a n) i) = _
          rw [if_neg ei, i1]
        · show (if i = a + n then _ else tv (mkP T a n) i j) = _
          rw [if_neg ei]
          exact i2 j hj hc
theorem mkM {T : Tb} {f g : Nat → Int32} {a n : Nat} (h : RTm T f) (hw : WF T) (hn : a + n ≤ tr T) (e0 : ∀ z : Nat, (z < 482 + 9 * a ∨ 482 + 9 * (a + n) ≤ z) → g z = f z) (e1 : ∀ k : Nat, k < n → g (482 + 9 * (a + k)) = nI (tn T - 1)) (e2 : ∀ k j : Nat, k < n → j < 8 → ¬ tk T (tn T - 1) j = -1 → g (482 + 9 * (a + k) + 1 + j) = rdC T (tn T - 1) (a + k) j) : RTm (mkP T a n) g := by
  obtain ⟨w1, w2, w3, w4⟩ := id hw.1
  obtain ⟨h0, h1, h2, h3, h4, h5⟩ := h
  obtain ⟨o1, o2, o3, o4, o5⟩ := mkP_out (T := T) (a := a) n
  refine ⟨by rw [o1]; exact (e0 0 (by omega)).trans h0, by rw [o2]; exact (e0 1 (by omega)).trans h1, fun q j hq hj => ?_, fun q j hq hj => ?_, fun i hi => ?_, fun i j hi hj hc => ?_⟩
  · rw [o1] at hq
    rw [o3]
    exact (e0 _ (by omega)).trans (h2 q j hq hj)
  · rw [o1] at hq
    rw [o4]
    exact (e0 _ (by omega)).trans (h3 q j hq hj)
  · rw [o2] at hi
    by_cases c : a ≤ i ∧ i < a + n
    · rw [(mkP_in hw n hn i c.1 c.2).1, show i = a + (i - a) by omega]
      exact e1 (i - a) (by omega)
    · rw [(o5 i (by omega)).1, e0 _ (by omega)]
      exact h4 i hi
  · rw [o2] at hi
    rw [o3] at hc
    by_cases c : a ≤ i ∧ i < a + n
    · obtain ⟨i1, i2⟩ := mkP_in hw n hn i c.1 c.2
      rw [i1] at hc
      rw [i2 j hj hc]
      have := e2 (i - a) j (by omega) hj hc
      rw [show a + (i - a) = i by omega] at this
      exact this
    · rw [(o5 i (by omega)).1] at hc
      rw [(o5 i (by omega)).2, e0 _ (by omega)]
      exact h5 i j hi hj hc
theorem mkL_pos {T : Tb} {a n : Nat} (hn : n ≤ 24) : (-10001 : Int32) < mkL T a n := by
  have key : ∀ n : Nat, n ≤ 24 → ∃ w : Nat, w ≤ 8 * n ∧ mkL T a n = nI w := by
    intro n
    induction n with
    | zero => intro _; exact ⟨0, Nat.le_refl 0, rfl⟩
    | succ n ih =>
      intro h
      obtain ⟨w, w1, w2⟩ := ih (by omega)
      have k8 : ∀ q i m : Nat, m ≤ 8 → ∃ u : Nat, u ≤ m ∧ sm (fun j => if lostC T q i j then 1 else 0) m = nI u := by
        intro q i m
        induction m with
        | zero => intro _; exact ⟨0, Nat.le_refl 0, rfl⟩
        | succ m im =>
          intro h9
          obtain ⟨u, u1, u2⟩ := im (by omega)
          by_cases e : lostC T q i m
          · exact ⟨u + 1, by omega, by rw [sm, u2, if_pos e]; exact nI_1 u⟩
          · exact ⟨u, by omega, by rw [sm, u2, if_neg e, Int32.add_zero]⟩
      by_cases e : ts T (a + n) = tn T - 1
      · exact ⟨w, by omega, by rw [mkL, sm, if_pos e, Int32.add_zero]; exact w2⟩
      · obtain ⟨u, u1, u2⟩ := k8 (tn T - 1) (a + n) 8 (Nat.le_refl 8)
        refine ⟨w + u, by omega, ?_⟩
        rw [mkL, sm, if_neg e]
        show mkL T a n + lsR T (tn T - 1) (a + n) = _
        rw [w2, lsR, u2, nI_add]
  obtain ⟨w, w1, w2⟩ := key n hn
  rw [w2]
  exact act_pos (by omega)
