/-! the reference's row behind the acts -/
theorem RTm_ext {T : Tb} {f g : Nat → Int32} (hw : WB T) (h : RTm T f) (he : ∀ z : Nat, z < 698 → g z = f z) : RTm T g := by
  obtain ⟨w1, w2, w3, w4⟩ := hw
  obtain ⟨h0, h1, h2, h3, h4, h5⟩ := h
  exact ⟨(he 0 (by omega)).trans h0, (he 1 (by omega)).trans h1, fun q j q1 q2 => (he _ (by omega)).trans (h2 q j q1 q2), fun q j q1 q2 => (he _ (by omega)).trans (h3 q j q1 q2), fun i q1 => (he _ (by omega)).trans (h4 i q1), fun i j q1 q2 q3 => (he _ (by omega)).trans (h5 i j q1 q2 q3)⟩
theorem RTm_pre {T : Tb} {f g : Nat → Int32} (hw : WB T) (h : RTm T f) (he : ∀ z : Nat, z < 482 + 9 * tr T → g z = f z) : RTm T g := by
  obtain ⟨w1, w2, w3, w4⟩ := hw
  obtain ⟨h0, h1, h2, h3, h4, h5⟩ := h
  exact ⟨(he 0 (by omega)).trans h0, (he 1 (by omega)).trans h1, fun q j q1 q2 => (he _ (by omega)).trans (h2 q j q1 q2), fun q j q1 q2 => (he _ (by omega)).trans (h3 q j q1 q2), fun i q1 => (he _ (by omega)).trans (h4 i q1), fun i j q1 q2 q3 => (he _ (by omega)).trans (h5 i j q1 q2 q3)⟩
theorem bgnM {T : Tb} {f g : Nat → Int32} {j : Nat} {kd d : Int32} (h : RTm T f) (hw : WB T) (hm : tn T < 30) (hj : j < 8) (e0 : g 0 = nI (tn T + 1)) (e1 : ∀ z : Nat, 1 ≤ z → z < 2 + 16 * tn T → g z = f z) (e2 : ∀ z : Nat, z < 16 → ¬ z = j → ¬ z = 8 + j → g (2 + 16 * tn T + z) = f (2 + 16 * tn T + z - 16)) (e3 : g (2 + 16 * tn T + j) = kd + 1) (e4 : g (2 + 16 * tn T + 8 + j) = d) (e5 : ∀ z : Nat, 482 ≤ z → g z = f z) : RTm (bgn T j kd d) g := by
  obtain ⟨w1, w2, w3, w4⟩ := hw
  obtain ⟨h0, h1, h2, h3, h4, h5⟩ := h
  refine ⟨e0, (e1 1 (by omega) (by omega)).trans h1, fun q i hq hi => ?_, fun q i hq hi => ?_, fun i hi => (e5 _ (by omega)).trans (h4 i hi), fun i j1 hi hj1 hc => (e5 _ (by omega)).trans (h5 i j1 hi hj1 (fun z => hc ?_))⟩
  · have hq2 : q < tn T + 1 := hq
    show g (2 + 16 * q + i) = (if q = tn T then (if i = j then kd else tk T (tn T - 1) i) else tk T q i) + 1
    by_cases c1 : q = tn T
    · rw [if_pos c1, c1]
      by_cases c2 : i = j
      · rw [if_pos c2, c2]; exact e3
      · rw [if_neg c2, e2 i (by omega) c2 (by omega), show 2 + 16 * tn T + i - 16 = 2 + 16 * (tn T - 1) + i by omega]
        exact h2 _ _ (by omega) hi
    · rw [if_neg c1, e1 _ (by omega) (by omega)]
      exact h2 _ _ (by omega) hi
  · have hq2 : q < tn T + 1 := hq
    show g (2 + 16 * q + 8 + i) = (if q = tn T then (if i = j then d else td T (tn T - 1) i) else td T q i)
    by_cases c1 : q = tn T
    · rw [if_pos c1, c1]
      by_cases c2 : i = j
      · rw [if_pos c2, c2]; exact e4
      · rw [if_neg c2, show 2 + 16 * tn T + 8 + i = 2 + 16 * tn T + (8 + i) by omega, e2 (8 + i) (by omega) (by omega) (by omega), show 2 + 16 * tn T + (8 + i) - 16 = 2 + 16 * (tn T - 1) + 8 + i by omega]
        exact h3 _ _ (by omega) hi
    · rw [if_neg c1, e1 _ (by omega) (by omega)]
      exact h3 _ _ (by omega) hi
  · have := w4 i hi
    show (if ts T i = tn T then (if j1 = j then kd else tk T (tn T - 1) j1) else tk T (ts T i) j1) = -1
    rw [if_neg (by omega)]
    exact z
theorem wrtM {T : Tb} {f g : Nat → Int32} (h : RTm T f) (hw : WB T) (hm : tr T < 24) (e1 : g 1 = nI (tr T + 1)) (e0 : ∀ z : Nat, ¬ z = 1 → z < 482 + 9 * tr T → g z = f z) (e2 : g (482 + 9 * tr T) = nI (tn T - 1)) (e3 : ∀ j : Nat, j < 8 → ¬ tk T (tn T - 1) j = -1 → g (482 + 9 * tr T + 1 + j) = td T (tn T - 1) j) : RTm (wrt T) g := by
  obtain ⟨w1, w2, w3, w4⟩ := hw
  obtain ⟨h0, h1, h2, h3, h4, h5⟩ := h
  refine ⟨(e0 0 (by omega) (by omega)).trans h0, e1, fun q j hq hj => ?_, fun q j hq hj => ?_, fun i hi => ?_, fun i j hi hj hc => ?_⟩
  · have hq2 : q < tn T := hq
    exact (e0 _ (by omega) (by omega)).trans (h2 q j hq2 hj)
  · have hq2 : q < tn T := hq
    exact (e0 _ (by omega) (by omega)).trans (h3 q j hq2 hj)
  · have hi2 : i < tr T + 1 := hi
    show g (482 + 9 * i) = nI (if i = tr T then tn T - 1 else ts T i)
    by_cases c : i = tr T
    · rw [if_pos c, c]; exact e2
    · rw [if_neg c, e0 _ (by omega) (by omega)]
      exact h4 i (by omega)
  · have hi2 : i < tr T + 1 := hi
    have hc2 : ¬ tk T (if i = tr T then tn T - 1 else ts T i) j = -1 := hc
    show g (482 + 9 * i + 1 + j) = if i = tr T then td T (tn T - 1) j else tv T i j
    by_cases c : i = tr T
    · rw [if_pos c] at hc2 ⊢
      rw [c]; exact e3 j hj hc2
    · rw [if_neg c] at hc2 ⊢
      rw [e0 _ (by omega) (by omega)]
      exact h5 i j (by omega) hj hc2
theorem setM {T : Tb} {f : Nat → Int32} {i j : Nat} {v : Int32} (h : RTm T f) (hw : WB T) (hj : j < 8) : RTm (setv T i j v) (upd f (482 + 9 * i + 1 + j) v) := by
  obtain ⟨w1, w2, w3, w4⟩ := hw
  obtain ⟨h0, h1, h2, h3, h4, h5⟩ := h
  refine ⟨(pk_un (by omega)).trans h0, (pk_un (by omega)).trans h1, fun q j hq hj => ?_, fun q j hq hj => ?_, fun i hi => (pk_un (by omega)).trans (h4 i hi), fun i2 j2 hi hj2 hc => ?_⟩
  · have hq2 : q < tn T := hq
    exact (pk_un (by omega)).trans (h2 q j hq2 hj)
  · have hq2 : q < tn T := hq
    exact (pk_un (by omega)).trans (h3 q j hq2 hj)
  · show upd f (482 + 9 * i + 1 + j) v (482 + 9 * i2 + 1 + j2) = if i2 = i ∧ j2 = j then v else tv T i2 j2
    by_cases e : i2 = i ∧ j2 = j
    · rw [if_pos e, e.1, e.2, pk_us]
    · rw [if_neg e, pk_un (fun z => e ⟨by omega, by omega⟩)]
      exact h5 i2 j2 hi hj2 hc
/-- a value set to what it is already -/
theorem setM_same {T : Tb} {f : Nat → Int32} {i j : Nat} {v : Int32} (h : RTm T f) (hw : WB T) (hi : i < tr T) (hj : j < 8) (hc : ¬ tk T (ts T i) j = -1) (hv : tv T i j = v) : RTm T (upd f (482 + 9 * i + 1 + j) v) := by
  have e := h.2.2.2.2.2 i j hi hj hc
  have e2 : upd f (482 + 9 * i + 1 + j) v = f := by
    funext z
    by_cases hz : z = 482 + 9 * i + 1 + j
    · rw [hz, pk_us, e, hv]
    · rw [pk_un hz]
  rw [e2]
  exact h
/-! the whole state: the table, the history, the snapshot, the text, the latest stop -/
abbrev Mq : Type := Tb × (Nat → Tb) × Nat × Option Tb × (Nat → Int32) × Nat × Option (Nat × Int32)
def qT (M : Mq) : Tb := M.1
def qh (M : Mq) : Nat → Tb := M.2.1
def qn (M : Mq) : Nat := M.2.2.1
def qs (M : Mq) : Option Tb := M.2.2.2.1
def qx (M : Mq) : Nat → Int32 := M.2.2.2.2.1
def ql (M : Mq) : Nat := M.2.2.2.2.2.1
def qp (M : Mq) : Option (Nat × Int32) := M.2.2.2.2.2.2
def recH (h : Nat → Tb) (n : Nat) (T : Tb) : Nat → Tb := if n = 4 then (fun k => if k = 3 then T else h (k + 1)) else (fun k => if k = n then T else h k)
def recN (n : Nat) : Nat := if n = 4 then 4 else n + 1
def PH (zp : Nat → Int32) (h : Nat → Tb) (n : Nat) : Prop := ∀ k : Nat, k < n → RTm (h k) (fun z => zp (698 * k + z))
def flg : Option Tb → Int32
  | none => 0
  | some _ => 1
def soM : Option (Nat × Int32) → Int32
  | none => -10005
  | some q => nI q.1
def seM : Option (Nat × Int32) → Int32
  | none => -10005
  | some q => q.2
/-- the reference's cells hold the state -/
def MR (E : xE) (C : xC) (M : Mq) : Prop := ∃ (zf zt zp zs zx zl : Nat → Int32) (pa va tl : Int32), C (61) = .inr (5, [.ref (E.2.1 (62)), .ref (E.2.1 (63)), .ref (E.2.1 (64)), .int (nI (qn M)), .ref (E.2.1 (65)), .int (flg (qs M)), .ref (E.2.1 (66)), .int (nI (ql M)), .int pa, .int va, .int (soM (qp M)), .int (seM (qp M)), .ref (E.2.1 (67)), .int tl]) ∧ C (62) = .inl (E.2.2.1 1, 698, .inl zf) ∧ C (63) = .inl (E.2.2.1 1, 698, .inl zt) ∧ C (64) = .inl (E.2.2.1 1, 2792, .inl zp) ∧ C (65) = .inl (E.2.2.1 1, 698, .inl zs) ∧ C (66) = .inl (E.2.2.1 1, 80, .inl zx) ∧ C (67) = .inl (E.2.2.1 1, 84, .inl zl) ∧ RTm (qT M) zf ∧ PH zp (qh M) (qn M) ∧ (∀ S : Tb, qs M = some S → RTm S zs) ∧ (∀ z : Nat, z < ql M → zx z = qx M z)
/-- a state as it may be -/
def WM (M : Mq) : Prop := WF (qT M) ∧ qn M ≤ 4 ∧ (∀ k : Nat, k < qn M → WF (qh M k)) ∧ (∀ S : Tb, qs M = some S → WF S) ∧ ql M ≤ 80 ∧ (∀ z : Nat, z < ql M → xin (qx M z) 65536) ∧ (∀ k : Nat × Int32, qp M = some k → k.1 < 20)
def withT (M : Mq) (T : Tb) (h : Nat → Tb) (n : Nat) : Mq := (T, h, n, qs M, qx M, ql M, qp M)
/-- an act: what it answers and makes of the table; kept in the history, if it is no error and not none -/
def actM (r : Int32 × Tb) (M : Mq) : Int32 × Mq := if -10001 < r.1 then (r.1, withT M r.2 (recH (qh M) (qn M) (qT M)) (recN (qn M))) else (r.1, M)
def aAdd (T : Tb) (j : Nat) (kd d : Int32) : Int32 × Tb := if tk T (tn T - 1) j = -1 then (if tn T < 30 then (nI (tn T), bgn T j kd d) else (-10003, T)) else (-10004, T)
def aDrop (T : Tb) (j : Nat) : Int32 × Tb := if ¬ tk T (tn T - 1) j = -1 then (if tn T < 30 then (nI (tn T), bgn T j (-1) 0) else (-10003, T)) else (-10001, T)
def aKind (T : Tb) (j : Nat) (kd : Int32) : Int32 × Tb := if ¬ tk T (tn T - 1) j = -1 then (if tn T < 30 then (if tk T (tn T - 1) j = kd then (-10005, T) else (nI (tn T), bgn T j kd (cstC kd (td T (tn T - 1) j)))) else (-10003, T)) else (-10001, T)
theorem cast_std {l : Launch} {E : xE} {C : xC} {T : Tb} {q j : Nat} {kd : Int32} (hv : WF T) (hq : q < tn T) (hj : j < 8) (hc : ¬ tk T q j = -1) (hk : xin kd 3) : xR E l yX5_cast wsX5_cast 0 0 [.int (td T q j), .int kd] C (cstC kd (td T q j)) := by
  have o := (hv.2.1 q j hq hj).resolve_left hc
  rw [← cst_eq hk (okv_rng o.1 o.2)]
  exact c_X5_cast
