/-! the reference's row behind the acts -/
theorem RTm_ext {T : Tb} {f g : Nat → Int32} (hw : WB T) (h : RTm T f) (he : ∀ z : Nat, z < 698 → g z = f z) : RTm T g := by
  obtain ⟨w1, w2, w3, w4⟩ := hw
  obtain ⟨h0, h1, h2, h3, h4, h5⟩ := h
  exact ⟨(he 0 (by omega)).trans h0, (he 1 (by omega)).trans h1, fun q j q1 q2 => (he _ (by omega)).trans (h2 q j q1 q2), fun q j q1 q2 => (he _ (by omega)).trans (h3 q j q1 q2), fun i q1 => (he _ (by omega)).trans (h4 i q1), fun i j q1 q2 q3 => (he _ (by omega)).trans (h5 i j q1 q2 q3)⟩
theorem RTm_pre {T : Tb} {f g : Nat → Int32} (hw : WB T) (h : RTm T f) (he : ∀ z : Nat, z < 482 + 9 * tr T → g z = f z) : RTm T g := by
  obtain ⟨w1, w2, w3, w4⟩ := hw
  obtain ⟨h0, h1, h2, h3, h4, h5⟩ := h
  exact ⟨(he 0 (by omega)).trans h0, (he 1 (by omega)).trans h1, fun q j q1 q2 => (he _ (by omega)).trans (h2 q j q1 q2), fun q j q1 q2 => (he _ (by omega)).trans (h3 q j q1 q2), fun i q1 => (he _ (by omega)).trans (h4 i q1), fun i j q1 q2 q3 => (he _ (by omega)).trans (h5 i j q1 q2 q3)⟩
theorem bgnM {T : Tb} {f g : Nat → Int32} {j : Nat} {kd d : Int32} (h : RTm T f) (hw : WB T) (hm : tn T < 30) (hj : j < 8) (e0 : g 0 = nI (tn T + 1)) (e1 : ∀ z : Nat, 1 ≤ z → z < 2 + 16 * tn T → g z = f z) (e2 : ∀ z : Nat, z < 16 → ¬ z = j → ¬ z = 8 + j → g (2 + 16 * tn T + z) = f (2 + 16 * tn T + z - 16)) (e3 : g (2 + 16 * tn T + j) = kd + 1) (e4 : g (2 + 16 * tn T + 8 + j) = d) (e5 : ∀ z : Nat, 482 ≤ z → g z = f z) : RTm (bgn T j kd d) g := by
  obtain ⟨w1, w2, w3, w4⟩ := hw
  obtain ⟨h0, h1, h2, h3, h4, h5⟩ := h
  refine ⟨e0, (e1 1 (by omega) (by omega)).trans h1, fun q i hq hi => ?_, fun q i hq hi => ?_, fun i hi => (e5 _ (by omega)).trans (h4 i hi), fun i j1 hi hj1 hc => (e5 _ (by omega)).trans (h5 i j1 hi hj1 (fun z => hc ?_))⟩
  · have hq2 : q < tn T + 1 := hq
    show g (2 + 16 * q + i) = (if q = tn T then (if i = j then kd else tk T (tn T - 1) i) else tk T q i) + 1
    by_cases c1 : q = tn T
    · rw [if_pos c1, c1]
      by_cases c2 : i = j
      · rw [if_pos c2, c2]; exact e3
      · rw [if_neg c2, e2 i (by omega) c2 (by omega), show 2 + 16 * tn T + i - 16 = 2 + 16 * (tn T - 1) + i by omega]
        exact h2 _ _ (by omega) hi
    · rw [if_neg c1, e1 _ (by omega) (by omega)]
      exact h2 _ _ (by omega) hi
  · have hq2 : q < tn T + 1 := hq
    show g (2 + 16 * q + 8 + i) = (if q = tn T then (if i = j then d else td T (tn T - 1) i) else td T q i)
    by_cases c1 : q = tn T
    · rw [if_pos c1, c1]
      by_cases c2 : i = j
      · rw [if_pos c2, c2]; exact e4
      · rw [if_neg c2, show 2 + 16 * tn T + 8 + i = 2 + 16 * tn T + (8 + i) by omega, e2 (8 + i) (by omega) (by omega) (by omega), show 2 + 16 * tn T + (8 + i) - 16 = 2 + 16 * (tn T - 1) + 8 + i by omega]
        exact h3 _ _ (by omega) hi
    · rw [if_neg c1, e1 _ (by omega) (by omega)]
      exact h3 _ _ (by omega) hi
  · have := w4 i hi
    show (if ts T i = tn T then (if j1 = j then kd else tk T (tn T - 1) j1) else tk T (ts T i) j1) = -1
    rw [if_neg (by omega)]
    exact z
theorem wrtM {T : Tb} {f g : Nat → Int32} (h : RTm T f) (hw : WB T) (hm : tr T < 24) (e1 : g 1 = nI (tr T + 1)) (e0 : ∀ z : Nat, ¬ z = 1 → z < 482 + 9 * tr T → g z = f z) (e2 : g (482 + 9 * tr T) = nI (tn T - 1)) (e3 : ∀ j : Nat, j < 8 → ¬ tk T (tn T - 1) j = -1 → g (482 + 9 * tr T + 1 + j) = td T (tn T - 1) j) : RTm (wrt T) g := by
  obtain ⟨w1, w2, w3, w4⟩ := hw
  obtain ⟨h0, h1, h2, h3, h4, h5⟩ := h
  refine ⟨(e0 0 (by omega) (by omega)).trans h0, e1, fun q j hq hj => ?_, fun q j hq hj => ?_, fun i hi => ?_, fun i j hi hj hc => ?_⟩
  · have hq2 : q < tn T := hq
    exact (e0 _ (by omega) (by omega)).trans (h2 q j hq2 hj)
  · have hq2 : q < tn T := hq
    exact (e0 _ (by omega) (by omega)).trans (h3 q j hq2 hj)
  · have hi2 : i < tr T + 1 := hi
    show g (482 + 9 * i) = nI (if i = tr T then tn T - 1 else ts T i)
    by_cases c : i = tr T
    · rw [if_pos c, c]; exact e2
    · rw [if_neg c, e0 _ (by omega) (by omega)]
      exact h4 i (by omega)
  · have hi2 : i < tr T + 1 := hi
    have hc2 : ¬ tk T (if i = tr T then tn T - 1 else ts T i) j = -1 := hc
    show g (482 + 9 * i + 1 + j) = if i = tr T then td T (tn T - 1) j else tv T i j
    by_cases c : i = tr T
    · rw [if_pos c] at hc2 ⊢
      rw [c]; exact e3 j hj hc2
    · rw [if_neg c] at hc2 ⊢
      rw [e0 _ (by omega) (by omega)]
      exact h5 i j (by omega) hj hc2
theorem setM {T : Tb} {f : Nat → Int32} {i j : Nat} {v : Int32} (h : RTm T f) (hw : WB T) (hj : j < 8) : RTm (setv T i j v) (upd f (482 + 9 * i + 1 + j) v) := by
  obtain ⟨w1, w2, w3, w4⟩ := hw
  obtain ⟨h0, h1, h2, h3, h4, h5⟩ := h
  refine ⟨(pk_un (by omega)).trans h0, (pk_un (by omega)).trans h1, fun q j hq hj => ?_, fun q j hq hj => ?_, fun i hi => (pk_un (by omega)).trans (h4 i hi), fun i2 j2 hi hj2 hc => ?_⟩
  · have hq2 : q < tn T := hq
    exact (pk_un (by omega)).trans (h2 q j hq2 hj)
  · have hq2 : q < tn T := hq
    exact (pk_un (by omega)).trans (h3 q j hq2 hj)
  · show upd f (482 + 9 * i + 1 + j) v (482 + 9 * i2 + 1 + j2) = if i2 = i ∧ j2 = j then v else tv T i2 j2
    by_cases e : i2 = i ∧ j2 = j
    · rw [if_pos e, e.1, e.2, pk_us]
    · rw [if_neg e, pk_un (fun z => e ⟨by omega, by omega⟩)]
      exact h5 i2 j2 hi hj2 hc
/-- a value set to what it is already -/
theorem setM_same {T : Tb} {f : Nat → Int32} {i j : Nat} {v : Int32} (h : RTm T f) (hw : WB T) (hi : i < tr T) (hj : j < 8) (hc : ¬ tk T (ts T i) j = -1) (hv : tv T i j = v) : RTm T (upd f (482 + 9 * i + 1 + j) v) := by
  have e := h.2.2.2.2.2 i j hi hj hc
  have e2 : upd f (482 + 9 * i + 1 + j) v = f := by
    funext z
    by_cases hz : z = 482 + 9 * i + 1 + j
    · rw [hz, pk_us, e, hv]
    · rw [pk_un hz]
  rw [e2]
  exact h
/-! the whole state: the table, the history, the snapshot, the text, the latest stop -/
def recH (h : Nat → Tb) (n : Nat) (T : Tb) : Nat → Tb := if n = 4 then (fun k => if k = 3 then T else h (k + 1)) else (fun k => if k = n then T else h k)
def recN (n : Nat) : Nat := if n = 4 then 4 else n + 1
def PH (zp : Nat → Int32) (h : Nat → Tb) (n : Nat) : Prop := ∀ k : Nat, k < n → RTm (h k) (fun z => zp (698 * k + z))
def flg : Option Tb → Int32
  | none => 0
  | some _ => 1
def soM : Option (Nat × Int32) → Int32
  | none => -10005
  | some q => nI q.1
def seM : Option (Nat × Int32) → Int32
  | none => -10005
  | some q => q.2
/-- the reference's cells hold the state -/
def MX (E : xE) (C : xC) (T : Tb) (hh : Nat → Tb) (hn : Nat) (sn : Option Tb) (tx : Nat → Int32) (ln : Nat) (sp : Option (Nat × Int32)) : Prop := ∃ (zf zt zp zs zx zl : Nat → Int32) (pa va tl : Int32), C (61) = .inr (5, [.ref (E.2.1 (62)), .ref (E.2.1 (63)), .ref (E.2.1 (64)), .int (nI (hn)), .ref (E.2.1 (65)), .int (flg sn), .ref (E.2.1 (66)), .int (nI (ln)), .int pa, .int va, .int (soM sp), .int (seM sp), .ref (E.2.1 (67)), .int tl]) ∧ C (62) = .inl (E.2.2.1 1, 698, .inl zf) ∧ C (63) = .inl (E.2.2.1 1, 698, .inl zt) ∧ C (64) = .inl (E.2.2.1 1, 2792, .inl zp) ∧ C (65) = .inl (E.2.2.1 1, 698, .inl zs) ∧ C (66) = .inl (E.2.2.1 1, 80, .inl zx) ∧ C (67) = .inl (E.2.2.1 1, 84, .inl zl) ∧ RTm T zf ∧ PH zp hh hn ∧ (∀ S : Tb, sn = some S → RTm S zs) ∧ (∀ z : Nat, z < ln → zx z = tx z)
/-- a state as it may be -/
def WX (T : Tb) (hh : Nat → Tb) (hn : Nat) (sn : Option Tb) (tx : Nat → Int32) (ln : Nat) (sp : Option (Nat × Int32)) : Prop := WF T ∧ hn ≤ 4 ∧ (∀ k : Nat, k < hn → WF (hh k)) ∧ (∀ S : Tb, sn = some S → WF S) ∧ ln ≤ 80 ∧ (∀ z : Nat, z < ln → xin (tx z) 65536) ∧ (∀ k : Nat × Int32, sp = some k → k.1 < 20)
/-- an act: what becomes of the table and of the history -/
def acT (r : Int32 × Tb) (T : Tb) : Tb := if -10001 < r.1 then r.2 else T
def acH (r : Int32 × Tb) (T : Tb) (hh : Nat → Tb) (hn : Nat) : Nat → Tb := if -10001 < r.1 then recH hh hn T else hh
def acN (r : Int32 × Tb) (hn : Nat) : Nat := if -10001 < r.1 then recN hn else hn
theorem recN_le {n : Nat} (h : n ≤ 4) : recN n ≤ 4 := by
  unfold recN
  by_cases e : n = 4
  · rw [if_pos e]; omega
  · rw [if_neg e]; omega
theorem PH_rec {zp zq : Nat → Int32} {hh : Nat → Tb} {hn : Nat} {T : Tb} (h4 : hn = 4) (hw : ∀ k : Nat, k < hn → WF (hh k)) (hT : WF T) (h : PH zp hh hn) (he : ∀ z : Nat, z < 2094 → zq z = zp (z + 698)) (ht : RTm T (fun z => zq (698 * 3 + z))) : PH zq (recH hh hn T) (recN hn) := by
  intro k hk
  rw [recN, if_pos h4] at hk
  rw [recH, if_pos h4]
  show RTm (if k = 3 then T else hh (k + 1)) _
  by_cases e : k = 3
  · rw [if_pos e, e]; exact ht
  · rw [if_neg e]
    exact RTm_ext (hw _ (by omega)).1 (h (k + 1) (by omega)) (fun z hz => by show zq (698 * k + z) = zp (698 * (k + 1) + z); rw [he _ (by omega), show 698 * k + z + 698 = 698 * (k + 1) + z by omega])
theorem PH_add {zp zq : Nat → Int32} {hh : Nat → Tb} {hn : Nat} {T : Tb} (h4 : ¬ hn = 4) (hw : ∀ k : Nat, k < hn → WF (hh k)) (hT : WF T) (h : PH zp hh hn) (he : ∀ z : Nat, z < 698 * hn → zq z = zp z) (ht : RTm T (fun z => zq (698 * hn + z))) : PH zq (recH hh hn T) (recN hn) := by
  intro k hk
  rw [recN, if_neg h4] at hk
  rw [recH, if_neg h4]
  show RTm (if k = hn then T else hh k) _
  by_cases e : k = hn
  · rw [if_pos e, e]; exact ht
  · rw [if_neg e]
    exact RTm_ext (hw _ (by omega)).1 (h k (by omega)) (fun z hz => he _ (by omega))
def aAdd (T : Tb) (j : Nat) (kd d : Int32) : Int32 × Tb := if tk T (tn T - 1) j = -1 then (if tn T < 30 then (nI (tn T), bgn T j kd d) else (-10003, T)) else (-10004, T)
def aDrop (T : Tb) (j : Nat) : Int32 × Tb := if ¬ tk T (tn T - 1) j = -1 then (if tn T < 30 then (nI (tn T), bgn T j (-1) 0) else (-10003, T)) else (-10001, T)
def aKind (T : Tb) (j : Nat) (kd : Int32) : Int32 × Tb := if ¬ tk T (tn T - 1) j = -1 then (if tn T < 30 then (if tk T (tn T - 1) j = kd then (-10005, T) else (nI (tn T), bgn T j kd (cstC kd (td T (tn T - 1) j)))) else (-10003, T)) else (-10001, T)
theorem cast_std {l : Launch} {E : xE} {C : xC} {T : Tb} {q j : Nat} {kd : Int32} (hv : WF T) (hq : q < tn T) (hj : j < 8) (hc : ¬ tk T q j = -1) (hk : xin kd 3) : xR E l yX5_cast wsX5_cast 0 0 [.int (td T q j), .int kd] C (cstC kd (td T q j)) := by
  have o := (hv.2.1 q j hq hj).resolve_left hc
  rw [← cst_eq hk (okv_rng o.1 o.2)]
  exact c_X5_cast
/-- behind done(): the state, as the act made it -/
def DN (E : xE) (C C1 : xC) (r0 : Int32) (T T2 : Tb) (hh : Nat → Tb) (hn ln : Nat) (fl pa va so se tl : Int32) : Prop :=
  (-10001 < r0 ∧ (∃ zf zp : Nat → Int32, C1 (61) = .inr (5, [.ref (E.2.1 (62)), .ref (E.2.1 (63)), .ref (E.2.1 (64)), .int (nI (recN hn)), .ref (E.2.1 (65)), .int fl, .ref (E.2.1 (66)), .int (nI (ln)), .int pa, .int va, .int so, .int se, .ref (E.2.1 (67)), .int tl]) ∧ C1 (62) = .inl (E.2.2.1 1, 698, .inl zf) ∧ C1 (64) = .inl (E.2.2.1 1, 2792, .inl zp) ∧ RTm T2 zf ∧ PH zp (recH hh hn T) (recN hn)) ∧ (∀ i : Nat, ¬ i = 61 → ¬ i = 62 → ¬ i = 64 → C1 i = C i)) ∨ (¬ -10001 < r0 ∧ C1 = C)
theorem DN_fr {E : xE} {C C1 : xC} {r0 : Int32} {T T2 : Tb} {hh : Nat → Tb} {hn ln : Nat} {fl pa va so se tl : Int32} (h : DN E C C1 r0 T T2 hh hn ln fl pa va so se tl) : ∀ i : Nat, i < 61 → C1 i = C i := by
  intro i hi
  rcases h with ⟨-, -, h⟩ | ⟨-, h⟩
  · exact h i (by omega) (by omega) (by omega)
  · rw [h]
theorem MX_done {E : xE} {C C1 : xC} {r : Int32 × Tb} {T : Tb} {hh : Nat → Tb} {hn : Nat} {sn : Option Tb} {tx : Nat → Int32} {ln : Nat} {sp : Option (Nat × Int32)} {zf zt zp zs zx zl : Nat → Int32} {pa va tl : Int32} (m0 : C (61) = .inr (5, [.ref (E.2.1 (62)), .ref (E.2.1 (63)), .ref (E.2.1 (64)), .int (nI (hn)), .ref (E.2.1 (65)), .int (flg sn), .ref (E.2.1 (66)), .int (nI (ln)), .int pa, .int va, .int (soM sp), .int (seM sp), .ref (E.2.1 (67)), .int tl])) (h2 : C (62) = .inl (E.2.2.1 1, 698, .inl zf)) (h3 : C (63) = .inl (E.2.2.1 1, 698, .inl zt)) (h4 : C (64) = .inl (E.2.2.1 1, 2792, .inl zp)) (h5 : C (65) = .inl (E.2.2.1 1, 698, .inl zs)) (h6 : C (66) = .inl (E.2.2.1 1, 80, .inl zx)) (h7 : C (67) = .inl (E.2.2.1 1, 84, .inl zl)) (gR : RTm T zf) (gP : PH zp hh hn) (gS : ∀ S : Tb, sn = some S → RTm S zs) (gX : ∀ z : Nat, z < ln → zx z = tx z) (hp : DN E C C1 r.1 T r.2 hh hn ln (flg sn) pa va (soM sp) (seM sp) tl) : MX E C1 (acT r T) (acH r T hh hn) (acN r hn) sn tx ln sp := by
  rcases hp with ⟨c, ⟨zf2, zp2, e0, e2, e4, e5, e6⟩, hf⟩ | ⟨c, he⟩
  · rw [acT, acH, acN, if_pos c, if_pos c, if_pos c]
    exact ⟨zf2, zt, zp2, zs, zx, zl, pa, va, tl, e0, e2, (hf 63 (by omega) (by omega) (by omega)).trans h3, e4, (hf 65 (by omega) (by omega) (by omega)).trans h5, (hf 66 (by omega) (by omega) (by omega)).trans h6, (hf 67 (by omega) (by omega) (by omega)).trans h7, e5, e6, gS, gX⟩
  · rw [acT, acH, acN, if_neg c, if_neg c, if_neg c, he]
    exact ⟨zf, zt, zp, zs, zx, zl, pa, va, tl, m0, h2, h3, h4, h5, h6, h7, gR, gP, gS, gX⟩
theorem sAdd_a {T : Tb} {j : Nat} {kd d : Int32} (hj : j < 8) (h1 : xin kd 3) (h2 : okv d kd) : sAdd T (nI j) kd d = aAdd T j kd d := by
  rw [sAdd, if_pos (xin_nI hj (by decide)), if_pos ⟨h1, h2⟩, ix_nI (by omega), aAdd]
theorem sDrop_a {T : Tb} {j : Nat} (hj : j < 8) : sDrop T (nI j) = aDrop T j := by
  rw [sDrop, aDrop, ix_nI (by omega)]
  by_cases h : tk T (tn T - 1) j = -1
  · rw [if_neg (fun z => z.2 h), if_neg (fun z => z h)]
  · rw [if_pos ⟨xin_nI hj (by decide), h⟩, if_pos h]
theorem sKind_a {T : Tb} {j : Nat} {kd : Int32} (hj : j < 8) (h1 : xin kd 3) : sKind T (nI j) kd = aKind T j kd := by
  rw [sKind, aKind, ix_nI (by omega)]
  by_cases h : tk T (tn T - 1) j = -1
  · rw [if_neg (fun z => z.2 h), if_neg (fun z => z h)]
  · rw [if_pos ⟨xin_nI hj (by decide), h⟩, if_pos h, if_pos h1]
theorem MX_err {E : xE} {C1 : xC} {x : Int32} {T : Tb} {hh : Nat → Tb} {hn : Nat} {sn : Option Tb} {tx : Nat → Int32} {ln : Nat} {sp : Option (Nat × Int32)} (hx : ¬ -10001 < x) (h : MX E C1 T hh hn sn tx ln sp) : MX E C1 (acT (x, T) T) (acH (x, T) T hh hn) (acN (x, T) hn) sn tx ln sp := by
  rw [acT, acH, acN, if_neg hx, if_neg hx, if_neg hx]
  exact h
/-! the acts keep a table as it may be -/
theorem WF_bgn {T : Tb} {j : Nat} {kd d : Int32} (h : WF T) (hm : tn T < 30) (hj : j < 8) (hk : kd = -1 ∨ (xin kd 3 ∧ okv d kd)) : WF (bgn T j kd d) := by
  obtain ⟨⟨w1, w2, w3, w4⟩, w5, w6⟩ := h
  refine ⟨⟨Nat.le_add_left 1 _, hm, w3, fun i hi => Nat.lt_succ_of_lt (w4 i hi)⟩, fun q i hq hi => ?_, fun i j1 hi hj1 => ?_⟩
  · have hq2 : q < tn T + 1 := hq
    show (if q = tn T then (if i = j then kd else tk T (tn T - 1) i) else tk T q i) = -1 ∨ (xin (if q = tn T then (if i = j then kd else tk T (tn T - 1) i) else tk T q i) 3 ∧ okv (if q = tn T then (if i = j then d else td T (tn T - 1) i) else td T q i) (if q = tn T then (if i = j then kd else tk T (tn T - 1) i) else tk T q i))
    by_cases c1 : q = tn T
    · simp only [if_pos c1]
      by_cases c2 : i = j
      · simp only [if_pos c2]; exact hk
      · simp only [if_neg c2]; exact w5 _ i (by omega) hi
    · simp only [if_neg c1]; exact w5 q i (by omega) hi
  · have hs := w4 i hi
    have e : tk (bgn T j kd d) (ts (bgn T j kd d) i) j1 = tk T (ts T i) j1 := by
      show (if ts T i = tn T then _ else tk T (ts T i) j1) = _
      rw [if_neg (by omega)]
    rw [e]
    exact w6 i j1 hi hj1
theorem WF_wrt {T : Tb} (h : WF T) (hm : tr T < 24) : WF (wrt T) := by
  obtain ⟨⟨w1, w2, w3, w4⟩, w5, w6⟩ := h
  refine ⟨⟨w1, w2, hm, fun i hi => ?_⟩, fun q i hq hi => w5 q i hq hi, fun i j hi hj => ?_⟩
  · have hi2 : i < tr T + 1 := hi
    show (if i = tr T then tn T - 1 else ts T i) < tn T
    by_cases e : i = tr T
    · rw [if_pos e]; omega
    · rw [if_neg e]; exact w4 i (by omega)
  · have hi2 : i < tr T + 1 := hi
    show tk T (if i = tr T then tn T - 1 else ts T i) j = -1 ∨ okv (if i = tr T then td T (tn T - 1) j else tv T i j) (tk T (if i = tr T then tn T - 1 else ts T i) j)
    by_cases e : i = tr T
    · simp only [if_pos e]
      rcases w5 (tn T - 1) j (by omega) hj with z | z
      · exact Or.inl z
      · exact Or.inr z.2
    · simp only [if_neg e]; exact w6 i j (by omega) hj
theorem WF_setv {T : Tb} {i j : Nat} {v : Int32} (h : WF T) (hv : okv v (tk T (ts T i) j)) : WF (setv T i j v) := by
  obtain ⟨w0, w5, w6⟩ := h
  refine ⟨w0, w5, fun i2 j2 hi hj => ?_⟩
  show tk T (ts T i2) j2 = -1 ∨ okv (if i2 = i ∧ j2 = j then v else tv T i2 j2) (tk T (ts T i2) j2)
  by_cases e : i2 = i ∧ j2 = j
  · simp only [if_pos e]; rw [e.1, e.2]; exact Or.inr hv
  · simp only [if_neg e]; exact w6 i2 j2 hi hj
theorem WF_rmv {T : Tb} {i : Nat} (h : WF T) (hi : i < tr T) : WF (rmv T i) := by
  obtain ⟨⟨w1, w2, w3, w4⟩, w5, w6⟩ := h
  refine ⟨⟨w1, w2, Nat.le_trans (Nat.sub_le _ _) w3, fun i2 hi2 => ?_⟩, w5, fun i2 j hi2 hj => ?_⟩
  · have hi3 : i2 < tr T - 1 := hi2
    show (if i2 < i then ts T i2 else ts T (i2 + 1)) < tn T
    by_cases e : i2 < i
    · rw [if_pos e]; exact w4 _ (by omega)
    · rw [if_neg e]; exact w4 _ (by omega)
  · have hi3 : i2 < tr T - 1 := hi2
    show tk T (if i2 < i then ts T i2 else ts T (i2 + 1)) j = -1 ∨ okv (if i2 < i then tv T i2 j else tv T (i2 + 1) j) (tk T (if i2 < i then ts T i2 else ts T (i2 + 1)) j)
    by_cases e : i2 < i
    · simp only [if_pos e]; exact w6 _ j (by omega) hj
    · simp only [if_neg e]; exact w6 _ j (by omega) hj
theorem WF_fgt {T : Tb} {n : Nat} (h : WF T) (hn : n < tn T) (hs : ∀ i : Nat, i < tr T → n ≤ ts T i) : WF (fgt T n) := by
  obtain ⟨⟨w1, w2, w3, w4⟩, w5, w6⟩ := h
  refine ⟨⟨?_, Nat.le_trans (Nat.sub_le _ _) w2, w3, fun i hi => ?_⟩, fun q j hq hj => ?_, fun i j hi hj => ?_⟩
  · show 1 ≤ tn T - n; omega
  · have hi2 : i < tr T := hi
    have a1 := w4 i hi2
    have a2 := hs i hi2
    show ts T i - n < tn T - n
    omega
  · have hq2 : q < tn T - n := hq
    exact w5 (q + n) j (by omega) hj
  · have hi2 : i < tr T := hi
    have a2 := hs i hi2
    have e : tk (fgt T n) (ts (fgt T n) i) j = tk T (ts T i) j := by
      show tk T (ts T i - n + n) j = _
      rw [show ts T i - n + n = ts T i by omega]
    rw [e]
    exact w6 i j hi2 hj
theorem WF_dre {T : Tb} {i : Nat} (h : WF T) (hi : i < tr T) : WF (dre T i) := by
  obtain ⟨⟨w1, w2, w3, w4⟩, w5, w6⟩ := id h
  refine ⟨⟨w1, w2, w3, fun i2 hi2 => ?_⟩, w5, fun i2 j hi2 hj => ?_⟩
  · have hi3 : i2 < tr T := hi2
    show (if i2 = i then tn T - 1 else ts T i2) < tn T
    by_cases e : i2 = i
    · rw [if_pos e]; omega
    · rw [if_neg e]; exact w4 _ hi3
  · have hi3 : i2 < tr T := hi2
    show tk T (if i2 = i then tn T - 1 else ts T i2) j = -1 ∨ okv (if i2 = i then rdC T (tn T - 1) i j else tv T i2 j) (tk T (if i2 = i then tn T - 1 else ts T i2) j)
    by_cases e : i2 = i
    · simp only [if_pos e]
      rcases w5 (tn T - 1) j (by omega) hj with z | z
      · exact Or.inl z
      · right
        unfold rdC
        by_cases c : tk T (ts T i) j = -1
        · rw [if_pos c]; exact z.2
        · rw [if_neg c]
          have k1 := (WF_k h (w4 i hi) hj).resolve_left c
          exact cst_ok z.1 (okv_rng k1 ((w6 i j hi hj).resolve_left c))
    · simp only [if_neg e]; exact w6 _ j hi3 hj
theorem WF_mkP {T : Tb} {a : Nat} (h : WF T) : ∀ k : Nat, a + k ≤ tr T → WF (mkP T a k) := by
  intro k
  induction k with
  | zero => intro _; exact h
  | succ k ih =>
    intro hk
    rw [mkP]
    by_cases e : ts T (a + k) = tn T - 1
    · rw [if_pos e]; exact ih (by omega)
    · rw [if_neg e]
      refine WF_dre (ih (by omega)) ?_
      rw [(mkP_out k).2.1]
      omega
theorem WF_aAdd {T : Tb} {j : Nat} {kd d : Int32} (h : WF T) (hj : j < 8) (h1 : xin kd 3) (h2 : okv d kd) : WF (aAdd T j kd d).2 := by
  unfold aAdd
  by_cases c : tk T (tn T - 1) j = -1
  · rw [if_pos c]
    by_cases c2 : tn T < 30
    · rw [if_pos c2]; exact WF_bgn h c2 hj (Or.inr ⟨h1, h2⟩)
    · rw [if_neg c2]; exact h
  · rw [if_neg c]; exact h
theorem WF_aDrop {T : Tb} {j : Nat} (h : WF T) (hj : j < 8) : WF (aDrop T j).2 := by
  unfold aDrop
  by_cases c : ¬ tk T (tn T - 1) j = -1
  · rw [if_pos c]
    by_cases c2 : tn T < 30
    · rw [if_pos c2]; exact WF_bgn h c2 hj (Or.inl rfl)
    · rw [if_neg c2]; exact h
  · rw [if_neg c]; exact h
theorem WF_aKind {T : Tb} {j : Nat} {kd : Int32} (h : WF T) (hj : j < 8) (h1 : xin kd 3) : WF (aKind T j kd).2 := by
  unfold aKind
  by_cases c : ¬ tk T (tn T - 1) j = -1
  · rw [if_pos c]
    by_cases c2 : tn T < 30
    · rw [if_pos c2]
      by_cases c3 : tk T (tn T - 1) j = kd
      · rw [if_pos c3]; exact h
      · rw [if_neg c3]
        have o := (h.2.1 (tn T - 1) j (by have := h.1.1; omega) hj).resolve_left c
        exact WF_bgn h c2 hj (Or.inr ⟨h1, cst_ok h1 (okv_rng o.1 o.2)⟩)
    · rw [if_neg c2]; exact h
  · rw [if_neg c]; exact h
theorem WF_sRow {T : Tb} (h : WF T) : WF (sRow T).2 := by
  unfold sRow
  by_cases c : tr T < 24
  · rw [if_pos c]; exact WF_wrt h c
  · rw [if_neg c]; exact h
theorem WF_sSet {T : Tb} {x y v : Int32} (h : WF T) : WF (sSet T x y v).2 := by
  unfold sSet
  by_cases c : (xin x (tr T) ∧ xin y 8) ∧ ¬ tk T (ts T (ix x)) (ix y) = -1
  · rw [if_pos c]
    by_cases c2 : okv v (tk T (ts T (ix x)) (ix y))
    · rw [if_pos c2]
      by_cases c3 : tv T (ix x) (ix y) = v
      · rw [if_pos c3]; exact h
      · rw [if_neg c3]; exact WF_setv h c2
    · rw [if_neg c2]; exact h
  · rw [if_neg c]; exact h
theorem inN_conv {x : Int32} {n : Nat} : bI ((0 : Int) ≤ x.toInt ∧ x.toInt ≤ (n : Int) - 1) = bI (xin x n) := bI_congr ⟨fun z => ⟨z.1, by omega⟩, fun z => ⟨z.1, by omega⟩⟩
theorem c_X5_inN {l : Launch} {E : xE} {C : xC} {x z : Int32} {n : Nat} (hz : z.toInt = (n : Int) - 1) : xR E l yX5_in wsX5_in 0 0 [.int x, .int 0, .int z] C (bI (xin x n)) := by
  rw [← inN_conv]
  exact c_X5_in rfl (by decide) hz
