/-! an act that did nothing; what the law asks behind an act -/
theorem CX_stay {E : xE} {C : xC} {r : Int32 × Tb} {T : Tb} {hh : Nat → Tb} {hn : Nat} {sn : Option Tb} {tx : Nat → Int32} {ln : Nat} {sp : Option (Nat × Int32)} (h : ¬ -10001 < r.1) (g : CX E C T hh hn sn tx ln sp) : CX E C (acT r T) (acH r T hh hn) (acN r hn) sn tx ln sp := by
  rw [acT, acH, acN, if_neg h, if_neg h, if_neg h]
  exact g
theorem DIF_act {T : Tb} {u : Int32} {r : Int32 × Tb} (hd : DIF T) (h : AOK T u r) : DIF (acT r T) := by
  rw [acT]
  by_cases c : -10001 < r.1
  · rw [if_pos c]; exact h.2.1
  · rw [if_neg c]; exact hd
theorem told_lt {r : Int32 × Tb} (h : -10001 < r.1 → -9999 ≤ r.1.toInt) : r.1 < -9999 ↔ ¬ -10001 < r.1 := by
  have e1 : (-10001 : Int32).toInt = -10001 := by decide
  have e2 : (-9999 : Int32).toInt = -9999 := by decide
  constructor
  · intro z y
    have := h y
    rw [i32lt, e2] at z
    omega
  · intro z
    rw [i32lt, e1] at z
    rw [i32lt, e2]
    omega
theorem told_ok {x : Int32} (h : ¬ x.toInt < 0) : -10001 < x := by
  rw [i32lt, show (-10001 : Int32).toInt = -10001 by decide]
  omega
theorem acN_4 {r : Int32 × Tb} {hn : Nat} (c : -10001 < r.1) (h : 4 ≤ hn) (h4 : hn ≤ 4) : nI (acN r hn) = 4 := by
  have e : acN r hn = 4 := by rw [acN, if_pos c, recN, if_pos (by omega)]
  rw [e]
  decide
theorem acN_s {r : Int32 × Tb} {hn : Nat} (c : -10001 < r.1) (h : ¬ 4 ≤ hn) : nI (acN r hn) = nI (hn + 1) := by
  have e : acN r hn = hn + 1 := by rw [acN, if_pos c, recN, if_neg (by omega)]
  rw [e]
theorem stay_N {r : Int32 × Tb} {hn : Nat} (c : ¬ -10001 < r.1) : nI (acN r hn) = nI hn := by rw [acN, if_neg c]
theorem stay_T {r : Int32 × Tb} {T : Tb} (c : ¬ -10001 < r.1) : acT r T = T := by rw [acT, if_neg c]
theorem done_T {r : Int32 × Tb} {T : Tb} (c : -10001 < r.1) : acT r T = r.2 := by rw [acT, if_pos c]
theorem law_s1 {T : Tb} {u : Int32} {r : Int32 × Tb} (h : AOK T u r) (hT : 1 ≤ tn T) (hu : u.toInt ≤ 6) (c : -10001 < r.1) : nI (tn (acT r T) - 1) = nI (tn T - 1 + 1) ∧ r.1 = nI (tn T - 1 + 1) ∧ nI (nal (acT r T)) = nI (nal T) := by
  obtain ⟨e1, e2, e3⟩ := h.2.2.2.1 hu c
  rw [done_T c, e1, e2, e3, show tn T - 1 + 1 = tn T by omega, show tn T + 1 - 1 = tn T by omega]
  exact ⟨rfl, rfl, rfl⟩
theorem law_s2 {T : Tb} {u : Int32} {r : Int32 × Tb} (h : AOK T u r) (hT : 1 ≤ tn T) (h30 : tn T ≤ 30) (hu : ¬ u.toInt < 19) (c : -10001 < r.1) : nI (tn (acT r T) - 1) = nI (tn T - 1) - r.1 := by
  obtain ⟨n, e1, e2, e3⟩ := h.2.2.2.2.1 hu c
  rw [done_T c, e1, e3, pk_sub (by omega), show tn T - n - 1 = tn T - 1 - n by omega]
theorem law_s3 {T : Tb} {u : Int32} {r : Int32 × Tb} (h : AOK T u r) (hw : WB T) (hu : u = 17 ∨ u = 18) (c : -10001 < r.1) : ¬ nI (nal T) < r.1 := by
  obtain ⟨n, e1, e2⟩ := h.2.2.2.2.2 hu c
  have h1 := nal_le hw
  rw [e1, nI_ltI (by omega) (by omega)]
  omega
