/-- the text, read: at a place stands this character -/
abbrev chA (G : Nat → Nat) (ln p c0 : Nat) : Prop := p < ln ∧ G p = c0
def wdB (G : Nat → Nat) (ln : Nat) : List Nat → Nat → Bool
  | [], _ => true
  | c0 :: L, p => decide (chA G ln p c0) && wdB G ln L (p + 1)
abbrev wdO (G : Nat → Nat) (ln : Nat) (L : List Nat) (p : Nat) : Prop := wdB G ln L p = true
theorem wdO_nil {G : Nat → Nat} {ln p : Nat} : wdO G ln [] p ↔ True := ⟨fun _ => trivial, fun _ => rfl⟩
theorem wdO_cons {G : Nat → Nat} {ln c0 p : Nat} {L : List Nat} : wdO G ln (c0 :: L) p ↔ (chA G ln p c0 ∧ wdO G ln L (p + 1)) := by
  show (decide (chA G ln p c0) && wdB G ln L (p + 1)) = true ↔ _
  rw [Bool.and_eq_true, decide_eq_true_iff]
def wdP (G : Nat → Nat) (ln : Nat) : List Nat → Nat → Nat
  | [], p => p
  | c0 :: L, p => if chA G ln p c0 then wdP G ln L (p + 1) else p
theorem wdP_b {G : Nat → Nat} {ln : Nat} (L : List Nat) : ∀ p : Nat, p ≤ ln → p ≤ wdP G ln L p ∧ wdP G ln L p ≤ ln ∧ (wdO G ln L p → wdP G ln L p = p + L.length) := by
  induction L with
  | nil => exact fun p h => ⟨Nat.le_refl _, h, fun _ => rfl⟩
  | cons c0 L hi =>
    intro p h
    by_cases q : chA G ln p c0
    · have h2 := hi (p + 1) q.1
      rw [wdP, if_pos q]
      refine ⟨by omega, h2.2.1, fun w => ?_⟩
      rw [h2.2.2 (wdO_cons.mp w).2, List.length_cons]
      omega
    · rw [wdP, if_neg q]
      exact ⟨Nat.le_refl _, h, fun w => absurd (wdO_cons.mp w).1 q⟩
theorem wd_app {G : Nat → Nat} {ln d0 : Nat} (L : List Nat) : ∀ p : Nat, (wdO G ln (L ++ [d0]) p ↔ wdO G ln L p ∧ chA G ln (wdP G ln L p) d0) ∧ wdP G ln (L ++ [d0]) p = (if wdO G ln L p then (if chA G ln (wdP G ln L p) d0 then wdP G ln L p + 1 else wdP G ln L p) else wdP G ln L p) := by
  induction L with
  | nil =>
    intro p
    refine ⟨?_, ?_⟩
    · rw [List.nil_append, wdO_cons, wdO_nil, wdO_nil, wdP, and_true, true_and]
    · rw [List.nil_append, if_pos (wdO_nil.mpr trivial), wdP, wdP, wdP]
  | cons c0 L hi =>
    intro p
    have h2 := hi (p + 1)
    by_cases q : chA G ln p c0
    · rw [List.cons_append, wdP, if_pos q, wdP, if_pos q, h2.2]
      refine ⟨by rw [wdO_cons, wdO_cons, h2.1]; exact and_assoc.symm, ?_⟩
      by_cases r : wdO G ln L (p + 1)
      · rw [if_pos r, if_pos (wdO_cons.mpr ⟨q, r⟩)]
      · rw [if_neg r, if_neg (fun w => r (wdO_cons.mp w).2)]
    · rw [List.cons_append, wdP, if_neg q, wdP, if_neg q]
      refine ⟨⟨fun w => absurd (wdO_cons.mp w).1 q, fun w => absurd (wdO_cons.mp w.1).1 q⟩, ?_⟩
      rw [if_neg (fun w => q (wdO_cons.mp w).1)]
/-- digits -/
def dgF (G : Nat → Nat) (ln mo : Nat) : Nat → Nat → Nat → Nat × Nat
  | 0, p, v => (p, v)
  | f + 1, p, v => if 0 < v ∧ p < ln ∧ (48 ≤ G p ∧ G p ≤ 57) ∧ 10 * v + (G p - 48) ≤ mo then dgF G ln mo f (p + 1) (10 * v + (G p - 48)) else (p, v)
theorem dg_go {G : Nat → Nat} {ln mo p v : Nat} (h : 0 < v ∧ p < ln ∧ (48 ≤ G p ∧ G p ≤ 57) ∧ 10 * v + (G p - 48) ≤ mo) : dgF G ln mo (ln - p) p v = dgF G ln mo (ln - (p + 1)) (p + 1) (10 * v + (G p - 48)) := by
  rw [show ln - p = (ln - (p + 1)) + 1 by omega, dgF, if_pos h]
theorem dg_end {G : Nat → Nat} {ln mo p v : Nat} (h : ¬ (0 < v ∧ p < ln ∧ (48 ≤ G p ∧ G p ≤ 57) ∧ 10 * v + (G p - 48) ≤ mo)) : dgF G ln mo (ln - p) p v = (p, v) := by
  rcases Nat.lt_or_ge p ln with q | q
  · rw [show ln - p = (ln - (p + 1)) + 1 by omega, dgF, if_neg h]
  · rw [show ln - p = 0 by omega]
    rfl
theorem dg_b {G : Nat → Nat} {ln mo : Nat} (f : Nat) : ∀ p v : Nat, p ≤ ln → v ≤ mo → p ≤ (dgF G ln mo f p v).1 ∧ (dgF G ln mo f p v).1 ≤ ln ∧ (dgF G ln mo f p v).2 ≤ mo := by
  induction f with
  | zero => exact fun p v h1 h2 => ⟨Nat.le_refl _, h1, h2⟩
  | succ f hi =>
    intro p v h1 h2
    rw [dgF]
    by_cases q : 0 < v ∧ p < ln ∧ (48 ≤ G p ∧ G p ≤ 57) ∧ 10 * v + (G p - 48) ≤ mo
    · rw [if_pos q]
      have := hi (p + 1) (10 * v + (G p - 48)) q.2.1 q.2.2.2
      exact ⟨by omega, this.2.1, this.2.2⟩
    · rw [if_neg q]
      exact ⟨Nat.le_refl _, h1, h2⟩
/-- a number, from a least one on, up to mo -/
abbrev nmB (G : Nat → Nat) (ln : Nat) (lw : Int32) (p : Nat) : Prop := lw.toInt < 0 ∧ chA G ln p 45
def nm1 (G : Nat → Nat) (ln : Nat) (lw : Int32) (p : Nat) : Nat := if nmB G ln lw p then p + 1 else p
abbrev nmO (G : Nat → Nat) (ln : Nat) (lw : Int32) (mo p : Nat) : Prop := nm1 G ln lw p < ln ∧ ((if nmB G ln lw p then 49 else 48) ≤ G (nm1 G ln lw p) ∧ G (nm1 G ln lw p) ≤ 57) ∧ G (nm1 G ln lw p) - 48 ≤ mo
def nmD (G : Nat → Nat) (ln : Nat) (lw : Int32) (mo p : Nat) : Nat × Nat := dgF G ln mo (ln - (nm1 G ln lw p + 1)) (nm1 G ln lw p + 1) (G (nm1 G ln lw p) - 48)
def nmP (G : Nat → Nat) (ln : Nat) (lw : Int32) (mo p : Nat) : Nat := if nmO G ln lw mo p then (nmD G ln lw mo p).1 else nm1 G ln lw p
def nmV (G : Nat → Nat) (ln : Nat) (lw : Int32) (mo p : Nat) : Int32 := if nmB G ln lw p then -nI (nmD G ln lw mo p).2 else nI (nmD G ln lw mo p).2
theorem nm1_b {G : Nat → Nat} {ln : Nat} {lw : Int32} {p : Nat} (h : p ≤ ln) : p ≤ nm1 G ln lw p ∧ nm1 G ln lw p ≤ ln := by
  unfold nm1
  by_cases q : nmB G ln lw p
  · rw [if_pos q]; exact ⟨by omega, q.2.1⟩
  · rw [if_neg q]; exact ⟨Nat.le_refl _, h⟩
theorem nmP_b {G : Nat → Nat} {ln : Nat} {lw : Int32} {mo p : Nat} (h : p ≤ ln) : p ≤ nmP G ln lw mo p ∧ nmP G ln lw mo p ≤ ln := by
  have h1 := nm1_b (G := G) (lw := lw) h
  unfold nmP
  by_cases q : nmO G ln lw mo p
  · rw [if_pos q]
    have := dg_b (G := G) (mo := mo) (ln - (nm1 G ln lw p + 1)) (nm1 G ln lw p + 1) (G (nm1 G ln lw p) - 48) q.1 q.2.2
    exact ⟨Nat.le_trans (by omega) this.1, this.2.1⟩
  · rw [if_neg q]; exact h1
/-- a blank and a number -/
abbrev opO (G : Nat → Nat) (ln : Nat) (lw : Int32) (mo p : Nat) : Prop := chA G ln p 32 ∧ nmO G ln lw mo (p + 1)
def opP (G : Nat → Nat) (ln : Nat) (lw : Int32) (mo p : Nat) : Nat := if chA G ln p 32 then nmP G ln lw mo (p + 1) else p
def opV (G : Nat → Nat) (ln : Nat) (lw : Int32) (mo p : Nat) : Int32 := nmV G ln lw mo (p + 1)
theorem opP_b {G : Nat → Nat} {ln : Nat} {lw : Int32} {mo p : Nat} (h : p ≤ ln) : p ≤ opP G ln lw mo p ∧ opP G ln lw mo p ≤ ln := by
  unfold opP
  by_cases q : chA G ln p 32
  · rw [if_pos q]
    have := nmP_b (G := G) (lw := lw) (mo := mo) (show p + 1 ≤ ln from q.1)
    omega
  · rw [if_neg q]; exact ⟨Nat.le_refl _, h⟩
/-- a blank and a kind -/
def kdK (G : Nat → Nat) (ln p : Nat) : Nat := if chA G ln p 102 then 0 else if chA G ln p 100 then 1 else 2
def kwd : Nat → List Nat
  | 0 => [102, 108, 97, 103]
  | 1 => [100, 105, 103, 105, 116]
  | _ => [110, 117, 109, 98, 101, 114]
abbrev kdO (G : Nat → Nat) (ln p : Nat) : Prop := chA G ln p 32 ∧ wdO G ln (kwd (kdK G ln (p + 1))) (p + 1)
def kdP (G : Nat → Nat) (ln p : Nat) : Nat := if chA G ln p 32 then wdP G ln (kwd (kdK G ln (p + 1))) (p + 1) else p
theorem kdP_b {G : Nat → Nat} {ln p : Nat} (h : p ≤ ln) : p ≤ kdP G ln p ∧ kdP G ln p ≤ ln := by
  unfold kdP
  by_cases q : chA G ln p 32
  · rw [if_pos q]
    have := wdP_b (G := G) (kwd (kdK G ln (p + 1))) (p + 1) (show p + 1 ≤ ln from q.1)
    omega
  · rw [if_neg q]; exact ⟨Nat.le_refl _, h⟩
theorem kdK_3 {G : Nat → Nat} {ln p : Nat} : kdK G ln p < 3 := by
  unfold kdK
  split
  · decide
  · split <;> decide
def oz (n : Nat) : List Nat := if n = 0 then [] else [n]
theorem chA_2 {G : Nat → Nat} {ln p c0 : Nat} : (p < ln ∧ (c0 ≤ G p ∧ G p ≤ c0)) ↔ chA G ln p c0 := ⟨fun h => ⟨h.1, by omega⟩, fun h => ⟨h.1, by have := h.2; omega⟩⟩
