/-- digits, as the class reads them -/
abbrev ddO (G : Nat → Nat) (ln mo p : Nat) : Prop := p < ln ∧ (48 ≤ G p ∧ G p ≤ 57) ∧ G p - 48 ≤ mo
def ddD (G : Nat → Nat) (ln mo p : Nat) : Nat × Nat := dgF G ln mo (ln - (p + 1)) (p + 1) (G p - 48)
def ddP (G : Nat → Nat) (ln mo p : Nat) : Nat := if ddO G ln mo p then (ddD G ln mo p).1 else p
def ddN (G : Nat → Nat) (ln mo p : Nat) : Int32 := if ddO G ln mo p then nI (ddD G ln mo p).2 else 0
theorem ddP_b {G : Nat → Nat} {ln mo p : Nat} (h : p ≤ ln) : p ≤ ddP G ln mo p ∧ ddP G ln mo p ≤ ln := by
  unfold ddP
  by_cases q : ddO G ln mo p
  · rw [if_pos q]
    have := dg_b (G := G) (mo := mo) (ln - (p + 1)) (p + 1) (G p - 48) q.1 q.2.2
    exact ⟨Nat.le_trans (by omega) this.1, this.2.1⟩
  · rw [if_neg q]; exact ⟨Nat.le_refl _, h⟩
theorem nm_pos {G : Nat → Nat} {ln mo p : Nat} {lw : Int32} (h : ¬ nmB G ln lw p) : (nmO G ln lw mo p ↔ ddO G ln mo p) ∧ nmP G ln lw mo p = ddP G ln mo p ∧ (ddO G ln mo p → nmV G ln lw mo p = ddN G ln mo p) := by
  have e1 : nm1 G ln lw p = p := if_neg h
  have eo : nmO G ln lw mo p ↔ ddO G ln mo p := by
    unfold nmO
    rw [e1, if_neg h]
  refine ⟨eo, ?_, fun q => ?_⟩
  · unfold nmP ddP nmD ddD
    by_cases q : ddO G ln mo p
    · rw [if_pos (eo.mpr q), if_pos q, e1]
    · rw [if_neg (fun z => q (eo.mp z)), if_neg q, e1]
  · unfold nmV ddN nmD ddD
    rw [if_neg h, if_pos q, e1]
theorem nm_neg {G : Nat → Nat} {ln mo p : Nat} {lw : Int32} (h : nmB G ln lw p) (h0 : ¬ chA G ln (p + 1) 48) : (nmO G ln lw mo p ↔ ddO G ln mo (p + 1)) ∧ nmP G ln lw mo p = ddP G ln mo (p + 1) ∧ (ddO G ln mo (p + 1) → nmV G ln lw mo p = -ddN G ln mo (p + 1)) := by
  have e1 : nm1 G ln lw p = p + 1 := if_pos h
  have eo : nmO G ln lw mo p ↔ ddO G ln mo (p + 1) := by
    unfold nmO
    rw [e1, if_pos h]
    exact ⟨fun z => ⟨z.1, ⟨by omega, z.2.1.2⟩, z.2.2⟩, fun z => ⟨z.1, ⟨by have : ¬ G (p + 1) = 48 := fun w => h0 ⟨z.1, w⟩; omega, z.2.1.2⟩, z.2.2⟩⟩
  refine ⟨eo, ?_, fun q => ?_⟩
  · unfold nmP ddP nmD ddD
    by_cases q : ddO G ln mo (p + 1)
    · rw [if_pos (eo.mpr q), if_pos q, e1]
    · rw [if_neg (fun z => q (eo.mp z)), if_neg q, e1]
  · unfold nmV ddN nmD ddD
    rw [if_pos h, if_pos q, e1]
theorem nm_neg0 {G : Nat → Nat} {ln mo p : Nat} {lw : Int32} (h : nmB G ln lw p) (h0 : chA G ln (p + 1) 48) : ¬ nmO G ln lw mo p ∧ nmP G ln lw mo p = p + 1 := by
  have e1 : nm1 G ln lw p = p + 1 := if_pos h
  have eo : ¬ nmO G ln lw mo p := by
    unfold nmO
    rw [e1, if_pos h, h0.2]
    omega
  exact ⟨eo, (if_neg eo).trans e1⟩
