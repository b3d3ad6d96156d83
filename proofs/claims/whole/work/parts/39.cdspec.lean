theorem cmS_iff {G : Nat → Nat} {ln p c0 : Nat} (h : 0 < c0) : cmS G ln p = c0 ↔ chA G ln p c0 := by
  unfold cmS
  by_cases q : p < ln
  · rw [if_pos q]; exact ⟨fun z => ⟨q, z⟩, fun z => z.2⟩
  · rw [if_neg q]; exact ⟨fun z => absurd z (by omega), fun z => absurd z.1 q⟩
theorem wdS_no {G : Nat → Nat} {ln p : Nat} (h : ¬ cmS G ln p = 115) : ¬ wdO G ln ltwS p ∧ wdP G ln ltwS p = p := by
  have q : ¬ chA G ln p 115 := fun z => h ((cmS_iff (by decide)).mpr z)
  exact ⟨fun z => q (wdO_cons.mp z).1, if_neg q⟩
theorem cmP_else {G : Nat → Nat} {ln p : Nat} (h1 : ¬ cmS G ln p = 97) (h2 : ¬ cmS G ln p = 107) (h3 : ¬ cmS G ln p = 100) (h4 : ¬ cmS G ln p = 114) : cmP G ln p = (if wdO G ln ltwS p then (if opO G ln 0 23 (p + 3) then seP G ln (opP G ln 0 23 (p + 3)) else opP G ln 0 23 (p + 3)) else wdP G ln ltwS p) := by
  unfold cmP
  rw [if_neg h1, if_neg h2, if_neg h3, if_neg h4]
  by_cases q : cmS G ln p = 115
  · rw [if_pos q]
  · rw [if_neg q, if_neg (wdS_no q).1, (wdS_no q).2]
theorem cmO_else {G : Nat → Nat} {ln p : Nat} (h1 : ¬ cmS G ln p = 97) (h2 : ¬ cmS G ln p = 107) (h3 : ¬ cmS G ln p = 100) (h4 : ¬ cmS G ln p = 114) : cmO G ln p ↔ (wdO G ln ltwS p ∧ opO G ln 0 23 (p + 3) ∧ seO G ln (opP G ln 0 23 (p + 3))) := by
  refine ⟨fun z => ?_, fun z => ?_⟩
  · rcases cmO_iff.mp z with z | z | z | z | z
    · exact absurd z.1 h1
    · exact absurd z.1 h2
    · exact absurd z.1 h3
    · exact absurd z.1 h4
    · exact z.2
  · have q : cmS G ln p = 115 := (cmS_iff (by decide)).mpr (wdO_cons.mp z.1).1
    exact cmO_iff.mpr (Or.inr (Or.inr (Or.inr (Or.inr ⟨q, z⟩))))
/-- what the class notes of a command -/
def CD (G : Nat → Nat) (ln p : Nat) (vb rw0 nm0 kd0 nb0 : Int32) : Prop :=
  (cmS G ln p = 97 → vb = 0 ∧ nm0 = opV G ln 0 7 (p + 3) ∧ kd0 = nI (colK G ln (p + 3)) ∧ nb0 = dftV G ln (colK G ln (p + 3)) (colP G ln (p + 3))) ∧
  (cmS G ln p = 107 → vb = 2 ∧ nm0 = opV G ln 0 7 (p + 4) ∧ kd0 = nI (colK G ln (p + 4))) ∧
  (cmS G ln p = 100 → vb = 1 ∧ nm0 = opV G ln 0 7 (p + 4)) ∧ (cmS G ln p = 114 → vb = 3) ∧
  (cmS G ln p = 115 → vb = 4 ∧ rw0 = opV G ln 0 23 (p + 3) ∧ nm0 = opV G ln 0 7 (opP G ln 0 23 (p + 3)) ∧ nb0 = opV G ln (-9999) 9999 (opP G ln 0 7 (opP G ln 0 23 (p + 3))))
