/-- a column: a name and a kind -/
abbrev colO (G : Nat → Nat) (ln p : Nat) : Prop := opO G ln 0 7 p ∧ kdO G ln (opP G ln 0 7 p)
def colP (G : Nat → Nat) (ln p : Nat) : Nat := if opO G ln 0 7 p then kdP G ln (opP G ln 0 7 p) else opP G ln 0 7 p
def colK (G : Nat → Nat) (ln p : Nat) : Nat := kdK G ln (opP G ln 0 7 p + 1)
def hiN (k : Nat) : Nat := if k = 0 then 1 else if k = 1 then 9 else 9999
theorem hiN_le {k : Nat} : hiN k ≤ 9999 := by
  unfold hiN
  split
  · decide
  · split <;> decide
theorem hiK_N {k : Nat} (h : k < 3) : hiK (nI k) = nI (hiN k) := by
  rcases (by omega : k = 0 ∨ k = 1 ∨ k = 2) with q | q | q <;> subst q <;> decide
/-- a standard value, if one stands there -/
abbrev dftO (G : Nat → Nat) (ln k p : Nat) : Prop := ¬ chA G ln p 32 ∨ opO G ln (loK (nI k)) (hiN k) p
def dftP (G : Nat → Nat) (ln k p : Nat) : Nat := opP G ln (loK (nI k)) (hiN k) p
def dftV (G : Nat → Nat) (ln k p : Nat) : Int32 := if chA G ln p 32 then opV G ln (loK (nI k)) (hiN k) p else 0
/-- a name and a value -/
abbrev seO (G : Nat → Nat) (ln p : Nat) : Prop := opO G ln 0 7 p ∧ opO G ln (-9999) 9999 (opP G ln 0 7 p)
def seP (G : Nat → Nat) (ln p : Nat) : Nat := if opO G ln 0 7 p then opP G ln (-9999) 9999 (opP G ln 0 7 p) else opP G ln 0 7 p
theorem colP_b {G : Nat → Nat} {ln p : Nat} (h : p ≤ ln) : p ≤ colP G ln p ∧ colP G ln p ≤ ln := by
  have h1 := opP_b (G := G) (lw := 0) (mo := 7) h
  have h2 := kdP_b (G := G) h1.2
  unfold colP
  split
  · omega
  · exact h1
theorem dftP_b {G : Nat → Nat} {ln k p : Nat} (h : p ≤ ln) : p ≤ dftP G ln k p ∧ dftP G ln k p ≤ ln := opP_b h
theorem seP_b {G : Nat → Nat} {ln p : Nat} (h : p ≤ ln) : p ≤ seP G ln p ∧ seP G ln p ≤ ln := by
  have h1 := opP_b (G := G) (lw := 0) (mo := 7) h
  have h2 := opP_b (G := G) (lw := -9999) (mo := 9999) h1.2
  unfold seP
  split
  · omega
  · exact h1
/-- a command -/
def cmS (G : Nat → Nat) (ln p : Nat) : Nat := if p < ln then G p else 0
abbrev ltwA : List Nat := [97, 100, 100]
abbrev ltwK : List Nat := [107, 105, 110, 100]
abbrev ltwD : List Nat := [100, 114, 111, 112]
abbrev ltwR : List Nat := [114, 111, 119]
abbrev ltwS : List Nat := [115, 101, 116]
def cmB (G : Nat → Nat) (ln p : Nat) : Bool := decide (
  (cmS G ln p = 97 ∧ wdO G ln ltwA p ∧ colO G ln (p + 3) ∧ dftO G ln (colK G ln (p + 3)) (colP G ln (p + 3))) ∨
  (cmS G ln p = 107 ∧ wdO G ln ltwK p ∧ colO G ln (p + 4)) ∨ (cmS G ln p = 100 ∧ wdO G ln ltwD p ∧ opO G ln 0 7 (p + 4)) ∨
  (cmS G ln p = 114 ∧ wdO G ln ltwR p) ∨ (cmS G ln p = 115 ∧ wdO G ln ltwS p ∧ opO G ln 0 23 (p + 3) ∧ seO G ln (opP G ln 0 23 (p + 3))))
abbrev cmO (G : Nat → Nat) (ln p : Nat) : Prop := cmB G ln p = true
theorem cmO_iff {G : Nat → Nat} {ln p : Nat} : cmO G ln p ↔ (
  (cmS G ln p = 97 ∧ wdO G ln ltwA p ∧ colO G ln (p + 3) ∧ dftO G ln (colK G ln (p + 3)) (colP G ln (p + 3))) ∨
  (cmS G ln p = 107 ∧ wdO G ln ltwK p ∧ colO G ln (p + 4)) ∨ (cmS G ln p = 100 ∧ wdO G ln ltwD p ∧ opO G ln 0 7 (p + 4)) ∨
  (cmS G ln p = 114 ∧ wdO G ln ltwR p) ∨ (cmS G ln p = 115 ∧ wdO G ln ltwS p ∧ opO G ln 0 23 (p + 3) ∧ seO G ln (opP G ln 0 23 (p + 3)))) := decide_eq_true_iff
def cmP (G : Nat → Nat) (ln p : Nat) : Nat :=
  if cmS G ln p = 97 then (if wdO G ln ltwA p then (if colO G ln (p + 3) then dftP G ln (colK G ln (p + 3)) (colP G ln (p + 3)) else colP G ln (p + 3)) else wdP G ln ltwA p)
  else if cmS G ln p = 107 then (if wdO G ln ltwK p then colP G ln (p + 4) else wdP G ln ltwK p)
  else if cmS G ln p = 100 then (if wdO G ln ltwD p then opP G ln 0 7 (p + 4) else wdP G ln ltwD p)
  else if cmS G ln p = 114 then wdP G ln ltwR p
  else if cmS G ln p = 115 then (if wdO G ln ltwS p then (if opO G ln 0 23 (p + 3) then seP G ln (opP G ln 0 23 (p + 3)) else opP G ln 0 23 (p + 3)) else wdP G ln ltwS p)
  else p
theorem cmP_b {G : Nat → Nat} {ln p : Nat} (h : p ≤ ln) : p ≤ cmP G ln p ∧ cmP G ln p ≤ ln ∧ (cmO G ln p → p + 3 ≤ cmP G ln p) := by
  have ha := wdP_b (G := G) (ln := ln) ltwA p h
  have hk := wdP_b (G := G) (ln := ln) ltwK p h
  have hd := wdP_b (G := G) (ln := ln) ltwD p h
  have hr := wdP_b (G := G) (ln := ln) ltwR p h
  have hs := wdP_b (G := G) (ln := ln) ltwS p h
  have la : wdO G ln ltwA p → p + 3 ≤ ln := fun w => by have := ha.2.2 w; have := ha.2.1; simp only [List.length_cons, List.length_nil] at *; omega
  have lk : wdO G ln ltwK p → p + 4 ≤ ln := fun w => by have := hk.2.2 w; have := hk.2.1; simp only [List.length_cons, List.length_nil] at *; omega
  have ld : wdO G ln ltwD p → p + 4 ≤ ln := fun w => by have := hd.2.2 w; have := hd.2.1; simp only [List.length_cons, List.length_nil] at *; omega
  have ls : wdO G ln ltwS p → p + 3 ≤ ln := fun w => by have := hs.2.2 w; have := hs.2.1; simp only [List.length_cons, List.length_nil] at *; omega
  unfold cmP
  by_cases c1 : cmS G ln p = 97
  · rw [if_pos c1]
    by_cases w : wdO G ln ltwA p
    · rw [if_pos w]
      have b1 := colP_b (G := G) (la w)
      have b2 := dftP_b (G := G) (k := colK G ln (p + 3)) b1.2
      split <;> refine ⟨by omega, by omega, fun _ => by omega⟩
    · rw [if_neg w]
      exact ⟨ha.1, ha.2.1, fun z => by rcases cmO_iff.mp z with z | z | z | z | z <;> first | exact absurd z.2.1 w | exact absurd (c1.symm.trans z.1) (by decide)⟩
  · rw [if_neg c1]
    by_cases c2 : cmS G ln p = 107
    · rw [if_pos c2]
      by_cases w : wdO G ln ltwK p
      · rw [if_pos w]
        have b1 := colP_b (G := G) (lk w)
        exact ⟨by omega, by omega, fun _ => by omega⟩
      · rw [if_neg w]
        exact ⟨hk.1, hk.2.1, fun z => by rcases cmO_iff.mp z with z | z | z | z | z <;> first | exact absurd z.2.1 w | exact absurd (c2.symm.trans z.1) (by decide)⟩
    · rw [if_neg c2]
      by_cases c3 : cmS G ln p = 100
      · rw [if_pos c3]
        by_cases w : wdO G ln ltwD p
        · rw [if_pos w]
          have b1 := opP_b (G := G) (lw := 0) (mo := 7) (ld w)
          exact ⟨by omega, by omega, fun _ => by omega⟩
        · rw [if_neg w]
          exact ⟨hd.1, hd.2.1, fun z => by rcases cmO_iff.mp z with z | z | z | z | z <;> first | exact absurd z.2.1 w | exact absurd (c3.symm.trans z.1) (by decide)⟩
      · rw [if_neg c3]
        by_cases c4 : cmS G ln p = 114
        · rw [if_pos c4]
          exact ⟨hr.1, hr.2.1, fun z => by rcases cmO_iff.mp z with z | z | z | z | z <;> first | exact absurd (c4.symm.trans z.1) (by decide) | exact Nat.le_of_eq (hr.2.2 z.2).symm⟩
        · rw [if_neg c4]
          by_cases c5 : cmS G ln p = 115
          · rw [if_pos c5]
            by_cases w : wdO G ln ltwS p
            · rw [if_pos w]
              have b1 := opP_b (G := G) (lw := 0) (mo := 23) (ls w)
              have b2 := seP_b (G := G) b1.2
              split <;> refine ⟨by omega, by omega, fun _ => by omega⟩
            · rw [if_neg w]
              exact ⟨hs.1, hs.2.1, fun z => by rcases cmO_iff.mp z with z | z | z | z | z <;> first | exact absurd z.2.1 w | exact absurd (c5.symm.trans z.1) (by decide)⟩
          · rw [if_neg c5]
            exact ⟨Nat.le_refl _, h, fun z => by rcases cmO_iff.mp z with z | z | z | z | z <;> first | exact absurd z.1 c1 | exact absurd z.1 c2 | exact absurd z.1 c3 | exact absurd z.1 c4 | exact absurd z.1 c5⟩
/-- what is told of a command -/
def TD (zl : Nat → Int32) (k : Nat) (G : Nat → Nat) (ln p : Nat) : Prop := zl k = nI (cmS G ln p) ∧
  (cmS G ln p = 97 → zl (k + 1) = opV G ln 0 7 (p + 3) ∧ zl (k + 2) = nI (colK G ln (p + 3)) ∧ zl (k + 3) = dftV G ln (colK G ln (p + 3)) (colP G ln (p + 3))) ∧
  (cmS G ln p = 107 → zl (k + 1) = opV G ln 0 7 (p + 4) ∧ zl (k + 2) = nI (colK G ln (p + 4))) ∧
  (cmS G ln p = 100 → zl (k + 1) = opV G ln 0 7 (p + 4)) ∧
  (cmS G ln p = 115 → zl (k + 1) = opV G ln 0 23 (p + 3) ∧ zl (k + 2) = opV G ln 0 7 (opP G ln 0 23 (p + 3)) ∧ zl (k + 3) = opV G ln (-9999) 9999 (opP G ln 0 7 (opP G ln 0 23 (p + 3))))
theorem TD_same {zl zm : Nat → Int32} {k : Nat} {G : Nat → Nat} {ln p : Nat} (h : TD zl k G ln p) (e : ∀ z : Nat, k ≤ z → z < k + 4 → zm z = zl z) : TD zm k G ln p := by
  obtain ⟨h0, h1, h2, h3, h4⟩ := h
  refine ⟨(e _ (by omega) (by omega)).trans h0, fun q => ?_, fun q => ?_, fun q => ?_, fun q => ?_⟩
  · have := h1 q
    exact ⟨(e _ (by omega) (by omega)).trans this.1, (e _ (by omega) (by omega)).trans this.2.1, (e _ (by omega) (by omega)).trans this.2.2⟩
  · have := h2 q
    exact ⟨(e _ (by omega) (by omega)).trans this.1, (e _ (by omega) (by omega)).trans this.2⟩
  · exact (e _ (by omega) (by omega)).trans (h3 q)
  · have := h4 q
    exact ⟨(e _ (by omega) (by omega)).trans this.1, (e _ (by omega) (by omega)).trans this.2.1, (e _ (by omega) (by omega)).trans this.2.2⟩
/-- where the commands begin -/
def psN (G : Nat → Nat) (ln : Nat) : Nat → Nat
  | 0 => 0
  | n + 1 => cmP G ln (psN G ln n) + 1
abbrev goT (G : Nat → Nat) (ln i : Nat) : Prop := cmO G ln (psN G ln i) ∧ chA G ln (cmP G ln (psN G ln i)) 59
def cnT (G : Nat → Nat) (ln : Nat) : Nat → Nat → Nat
  | 0, i => i
  | f + 1, i => if goT G ln i then cnT G ln f (i + 1) else i
theorem cnT_is {G : Nat → Nat} {ln n : Nat} (f : Nat) : ∀ i : Nat, i ≤ n → n < i + f → (∀ k : Nat, k < n → goT G ln k) → ¬ goT G ln n → cnT G ln f i = n := by
  induction f with
  | zero => intro i h1 h2; omega
  | succ f hi =>
    intro i h1 h2 h3 h4
    rw [cnT]
    rcases Nat.lt_or_ge i n with q | q
    · rw [if_pos (h3 i q)]
      exact hi (i + 1) q (by omega) h3 h4
    · have e : i = n := by omega
      rw [e, if_neg h4]
def tcN (G : Nat → Nat) (ln : Nat) : Nat := cnT G ln 21 0
def atT (G : Nat → Nat) (ln : Nat) : Nat := cmP G ln (psN G ln (tcN G ln))
abbrev okT (G : Nat → Nat) (ln : Nat) : Prop := cmO G ln (psN G ln (tcN G ln)) ∧ cmP G ln (psN G ln (tcN G ln)) = ln
