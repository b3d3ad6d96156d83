def CDC (C : xC) (G : Nat → Nat) (ln i : Nat) : Prop := ∃ a b d f g : Int32, C (41 + i) = .inr (0, [.int a, .int b, .int d, .int f, .int g]) ∧ CD G ln (psN G ln i) a b d f g
theorem CDC_same {C C1 : xC} {G : Nat → Nat} {ln i : Nat} (h : CDC C G ln i) (e : C1 (41 + i) = C (41 + i)) : CDC C1 G ln i := by
  obtain ⟨a, b, d, f, g, h1, h2⟩ := h
  exact ⟨a, b, d, f, g, e.trans h1, h2⟩
/-- a text's end at the 20th command -/
theorem tc_end {G : Nat → Nat} {ln n : Nat} (h80 : ln ≤ 80) (hp : psN G ln n ≤ ln) (h4 : 4 * n ≤ psN G ln n) (hn : 20 ≤ n) (hg : ∀ i : Nat, i < n → goT G ln i) : tcN G ln = n ∧ ¬ okT G ln ∧ atT G ln = psN G ln n := by
  have hb := cmP_b (G := G) hp
  have no : ¬ cmO G ln (psN G ln n) := fun z => by have := hb.2.2 z; omega
  have e : tcN G ln = n := cnT_is 21 0 (by omega) (by omega) hg (fun z => no z.1)
  refine ⟨e, fun z => ?_, ?_⟩
  · have z1 := z.1
    rw [e] at z1
    exact no z1
  · unfold atT
    rw [e]
    omega
