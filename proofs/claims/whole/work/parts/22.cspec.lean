/-! the class's cells: 0 the object, 1 to 5 the table, 6 the history, 7 its slots, 8 + 5 i the tables in them, 33 to 37 the snapshot, 38 the script, 39 the text, 40 the commands, 41 + i each of them -/
def scC : Option (Nat × Int32) → Int32
  | none => -1
  | some q => nI q.1
def seC : Option (Nat × Int32) → Int32
  | none => -1
  | some q => q.2
def cmd (C : xC) : Prop := ∀ i : Nat, i < 20 → ∃ a b c d e : Int32, C (41 + i) = .inr (0, [.int a, .int b, .int c, .int d, .int e])
/-- the history's ring: o the oldest one -/
def RG (E : xE) (C : xC) (o : Nat) (hh : Nat → Tb) (hn : Nat) : Prop := (∀ i : Nat, i < 5 → ∃ S : Tb, RC E C (8 + 5 * i) S) ∧ ∀ k : Nat, k < hn → RC E C (8 + 5 * ((o + k) % 5)) (hh k)
def CXo (E : xE) (C : xC) (o : Nat) (T : Tb) (hh : Nat → Tb) (hn : Nat) (sn : Option Tb) (tx : Nat → Int32) (ln : Nat) (sp : Option (Nat × Int32)) : Prop := ∃ (sl cm : Nat → Option Nat) (xt : Nat → Int32) (cc pl nu : Int32),
  C (0) = .inr (4, [.ref (E.2.1 (1)), .ref (E.2.1 (6)), .ref (E.2.1 (33)), .int (flg sn), .ref (E.2.1 (38)), .int (scC sp), .int (seC sp)]) ∧ C (6) = .inr (1, [.ref (E.2.1 (7)), .int (nI (o)), .int (nI (hn))]) ∧ C (7) = .inl (E.2.2.1 3, 5, .inr (.inr (.inr (.inr sl)))) ∧ C (38) = .inr (2, [.ref (E.2.1 (39)), .int (nI (ln)), .ref (E.2.1 (40)), .int cc, .int pl, .int nu]) ∧ C (39) = .inl (E.2.2.1 0, 80, .inl xt) ∧ C (40) = .inl (E.2.2.1 2, 20, .inr (.inr (.inr (.inr cm)))) ∧
  o < 5 ∧ (∀ i : Nat, i < 5 → sl i = some (E.2.1 (8 + 5 * i))) ∧ (∀ i : Nat, i < 20 → cm i = some (E.2.1 (41 + i))) ∧ RC E C 1 T ∧ RG E C o hh hn ∧ (∃ S : Tb, RC E C 33 S) ∧ (∀ S : Tb, sn = some S → RC E C 33 S) ∧ (∀ z : Nat, z < ln → xt z = tx z) ∧ cmd C
def CX (E : xE) (C : xC) (T : Tb) (hh : Nat → Tb) (hn : Nat) (sn : Option Tb) (tx : Nat → Int32) (ln : Nat) (sp : Option (Nat × Int32)) : Prop := ∃ o : Nat, CXo E C o T hh hn sn tx ln sp
theorem xin_2 {w : Int32} (h1 : ¬ w.toInt < 0) (h2 : w.toInt ≤ 1) : xin w 2 := ⟨by omega, by omega⟩
theorem nI_max0 {a b : Nat} (ha : a < 2 ^ 20) (hb : b < 2 ^ 20) : (if (0 : Int32) < nI b - nI a + 1 then nI b - nI a + 1 else 0) = nI (b + 1 - a) := by
  rcases Nat.lt_or_ge b a with q | q
  · have e : (nI b - nI a + 1).toInt = (b : Int) - a + 1 := by
      have h1 := pk_sub_toInt (a := b) (b := a) (by omega) (by omega)
      have h2 : nI b - nI a + 1 = nI (b + 1) - nI a := by
        rw [← nI_1, Int32.sub_eq_add_neg, Int32.sub_eq_add_neg, Int32.add_assoc, Int32.add_comm (-nI a), ← Int32.add_assoc]
      rw [h2, pk_sub_toInt (by omega) (by omega)]
      omega
    rw [if_neg (by rw [i32lt, e, show (0 : Int32).toInt = 0 by decide]; omega), show b + 1 - a = 0 by omega]
    rfl
  · rw [pk_sub q, nI_1, if_pos (by rw [i32lt, nI_toInt (by omega), show (0 : Int32).toInt = 0 by decide]; omega), show b - a + 1 = b + 1 - a by omega]
theorem bsC_lt {T : Tb} (hT : 1 ≤ tn T) : bsC T < tn T := by
  have := (bsd_is hT (tn T - 1) (Nat.le_refl _)).2.1
  show (bsd T (tn T - 1)).1 < tn T
  omega
theorem xin2 {w : Int32} (h : xin w 2) : w = 0 ∨ w = 1 := by
  obtain ⟨j, hj, rfl⟩ := xin_of h (by decide)
  rcases (show j = 0 ∨ j = 1 by omega) with rfl | rfl
  · exact Or.inl rfl
  · exact Or.inr rfl
theorem scC_iff {sp : Option (Nat × Int32)} (h : ∀ k : Nat × Int32, sp = some k → k.1 < 2 ^ 31) : scC sp = -1 ↔ sp = none := by
  cases sp with
  | none => exact ⟨fun _ => rfl, fun _ => rfl⟩
  | some q =>
    refine ⟨fun z => ?_, fun z => by cases z⟩
    have z2 : nI q.1 = -1 := z
    have e := nI_toInt (h q rfl)
    rw [z2, show (-1 : Int32).toInt = -1 by decide] at e
    omega
theorem scC_none {sp : Option (Nat × Int32)} (h : sp = none) : sp = none := h
theorem soM_some {sp : Option (Nat × Int32)} (h : ¬ sp = none) : scC sp = soM sp := by
  cases sp with
  | none => exact absurd rfl h
  | some q => rfl
theorem seM_some {sp : Option (Nat × Int32)} (h : ¬ sp = none) : seC sp = seM sp := by
  cases sp with
  | none => exact absurd rfl h
  | some q => rfl
