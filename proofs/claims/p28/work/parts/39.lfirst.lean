def zadr (w : va_W) (k : Nat) : Nat := match w[k]? with
  | some q => q.1
  | none => 0
def zcon (w : va_W) (k : Nat) : va_E := match w[k]? with
  | some q => q.2
  | none => .inr (0, [])
theorem zadr_is {w : va_W} {k a : Nat} {v : va_E} (h : w[k]? = some (a, v)) : zadr w k = a := by
  unfold zadr
  rw [h]
theorem zcon_is {w : va_W} {k a : Nat} {v : va_E} (h : w[k]? = some (a, v)) : zcon w k = v := by
  unfold zcon
  rw [h]
theorem z_xw {E : xE} {w : va_W} (hl : w.length = 61) (hE : E.2.1 = zadr w) : xw E (zcon w) = w := by
  apply List.ext_getElem?
  intro k
  by_cases hk : k < 61
  · rw [xw_get hk, hE]
    cases hw : w[k]? with
    | none =>
      rw [List.getElem?_eq_none_iff] at hw
      omega
    | some q =>
      obtain ⟨a, v⟩ := q
      rw [zadr_is hw, zcon_is hw]
  · rw [List.getElem?_eq_none (by rw [xw_len]; omega), List.getElem?_eq_none (by omega)]
theorem zTab_RC {E : xE} {w : va_W} {k b : Nat} (h : zTab E.2.2.1 w k b) (hE : E.2.1 = zadr w) : RC E (zcon w) k T00 ∧ E.2.1 k = b := by
  obtain ⟨a1, a2, a3, a4, f1, f2, f3, f4, h0, h1, h2, h3, h4, h5, h6⟩ := h
  refine ⟨⟨f1, f2, f3, f4, ?_, zcon_is h1, zcon_is h2, zcon_is h3, zcon_is h4, ?_⟩, by rw [hE]; exact zadr_is h0⟩
  · rw [hE, zadr_is h1, zadr_is h2, zadr_is h3, zadr_is h4]
    exact zcon_is h0
  · refine ⟨fun q j hq hj => ?_, fun q j hq hj => h6 _, fun i hi => absurd hi (Nat.not_lt_zero _), fun i j hi => absurd hi (Nat.not_lt_zero _)⟩
    have hq : q < 1 := hq
    exact h5 _ (by omega)
theorem CX_first {E : xE} {w : va_W} {b : Nat} (h : zSys E.2.2.1 w 0 b) (hE : E.2.1 = zadr w) : CX E (zcon w) T00 (fun _ => T00) 0 none (fun _ => 0) 0 none ∧ E.2.1 0 = b := by
  obtain ⟨a1, a6, a33, a38, h0, t1, hi, t33, sc⟩ := h
  obtain ⟨b1, sl, i0, i1, i2⟩ := hi
  obtain ⟨d1, d2, xt, cm, s0, s1, s2, s3⟩ := sc
  have r1 : RC E (zcon w) 1 T00 ∧ E.2.1 1 = a1 := zTab_RC t1 hE
  have r33 : RC E (zcon w) 33 T00 ∧ E.2.1 33 = a33 := zTab_RC t33 hE
  have g6 : E.2.1 6 = a6 := by rw [hE]; exact zadr_is i0
  have g7 : E.2.1 7 = b1 := by rw [hE]; exact zadr_is i1
  have g38 : E.2.1 38 = a38 := by rw [hE]; exact zadr_is s0
  have g39 : E.2.1 39 = d1 := by rw [hE]; exact zadr_is s1
  have g40 : E.2.1 40 = d2 := by rw [hE]; exact zadr_is s2
  have hsl : ∀ i : Nat, i < 5 → RC E (zcon w) (8 + 5 * i) T00 ∧ sl i = some (E.2.1 (8 + 5 * i)) := by
    intro i hi
    obtain ⟨b2, u1, u2⟩ := i2 i hi
    rw [show 0 + 6 + 2 + 5 * i = 8 + 5 * i by omega] at u2
    have u3 := zTab_RC u2 hE
    exact ⟨u3.1, by rw [u3.2]; exact u1⟩
  refine ⟨⟨0, sl, cm, xt, 0, 0, 0, ?_, ?_, zcon_is i1, ?_, zcon_is s1, zcon_is s2, by decide, fun i hi => (hsl i hi).2, fun i hi => ?_, r1.1, ⟨fun i hi => ⟨T00, (hsl i hi).1⟩, fun k hk => absurd hk (Nat.not_lt_zero _)⟩, ⟨T00, r33.1⟩, fun S g => (by cases g), fun z hz => absurd hz (Nat.not_lt_zero _), fun i hi => ?_⟩, by rw [hE]; exact zadr_is h0⟩
  · rw [r1.2, r33.2, g6, g38]
    exact zcon_is h0
  · rw [g7]
    exact zcon_is i0
  · rw [g39, g40]
    exact zcon_is s0
  · obtain ⟨b2, u1, x1, x2, x3, x4, x5, u2⟩ := s3 i hi
    rw [show 0 + 38 + 3 + i = 41 + i by omega] at u2
    rw [hE, zadr_is u2]
    exact u1
  · obtain ⟨b2, u1, x1, x2, x3, x4, x5, u2⟩ := s3 i hi
    rw [show 0 + 38 + 3 + i = 41 + i by omega] at u2
    exact ⟨x1, x2, x3, x4, x5, zcon_is u2⟩
theorem z_int {args : Array Value} {s : State} {ty : FieldType} (h : (Cond.arrayClass ty).before args s = true) : ∃ cA : ClassId, ArrOfT s cA ty ∧ s.vm.findClass ("[" ++ ty.toString) = some cA := by
  obtain ⟨cA, kA, comp, h1, h2, h3⟩ := Cond.arrayClass_spec h
  exact ⟨cA, fun n z => ⟨fun k h9 => (by cases h9), kA, h2, comp, h3⟩, h1⟩
theorem z_obj {args : Array Value} {s : State} {Cn : String} (h : (Cond.arrayOver (.object Cn)).before args s = true) : ∃ cA : ClassId, ArrOfT s cA (.object Cn) ∧ va_RA s cA (.object Cn) := by
  obtain ⟨comp, cA, kA, h1, h2, h3, h4, h5⟩ := Cond.arrayOver_spec h
  exact ⟨cA, fun n z => ⟨fun k h9 => (by cases h9), kA, h3, comp, h4⟩, kA, comp, h3, h4, h1, h5⟩
