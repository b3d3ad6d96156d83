theorem sAdd_in {T : Tb} {j : Nat} {k d : Int32} (hj : j < 8) (hk : xin k 3) (hd : okv d k) : sAdd T (nI j) k d = aAdd T j k d := by
  unfold sAdd aAdd
  rw [if_pos (xin_nI hj (by omega)), if_pos ⟨hk, hd⟩, ix_nI (by omega)]
theorem sDrop_in {T : Tb} {j : Nat} (hj : j < 8) : sDrop T (nI j) = aDrop T j := by
  unfold sDrop aDrop
  rw [ix_nI (by omega)]
  by_cases q : ¬ tk T (tn T - 1) j = -1
  · rw [if_pos ⟨xin_nI hj (by omega), q⟩, if_pos q]
  · rw [if_neg (fun z => q z.2), if_neg q]
theorem sKind_in {T : Tb} {j : Nat} {k : Int32} (hj : j < 8) (hk : xin k 3) : sKind T (nI j) k = aKind T j k := by
  unfold sKind aKind
  rw [ix_nI (by omega)]
  by_cases q : ¬ tk T (tn T - 1) j = -1
  · rw [if_pos ⟨xin_nI hj (by omega), q⟩, if_pos q, if_pos hk]
  · rw [if_neg (fun z => q z.2), if_neg q]
theorem psN_le {G : Nat → Nat} {ln : Nat} : ∀ i : Nat, i ≤ tcN G ln → psN G ln i ≤ ln := by
  intro i
  induction i with
  | zero => intro _; exact Nat.zero_le _
  | succ i hi => intro h; exact (cnT_all 21 0 i (Nat.zero_le _) h).2.1
theorem atT_le {G : Nat → Nat} {ln : Nat} : atT G ln ≤ ln := (cmP_b (psN_le _ (Nat.le_refl _))).2.1
theorem nI_ne1 {n : Nat} (h : n < 2 ^ 31) : ¬ nI n = -1 := fun z => by
  have h1 := nI_toInt h
  rw [z, show (-1 : Int32).toInt = -1 by decide] at h1
  omega
theorem CXo_sp {E : xE} {C : xC} {o : Nat} {T : Tb} {hh : Nat → Tb} {hn : Nat} {sn : Option Tb} {tx : Nat → Int32} {ln : Nat} {sp sp2 : Option (Nat × Int32)} (h : CXo E C o T hh hn sn tx ln sp) : CXo E (va_up C 0 (.inr (4, [.ref (E.2.1 (1)), .ref (E.2.1 (6)), .ref (E.2.1 (33)), .int (flg sn), .ref (E.2.1 (38)), .int (scC sp2), .int (seC sp2)]))) o T hh hn sn tx ln sp2 := by
  obtain ⟨sl, cm, xt, cc, pl, nu, h0, h6, h7, h38, h39, h40, go5, gSL, gCM, gT, gRG, ⟨S0, gSN0⟩, gSN, gTX, gCD⟩ := h
  have e : ∀ i : Nat, 1 ≤ i → va_up C 0 (.inr (4, [.ref (E.2.1 (1)), .ref (E.2.1 (6)), .ref (E.2.1 (33)), .int (flg sn), .ref (E.2.1 (38)), .int (scC sp2), .int (seC sp2)])) i = C i := fun i hi => by rw [va_up, if_neg (by omega)]
  refine ⟨sl, cm, xt, cc, pl, nu, by rw [va_up, if_pos rfl], (e _ (by omega)).trans h6, (e _ (by omega)).trans h7, (e _ (by omega)).trans h38, (e _ (by omega)).trans h39, (e _ (by omega)).trans h40, go5, gSL, gCM, RC_same gT (fun i a b => e i (by omega)), RG_same gRG (Nat.le_refl _) (fun i a b => e i (by omega)), ⟨S0, RC_same gSN0 (fun i a b => e i (by omega))⟩, fun S hS => RC_same (gSN S hS) (fun i a b => e i (by omega)), gTX, fun i hi => ?_⟩
  obtain ⟨a, b, d, f, g, hc⟩ := gCD i hi
  exact ⟨a, b, d, f, g, (e _ (by omega)).trans hc⟩
/-- a text that stops: all is as it was, but for where it stopped -/
theorem CX_stop {E : xE} {C C1 C3 : xC} {o : Nat} {T : Tb} {hh : Nat → Tb} {hn : Nat} {sn : Option Tb} {tx : Nat → Int32} {ln : Nat} {sp sp2 : Option (Nat × Int32)} (g : CXo E C o T hh hn sn tx ln sp) (hn4 : hn ≤ 4) (p1 : RC E C1 (8 + 5 * ((o + hn) % 5)) T) (f1 : ∀ i : Nat, i < 8 + 5 * ((o + hn) % 5) ∨ 8 + 5 * ((o + hn) % 5) + 4 < i → C1 i = C i) (p2 : RC E C3 1 T) (f2 : ∀ i : Nat, ¬ i = 0 → (i < 1 ∨ 1 + 4 < i) → C3 i = C1 i) (h0 : C3 (0) = .inr (4, [.ref (E.2.1 (1)), .ref (E.2.1 (6)), .ref (E.2.1 (33)), .int (flg sn), .ref (E.2.1 (38)), .int (scC sp2), .int (seC sp2)])) : CX E C3 T hh hn sn tx ln sp2 ∧ ∀ i : Nat, 61 ≤ i → C3 i = C i := by
  have z := CX_act (r := ((-10004 : Int32), T)) (C1 := va_up C1 0 (.inr (4, [.ref (E.2.1 (1)), .ref (E.2.1 (6)), .ref (E.2.1 (33)), .int (flg sn), .ref (E.2.1 (38)), .int (scC sp2), .int (seC sp2)]))) (C2 := C3) (C3 := C3) (CXo_sp (sp2 := sp2) g) hn4 (RC_same p1 (fun i a b => by rw [va_up, if_neg (by omega)])) (fun i hi => by
    by_cases e : i = 0
    · rw [va_up, va_up, if_pos e, if_pos e]
    · rw [va_up, va_up, if_neg e, if_neg e]; exact f1 i hi) p2 (fun i hi => by
    by_cases e : i = 0
    · rw [va_up, if_pos e, e]; exact h0
    · rw [va_up, if_neg e]; exact f2 i e hi) (Or.inr ⟨(show ¬ (-10001 : Int32) < -10004 by decide), rfl⟩) (fun _ => rfl)
  have e : ¬ (-10001 : Int32) < ((-10004 : Int32), T).1 := (show ¬ (-10001 : Int32) < -10004 by decide)
  rw [acT, acH, acN, if_neg e, if_neg e, if_neg e] at z
  exact ⟨z.1, fun i hi => by rw [z.2 i hi, va_up, if_neg (by omega)]⟩
