/-- the cells outside the table, the history's length and the snapshot, as they were -/
theorem CX_mk {E : xE} {C C1 : xC} {T2 : Tb} {hh2 : Nat → Tb} {hn2 : Nat} {sn2 : Option Tb} {tx2 : Nat → Int32} {ln2 : Nat} {sp : Option (Nat × Int32)} {o2 : Nat} {sl cm : Nat → Option Nat} {xt2 : Nat → Int32} {cc pl nu : Int32}
    (h0 : C1 (0) = .inr (4, [.ref (E.2.1 (1)), .ref (E.2.1 (6)), .ref (E.2.1 (33)), .int (flg sn2), .ref (E.2.1 (38)), .int (scC sp), .int (seC sp)])) (h6 : C1 (6) = .inr (1, [.ref (E.2.1 (7)), .int (nI (o2)), .int (nI (hn2))])) (h7 : C1 (7) = .inl (E.2.2.1 3, 5, .inr (.inr (.inr (.inr sl))))) (h38 : C1 (38) = .inr (2, [.ref (E.2.1 (39)), .int (nI (ln2)), .ref (E.2.1 (40)), .int cc, .int pl, .int nu])) (h39 : C1 (39) = .inl (E.2.2.1 0, 80, .inl xt2)) (h40 : C1 (40) = .inl (E.2.2.1 2, 20, .inr (.inr (.inr (.inr cm)))))
    (go5 : o2 < 5) (gSL : ∀ i : Nat, i < 5 → sl i = some (E.2.1 (8 + 5 * i))) (gCM : ∀ i : Nat, i < 20 → cm i = some (E.2.1 (41 + i))) (gT : RC E C1 1 T2) (gRG : RG E C1 o2 hh2 hn2) (gS0 : ∃ S : Tb, RC E C1 33 S) (gS : ∀ S : Tb, sn2 = some S → RC E C1 33 S) (gX : ∀ z : Nat, z < ln2 → xt2 z = tx2 z) (gC : cmd C) (hC : ∀ i : Nat, 41 ≤ i → i < 61 → C1 i = C i) : CX E C1 T2 hh2 hn2 sn2 tx2 ln2 sp :=
  ⟨o2, sl, cm, xt2, cc, pl, nu, h0, h6, h7, h38, h39, h40, go5, gSL, gCM, gT, gRG, gS0, gS, gX, fun i hi => by
    obtain ⟨a, b, d, e, f, hc⟩ := gC i hi
    exact ⟨a, b, d, e, f, (hC _ (by omega) (by omega)).trans hc⟩⟩
theorem RG_same {E : xE} {C C1 : xC} {o hn m : Nat} {hh : Nat → Tb} (h : RG E C o hh hn) (hm : m ≤ hn) (he : ∀ i : Nat, 8 ≤ i → i ≤ 32 → C1 i = C i) : RG E C1 o hh m :=
  ⟨fun i hi => by
    obtain ⟨S, hS⟩ := h.1 i hi
    exact ⟨S, RC_same hS (fun z a b => he z (by omega) (by omega))⟩, fun k hk => RC_same (h.2 k (by omega)) (fun z a b => he z (by omega) (by omega))⟩
