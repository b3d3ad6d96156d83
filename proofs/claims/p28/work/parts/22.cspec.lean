/-! the class's cells: 0 the object, 1 to 5 the table, 6 the history, 7 its slots, 8 + 5 i the tables in them, 33 to 37 the snapshot, 38 the script, 39 the text, 40 the commands, 41 + i each of them -/
def scC : Option (Nat × Int32) → Int32
  | none => -1
  | some q => nI q.1
def seC : Option (Nat × Int32) → Int32
  | none => -1
  | some q => q.2
def cmd (C : xC) : Prop := ∀ i : Nat, i < 20 → ∃ a b c d e : Int32, C (41 + i) = .inr (0, [.int a, .int b, .int c, .int d, .int e])
/-- the history's ring: o the oldest one -/
def RG (E : xE) (C : xC) (o : Nat) (hh : Nat → Tb) (hn : Nat) : Prop := (∀ i : Nat, i < 5 → ∃ S : Tb, RC E C (8 + 5 * i) S) ∧ ∀ k : Nat, k < hn → RC E C (8 + 5 * ((o + k) % 5)) (hh k)
def CXo (E : xE) (C : xC) (o : Nat) (T : Tb) (hh : Nat → Tb) (hn : Nat) (sn : Option Tb) (tx : Nat → Int32) (ln : Nat) (sp : Option (Nat × Int32)) : Prop := ∃ (sl cm : Nat → Option Nat) (xt : Nat → Int32) (cc pl nu : Int32),
  C (0) = .inr (4, [.ref (E.2.1 (1)), .ref (E.2.1 (6)), .ref (E.2.1 (33)), .int (flg sn), .ref (E.2.1 (38)), .int (scC sp), .int (seC sp)]) ∧ C (6) = .inr (1, [.ref (E.2.1 (7)), .int (nI (o)), .int (nI (hn))]) ∧ C (7) = .inl (E.2.2.1 3, 5, .inr (.inr (.inr (.inr sl)))) ∧ C (38) = .inr (2, [.ref (E.2.1 (39)), .int (nI (ln)), .ref (E.2.1 (40)), .int cc, .int pl, .int nu]) ∧ C (39) = .inl (E.2.2.1 0, 80, .inl xt) ∧ C (40) = .inl (E.2.2.1 2, 20, .inr (.inr (.inr (.inr cm)))) ∧
  o < 5 ∧ (∀ i : Nat, i < 5 → sl i = some (E.2.1 (8 + 5 * i))) ∧ (∀ i : Nat, i < 20 → cm i = some (E.2.1 (41 + i))) ∧ RC E C 1 T ∧ RG E C o hh hn ∧ (∃ S : Tb, RC E C 33 S) ∧ (∀ S : Tb, sn = some S → RC E C 33 S) ∧ (∀ z : Nat, z < ln → xt z = tx z) ∧ cmd C
def CX (E : xE) (C : xC) (T : Tb) (hh : Nat → Tb) (hn : Nat) (sn : Option Tb) (tx : Nat → Int32) (ln : Nat) (sp : Option (Nat × Int32)) : Prop := ∃ o : Nat, CXo E C o T hh hn sn tx ln sp
theorem xin_2 {w : Int32} (h1 : ¬ w.toInt < 0) (h2 : w.toInt ≤ 1) : xin w 2 := ⟨by omega, by omega⟩
theorem nI_max0 {a b : Nat} (ha : a < 2 ^ 20) (hb : b < 2 ^ 20) : (if (0 : Int32) < nI b - nI a + 1 then nI b - nI a + 1 else 0) = nI (b + 1 - a) := by
  rcases Nat.lt_or_ge b a with q | q
  · have e : (nI b - nI a + 1).toInt = (b : Int) - a + 1 := by
      have h1 := pk_sub_toInt (a := b) (b := a) (by omega) (by omega)
      have h2 : nI b - nI a + 1 = nI (b + 1) - nI a := by
        rw [← nI_1, Int32.sub_eq_add_neg, Int32.sub_eq_add_neg, Int32.add_assoc, Int32.add_comm (-nI a), ← Int32.add_assoc]
      rw [h2, pk_sub_toInt (by omega) (by omega)]
      omega
    rw [if_neg (by rw [i32lt, e, show (0 : Int32).toInt = 0 by decide]; omega), show b + 1 - a = 0 by omega]
    rfl
  · rw [pk_sub q, nI_1, if_pos (by rw [i32lt, nI_toInt (by omega), show (0 : Int32).toInt = 0 by decide]; omega), show b - a + 1 = b + 1 - a by omega]
theorem bsC_lt {T : Tb} (hT : 1 ≤ tn T) : bsC T < tn T := by
  have := (bsd_is hT (tn T - 1) (Nat.le_refl _)).2.1
  show (bsd T (tn T - 1)).1 < tn T
  omega
theorem xin2 {w : Int32} (h : xin w 2) : w = 0 ∨ w = 1 := by
  obtain ⟨j, hj, rfl⟩ := xin_of h (by decide)
  rcases (show j = 0 ∨ j = 1 by omega) with rfl | rfl
  · exact Or.inl rfl
  · exact Or.inr rfl
theorem scC_iff {sp : Option (Nat × Int32)} (h : ∀ k : Nat × Int32, sp = some k → k.1 < 2 ^ 31) : scC sp = -1 ↔ sp = none := by
  cases sp with
  | none => exact ⟨fun _ => rfl, fun _ => rfl⟩
  | some q =>
    refine ⟨fun z => ?_, fun z => by cases z⟩
    have z2 : nI q.1 = -1 := z
    have e := nI_toInt (h q rfl)
    rw [z2, show (-1 : Int32).toInt = -1 by decide] at e
    omega
theorem scC_none {sp : Option (Nat × Int32)} (h : sp = none) : sp = none := h
theorem soM_some {sp : Option (Nat × Int32)} (h : ¬ sp = none) : scC sp = soM sp := by
  cases sp with
  | none => exact absurd rfl h
  | some q => rfl
theorem seM_some {sp : Option (Nat × Int32)} (h : ¬ sp = none) : seC sp = seM sp := by
  cases sp with
  | none => exact absurd rfl h
  | some q => rfl
/-! the class's acts -/
def recO (o hn : Nat) : Nat := if hn = 4 then (o + 1) % 5 else o
def DRo (E : xE) (C C1 : xC) (r0 : Int32) (o hn : Nat) : Prop := (-10001 < r0 ∧ C1 (6) = .inr (1, [.ref (E.2.1 (7)), .int (nI (recO o hn)), .int (nI (recN hn))]) ∧ ∀ i : Nat, ¬ i = 6 → C1 i = C i) ∨ (¬ -10001 < r0 ∧ C1 = C)
theorem erP_iff {r : Int32} : (-10001 : Int32) < r ↔ ¬ erP r ∧ ¬ r = -10005 := by
  have e1 : (-10001 : Int32).toInt = -10001 := by decide
  have e5 : (-10005 : Int32).toInt = -10005 := by decide
  rw [i32lt, e1]
  constructor
  · intro h
    refine ⟨fun z => ?_, fun z => ?_⟩
    · have := z.1
      omega
    · rw [z, e5] at h
      omega
  · intro h
    exact Decidable.by_contra fun z => h.1 ⟨by omega, h.2⟩
theorem RG_rec {E : xE} {C C2 C3 : xC} {o hn : Nat} {hh : Nat → Tb} {T : Tb} (ho : o < 5) (hn4 : hn ≤ 4) (h : RG E C o hh hn) (hs : RC E C2 (8 + 5 * ((o + hn) % 5)) T) (hk : ∀ i : Nat, 8 ≤ i → i ≤ 32 → (i < 8 + 5 * ((o + hn) % 5) ∨ 8 + 5 * ((o + hn) % 5) + 4 < i) → C2 i = C i) (he : ∀ i : Nat, 8 ≤ i → i ≤ 32 → C3 i = C2 i) : RG E C3 (recO o hn) (recH hh hn T) (recN hn) := by
  have keep : ∀ (m : Nat) (S : Tb), m < 5 → ¬ m = (o + hn) % 5 → RC E C (8 + 5 * m) S → RC E C3 (8 + 5 * m) S := fun m S hm hne hr => RC_same hr (fun i h1 h2 => by rw [he i (by omega) (by omega), hk i (by omega) (by omega) (by omega)])
  have new : RC E C3 (8 + 5 * ((o + hn) % 5)) T := RC_same hs (fun i h1 h2 => he i (by omega) (by omega))
  refine ⟨fun i hi => ?_, fun k hk2 => ?_⟩
  · by_cases e : i = (o + hn) % 5
    · rw [e]; exact ⟨T, new⟩
    · obtain ⟨S, hS⟩ := h.1 i hi
      exact ⟨S, keep i S hi e hS⟩
  · unfold recN at hk2
    unfold recO recH
    by_cases e4 : hn = 4
    · rw [if_pos e4] at hk2
      rw [if_pos e4, if_pos e4]
      show RC E C3 (8 + 5 * (((o + 1) % 5 + k) % 5)) (if k = 3 then T else hh (k + 1))
      by_cases e3 : k = 3
      · rw [if_pos e3, show ((o + 1) % 5 + k) % 5 = (o + hn) % 5 by omega]
        exact new
      · rw [if_neg e3, show ((o + 1) % 5 + k) % 5 = (o + (k + 1)) % 5 by omega]
        exact keep _ _ (by omega) (by omega) (h.2 (k + 1) (by omega))
    · rw [if_neg e4] at hk2
      rw [if_neg e4, if_neg e4]
      show RC E C3 (8 + 5 * ((o + k) % 5)) (if k = hn then T else hh k)
      by_cases e3 : k = hn
      · rw [if_pos e3, e3]
        exact new
      · rw [if_neg e3]
        exact keep _ _ (by omega) (by omega) (h.2 k (by omega))
/-- prepared, but not recorded: the ring is as it was -/
theorem RG_keep {E : xE} {C C2 C3 : xC} {o hn : Nat} {hh : Nat → Tb} {T : Tb} (ho : o < 5) (hn4 : hn ≤ 4) (h : RG E C o hh hn) (hs : RC E C2 (8 + 5 * ((o + hn) % 5)) T) (hk : ∀ i : Nat, 8 ≤ i → i ≤ 32 → (i < 8 + 5 * ((o + hn) % 5) ∨ 8 + 5 * ((o + hn) % 5) + 4 < i) → C2 i = C i) (he : ∀ i : Nat, 8 ≤ i → i ≤ 32 → C3 i = C2 i) : RG E C3 o hh hn := by
  have keep : ∀ (m : Nat) (S : Tb), m < 5 → ¬ m = (o + hn) % 5 → RC E C (8 + 5 * m) S → RC E C3 (8 + 5 * m) S := fun m S hm hne hr => RC_same hr (fun i h1 h2 => by rw [he i (by omega) (by omega), hk i (by omega) (by omega) (by omega)])
  refine ⟨fun i hi => ?_, fun k hk2 => keep _ _ (by omega) (by omega) (h.2 k hk2)⟩
  by_cases e : i = (o + hn) % 5
  · rw [e]; exact ⟨T, RC_same hs (fun i h1 h2 => he i (by omega) (by omega))⟩
  · obtain ⟨S, hS⟩ := h.1 i hi
    exact ⟨S, keep i S hi e hS⟩
theorem CX_act {E : xE} {C C1 C2 C3 : xC} {r : Int32 × Tb} {o : Nat} {T : Tb} {hh : Nat → Tb} {hn : Nat} {sn : Option Tb} {tx : Nat → Int32} {ln : Nat} {sp : Option (Nat × Int32)} (g : CXo E C o T hh hn sn tx ln sp) (hn4 : hn ≤ 4) (p1 : RC E C1 (8 + 5 * ((o + hn) % 5)) T) (f1 : ∀ i : Nat, i < 8 + 5 * ((o + hn) % 5) ∨ 8 + 5 * ((o + hn) % 5) + 4 < i → C1 i = C i) (p2 : RC E C2 1 r.2) (f2 : ∀ i : Nat, i < 1 ∨ 1 + 4 < i → C2 i = C1 i) (p3 : DRo E C2 C3 r.1 o hn) (hr : ¬ -10001 < r.1 → r.2 = T) : CX E C3 (acT r T) (acH r T hh hn) (acN r hn) sn tx ln sp ∧ ∀ i : Nat, 61 ≤ i → C3 i = C i := by
  obtain ⟨sl, cm, xt, cc, pl, nu, h0, h6, h7, h38, h39, h40, go5, gSL, gCM, gT, gRG, ⟨S0, gSN0⟩, gSN, gTX, gCD⟩ := g
  have q2 : ∀ i : Nat, (i < 1 ∨ 1 + 4 < i) → (i < 8 + 5 * ((o + hn) % 5) ∨ 8 + 5 * ((o + hn) % 5) + 4 < i) → C2 i = C i := fun i a b => (f2 i a).trans (f1 i b)
  rcases p3 with ⟨c, e6, f3⟩ | ⟨c, e3⟩
  · have q3 : ∀ i : Nat, (i < 1 ∨ 1 + 4 < i) → (i < 8 + 5 * ((o + hn) % 5) ∨ 8 + 5 * ((o + hn) % 5) + 4 < i) → ¬ i = 6 → C3 i = C i := fun i a b d => (f3 i d).trans (q2 i a b)
    rw [acT, acH, acN, if_pos c, if_pos c, if_pos c]
    refine ⟨⟨recO o hn, sl, cm, xt, cc, pl, nu, (q3 _ (by omega) (by omega) (by omega)).trans h0, e6, (q3 _ (by omega) (by omega) (by omega)).trans h7, (q3 _ (by omega) (by omega) (by omega)).trans h38, (q3 _ (by omega) (by omega) (by omega)).trans h39, (q3 _ (by omega) (by omega) (by omega)).trans h40, ?_, gSL, gCM, RC_same p2 (fun i a b => f3 i (by omega)), RG_rec go5 hn4 gRG (RC_same p1 (fun i a b => f2 i (by omega))) (fun i a b d => q2 i (by omega) d) (fun i a b => f3 i (by omega)), ⟨S0, RC_same gSN0 (fun i a b => q3 i (by omega) (by omega) (by omega))⟩, fun S hS => RC_same (gSN S hS) (fun i a b => q3 i (by omega) (by omega) (by omega)), gTX, fun i hi => ?_⟩, fun i hi => q3 i (by omega) (by omega) (by omega)⟩
    · unfold recO
      by_cases e : hn = 4
      · rw [if_pos e]; omega
      · rw [if_neg e]; exact go5
    · obtain ⟨a, b, d, e, f, hc⟩ := gCD i hi
      exact ⟨a, b, d, e, f, (q3 _ (by omega) (by omega) (by omega)).trans hc⟩
  · subst e3
    rw [acT, acH, acN, if_neg c, if_neg c, if_neg c]
    rw [hr c] at p2
    refine ⟨⟨o, sl, cm, xt, cc, pl, nu, (q2 _ (by omega) (by omega)).trans h0, (q2 _ (by omega) (by omega)).trans h6, (q2 _ (by omega) (by omega)).trans h7, (q2 _ (by omega) (by omega)).trans h38, (q2 _ (by omega) (by omega)).trans h39, (q2 _ (by omega) (by omega)).trans h40, go5, gSL, gCM, p2, RG_keep go5 hn4 gRG (RC_same p1 (fun i a b => f2 i (by omega))) (fun i a b d => q2 i (by omega) d) (fun i a b => rfl), ⟨S0, RC_same gSN0 (fun i a b => q2 i (by omega) (by omega))⟩, fun S hS => RC_same (gSN S hS) (fun i a b => q2 i (by omega) (by omega)), gTX, fun i hi => ?_⟩, fun i hi => q2 i (by omega) (by omega)⟩
    obtain ⟨a, b, d, e, f, hc⟩ := gCD i hi
    exact ⟨a, b, d, e, f, (q2 _ (by omega) (by omega)).trans hc⟩
theorem e_sAdd {T : Tb} {x k d : Int32} (hw : WB T) (h : ¬ -10001 < (sAdd T x k d).1) : (sAdd T x k d).2 = T := by
  unfold sAdd at h ⊢
  by_cases c1 : xin x 8
  · rw [if_pos c1] at h ⊢
    by_cases c2 : xin k 3 ∧ okv d k
    · rw [if_pos c2] at h ⊢
      by_cases c3 : tk T (tn T - 1) (ix x) = -1
      · rw [if_pos c3] at h ⊢
        by_cases c4 : tn T < 30
        · rw [if_pos c4] at h
          exact absurd (act_pos (by omega)) h
        · rw [if_neg c4]
      · rw [if_neg c3]
    · rw [if_neg c2]
  · rw [if_neg c1]
theorem e_sDrop {T : Tb} {x : Int32} (hw : WB T) (h : ¬ -10001 < (sDrop T x).1) : (sDrop T x).2 = T := by
  unfold sDrop at h ⊢
  by_cases c1 : xin x 8 ∧ ¬ tk T (tn T - 1) (ix x) = -1
  · rw [if_pos c1] at h ⊢
    by_cases c4 : tn T < 30
    · rw [if_pos c4] at h
      exact absurd (act_pos (by omega)) h
    · rw [if_neg c4]
  · rw [if_neg c1]
theorem e_sKind {T : Tb} {x k : Int32} (hw : WB T) (h : ¬ -10001 < (sKind T x k).1) : (sKind T x k).2 = T := by
  unfold sKind at h ⊢
  by_cases c1 : xin x 8 ∧ ¬ tk T (tn T - 1) (ix x) = -1
  · rw [if_pos c1] at h ⊢
    by_cases c2 : xin k 3
    · rw [if_pos c2] at h ⊢
      by_cases c4 : tn T < 30
      · rw [if_pos c4] at h ⊢
        by_cases c5 : tk T (tn T - 1) (ix x) = k
        · rw [if_pos c5]
        · rw [if_neg c5] at h
          exact absurd (act_pos (by omega)) h
      · rw [if_neg c4]
    · rw [if_neg c2]
  · rw [if_neg c1]
theorem e_sRow {T : Tb} (h : ¬ -10001 < (sRow T).1) : (sRow T).2 = T := by
  unfold sRow at h ⊢
  by_cases c1 : tr T < 24
  · rw [if_pos c1] at h
    exact absurd (act_pos (by omega)) h
  · rw [if_neg c1]
theorem rng_pos {v : Int32} (h : rng v) : (-10001 : Int32) < v := by
  have e1 : (-10001 : Int32).toInt = -10001 := by decide
  have := h.1
  rw [i32lt, e1]
  omega
theorem e_sSet {T : Tb} {x y v : Int32} (hw : WF T) (h : ¬ -10001 < (sSet T x y v).1) : (sSet T x y v).2 = T := by
  unfold sSet at h ⊢
  by_cases c1 : (xin x (tr T) ∧ xin y 8) ∧ ¬ tk T (ts T (ix x)) (ix y) = -1
  · rw [if_pos c1] at h ⊢
    by_cases c2 : okv v (tk T (ts T (ix x)) (ix y))
    · rw [if_pos c2] at h ⊢
      by_cases c3 : tv T (ix x) (ix y) = v
      · rw [if_pos c3]
      · rw [if_neg c3] at h
        obtain ⟨i, hi, ei⟩ := xin_of c1.1.1 (by have := hw.1.2.2.1; omega)
        obtain ⟨j, hj, ej⟩ := xin_of c1.1.2 (by decide)
        have hix : ix x < tr T := by rw [ei, ix_nI (by have := hw.1.2.2.1; omega)]; exact hi
        have hjx : ix y < 8 := by rw [ej, ix_nI (by omega)]; exact hj
        have k1 := (WF_k hw (hw.1.2.2.2 _ hix) hjx).resolve_left c1.2
        exact absurd (rng_pos (okv_rng k1 ((hw.2.2 _ _ hix hjx).resolve_left c1.2))) h
    · rw [if_neg c2]
  · rw [if_neg c1]
theorem e_sRem {T : Tb} {x : Int32} (hw : WB T) (h : ¬ -10001 < (sRem T x).1) : (sRem T x).2 = T := by
  unfold sRem at h ⊢
  by_cases c1 : xin x (tr T)
  · rw [if_pos c1] at h
    exact absurd (act_pos (by have := hw.2.2.1; omega)) h
  · rw [if_neg c1]
theorem e_sMk {T : Tb} {x y : Int32} (hw : WB T) (h : ¬ -10001 < (sMk T x y).1) : (sMk T x y).2 = T := by
  unfold sMk at h ⊢
  by_cases c1 : xin x (tr T) ∧ xin y (tr T)
  · rw [if_pos c1] at h ⊢
    by_cases c2 : ix y < ix x
    · rw [if_pos c2]
    · rw [if_neg c2] at h ⊢
      by_cases c3 : mkN T (ix x) (ix y + 1 - ix x)
      · rw [if_pos c3]
      · rw [if_neg c3] at h
        obtain ⟨j, hj, ej⟩ := xin_of c1.2 (by have := hw.2.2.1; omega)
        have : ix y < tr T := by rw [ej, ix_nI (by have := hw.2.2.1; omega)]; exact hj
        exact absurd (mkL_pos (by have := hw.2.2.1; omega)) h
  · rw [if_neg c1]
theorem e_sFor {T : Tb} (hw : WB T) (h : ¬ -10001 < (sFor T).1) : (sFor T).2 = T := by
  unfold sFor at h ⊢
  by_cases c1 : fgm T = 0
  · rw [if_pos c1]
  · rw [if_neg c1] at h
    have := (fgF_le (T := T) (tr T)).1
    have e : fgm T ≤ tn T - 1 := this
    exact absurd (act_pos (by have := hw.2.1; omega)) h
theorem WF_sMk {T : Tb} {x y : Int32} (h : WF T) : WF (sMk T x y).2 := by
  unfold sMk
  by_cases c1 : xin x (tr T) ∧ xin y (tr T)
  · rw [if_pos c1]
    by_cases c2 : ix y < ix x
    · rw [if_pos c2]; exact h
    · rw [if_neg c2]
      by_cases c3 : mkN T (ix x) (ix y + 1 - ix x)
      · rw [if_pos c3]; exact h
      · rw [if_neg c3]
        obtain ⟨j, hj, ej⟩ := xin_of c1.2 (by have := h.1.2.2.1; omega)
        have : ix y < tr T := by rw [ej, ix_nI (by have := h.1.2.2.1; omega)]; exact hj
        exact WF_mkP h _ (by omega)
  · rw [if_neg c1]; exact h
theorem vp_char {x : Int32} (h : xin x 65536) : vp_nar .char x = x := by
  obtain ⟨w, hw, rfl⟩ := xin_of h (by decide)
  unfold vp_nar
  rw [(pk_charN hw).1]
theorem WF_sRem {T : Tb} {x : Int32} (h : WF T) : WF (sRem T x).2 := by
  unfold sRem
  by_cases c : xin x (tr T)
  · rw [if_pos c]
    have h24 := h.1.2.2.1
    obtain ⟨j, hj, rfl⟩ := xin_of c (by omega)
    rw [ix_nI (by omega)]
    exact WF_rmv h hj
  · rw [if_neg c]; exact h
theorem WF_recH {T : Tb} {hh : Nat → Tb} {hn : Nat} (hT : WF T) (h4 : hn ≤ 4) (h : ∀ k : Nat, k < hn → WF (hh k)) : recN hn ≤ 4 ∧ ∀ k : Nat, k < recN hn → WF (recH hh hn T k) := by
  refine ⟨recN_le h4, fun k hk => ?_⟩
  unfold recN at hk
  unfold recH
  by_cases e : hn = 4
  · rw [if_pos e] at hk ⊢
    show WF (if k = 3 then T else hh (k + 1))
    by_cases q : k = 3
    · rw [if_pos q]; exact hT
    · rw [if_neg q]; exact h _ (by omega)
  · rw [if_neg e] at hk ⊢
    show WF (if k = hn then T else hh k)
    by_cases q : k = hn
    · rw [if_pos q]; exact hT
    · rw [if_neg q]; exact h _ (by omega)
theorem WX_act {r : Int32 × Tb} {T : Tb} {hh : Nat → Tb} {hn : Nat} {sn : Option Tb} {tx : Nat → Int32} {ln : Nat} {sp : Option (Nat × Int32)} (h : WX T hh hn sn tx ln sp) (hr : WF r.2) : WX (acT r T) (acH r T hh hn) (acN r hn) sn tx ln sp := by
  unfold acT acH acN
  by_cases c : -10001 < r.1
  · rw [if_pos c, if_pos c, if_pos c]
    have z := WF_recH h.1 h.2.1 h.2.2.1
    exact ⟨hr, z.1, z.2, h.2.2.2⟩
  · rw [if_neg c, if_neg c, if_neg c]
    exact h
theorem WX_undo {T : Tb} {hh : Nat → Tb} {hn : Nat} {sn : Option Tb} {tx : Nat → Int32} {ln : Nat} {sp : Option (Nat × Int32)} (h : WX T hh hn sn tx ln sp) : WX (if hn = 0 then T else hh (hn - 1)) hh (hn - 1) sn tx ln sp := by
  have h4 := h.2.1
  refine ⟨?_, by omega, fun k hk => h.2.2.1 k (by omega), h.2.2.2⟩
  by_cases c : hn = 0
  · rw [if_pos c]; exact h.1
  · rw [if_neg c]; exact h.2.2.1 _ (by omega)
theorem WX_keep {T : Tb} {hh : Nat → Tb} {hn : Nat} {sn : Option Tb} {tx : Nat → Int32} {ln : Nat} {sp : Option (Nat × Int32)} (h : WX T hh hn sn tx ln sp) : WX T hh hn (some T) tx ln sp :=
  ⟨h.1, h.2.1, h.2.2.1, fun S e => by cases e; exact h.1, h.2.2.2.2⟩
theorem WX_type {T : Tb} {hh : Nat → Tb} {hn : Nat} {sn : Option Tb} {tx : Nat → Int32} {ln : Nat} {sp : Option (Nat × Int32)} {x : Int32} (h : WX T hh hn sn tx ln sp) (hx : xin x 65536) : WX T hh hn sn (if ln = 80 then tx else upd tx ln x) (if ln = 80 then ln else ln + 1) sp := by
  by_cases c : ln = 80
  · rw [if_pos c, if_pos c]; exact h
  · rw [if_neg c, if_neg c]
    have h80 := h.2.2.2.2.1
    refine ⟨h.1, h.2.1, h.2.2.1, h.2.2.2.1, by omega, fun z hz => ?_, h.2.2.2.2.2.2⟩
    rcases Nat.lt_or_ge z ln with q | q
    · rw [pk_un (by omega)]; exact h.2.2.2.2.2.1 z q
    · rw [show z = ln by omega, pk_us]; exact hx
theorem WX_clear {T : Tb} {hh : Nat → Tb} {hn : Nat} {sn : Option Tb} {tx : Nat → Int32} {ln : Nat} {sp : Option (Nat × Int32)} (h : WX T hh hn sn tx ln sp) : WX T hh hn sn tx 0 sp :=
  ⟨h.1, h.2.1, h.2.2.1, h.2.2.2.1, by omega, fun z hz => absurd hz (Nat.not_lt_zero _), h.2.2.2.2.2.2⟩
theorem WF_sFor {T : Tb} (h : WF T) : WF (sFor T).2 := by
  have a := fgF_le (T := T) (tr T)
  have h1 := h.1.1
  unfold sFor
  by_cases c : fgm T = 0
  · rw [if_pos c]; exact h
  · rw [if_neg c]
    unfold fgm
    exact WF_fgt h (by omega) (fun i hi => a.2 i hi)
/-- the first state -/
def T00 : Tb := (1, 0, fun _ _ => -1, fun _ _ => 0, fun _ => 0, fun _ _ => 0)
theorem WF_T00 : WF T00 := by
  refine ⟨⟨by decide, by decide, by decide, fun i hi => absurd hi (Nat.not_lt_zero _)⟩, fun q j _ _ => Or.inl rfl, fun i j hi _ => absurd hi (Nat.not_lt_zero _)⟩
theorem WX_T00 : WX T00 (fun _ => T00) 0 none (fun _ => 0) 0 none :=
  ⟨WF_T00, (by omega), (fun k hk => absurd hk (Nat.not_lt_zero _)), (fun S e => (by cases e)), (by omega), (fun z hz => absurd hz (Nat.not_lt_zero _)), (fun k e => (by cases e))⟩
theorem WF_sAdd {T : Tb} {x k d : Int32} (h : WF T) : WF (sAdd T x k d).2 := by
  by_cases c1 : xin x 8
  · by_cases c2 : xin k 3 ∧ okv d k
    · obtain ⟨j, hj, rfl⟩ := xin_of c1 (by decide)
      rw [sAdd_a hj c2.1 c2.2]
      exact WF_aAdd h hj c2.1 c2.2
    · unfold sAdd
      rw [if_pos c1, if_neg c2]
      exact h
  · unfold sAdd
    rw [if_neg c1]
    exact h
theorem WF_sDrop {T : Tb} {x : Int32} (h : WF T) : WF (sDrop T x).2 := by
  by_cases c1 : xin x 8
  · obtain ⟨j, hj, rfl⟩ := xin_of c1 (by decide)
    rw [sDrop_a hj]
    exact WF_aDrop h hj
  · unfold sDrop
    rw [if_neg (fun z => c1 z.1)]
    exact h
theorem WF_sKind {T : Tb} {x k : Int32} (h : WF T) : WF (sKind T x k).2 := by
  by_cases c1 : xin x 8
  · by_cases c2 : xin k 3
    · obtain ⟨j, hj, rfl⟩ := xin_of c1 (by decide)
      rw [sKind_a hj c2]
      exact WF_aKind h hj c2
    · unfold sKind
      by_cases c3 : xin x 8 ∧ ¬ tk T (tn T - 1) (ix x) = -1
      · rw [if_pos c3, if_neg c2]; exact h
      · rw [if_neg c3]; exact h
  · unfold sKind
    rw [if_neg (fun z => c1 z.1)]
    exact h
