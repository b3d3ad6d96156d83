/-! the class's acts -/
def recO (o hn : Nat) : Nat := if hn = 4 then (o + 1) % 5 else o
def DRo (E : xE) (C C1 : xC) (r0 : Int32) (o hn : Nat) : Prop := (-10001 < r0 ∧ C1 (6) = .inr (1, [.ref (E.2.1 (7)), .int (nI (recO o hn)), .int (nI (recN hn))]) ∧ ∀ i : Nat, ¬ i = 6 → C1 i = C i) ∨ (¬ -10001 < r0 ∧ C1 = C)
theorem erP_iff {r : Int32} : (-10001 : Int32) < r ↔ ¬ erP r ∧ ¬ r = -10005 := by
  have e1 : (-10001 : Int32).toInt = -10001 := by decide
  have e5 : (-10005 : Int32).toInt = -10005 := by decide
  rw [i32lt, e1]
  constructor
  · intro h
    refine ⟨fun z => ?_, fun z => ?_⟩
    · have := z.1
      omega
    · rw [z, e5] at h
      omega
  · intro h
    exact Decidable.by_contra fun z => h.1 ⟨by omega, h.2⟩
theorem RG_rec {E : xE} {C C2 C3 : xC} {o hn : Nat} {hh : Nat → Tb} {T : Tb} (ho : o < 5) (hn4 : hn ≤ 4) (h : RG E C o hh hn) (hs : RC E C2 (8 + 5 * ((o + hn) % 5)) T) (hk : ∀ i : Nat, 8 ≤ i → i ≤ 32 → (i < 8 + 5 * ((o + hn) % 5) ∨ 8 + 5 * ((o + hn) % 5) + 4 < i) → C2 i = C i) (he : ∀ i : Nat, 8 ≤ i → i ≤ 32 → C3 i = C2 i) : RG E C3 (recO o hn) (recH hh hn T) (recN hn) := by
  have keep : ∀ (m : Nat) (S : Tb), m < 5 → ¬ m = (o + hn) % 5 → RC E C (8 + 5 * m) S → RC E C3 (8 + 5 * m) S := fun m S hm hne hr => RC_same hr (fun i h1 h2 => by rw [he i (by omega) (by omega), hk i (by omega) (by omega) (by omega)])
  have new : RC E C3 (8 + 5 * ((o + hn) % 5)) T := RC_same hs (fun i h1 h2 => he i (by omega) (by omega))
  refine ⟨fun i hi => ?_, fun k hk2 => ?_⟩
  · by_cases e : i = (o + hn) % 5
    · rw [e]; exact ⟨T, new⟩
    · obtain ⟨S, hS⟩ := h.1 i hi
      exact ⟨S, keep i S hi e hS⟩
  · unfold recN at hk2
    unfold recO recH
    by_cases e4 : hn = 4
    · rw [if_pos e4] at hk2
      rw [if_pos e4, if_pos e4]
      show RC E C3 (8 + 5 * (((o + 1) % 5 + k) % 5)) (if k = 3 then T else hh (k + 1))
      by_cases e3 : k = 3
      · rw [if_pos e3, show ((o + 1) % 5 + k) % 5 = (o + hn) % 5 by omega]
        exact new
      · rw [if_neg e3, show ((o + 1) % 5 + k) % 5 = (o + (k + 1)) % 5 by omega]
        exact keep _ _ (by omega) (by omega) (h.2 (k + 1) (by omega))
    · rw [if_neg e4] at hk2
      rw [if_neg e4, if_neg e4]
      show RC E C3 (8 + 5 * ((o + k) % 5)) (if k = hn then T else hh k)
      by_cases e3 : k = hn
      · rw [if_pos e3, e3]
        exact new
      · rw [if_neg e3]
        exact keep _ _ (by omega) (by omega) (h.2 k (by omega))
/-- prepared, but not recorded: the ring is as it was -/
theorem RG_keep {E : xE} {C C2 C3 : xC} {o hn : Nat} {hh : Nat → Tb} {T : Tb} (ho : o < 5) (hn4 : hn ≤ 4) (h : RG E C o hh hn) (hs : RC E C2 (8 + 5 * ((o + hn) % 5)) T) (hk : ∀ i : Nat, 8 ≤ i → i ≤ 32 → (i < 8 + 5 * ((o + hn) % 5) ∨ 8 + 5 * ((o + hn) % 5) + 4 < i) → C2 i = C i) (he : ∀ i : Nat, 8 ≤ i → i ≤ 32 → C3 i = C2 i) : RG E C3 o hh hn := by
  have keep : ∀ (m : Nat) (S : Tb), m < 5 → ¬ m = (o + hn) % 5 → RC E C (8 + 5 * m) S → RC E C3 (8 + 5 * m) S := fun m S hm hne hr => RC_same hr (fun i h1 h2 => by rw [he i (by omega) (by omega), hk i (by omega) (by omega) (by omega)])
  refine ⟨fun i hi => ?_, fun k hk2 => keep _ _ (by omega) (by omega) (h.2 k hk2)⟩
  by_cases e : i = (o + hn) % 5
  · rw [e]; exact ⟨T, RC_same hs (fun i h1 h2 => he i (by omega) (by omega))⟩
  · obtain ⟨S, hS⟩ := h.1 i hi
    exact ⟨S, keep i S hi e hS⟩
theorem CX_act {E : xE} {C C1 C2 C3 : xC} {r : Int32 × Tb} {o : Nat} {T : Tb} {hh : Nat → Tb} {hn : Nat} {sn : Option Tb} {tx : Nat → Int32} {ln : Nat} {sp : Option (Nat × Int32)} (g : CXo E C o T hh hn sn tx ln sp) (hn4 : hn ≤ 4) (p1 : RC E C1 (8 + 5 * ((o + hn) % 5)) T) (f1 : ∀ i : Nat, i < 8 + 5 * ((o + hn) % 5) ∨ 8 + 5 * ((o + hn) % 5) + 4 < i → C1 i = C i) (p2 : RC E C2 1 r.2) (f2 : ∀ i : Nat, i < 1 ∨ 1 + 4 < i → C2 i = C1 i) (p3 : DRo E C2 C3 r.1 o hn) (hr : ¬ -10001 < r.1 → r.2 = T) : CX E C3 (acT r T) (acH r T hh hn) (acN r hn) sn tx ln sp ∧ ∀ i : Nat, 61 ≤ i → C3 i = C i := by
  obtain ⟨sl, cm, xt, cc, pl, nu, h0, h6, h7, h38, h39, h40, go5, gSL, gCM, gT, gRG, ⟨S0, gSN0⟩, gSN, gTX, gCD⟩ := g
  have q2 : ∀ i : Nat, (i < 1 ∨ 1 + 4 < i) → (i < 8 + 5 * ((o + hn) % 5) ∨ 8 + 5 * ((o + hn) % 5) + 4 < i) → C2 i = C i := fun i a b => (f2 i a).trans (f1 i b)
  rcases p3 with ⟨c, e6, f3⟩ | ⟨c, e3⟩
  · have q3 : ∀ i : Nat, (i < 1 ∨ 1 + 4 < i) → (i < 8 + 5 * ((o + hn) % 5) ∨ 8 + 5 * ((o + hn) % 5) + 4 < i) → ¬ i = 6 → C3 i = C i := fun i a b d => (f3 i d).trans (q2 i a b)
    rw [acT, acH, acN, if_pos c, if_pos c, if_pos c]
    refine ⟨⟨recO o hn, sl, cm, xt, cc, pl, nu, (q3 _ (by omega) (by omega) (by omega)).trans h0, e6, (q3 _ (by omega) (by omega) (by omega)).trans h7, (q3 _ (by omega) (by omega) (by omega)).trans h38, (q3 _ (by omega) (by omega) (by omega)).trans h39, (q3 _ (by omega) (by omega) (by omega)).trans h40, ?_, gSL, gCM, RC_same p2 (fun i a b => f3 i (by omega)), RG_rec go5 hn4 gRG (RC_same p1 (fun i a b => f2 i (by omega))) (fun i a b d => q2 i (by omega) d) (fun i a b => f3 i (by omega)), ⟨S0, RC_same gSN0 (fun i a b => q3 i (by omega) (by omega) (by omega))⟩, fun S hS => RC_same (gSN S hS) (fun i a b => q3 i (by omega) (by omega) (by omega)), gTX, fun i hi => ?_⟩, fun i hi => q3 i (by omega) (by omega) (by omega)⟩
    · unfold recO
      by_cases e : hn = 4
      · rw [if_pos e]; omega
      · rw [if_neg e]; exact go5
    · obtain ⟨a, b, d, e, f, hc⟩ := gCD i hi
      exact ⟨a, b, d, e, f, (q3 _ (by omega) (by omega) (by omega)).trans hc⟩
  · subst e3
    rw [acT, acH, acN, if_neg c, if_neg c, if_neg c]
    rw [hr c] at p2
    refine ⟨⟨o, sl, cm, xt, cc, pl, nu, (q2 _ (by omega) (by omega)).trans h0, (q2 _ (by omega) (by omega)).trans h6, (q2 _ (by omega) (by omega)).trans h7, (q2 _ (by omega) (by omega)).trans h38, (q2 _ (by omega) (by omega)).trans h39, (q2 _ (by omega) (by omega)).trans h40, go5, gSL, gCM, p2, RG_keep go5 hn4 gRG (RC_same p1 (fun i a b => f2 i (by omega))) (fun i a b d => q2 i (by omega) d) (fun i a b => rfl), ⟨S0, RC_same gSN0 (fun i a b => q2 i (by omega) (by omega))⟩, fun S hS => RC_same (gSN S hS) (fun i a b => q2 i (by omega) (by omega)), gTX, fun i hi => ?_⟩, fun i hi => q2 i (by omega) (by omega)⟩
    obtain ⟨a, b, d, e, f, hc⟩ := gCD i hi
    exact ⟨a, b, d, e, f, (q2 _ (by omega) (by omega)).trans hc⟩
theorem e_sAdd {T : Tb} {x k d : Int32} (hw : WB T) (h : ¬ -10001 < (sAdd T x k d).1) : (sAdd T x k d).2 = T := by
  unfold sAdd at h ⊢
  by_cases c1 : xin x 8
  · rw [if_pos c1] at h ⊢
    by_cases c2 : xin k 3 ∧ okv d k
    · rw [if_pos c2] at h ⊢
      by_cases c3 : tk T (tn T - 1) (ix x) = -1
      · rw [if_pos c3] at h ⊢
        by_cases c4 : tn T < 30
        · rw [if_pos c4] at h
          exact absurd (act_pos (by omega)) h
        · rw [if_neg c4]
      · rw [if_neg c3]
    · rw [if_neg c2]
  · rw [if_neg c1]
theorem e_sDrop {T : Tb} {x : Int32} (hw : WB T) (h : ¬ -10001 < (sDrop T x).1) : (sDrop T x).2 = T := by
  unfold sDrop at h ⊢
  by_cases c1 : xin x 8 ∧ ¬ tk T (tn T - 1) (ix x) = -1
  · rw [if_pos c1] at h ⊢
    by_cases c4 : tn T < 30
    · rw [if_pos c4] at h
      exact absurd (act_pos (by omega)) h
    · rw [if_neg c4]
  · rw [if_neg c1]
theorem e_sKind {T : Tb} {x k : Int32} (hw : WB T) (h : ¬ -10001 < (sKind T x k).1) : (sKind T x k).2 = T := by
  unfold sKind at h ⊢
  by_cases c1 : xin x 8 ∧ ¬ tk T (tn T - 1) (ix x) = -1
  · rw [if_pos c1] at h ⊢
    by_cases c2 : xin k 3
    · rw [if_pos c2] at h ⊢
      by_cases c4 : tn T < 30
      · rw [if_pos c4] at h ⊢
        by_cases c5 : tk T (tn T - 1) (ix x) = k
        · rw [if_pos c5]
        · rw [if_neg c5] at h
          exact absurd (act_pos (by omega)) h
      · rw [if_neg c4]
    · rw [if_neg c2]
  · rw [if_neg c1]
theorem e_sRow {T : Tb} (h : ¬ -10001 < (sRow T).1) : (sRow T).2 = T := by
  unfold sRow at h ⊢
  by_cases c1 : tr T < 24
  · rw [if_pos c1] at h
    exact absurd (act_pos (by omega)) h
  · rw [if_neg c1]
theorem rng_pos {v : Int32} (h : rng v) : (-10001 : Int32) < v := by
  have e1 : (-10001 : Int32).toInt = -10001 := by decide
  have := h.1
  rw [i32lt, e1]
  omega
theorem e_sSet {T : Tb} {x y v : Int32} (hw : WF T) (h : ¬ -10001 < (sSet T x y v).1) : (sSet T x y v).2 = T := by
  unfold sSet at h ⊢
  by_cases c1 : (xin x (tr T) ∧ xin y 8) ∧ ¬ tk T (ts T (ix x)) (ix y) = -1
  · rw [if_pos c1] at h ⊢
    by_cases c2 : okv v (tk T (ts T (ix x)) (ix y))
    · rw [if_pos c2] at h ⊢
      by_cases c3 : tv T (ix x) (ix y) = v
      · rw [if_pos c3]
      · rw [if_neg c3] at h
        obtain ⟨i, hi, ei⟩ := xin_of c1.1.1 (by have := hw.1.2.2.1; omega)
        obtain ⟨j, hj, ej⟩ := xin_of c1.1.2 (by decide)
        have hix : ix x < tr T := by rw [ei, ix_nI (by have := hw.1.2.2.1; omega)]; exact hi
        have hjx : ix y < 8 := by rw [ej, ix_nI (by omega)]; exact hj
        have k1 := (WF_k hw (hw.1.2.2.2 _ hix) hjx).resolve_left c1.2
        exact absurd (rng_pos (okv_rng k1 ((hw.2.2 _ _ hix hjx).resolve_left c1.2))) h
    · rw [if_neg c2]
  · rw [if_neg c1]
theorem e_sRem {T : Tb} {x : Int32} (hw : WB T) (h : ¬ -10001 < (sRem T x).1) : (sRem T x).2 = T := by
  unfold sRem at h ⊢
  by_cases c1 : xin x (tr T)
  · rw [if_pos c1] at h
    exact absurd (act_pos (by have := hw.2.2.1; omega)) h
  · rw [if_neg c1]
theorem e_sMk {T : Tb} {x y : Int32} (hw : WB T) (h : ¬ -10001 < (sMk T x y).1) : (sMk T x y).2 = T := by
  unfold sMk at h ⊢
  by_cases c1 : xin x (tr T) ∧ xin y (tr T)
  · rw [if_pos c1] at h ⊢
    by_cases c2 : ix y < ix x
    · rw [if_pos c2]
    · rw [if_neg c2] at h ⊢
      by_cases c3 : mkN T (ix x) (ix y + 1 - ix x)
      · rw [if_pos c3]
      · rw [if_neg c3] at h
        obtain ⟨j, hj, ej⟩ := xin_of c1.2 (by have := hw.2.2.1; omega)
        have : ix y < tr T := by rw [ej, ix_nI (by have := hw.2.2.1; omega)]; exact hj
        exact absurd (mkL_pos (by have := hw.2.2.1; omega)) h
  · rw [if_neg c1]
theorem e_sFor {T : Tb} (hw : WB T) (h : ¬ -10001 < (sFor T).1) : (sFor T).2 = T := by
  unfold sFor at h ⊢
  by_cases c1 : fgm T = 0
  · rw [if_pos c1]
  · rw [if_neg c1] at h
    have := (fgF_le (T := T) (tr T)).1
    have e : fgm T ≤ tn T - 1 := this
    exact absurd (act_pos (by have := hw.2.1; omega)) h
theorem WF_sMk {T : Tb} {x y : Int32} (h : WF T) : WF (sMk T x y).2 := by
  unfold sMk
  by_cases c1 : xin x (tr T) ∧ xin y (tr T)
  · rw [if_pos c1]
    by_cases c2 : ix y < ix x
    · rw [if_pos c2]; exact h
    · rw [if_neg c2]
      by_cases c3 : mkN T (ix x) (ix y + 1 - ix x)
      · rw [if_pos c3]; exact h
      · rw [if_neg c3]
        obtain ⟨j, hj, ej⟩ := xin_of c1.2 (by have := h.1.2.2.1; omega)
        have : ix y < tr T := by rw [ej, ix_nI (by have := h.1.2.2.1; omega)]; exact hj
        exact WF_mkP h _ (by omega)
  · rw [if_neg c1]; exact h
theorem vp_char {x : Int32} (h : xin x 65536) : vp_nar .char x = x := by
  obtain ⟨w, hw, rfl⟩ := xin_of h (by decide)
  unfold vp_nar
  rw [(pk_charN hw).1]
