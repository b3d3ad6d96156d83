theorem WF_sAdd {T : Tb} {x k d : Int32} (h : WF T) : WF (sAdd T x k d).2 := by
  by_cases c1 : xin x 8
  · by_cases c2 : xin k 3 ∧ okv d k
    · obtain ⟨j, hj, rfl⟩ := xin_of c1 (by decide)
      rw [sAdd_in hj c2.1 c2.2]
      exact WF_aAdd h hj c2.1 c2.2
    · unfold sAdd
      rw [if_pos c1, if_neg c2]
      exact h
  · unfold sAdd
    rw [if_neg c1]
    exact h
theorem WF_sDrop {T : Tb} {x : Int32} (h : WF T) : WF (sDrop T x).2 := by
  by_cases c1 : xin x 8
  · obtain ⟨j, hj, rfl⟩ := xin_of c1 (by decide)
    rw [sDrop_in hj]
    exact WF_aDrop h hj
  · unfold sDrop
    rw [if_neg (fun z => c1 z.1)]
    exact h
theorem WF_sKind {T : Tb} {x k : Int32} (h : WF T) : WF (sKind T x k).2 := by
  by_cases c1 : xin x 8
  · by_cases c2 : xin k 3
    · obtain ⟨j, hj, rfl⟩ := xin_of c1 (by decide)
      rw [sKind_in hj c2]
      exact WF_aKind h hj c2
    · unfold sKind
      by_cases c3 : xin x 8 ∧ ¬ tk T (tn T - 1) (ix x) = -1
      · rw [if_pos c3, if_neg c2]; exact h
      · rw [if_neg c3]; exact h
  · unfold sKind
    rw [if_neg (fun z => c1 z.1)]
    exact h
theorem WF_sRem {T : Tb} {x : Int32} (h : WF T) : WF (sRem T x).2 := by
  unfold sRem
  by_cases c : xin x (tr T)
  · rw [if_pos c]
    have h24 := h.1.2.2.1
    obtain ⟨j, hj, rfl⟩ := xin_of c (by omega)
    rw [ix_nI (by omega)]
    exact WF_rmv h hj
  · rw [if_neg c]; exact h
theorem WF_recH {T : Tb} {hh : Nat → Tb} {hn : Nat} (hT : WF T) (h4 : hn ≤ 4) (h : ∀ k : Nat, k < hn → WF (hh k)) : recN hn ≤ 4 ∧ ∀ k : Nat, k < recN hn → WF (recH hh hn T k) := by
  refine ⟨recN_le h4, fun k hk => ?_⟩
  unfold recN at hk
  unfold recH
  by_cases e : hn = 4
  · rw [if_pos e] at hk ⊢
    show WF (if k = 3 then T else hh (k + 1))
    by_cases q : k = 3
    · rw [if_pos q]; exact hT
    · rw [if_neg q]; exact h _ (by omega)
  · rw [if_neg e] at hk ⊢
    show WF (if k = hn then T else hh k)
    by_cases q : k = hn
    · rw [if_pos q]; exact hT
    · rw [if_neg q]; exact h _ (by omega)
theorem WX_act {r : Int32 × Tb} {T : Tb} {hh : Nat → Tb} {hn : Nat} {sn : Option Tb} {tx : Nat → Int32} {ln : Nat} {sp : Option (Nat × Int32)} (h : WX T hh hn sn tx ln sp) (hr : WF r.2) : WX (acT r T) (acH r T hh hn) (acN r hn) sn tx ln sp := by
  unfold acT acH acN
  by_cases c : -10001 < r.1
  · rw [if_pos c, if_pos c, if_pos c]
    have z := WF_recH h.1 h.2.1 h.2.2.1
    exact ⟨hr, z.1, z.2, h.2.2.2⟩
  · rw [if_neg c, if_neg c, if_neg c]
    exact h
theorem WX_undo {T : Tb} {hh : Nat → Tb} {hn : Nat} {sn : Option Tb} {tx : Nat → Int32} {ln : Nat} {sp : Option (Nat × Int32)} (h : WX T hh hn sn tx ln sp) : WX (if hn = 0 then T else hh (hn - 1)) hh (hn - 1) sn tx ln sp := by
  have h4 := h.2.1
  refine ⟨?_, by omega, fun k hk => h.2.2.1 k (by omega), h.2.2.2⟩
  by_cases c : hn = 0
  · rw [if_pos c]; exact h.1
  · rw [if_neg c]; exact h.2.2.1 _ (by omega)
theorem WX_keep {T : Tb} {hh : Nat → Tb} {hn : Nat} {sn : Option Tb} {tx : Nat → Int32} {ln : Nat} {sp : Option (Nat × Int32)} (h : WX T hh hn sn tx ln sp) : WX T hh hn (some T) tx ln sp :=
  ⟨h.1, h.2.1, h.2.2.1, fun S e => by cases e; exact h.1, h.2.2.2.2⟩
theorem WX_restore {T : Tb} {hh : Nat → Tb} {hn : Nat} {sn : Option Tb} {tx : Nat → Int32} {ln : Nat} {sp : Option (Nat × Int32)} (h : WX T hh hn sn tx ln sp) : WX (rsT sn T) (rsH sn T hh hn) (rsN sn hn) sn tx ln sp := by
  cases sn with
  | none => exact h
  | some S =>
    have z := WF_recH h.1 h.2.1 h.2.2.1
    exact ⟨h.2.2.2.1 S rfl, z.1, z.2, h.2.2.2⟩
theorem WX_type {T : Tb} {hh : Nat → Tb} {hn : Nat} {sn : Option Tb} {tx : Nat → Int32} {ln : Nat} {sp : Option (Nat × Int32)} {x : Int32} (h : WX T hh hn sn tx ln sp) (hx : xin x 65536) : WX T hh hn sn (if ln = 80 then tx else upd tx ln x) (if ln = 80 then ln else ln + 1) sp := by
  by_cases c : ln = 80
  · rw [if_pos c, if_pos c]; exact h
  · rw [if_neg c, if_neg c]
    have h80 := h.2.2.2.2.1
    refine ⟨h.1, h.2.1, h.2.2.1, h.2.2.2.1, by omega, fun z hz => ?_, h.2.2.2.2.2.2⟩
    rcases Nat.lt_or_ge z ln with q | q
    · rw [pk_un (by omega)]; exact h.2.2.2.2.2.1 z q
    · rw [show z = ln by omega, pk_us]; exact hx
theorem WX_clear {T : Tb} {hh : Nat → Tb} {hn : Nat} {sn : Option Tb} {tx : Nat → Int32} {ln : Nat} {sp : Option (Nat × Int32)} (h : WX T hh hn sn tx ln sp) : WX T hh hn sn tx 0 sp :=
  ⟨h.1, h.2.1, h.2.2.1, h.2.2.2.1, by omega, fun z hz => absurd hz (Nat.not_lt_zero _), h.2.2.2.2.2.2⟩
theorem psN_4 {G : Nat → Nat} {ln : Nat} (h : okT G ln) : ∀ i : Nat, i ≤ tcN G ln → 4 * i ≤ psN G ln i := by
  intro i
  induction i with
  | zero => intro _; exact Nat.zero_le _
  | succ i hi =>
    intro hk
    have h1 := hi (by omega)
    have h2 := (cmP_b (G := G) (psN_le i (by omega))).2.2 (okT_cm h (by omega))
    show 4 * (i + 1) ≤ cmP G ln (psN G ln i) + 1
    omega
theorem tcN_20 {G : Nat → Nat} {ln : Nat} (h : okT G ln) (h80 : ln ≤ 80) : tcN G ln < 20 := by
  have h1 := psN_4 h _ (Nat.le_refl _)
  have h2 := cmP_b (G := G) (psN_le (tcN G ln) (Nat.le_refl _))
  have h3 := h2.2.2 h.1
  omega
theorem xsN_le {T : Tb} {G : Nat → Nat} {ln : Nat} (f : Nat) : ∀ i : Nat, xsN T G ln f i ≤ i + f := by
  induction f with
  | zero => intro i; exact Nat.le_refl _
  | succ f hi =>
    intro i
    rw [xsN]
    by_cases c : erP (exR T G ln i)
    · rw [if_pos c]; omega
    · rw [if_neg c]; have := hi (i + 1); omega
theorem WX_perform {T : Tb} {hh : Nat → Tb} {hn : Nat} {sn : Option Tb} {tx : Nat → Int32} {ln : Nat} {sp : Option (Nat × Int32)} (h : WX T hh hn sn tx ln sp) : WX (prT T tx ln) (prH T hh hn tx ln) (prN T hn tx ln) sn tx ln (prS T tx ln sp) := by
  have z := WF_recH h.1 h.2.1 h.2.2.1
  have e : cntT tx ln = tcN (gxT tx) ln + 1 := rfl
  have hs : ∀ k : Nat × Int32, prS T tx ln sp = some k → k.1 < 20 := by
    intro k hk
    unfold prS at hk
    by_cases c : okT (gxT tx) ln ∧ ¬ xsT T tx ln = cntT tx ln
    · rw [if_pos c] at hk
      cases hk
      have h1 := tcN_20 c.1 h.2.2.2.2.1
      have h2 := xsN_le (T := T) (G := gxT tx) (ln := ln) (cntT tx ln) 0
      have h3 := c.2
      show xsT T tx ln < 20
      have h4 : xsT T tx ln = xsN T (gxT tx) ln (cntT tx ln) 0 := rfl
      omega
    · rw [if_neg c] at hk
      exact h.2.2.2.2.2.2 k hk
  unfold prT prH prN
  by_cases c : prO T tx ln
  · rw [if_pos c, if_pos c, if_pos c]
    exact ⟨WF_exT h.1 c.1 _ (by omega), z.1, z.2, h.2.2.2.1, h.2.2.2.2.1, h.2.2.2.2.2.1, hs⟩
  · rw [if_neg c, if_neg c, if_neg c]
    exact ⟨h.1, h.2.1, h.2.2.1, h.2.2.2.1, h.2.2.2.2.1, h.2.2.2.2.2.1, hs⟩
theorem WF_sFor {T : Tb} (h : WF T) : WF (sFor T).2 := by
  have a := fgF_le (T := T) (tr T)
  have h1 := h.1.1
  unfold sFor
  by_cases c : fgm T = 0
  · rw [if_pos c]; exact h
  · rw [if_neg c]
    unfold fgm
    exact WF_fgt h (by omega) (fun i hi => a.2 i hi)
/-- the first state -/
def T00 : Tb := (1, 0, fun _ _ => -1, fun _ _ => 0, fun _ => 0, fun _ _ => 0)
theorem WF_T00 : WF T00 := by
  refine ⟨⟨by decide, by decide, by decide, fun i hi => absurd hi (Nat.not_lt_zero _)⟩, fun q j _ _ => Or.inl rfl, fun i j hi _ => absurd hi (Nat.not_lt_zero _)⟩
theorem WX_T00 : WX T00 (fun _ => T00) 0 none (fun _ => 0) 0 none :=
  ⟨WF_T00, (by omega), (fun k hk => absurd hk (Nat.not_lt_zero _)), (fun S e => (by cases e)), (by omega), (fun z hz => absurd hz (Nat.not_lt_zero _)), (fun k e => (by cases e))⟩
