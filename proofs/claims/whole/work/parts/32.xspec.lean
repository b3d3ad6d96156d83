def opN (G : Nat → Nat) (ln mo p : Nat) : Nat := (nmD G ln 0 mo (p + 1)).2
theorem opV_N {G : Nat → Nat} {ln mo p : Nat} : opV G ln 0 mo p = nI (opN G ln mo p) := by
  unfold opV nmV opN
  exact if_neg (fun z => absurd z.1 (by decide))
theorem nmD_b {G : Nat → Nat} {ln mo p : Nat} {lw : Int32} (h : nmO G ln lw mo p) : (nmD G ln lw mo p).2 ≤ mo := (dg_b (G := G) (mo := mo) (ln - (nm1 G ln lw p + 1)) (nm1 G ln lw p + 1) (G (nm1 G ln lw p) - 48) h.1 h.2.2).2.2
theorem opN_b {G : Nat → Nat} {ln mo p : Nat} (h : opO G ln 0 mo p) : opN G ln mo p ≤ mo := nmD_b h.2
theorem neg_nI {n : Nat} (h : n < 2 ^ 20) : (-nI n).toInt = -(n : Int) := by
  have e : -nI n = nI 0 - nI n := by
    show -nI n = (0 : Int32) - nI n
    exact (Int32.zero_sub _).symm
  rw [e, pk_sub_toInt (by omega) (by omega)]
  omega
theorem opV_rng {G : Nat → Nat} {ln k p : Nat} (hk : k < 3) (h : opO G ln (loK (nI k)) (hiN k) p) : okv (opV G ln (loK (nI k)) (hiN k) p) (nI k) := by
  have hb := nmD_b h.2
  have h9 := hiN_le (k := k)
  show (loK (nI k)).toInt ≤ _ ∧ _ ≤ (hiK (nI k)).toInt
  rw [hiK_N hk, nI_toInt (by omega)]
  unfold opV nmV
  by_cases q : nmB G ln (loK (nI k)) (p + 1)
  · rw [if_pos q, neg_nI (by omega)]
    have : k = 2 := by
      rcases (by omega : k = 0 ∨ k = 1 ∨ k = 2) with e | e | e
      · subst e; exact absurd q.1 (by decide)
      · subst e; exact absurd q.1 (by decide)
      · exact e
    subst this
    have e9 : (loK (nI 2)).toInt = -9999 := by decide
    rw [e9]
    omega
  · rw [if_neg q, nI_toInt (by omega)]
    refine ⟨?_, by omega⟩
    have : (loK (nI k)).toInt ≤ 0 := by
      rcases (by omega : k = 0 ∨ k = 1 ∨ k = 2) with e | e | e <;> subst e <;> decide
    omega
theorem dftV_ok {G : Nat → Nat} {ln k p : Nat} (hk : k < 3) (h : dftO G ln k p) : okv (dftV G ln k p) (nI k) := by
  unfold dftV
  by_cases q : chA G ln p 32
  · rw [if_pos q]; exact opV_rng hk (h.resolve_left (fun z => z q))
  · rw [if_neg q]
    rcases (by omega : k = 0 ∨ k = 1 ∨ k = 2) with e | e | e <;> subst e <;> decide
/-- a command, done -/
def exC (T : Tb) (G : Nat → Nat) (ln p : Nat) : Int32 × Tb :=
  if cmS G ln p = 97 then aAdd T (opN G ln 7 (p + 3)) (nI (colK G ln (p + 3))) (dftV G ln (colK G ln (p + 3)) (colP G ln (p + 3)))
  else if cmS G ln p = 107 then aKind T (opN G ln 7 (p + 4)) (nI (colK G ln (p + 4)))
  else if cmS G ln p = 100 then aDrop T (opN G ln 7 (p + 4))
  else if cmS G ln p = 114 then sRow T
  else sSet T (opV G ln 0 23 (p + 3)) (opV G ln 0 7 (opP G ln 0 23 (p + 3))) (opV G ln (-9999) 9999 (opP G ln 0 7 (opP G ln 0 23 (p + 3))))
theorem xin_3 {k : Nat} (h : k < 3) : xin (nI k) 3 := by
  have := nI_toInt (show k < 2 ^ 31 by omega)
  exact ⟨by omega, by omega⟩
theorem cm_97 {G : Nat → Nat} {ln p : Nat} (h : cmO G ln p) (e : cmS G ln p = 97) : colO G ln (p + 3) ∧ dftO G ln (colK G ln (p + 3)) (colP G ln (p + 3)) := by
  rcases cmO_iff.mp h with z | z | z | z | z <;> first | exact absurd (e.symm.trans z.1) (by decide) | exact z.2.2
theorem cm_107 {G : Nat → Nat} {ln p : Nat} (h : cmO G ln p) (e : cmS G ln p = 107) : colO G ln (p + 4) := by
  rcases cmO_iff.mp h with z | z | z | z | z <;> first | exact absurd (e.symm.trans z.1) (by decide) | exact z.2.2
theorem cm_100 {G : Nat → Nat} {ln p : Nat} (h : cmO G ln p) (e : cmS G ln p = 100) : opO G ln 0 7 (p + 4) := by
  rcases cmO_iff.mp h with z | z | z | z | z <;> first | exact absurd (e.symm.trans z.1) (by decide) | exact z.2.2
theorem cm_115 {G : Nat → Nat} {ln p : Nat} (h : cmO G ln p) (e1 : ¬ cmS G ln p = 97) (e2 : ¬ cmS G ln p = 107) (e3 : ¬ cmS G ln p = 100) (e4 : ¬ cmS G ln p = 114) : cmS G ln p = 115 := by
  rcases cmO_iff.mp h with z | z | z | z | z <;> first | exact z.1 | exact absurd z.1 e1 | exact absurd z.1 e2 | exact absurd z.1 e3 | exact absurd z.1 e4
theorem WF_exC {T : Tb} {G : Nat → Nat} {ln p : Nat} (hw : WF T) (h : cmO G ln p) : WF (exC T G ln p).2 := by
  unfold exC
  by_cases e1 : cmS G ln p = 97
  · rw [if_pos e1]
    have q := cm_97 h e1
    have := opN_b q.1.1
    exact WF_aAdd hw (by omega) (xin_3 kdK_3) (dftV_ok kdK_3 q.2)
  · rw [if_neg e1]
    by_cases e2 : cmS G ln p = 107
    · rw [if_pos e2]
      have q := cm_107 h e2
      have := opN_b q.1
      exact WF_aKind hw (by omega) (xin_3 kdK_3)
    · rw [if_neg e2]
      by_cases e3 : cmS G ln p = 100
      · rw [if_pos e3]
        have := opN_b (cm_100 h e3)
        exact WF_aDrop hw (by omega)
      · rw [if_neg e3]
        by_cases e4 : cmS G ln p = 114
        · rw [if_pos e4]; exact WF_sRow hw
        · rw [if_neg e4]; exact WF_sSet hw
/-- the commands, one behind the other -/
def exT (T : Tb) (G : Nat → Nat) (ln : Nat) : Nat → Tb
  | 0 => T
  | k + 1 => (exC (exT T G ln k) G ln (psN G ln k)).2
def exR (T : Tb) (G : Nat → Nat) (ln k : Nat) : Int32 := (exC (exT T G ln k) G ln (psN G ln k)).1
def xsN (T : Tb) (G : Nat → Nat) (ln : Nat) : Nat → Nat → Nat
  | 0, i => i
  | f + 1, i => if erP (exR T G ln i) then i else xsN T G ln f (i + 1)
theorem xs_hit {T : Tb} {G : Nat → Nat} {ln n : Nat} (f : Nat) : ∀ i : Nat, i ≤ n → n < i + f → (∀ k : Nat, k < n → ¬ erP (exR T G ln k)) → erP (exR T G ln n) → xsN T G ln f i = n := by
  induction f with
  | zero => intro i h1 h2; omega
  | succ f hi =>
    intro i h1 h2 h3 h4
    rw [xsN]
    rcases Nat.lt_or_ge i n with q | q
    · rw [if_neg (h3 i q)]
      exact hi (i + 1) q (by omega) h3 h4
    · have e : i = n := by omega
      rw [e, if_pos h4]
theorem xs_none {T : Tb} {G : Nat → Nat} {ln : Nat} (f : Nat) : ∀ i : Nat, (∀ k : Nat, k < i + f → ¬ erP (exR T G ln k)) → xsN T G ln f i = i + f := by
  induction f with
  | zero => intro i h; rfl
  | succ f hi =>
    intro i h
    rw [xsN, if_neg (h i (by omega)), hi (i + 1) (fun k q => h k (by omega))]
    omega
theorem cnT_all {G : Nat → Nat} {ln : Nat} (f : Nat) : ∀ i k : Nat, i ≤ k → k < cnT G ln f i → goT G ln k := by
  induction f with
  | zero => intro i k h1 h2; exact absurd (show k < i from h2) (by omega)
  | succ f hi =>
    intro i k h1 h2
    rw [cnT] at h2
    by_cases q : goT G ln i
    · rw [if_pos q] at h2
      rcases Nat.lt_or_ge i k with r | r
      · exact hi (i + 1) k r h2
      · have e : k = i := by omega
        rw [e]; exact q
    · rw [if_neg q] at h2; omega
theorem okT_cm {G : Nat → Nat} {ln i : Nat} (h : okT G ln) (hi : i ≤ tcN G ln) : cmO G ln (psN G ln i) := by
  rcases Nat.lt_or_ge i (tcN G ln) with q | q
  · exact (cnT_all 21 0 i (Nat.zero_le _) q).1
  · have e : i = tcN G ln := by omega
    rw [e]; exact h.1
theorem WF_exT {T : Tb} {G : Nat → Nat} {ln : Nat} (hw : WF T) (h : okT G ln) : ∀ k : Nat, k ≤ tcN G ln + 1 → WF (exT T G ln k) := by
  intro k
  induction k with
  | zero => intro _; exact hw
  | succ k hi => intro hk; exact WF_exC (hi (by omega)) (okT_cm h (by omega))
/-- a text, done -/
def gxT (tx : Nat → Int32) : Nat → Nat := fun z => (tx z).toInt.toNat
abbrev cntT (tx : Nat → Int32) (ln : Nat) : Nat := tcN (gxT tx) ln + 1
abbrev xsT (T : Tb) (tx : Nat → Int32) (ln : Nat) : Nat := xsN T (gxT tx) ln (cntT tx ln) 0
def prV (T : Tb) (tx : Nat → Int32) (ln : Nat) : Int32 := if okT (gxT tx) ln then (if xsT T tx ln = cntT tx ln then nI (cntT tx ln) else -10004) else -10100 - nI (atT (gxT tx) ln)
abbrev prO (T : Tb) (tx : Nat → Int32) (ln : Nat) : Prop := okT (gxT tx) ln ∧ xsT T tx ln = cntT tx ln
def prT (T : Tb) (tx : Nat → Int32) (ln : Nat) : Tb := if prO T tx ln then exT T (gxT tx) ln (cntT tx ln) else T
def prH (T : Tb) (hh : Nat → Tb) (hn : Nat) (tx : Nat → Int32) (ln : Nat) : Nat → Tb := if prO T tx ln then recH hh hn T else hh
def prN (T : Tb) (hn : Nat) (tx : Nat → Int32) (ln : Nat) : Nat := if prO T tx ln then recN hn else hn
def prS (T : Tb) (tx : Nat → Int32) (ln : Nat) (sp : Option (Nat × Int32)) : Option (Nat × Int32) := if okT (gxT tx) ln ∧ ¬ xsT T tx ln = cntT tx ln then some (xsT T tx ln, exR T (gxT tx) ln (xsT T tx ln)) else sp
theorem gxT_eq {tx : Nat → Int32} {ln : Nat} (h : ∀ z : Nat, z < ln → xin (tx z) 65536) : ∀ z : Nat, z < ln → tx z = nI (gxT tx z) ∧ gxT tx z < 65536 := by
  intro z hz
  have h1 := h z hz
  have h3 : ((gxT tx z : Nat) : Int) = (tx z).toInt := by
    unfold gxT
    exact Int.toNat_of_nonneg h1.1
  have h2 : gxT tx z < 65536 := by have := h1.2; omega
  refine ⟨Int32.toInt_inj.mp ?_, h2⟩
  rw [nI_toInt (by omega), h3]
