/-! the law's own words: numbers that are counted -/
def ns (f : Nat → Nat) : Nat → Nat
  | 0 => 0
  | n + 1 => ns f n + f n
theorem nI_ite {P : Prop} [Decidable P] : (if P then (1 : Int32) else 0) = nI (if P then 1 else 0) := by
  by_cases h : P
  · rw [if_pos h, if_pos h] <;> decide
  · rw [if_neg h, if_neg h] <;> decide
theorem sm_ns {f : Nat → Int32} {g : Nat → Nat} {n : Nat} (h : ∀ i : Nat, i < n → f i = nI (g i)) : sm f n = nI (ns g n) := by
  induction n with
  | zero => rfl
  | succ n ih => rw [sm, ns, ih (fun i hi => h i (by omega)), h n (by omega), nI_add]
theorem ns_le {f g : Nat → Nat} {n : Nat} (h : ∀ i : Nat, i < n → f i ≤ g i) : ns f n ≤ ns g n := by
  induction n with
  | zero => exact Nat.le_refl _
  | succ n ih =>
    rw [ns, ns]
    have a1 := ih (fun i hi => h i (by omega))
    have a2 := h n (by omega)
    omega
theorem ns_congr {f g : Nat → Nat} {n : Nat} (h : ∀ i : Nat, i < n → f i = g i) : ns f n = ns g n := by
  induction n with
  | zero => rfl
  | succ n ih => rw [ns, ns, ih (fun i hi => h i (by omega)), h n (by omega)]
theorem ns_max {f : Nat → Nat} {n m : Nat} (h : ∀ i : Nat, i < n → f i ≤ m) : ns f n ≤ n * m := by
  induction n with
  | zero => exact Nat.zero_le _
  | succ n ih =>
    rw [ns, Nat.succ_mul]
    have a1 := ih (fun i hi => h i (by omega))
    have a2 := h n (by omega)
    omega
theorem ns_one {i n : Nat} : ns (fun j => if j = i then 1 else 0) n = if i < n then 1 else 0 := by
  induction n with
  | zero => rw [ns, if_neg (Nat.not_lt_zero _)]
  | succ n ih =>
    rw [ns, ih]
    by_cases e : i < n
    · rw [if_pos e, if_neg (show ¬ n = i by omega), if_pos (show i < n + 1 by omega)]
    · rw [if_neg e]
      by_cases e2 : n = i
      · rw [if_pos e2, if_pos (show i < n + 1 by omega)]
      · rw [if_neg e2, if_neg (show ¬ i < n + 1 by omega)]
theorem ns_sub {f : Nat → Nat} {a : Nat} : ∀ n : Nat, ns f a + ns (fun k => f (a + k)) n = ns f (a + n) := by
  intro n
  induction n with
  | zero => rfl
  | succ n ih =>
    show ns f a + (ns (fun k => f (a + k)) n + f (a + n)) = ns f (a + n) + f (a + n)
    rw [← ih]
    omega
theorem ns_mono {f : Nat → Nat} {m n : Nat} (h : m ≤ n) : ns f m ≤ ns f n := by
  have z := ns_sub (f := f) (a := m) (n - m)
  rw [show m + (n - m) = n by omega] at z
  omega
theorem ns_same {n : Nat} : ns (fun _ => 1) n = n := by
  induction n with
  | zero => rfl
  | succ n ih => rw [ns, ih]
/-! columns of a season, values, losses -/
def ncl (T : Tb) (q : Nat) : Nat := ns (fun j => if tk T q j = -1 then 0 else 1) 8
theorem bcn_ns : ∀ w : Nat, w < 256 → bcn (nI w) = nI (ns (fun j => if hb (nI w) j = true then 1 else 0) 8) := by decide +kernel
theorem bcn_ncl {T : Tb} {q : Nat} : bcn (nmS T q) = nI (ncl T q) := by
  obtain ⟨w, hw, e⟩ := m8_nI (m8_nmS (T := T) (q := q))
  rw [e, bcn_ns w hw]
  refine congrArg nI (ns_congr fun j hj => ?_)
  have z := nmS_bit (T := T) (q := q) hj
  rw [e] at z
  by_cases c : tk T q j = -1
  · rw [if_pos c, if_neg (fun y => z.mp y c)]
  · rw [if_neg c, if_pos (z.mpr c)]
theorem ncl_le {T : Tb} {q : Nat} : ncl T q ≤ 8 := by
  have z := ns_max (f := fun j => if tk T q j = -1 then 0 else 1) (n := 8) (m := 1) (fun i _ => by
    show (if tk T q i = -1 then 0 else 1) ≤ 1
    by_cases c : tk T q i = -1
    · rw [if_pos c]; omega
    · rw [if_neg c]; omega)
  exact z
def nal (T : Tb) : Nat := ns (fun i => ncl T (ts T i)) (tr T)
theorem allV_nal {T : Tb} : allV T = nI (nal T) := sm_ns (f := fun i => bcn (nmS T (ts T i))) fun _ _ => bcn_ncl
theorem nal_le {T : Tb} (h : WB T) : nal T ≤ 192 := by
  have z := ns_max (f := fun i => ncl T (ts T i)) (n := tr T) (m := 8) (fun _ _ => ncl_le)
  have h24 := h.2.2.1
  have e : nal T = ns (fun i => ncl T (ts T i)) (tr T) := rfl
  omega
def nls (T : Tb) (q i : Nat) : Nat := ns (fun j => if lostC T q i j then 1 else 0) 8
theorem lsR_nls {T : Tb} {q i : Nat} : lsR T q i = nI (nls T q i) := sm_ns (f := fun j => if lostC T q i j then 1 else 0) fun _ _ => nI_ite
theorem nls_le {T : Tb} {q i : Nat} : nls T q i ≤ ncl T (ts T i) := ns_le fun j _ => by
  show (if lostC T q i j then 1 else 0) ≤ if tk T (ts T i) j = -1 then 0 else 1
  by_cases c : tk T (ts T i) j = -1
  · rw [if_pos c, if_neg (fun z => z.1 c)]
    exact Nat.le_refl _
  · rw [if_neg c]
    by_cases e : lostC T q i j
    · rw [if_pos e]; exact Nat.le_refl _
    · rw [if_neg e]; exact Nat.zero_le _
def nla (T : Tb) (q : Nat) : Nat := ns (fun i => nls T q i) (tr T)
theorem lsA_nla {T : Tb} {q : Nat} : lsA T q = nI (nla T q) := sm_ns (f := fun i => lsR T q i) fun _ _ => lsR_nls
theorem nla_le {T : Tb} {q : Nat} : nla T q ≤ nal T := ns_le fun _ _ => nls_le
def nmk (T : Tb) (a : Nat) (n : Nat) : Nat := ns (fun k => if ts T (a + k) = tn T - 1 then 0 else nls T (tn T - 1) (a + k)) n
theorem mkL_nmk {T : Tb} {a n : Nat} : mkL T a n = nI (nmk T a n) := sm_ns (f := fun k => if ts T (a + k) = tn T - 1 then 0 else lsR T (tn T - 1) (a + k)) fun k _ => by
  by_cases c : ts T (a + k) = tn T - 1
  · show (if ts T (a + k) = tn T - 1 then (0 : Int32) else lsR T (tn T - 1) (a + k)) = nI (if ts T (a + k) = tn T - 1 then 0 else nls T (tn T - 1) (a + k))
    rw [if_pos c, if_pos c] <;> decide
  · show (if ts T (a + k) = tn T - 1 then (0 : Int32) else lsR T (tn T - 1) (a + k)) = nI (if ts T (a + k) = tn T - 1 then 0 else nls T (tn T - 1) (a + k))
    rw [if_neg c, if_neg c]
    exact lsR_nls
theorem nmk_le {T : Tb} {a n : Nat} (h : a + n ≤ tr T) : nmk T a n ≤ nal T := by
  have z1 : nmk T a n ≤ ns (fun k => ncl T (ts T (a + k))) n := ns_le fun k _ => by
    show (if ts T (a + k) = tn T - 1 then 0 else nls T (tn T - 1) (a + k)) ≤ ncl T (ts T (a + k))
    by_cases c : ts T (a + k) = tn T - 1
    · rw [if_pos c]; exact Nat.zero_le _
    · rw [if_neg c]; exact nls_le
  have z2 := ns_sub (f := fun i => ncl T (ts T i)) (a := a) n
  have z3 := ns_mono (f := fun i => ncl T (ts T i)) h
  have z4 : nal T = ns (fun i => ncl T (ts T i)) (tr T) := rfl
  omega
/-! a season differs from the one before in one column -/
def DIF (T : Tb) : Prop := ∀ q : Nat, 1 ≤ q → q < tn T → ∃ i : Nat, i < 8 ∧ ∀ j : Nat, j < 8 → (tk T q j = tk T (q - 1) j ↔ ¬ j = i)
def chg (T : Tb) (q : Nat) : Nat → Int32 := sm (fun j => if tk T q j = tk T (q - 1) j then 0 else 1)
theorem chg_1 {T : Tb} {q : Nat} (h : DIF T) (h1 : 1 ≤ q) (h2 : q < tn T) : chg T q 8 = 1 := by
  obtain ⟨i, hi, e⟩ := h q h1 h2
  have z : chg T q 8 = nI (ns (fun j => if j = i then 1 else 0) 8) := sm_ns (f := fun j => if tk T q j = tk T (q - 1) j then 0 else 1) fun j hj => by
    by_cases c : j = i
    · show (if tk T q j = tk T (q - 1) j then (0 : Int32) else 1) = nI (if j = i then 1 else 0)
      rw [if_pos c, if_neg (fun y => (e j hj).mp y c)] <;> decide
    · show (if tk T q j = tk T (q - 1) j then (0 : Int32) else 1) = nI (if j = i then 1 else 0)
      rw [if_neg c, if_pos ((e j hj).mpr c)] <;> decide
  rw [z, ns_one, if_pos hi] <;> decide
theorem newC_1 {T : Tb} {q : Nat} (h : DIF T) (h1 : 1 ≤ q) (h2 : q < tn T) : (newC T q).toInt ≤ 1 := by
  obtain ⟨i, hi, e⟩ := h q h1 h2
  have z : newC T q = nI (ns (fun j => if ¬ tk T q j = -1 ∧ ¬ tk T q j = tk T (q - 1) j then 1 else 0) 8) := by
    rw [newC, if_neg (show ¬ q = 0 by omega)]
    exact sm_ns fun _ _ => nI_ite
  have y : ns (fun j => if ¬ tk T q j = -1 ∧ ¬ tk T q j = tk T (q - 1) j then 1 else 0) 8 ≤ ns (fun j => if j = i then 1 else 0) 8 := ns_le fun j hj => by
    show (if ¬ tk T q j = -1 ∧ ¬ tk T q j = tk T (q - 1) j then 1 else 0) ≤ if j = i then 1 else 0
    by_cases c : j = i
    · rw [if_pos c]
      by_cases d : ¬ tk T q j = -1 ∧ ¬ tk T q j = tk T (q - 1) j
      · rw [if_pos d]; exact Nat.le_refl _
      · rw [if_neg d]; exact Nat.zero_le _
    · rw [if_neg (fun w => w.2 ((e j hj).mpr c))]
      exact Nat.zero_le _
  rw [ns_one, if_pos hi] at y
  rw [z, nI_toInt (by omega)]
  omega
theorem DIF_same {T U : Tb} (h : DIF T) (hn : tn U = tn T) (hk : tk U = tk T) : DIF U := by
  intro q h1 h2
  rw [hk]
  exact h q h1 (by omega)
theorem DIF_bgn {T : Tb} {j : Nat} {k d : Int32} (h : DIF T) (hT : 1 ≤ tn T) (hj : j < 8) (hk : ¬ k = tk T (tn T - 1) j) : DIF (bgn T j k d) := by
  intro q h1 h2
  have h2 : q < tn T + 1 := h2
  rcases Nat.lt_or_ge q (tn T) with c | c
  · obtain ⟨i, hi, e⟩ := h q h1 c
    refine ⟨i, hi, fun j2 hj2 => ?_⟩
    show ((if q = tn T then (if j2 = j then k else tk T (tn T - 1) j2) else tk T q j2) = if q - 1 = tn T then (if j2 = j then k else tk T (tn T - 1) j2) else tk T (q - 1) j2) ↔ _
    rw [if_neg (show ¬ q = tn T by omega), if_neg (show ¬ q - 1 = tn T by omega)]
    exact e j2 hj2
  · refine ⟨j, hj, fun j2 hj2 => ?_⟩
    show ((if q = tn T then (if j2 = j then k else tk T (tn T - 1) j2) else tk T q j2) = if q - 1 = tn T then (if j2 = j then k else tk T (tn T - 1) j2) else tk T (q - 1) j2) ↔ _
    rw [if_pos (show q = tn T by omega), if_neg (show ¬ q - 1 = tn T by omega), show q - 1 = tn T - 1 by omega]
    by_cases g : j2 = j
    · subst g
      rw [if_pos rfl]
      exact ⟨fun z => absurd z hk, fun z => absurd rfl z⟩
    · rw [if_neg g]
      exact ⟨fun _ => g, fun _ => rfl⟩
theorem DIF_fgt {T : Tb} {n : Nat} (h : DIF T) : DIF (fgt T n) := by
  intro q h1 h2
  have h2 : q < tn T - n := h2
  obtain ⟨i, hi, e⟩ := h (q + n) (by omega) (by omega)
  refine ⟨i, hi, fun j hj => ?_⟩
  show (tk T (q + n) j = tk T (q - 1 + n) j) ↔ _
  rw [show q - 1 + n = q + n - 1 by omega]
  exact e j hj
theorem nal_bgn {T : Tb} {j : Nat} {k d : Int32} (h : WB T) : nal (bgn T j k d) = nal T := ns_congr (n := tr T) fun i hi => by
  have z := h.2.2.2 i hi
  refine ns_congr fun j2 _ => ?_
  show (if (if ts T i = tn T then (if j2 = j then k else tk T (tn T - 1) j2) else tk T (ts T i) j2) = -1 then 0 else 1) = if tk T (ts T i) j2 = -1 then 0 else 1
  rw [if_neg (show ¬ ts T i = tn T by omega)]
/-! what an act is, by the number that told which one -/
def AOK (T : Tb) (u : Int32) (r : Int32 × Tb) : Prop := WF r.2 ∧ DIF r.2 ∧ (-10001 < r.1 → -9999 ≤ r.1.toInt) ∧ (u.toInt ≤ 6 → -10001 < r.1 → tn r.2 = tn T + 1 ∧ r.1 = nI (tn T) ∧ nal r.2 = nal T) ∧ (¬ u.toInt < 19 → -10001 < r.1 → ∃ n : Nat, r.1 = nI n ∧ n < tn T ∧ tn r.2 = tn T - n) ∧ ((u = 17 ∨ u = 18) → -10001 < r.1 → ∃ n : Nat, r.1 = nI n ∧ n ≤ nal T)
theorem AOK_no {T : Tb} {u : Int32} {r : Int32 × Tb} (h : WF T) (hd : DIF T) (h1 : ¬ -10001 < r.1) (h2 : r.2 = T) : AOK T u r := by
  unfold AOK
  rw [h2]
  exact ⟨h, hd, fun z => absurd z h1, fun _ z => absurd z h1, fun _ z => absurd z h1, fun _ z => absurd z h1⟩
theorem u_17 {u : Int32} (h : u = 17 ∨ u = 18) : u.toInt = 17 ∨ u.toInt = 18 := by
  rcases h with rfl | rfl
  · exact Or.inl (by decide)
  · exact Or.inr (by decide)
theorem no_err {x : Int32} {T : Tb} (h : ¬ (-10001 : Int32) < x) : ¬ (-10001 : Int32) < ((x, T) : Int32 × Tb).1 := h
theorem AOK_bgn {T : Tb} {u : Int32} {r : Int32 × Tb} {j : Nat} {k d : Int32} (h : WF T) (hd : DIF T) (hu : u.toInt ≤ 6) (hr : r = (nI (tn T), bgn T j k d)) (hw : WF r.2) (hj : j < 8) (hk : ¬ k = tk T (tn T - 1) j) : AOK T u r := by
  subst hr
  have h30 := h.1.2.1
  refine ⟨hw, DIF_bgn hd h.1.1 hj hk, fun _ => ?_, fun _ _ => ⟨rfl, rfl, nal_bgn h.1⟩, fun z => absurd (show u.toInt < 19 by omega) z, fun z => ?_⟩
  · show -9999 ≤ (nI (tn T)).toInt
    rw [nI_toInt (by omega)]
    omega
  · have := u_17 z
    omega
theorem AOK_add {T : Tb} {u x k d : Int32} (h : WF T) (hd : DIF T) (hu : u.toInt ≤ 6) : AOK T u (sAdd T x k d) := by
  by_cases c : -10001 < (sAdd T x k d).1
  · have hw := WF_sAdd (x := x) (k := k) (d := d) h
    by_cases c1 : xin x 8
    · by_cases c2 : xin k 3 ∧ okv d k
      · by_cases c3 : tk T (tn T - 1) (ix x) = -1
        · by_cases c4 : tn T < 30
          · obtain ⟨j, hj, rfl⟩ := xin_of c1 (by decide)
            refine AOK_bgn (j := ix (nI j)) (k := k) (d := d) h hd hu ?_ hw (by rw [ix_nI (by omega)]; exact hj) (fun z => ?_)
            · rw [sAdd, if_pos c1, if_pos c2, if_pos c3, if_pos c4]
            · rw [c3] at z
              rw [z] at c2
              exact absurd c2.1.1 (by decide)
          · exact absurd c (by rw [sAdd, if_pos c1, if_pos c2, if_pos c3, if_neg c4]; exact no_err (by decide))
        · exact absurd c (by rw [sAdd, if_pos c1, if_pos c2, if_neg c3]; exact no_err (by decide))
      · exact absurd c (by rw [sAdd, if_pos c1, if_neg c2]; exact no_err (by decide))
    · exact absurd c (by rw [sAdd, if_neg c1]; exact no_err (by decide))
  · exact AOK_no h hd c (e_sAdd h.1 c)
theorem AOK_drop {T : Tb} {u x : Int32} (h : WF T) (hd : DIF T) (hu : u.toInt ≤ 6) : AOK T u (sDrop T x) := by
  by_cases c : -10001 < (sDrop T x).1
  · have hw := WF_sDrop (x := x) h
    by_cases c1 : xin x 8 ∧ ¬ tk T (tn T - 1) (ix x) = -1
    · by_cases c4 : tn T < 30
      · obtain ⟨j, hj, rfl⟩ := xin_of c1.1 (by decide)
        refine AOK_bgn (j := ix (nI j)) (k := -1) (d := 0) h hd hu ?_ hw (by rw [ix_nI (by omega)]; exact hj) (fun z => c1.2 z.symm)
        rw [sDrop, if_pos c1, if_pos c4]
      · exact absurd c (by rw [sDrop, if_pos c1, if_neg c4]; exact no_err (by decide))
    · exact absurd c (by rw [sDrop, if_neg c1]; exact no_err (by decide))
  · exact AOK_no h hd c (e_sDrop h.1 c)
theorem AOK_kind {T : Tb} {u x k : Int32} (h : WF T) (hd : DIF T) (hu : u.toInt ≤ 6) : AOK T u (sKind T x k) := by
  by_cases c : -10001 < (sKind T x k).1
  · have hw := WF_sKind (x := x) (k := k) h
    by_cases c1 : xin x 8 ∧ ¬ tk T (tn T - 1) (ix x) = -1
    · by_cases c2 : xin k 3
      · by_cases c4 : tn T < 30
        · by_cases c5 : tk T (tn T - 1) (ix x) = k
          · exact absurd c (by rw [sKind, if_pos c1, if_pos c2, if_pos c4, if_pos c5]; exact no_err (by decide))
          · obtain ⟨j, hj, rfl⟩ := xin_of c1.1 (by decide)
            refine AOK_bgn (j := ix (nI j)) (k := k) (d := cstC k (td T (tn T - 1) (ix (nI j)))) h hd hu ?_ hw (by rw [ix_nI (by omega)]; exact hj) (fun z => c5 z.symm)
            rw [sKind, if_pos c1, if_pos c2, if_pos c4, if_neg c5]
        · exact absurd c (by rw [sKind, if_pos c1, if_pos c2, if_neg c4]; exact no_err (by decide))
      · exact absurd c (by rw [sKind, if_pos c1, if_neg c2]; exact no_err (by decide))
    · exact absurd c (by rw [sKind, if_neg c1]; exact no_err (by decide))
  · exact AOK_no h hd c (e_sKind h.1 c)
/-- an act on rows: seasons as they are -/
theorem AOK_mid {T : Tb} {u : Int32} {r : Int32 × Tb} (hd : DIF T) (h7 : 7 ≤ u.toInt) (h16 : u.toInt ≤ 16) (hw : WF r.2) (hn : tn r.2 = tn T) (hk : tk r.2 = tk T) (hr : -10001 < r.1 → -9999 ≤ r.1.toInt) : AOK T u r :=
  ⟨hw, DIF_same hd hn hk, hr, fun z => absurd z (by omega), fun z => absurd (show u.toInt < 19 by omega) z, fun z => by have := u_17 z; omega⟩
theorem nI_ge9 {n : Nat} (h : n < 2 ^ 31) : -9999 ≤ (nI n).toInt := by
  rw [nI_toInt h]
  omega
theorem AOK_row {T : Tb} {u : Int32} (h : WF T) (hd : DIF T) (h7 : 7 ≤ u.toInt) (h16 : u.toInt ≤ 16) : AOK T u (sRow T) := by
  by_cases c : -10001 < (sRow T).1
  · have hw := WF_sRow h
    by_cases c1 : tr T < 24
    · rw [sRow, if_pos c1] at hw ⊢
      exact AOK_mid hd h7 h16 hw rfl rfl (fun _ => nI_ge9 (by omega))
    · exact absurd c (by rw [sRow, if_neg c1]; exact no_err (by decide))
  · exact AOK_no h hd c (e_sRow c)
theorem AOK_set {T : Tb} {u x y v : Int32} (h : WF T) (hd : DIF T) (h7 : 7 ≤ u.toInt) (h16 : u.toInt ≤ 16) : AOK T u (sSet T x y v) := by
  by_cases c : -10001 < (sSet T x y v).1
  · have hw := WF_sSet (x := x) (y := y) (v := v) h
    by_cases c1 : (xin x (tr T) ∧ xin y 8) ∧ ¬ tk T (ts T (ix x)) (ix y) = -1
    · by_cases c2 : okv v (tk T (ts T (ix x)) (ix y))
      · by_cases c3 : tv T (ix x) (ix y) = v
        · exact absurd c (by rw [sSet, if_pos c1, if_pos c2, if_pos c3]; exact no_err (by decide))
        · have h24 := h.1.2.2.1
          obtain ⟨i, hi, ei⟩ := xin_of c1.1.1 (by omega)
          obtain ⟨j, hj, ej⟩ := xin_of c1.1.2 (by decide)
          have hix : ix x < tr T := by rw [ei, ix_nI (by omega)]; exact hi
          have hjx : ix y < 8 := by rw [ej, ix_nI (by omega)]; exact hj
          have k1 := (WF_k h (h.1.2.2.2 _ hix) hjx).resolve_left c1.2
          have k2 := (okv_rng k1 ((h.2.2 _ _ hix hjx).resolve_left c1.2)).1
          rw [sSet, if_pos c1, if_pos c2, if_neg c3] at hw ⊢
          exact AOK_mid hd h7 h16 hw rfl rfl (fun _ => k2)
      · exact absurd c (by rw [sSet, if_pos c1, if_neg c2]; exact no_err (by decide))
    · exact absurd c (by rw [sSet, if_neg c1]; exact no_err (by decide))
  · exact AOK_no h hd c (e_sSet h c)
theorem AOK_rem {T : Tb} {u x : Int32} (h : WF T) (hd : DIF T) (h7 : 7 ≤ u.toInt) (h16 : u.toInt ≤ 16) : AOK T u (sRem T x) := by
  by_cases c : -10001 < (sRem T x).1
  · have hw := WF_sRem (x := x) h
    by_cases c1 : xin x (tr T)
    · have h24 := h.1.2.2.1
      rw [sRem, if_pos c1] at hw ⊢
      exact AOK_mid hd h7 h16 hw rfl rfl (fun _ => nI_ge9 (by omega))
    · exact absurd c (by rw [sRem, if_neg c1]; exact no_err (by decide))
  · exact AOK_no h hd c (e_sRem h.1 c)
theorem AOK_mk {T : Tb} {u x y : Int32} (h : WF T) (hd : DIF T) (h7 : 7 ≤ u.toInt) (h18 : u.toInt < 19) : AOK T u (sMk T x y) := by
  by_cases c : -10001 < (sMk T x y).1
  · have hw := WF_sMk (x := x) (y := y) h
    have h24 := h.1.2.2.1
    by_cases c1 : xin x (tr T) ∧ xin y (tr T)
    · by_cases c2 : ix y < ix x
      · exact absurd c (by rw [sMk, if_pos c1, if_pos c2]; exact no_err (by decide))
      · by_cases c3 : mkN T (ix x) (ix y + 1 - ix x)
        · exact absurd c (by rw [sMk, if_pos c1, if_neg c2, if_pos c3]; exact no_err (by decide))
        · obtain ⟨i, hi, ei⟩ := xin_of c1.1 (by omega)
          obtain ⟨j, hj, ej⟩ := xin_of c1.2 (by omega)
          have hjx : ix y < tr T := by rw [ej, ix_nI (by omega)]; exact hj
          have z1 := nmk_le (T := T) (a := ix x) (n := ix y + 1 - ix x) (by omega)
          have z2 := nal_le h.1
          rw [sMk, if_pos c1, if_neg c2, if_neg c3] at hw ⊢
          obtain ⟨o1, o2, o3, -, -⟩ := mkP_out (T := T) (a := ix x) (ix y + 1 - ix x)
          refine ⟨hw, DIF_same hd o1 o3, fun _ => ?_, fun z => absurd z (by omega), fun z => absurd h18 z, fun _ _ => ⟨_, mkL_nmk, z1⟩⟩
          show -9999 ≤ (mkL T (ix x) (ix y + 1 - ix x)).toInt
          rw [mkL_nmk]
          exact nI_ge9 (by omega)
    · exact absurd c (by rw [sMk, if_neg c1]; exact no_err (by decide))
  · exact AOK_no h hd c (e_sMk h.1 c)
theorem AOK_for {T : Tb} {u : Int32} (h : WF T) (hd : DIF T) (h19 : ¬ u.toInt < 19) : AOK T u (sFor T) := by
  by_cases c : -10001 < (sFor T).1
  · have hw := WF_sFor h
    by_cases c1 : fgm T = 0
    · exact absurd c (by rw [sFor, if_pos c1]; exact no_err (by decide))
    · have z : fgm T ≤ tn T - 1 := (fgF_le (T := T) (tr T)).1
      have h1 := h.1.1
      have h30 := h.1.2.1
      rw [sFor, if_neg c1] at hw ⊢
      exact ⟨hw, DIF_fgt hd, fun _ => nI_ge9 (by omega), fun y => absurd y (by omega), fun _ _ => ⟨_, rfl, by omega, rfl⟩, fun y => by have := u_17 y; omega⟩
  · exact AOK_no h hd c (e_sFor h.1 c)
theorem no_act : ¬ (-10001 : Int32) < -10005 := by decide
theorem DIF_T00 : DIF T00 := fun q h1 h2 => absurd (show q < 1 from h2) (by omega)
