/-! what the law's calls tell, in its own words -/
theorem xR_eq {E : xE} {l : Launch} {y : MethodName} {ws : List Cond} {fr lo : Nat} {av : List Value} {C : xC} {r r2 : Int32} (h : r = r2) (k : xR E l y ws fr lo av C r) : xR E l y ws fr lo av C r2 := by
  rw [← h]
  exact k
theorem CX_0 {E : xE} {C : xC} {T : Tb} {hh : Nat → Tb} {hn : Nat} {sn : Option Tb} {tx : Nat → Int32} {ln : Nat} {sp : Option (Nat × Int32)} (h : CX E C T hh hn sn tx ln sp) : ∃ fs : List Value, C 0 = .inr (4, fs) := by
  obtain ⟨o, sl, cm, xt, cc, pl, nu, c0, hr⟩ := h
  exact ⟨_, c0⟩
def kK (T : Tb) (q j : Nat) : Int32 := if tk T q j = -1 then -10005 else tk T q j
def stR (T : Tb) (q j : Nat) : Int32 := if tk T q j = -1 then -10005 else td T q j
def vV (T : Tb) (i j : Nat) : Int32 := if tk T (ts T i) j = -1 then -10005 else tv T i j
def rR (T : Tb) (q i j : Nat) : Int32 := if tk T q j = -1 then -10005 else rdC T q i j
def hR (T : Tb) (q i j : Nat) : Int32 := if tk T q j = -1 then -10005 else howC T q i j
theorem rCt_0 {T : Tb} {hn ln : Nat} : rCt T hn ln 0 = nI (tn T - 1) := by rw [rCt, if_pos rfl]
theorem rCt_2 {T : Tb} {hn ln : Nat} : rCt T hn ln 2 = nI (tr T) := by rw [rCt, if_neg (by decide), if_neg (by decide), if_pos rfl]
theorem rCt_3 {T : Tb} {hn ln : Nat} : rCt T hn ln 3 = wear T (tn T - 1) := by rw [rCt, if_neg (by decide), if_neg (by decide), if_neg (by decide), if_pos rfl]
theorem rCt_4 {T : Tb} {hn ln : Nat} : rCt T hn ln 4 = nI (nal T) := by
  rw [rCt, if_neg (by decide), if_neg (by decide), if_neg (by decide), if_neg (by decide), if_pos rfl]
  exact allV_nal
theorem rCt_5 {T : Tb} {hn ln : Nat} : rCt T hn ln 5 = nI (nla T (tn T - 1)) := by
  rw [rCt, if_neg (by decide), if_neg (by decide), if_neg (by decide), if_neg (by decide), if_neg (by decide), if_pos rfl]
  exact lsA_nla
theorem rCt_7 {T : Tb} {hn ln : Nat} : rCt T hn ln 7 = nI hn := by rw [rCt, if_neg (by decide), if_neg (by decide), if_neg (by decide), if_neg (by decide), if_neg (by decide), if_neg (by decide), if_neg (by decide), if_pos rfl]
theorem rCol_0 {T : Tb} {q j : Nat} (hw : WB T) (hq : q < tn T) (hj : j < 8) : rCol T (nI q) (nI j) 0 = kK T q j := by
  have h30 := hw.2.1
  rw [rCol, if_pos ⟨xin_nI hq (by omega), xin_nI hj (by omega)⟩, if_pos (by decide), ix_nI (by omega), ix_nI (by omega), kK]
  by_cases c : tk T q j = -1
  · rw [if_pos c, if_pos c]
  · rw [if_neg c, if_neg c, if_pos rfl]
theorem rCol_1 {T : Tb} {q j : Nat} (hw : WB T) (hq : q < tn T) (hj : j < 8) : rCol T (nI q) (nI j) 1 = stR T q j := by
  have h30 := hw.2.1
  rw [rCol, if_pos ⟨xin_nI hq (by omega), xin_nI hj (by omega)⟩, if_pos (by decide), ix_nI (by omega), ix_nI (by omega), stR]
  by_cases c : tk T q j = -1
  · rw [if_pos c, if_pos c]
  · rw [if_neg c, if_neg c, if_neg (by decide)]
theorem rSea_3 {T : Tb} {q : Nat} (hw : WB T) (hq : q < tn T) : rSea T (nI q) 3 = newC T q := by
  have h30 := hw.2.1
  rw [rSea, if_pos (xin_nI hq (by omega)), if_neg (by decide), if_neg (by decide), if_neg (by decide), if_pos rfl, ix_nI (by omega)]
theorem rVal_v {T : Tb} {i j : Nat} (hw : WB T) (hi : i < tr T) (hj : j < 8) : rVal T (nI i) (nI j) = vV T i j := by
  have h24 := hw.2.2.1
  rw [rVal, if_pos ⟨xin_nI hi (by omega), xin_nI hj (by omega)⟩, ix_nI (by omega), ix_nI (by omega), vV]
theorem rSof_s {T : Tb} {i : Nat} (hw : WB T) (hi : i < tr T) : rSof T (nI i) = nI (ts T i) := by
  have h24 := hw.2.2.1
  rw [rSof, if_pos (xin_nI hi (by omega)), ix_nI (by omega)]
theorem rRead_0 {T : Tb} {i q j : Nat} (hw : WB T) (hi : i < tr T) (hq : q < tn T) (hj : j < 8) : rRead T (nI i) (nI q) (nI j) 0 = rR T q i j := by
  have h24 := hw.2.2.1
  have h30 := hw.2.1
  have e1 : ix (nI i) = i := ix_nI (by omega)
  have e2 : ix (nI q) = q := ix_nI (by omega)
  have e3 : ix (nI j) = j := ix_nI (by omega)
  rw [rRead, if_pos ⟨⟨xin_nI hi (by omega), xin_nI hq (by omega)⟩, xin_nI hj (by omega)⟩, if_pos (by decide), e1, e2, e3, rR]
  by_cases c : tk T q j = -1
  · rw [if_pos c, if_pos c]
  · rw [if_neg c, if_neg c, if_pos rfl]
theorem rRead_1 {T : Tb} {i q j : Nat} (hw : WB T) (hi : i < tr T) (hq : q < tn T) (hj : j < 8) : rRead T (nI i) (nI q) (nI j) 1 = hR T q i j := by
  have h24 := hw.2.2.1
  have h30 := hw.2.1
  have e1 : ix (nI i) = i := ix_nI (by omega)
  have e2 : ix (nI q) = q := ix_nI (by omega)
  have e3 : ix (nI j) = j := ix_nI (by omega)
  rw [rRead, if_pos ⟨⟨xin_nI hi (by omega), xin_nI hq (by omega)⟩, xin_nI hj (by omega)⟩, if_pos (by decide), e1, e2, e3, hR]
  by_cases c : tk T q j = -1
  · rw [if_pos c, if_pos c]
  · rw [if_neg c, if_neg c, if_neg (by decide)]
theorem rView_0 {T : Tb} {a b : Nat} (hw : WB T) (ha : a < tr T) (hb : b < tr T) : rView T (nI a) (nI b) 0 = shN T a b := by
  have h24 := hw.2.2.1
  have e1 : ix (nI a) = a := ix_nI (by omega)
  have e2 : ix (nI b) = b := ix_nI (by omega)
  rw [rView, if_pos ⟨xin_nI ha (by omega), xin_nI hb (by omega)⟩, if_pos rfl, e1, e2]
theorem rVC_w {T : Tb} {a b j : Nat} {w : Int32} (hw : WB T) (ha : a < tr T) (hb : b < tr T) (hj : j < 8) (hx : xin w 5) (hs : ¬ (shN T a b &&& bitN j) = 0) : rVC T (nI a) (nI b) (nI j) w = vcV T a b j w := by
  have h24 := hw.2.2.1
  have e1 : ix (nI a) = a := ix_nI (by omega)
  have e2 : ix (nI b) = b := ix_nI (by omega)
  have e3 : ix (nI j) = j := ix_nI (by omega)
  rw [rVC, if_pos ⟨⟨xin_nI ha (by omega), xin_nI hb (by omega)⟩, xin_nI hj (by omega)⟩, if_pos hx, e1, e2, e3, if_neg hs]
theorem rVC_1 {T : Tb} {a b j : Nat} (hw : WB T) (ha : a < tr T) (hb : b < tr T) (hj : j < 8) (hs : ¬ (shN T a b &&& bitN j) = 0) : rVC T (nI a) (nI b) (nI j) 1 = svs T a j (b + 1 - a) := by
  rw [rVC_w hw ha hb hj (by decide) hs, vcV, if_neg (by decide), if_pos rfl]
theorem rVC_2 {T : Tb} {a b j : Nat} (hw : WB T) (ha : a < tr T) (hb : b < tr T) (hj : j < 8) (hs : ¬ (shN T a b &&& bitN j) = 0) : rVC T (nI a) (nI b) (nI j) 2 = lea T a j (b + 1 - a) := by
  rw [rVC_w hw ha hb hj (by decide) hs, vcV, if_neg (by decide), if_neg (by decide), if_pos rfl]
theorem rVC_3 {T : Tb} {a b j : Nat} (hw : WB T) (ha : a < tr T) (hb : b < tr T) (hj : j < 8) (hs : ¬ (shN T a b &&& bitN j) = 0) : rVC T (nI a) (nI b) (nI j) 3 = gre T a j (b + 1 - a) := by
  rw [rVC_w hw ha hb hj (by decide) hs, vcV, if_neg (by decide), if_neg (by decide), if_neg (by decide), if_pos rfl]
theorem rVC_4 {T : Tb} {a b j : Nat} (hw : WB T) (ha : a < tr T) (hb : b < tr T) (hj : j < 8) (hs : ¬ (shN T a b &&& bitN j) = 0) : rVC T (nI a) (nI b) (nI j) 4 = unl T a j (b + 1 - a) := by
  rw [rVC_w hw ha hb hj (by decide) hs, vcV, if_neg (by decide), if_neg (by decide), if_neg (by decide), if_neg (by decide)]
theorem rVC_no {T : Tb} {a b j : Nat} (hw : WB T) (ha : a < tr T) (hb : b < tr T) (hj : j < 8) (hs : (shN T a b &&& bitN j) = 0) : rVC T (nI a) (nI b) (nI j) 0 = -10005 := by
  have h24 := hw.2.2.1
  have e1 : ix (nI a) = a := ix_nI (by omega)
  have e2 : ix (nI b) = b := ix_nI (by omega)
  have e3 : ix (nI j) = j := ix_nI (by omega)
  rw [rVC, if_pos ⟨⟨xin_nI ha (by omega), xin_nI hb (by omega)⟩, xin_nI hj (by omega)⟩, if_pos (by decide), e1, e2, e3, if_pos hs]
theorem rBs_0 {T : Tb} : rBs T 0 = nI (bsC T) := by rw [rBs, if_pos (by decide), if_pos rfl]
theorem rBs_1 {T : Tb} : rBs T 1 = nI (nla T (bsC T)) := by
  rw [rBs, if_pos (by decide), if_neg (by decide)]
  exact lsA_nla
theorem rView_no {T : Tb} {w : Int32} (h : tr T = 0) : rView T 0 (-1) w = -10001 := by
  rw [rView, if_neg (fun z => absurd z.2.1 (by decide))]
/-! the best season -/
theorem bs_least {T : Tb} (hw : WB T) : nla T (bsC T) ≤ nla T (tn T - 1) := by
  have h1 := hw.1
  obtain ⟨d0, d1, d2, d3, d4⟩ := bsd_is h1 (tn T - 1) (Nat.le_refl _)
  have z := d3 (tn T - 1) (by omega) (Nat.le_refl _)
  have e : (bsd T (tn T - 1)).1 = bsC T := rfl
  have a1 := nla_le (T := T) (q := bsC T)
  have a2 := nla_le (T := T) (q := tn T - 1)
  have a3 := nal_le hw
  rw [e, lsA_nla, lsA_nla, nI_toInt (by omega), nI_toInt (by omega)] at z
  omega
/-! kinds, values, casts -/
theorem kK_cases {T : Tb} {q j : Nat} (h : WF T) (hq : q < tn T) (hj : j < 8) : (tk T q j = -1 ∧ kK T q j = -10005) ∨ (¬ tk T q j = -1 ∧ xin (tk T q j) 3 ∧ kK T q j = tk T q j) := by
  by_cases c : tk T q j = -1
  · exact Or.inl ⟨c, by rw [kK, if_pos c]⟩
  · exact Or.inr ⟨c, (WF_k h hq hj).resolve_left c, by rw [kK, if_neg c]⟩
theorem kK_lt {T : Tb} {q j : Nat} (h : WF T) (hq : q < tn T) (hj : j < 8) : kK T q j < 0 ↔ tk T q j = -1 := by
  rcases kK_cases h hq hj with ⟨c, e⟩ | ⟨c, x, e⟩
  · rw [e]
    exact ⟨fun _ => c, fun _ => by decide⟩
  · rw [e, i32lt]
    exact ⟨fun z => absurd z (by have := x.1; rw [show (0 : Int32).toInt = 0 by decide]; omega), fun z => absurd z c⟩
theorem kK_ge {T : Tb} {q j : Nat} (h : WF T) (hq : q < tn T) (hj : j < 8) : 0 ≤ kK T q j ↔ ¬ tk T q j = -1 := by
  rw [← kK_lt h hq hj]
  exact Int32.not_lt.symm
theorem kK_inj {T : Tb} {q q2 j : Nat} (h : WF T) (hq : q < tn T) (hq2 : q2 < tn T) (hj : j < 8) : kK T q j = kK T q2 j ↔ tk T q j = tk T q2 j := by
  rcases kK_cases h hq hj with ⟨c, e⟩ | ⟨c, x, e⟩
  · rcases kK_cases h hq2 hj with ⟨c2, e2⟩ | ⟨c2, x2, e2⟩
    · rw [e, e2, c, c2]
      exact ⟨fun _ => rfl, fun _ => rfl⟩
    · rw [e, e2, c]
      exact ⟨fun z => absurd x2.1 (by rw [← z]; decide), fun z => absurd z.symm c2⟩
  · rcases kK_cases h hq2 hj with ⟨c2, e2⟩ | ⟨c2, x2, e2⟩
    · rw [e, e2, c2]
      exact ⟨fun z => absurd x.1 (by rw [z]; decide), fun z => absurd z c⟩
    · rw [e, e2]
def lcs (v k : Int32) : Int32 := if k = 2 then v else if k = 0 then (if v = 0 then 0 else 1) else if v < 0 then 0 else if 9 < v then 9 else v
theorem lcs_eq {v k : Int32} (hk : xin k 3) (hv : rng v) : lcs v k = cstC k v := by
  rw [← cst_eq hk hv]
  have a1 : ¬ (0 : Int32) = 2 := by decide
  have a2 : ¬ (0 : Int32) = 1 := by decide
  have a3 : ¬ (1 : Int32) = 2 := by decide
  have a4 : ¬ (1 : Int32) = 0 := by decide
  rcases xin3 hk with rfl | rfl | rfl
  · rw [lcs, cst, if_neg a1, if_neg a1, if_neg a2, if_pos rfl]
  · rw [lcs, cst, if_neg a3, if_neg a3, if_neg a4, if_pos rfl]
  · rw [lcs, cst, if_pos rfl, if_pos rfl]
section LT
variable {T : Tb} {q i j : Nat}
theorem v_lo (h : WF T) (hi : i < tr T) (hj : j < 8) (c : ¬ tk T (ts T i) j = -1) : ¬ vV T i j < loK (kK T (ts T i) j) := by
  rw [kK, vV, if_neg c, if_neg c, i32lt]
  have := ((h.2.2 i j hi hj).resolve_left c).1
  omega
theorem v_hi (h : WF T) (hi : i < tr T) (hj : j < 8) (c : ¬ tk T (ts T i) j = -1) : ¬ hiK (kK T (ts T i) j) < vV T i j := by
  rw [kK, vV, if_neg c, if_neg c, i32lt]
  have := ((h.2.2 i j hi hj).resolve_left c).2
  omega
theorem v_rd (h : WF T) (hi : i < tr T) (hj : j < 8) (c : ¬ tk T (ts T i) j = -1) : rR T (ts T i) i j = vV T i j := by
  rw [rR, vV, if_neg c, if_neg c, rd_own h hi hj c]
theorem v_hw (c : ¬ tk T (ts T i) j = -1) : hR T (ts T i) i j = 0 := by
  rw [hR, if_neg c, howC, if_neg c, if_pos rfl]
theorem v_no (c : tk T (ts T i) j = -1) : vV T i j = -10005 := by
  rw [vV, if_pos c]
theorem hR_at {u : Int32} (hu : ¬ u = -10005) (e : hR T q i j = u) : ¬ tk T q j = -1 ∧ howC T q i j = u := by
  by_cases c : tk T q j = -1
  · rw [hR, if_pos c] at e
    exact absurd e.symm hu
  · rw [hR, if_neg c] at e
    exact ⟨c, e⟩
/-- what is cast: how it came says whether it comes back -/
theorem how_c (h : WF T) (hq : q < tn T) (hi : i < tr T) (hj : j < 8) (c1 : ¬ tk T q j = -1) (c2 : ¬ tk T (ts T i) j = -1) : lcs (rR T q i j) (kK T (ts T i) j) = cstC (tk T (ts T i) j) (cstC (tk T q j) (tv T i j)) ∧ vV T i j = tv T i j := by
  have hs := h.1.2.2.2 i hi
  have k1 := (WF_k h hq hj).resolve_left c1
  have k2 := (WF_k h hs hj).resolve_left c2
  have r1 := okv_rng k2 ((h.2.2 i j hi hj).resolve_left c2)
  have r2 := okv_rng k1 (cst_ok k1 r1)
  refine ⟨?_, by rw [vV, if_neg c2]⟩
  rw [rR, kK, if_neg c1, if_neg c2, rdC, if_neg c2]
  exact lcs_eq k2 r2
theorem how_1 (h : WF T) (hq : q < tn T) (hi : i < tr T) (hj : j < 8) (e : hR T q i j = 1) : lcs (rR T q i j) (kK T (ts T i) j) = vV T i j := by
  obtain ⟨c1, e⟩ := hR_at (by decide) e
  rw [howC] at e
  by_cases c2 : tk T (ts T i) j = -1
  · rw [if_pos c2] at e
    exact absurd e (by decide)
  · rw [if_neg c2] at e
    by_cases c3 : tk T (ts T i) j = tk T q j
    · rw [if_pos c3] at e
      exact absurd e (by decide)
    · rw [if_neg c3] at e
      by_cases c4 : clos T q i j
      · rw [if_pos c4] at e
        exact absurd e (by decide)
      · obtain ⟨g1, g2⟩ := how_c h hq hi hj c1 c2
        rw [g1, g2]
        exact Decidable.of_not_not c4
theorem how_2 (h : WF T) (hq : q < tn T) (hi : i < tr T) (hj : j < 8) (e : hR T q i j = 2) : ¬ lcs (rR T q i j) (kK T (ts T i) j) = vV T i j := by
  obtain ⟨c1, e⟩ := hR_at (by decide) e
  rw [howC] at e
  by_cases c2 : tk T (ts T i) j = -1
  · rw [if_pos c2] at e
    exact absurd e (by decide)
  · rw [if_neg c2] at e
    by_cases c3 : tk T (ts T i) j = tk T q j
    · rw [if_pos c3] at e
      exact absurd e (by decide)
    · rw [if_neg c3] at e
      by_cases c4 : clos T q i j
      · obtain ⟨g1, g2⟩ := how_c h hq hi hj c1 c2
        rw [g1, g2]
        exact c4
      · rw [if_neg c4] at e
        exact absurd e (by decide)
theorem how_3 (e : hR T q i j = 3) : rR T q i j = stR T q j := by
  obtain ⟨c1, e⟩ := hR_at (by decide) e
  rw [howC] at e
  by_cases c2 : tk T (ts T i) j = -1
  · rw [rR, stR, if_neg c1, if_neg c1, rdC, if_pos c2]
  · rw [if_neg c2] at e
    by_cases c3 : tk T (ts T i) j = tk T q j
    · rw [if_pos c3] at e
      exact absurd e (by decide)
    · rw [if_neg c3] at e
      by_cases c4 : clos T q i j
      · rw [if_pos c4] at e
        exact absurd e (by decide)
      · rw [if_neg c4] at e
        exact absurd e (by decide)
end LT
/-! views -/
abbrev ALk (T : Tb) (a b j k : Nat) : Prop := a ≤ b ∧ ∀ z : Nat, z < k → ¬ tk T (ts T (a + z)) j = -1
theorem AL_0 {T : Tb} {a b j : Nat} : ALk T a b j 0 ↔ a ≤ b := ⟨fun h => h.1, fun h => ⟨h, fun z hz => absurd hz (Nat.not_lt_zero _)⟩⟩
theorem AL_s {T : Tb} {a b j k : Nat} : ALk T a b j (k + 1) ↔ ALk T a b j k ∧ ¬ tk T (ts T (a + k)) j = -1 := by
  constructor
  · intro h
    exact ⟨⟨h.1, fun z hz => h.2 z (by omega)⟩, h.2 k (by omega)⟩
  · rintro ⟨h1, h2⟩
    refine ⟨h1.1, fun z hz => ?_⟩
    rcases Nat.lt_or_ge z k with c | c
    · exact h1.2 z c
    · rw [show z = k by omega]
      exact h2
theorem AL_sh {T : Tb} {a b j : Nat} (hj : j < 8) : ALk T a b j (b + 1 - a) ↔ ¬ (shN T a b &&& bitN j) = 0 := by
  rw [has_iff' hj, shN]
  by_cases c : b < a
  · rw [if_pos c, hb_zero]
    exact ⟨fun h => absurd h.1 (by omega), fun h => absurd h (by decide)⟩
  · rw [if_neg c, shr_bit hj]
    exact ⟨fun h z hz => h.2 z (by omega), fun h => ⟨by omega, fun z hz => h z (by omega)⟩⟩
theorem AL_one {T : Tb} {a b j : Nat} (hj : j < 8) : ((shN T a b >>> (nI j &&& 31)) &&& 1) = 1 ↔ ALk T a b j (b + 1 - a) := (bitOne m8_shN hj).trans (AL_sh hj).symm
theorem svs_s {T : Tb} {a b j k : Nat} {x : Int32} (h : ALk T a b j k → x = svs T a j k) (h2 : ALk T a b j (k + 1)) : x + vV T (a + k) j = svs T a j (k + 1) := by
  obtain ⟨h3, h4⟩ := AL_s.mp h2
  rw [h h3, vV, if_neg h4]
  rfl
theorem min_le {T : Tb} {a j : Nat} : ∀ k : Nat, (lea T a j (k + 1)).toInt ≤ (tv T a j).toInt := by
  have h0 : ∀ x y : Int32, (i32min x y).toInt ≤ x.toInt ∧ (i32min x y).toInt ≤ y.toInt := by
    intro x y
    unfold i32min
    by_cases c : y < x
    · rw [if_pos c]
      rw [i32lt] at c
      exact ⟨by omega, Int.le_refl _⟩
    · rw [if_neg c]
      rw [i32lt] at c
      exact ⟨Int.le_refl _, by omega⟩
  intro k
  induction k with
  | zero => exact (h0 9999 (tv T (a + 0) j)).2
  | succ k ih => exact Int.le_trans (h0 (lea T a j (k + 1)) (tv T (a + (k + 1)) j)).1 ih
theorem max_ge {T : Tb} {a j : Nat} : ∀ k : Nat, (tv T a j).toInt ≤ (gre T a j (k + 1)).toInt := by
  have h0 : ∀ x y : Int32, x.toInt ≤ (i32max x y).toInt ∧ y.toInt ≤ (i32max x y).toInt := by
    intro x y
    unfold i32max
    by_cases c : x < y
    · rw [if_pos c]
      rw [i32lt] at c
      exact ⟨by omega, Int.le_refl _⟩
    · rw [if_neg c]
      rw [i32lt] at c
      exact ⟨Int.le_refl _, by omega⟩
  intro k
  induction k with
  | zero => exact (h0 (-9999) (tv T (a + 0) j)).2
  | succ k ih => exact Int.le_trans ih (h0 (gre T a j (k + 1)) (tv T (a + (k + 1)) j)).1
theorem min_max {T : Tb} {a j n : Nat} (h : 1 ≤ n) : ¬ gre T a j n < lea T a j n := by
  obtain ⟨k, rfl⟩ : ∃ k, n = k + 1 := ⟨n - 1, by omega⟩
  have z1 := min_le (T := T) (a := a) (j := j) k
  have z2 := max_ge (T := T) (a := a) (j := j) k
  rw [i32lt]
  omega
theorem unl_ns {T : Tb} {a j n : Nat} : unl T a j n = nI (ns (fun k => if fstV T a j (a + k) then 1 else 0) n) := sm_ns (f := fun k => if fstV T a j (a + k) then 1 else 0) fun _ _ => nI_ite
theorem unl_b {T : Tb} {a j n : Nat} (h : 1 ≤ n) : 1 ≤ ns (fun k => if fstV T a j (a + k) then 1 else 0) n ∧ ns (fun k => if fstV T a j (a + k) then 1 else 0) n ≤ n := by
  have z1 := ns_mono (f := fun k => if fstV T a j (a + k) then 1 else 0) h
  have z2 := ns_max (f := fun k => if fstV T a j (a + k) then 1 else 0) (n := n) (m := 1) (fun i _ => by
    show (if fstV T a j (a + i) then 1 else 0) ≤ 1
    by_cases c : fstV T a j (a + i)
    · rw [if_pos c]; exact Nat.le_refl _
    · rw [if_neg c]; exact Nat.zero_le _)
  have z3 : ns (fun k => if fstV T a j (a + k) then 1 else 0) 1 = 1 := by
    show 0 + (if fstV T a j (a + 0) then 1 else 0) = 1
    rw [if_pos (show fstV T a j (a + 0) from fun k hk => absurd hk (by omega))]
  rw [z3] at z1
  rw [Nat.mul_one] at z2
  exact ⟨z1, z2⟩
theorem unl_1 {T : Tb} {a j n : Nat} (h : 1 ≤ n) (hn : n < 2 ^ 20) : ¬ unl T a j n < 1 := by
  have z := unl_b (T := T) (a := a) (j := j) h
  rw [unl_ns, i32lt, nI_toInt (by omega), show (1 : Int32).toInt = 1 by decide]
  omega
theorem unl_n {T : Tb} {a j n : Nat} (h : 1 ≤ n) (hn : n < 2 ^ 20) : ¬ nI n < unl T a j n := by
  have z := unl_b (T := T) (a := a) (j := j) h
  rw [unl_ns, nI_ltI (by omega) (by omega)]
  omega
/-! all rows made over -/
theorem now_all {U : Tb} (h : WF U) (ha : ∀ i : Nat, i < tr U → ts U i = tn U - 1) : nla U (tn U - 1) = 0 ∧ wear U (tn U - 1) = nI (tr U) := by
  constructor
  · have z := ns_le (f := fun i => nls U (tn U - 1) i) (g := fun _ => 0) (n := tr U) (fun i hi => by
      show nls U (tn U - 1) i ≤ 0
      have e := lsR_own h hi
      rw [ha i hi, lsR_nls] at e
      have b1 := nls_le (T := U) (q := tn U - 1) (i := i)
      have b2 := ncl_le (T := U) (q := ts U i)
      have e2 : nI (nls U (tn U - 1) i) = nI 0 := e.trans (by decide)
      rw [nI_eq (by omega) (by decide)] at e2
      omega)
    have z2 := ns_max (f := fun _ => 0) (n := tr U) (m := 0) (fun _ _ => Nat.le_refl _)
    have z3 : nla U (tn U - 1) = ns (fun i => nls U (tn U - 1) i) (tr U) := rfl
    omega
  · have z : wear U (tn U - 1) = nI (ns (fun _ => 1) (tr U)) := sm_ns (f := fun i => if nI (ts U i) = nI (tn U - 1) then 1 else 0) (fun i hi => by
      show (if nI (ts U i) = nI (tn U - 1) then (1 : Int32) else 0) = nI 1
      rw [if_pos (by rw [ha i hi])] <;> decide)
    rw [z, ns_same]
theorem mk_all {T : Tb} (hw : WB T) (h1 : 1 ≤ tr T) : sMk T 0 (nI (tr T - 1)) = if mkN T 0 (tr T) then (-10005, T) else (mkL T 0 (tr T), mkP T 0 (tr T)) := by
  have h24 := hw.2.2.1
  have e0 : ix (0 : Int32) = 0 := by decide
  have e1 : ix (nI (tr T - 1)) = tr T - 1 := ix_nI (by omega)
  have x0 : xin (0 : Int32) (tr T) := ⟨by decide, by rw [show (0 : Int32).toInt = 0 by decide]; omega⟩
  rw [sMk, if_pos ⟨x0, xin_nI (by omega) (by omega)⟩, e0, e1, if_neg (by omega), show tr T - 1 + 1 - 0 = tr T by omega]
theorem mkL_all {T : Tb} (h : WF T) : mkL T 0 (tr T) = nI (nla T (tn T - 1)) := by
  rw [mkL_eq h (tr T) (by omega), ← lsA_nla, lsA]
  exact sm_congr fun i _ => by rw [Nat.zero_add]
/-- the last act of the law -/
theorem mk_end {T : Tb} (h : WF T) (h1 : 1 ≤ tr T) : ((sMk T 0 (nI (tr T - 1))).1 = -10005 ∨ (sMk T 0 (nI (tr T - 1))).1 = nI (nla T (tn T - 1))) ∧ nla (acT (sMk T 0 (nI (tr T - 1))) T) (tn (acT (sMk T 0 (nI (tr T - 1))) T) - 1) = 0 ∧ wear (acT (sMk T 0 (nI (tr T - 1))) T) (tn (acT (sMk T 0 (nI (tr T - 1))) T) - 1) = nI (tr T) := by
  have h24 := h.1.2.2.1
  rw [mk_all h.1 h1]
  by_cases c : mkN T 0 (tr T)
  · rw [if_pos c]
    have z := now_all h (fun i hi => by have := c i hi; rw [Nat.zero_add] at this; exact this)
    rw [acT, if_neg no_act]
    exact ⟨Or.inl rfl, z⟩
  · rw [if_neg c]
    obtain ⟨o1, o2, o3, -, -⟩ := mkP_out (T := T) (a := 0) (tr T)
    have z := now_all (WF_mkP (a := 0) h (tr T) (by omega)) (fun i hi => by
      rw [o2] at hi
      rw [o1]
      exact (mkP_in (a := 0) h (tr T) (by omega) i (by omega) (by omega)).1)
    rw [acT, if_pos (mkL_pos h24)]
    refine ⟨Or.inr (mkL_all h), z.1, ?_⟩
    have z2 := z.2
    rw [o2] at z2
    exact z2
theorem mk_none {T : Tb} (h : tr T = 0) : nla T (tn T - 1) = 0 ∧ wear T (tn T - 1) = 0 := by
  constructor
  · show ns _ (tr T) = 0
    rw [h]; rfl
  · show sm _ (tr T) = 0
    rw [h]; rfl
/-! the script's numbers -/
def lowW (x : Int32) : Nat := x.toBitVec.toNat % 2 ^ 31
def lowN (x : Int32) (n : Nat) : Nat := lowW x % n
theorem lowW_lt (x : Int32) : lowW x < 2 ^ 31 := Nat.mod_lt _ (by decide)
theorem lowW_and (x : Int32) : x &&& 2147483647 = nI (lowW x) := pk_and x 31 (by decide)
theorem lowN_lt {x : Int32} {n : Nat} (h : 0 < n) : lowN x n < n := Nat.mod_lt _ h
def cel (E : xE) (k : Nat) : Int32 := if k < xsl E then xsx E k else nI (40503 * k + 977)
