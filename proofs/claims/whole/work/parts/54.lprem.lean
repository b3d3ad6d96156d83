theorem l_cls {args : Array Value} {s : State} (hl : ∀ w ∈ wsL_law, w.before args s = true) (hts : ∀ w ∈ tables_1, w.before args s = true) : ∃ D : va_G, ∀ (k : Nat) (q : vw_C), vwCl[k]? = some q → u_Kn s q.1 q.2.1 q.2.2 (D.1 k) (D.2 k) := by
  obtain ⟨c0, g0, u0⟩ := u_known (C := RX0) (T := TX0) (N := 5) (n := 5) hl inlX0 (hts (.instantiable RX0 5) (List.mem_of_getElem? (i := 81) (by decide +kernel)))
  obtain ⟨c1, g1, u1⟩ := u_known (C := RX1) (T := TX1) (N := 3) (n := 3) hl inlX1 (hts (.instantiable RX1 3) (List.mem_of_getElem? (i := 54) (by decide +kernel)))
  obtain ⟨c2, g2, u2⟩ := u_known (C := RX2) (T := TX2) (N := 6) (n := 6) hl inlX2 (hts (.instantiable RX2 6) (List.mem_of_getElem? (i := 74) (by decide +kernel)))
  obtain ⟨c3, g3, u3⟩ := u_known (C := RX3) (T := TX3) (N := 6) (n := 6) hl inlX3 (hts (.instantiable RX3 6) (List.mem_of_getElem? (i := 24) (by decide +kernel)))
  obtain ⟨c4, g4, u4⟩ := u_known (C := RX4) (T := TX4) (N := 7) (n := 7) hl inlX4 (hts (.instantiable RX4 7) (List.mem_of_getElem? (i := 16) (by decide +kernel)))
  obtain ⟨c5, g5, u5⟩ := u_known (C := RX5) (T := TX5) (N := 14) (n := 14) hl inlX5 (hts (.instantiable RX5 14) (List.mem_of_getElem? (i := 608) (by decide +kernel)))
  refine ⟨(fun k => match k with | 0 => c0 | 1 => c1 | 2 => c2 | 3 => c3 | 4 => c4 | _ => c5, fun k => match k with | 0 => g0 | 1 => g1 | 2 => g2 | 3 => g3 | 4 => g4 | _ => g5), fun k q hq => ?_⟩
  match k, hq with
  | 0, hq => cases hq; exact u0
  | 1, hq => cases hq; exact u1
  | 2, hq => cases hq; exact u2
  | 3, hq => cases hq; exact u3
  | 4, hq => cases hq; exact u4
  | 5, hq => cases hq; exact u5
  | k + 6, hq => simp [vwCl] at hq
theorem l_K {args : Array Value} {s : State} (hl : ∀ w ∈ wsL_law, w.before args s = true) (hts : ∀ w ∈ tables_1, w.before args s = true) : ∃ (D : va_G) (I : Nat → ClassId), zK D I s := by
  obtain ⟨D, hD⟩ := l_cls hl hts
  obtain ⟨i0, p0, q0⟩ := z_int (hts (.arrayClass .char) (List.mem_of_getElem? (i := 112) (by decide +kernel)))
  obtain ⟨i1, p1, q1⟩ := z_int (hts (.arrayClass .int) (List.mem_of_getElem? (i := 52) (by decide +kernel)))
  have o2 := hts (.arrayOver (.object RX0)) (List.mem_of_getElem? (i := 80) (by decide +kernel))
  have o3 := hts (.arrayOver (.object RX3)) (List.mem_of_getElem? (i := 60) (by decide +kernel))
  obtain ⟨i2, p2, q2⟩ := z_obj o2
  obtain ⟨i3, p3, q3⟩ := z_obj o3
  refine ⟨D, (fun k => match k with | 0 => i0 | 1 => i1 | 2 => i2 | _ => i3), ⟨hD, fun k q hq => ?_⟩, va_AO.of o2, va_AO.of o3⟩
  match k, hq with
  | 0, hq => cases hq; exact ⟨p0, q0⟩
  | 1, hq => cases hq; exact ⟨p1, q1⟩
  | 2, hq => cases hq; exact ⟨p2, q2⟩
  | 3, hq => cases hq; exact ⟨p3, q3⟩
  | k + 4, hq => simp [zty] at hq
set_option maxRecDepth 20000 in
theorem l_nest_in : ∀ w ∈ xnest, w ∈ tables_1 := memP [36, 65, 87, 88, 90, 91, 93, 94, 96, 97, 99, 100, 115, 117, 119, 180, 183, 186, 238, 295, 427, 428, 539] (by decide +kernel)
theorem l_nest {args : Array Value} {s : State} (hts : ∀ w ∈ tables_1, w.before args s = true) : ∀ w ∈ xnest, va_Nw w s := by
  intro w hw
  have h1 := hts w (l_nest_in w hw)
  rcases xnest_form w hw with ⟨a, i, x, hh, rfl⟩ | ⟨a, i, b, n, d, hh, rfl⟩
  · exact va_Nw.of rfl h1
  · exact va_Nw.of rfl h1
theorem l_ne {args : Array Value} {s : State} (hg : ∀ w ∈ flatC (Jvm.Cond.and given_1 narrow_1), w.before args s = true) : ∀ i j : Nat, i < 8 → j < 8 → i ≠ j → (Cond.not (Cond.eq (.string "ColumnSeasons$Script" (xsk i)) (.string "ColumnSeasons$Script" (xsk j)))).before args s = true ∨ (Cond.not (Cond.eq (.string "ColumnSeasons$Script" (xsk j)) (.string "ColumnSeasons$Script" (xsk i)))).before args s = true := by
  have n34 := hg (.not (.eq (.string "ColumnSeasons$Script" 101) (.string "ColumnSeasons$Script" 64))) (by decide +kernel)
  have n35 := hg (.not (.eq (.string "ColumnSeasons$Script" 101) (.string "ColumnSeasons$Script" 66))) (by decide +kernel)
  have n36 := hg (.not (.eq (.string "ColumnSeasons$Script" 101) (.string "ColumnSeasons$Script" 68))) (by decide +kernel)
  have n37 := hg (.not (.eq (.string "ColumnSeasons$Script" 101) (.string "ColumnSeasons$Script" 70))) (by decide +kernel)
  have n03 := hg (.not (.eq (.string "ColumnSeasons$Script" 49) (.string "ColumnSeasons$Script" 101))) (by decide +kernel)
  have n04 := hg (.not (.eq (.string "ColumnSeasons$Script" 49) (.string "ColumnSeasons$Script" 64))) (by decide +kernel)
  have n05 := hg (.not (.eq (.string "ColumnSeasons$Script" 49) (.string "ColumnSeasons$Script" 66))) (by decide +kernel)
  have n06 := hg (.not (.eq (.string "ColumnSeasons$Script" 49) (.string "ColumnSeasons$Script" 68))) (by decide +kernel)
  have n07 := hg (.not (.eq (.string "ColumnSeasons$Script" 49) (.string "ColumnSeasons$Script" 70))) (by decide +kernel)
  have n01 := hg (.not (.eq (.string "ColumnSeasons$Script" 49) (.string "ColumnSeasons$Script" 97))) (by decide +kernel)
  have n02 := hg (.not (.eq (.string "ColumnSeasons$Script" 49) (.string "ColumnSeasons$Script" 99))) (by decide +kernel)
  have n45 := hg (.not (.eq (.string "ColumnSeasons$Script" 64) (.string "ColumnSeasons$Script" 66))) (by decide +kernel)
  have n46 := hg (.not (.eq (.string "ColumnSeasons$Script" 64) (.string "ColumnSeasons$Script" 68))) (by decide +kernel)
  have n47 := hg (.not (.eq (.string "ColumnSeasons$Script" 64) (.string "ColumnSeasons$Script" 70))) (by decide +kernel)
  have n56 := hg (.not (.eq (.string "ColumnSeasons$Script" 66) (.string "ColumnSeasons$Script" 68))) (by decide +kernel)
  have n57 := hg (.not (.eq (.string "ColumnSeasons$Script" 66) (.string "ColumnSeasons$Script" 70))) (by decide +kernel)
  have n67 := hg (.not (.eq (.string "ColumnSeasons$Script" 68) (.string "ColumnSeasons$Script" 70))) (by decide +kernel)
  have n13 := hg (.not (.eq (.string "ColumnSeasons$Script" 97) (.string "ColumnSeasons$Script" 101))) (by decide +kernel)
  have n14 := hg (.not (.eq (.string "ColumnSeasons$Script" 97) (.string "ColumnSeasons$Script" 64))) (by decide +kernel)
  have n15 := hg (.not (.eq (.string "ColumnSeasons$Script" 97) (.string "ColumnSeasons$Script" 66))) (by decide +kernel)
  have n16 := hg (.not (.eq (.string "ColumnSeasons$Script" 97) (.string "ColumnSeasons$Script" 68))) (by decide +kernel)
  have n17 := hg (.not (.eq (.string "ColumnSeasons$Script" 97) (.string "ColumnSeasons$Script" 70))) (by decide +kernel)
  have n12 := hg (.not (.eq (.string "ColumnSeasons$Script" 97) (.string "ColumnSeasons$Script" 99))) (by decide +kernel)
  have n23 := hg (.not (.eq (.string "ColumnSeasons$Script" 99) (.string "ColumnSeasons$Script" 101))) (by decide +kernel)
  have n24 := hg (.not (.eq (.string "ColumnSeasons$Script" 99) (.string "ColumnSeasons$Script" 64))) (by decide +kernel)
  have n25 := hg (.not (.eq (.string "ColumnSeasons$Script" 99) (.string "ColumnSeasons$Script" 66))) (by decide +kernel)
  have n26 := hg (.not (.eq (.string "ColumnSeasons$Script" 99) (.string "ColumnSeasons$Script" 68))) (by decide +kernel)
  have n27 := hg (.not (.eq (.string "ColumnSeasons$Script" 99) (.string "ColumnSeasons$Script" 70))) (by decide +kernel)
  intro i j hi hj hij
  rcases (show i = 0 ∨ i = 1 ∨ i = 2 ∨ i = 3 ∨ i = 4 ∨ i = 5 ∨ i = 6 ∨ i = 7 by omega) with rfl | rfl | rfl | rfl | rfl | rfl | rfl | rfl
  · rcases (show j = 0 ∨ j = 1 ∨ j = 2 ∨ j = 3 ∨ j = 4 ∨ j = 5 ∨ j = 6 ∨ j = 7 by omega) with rfl | rfl | rfl | rfl | rfl | rfl | rfl | rfl
    · exact absurd rfl hij
    · exact Or.inl n01
    · exact Or.inl n02
    · exact Or.inl n03
    · exact Or.inl n04
    · exact Or.inl n05
    · exact Or.inl n06
    · exact Or.inl n07
  · rcases (show j = 0 ∨ j = 1 ∨ j = 2 ∨ j = 3 ∨ j = 4 ∨ j = 5 ∨ j = 6 ∨ j = 7 by omega) with rfl | rfl | rfl | rfl | rfl | rfl | rfl | rfl
    · exact Or.inr n01
    · exact absurd rfl hij
    · exact Or.inl n12
    · exact Or.inl n13
    · exact Or.inl n14
    · exact Or.inl n15
    · exact Or.inl n16
    · exact Or.inl n17
  · rcases (show j = 0 ∨ j = 1 ∨ j = 2 ∨ j = 3 ∨ j = 4 ∨ j = 5 ∨ j = 6 ∨ j = 7 by omega) with rfl | rfl | rfl | rfl | rfl | rfl | rfl | rfl
    · exact Or.inr n02
    · exact Or.inr n12
    · exact absurd rfl hij
    · exact Or.inl n23
    · exact Or.inl n24
    · exact Or.inl n25
    · exact Or.inl n26
    · exact Or.inl n27
  · rcases (show j = 0 ∨ j = 1 ∨ j = 2 ∨ j = 3 ∨ j = 4 ∨ j = 5 ∨ j = 6 ∨ j = 7 by omega) with rfl | rfl | rfl | rfl | rfl | rfl | rfl | rfl
    · exact Or.inr n03
    · exact Or.inr n13
    · exact Or.inr n23
    · exact absurd rfl hij
    · exact Or.inl n34
    · exact Or.inl n35
    · exact Or.inl n36
    · exact Or.inl n37
  · rcases (show j = 0 ∨ j = 1 ∨ j = 2 ∨ j = 3 ∨ j = 4 ∨ j = 5 ∨ j = 6 ∨ j = 7 by omega) with rfl | rfl | rfl | rfl | rfl | rfl | rfl | rfl
    · exact Or.inr n04
    · exact Or.inr n14
    · exact Or.inr n24
    · exact Or.inr n34
    · exact absurd rfl hij
    · exact Or.inl n45
    · exact Or.inl n46
    · exact Or.inl n47
  · rcases (show j = 0 ∨ j = 1 ∨ j = 2 ∨ j = 3 ∨ j = 4 ∨ j = 5 ∨ j = 6 ∨ j = 7 by omega) with rfl | rfl | rfl | rfl | rfl | rfl | rfl | rfl
    · exact Or.inr n05
    · exact Or.inr n15
    · exact Or.inr n25
    · exact Or.inr n35
    · exact Or.inr n45
    · exact absurd rfl hij
    · exact Or.inl n56
    · exact Or.inl n57
  · rcases (show j = 0 ∨ j = 1 ∨ j = 2 ∨ j = 3 ∨ j = 4 ∨ j = 5 ∨ j = 6 ∨ j = 7 by omega) with rfl | rfl | rfl | rfl | rfl | rfl | rfl | rfl
    · exact Or.inr n06
    · exact Or.inr n16
    · exact Or.inr n26
    · exact Or.inr n36
    · exact Or.inr n46
    · exact Or.inr n56
    · exact absurd rfl hij
    · exact Or.inl n67
  · rcases (show j = 0 ∨ j = 1 ∨ j = 2 ∨ j = 3 ∨ j = 4 ∨ j = 5 ∨ j = 6 ∨ j = 7 by omega) with rfl | rfl | rfl | rfl | rfl | rfl | rfl | rfl
    · exact Or.inr n07
    · exact Or.inr n17
    · exact Or.inr n27
    · exact Or.inr n37
    · exact Or.inr n47
    · exact Or.inr n57
    · exact Or.inr n67
    · exact absurd rfl hij
theorem l_ex {args : Array Value} {s : State} (hg : ∀ w ∈ flatC (Jvm.Cond.and given_1 narrow_1), w.before args s = true) : ∀ i : Nat, i < 8 → (Cond.exactly (.string "ColumnSeasons$Script" (xsk i)) "java/lang/String").before args s = true := by
  intro i hi
  rcases (show i = 0 ∨ i = 1 ∨ i = 2 ∨ i = 3 ∨ i = 4 ∨ i = 5 ∨ i = 6 ∨ i = 7 by omega) with rfl | rfl | rfl | rfl | rfl | rfl | rfl | rfl
  · exact hg (Cond.exactly (.string "ColumnSeasons$Script" 49) "java/lang/String") (by decide +kernel)
  · exact hg (Cond.exactly (.string "ColumnSeasons$Script" 97) "java/lang/String") (by decide +kernel)
  · exact hg (Cond.exactly (.string "ColumnSeasons$Script" 99) "java/lang/String") (by decide +kernel)
  · exact hg (Cond.exactly (.string "ColumnSeasons$Script" 101) "java/lang/String") (by decide +kernel)
  · exact hg (Cond.exactly (.string "ColumnSeasons$Script" 64) "java/lang/String") (by decide +kernel)
  · exact hg (Cond.exactly (.string "ColumnSeasons$Script" 66) "java/lang/String") (by decide +kernel)
  · exact hg (Cond.exactly (.string "ColumnSeasons$Script" 68) "java/lang/String") (by decide +kernel)
  · exact hg (Cond.exactly (.string "ColumnSeasons$Script" 70) "java/lang/String") (by decide +kernel)
theorem l_co {args : Array Value} {s : State} (hg : ∀ w ∈ flatC (Jvm.Cond.and given_1 narrow_1), w.before args s = true) : ∀ i : Nat, i < 8 → (Cond.eq (.field (.string "ColumnSeasons$Script" (xsk i)) "java/lang/String" "coder" "B") (.int 0)).before args s = true := by
  intro i hi
  rcases (show i = 0 ∨ i = 1 ∨ i = 2 ∨ i = 3 ∨ i = 4 ∨ i = 5 ∨ i = 6 ∨ i = 7 by omega) with rfl | rfl | rfl | rfl | rfl | rfl | rfl | rfl
  · exact hg (Cond.eq (.field (.string "ColumnSeasons$Script" 49) "java/lang/String" "coder" "B") (.int 0)) (by decide +kernel)
  · exact hg (Cond.eq (.field (.string "ColumnSeasons$Script" 97) "java/lang/String" "coder" "B") (.int 0)) (by decide +kernel)
  · exact hg (Cond.eq (.field (.string "ColumnSeasons$Script" 99) "java/lang/String" "coder" "B") (.int 0)) (by decide +kernel)
  · exact hg (Cond.eq (.field (.string "ColumnSeasons$Script" 101) "java/lang/String" "coder" "B") (.int 0)) (by decide +kernel)
  · exact hg (Cond.eq (.field (.string "ColumnSeasons$Script" 64) "java/lang/String" "coder" "B") (.int 0)) (by decide +kernel)
  · exact hg (Cond.eq (.field (.string "ColumnSeasons$Script" 66) "java/lang/String" "coder" "B") (.int 0)) (by decide +kernel)
  · exact hg (Cond.eq (.field (.string "ColumnSeasons$Script" 68) "java/lang/String" "coder" "B") (.int 0)) (by decide +kernel)
  · exact hg (Cond.eq (.field (.string "ColumnSeasons$Script" 70) "java/lang/String" "coder" "B") (.int 0)) (by decide +kernel)
theorem l_ar {args : Array Value} {s : State} (hg : ∀ w ∈ flatC (Jvm.Cond.and given_1 narrow_1), w.before args s = true) : ∀ i : Nat, i < 8 → (Cond.arrayOf (.field (.string "ColumnSeasons$Script" (xsk i)) "java/lang/String" "value" "[B") .byte).before args s = true := by
  intro i hi
  rcases (show i = 0 ∨ i = 1 ∨ i = 2 ∨ i = 3 ∨ i = 4 ∨ i = 5 ∨ i = 6 ∨ i = 7 by omega) with rfl | rfl | rfl | rfl | rfl | rfl | rfl | rfl
  · exact hg (Cond.arrayOf (.field (.string "ColumnSeasons$Script" 49) "java/lang/String" "value" "[B") .byte) (by decide +kernel)
  · exact hg (Cond.arrayOf (.field (.string "ColumnSeasons$Script" 97) "java/lang/String" "value" "[B") .byte) (by decide +kernel)
  · exact hg (Cond.arrayOf (.field (.string "ColumnSeasons$Script" 99) "java/lang/String" "value" "[B") .byte) (by decide +kernel)
  · exact hg (Cond.arrayOf (.field (.string "ColumnSeasons$Script" 101) "java/lang/String" "value" "[B") .byte) (by decide +kernel)
  · exact hg (Cond.arrayOf (.field (.string "ColumnSeasons$Script" 64) "java/lang/String" "value" "[B") .byte) (by decide +kernel)
  · exact hg (Cond.arrayOf (.field (.string "ColumnSeasons$Script" 66) "java/lang/String" "value" "[B") .byte) (by decide +kernel)
  · exact hg (Cond.arrayOf (.field (.string "ColumnSeasons$Script" 68) "java/lang/String" "value" "[B") .byte) (by decide +kernel)
  · exact hg (Cond.arrayOf (.field (.string "ColumnSeasons$Script" 70) "java/lang/String" "value" "[B") .byte) (by decide +kernel)
theorem l_le {args : Array Value} {s : State} (hg : ∀ w ∈ flatC (Jvm.Cond.and given_1 narrow_1), w.before args s = true) : ∀ i : Nat, i < 8 → (Cond.eq (.length (.field (.string "ColumnSeasons$Script" (xsk i)) "java/lang/String" "value" "[B")) (.int (Int32.ofNat (xlen.getD i 0)))).before args s = true := by
  intro i hi
  rcases (show i = 0 ∨ i = 1 ∨ i = 2 ∨ i = 3 ∨ i = 4 ∨ i = 5 ∨ i = 6 ∨ i = 7 by omega) with rfl | rfl | rfl | rfl | rfl | rfl | rfl | rfl
  · exact hg (Cond.eq (.length (.field (.string "ColumnSeasons$Script" 49) "java/lang/String" "value" "[B")) (.int 3)) (by decide +kernel)
  · exact hg (Cond.eq (.length (.field (.string "ColumnSeasons$Script" 97) "java/lang/String" "value" "[B")) (.int 4)) (by decide +kernel)
  · exact hg (Cond.eq (.length (.field (.string "ColumnSeasons$Script" 99) "java/lang/String" "value" "[B")) (.int 5)) (by decide +kernel)
  · exact hg (Cond.eq (.length (.field (.string "ColumnSeasons$Script" 101) "java/lang/String" "value" "[B")) (.int 6)) (by decide +kernel)
  · exact hg (Cond.eq (.length (.field (.string "ColumnSeasons$Script" 64) "java/lang/String" "value" "[B")) (.int 4)) (by decide +kernel)
  · exact hg (Cond.eq (.length (.field (.string "ColumnSeasons$Script" 66) "java/lang/String" "value" "[B")) (.int 4)) (by decide +kernel)
  · exact hg (Cond.eq (.length (.field (.string "ColumnSeasons$Script" 68) "java/lang/String" "value" "[B")) (.int 3)) (by decide +kernel)
  · exact hg (Cond.eq (.length (.field (.string "ColumnSeasons$Script" 70) "java/lang/String" "value" "[B")) (.int 3)) (by decide +kernel)
theorem l_el {args : Array Value} {s : State} (hg : ∀ w ∈ flatC (Jvm.Cond.and given_1 narrow_1), w.before args s = true) : ∀ i : Nat, i < 8 → ∀ j : Nat, j < xlen.getD i 0 → (Cond.eq (.elem (.field (.string "ColumnSeasons$Script" (xsk i)) "java/lang/String" "value" "[B") (.int (Int32.ofNat j))) (.int ((xbyt.getD i []).getD j 0))).before args s = true := by
  intro i hi
  rcases (show i = 0 ∨ i = 1 ∨ i = 2 ∨ i = 3 ∨ i = 4 ∨ i = 5 ∨ i = 6 ∨ i = 7 by omega) with rfl | rfl | rfl | rfl | rfl | rfl | rfl | rfl
  · intro j hj
    have hj : j < 3 := hj
    rcases (show j = 0 ∨ j = 1 ∨ j = 2 by omega) with rfl | rfl | rfl
    · exact hg (.eq (.elem (.field (.string "ColumnSeasons$Script" 49) "java/lang/String" "value" "[B") (.int 0)) (.int 97)) (by decide +kernel)
    · exact hg (.eq (.elem (.field (.string "ColumnSeasons$Script" 49) "java/lang/String" "value" "[B") (.int 1)) (.int 100)) (by decide +kernel)
    · exact hg (.eq (.elem (.field (.string "ColumnSeasons$Script" 49) "java/lang/String" "value" "[B") (.int 2)) (.int 100)) (by decide +kernel)
  · intro j hj
    have hj : j < 4 := hj
    rcases (show j = 0 ∨ j = 1 ∨ j = 2 ∨ j = 3 by omega) with rfl | rfl | rfl | rfl
    · exact hg (.eq (.elem (.field (.string "ColumnSeasons$Script" 97) "java/lang/String" "value" "[B") (.int 0)) (.int 102)) (by decide +kernel)
    · exact hg (.eq (.elem (.field (.string "ColumnSeasons$Script" 97) "java/lang/String" "value" "[B") (.int 1)) (.int 108)) (by decide +kernel)
    · exact hg (.eq (.elem (.field (.string "ColumnSeasons$Script" 97) "java/lang/String" "value" "[B") (.int 2)) (.int 97)) (by decide +kernel)
    · exact hg (.eq (.elem (.field (.string "ColumnSeasons$Script" 97) "java/lang/String" "value" "[B") (.int 3)) (.int 103)) (by decide +kernel)
  · intro j hj
    have hj : j < 5 := hj
    rcases (show j = 0 ∨ j = 1 ∨ j = 2 ∨ j = 3 ∨ j = 4 by omega) with rfl | rfl | rfl | rfl | rfl
    · exact hg (.eq (.elem (.field (.string "ColumnSeasons$Script" 99) "java/lang/String" "value" "[B") (.int 0)) (.int 100)) (by decide +kernel)
    · exact hg (.eq (.elem (.field (.string "ColumnSeasons$Script" 99) "java/lang/String" "value" "[B") (.int 1)) (.int 105)) (by decide +kernel)
    · exact hg (.eq (.elem (.field (.string "ColumnSeasons$Script" 99) "java/lang/String" "value" "[B") (.int 2)) (.int 103)) (by decide +kernel)
    · exact hg (.eq (.elem (.field (.string "ColumnSeasons$Script" 99) "java/lang/String" "value" "[B") (.int 3)) (.int 105)) (by decide +kernel)
    · exact hg (.eq (.elem (.field (.string "ColumnSeasons$Script" 99) "java/lang/String" "value" "[B") (.int 4)) (.int 116)) (by decide +kernel)
  · intro j hj
    have hj : j < 6 := hj
    rcases (show j = 0 ∨ j = 1 ∨ j = 2 ∨ j = 3 ∨ j = 4 ∨ j = 5 by omega) with rfl | rfl | rfl | rfl | rfl | rfl
    · exact hg (.eq (.elem (.field (.string "ColumnSeasons$Script" 101) "java/lang/String" "value" "[B") (.int 0)) (.int 110)) (by decide +kernel)
    · exact hg (.eq (.elem (.field (.string "ColumnSeasons$Script" 101) "java/lang/String" "value" "[B") (.int 1)) (.int 117)) (by decide +kernel)
    · exact hg (.eq (.elem (.field (.string "ColumnSeasons$Script" 101) "java/lang/String" "value" "[B") (.int 2)) (.int 109)) (by decide +kernel)
    · exact hg (.eq (.elem (.field (.string "ColumnSeasons$Script" 101) "java/lang/String" "value" "[B") (.int 3)) (.int 98)) (by decide +kernel)
    · exact hg (.eq (.elem (.field (.string "ColumnSeasons$Script" 101) "java/lang/String" "value" "[B") (.int 4)) (.int 101)) (by decide +kernel)
    · exact hg (.eq (.elem (.field (.string "ColumnSeasons$Script" 101) "java/lang/String" "value" "[B") (.int 5)) (.int 114)) (by decide +kernel)
  · intro j hj
    have hj : j < 4 := hj
    rcases (show j = 0 ∨ j = 1 ∨ j = 2 ∨ j = 3 by omega) with rfl | rfl | rfl | rfl
    · exact hg (.eq (.elem (.field (.string "ColumnSeasons$Script" 64) "java/lang/String" "value" "[B") (.int 0)) (.int 100)) (by decide +kernel)
    · exact hg (.eq (.elem (.field (.string "ColumnSeasons$Script" 64) "java/lang/String" "value" "[B") (.int 1)) (.int 114)) (by decide +kernel)
    · exact hg (.eq (.elem (.field (.string "ColumnSeasons$Script" 64) "java/lang/String" "value" "[B") (.int 2)) (.int 111)) (by decide +kernel)
    · exact hg (.eq (.elem (.field (.string "ColumnSeasons$Script" 64) "java/lang/String" "value" "[B") (.int 3)) (.int 112)) (by decide +kernel)
  · intro j hj
    have hj : j < 4 := hj
    rcases (show j = 0 ∨ j = 1 ∨ j = 2 ∨ j = 3 by omega) with rfl | rfl | rfl | rfl
    · exact hg (.eq (.elem (.field (.string "ColumnSeasons$Script" 66) "java/lang/String" "value" "[B") (.int 0)) (.int 107)) (by decide +kernel)
    · exact hg (.eq (.elem (.field (.string "ColumnSeasons$Script" 66) "java/lang/String" "value" "[B") (.int 1)) (.int 105)) (by decide +kernel)
    · exact hg (.eq (.elem (.field (.string "ColumnSeasons$Script" 66) "java/lang/String" "value" "[B") (.int 2)) (.int 110)) (by decide +kernel)
    · exact hg (.eq (.elem (.field (.string "ColumnSeasons$Script" 66) "java/lang/String" "value" "[B") (.int 3)) (.int 100)) (by decide +kernel)
  · intro j hj
    have hj : j < 3 := hj
    rcases (show j = 0 ∨ j = 1 ∨ j = 2 by omega) with rfl | rfl | rfl
    · exact hg (.eq (.elem (.field (.string "ColumnSeasons$Script" 68) "java/lang/String" "value" "[B") (.int 0)) (.int 114)) (by decide +kernel)
    · exact hg (.eq (.elem (.field (.string "ColumnSeasons$Script" 68) "java/lang/String" "value" "[B") (.int 1)) (.int 111)) (by decide +kernel)
    · exact hg (.eq (.elem (.field (.string "ColumnSeasons$Script" 68) "java/lang/String" "value" "[B") (.int 2)) (.int 119)) (by decide +kernel)
  · intro j hj
    have hj : j < 3 := hj
    rcases (show j = 0 ∨ j = 1 ∨ j = 2 by omega) with rfl | rfl | rfl
    · exact hg (.eq (.elem (.field (.string "ColumnSeasons$Script" 70) "java/lang/String" "value" "[B") (.int 0)) (.int 115)) (by decide +kernel)
    · exact hg (.eq (.elem (.field (.string "ColumnSeasons$Script" 70) "java/lang/String" "value" "[B") (.int 1)) (.int 101)) (by decide +kernel)
    · exact hg (.eq (.elem (.field (.string "ColumnSeasons$Script" 70) "java/lang/String" "value" "[B") (.int 2)) (.int 116)) (by decide +kernel)
theorem l_ref {args : Array Value} {s : State} (hts : ∀ w ∈ tables_1, w.before args s = true) : ∀ i : Nat, i < 8 → (Cond.stringRef "ColumnSeasons$Script" (xsk i) (xst i)).before args s = true := by
  intro i hi
  rcases (show i = 0 ∨ i = 1 ∨ i = 2 ∨ i = 3 ∨ i = 4 ∨ i = 5 ∨ i = 6 ∨ i = 7 by omega) with rfl | rfl | rfl | rfl | rfl | rfl | rfl | rfl
  · exact hts (.stringRef "ColumnSeasons$Script" 49 "add") (List.mem_of_getElem? (i := 344) (by decide +kernel))
  · exact hts (.stringRef "ColumnSeasons$Script" 97 "flag") (List.mem_of_getElem? (i := 420) (by decide +kernel))
  · exact hts (.stringRef "ColumnSeasons$Script" 99 "digit") (List.mem_of_getElem? (i := 421) (by decide +kernel))
  · exact hts (.stringRef "ColumnSeasons$Script" 101 "number") (List.mem_of_getElem? (i := 422) (by decide +kernel))
  · exact hts (.stringRef "ColumnSeasons$Script" 64 "drop") (List.mem_of_getElem? (i := 429) (by decide +kernel))
  · exact hts (.stringRef "ColumnSeasons$Script" 66 "kind") (List.mem_of_getElem? (i := 430) (by decide +kernel))
  · exact hts (.stringRef "ColumnSeasons$Script" 68 "row") (List.mem_of_getElem? (i := 431) (by decide +kernel))
  · exact hts (.stringRef "ColumnSeasons$Script" 70 "set") (List.mem_of_getElem? (i := 432) (by decide +kernel))
theorem l_Z {args : Array Value} {s : State} (hts : ∀ w ∈ tables_1, w.before args s = true) (hg : ∀ w ∈ flatC (Jvm.Cond.and given_1 narrow_1), w.before args s = true) : ∃ gK gV : Nat → Nat, ∀ (D : va_G) (adr : Nat → Nat) (I : Nat → ClassId), xZ (D, adr, I, gK, gV) (lA s) s s.heap := by
  have hA : ∀ a : Nat, a < s.heap.size → ¬ lA s a := fun a h => Nat.not_le.mpr h
  obtain ⟨gK, gV, h1, h2⟩ := vk_Sof (args := args) (s := s) (N := 8) (tm := fun i => .string "ColumnSeasons$Script" (xsk i)) (len := xlen) (byt := xbyt) (A := lA s) (fun i hi => by rcases (show i = 0 ∨ i = 1 ∨ i = 2 ∨ i = 3 ∨ i = 4 ∨ i = 5 ∨ i = 6 ∨ i = 7 by omega) with rfl | rfl | rfl | rfl | rfl | rfl | rfl | rfl <;> decide) (l_ex hg) (l_co hg) (l_ar hg) (l_le hg) (l_el hg) (l_ne hg) hA
  refine ⟨gK, gV, fun D adr I => ⟨l_nest hts, fun i hi => vk_R.of (l_ref hts i hi) (h2 i hi), h1, ?_, ?_⟩⟩
  · exact va_Zof (hts (.laysStatic "java/lang/String" "COMPACT_STRINGS" "Z") (List.mem_of_getElem? (i := 358) (by decide +kernel))) (hts (.initialized "java/lang/String") (List.mem_of_getElem? (i := 10) (by decide +kernel))) (va_eqi (hg (.eq (.static "java/lang/String" "COMPACT_STRINGS" "Z") (.int 1)) (by decide +kernel))) hA
  · exact va_Zqof (hts (.laysStatic "jdk/internal/util/Preconditions" "SIOOBE_FORMATTER" "Ljava/util/function/BiFunction;") (List.mem_of_getElem? (i := 374) (by decide +kernel))) (hts (.initialized "jdk/internal/util/Preconditions") (List.mem_of_getElem? (i := 12) (by decide +kernel))) (hg (.isRef (.static "jdk/internal/util/Preconditions" "SIOOBE_FORMATTER" "Ljava/util/function/BiFunction;")) (by decide +kernel)) hA
