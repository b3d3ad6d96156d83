theorem l_cls {args : Array Value} {s : State} (hl : ∀ w ∈ wsL_law, w.before args s = true) (hts : ∀ w ∈ tables_1, w.before args s = true) : ∃ D : va_G, ∀ (k : Nat) (q : vw_C), vwCl[k]? = some q → u_Kn s q.1 q.2.1 q.2.2 (D.1 k) (D.2 k) := by
  obtain ⟨c0, g0, u0⟩ := u_known (C := RX0) (T := TX0) (N := 5) (n := 5) hl inlX0 (hts (.instantiable RX0 5) (List.mem_of_getElem? (i := 76) (by decide +kernel)))
  obtain ⟨c1, g1, u1⟩ := u_known (C := RX1) (T := TX1) (N := 3) (n := 3) hl inlX1 (hts (.instantiable RX1 3) (List.mem_of_getElem? (i := 49) (by decide +kernel)))
  obtain ⟨c2, g2, u2⟩ := u_known (C := RX2) (T := TX2) (N := 6) (n := 6) hl inlX2 (hts (.instantiable RX2 6) (List.mem_of_getElem? (i := 69) (by decide +kernel)))
  obtain ⟨c3, g3, u3⟩ := u_known (C := RX3) (T := TX3) (N := 6) (n := 6) hl inlX3 (hts (.instantiable RX3 6) (List.mem_of_getElem? (i := 19) (by decide +kernel)))
  obtain ⟨c4, g4, u4⟩ := u_known (C := RX4) (T := TX4) (N := 7) (n := 7) hl inlX4 (hts (.instantiable RX4 7) (List.mem_of_getElem? (i := 11) (by decide +kernel)))
  refine ⟨(fun k => match k with | 0 => c0 | 1 => c1 | 2 => c2 | 3 => c3 | _ => c4, fun k => match k with | 0 => g0 | 1 => g1 | 2 => g2 | 3 => g3 | _ => g4), fun k q hq => ?_⟩
  match k, hq with
  | 0, hq => cases hq; exact u0
  | 1, hq => cases hq; exact u1
  | 2, hq => cases hq; exact u2
  | 3, hq => cases hq; exact u3
  | 4, hq => cases hq; exact u4
  | k + 5, hq => simp [vwCl] at hq
theorem l_K {args : Array Value} {s : State} (hl : ∀ w ∈ wsL_law, w.before args s = true) (hts : ∀ w ∈ tables_1, w.before args s = true) : ∃ (D : va_G) (I : Nat → ClassId), zK D I s := by
  obtain ⟨D, hD⟩ := l_cls hl hts
  obtain ⟨i0, p0, q0⟩ := z_int (hts (.arrayClass .char) (List.mem_of_getElem? (i := 97) (by decide +kernel)))
  obtain ⟨i1, p1, q1⟩ := z_int (hts (.arrayClass .int) (List.mem_of_getElem? (i := 47) (by decide +kernel)))
  have o2 := hts (.arrayOver (.object RX0)) (List.mem_of_getElem? (i := 75) (by decide +kernel))
  have o3 := hts (.arrayOver (.object RX3)) (List.mem_of_getElem? (i := 55) (by decide +kernel))
  obtain ⟨i2, p2, q2⟩ := z_obj o2
  obtain ⟨i3, p3, q3⟩ := z_obj o3
  refine ⟨D, (fun k => match k with | 0 => i0 | 1 => i1 | 2 => i2 | _ => i3), ⟨hD, fun k q hq => ?_⟩, va_AO.of o2, va_AO.of o3⟩
  match k, hq with
  | 0, hq => cases hq; exact ⟨p0, q0⟩
  | 1, hq => cases hq; exact ⟨p1, q1⟩
  | 2, hq => cases hq; exact ⟨p2, q2⟩
  | 3, hq => cases hq; exact ⟨p3, q3⟩
  | k + 4, hq => simp [zty] at hq
set_option maxRecDepth 20000 in
theorem l_nest_in : ∀ w ∈ xnest, w ∈ tables_1 := memP [31, 60, 100, 397, 398, 401, 217, 187, 317] (by decide +kernel)
theorem l_nest {args : Array Value} {s : State} (hts : ∀ w ∈ tables_1, w.before args s = true) : ∀ w ∈ xnest, va_Nw w s := by
  intro w hw
  have h1 := hts w (l_nest_in w hw)
  rcases xnest_form w hw with ⟨a, i, x, hh, rfl⟩ | ⟨a, i, b, n, d, hh, rfl⟩
  · exact va_Nw.of rfl h1
  · exact va_Nw.of rfl h1
