theorem sAdd_in {T : Tb} {j : Nat} {k d : Int32} (hj : j < 8) (hk : xin k 3) (hd : okv d k) : sAdd T (nI j) k d = aAdd T j k d := by
  unfold sAdd aAdd
  rw [if_pos (xin_nI hj (by omega)), if_pos ⟨hk, hd⟩, ix_nI (by omega)]
theorem sDrop_in {T : Tb} {j : Nat} (hj : j < 8) : sDrop T (nI j) = aDrop T j := by
  unfold sDrop aDrop
  rw [ix_nI (by omega)]
  by_cases q : ¬ tk T (tn T - 1) j = -1
  · rw [if_pos ⟨xin_nI hj (by omega), q⟩, if_pos q]
  · rw [if_neg (fun z => q z.2), if_neg q]
theorem sKind_in {T : Tb} {j : Nat} {k : Int32} (hj : j < 8) (hk : xin k 3) : sKind T (nI j) k = aKind T j k := by
  unfold sKind aKind
  rw [ix_nI (by omega)]
  by_cases q : ¬ tk T (tn T - 1) j = -1
  · rw [if_pos ⟨xin_nI hj (by omega), q⟩, if_pos q, if_pos hk]
  · rw [if_neg (fun z => q z.2), if_neg q]
theorem psN_le {G : Nat → Nat} {ln : Nat} : ∀ i : Nat, i ≤ tcN G ln → psN G ln i ≤ ln := by
  intro i
  induction i with
  | zero => intro _; exact Nat.zero_le _
  | succ i hi => intro h; exact (cnT_all 21 0 i (Nat.zero_le _) h).2.1
theorem atT_le {G : Nat → Nat} {ln : Nat} : atT G ln ≤ ln := (cmP_b (psN_le _ (Nat.le_refl _))).2.1
theorem nI_ne1 {n : Nat} (h : n < 2 ^ 31) : ¬ nI n = -1 := fun z => by
  have h1 := nI_toInt h
  rw [z, show (-1 : Int32).toInt = -1 by decide] at h1
  omega
