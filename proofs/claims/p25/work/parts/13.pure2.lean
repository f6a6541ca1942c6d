theorem zmin0 {p : Int32} (h : ¬ p < 1) : p = nI (ix p) := by
  have e1 : ¬ p.toInt < (1 : Int32).toInt := fun z => h (Int32.lt_iff_toInt_lt.mpr z)
  have e2 : (1 : Int32).toInt = 1 := rfl
  have e3 : ¬ p < 0 := fun z => by
    have := Int32.lt_iff_toInt_lt.mp z
    have e4 : (0 : Int32).toInt = 0 := rfl
    omega
  obtain ⟨j, hj, rfl⟩ := nI_of e3
  rw [ix, nI_clamp (by omega)]
theorem zminX {p : Int32} (h : e_X0_requireWithin p 1 3000 = 0) : p = nI (ix p) := zmin0 (fun q => zwithin1 h q)
theorem s_X0_deliverNow_1 (u : SX) (j : Nat) (hj : j ≠ 18) : (s_X0_deliverNow u).1 j = u.1 j := lf_X0_deliverNow_12 u _ j hj
theorem lf_X0_pass_41 (u : SX) (p : Int32) (k j : Nat) (h1 : j ≠ 17) (h2 : j ≠ 18) : (l_X0_pass_41 u p k).1.1 j = u.1 j := by
  induction k with
  | zero => rfl
  | succ k ih =>
    show (b_X0_pass_41 u p k (l_X0_pass_41 u p k)).1.1 j = _
    unfold b_X0_pass_41
    split
    · exact ih
    · show (s_X0_deliverNow _).1 j = _
      rw [s_X0_deliverNow_1 _ _ h2]
      simp only [pF, upd, if_neg h1]
      exact ih
theorem lf16_X0_pass_41 (u : SX) (p : Int32) (k : Nat) : (l_X0_pass_41 u p k).1.1 16 = u.1 16 := lf_X0_pass_41 u p k 16 (by decide) (by decide)
theorem lf10_X0_pass_41 (u : SX) (p : Int32) (k : Nat) : (l_X0_pass_41 u p k).1.1 10 = u.1 10 := lf_X0_pass_41 u p k 10 (by decide) (by decide)
theorem st_X0_pass_41 (u : SX) (p : Int32) (k N : Nat) (hk : k ≤ N) (h : ((u.1 17) + p) ≤ ((l_X0_pass_41 u p k).1.1 17)) : l_X0_pass_41 u p N = l_X0_pass_41 u p k := by
  obtain ⟨d, rfl⟩ : ∃ d, N = k + d := ⟨N - k, by omega⟩
  clear hk
  induction d with
  | zero => rfl
  | succ d ih =>
    show b_X0_pass_41 u p (k + d) (l_X0_pass_41 u p (k + d)) = _
    rw [ih]
    unfold b_X0_pass_41
    rw [if_pos h]
theorem zixlt (p : Int32) : ix p < 2 ^ 31 := by
  have h := Int32.toInt_lt p
  show p.toInt.toNat < _
  omega
theorem zmle {p : Int32} (h : p = nI (ix p)) : p ≤ nI (ix p) := by
  have z : nI (ix p) ≤ nI (ix p) := nI_le (Nat.le_refl _) (zixlt p)
  rw [← h] at z
  rw [← h]; exact z
theorem zmge {p : Int32} (h : p = nI (ix p)) {k : Nat} (hk : k < ix p) : ¬ p ≤ nI k := by
  have z := nI_ge hk (zixlt p)
  rw [← h] at z
  exact z
