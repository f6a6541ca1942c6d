theorem zwithin {p lo hi : Int32} {N : Nat} (h : e_X0_requireWithin p lo hi = 0) (hlo : lo = 0) (hN : hi = nI (N - 1) ∧ 0 < N ∧ N < 1000) : vp_in p N := by
  obtain ⟨rfl, h0, h1⟩ := hN
  subst hlo
  unfold e_X0_requireWithin at h
  rw [vp_in_iff]
  split at h
  · cases h
  · rename_i q
    split at h
    · rename_i q2
      have e := Int32.le_iff_toInt_le.mp q2
      rw [nI_toInt (by omega)] at e
      have e2 : ¬ p.toInt < (0 : Int32).toInt := fun z => q (Int32.lt_iff_toInt_lt.mpr z)
      have e3 : (0 : Int32).toInt = 0 := rfl
      omega
    · cases h
theorem zlt_in {p : Int32} {n N : Nat} (h0 : ¬ p < 0) (h1 : p < nI n) (hn : n ≤ N) (hN : N < 1000) : vp_in p N := by
  rw [vp_in_iff]
  have e := Int32.lt_iff_toInt_lt.mp h1
  rw [nI_toInt (by omega)] at e
  have e2 : ¬ p.toInt < (0 : Int32).toInt := fun z => h0 (Int32.lt_iff_toInt_lt.mpr z)
  have e3 : (0 : Int32).toInt = 0 := rfl
  omega
theorem zdev {u : SX} {p : Int32} {nd : Nat} (hnd : u.1 10 = nI nd) (hd : nd ≤ 16) (h : e_X0_requireDevice u p = 0) : vp_in p 16 := by
  unfold e_X0_requireDevice at h
  split at h
  · cases h
  · rename_i q
    split at h
    · rename_i q2
      exact zlt_in q (by rw [← hnd]; exact q2) hd (by omega)
    · cases h
theorem znot {u : SX} {p : Int32} {nn : Nat} (hnn : u.1 16 = nI nn) (hn : nn ≤ 120) (h : e_X0_requireNotice u p = 0) : vp_in p 120 := by
  unfold e_X0_requireNotice at h
  split at h
  · cases h
  · rename_i q
    split at h
    · rename_i q2
      exact zlt_in q (by rw [← hnn]; exact q2) hn (by omega)
    · cases h
theorem znar01 {r : Int32} (h : r = 0 ∨ r = 1) : narrow .boolean (.int r) = .int r := by
  rcases h with rfl | rfl <;> rfl
theorem z01_X0_isInQuietHours (u : SX) (p : Int32) : r_X0_isInQuietHours u p = 0 ∨ r_X0_isInQuietHours u p = 1 := by
  unfold r_X0_isInQuietHours; split <;> simp
theorem z01_X0_isStanding (u : SX) (p : Int32) : r_X0_isStanding u p = 0 ∨ r_X0_isStanding u p = 1 := by
  unfold r_X0_isStanding; split <;> simp
theorem lf_X0_spendQuota_2 (u : SX) (p : Int32) (k : Nat) : (l_X0_spendQuota_2 u p k).1 = u.1 := by
  induction k with
  | zero => rfl
  | succ k ih =>
    show (b_X0_spendQuota_2 u p k (l_X0_spendQuota_2 u p k)).1 = _
    unfold b_X0_spendQuota_2
    split
    · exact ih
    · exact ih
theorem zroomN {u : SX} {nn : Nat} (hnn : u.1 16 = nI nn) (hlt : nn < 120) : vp_in (u.1 16) 120 := by
  rw [hnn]; exact vp_in_nI hlt (by omega)
theorem zroomD {u : SX} {nd : Nat} (hnd : u.1 10 = nI nd) (hd : nd ≤ 16) (h : ¬ 16 ≤ u.1 10) : vp_in (u.1 10) 16 := by
  rw [hnd] at h ⊢
  refine vp_in_nI ?_ (by omega)
  rcases Nat.lt_or_ge nd 16 with q | q
  · exact q
  · exact absurd (nI_le (a := 16) q (by omega)) h
