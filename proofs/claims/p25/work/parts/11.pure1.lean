theorem s_X0_spendQuota_1 (u : SX) (p : Int32) : (s_X0_spendQuota u p).1 = u.1 := lf_X0_spendQuota_2 u p _
theorem s_X0_deliver_1 (u : SX) (p q : Int32) (k : Nat) (hk : k ≠ 18) : (s_X0_deliver u p q).1 k = u.1 k := by
  unfold s_X0_deliver
  split
  · simp [pF, pG, upd, hk]
  · rw [s_X0_spendQuota_1]
    simp [pF, pG, upd, hk]
theorem lf_X0_deliverNow_12 (u : SX) (k j : Nat) (hj : j ≠ 18) : (l_X0_deliverNow_12 u k).1 j = u.1 j := by
  induction k with
  | zero => rfl
  | succ k ih =>
    show (b_X0_deliverNow_12 u k (l_X0_deliverNow_12 u k)).1 j = _
    unfold b_X0_deliverNow_12
    split
    · exact ih
    · split
      · rw [s_X0_deliver_1 _ _ _ _ hj]; exact ih
      · rw [s_X0_deliver_1 _ _ _ _ hj]; exact ih
theorem lf16_X0_deliverNow_12 (u : SX) (k : Nat) : (l_X0_deliverNow_12 u k).1 16 = u.1 16 := lf_X0_deliverNow_12 u k 16 (by decide)
theorem lf10_X0_deliverNow_12 (u : SX) (k : Nat) : (l_X0_deliverNow_12 u k).1 10 = u.1 10 := lf_X0_deliverNow_12 u k 10 (by decide)
theorem lf_X0_kill_47 (u : SX) (p : Int32) (k : Nat) : (l_X0_kill_47 u p k).1 16 = u.1 16 := by
  induction k with
  | zero => rfl
  | succ k ih => exact ih
theorem s_X0_replaceKey_1 (u : SX) (p q : Int32) : (s_X0_replaceKey u p q).1 = u.1 := by
  unfold s_X0_replaceKey
  split
  · rfl
  · split <;> rfl
theorem zix_lt {x : Int32} {n : Nat} (h : vp_in x n) (hn : n < 2 ^ 31) : ix x < n := by
  obtain ⟨j, hj, rfl⟩ := vp_in_of h hn
  rw [ix, nI_clamp (by omega)]; exact hj
theorem zplace {p q : Int32} (hp : vp_in p 8) (hq : vp_in q 10) : vp_in (r_X0_placeOf p q) 80 := by
  obtain ⟨i, hi, rfl⟩ := vp_in_of hp (by omega)
  obtain ⟨j, hj, rfl⟩ := vp_in_of hq (by omega)
  have e : r_X0_placeOf (nI i) (nI j) = nI (i * 10 + j) := by
    unfold r_X0_placeOf
    rw [show (10 : Int32) = nI 10 from rfl, pk_mul, nI_add]
  rw [e]
  exact vp_in_nI (by omega) (by omega)
theorem zplaceW {p q : Int32} (hp : e_X0_requireWithin p 0 7 = 0) (hq : e_X0_requireWithin q 0 9 = 0) : vp_in (r_X0_placeOf p q) 80 := zplace (zwithin hp rfl ⟨rfl, by decide, by decide⟩) (zwithin hq rfl ⟨rfl, by decide, by decide⟩)
theorem zlk {u : SX} {p q : Int32} (hlk : ∀ i : Nat, i < 80 → (u.2 15 i) = (-1) ∨ vp_in (u.2 15 i) 120) (h : vp_in (r_X0_placeOf p q) 80) : (u.2 15 (ix (r_X0_placeOf p q))) = (-1) ∨ vp_in (u.2 15 (ix (r_X0_placeOf p q))) 120 := hlk _ (zix_lt h (by omega))
theorem zwithin1 {p lo hi : Int32} (h : e_X0_requireWithin p lo hi = 0) : p < lo → False := by
  intro q
  rw [e_X0_requireWithin, if_pos q] at h
  cases h
theorem zroom0 {u : SX} {nn : Nat} (hnn : u.1 16 = nI nn) (hn : nn ≤ 120) (h : e_X0_requireRoomForNotice u = 0) : nn < 120 := by
  unfold e_X0_requireRoomForNotice at h
  split at h
  · rename_i q
    rw [hnn] at q
    exact (nI_ltI (b := 120) (by omega) (by omega)).mp q
  · cases h
theorem zroomD2 {u : SX} {nd : Nat} (hnd : u.1 10 = nI nd) (hd : nd ≤ 16) (h : u.1 10 < 16) : vp_in (u.1 10) 16 := by
  rw [hnd] at h ⊢
  exact vp_in_nI ((nI_ltI (b := 16) (by omega) (by omega)).mp h) (by omega)
theorem z01_X0_has (u p : Int32) : r_X0_has u p = 0 ∨ r_X0_has u p = 1 := by
  unfold r_X0_has; split <;> simp
