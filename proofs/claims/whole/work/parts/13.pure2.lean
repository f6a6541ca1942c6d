theorem znin {p lo hi : Int32} (h : ¬ r_X1_in p lo hi = 0) : ¬ p < lo ∧ ¬ hi < p := by
  unfold r_X1_in at h
  split at h
  · exact absurd rfl h
  · split at h
    · exact absurd rfl h
    · rename_i a b; exact ⟨a, b⟩
theorem zmin0 {p : Int32} (h : ¬ p < 1) : p = nI (ix p) := by
  have e1 : ¬ p.toInt < (1 : Int32).toInt := fun z => h (Int32.lt_iff_toInt_lt.mpr z)
  have e2 : (1 : Int32).toInt = 1 := rfl
  have e3 : ¬ p < 0 := fun z => by
    have := Int32.lt_iff_toInt_lt.mp z
    have e4 : (0 : Int32).toInt = 0 := rfl
    omega
  obtain ⟨j, hj, rfl⟩ := nI_of e3
  rw [ix, nI_clamp (by omega)]
theorem zmin {p : Int32} (h : ¬ r_X1_in p 1 3000 = 0) : p = nI (ix p) := zmin0 (znin h).1
theorem zminX {p : Int32} (h : e_X0_requireWithin p 1 3000 = 0) : p = nI (ix p) := zmin0 (fun q => zwithin1 h q)
theorem zin_lt {p : Int32} {n N : Nat} (h0 : ¬ p < 0) (h1 : ¬ (nI n - 1) < p) (hn : n ≤ N) (hN : N < 1000) : vp_in p N := by
  obtain ⟨j, hj, rfl⟩ := nI_of h0
  refine vp_in_nI ?_ (by omega)
  rcases Nat.lt_or_ge j N with q | q
  · exact q
  · exfalso
    apply h1
    rcases n with _ | n
    · rw [show nI 0 - 1 = (-1 : Int32) from rfl, Int32.lt_iff_toInt_lt, nI_toInt hj]
      have : (-1 : Int32).toInt = -1 := rfl
      omega
    · rw [nI_pred]
      exact nI_lt (by omega) hj
theorem zmdev {u : SX} {p : Int32} {nd : Nat} (hnd : u.1 2 = nI nd) (hd : nd ≤ 16) (h : ¬ r_X1_isDevice u p = 0) : vp_in p 16 := by
  have z := znin h
  rw [hnd] at z
  exact zin_lt z.1 z.2 hd (by omega)
theorem zmnot {u : SX} {p : Int32} {nn : Nat} (hnn : u.1 13 = nI nn) (hn : nn ≤ 120) (h : ¬ r_X1_isNotice u p = 0) : vp_in p 120 := by
  have z := znin h
  rw [hnn] at z
  exact zin_lt z.1 z.2 hn (by omega)
theorem zmnot2 {u : SX} {p : Int32} {nn : Nat} (hnn : u.1 13 = nI nn) (hn : nn ≤ 120) (h : r_X1_noNotice u p = 0) : vp_in p 120 := by
  unfold r_X1_noNotice at h
  split at h
  · exact absurd h (by decide)
  · rename_i q
    exact zmnot hnn hn q
theorem zroomM {u : SX} {nn : Nat} (hnn : u.1 13 = nI nn) (hlt : nn < 120) : vp_in (u.1 13) 120 := by
  rw [hnn]; exact vp_in_nI hlt (by omega)
theorem zroomQ {u : SX} {nn : Nat} (hnn : u.1 13 = nI nn) (hn : nn ≤ 120) (h : ¬ u.1 13 = 120) : nn < 120 := by
  rw [hnn] at h
  rcases Nat.lt_or_ge nn 120 with q | q
  · exact q
  · have : nn = 120 := by omega
    subst this
    exact absurd rfl h
theorem zroomE {u : SX} {nd : Nat} (hnd : u.1 2 = nI nd) (hd : nd ≤ 16) (h : ¬ u.1 2 = 16) : vp_in (u.1 2) 16 := by
  rw [hnd] at h ⊢
  refine vp_in_nI ?_ (by omega)
  rcases Nat.lt_or_ge nd 16 with q | q
  · exact q
  · have : nd = 16 := by omega
    subst this
    exact absurd rfl h
theorem z01_X1_in (p lo hi : Int32) : r_X1_in p lo hi = 0 ∨ r_X1_in p lo hi = 1 := by
  unfold r_X1_in; split
  · simp
  · split <;> simp
theorem s_X1_deliver_1 (u : SX) (p q : Int32) (k : Nat) (hk : k ≠ 21) : (s_X1_deliver u p q).1 k = u.1 k := by
  unfold s_X1_deliver
  split
  · simp [pF, pG, upd, hk]
  · split <;> simp [pF, pG, upd, hk]
theorem lf_X1_look_17 (u : SX) (k7 : Nat) (x7 : SX) (k j : Nat) (hj : j ≠ 21) : (l_X1_look_17 u k7 x7 k).1 j = x7.1 j := by
  induction k with
  | zero => rfl
  | succ k ih =>
    show (b_X1_look_17 u k7 x7 k (l_X1_look_17 u k7 x7 k)).1 j = _
    unfold b_X1_look_17
    split
    · split
      · exact ih
      · rw [s_X1_deliver_1 _ _ _ _ hj]; exact ih
    · exact ih
theorem lf13_X1_look_17 (u : SX) (k7 : Nat) (x7 : SX) (k : Nat) : (l_X1_look_17 u k7 x7 k).1 13 = x7.1 13 := lf_X1_look_17 u k7 x7 k 13 (by decide)
theorem lf_X1_look_7 (u : SX) (k j : Nat) (hj : j ≠ 21) : (l_X1_look_7 u k).1 j = u.1 j := by
  induction k with
  | zero => rfl
  | succ k ih =>
    show (b_X1_look_7 u k (l_X1_look_7 u k)).1 j = _
    unfold b_X1_look_7
    rw [lf_X1_look_17 _ _ _ _ _ hj]; exact ih
theorem lf13_X1_look_7 (u : SX) (k : Nat) : (l_X1_look_7 u k).1 13 = u.1 13 := lf_X1_look_7 u k 13 (by decide)
theorem lf2_X1_look_7 (u : SX) (k : Nat) : (l_X1_look_7 u k).1 2 = u.1 2 := lf_X1_look_7 u k 2 (by decide)
theorem s_X1_look_1 (u : SX) (j : Nat) (hj : j ≠ 21) : (s_X1_look u).1 j = u.1 j := lf_X1_look_7 u _ j hj
theorem lf_X1_kill_50 (u : SX) (p : Int32) (k : Nat) : (l_X1_kill_50 u p k).1 13 = u.1 13 := by
  induction k with
  | zero => rfl
  | succ k ih => exact ih
theorem lf_X1_pass_62 (u : SX) (p : Int32) (k44 : Nat) (x44 : SX × Int32) (k j : Nat) (hj : j ≠ 1) : (l_X1_pass_62 u p k44 x44 k).1 j = x44.1.1 j := by
  induction k with
  | zero => simp [l_X1_pass_62, pF, upd, hj]
  | succ k ih =>
    show (b_X1_pass_62 u p k44 x44 k (l_X1_pass_62 u p k44 x44 k)).1 j = _
    unfold b_X1_pass_62
    split
    · split
      · exact ih
      · exact ih
    · exact ih
theorem lf13_X1_pass_62 (u : SX) (p : Int32) (k44 : Nat) (x44 : SX × Int32) (k : Nat) : (l_X1_pass_62 u p k44 x44 k).1 13 = x44.1.1 13 := lf_X1_pass_62 u p k44 x44 k 13 (by decide)
theorem lf2_X1_pass_62 (u : SX) (p : Int32) (k44 : Nat) (x44 : SX × Int32) (k : Nat) : (l_X1_pass_62 u p k44 x44 k).1 2 = x44.1.1 2 := lf_X1_pass_62 u p k44 x44 k 2 (by decide)
theorem lf_X1_pass_44 (u : SX) (p : Int32) (k j : Nat) (h0 : j ≠ 0) (h1 : j ≠ 1) (h2 : j ≠ 21) : (l_X1_pass_44 u p k).1.1 j = u.1 j := by
  induction k with
  | zero => simp [l_X1_pass_44, pF, upd, h0]
  | succ k ih =>
    show (b_X1_pass_44 u p k (l_X1_pass_44 u p k)).1.1 j = _
    unfold b_X1_pass_44
    show (s_X1_look _).1 j = _
    rw [s_X1_look_1 _ _ h2, lf_X1_pass_62 _ _ _ _ _ _ h1]; exact ih
theorem lf13_X1_pass_44 (u : SX) (p : Int32) (k : Nat) : (l_X1_pass_44 u p k).1.1 13 = u.1 13 := lf_X1_pass_44 u p k 13 (by decide) (by decide) (by decide)
theorem lf2_X1_pass_44 (u : SX) (p : Int32) (k : Nat) : (l_X1_pass_44 u p k).1.1 2 = u.1 2 := lf_X1_pass_44 u p k 2 (by decide) (by decide) (by decide)
theorem lv_X1_standingNow (u : SX) (p q : Int32) (n : Nat) (k : Nat) (hk : k ≤ n) (hn : n ≤ 120) : l_X1_standingNow_5 u p q k = -1 ∨ vp_in (l_X1_standingNow_5 u p q k) 120 := by
  induction k with
  | zero => exact Or.inl rfl
  | succ k ih =>
    have z := ih (by omega)
    show b_X1_standingNow_5 u p q k (l_X1_standingNow_5 u p q k) = _ ∨ vp_in (b_X1_standingNow_5 u p q k (l_X1_standingNow_5 u p q k)) _
    unfold b_X1_standingNow_5
    split
    · split
      · split
        · exact Or.inr (vp_in_nI (by omega) (by omega))
        · exact z
      · exact z
    · exact z
theorem zold {u v : SX} {p q : Int32} {nn : Nat} (hnn : u.1 13 = nI nn) (hn : nn ≤ 120) (hv : v = pF u 0 0) (h : ¬ (if q = (-1) then (-1) else (r_X1_standingNow v p q)) = (-1)) : vp_in (if q = (-1) then (-1) else (r_X1_standingNow v p q)) 120 := by
  split at h
  · exact absurd rfl h
  · rename_i c
    rw [if_neg c]
    have e : ix (v.1 13) = nn := by rw [hv]; show ix (u.1 13) = nn; rw [hnn]; exact nI_clamp (by omega)
    unfold r_X1_standingNow at h ⊢
    rw [e] at h ⊢
    exact (lv_X1_standingNow v p q nn nn (Nat.le_refl _) hn).resolve_left h
theorem s_X0_deliverNow_1 (u : SX) (j : Nat) (hj : j ≠ 18) : (s_X0_deliverNow u).1 j = u.1 j := lf_X0_deliverNow_12 u _ j hj
theorem lf_X0_pass_41 (u : SX) (p : Int32) (k j : Nat) (h1 : j ≠ 17) (h2 : j ≠ 18) : (l_X0_pass_41 u p k).1.1 j = u.1 j := by
  induction k with
  | zero => rfl
  | succ k ih =>
    show (b_X0_pass_41 u p k (l_X0_pass_41 u p k)).1.1 j = _
    unfold b_X0_pass_41
    split
    · exact ih
    · show (s_X0_deliverNow _).1 j = _
      rw [s_X0_deliverNow_1 _ _ h2]
      simp only [pF, upd, if_neg h1]
      exact ih
theorem lf16_X0_pass_41 (u : SX) (p : Int32) (k : Nat) : (l_X0_pass_41 u p k).1.1 16 = u.1 16 := lf_X0_pass_41 u p k 16 (by decide) (by decide)
theorem lf10_X0_pass_41 (u : SX) (p : Int32) (k : Nat) : (l_X0_pass_41 u p k).1.1 10 = u.1 10 := lf_X0_pass_41 u p k 10 (by decide) (by decide)
theorem st_X0_pass_41 (u : SX) (p : Int32) (k N : Nat) (hk : k ≤ N) (h : ((u.1 17) + p) ≤ ((l_X0_pass_41 u p k).1.1 17)) : l_X0_pass_41 u p N = l_X0_pass_41 u p k := by
  obtain ⟨d, rfl⟩ : ∃ d, N = k + d := ⟨N - k, by omega⟩
  clear hk
  induction d with
  | zero => rfl
  | succ d ih =>
    show b_X0_pass_41 u p (k + d) (l_X0_pass_41 u p (k + d)) = _
    rw [ih]
    unfold b_X0_pass_41
    rw [if_pos h]
def b_X1_bits (x : Int32 × Int32) : Int32 × Int32 := if x.2 = 0 then x else (x.1 + 1, x.2 &&& (x.2 - 1))
def l_X1_bits (p : Int32) : Nat → Int32 × Int32
  | 0 => (0, p)
  | k + 1 => b_X1_bits (l_X1_bits p k)
def r_X1_bits (p : Int32) : Int32 := (l_X1_bits p p.toBitVec.toNat).1
theorem st_X1_bits (p : Int32) (k N : Nat) (hk : k ≤ N) (h : (l_X1_bits p k).2 = 0) : l_X1_bits p N = l_X1_bits p k := by
  obtain ⟨d, rfl⟩ : ∃ d, N = k + d := ⟨N - k, by omega⟩
  clear hk
  induction d with
  | zero => rfl
  | succ d ih =>
    show b_X1_bits (l_X1_bits p (k + d)) = _
    rw [ih]
    unfold b_X1_bits
    rw [if_pos h]
theorem bits_dec {x : Int32} (h : ¬ x = 0) : (x &&& (x - 1)).toBitVec.toNat + 1 ≤ x.toBitVec.toNat := by
  have h0 : x.toBitVec ≠ 0#32 := fun z => h (Int32.toBitVec_inj.mp z)
  have hp : 0 < x.toBitVec.toNat := by
    rcases Nat.eq_zero_or_pos x.toBitVec.toNat with z | z
    · exact absurd (BitVec.eq_of_toNat_eq (by rw [z]; rfl)) h0
    · exact z
  have e : (x &&& (x - 1)).toBitVec = x.toBitVec &&& (x.toBitVec - 1#32) := rfl
  rw [e, BitVec.toNat_and]
  have h1 : (x.toBitVec - 1#32).toNat = x.toBitVec.toNat - 1 := by
    rw [BitVec.toNat_sub]
    have := x.toBitVec.isLt
    show (2 ^ 32 - 1 % 2 ^ 32 + x.toBitVec.toNat) % 2 ^ 32 = _
    omega
  rw [h1]
  have := Nat.and_le_right (n := x.toBitVec.toNat) (m := x.toBitVec.toNat - 1)
  omega
theorem zixlt (p : Int32) : ix p < 2 ^ 31 := by
  have h := Int32.toInt_lt p
  show p.toInt.toNat < _
  omega
theorem zmle {p : Int32} (h : p = nI (ix p)) : p ≤ nI (ix p) := by
  have z : nI (ix p) ≤ nI (ix p) := nI_le (Nat.le_refl _) (zixlt p)
  rw [← h] at z
  rw [← h]; exact z
theorem zmge {p : Int32} (h : p = nI (ix p)) {k : Nat} (hk : k < ix p) : ¬ p ≤ nI k := by
  have z := nI_ge hk (zixlt p)
  rw [← h] at z
  exact z
