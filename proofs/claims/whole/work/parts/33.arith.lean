/-! ===== minutes, local times, quiet hours ===== -/
theorem b31 (x : Int32) : bt x 31 = decide (x.toInt < 0) := by
  have e : x.toBitVec.msb = bt x 31 := BitVec.msb_eq_getLsbD_last x.toBitVec
  rw [← e, BitVec.msb_eq_toInt]; rfl
theorem i1440 : (1440 : Int32).toInt = 1440 := rfl
theorem i0 : (0 : Int32).toInt = 0 := rfl
theorem tdiv_1440 (z : Int) : z.tdiv 1440 = if 0 ≤ z then z / 1440 else -((-z) / 1440) := by
  by_cases h : 0 ≤ z
  · rw [if_pos h, Int.tdiv_eq_ediv_of_nonneg h]
  · rw [if_neg h]
    have e : z = -(-z) := by omega
    have h2 : (-(-z)).tdiv 1440 = -((-z).tdiv 1440) := Int.neg_tdiv _ _
    have h3 : (-z).tdiv 1440 = (-z) / 1440 := Int.tdiv_eq_ediv_of_nonneg (by omega)
    rw [← h3, ← h2, ← e]
theorem fm_rem {p : Int32} (h1 : -1000000 ≤ p.toInt) (h2 : p.toInt ≤ 1000000) : (p - p / 1440 * 1440).toInt = if 0 ≤ p.toInt then p.toInt % 1440 else -((-p.toInt) % 1440) := by
  have d : (p / 1440).toInt = if 0 ≤ p.toInt then p.toInt / 1440 else -((-p.toInt) / 1440) := by
    rw [Int32.toInt_div, i1440, tdiv_1440]
    apply fb_bmod <;> split <;> omega
  have m : (p / 1440 * 1440).toInt = (p / 1440).toInt * 1440 := by
    rw [fb_mulI, i1440]
    · rw [i1440, d]; split <;> omega
    · rw [i1440, d]; split <;> omega
  have s : (p - p / 1440 * 1440).toInt = p.toInt - (p / 1440).toInt * 1440 := by
    rw [fb_subI, m]
    · rw [m, d]; split <;> omega
    · rw [m, d]; split <;> omega
  rw [s, d]
  split <;> omega
theorem fm {p : Int32} (h1 : -1000000 ≤ p.toInt) (h2 : p.toInt ≤ 1000000) : (r_J9_floorMod_7cf53 p 1440).toInt = p.toInt % 1440 := by
  have hr := fm_rem h1 h2
  have s : (0 ≤ (p ^^^ 1440)) ↔ 0 ≤ p.toInt := by
    have z := b31 (p ^^^ 1440)
    have c : bt 1440 31 = false := by decide
    rw [b_xor, b31 p, c, Bool.xor_false] at z
    have z2 := decide_eq_decide.mp z
    rw [fa_le, i0]
    omega
  unfold r_J9_floorMod_7cf53
  by_cases q : 0 ≤ p.toInt
  · rw [if_pos (s.mpr q), hr, if_pos q]
  · rw [if_neg (fun z => q (s.mp z))]
    rw [if_neg q] at hr
    split
    · rename_i w
      rw [w] at hr
      rw [w, i0]
      rw [i0] at hr
      omega
    · rename_i w
      have w2 : ¬ (p - p / 1440 * 1440).toInt = 0 := fun z => w ((fa_eq _ _).mpr (by rw [z, i0]))
      rw [hr] at w2
      rw [fb_addI]
      · rw [hr, i1440]; omega
      · rw [hr, i1440]; omega
      · rw [hr, i1440]; omega
def qz (m o f t : Int) : Bool := decide ((m + o - f) % 1440 < (t - f) % 1440)
def okT (o f t : Int) : Prop := (-720 ≤ o ∧ o ≤ 840) ∧ (0 ≤ f ∧ f < 1440) ∧ (0 ≤ t ∧ t < 1440)
theorem ixn {d : Nat} (h : d < 200) : ix (nI d) = d := nI_clamp (by omega)
theorem X0_local {u : SX} {d : Nat} (hd : d < 200) (hm : 0 ≤ (u.1 17).toInt ∧ (u.1 17).toInt ≤ 200000) (ho : -720 ≤ (u.2 5 d).toInt ∧ (u.2 5 d).toInt ≤ 840) : (r_X0_localTime u (nI d)).toInt = ((u.1 17).toInt + (u.2 5 d).toInt) % 1440 := by
  unfold r_X0_localTime
  rw [ixn hd]
  have e : ((u.1 17) + (u.2 5 d)).toInt = (u.1 17).toInt + (u.2 5 d).toInt := fb_addI (by omega) (by omega)
  rw [fm (by rw [e]; omega) (by rw [e]; omega), e]
theorem X0_quiet {u : SX} {d : Nat} (hd : d < 200) (hm : 0 ≤ (u.1 17).toInt ∧ (u.1 17).toInt ≤ 200000) (ho : okT (u.2 5 d).toInt (u.2 6 d).toInt (u.2 7 d).toInt) : r_X0_isInQuietHours u (nI d) = if qz (u.1 17).toInt (u.2 5 d).toInt (u.2 6 d).toInt (u.2 7 d).toInt then 1 else 0 := by
  obtain ⟨o1, o2, o3⟩ := ho
  have hl := X0_local hd hm o1
  unfold r_X0_isInQuietHours
  rw [ixn hd]
  have e1 : ((u.2 7 d) - (u.2 6 d)).toInt = (u.2 7 d).toInt - (u.2 6 d).toInt := fb_subI (by omega) (by omega)
  have e2 : ((r_X0_localTime u (nI d)) - (u.2 6 d)).toInt = ((u.1 17).toInt + (u.2 5 d).toInt) % 1440 - (u.2 6 d).toInt := by
    rw [fb_subI, hl] <;> rw [hl] <;> omega
  have f1 := fm (p := (u.2 7 d) - (u.2 6 d)) (by rw [e1]; omega) (by rw [e1]; omega)
  have f2 := fm (p := (r_X0_localTime u (nI d)) - (u.2 6 d)) (by rw [e2]; omega) (by rw [e2]; omega)
  rw [e1] at f1
  rw [e2] at f2
  unfold qz
  by_cases q : (r_J9_floorMod_7cf53 ((u.2 7 d) - (u.2 6 d)) 1440) ≤ (r_J9_floorMod_7cf53 ((r_X0_localTime u (nI d)) - (u.2 6 d)) 1440)
  · rw [if_pos q]
    rw [fa_le, f1, f2] at q
    rw [decide_eq_false (by omega), if_neg (by decide)]
  · rw [if_neg q]
    rw [fa_le, f1, f2] at q
    rw [decide_eq_true (by omega), if_pos rfl]
theorem X1_local {v : SX} {d : Nat} (hm : 0 ≤ (v.1 1).toInt ∧ (v.1 1).toInt ≤ 200000) (ho : -720 ≤ (v.2 4 d).toInt ∧ (v.2 4 d).toInt ≤ 840) : ((((v.1 1) + (v.2 4 d)) + 1440) - (((v.1 1) + (v.2 4 d)) + 1440) / 1440 * 1440).toInt = ((v.1 1).toInt + (v.2 4 d).toInt) % 1440 := by
  have e1 : ((v.1 1) + (v.2 4 d)).toInt = (v.1 1).toInt + (v.2 4 d).toInt := fb_addI (by omega) (by omega)
  have e2 : (((v.1 1) + (v.2 4 d)) + 1440).toInt = (v.1 1).toInt + (v.2 4 d).toInt + 1440 := by
    rw [fb_addI, e1, i1440] <;> rw [e1, i1440] <;> omega
  rw [fm_rem (by rw [e2]; omega) (by rw [e2]; omega), e2, if_pos (by omega)]
  omega
theorem X1_quiet {v : SX} {d : Nat} (hd : d < 200) (hm : 0 ≤ (v.1 1).toInt ∧ (v.1 1).toInt ≤ 200000) (ho : okT (v.2 4 d).toInt (v.2 8 d).toInt (v.2 9 d).toInt) : r_X1_isQuietNow v (nI d) = if qz (v.1 1).toInt (v.2 4 d).toInt (v.2 8 d).toInt (v.2 9 d).toInt then 1 else 0 := by
  obtain ⟨o1, o2, o3⟩ := ho
  have hl := X1_local (d := d) hm o1
  unfold r_X1_isQuietNow
  rw [ixn hd]
  generalize ((((v.1 1) + (v.2 4 d)) + 1440) - (((v.1 1) + (v.2 4 d)) + 1440) / 1440 * 1440) = L at hl ⊢
  have l1 : 0 ≤ L.toInt ∧ L.toInt < 1440 := by rw [hl]; omega
  have e : qz (v.1 1).toInt (v.2 4 d).toInt (v.2 8 d).toInt (v.2 9 d).toInt = decide ((L.toInt - (v.2 8 d).toInt) % 1440 < ((v.2 9 d).toInt - (v.2 8 d).toInt) % 1440) := by
    unfold qz
    rw [hl]
    congr 2
    omega
  rw [e]
  clear e hl
  by_cases a : (v.2 9 d) < (v.2 8 d)
  · rw [if_pos a]
    rw [fa_lt] at a
    by_cases b : (v.2 8 d) ≤ L
    · rw [if_pos b]
      rw [fa_le] at b
      rw [decide_eq_true (by omega), if_pos rfl]
    · rw [if_neg b]
      rw [fa_le] at b
      by_cases c : (v.2 9 d) ≤ L
      · rw [if_pos c]
        rw [fa_le] at c
        rw [decide_eq_false (by omega), if_neg (by decide)]
      · rw [if_neg c]
        rw [fa_le] at c
        rw [decide_eq_true (by omega), if_pos rfl]
  · rw [if_neg a]
    rw [fa_lt] at a
    by_cases b : L < (v.2 8 d)
    · rw [if_pos b]
      rw [fa_lt] at b
      rw [decide_eq_false (by omega), if_neg (by decide)]
    · rw [if_neg b]
      rw [fa_lt] at b
      by_cases c : (v.2 9 d) ≤ L
      · rw [if_pos c]
        rw [fa_le] at c
        rw [decide_eq_false (by omega), if_neg (by decide)]
      · rw [if_neg c]
        rw [fa_le] at c
        rw [decide_eq_true (by omega), if_pos rfl]
theorem nextC {u : SX} {mi nd : Nat} (h17 : u.1 17 = nI mi) (hmi : mi ≤ 200000) (hnd : nd ≤ 16) (hD : ∀ d, d < nd → okT (u.2 5 d).toInt (u.2 6 d).toInt (u.2 7 d).toInt) : ∀ k, k ≤ nd → ∃ c : Nat, l_X0_nextChance_18 u k = nI c ∧ mi < c ∧ c ≤ mi / 60 * 60 + 60 ∧ ∀ d, d < k → qz mi (u.2 5 d).toInt (u.2 6 d).toInt (u.2 7 d).toInt = true → ∀ c' : Nat, mi ≤ c' → c' < c → qz c' (u.2 5 d).toInt (u.2 6 d).toInt (u.2 7 d).toInt = true := by
  intro k
  induction k with
  | zero =>
    intro _
    refine ⟨mi / 60 * 60 + 60, ?_, by omega, Nat.le_refl _, fun d hd => absurd hd (Nat.not_lt_zero d)⟩
    show (((u.1 17) - ((u.1 17) - (u.1 17) / nI 60 * nI 60)) + nI 60) = _
    rw [h17, pk_rem (by omega) (by omega) (by omega), pk_sub (by omega), nI_add]
    congr 1
    omega
  | succ k ih =>
    intro hk
    obtain ⟨c, e, h1, h2, h3⟩ := ih (by omega)
    have ht : (u.1 17).toInt = (mi : Int) := by rw [h17, nI_toInt (by omega)]
    have hq := X0_quiet (u := u) (d := k) (by omega) (by rw [ht]; omega) (hD k (by omega))
    rw [ht] at hq
    have hl := X0_local (u := u) (d := k) (by omega) (by rw [ht]; omega) (hD k (by omega)).1
    rw [ht] at hl
    have o3 := (hD k (by omega)).2.2
    have o2 := (hD k (by omega)).2.1
    show ∃ c, b_X0_nextChance_18 u k (l_X0_nextChance_18 u k) = nI c ∧ _
    unfold b_X0_nextChance_18
    rw [e, hq]
    cases hz : qz mi (u.2 5 k).toInt (u.2 6 k).toInt (u.2 7 k).toInt with
    | false =>
      refine ⟨c, ?_, h1, h2, ?_⟩
      · rw [if_neg (show ¬ (false = true) by decide), if_pos rfl]
      · intro d hd hdq c' a b
        rcases Nat.lt_or_ge d k with w | w
        · exact h3 d w hdq c' a b
        · have : d = k := by omega
          subst this
          rw [hz] at hdq; cases hdq
    | true =>
      rw [if_pos rfl, if_neg (by decide), ixn (by omega)]
      have e1 : ((u.2 7 k) - (r_X0_localTime u (nI k))).toInt = (u.2 7 k).toInt - ((mi : Int) + (u.2 5 k).toInt) % 1440 := by
        rw [fb_subI, hl] <;> rw [hl] <;> omega
      have f1 := fm (p := (u.2 7 k) - (r_X0_localTime u (nI k))) (by rw [e1]; omega) (by rw [e1]; omega)
      rw [e1] at f1
      have hz2 := of_decide_eq_true hz
      obtain ⟨z, hz3⟩ : ∃ z : Nat, (z : Int) = ((u.2 7 k).toInt - ((mi : Int) + (u.2 5 k).toInt) % 1440) % 1440 := ⟨(((u.2 7 k).toInt - ((mi : Int) + (u.2 5 k).toInt) % 1440) % 1440).toNat, by omega⟩
      have e2 : r_J9_floorMod_7cf53 ((u.2 7 k) - (r_X0_localTime u (nI k))) 1440 = nI z := by
        rw [fa_eq, f1, nI_toInt (by omega), hz3]
      rw [e2, h17, nI_add]
      have key : ∀ c' : Nat, mi ≤ c' → c' < mi + z → qz c' (u.2 5 k).toInt (u.2 6 k).toInt (u.2 7 k).toInt = true := by
        intro c' a b
        apply decide_eq_true
        omega
      have hzp : 0 < z := by omega
      unfold mnI
      by_cases w : nI (mi + z) < nI c
      · have w2 := (nI_ltI (by omega) (by omega)).mp w
        rw [if_pos w]
        refine ⟨mi + z, rfl, by omega, by omega, ?_⟩
        intro d hd hdq c' a b
        rcases Nat.lt_or_ge d k with y | y
        · exact h3 d y hdq c' a (by omega)
        · have : d = k := by omega
          subst this
          exact key c' a b
      · have w2 : ¬ mi + z < c := fun y => w ((nI_ltI (by omega) (by omega)).mpr y)
        rw [if_neg w]
        refine ⟨c, rfl, h1, h2, ?_⟩
        intro d hd hdq c' a b
        rcases Nat.lt_or_ge d k with y | y
        · exact h3 d y hdq c' a b
        · have : d = k := by omega
          subst this
          exact key c' a (by omega)
