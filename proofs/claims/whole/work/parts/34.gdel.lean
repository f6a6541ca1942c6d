/-! ===== what one device takes, notice by notice ===== -/
def tk (on dz qt win hi : Bool) (c : Int32) : Bool := on && (if hi then (!dz || decide (c < 3)) else (!qt && (!dz || win)))
def gC (W H : Nat → Bool) (on dz qt win : Bool) (c0 : Int32) : Nat → Int32
  | 0 => c0
  | n + 1 => if (W n && tk on dz qt win (H n) (gC W H on dz qt win c0 n)) && (H n && dz) then gC W H on dz qt win c0 n + 1 else gC W H on dz qt win c0 n
def gT (W H : Nat → Bool) (on dz qt win : Bool) (c0 : Int32) (n : Nat) : Bool := W n && tk on dz qt win (H n) (gC W H on dz qt win c0 n)
def gE (W H : Nat → Bool) (on dz qt win : Bool) (c0 : Int32) : Nat → Bool
  | 0 => false
  | n + 1 => gE W H on dz qt win c0 n || (gT W H on dz qt win c0 n && (H n && dz))
theorem gC_succ (W H : Nat → Bool) (on dz qt win : Bool) (c0 : Int32) (n : Nat) : gC W H on dz qt win c0 (n + 1) = if gT W H on dz qt win c0 n && (H n && dz) then gC W H on dz qt win c0 n + 1 else gC W H on dz qt win c0 n := rfl
theorem gE_succ (W H : Nat → Bool) (on dz qt win : Bool) (c0 : Int32) (n : Nat) : gE W H on dz qt win c0 (n + 1) = (gE W H on dz qt win c0 n || (gT W H on dz qt win c0 n && (H n && dz))) := rfl
theorem gC_cong {W H W' H' : Nat → Bool} (on dz qt win : Bool) (c0 : Int32) : ∀ k, (∀ n, n < k → W n = W' n ∧ H n = H' n) → gC W H on dz qt win c0 k = gC W' H' on dz qt win c0 k
  | 0, _ => rfl
  | k + 1, h => by
    rw [gC_succ, gC_succ, gT, gT, gC_cong on dz qt win c0 k (fun n hn => h n (by omega)), (h k (by omega)).1, (h k (by omega)).2]
theorem gT_cong {W H W' H' : Nat → Bool} (on dz qt win : Bool) (c0 : Int32) {k N : Nat} (hk : k < N) (h : ∀ n, n < N → W n = W' n ∧ H n = H' n) : gT W H on dz qt win c0 k = gT W' H' on dz qt win c0 k := by
  rw [gT, gT, gC_cong on dz qt win c0 k (fun n hn => h n (by omega)), (h k hk).1, (h k hk).2]
theorem gE_cong {W H W' H' : Nat → Bool} (on dz qt win : Bool) (c0 : Int32) : ∀ k, (∀ n, n < k → W n = W' n ∧ H n = H' n) → gE W H on dz qt win c0 k = gE W' H' on dz qt win c0 k
  | 0, _ => rfl
  | k + 1, h => by
    rw [gE_succ, gE_succ, gE_cong on dz qt win c0 k (fun n hn => h n (by omega)), gT_cong on dz qt win c0 (Nat.lt_succ_self k) h, (h k (by omega)).2]
theorem gE_C {W H : Nat → Bool} {on dz qt win : Bool} {c0 : Int32} : ∀ k, gE W H on dz qt win c0 k = false → gC W H on dz qt win c0 k = c0
  | 0, _ => rfl
  | k + 1, h => by
    rw [gE_succ] at h
    have h1 : gE W H on dz qt win c0 k = false := by cases q : gE W H on dz qt win c0 k; rfl; rw [q] at h; cases h
    rw [h1, Bool.false_or] at h
    rw [gC_succ, h, gE_C k h1]; rfl
theorem gC_stuck {W H : Nat → Bool} {on dz qt win : Bool} {c0 : Int32} {n : Nat} (hn : ¬ gC W H on dz qt win c0 n < 3) : ∀ d, gC W H on dz qt win c0 (n + d) = gC W H on dz qt win c0 n
  | 0 => rfl
  | d + 1 => by
    have ih := gC_stuck hn d
    show gC W H on dz qt win c0 (n + d + 1) = _
    rw [gC_succ, gT, ih]
    have e : ((W (n + d) && tk on dz qt win (H (n + d)) (gC W H on dz qt win c0 n)) && (H (n + d) && dz)) = false := by
      unfold tk
      rw [decide_eq_false hn]
      cases W (n + d) <;> cases H (n + d) <;> cases on <;> cases dz <;> simp
    rw [e]; rfl
theorem gT_none {W H : Nat → Bool} {on dz qt win : Bool} {c0 : Int32} {n : Nat} (h : W n = false) : gT W H on dz qt win c0 n = false := by rw [gT, h, Bool.false_and]
/-- what still waits behind the last can't be taken then -/
theorem gT_last {W H : Nat → Bool} {on dz qt win : Bool} {c0 : Int32} {n N : Nat} (hn : n < N) (hw : W n = true) (h : gT W H on dz qt win c0 n = false) : tk on dz qt win (H n) (gC W H on dz qt win c0 N) = false := by
  rw [gT, hw, Bool.true_and] at h
  cases hH : H n with
  | false =>
    rw [hH] at h
    unfold tk at h ⊢
    rw [if_neg (by decide)] at h ⊢
    exact h
  | true =>
    rw [hH] at h
    by_cases q : gC W H on dz qt win c0 n < 3
    · have : (on && (!dz || decide (gC W H on dz qt win c0 n < 3))) = false := h
      rw [decide_eq_true q, Bool.or_true, Bool.and_true] at this
      unfold tk
      rw [this]; rfl
    · have e := gC_stuck q (N - n)
      rw [show n + (N - n) = N by omega] at e
      rw [e]; exact h
/-! ===== the class: deliverNow, told bit by bit ===== -/
def sB (u : SX) (n : Nat) : Bool := decide (¬ u.2 12 n ≤ u.1 17)
def wn (x : Int32) : Bool := decide (x - x / 60 * 60 = 0)
def W0 (u : SX) (d n : Nat) : Bool := sB u n && bt (u.2 13 n) d
def H0 (u : SX) (n : Nat) : Bool := decide (¬ u.2 11 n = 0)
def qB0 (u : SX) (d : Nat) : Bool := decide (¬ r_X0_isInQuietHours u (nI d) = 0)
def C0f (u : SX) (d k : Nat) : Int32 := gC (W0 u d) (H0 u) (bt (u.1 3) d) (bt (u.1 4) d) (qB0 u d) (wn (u.1 17)) (r_X0_spentToday u (nI d)) k
def T0f (u : SX) (d k : Nat) : Bool := gT (W0 u d) (H0 u) (bt (u.1 3) d) (bt (u.1 4) d) (qB0 u d) (wn (u.1 17)) (r_X0_spentToday u (nI d)) k
def E0f (u : SX) (d k : Nat) : Bool := gE (W0 u d) (H0 u) (bt (u.1 3) d) (bt (u.1 4) d) (qB0 u d) (wn (u.1 17)) (r_X0_spentToday u (nI d)) k
theorem isSt (u : SX) {n : Nat} (hn : n < 200) : r_X0_isStanding u (nI n) = if sB u n then 1 else 0 := by
  unfold r_X0_isStanding sB
  rw [ixn hn]
  by_cases h : u.2 12 n ≤ u.1 17
  · rw [if_pos h, decide_eq_false (fun q => q h), if_neg (by decide)]
  · rw [if_neg h, decide_eq_true h, if_pos rfl]
theorem wNow (u : SX) {n : Nat} (hn : n < 200) : r_X0_waitsNow u (nI n) = if sB u n then u.2 13 n else 0 := by
  unfold r_X0_waitsNow
  rw [isSt u hn, ixn hn]
  cases sB u n <;> rfl
theorem bt_wNow (u : SX) {n : Nat} (hn : n < 200) (i : Nat) : bt (r_X0_waitsNow u (nI n)) i = W0 u i n := by
  rw [wNow u hn, W0]
  cases sB u n
  · rw [if_neg (by decide), b_0]; rfl
  · rw [if_pos rfl]; rfl
theorem bt_ch0 (x : Int32) {d : Nat} (hd : d < 32) (i : Nat) : bt (r_X0_changed x (nI d) 0) i = (bt x i && !decide (i = d)) := by
  rw [bt_changed x 0 hd]
  by_cases h : i = d
  · rw [if_pos h, decide_eq_true h]; simp
  · rw [if_neg h, decide_eq_false h]; simp
theorem bt_oN (u : SX) (i : Nat) : ∀ k, k ≤ 16 → bt (l_X0_openToNormal_31 u k) i = ((bt (u.1 3) i && (!bt (u.1 4) i || wn (u.1 17))) && !(decide (i < k) && qB0 u i))
  | 0, _ => by
    rw [decide_eq_false (Nat.not_lt_zero i), Bool.false_and, Bool.not_false, Bool.and_true]
    unfold l_X0_openToNormal_31 wn
    by_cases h : ((u.1 17) - (u.1 17) / 60 * 60) = 0
    · rw [if_pos h, decide_eq_true h, Bool.or_true, Bool.and_true]
    · rw [if_neg h, decide_eq_false h, Bool.or_false, bt_andnot]
  | k + 1, hk => by
    have ih := bt_oN u i k (by omega)
    show bt (b_X0_openToNormal_31 u k (l_X0_openToNormal_31 u k)) i = _
    unfold b_X0_openToNormal_31
    by_cases h : r_X0_isInQuietHours u (nI k) = 0
    · rw [if_pos h, ih]
      by_cases e : i = k
      · subst e
        have : qB0 u i = false := decide_eq_false (fun q => q h)
        rw [this, Bool.and_false, Bool.and_false]
      · have : decide (i < k + 1) = decide (i < k) := decide_eq_decide.mpr (by omega)
        rw [this]
    · rw [if_neg h, bt_ch0 _ (by omega), ih]
      by_cases e : i = k
      · subst e
        have : qB0 u i = true := decide_eq_true h
        rw [this, decide_eq_true rfl, decide_eq_true (Nat.lt_succ_self i), Bool.not_true, Bool.and_false, Bool.and_self, Bool.not_true, Bool.and_false]
      · have : decide (i < k + 1) = decide (i < k) := decide_eq_decide.mpr (by omega)
        rw [this, decide_eq_false e, Bool.not_false, Bool.and_true]
theorem bt_oH (u : SX) (i : Nat) : ∀ k, k ≤ 16 → bt (l_X0_openToHigh_7 u k) i = (bt (u.1 3) i && !(decide (i < k) && (bt (u.1 4) i && !decide (r_X0_spentToday u (nI i) < 3))))
  | 0, _ => by
    rw [decide_eq_false (Nat.not_lt_zero i), Bool.false_and, Bool.not_false, Bool.and_true]
    rfl
  | k + 1, hk => by
    have ih := bt_oH u i k (by omega)
    show bt (b_X0_openToHigh_7 u k (l_X0_openToHigh_7 u k)) i = _
    unfold b_X0_openToHigh_7
    have keep : (bt (u.1 4) k && !decide (r_X0_spentToday u (nI k) < 3)) = false → bt (l_X0_openToHigh_7 u k) i = (bt (u.1 3) i && !(decide (i < k + 1) && (bt (u.1 4) i && !decide (r_X0_spentToday u (nI i) < 3)))) := by
      intro z
      rw [ih]
      by_cases e : i = k
      · subst e
        rw [z, Bool.and_false, Bool.and_false]
      · have : decide (i < k + 1) = decide (i < k) := decide_eq_decide.mpr (by omega)
        rw [this]
    by_cases h : r_X0_has (u.1 4) (nI k) = 0
    · rw [if_pos h]
      exact keep (by rw [(has_iff _ (by omega)).mp h, Bool.false_and])
    · rw [if_neg h]
      have h4 : bt (u.1 4) k = true := by
        cases z : bt (u.1 4) k
        · exact absurd ((has_iff _ (by omega)).mpr z) h
        · rfl
      by_cases c : r_X0_spentToday u (nI k) < 3
      · rw [if_pos c]
        exact keep (by rw [decide_eq_true c, Bool.not_true, Bool.and_false])
      · rw [if_neg c, bt_ch0 _ (by omega), ih]
        by_cases e : i = k
        · subst e
          rw [h4, decide_eq_true rfl, decide_eq_true (Nat.lt_succ_self i), decide_eq_false c, Bool.not_true, Bool.and_false]
          simp
        · have : decide (i < k + 1) = decide (i < k) := decide_eq_decide.mpr (by omega)
          rw [this, decide_eq_false e, Bool.not_false, Bool.and_true]
theorem spent_eq {x y : SX} {d : Nat} (h8 : x.2 8 d = y.2 8 d) (h9 : x.2 9 d = y.2 9 d) (h17 : x.1 17 = y.1 17) (hd : d < 200) : r_X0_spentToday x (nI d) = r_X0_spentToday y (nI d) := by
  unfold r_X0_spentToday
  rw [ixn hd, h8, h9, h17]
theorem spq (x : SX) (p : Int32) : ∀ k, k ≤ 16 → (∀ j, j ≠ 8 → j ≠ 9 → (l_X0_spendQuota_2 x p k).2 j = x.2 j) ∧ (∀ d, (l_X0_spendQuota_2 x p k).2 8 d = if decide (d < k) && bt p d then x.1 17 / 1440 else x.2 8 d) ∧ (∀ d, (l_X0_spendQuota_2 x p k).2 9 d = if decide (d < k) && bt p d then r_X0_spentToday x (nI d) + 1 else x.2 9 d)
  | 0, _ => by
    refine ⟨fun j _ _ => rfl, fun d => ?_, fun d => ?_⟩
    · rw [decide_eq_false (Nat.not_lt_zero d), Bool.false_and, if_neg (by decide)]; rfl
    · rw [decide_eq_false (Nat.not_lt_zero d), Bool.false_and, if_neg (by decide)]; rfl
  | k + 1, hk => by
    obtain ⟨i1, i2, i3⟩ := spq x p k (by omega)
    have i0 := lf_X0_spendQuota_2 x p k
    show (∀ j, j ≠ 8 → j ≠ 9 → (b_X0_spendQuota_2 x p k (l_X0_spendQuota_2 x p k)).2 j = x.2 j) ∧ (∀ d, (b_X0_spendQuota_2 x p k (l_X0_spendQuota_2 x p k)).2 8 d = _) ∧ (∀ d, (b_X0_spendQuota_2 x p k (l_X0_spendQuota_2 x p k)).2 9 d = _)
    generalize l_X0_spendQuota_2 x p k = y at *
    unfold b_X0_spendQuota_2
    by_cases h : r_X0_has p (nI k) = 0
    · have hp := (has_iff p (by omega)).mp h
      rw [if_pos h]
      refine ⟨i1, fun d => ?_, fun d => ?_⟩
      · rw [i2 d]
        by_cases e : d = k
        · subst e; rw [hp, Bool.and_false, Bool.and_false]
        · have : decide (d < k + 1) = decide (d < k) := decide_eq_decide.mpr (by omega)
          rw [this]
      · rw [i3 d]
        by_cases e : d = k
        · subst e; rw [hp, Bool.and_false, Bool.and_false]
        · have : decide (d < k + 1) = decide (d < k) := decide_eq_decide.mpr (by omega)
          rw [this]
    · have hp : bt p k = true := by
        cases z : bt p k
        · exact absurd ((has_iff _ (by omega)).mpr z) h
        · rfl
      have ek : r_X0_spentToday y (nI k) = r_X0_spentToday x (nI k) := by
        apply spent_eq
        · rw [i2 k, decide_eq_false (Nat.lt_irrefl k), Bool.false_and, if_neg (by decide)]
        · rw [i3 k, decide_eq_false (Nat.lt_irrefl k), Bool.false_and, if_neg (by decide)]
        · rw [i0]
        · omega
      rw [if_neg h, ixn (by omega), ek]
      refine ⟨fun j h8 h9 => ?_, fun d => ?_, fun d => ?_⟩
      · show va_up (va_up y.2 9 _) 8 _ j = _
        rw [← i1 j h8 h9]
        simp only [va_up, if_neg h8, if_neg h9]
      · show upd (y.2 8) k (y.1 17 / 1440) d = _
        by_cases e : d = k
        · subst e
          rw [pk_us, hp, decide_eq_true (Nat.lt_succ_self d), i0]; rfl
        · have : decide (d < k + 1) = decide (d < k) := decide_eq_decide.mpr (by omega)
          rw [pk_un e, this, i2 d]
      · show upd (y.2 9) k (r_X0_spentToday x (nI k) + 1) d = _
        by_cases e : d = k
        · subst e
          rw [pk_us, hp, decide_eq_true (Nat.lt_succ_self d)]; rfl
        · have : decide (d < k + 1) = decide (d < k) := decide_eq_decide.mpr (by omega)
          rw [pk_un e, this, i3 d]
theorem dlv0 {x : SX} {nd n : Nat} {p : Int32} (h10 : x.1 10 = nI nd) (hnd : nd ≤ 16) (hn : n < 200) (hp : ∀ i, 16 ≤ i → i < 32 → bt p i = false) :
    (s_X0_deliver x (nI n) p).1 18 = x.1 18 + nI (fb_ct (fun d => bt p d) 16)
    ∧ (∀ j, j ≠ 8 → j ≠ 9 → j ≠ 13 → j ≠ 14 → (s_X0_deliver x (nI n) p).2 j = x.2 j)
    ∧ (s_X0_deliver x (nI n) p).2 13 = upd (x.2 13) n (x.2 13 n &&& (p ^^^ (-1)))
    ∧ (s_X0_deliver x (nI n) p).2 14 = upd (x.2 14) n (x.2 14 n ||| p)
    ∧ (∀ d, (s_X0_deliver x (nI n) p).2 8 d = if H0 x n && (decide (d < nd) && (bt p d && bt (x.1 4) d)) then x.1 17 / 1440 else x.2 8 d)
    ∧ (∀ d, (s_X0_deliver x (nI n) p).2 9 d = if H0 x n && (decide (d < nd) && (bt p d && bt (x.1 4) d)) then r_X0_spentToday x (nI d) + 1 else x.2 9 d) := by
  unfold s_X0_deliver
  rw [ixn hn, J6_ct hp]
  by_cases h : x.2 11 n = 0
  · have hH : H0 x n = false := decide_eq_false (fun q => q h)
    rw [if_pos h, hH]
    refine ⟨rfl, fun j h8 h9 h13 h14 => ?_, rfl, rfl, fun d => rfl, fun d => rfl⟩
    show va_up (va_up x.2 13 _) 14 _ j = _
    simp only [va_up, if_neg h13, if_neg h14]
  · have hH : H0 x n = true := decide_eq_true h
    rw [if_neg h, hH]
    have z := spq (pF (pG (pG x 13 n ((x.2 13 n) &&& (p ^^^ (-1)))) 14 n ((x.2 14 n) ||| p)) 18 ((x.1 18) + nI (fb_ct (fun d => bt p d) 16))) (p &&& (x.1 4)) nd hnd
    have z1 := s_X0_spendQuota_1 (pF (pG (pG x 13 n ((x.2 13 n) &&& (p ^^^ (-1)))) 14 n ((x.2 14 n) ||| p)) 18 ((x.1 18) + nI (fb_ct (fun d => bt p d) 16))) (p &&& (x.1 4))
    have e : s_X0_spendQuota (pF (pG (pG x 13 n ((x.2 13 n) &&& (p ^^^ (-1)))) 14 n ((x.2 14 n) ||| p)) 18 ((x.1 18) + nI (fb_ct (fun d => bt p d) 16))) (p &&& (x.1 4)) = l_X0_spendQuota_2 (pF (pG (pG x 13 n ((x.2 13 n) &&& (p ^^^ (-1)))) 14 n ((x.2 14 n) ||| p)) 18 ((x.1 18) + nI (fb_ct (fun d => bt p d) 16))) (p &&& (x.1 4)) nd := by
      unfold s_X0_spendQuota
      show l_X0_spendQuota_2 _ _ (ix (x.1 10)) = _
      rw [h10, ixn (by omega)]
    rw [e] at z1 ⊢
    obtain ⟨za, zb, zc⟩ := z
    refine ⟨by rw [z1]; rfl, fun j h8 h9 h13 h14 => ?_, ?_, ?_, fun d => ?_, fun d => ?_⟩
    · rw [za j h8 h9]
      show va_up (va_up x.2 13 _) 14 _ j = _
      simp only [va_up, if_neg h13, if_neg h14]
    · rw [za 13 (by decide) (by decide)]; rfl
    · rw [za 14 (by decide) (by decide)]; rfl
    · rw [zb d, b_and, Bool.true_and]; rfl
    · rw [zc d, b_and, Bool.true_and]
      have : r_X0_spentToday (pF (pG (pG x 13 n ((x.2 13 n) &&& (p ^^^ (-1)))) 14 n ((x.2 14 n) ||| p)) 18 ((x.1 18) + nI (fb_ct (fun d => bt p d) 16))) (nI d) = r_X0_spentToday x (nI d) := rfl
      rw [this]; rfl
/-- deliverNow behind k notices -/
def INV0 (u : SX) (k : Nat) (x : SX) : Prop :=
  (∀ j, j ≠ 18 → x.1 j = u.1 j)
  ∧ (∀ j, j ≠ 8 → j ≠ 9 → j ≠ 13 → j ≠ 14 → x.2 j = u.2 j)
  ∧ (∀ n i, i < 32 → bt (x.2 13 n) i = (bt (u.2 13 n) i && !(decide (n < k) && T0f u i n)))
  ∧ (∀ n i, i < 32 → bt (x.2 14 n) i = (bt (u.2 14 n) i || (decide (n < k) && T0f u i n)))
  ∧ (∀ d, d < 16 → x.2 8 d = if E0f u d k then u.1 17 / 1440 else u.2 8 d)
  ∧ (∀ d, d < 16 → x.2 9 d = if E0f u d k then C0f u d k else u.2 9 d)
  ∧ x.1 18 = u.1 18 + nI (fb_sm (fun n => fb_ct (fun d => T0f u d n) 16) k)
theorem INV0_spent {u x : SX} {k d : Nat} (h : INV0 u k x) (hd : d < 16) : r_X0_spentToday x (nI d) = C0f u d k := by
  obtain ⟨h1, h2, h3, h4, h5, h6, h7⟩ := h
  have e8 := h5 d hd
  have e9 := h6 d hd
  cases hE : E0f u d k with
  | true =>
    rw [hE, if_pos rfl] at e8 e9
    unfold r_X0_spentToday
    rw [ixn (by omega), e8, e9, h1 17 (by decide), if_pos rfl]
  | false =>
    rw [hE, if_neg (by decide)] at e8 e9
    rw [spent_eq e8 e9 (h1 17 (by decide)) (by omega)]
    exact (gE_C k hE).symm
theorem ct_none {p : Nat → Bool} {n : Nat} (h : ∀ d, d < n → p d = false) : fb_ct p n = 0 := fb_ct_zero.mpr h
theorem dec_succ_ne {n k : Nat} (h : n ≠ k) : decide (n < k + 1) = decide (n < k) := decide_eq_decide.mpr (by omega)
theorem INV0_step {u x : SX} {k nd nn : Nat} (h10 : u.1 10 = nI nd) (hnd : nd ≤ 16) (hnn : nn ≤ 120) (hk : k < nn) (hW : ∀ n, n < nn → ∀ i, nd ≤ i → i < 32 → bt (u.2 13 n) i = false) (h : INV0 u k x) : INV0 u (k + 1) (b_X0_deliverNow_12 u k x) := by
  have hsp := fun d hd => INV0_spent (d := d) h hd
  obtain ⟨h1, h2, h3, h4, h5, h6, h7⟩ := h
  have hsB : sB x k = sB u k := by unfold sB; rw [h2 12 (by decide) (by decide) (by decide) (by decide), h1 17 (by decide)]
  have hH : H0 x k = H0 u k := by unfold H0; rw [h2 11 (by decide) (by decide) (by decide) (by decide)]
  have hw : ∀ i, i < 32 → bt (r_X0_waitsNow x (nI k)) i = W0 u i k := by
    intro i hi
    rw [bt_wNow x (by omega), W0, W0, hsB, h3 k i hi, decide_eq_false (Nat.lt_irrefl k), Bool.false_and, Bool.not_false, Bool.and_true]
  have hWn : ∀ i, nd ≤ i → i < 32 → W0 u i k = false := by
    intro i a b
    rw [W0, hW k hk i a b, Bool.and_false]
  have hTn : ∀ i, nd ≤ i → i < 32 → T0f u i k = false := fun i a b => gT_none (hWn i a b)
  -- what follows of a set of takers
  have take : ∀ p : Int32, (∀ i, i < 32 → bt p i = T0f u i k) → INV0 u (k + 1) (s_X0_deliver x (nI k) p) := by
    intro p hp
    have hp16 : ∀ i, 16 ≤ i → i < 32 → bt p i = false := fun i a b => (hp i b).trans (hTn i (by omega) b)
    obtain ⟨d1, d2, d3, d4, d5, d6⟩ := dlv0 (n := k) (by rw [h1 10 (by decide)]; exact h10) hnd (by omega) hp16
    have hc : ∀ d, d < 16 → (H0 x k && (decide (d < nd) && (bt p d && bt (x.1 4) d))) = (T0f u d k && (H0 u k && bt (u.1 4) d)) := by
      intro d hd
      rw [hH, h1 4 (by decide), hp d (by omega)]
      rcases Nat.lt_or_ge d nd with q | q
      · rw [decide_eq_true q]
        cases H0 u k <;> cases T0f u d k <;> rfl
      · rw [hTn d q (by omega), Bool.false_and, Bool.and_false, Bool.and_false, Bool.false_and]
    refine ⟨fun j hj => ?_, fun j a b c d => ?_, fun n i hi => ?_, fun n i hi => ?_, fun d hd => ?_, fun d hd => ?_, ?_⟩
    · rw [s_X0_deliver_1 _ _ _ _ hj]; exact h1 j hj
    · rw [d2 j a b c d]; exact h2 j a b c d
    · rw [d3]
      by_cases e : n = k
      · subst e
        rw [pk_us, bt_andnot, h3 n i hi, hp i hi, decide_eq_false (Nat.lt_irrefl n), decide_eq_true (Nat.lt_succ_self n), Bool.false_and, Bool.not_false, Bool.and_true, Bool.true_and]
      · rw [pk_un e, h3 n i hi, dec_succ_ne e]
    · rw [d4]
      by_cases e : n = k
      · subst e
        rw [pk_us, b_or, h4 n i hi, hp i hi, decide_eq_false (Nat.lt_irrefl n), decide_eq_true (Nat.lt_succ_self n), Bool.false_and, Bool.or_false, Bool.true_and]
      · rw [pk_un e, h4 n i hi, dec_succ_ne e]
    · rw [d5 d, hc d hd, h5 d hd, h1 17 (by decide)]
      have eE : E0f u d (k + 1) = (E0f u d k || (T0f u d k && (H0 u k && bt (u.1 4) d))) := rfl
      rw [eE]
      cases (T0f u d k && (H0 u k && bt (u.1 4) d)) <;> cases E0f u d k <;> rfl
    · rw [d6 d, hc d hd, h6 d hd, hsp d hd]
      have eE : E0f u d (k + 1) = (E0f u d k || (T0f u d k && (H0 u k && bt (u.1 4) d))) := rfl
      have eC : C0f u d (k + 1) = if (T0f u d k && (H0 u k && bt (u.1 4) d)) then C0f u d k + 1 else C0f u d k := rfl
      rw [eE, eC]
      cases (T0f u d k && (H0 u k && bt (u.1 4) d)) <;> cases E0f u d k <;> rfl
    · rw [d1, h7, fb_sm_succ, Int32.add_assoc, nI_add]
      have : fb_ct (fun d => bt p d) 16 = fb_ct (fun d => T0f u d k) 16 := fb_ct_cong fun d hd => hp d (by omega)
      rw [this]
  unfold b_X0_deliverNow_12
  by_cases h0 : r_X0_waitsNow x (nI k) = 0
  · rw [if_pos h0]
    have hT : ∀ i, i < 32 → T0f u i k = false := by
      intro i hi
      apply gT_none
      rw [← hw i hi, h0, b_0]
    refine ⟨h1, h2, fun n i hi => ?_, fun n i hi => ?_, fun d hd => ?_, fun d hd => ?_, ?_⟩
    · rw [h3 n i hi]
      by_cases e : n = k
      · subst e; rw [hT i hi, Bool.and_false, Bool.and_false]
      · rw [dec_succ_ne e]
    · rw [h4 n i hi]
      by_cases e : n = k
      · subst e; rw [hT i hi, Bool.and_false, Bool.and_false]
      · rw [dec_succ_ne e]
    · have eE : E0f u d (k + 1) = (E0f u d k || (T0f u d k && (H0 u k && bt (u.1 4) d))) := rfl
      rw [eE, hT d (by omega), Bool.false_and, Bool.or_false, h5 d hd]
    · have eE : E0f u d (k + 1) = (E0f u d k || (T0f u d k && (H0 u k && bt (u.1 4) d))) := rfl
      have eC : C0f u d (k + 1) = if (T0f u d k && (H0 u k && bt (u.1 4) d)) then C0f u d k + 1 else C0f u d k := rfl
      rw [eE, eC, hT d (by omega), Bool.false_and, Bool.or_false, h6 d hd]; rfl
    · rw [h7, fb_sm_succ, ct_none (fun d hd => hT d (by omega))]; rfl
  · rw [if_neg h0, ixn (by omega)]
    by_cases c : x.2 11 k = 0
    · rw [if_pos c]
      apply take
      intro i hi
      have hHf : H0 u k = false := by rw [← hH]; exact decide_eq_false (fun q => q c)
      have eo : r_X0_openToNormal u = l_X0_openToNormal_31 u nd := by unfold r_X0_openToNormal; rw [h10, ixn (by omega)]
      rw [b_and, hw i hi, eo, bt_oN u i nd hnd]
      unfold T0f gT tk
      rw [hHf]
      rcases Nat.lt_or_ge i nd with q | q
      · rw [decide_eq_true q, Bool.true_and, if_neg (by decide)]
        cases W0 u i k <;> cases bt (u.1 3) i <;> cases bt (u.1 4) i <;> cases qB0 u i <;> cases wn (u.1 17) <;> rfl
      · rw [hWn i q hi]; rfl
    · rw [if_neg c]
      apply take
      intro i hi
      have hHt : H0 u k = true := by rw [← hH]; exact decide_eq_true c
      have eo : r_X0_openToHigh x = l_X0_openToHigh_7 x nd := by unfold r_X0_openToHigh; rw [h1 10 (by decide), h10, ixn (by omega)]
      rw [b_and, hw i hi, eo, bt_oH x i nd hnd]
      unfold T0f gT tk
      rw [hHt]
      rcases Nat.lt_or_ge i nd with q | q
      · have hsp' := hsp i (by omega)
        unfold C0f at hsp'
        rw [decide_eq_true q, Bool.true_and, if_pos rfl, hsp', h1 3 (by decide), h1 4 (by decide)]
        generalize gC (W0 u i) (H0 u) (bt (u.1 3) i) (bt (u.1 4) i) (qB0 u i) (wn (u.1 17)) (r_X0_spentToday u (nI i)) k = cc
        cases W0 u i k <;> cases bt (u.1 3) i <;> cases bt (u.1 4) i <;> cases decide (cc < 3) <;> rfl
      · rw [hWn i q hi]; rfl
theorem INV0_0 (u : SX) : INV0 u 0 u := by
  refine ⟨fun j _ => rfl, fun j _ _ _ _ => rfl, fun n i _ => ?_, fun n i _ => ?_, fun d _ => rfl, fun d _ => rfl, ?_⟩
  · rw [decide_eq_false (Nat.not_lt_zero n), Bool.false_and, Bool.not_false, Bool.and_true]
  · rw [decide_eq_false (Nat.not_lt_zero n), Bool.false_and, Bool.or_false]
  · show u.1 18 = u.1 18 + nI 0
    rw [nI_0, Int32.add_zero]
theorem INV0_all {u : SX} {nd nn : Nat} (h10 : u.1 10 = nI nd) (hnd : nd ≤ 16) (hnn : nn ≤ 120) (hW : ∀ n, n < nn → ∀ i, nd ≤ i → i < 32 → bt (u.2 13 n) i = false) : ∀ k, k ≤ nn → INV0 u k (l_X0_deliverNow_12 u k)
  | 0, _ => INV0_0 u
  | k + 1, hk => INV0_step h10 hnd hnn (by omega) hW (INV0_all h10 hnd hnn hW k (by omega))
