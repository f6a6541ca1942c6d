/-! ===== the reference: look, told bit by bit ===== -/
def W1 (v : SX) (d n : Nat) : Bool := bt (v.2 19 n) d
def H1 (v : SX) (n : Nat) : Bool := decide (¬ v.2 14 n = 0)
def qB1 (v : SX) (d : Nat) : Bool := decide (¬ r_X1_isQuietNow v (nI d) = 0)
def C1f (v : SX) (d k : Nat) : Int32 := gC (W1 v d) (H1 v) (decide (¬ v.2 5 d = 0)) (decide (¬ v.2 6 d = 0)) (qB1 v d) (wn (v.1 1)) (r_X1_used v (nI d)) k
def T1f (v : SX) (d k : Nat) : Bool := gT (W1 v d) (H1 v) (decide (¬ v.2 5 d = 0)) (decide (¬ v.2 6 d = 0)) (qB1 v d) (wn (v.1 1)) (r_X1_used v (nI d)) k
def E1f (v : SX) (d k : Nat) : Bool := gE (W1 v d) (H1 v) (decide (¬ v.2 5 d = 0)) (decide (¬ v.2 6 d = 0)) (qB1 v d) (wn (v.1 1)) (r_X1_used v (nI d)) k
theorem can1 (v : SX) {d n : Nat} (hd : d < 200) (hn : n < 200) : r_X1_can v (nI d) (nI n) = if tk (decide (¬ v.2 5 d = 0)) (decide (¬ v.2 6 d = 0)) (qB1 v d) (wn (v.1 1)) (H1 v n) (r_X1_used v (nI d)) then 1 else 0 := by
  unfold r_X1_can tk
  rw [ixn hd, ixn hn]
  by_cases a : v.2 5 d = 0
  · rw [if_pos a, decide_eq_false (fun q => q a), Bool.false_and, if_neg (by decide)]
  · rw [if_neg a, decide_eq_true a, Bool.true_and]
    by_cases b : v.2 14 n = 0
    · have hH : H1 v n = false := decide_eq_false (fun q => q b)
      rw [if_pos b, hH, if_neg (show ¬ (false = true) by decide)]
      by_cases c : r_X1_isQuietNow v (nI d) = 0
      · have hq : qB1 v d = false := decide_eq_false (fun q => q c)
        rw [if_pos c, hq, Bool.not_false, Bool.true_and]
        by_cases e : v.2 6 d = 0
        · rw [if_pos e, decide_eq_false (fun q => q e), Bool.not_false, Bool.true_or, if_pos rfl]
        · rw [if_neg e, decide_eq_true e, Bool.not_true, Bool.false_or]
          unfold wn
          by_cases f : ((v.1 1) - (v.1 1) / 60 * 60) = 0
          · rw [if_pos f, decide_eq_true f, if_pos rfl]
          · rw [if_neg f, decide_eq_false f, if_neg (by decide)]
      · have hq : qB1 v d = true := decide_eq_true c
        rw [if_neg c, hq, Bool.not_true, Bool.false_and, if_neg (by decide)]
    · have hH : H1 v n = true := decide_eq_true b
      rw [if_neg b, hH, if_pos (show true = true from rfl)]
      by_cases e : v.2 6 d = 0
      · rw [if_pos e, decide_eq_false (fun q => q e), Bool.not_false, Bool.true_or, if_pos rfl]
      · rw [if_neg e, decide_eq_true e, Bool.not_true, Bool.false_or]
        by_cases f : 3 ≤ r_X1_used v (nI d)
        · have : ¬ r_X1_used v (nI d) < 3 := by rw [fa_lt]; rw [fa_le] at f; omega
          rw [if_pos f, decide_eq_false this, if_neg (by decide)]
        · have : r_X1_used v (nI d) < 3 := by rw [fa_lt]; rw [fa_le] at f; omega
          rw [if_neg f, decide_eq_true this, if_pos rfl]
theorem used_eq {x y : SX} {d : Nat} (h8 : x.2 11 d = y.2 11 d) (h9 : x.2 12 d = y.2 12 d) (h17 : x.1 1 = y.1 1) (hd : d < 200) : r_X1_used x (nI d) = r_X1_used y (nI d) := by
  unfold r_X1_used
  rw [ixn hd, h8, h9, h17]
theorem quiet_eq {x y : SX} {d : Nat} (h4 : x.2 4 d = y.2 4 d) (h8 : x.2 8 d = y.2 8 d) (h9 : x.2 9 d = y.2 9 d) (h1 : x.1 1 = y.1 1) (hd : d < 200) : r_X1_isQuietNow x (nI d) = r_X1_isQuietNow y (nI d) := by
  unfold r_X1_isQuietNow
  rw [ixn hd, h4, h8, h9, h1]
theorem dlv1 (x : SX) {d n : Nat} (hd : d < 32) (hn : n < 200) :
    (s_X1_deliver x (nI d) (nI n)).1 21 = x.1 21 + 1
    ∧ (∀ j, j ≠ 11 → j ≠ 12 → j ≠ 19 → j ≠ 20 → (s_X1_deliver x (nI d) (nI n)).2 j = x.2 j)
    ∧ (s_X1_deliver x (nI d) (nI n)).2 19 = upd (x.2 19) n (x.2 19 n &&& ((1 <<< (nI d &&& 31)) ^^^ (-1)))
    ∧ (s_X1_deliver x (nI d) (nI n)).2 20 = upd (x.2 20) n (x.2 20 n ||| (1 <<< (nI d &&& 31)))
    ∧ (∀ e, (s_X1_deliver x (nI d) (nI n)).2 11 e = if decide (e = d) && (H1 x n && decide (¬ x.2 6 d = 0)) then x.1 1 / 1440 else x.2 11 e)
    ∧ (∀ e, (s_X1_deliver x (nI d) (nI n)).2 12 e = if decide (e = d) && (H1 x n && decide (¬ x.2 6 d = 0)) then r_X1_used x (nI d) + 1 else x.2 12 e) := by
  unfold s_X1_deliver
  rw [ixn hn, ixn (show d < 200 by omega)]
  have plain : ∀ b : Bool, b = false → 
      (pF (pG (pG x 19 n ((x.2 19 n) &&& ((1 <<< (nI d &&& 31)) ^^^ (-1)))) 20 n ((x.2 20 n) ||| (1 <<< (nI d &&& 31)))) 21 ((x.1 21) + 1)).1 21 = x.1 21 + 1
    ∧ (∀ j, j ≠ 11 → j ≠ 12 → j ≠ 19 → j ≠ 20 → (pF (pG (pG x 19 n ((x.2 19 n) &&& ((1 <<< (nI d &&& 31)) ^^^ (-1)))) 20 n ((x.2 20 n) ||| (1 <<< (nI d &&& 31)))) 21 ((x.1 21) + 1)).2 j = x.2 j)
    ∧ (pF (pG (pG x 19 n ((x.2 19 n) &&& ((1 <<< (nI d &&& 31)) ^^^ (-1)))) 20 n ((x.2 20 n) ||| (1 <<< (nI d &&& 31)))) 21 ((x.1 21) + 1)).2 19 = upd (x.2 19) n (x.2 19 n &&& ((1 <<< (nI d &&& 31)) ^^^ (-1)))
    ∧ (pF (pG (pG x 19 n ((x.2 19 n) &&& ((1 <<< (nI d &&& 31)) ^^^ (-1)))) 20 n ((x.2 20 n) ||| (1 <<< (nI d &&& 31)))) 21 ((x.1 21) + 1)).2 20 = upd (x.2 20) n (x.2 20 n ||| (1 <<< (nI d &&& 31)))
    ∧ (∀ e, (pF (pG (pG x 19 n ((x.2 19 n) &&& ((1 <<< (nI d &&& 31)) ^^^ (-1)))) 20 n ((x.2 20 n) ||| (1 <<< (nI d &&& 31)))) 21 ((x.1 21) + 1)).2 11 e = if decide (e = d) && b then x.1 1 / 1440 else x.2 11 e)
    ∧ (∀ e, (pF (pG (pG x 19 n ((x.2 19 n) &&& ((1 <<< (nI d &&& 31)) ^^^ (-1)))) 20 n ((x.2 20 n) ||| (1 <<< (nI d &&& 31)))) 21 ((x.1 21) + 1)).2 12 e = if decide (e = d) && b then r_X1_used x (nI d) + 1 else x.2 12 e) := by
    intro b hb
    subst hb
    refine ⟨rfl, fun j _ _ h19 h20 => ?_, rfl, rfl, fun e => ?_, fun e => ?_⟩
    · show va_up (va_up x.2 19 _) 20 _ j = _
      simp only [va_up, if_neg h19, if_neg h20]
    · rw [Bool.and_false]; rfl
    · rw [Bool.and_false]; rfl
  by_cases h : x.2 14 n = 0
  · have hH : H1 x n = false := decide_eq_false (fun q => q h)
    rw [if_pos h]
    exact plain _ (by rw [hH, Bool.false_and])
  · have hH : H1 x n = true := decide_eq_true h
    rw [if_neg h]
    by_cases g : x.2 6 d = 0
    · rw [if_pos g]
      exact plain _ (by rw [decide_eq_false (fun q => q g), Bool.and_false])
    · rw [if_neg g, hH, decide_eq_true g, Bool.true_and]
      refine ⟨rfl, fun j h11 h12 h19 h20 => ?_, rfl, rfl, fun e => ?_, fun e => ?_⟩
      · show va_up (va_up (va_up (va_up x.2 19 _) 20 _) 12 _) 11 _ j = _
        simp only [va_up, if_neg h11, if_neg h12, if_neg h19, if_neg h20]
      · show upd (x.2 11) d (x.1 1 / 1440) e = _
        rw [Bool.and_true]
        by_cases q : e = d
        · subst q; rw [pk_us, decide_eq_true rfl]; rfl
        · rw [pk_un q, decide_eq_false q]; rfl
      · show upd (x.2 12) d (r_X1_used x (nI d) + 1) e = _
        rw [Bool.and_true]
        by_cases q : e = d
        · subst q; rw [pk_us, decide_eq_true rfl]; rfl
        · rw [pk_un q, decide_eq_false q]; rfl
/-- the inner loop of look behind k notices -/
def INV1 (x7 : SX) (d k : Nat) (x : SX) : Prop :=
  (∀ j, j ≠ 21 → x.1 j = x7.1 j)
  ∧ (∀ j, j ≠ 11 → j ≠ 12 → j ≠ 19 → j ≠ 20 → x.2 j = x7.2 j)
  ∧ (∀ n i, i < 32 → bt (x.2 19 n) i = (bt (x7.2 19 n) i && !(decide (i = d) && (decide (n < k) && T1f x7 d n))))
  ∧ (∀ n i, i < 32 → bt (x.2 20 n) i = (bt (x7.2 20 n) i || (decide (i = d) && (decide (n < k) && T1f x7 d n))))
  ∧ (∀ e, x.2 11 e = if decide (e = d) && E1f x7 d k then x7.1 1 / 1440 else x7.2 11 e)
  ∧ (∀ e, x.2 12 e = if decide (e = d) && E1f x7 d k then C1f x7 d k else x7.2 12 e)
  ∧ x.1 21 = x7.1 21 + nI (fb_ct (fun n => T1f x7 d n) k)
theorem INV1_used {x7 x : SX} {d k : Nat} (h : INV1 x7 d k x) (hd : d < 32) : r_X1_used x (nI d) = C1f x7 d k := by
  obtain ⟨h1, h2, h3, h4, h5, h6, h7⟩ := h
  have e8 := h5 d
  have e9 := h6 d
  rw [decide_eq_true rfl, Bool.true_and] at e8 e9
  cases hE : E1f x7 d k with
  | true =>
    rw [hE, if_pos rfl] at e8 e9
    unfold r_X1_used
    rw [ixn (by omega), e8, e9, h1 1 (by decide), if_pos rfl]
  | false =>
    rw [hE, if_neg (by decide)] at e8 e9
    rw [used_eq e8 e9 (h1 1 (by decide)) (by omega)]
    exact (gE_C k hE).symm
theorem INV1_0 (x7 : SX) (d : Nat) : INV1 x7 d 0 x7 := by
  refine ⟨fun j _ => rfl, fun j _ _ _ _ => rfl, fun n i _ => ?_, fun n i _ => ?_, fun e => ?_, fun e => ?_, ?_⟩
  · rw [decide_eq_false (Nat.not_lt_zero n), Bool.false_and, Bool.and_false, Bool.not_false, Bool.and_true]
  · rw [decide_eq_false (Nat.not_lt_zero n), Bool.false_and, Bool.and_false, Bool.or_false]
  · show _ = if decide (e = d) && false then _ else _
    rw [Bool.and_false]; rfl
  · show _ = if decide (e = d) && false then _ else _
    rw [Bool.and_false]; rfl
  · show x7.1 21 = x7.1 21 + nI 0
    rw [nI_0, Int32.add_zero]
theorem INV1_step {v x7 x : SX} {d k : Nat} (hd : d < 32) (hk : k < 120) (h : INV1 x7 d k x) : INV1 x7 d (k + 1) (b_X1_look_17 v d x7 k x) := by
  have hu := INV1_used h hd
  obtain ⟨h1, h2, h3, h4, h5, h6, h7⟩ := h
  have hH : H1 x k = H1 x7 k := by unfold H1; rw [h2 14 (by decide) (by decide) (by decide) (by decide)]
  have hw : bt (x.2 19 k) d = W1 x7 d k := by
    rw [h3 k d hd, decide_eq_false (Nat.lt_irrefl k), Bool.false_and, Bool.and_false, Bool.not_false, Bool.and_true]; rfl
  have hq : qB1 x d = qB1 x7 d := by
    unfold qB1
    rw [quiet_eq (h2 4 (by decide) (by decide) (by decide) (by decide) ▸ rfl) (h2 8 (by decide) (by decide) (by decide) (by decide) ▸ rfl) (h2 9 (by decide) (by decide) (by decide) (by decide) ▸ rfl) (h1 1 (by decide)) (by omega)]
  have hc := can1 x (d := d) (n := k) (by omega) (by omega)
  rw [h2 5 (by decide) (by decide) (by decide) (by decide), h2 6 (by decide) (by decide) (by decide) (by decide), hq, hH, hu, h1 1 (by decide)] at hc
  have eE : E1f x7 d (k + 1) = (E1f x7 d k || (T1f x7 d k && (H1 x7 k && decide (¬ x7.2 6 d = 0)))) := rfl
  have eC : C1f x7 d (k + 1) = if (T1f x7 d k && (H1 x7 k && decide (¬ x7.2 6 d = 0))) then C1f x7 d k + 1 else C1f x7 d k := rfl
  have eT : T1f x7 d k = (W1 x7 d k && tk (decide (¬ x7.2 5 d = 0)) (decide (¬ x7.2 6 d = 0)) (qB1 x7 d) (wn (x7.1 1)) (H1 x7 k) (C1f x7 d k)) := rfl
  have none : T1f x7 d k = false → INV1 x7 d (k + 1) x := by
    intro hT
    refine ⟨h1, h2, fun n i hi => ?_, fun n i hi => ?_, fun e => ?_, fun e => ?_, ?_⟩
    · rw [h3 n i hi]
      by_cases e : n = k
      · subst e; simp only [hT, Bool.and_false]
      · rw [dec_succ_ne e]
    · rw [h4 n i hi]
      by_cases e : n = k
      · subst e; simp only [hT, Bool.and_false]
      · rw [dec_succ_ne e]
    · rw [eE, hT, Bool.false_and, Bool.or_false]; exact h5 e
    · rw [eE, eC, hT, Bool.false_and, Bool.or_false]; exact h6 e
    · rw [fb_ct_succ, hT]; exact h7
  unfold b_X1_look_17
  rw [ixn (by omega)]
  by_cases a : ((x.2 19 k) >>> ((nI d) &&& 31)) &&& 1 = 1
  · have hW : W1 x7 d k = true := by rw [← hw]; exact (shr1_iff _ hd).mp a
    rw [if_pos a]
    cases t : tk (decide (¬ x7.2 5 d = 0)) (decide (¬ x7.2 6 d = 0)) (qB1 x7 d) (wn (x7.1 1)) (H1 x7 k) (C1f x7 d k) with
    | false =>
      rw [t, if_neg (by decide)] at hc
      rw [if_pos hc]
      exact none (by rw [eT, t, Bool.and_false])
    | true =>
      rw [t, if_pos rfl] at hc
      have hT : T1f x7 d k = true := by rw [eT, t, hW]; rfl
      rw [if_neg (by rw [hc]; decide)]
      obtain ⟨d1, d2, d3, d4, d5, d6⟩ := dlv1 x hd (show k < 200 by omega)
      refine ⟨fun j hj => ?_, fun j a b c d => ?_, fun n i hi => ?_, fun n i hi => ?_, fun e => ?_, fun e => ?_, ?_⟩
      · rw [s_X1_deliver_1 _ _ _ _ hj]; exact h1 j hj
      · rw [d2 j a b c d]; exact h2 j a b c d
      · rw [d3]
        by_cases e : n = k
        · subst e
          rw [pk_us, bt_andnot, h3 n i hi, bt_sh1 hd, decide_eq_false (Nat.lt_irrefl n), decide_eq_true (Nat.lt_succ_self n), hT, Bool.false_and, Bool.and_false, Bool.not_false, Bool.and_true, Bool.true_and, Bool.and_true]
        · rw [pk_un e, h3 n i hi, dec_succ_ne e]
      · rw [d4]
        by_cases e : n = k
        · subst e
          rw [pk_us, b_or, h4 n i hi, bt_sh1 hd, decide_eq_false (Nat.lt_irrefl n), decide_eq_true (Nat.lt_succ_self n), hT, Bool.false_and, Bool.and_false, Bool.or_false, Bool.true_and, Bool.and_true]
        · rw [pk_un e, h4 n i hi, dec_succ_ne e]
      · rw [d5 e, hH, h2 6 (by decide) (by decide) (by decide) (by decide), h5 e, h1 1 (by decide), eE, hT, Bool.true_and]
        cases decide (e = d) <;> cases (H1 x7 k && decide (¬ x7.2 6 d = 0)) <;> cases E1f x7 d k <;> rfl
      · rw [d6 e, hH, h2 6 (by decide) (by decide) (by decide) (by decide), h6 e, hu, eE, eC, hT, Bool.true_and]
        cases decide (e = d) <;> cases (H1 x7 k && decide (¬ x7.2 6 d = 0)) <;> cases E1f x7 d k <;> rfl
      · rw [d1, h7, fb_ct_succ, hT, Int32.add_assoc, nI_1]; rfl
  · rw [if_neg a]
    have hW : W1 x7 d k = false := by
      cases z : W1 x7 d k
      · rfl
      · exact absurd ((shr1_iff _ hd).mpr (hw.trans z)) a
    exact none (by rw [eT, hW, Bool.false_and])
theorem INV1_all {v x7 : SX} {d : Nat} (hd : d < 32) : ∀ k, k ≤ 120 → INV1 x7 d k (l_X1_look_17 v d x7 k)
  | 0, _ => INV1_0 x7 d
  | k + 1, hk => INV1_step hd (by omega) (INV1_all hd k (by omega))
/-- look behind k devices -/
def INV2 (v : SX) (nn k : Nat) (y : SX) : Prop :=
  (∀ j, j ≠ 21 → y.1 j = v.1 j)
  ∧ (∀ j, j ≠ 11 → j ≠ 12 → j ≠ 19 → j ≠ 20 → y.2 j = v.2 j)
  ∧ (∀ n i, i < 32 → bt (y.2 19 n) i = (bt (v.2 19 n) i && !(decide (i < k) && (decide (n < nn) && T1f v i n))))
  ∧ (∀ n i, i < 32 → bt (y.2 20 n) i = (bt (v.2 20 n) i || (decide (i < k) && (decide (n < nn) && T1f v i n))))
  ∧ (∀ e, y.2 11 e = if decide (e < k) && E1f v e nn then v.1 1 / 1440 else v.2 11 e)
  ∧ (∀ e, y.2 12 e = if decide (e < k) && E1f v e nn then C1f v e nn else v.2 12 e)
  ∧ y.1 21 = v.1 21 + nI (fb_sm (fun d => fb_ct (fun n => T1f v d n) nn) k)
theorem INV2_0 (v : SX) (nn : Nat) : INV2 v nn 0 v := by
  refine ⟨fun j _ => rfl, fun j _ _ _ _ => rfl, fun n i _ => ?_, fun n i _ => ?_, fun e => ?_, fun e => ?_, ?_⟩
  · rw [decide_eq_false (Nat.not_lt_zero i), Bool.false_and, Bool.not_false, Bool.and_true]
  · rw [decide_eq_false (Nat.not_lt_zero i), Bool.false_and, Bool.or_false]
  · rw [decide_eq_false (Nat.not_lt_zero e), Bool.false_and, if_neg (by decide)]
  · rw [decide_eq_false (Nat.not_lt_zero e), Bool.false_and, if_neg (by decide)]
  · show v.1 21 = v.1 21 + nI 0
    rw [nI_0, Int32.add_zero]
theorem INV2_step {v y : SX} {nn k : Nat} (h13 : v.1 13 = nI nn) (hnn : nn ≤ 120) (hk : k < 32) (h : INV2 v nn k y) : INV2 v nn (k + 1) (b_X1_look_7 v k y) := by
  obtain ⟨h1, h2, h3, h4, h5, h6, h7⟩ := h
  have z : INV1 y k nn (b_X1_look_7 v k y) := by
    unfold b_X1_look_7
    rw [h13, ixn (by omega)]
    exact INV1_all hk nn hnn
  generalize b_X1_look_7 v k y = w at z
  obtain ⟨g1, g2, g3, g4, g5, g6, g7⟩ := z
  have n2 : ∀ j, j ≠ 11 → j ≠ 12 → j ≠ 19 → j ≠ 20 → y.2 j = v.2 j := h2
  have e11 : y.2 11 k = v.2 11 k := by rw [h5 k, decide_eq_false (Nat.lt_irrefl k), Bool.false_and, if_neg (by decide)]
  have e12 : y.2 12 k = v.2 12 k := by rw [h6 k, decide_eq_false (Nat.lt_irrefl k), Bool.false_and, if_neg (by decide)]
  have hW : W1 y k = W1 v k := by
    funext n
    unfold W1
    rw [h3 n k hk, decide_eq_false (Nat.lt_irrefl k), Bool.false_and, Bool.not_false, Bool.and_true]
  have hH : H1 y = H1 v := by
    funext n
    unfold H1
    rw [h2 14 (by decide) (by decide) (by decide) (by decide)]
  have hq : qB1 y k = qB1 v k := by
    unfold qB1
    rw [quiet_eq (h2 4 (by decide) (by decide) (by decide) (by decide) ▸ rfl) (h2 8 (by decide) (by decide) (by decide) (by decide) ▸ rfl) (h2 9 (by decide) (by decide) (by decide) (by decide) ▸ rfl) (h1 1 (by decide)) (by omega)]
  have hu := used_eq e11 e12 (h1 1 (by decide)) (show k < 200 by omega)
  have hT : ∀ n, T1f y k n = T1f v k n := by
    intro n
    unfold T1f
    rw [hW, hH, hq, hu, h1 1 (by decide), h2 5 (by decide) (by decide) (by decide) (by decide), h2 6 (by decide) (by decide) (by decide) (by decide)]
  have hE : E1f y k nn = E1f v k nn := by
    unfold E1f
    rw [hW, hH, hq, hu, h1 1 (by decide), h2 5 (by decide) (by decide) (by decide) (by decide), h2 6 (by decide) (by decide) (by decide) (by decide)]
  have hC : C1f y k nn = C1f v k nn := by
    unfold C1f
    rw [hW, hH, hq, hu, h1 1 (by decide), h2 5 (by decide) (by decide) (by decide) (by decide), h2 6 (by decide) (by decide) (by decide) (by decide)]
  refine ⟨fun j hj => (g1 j hj).trans (h1 j hj), fun j a b c d => (g2 j a b c d).trans (h2 j a b c d), fun n i hi => ?_, fun n i hi => ?_, fun e => ?_, fun e => ?_, ?_⟩
  · rw [g3 n i hi, h3 n i hi, hT]
    by_cases e : i = k
    · subst e
      rw [decide_eq_true rfl, decide_eq_false (Nat.lt_irrefl i), decide_eq_true (Nat.lt_succ_self i), Bool.false_and, Bool.not_false, Bool.and_true]
    · rw [decide_eq_false e, dec_succ_ne e, Bool.false_and, Bool.not_false, Bool.and_true]
  · rw [g4 n i hi, h4 n i hi, hT]
    by_cases e : i = k
    · subst e
      rw [decide_eq_true rfl, decide_eq_false (Nat.lt_irrefl i), decide_eq_true (Nat.lt_succ_self i), Bool.false_and, Bool.or_false]
    · rw [decide_eq_false e, dec_succ_ne e, Bool.false_and, Bool.or_false]
  · rw [g5 e, h5 e, hE, h1 1 (by decide)]
    by_cases q : e = k
    · subst q
      rw [decide_eq_true rfl, decide_eq_false (Nat.lt_irrefl e), decide_eq_true (Nat.lt_succ_self e), Bool.false_and, if_neg (show ¬ (false = true) by decide)]
    · rw [decide_eq_false q, dec_succ_ne q, Bool.false_and, if_neg (show ¬ (false = true) by decide)]
  · rw [g6 e, h6 e, hE, hC]
    by_cases q : e = k
    · subst q
      rw [decide_eq_true rfl, decide_eq_false (Nat.lt_irrefl e), decide_eq_true (Nat.lt_succ_self e), Bool.false_and, if_neg (show ¬ (false = true) by decide)]
    · rw [decide_eq_false q, dec_succ_ne q, Bool.false_and, if_neg (show ¬ (false = true) by decide)]
  · rw [g7, h7, fb_sm_succ, Int32.add_assoc, nI_add]
    have : fb_ct (fun n => T1f y k n) nn = fb_ct (fun n => T1f v k n) nn := fb_ct_cong fun n _ => hT n
    rw [this]
theorem INV2_all {v : SX} {nn : Nat} (h13 : v.1 13 = nI nn) (hnn : nn ≤ 120) : ∀ k, k ≤ 16 → INV2 v nn k (l_X1_look_7 v k)
  | 0, _ => INV2_0 v nn
  | k + 1, hk => INV2_step h13 hnn (by omega) (INV2_all h13 hnn k (by omega))
