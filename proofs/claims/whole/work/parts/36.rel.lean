/-! ===== the relation of the class's state u and the reference's state v ===== -/
def usedM (mi : Nat) (v : SX) (d : Nat) : Int32 := if v.2 11 d = nI (mi / 1440) then v.2 12 d else 0
def tkM (mi : Nat) (v : SX) (d n : Nat) : Bool := tk (decide (¬ v.2 5 d = 0)) (decide (¬ v.2 6 d = 0)) (qz mi (v.2 4 d).toInt (v.2 8 d).toInt (v.2 9 d).toInt) (decide (mi % 60 = 0)) (H1 v n) (usedM mi v d)
def qS (nd nn mi : Nat) (v : SX) : Prop := ∀ d, d < nd → ∀ n, n < nn → bt (v.2 19 n) d = true → tkM mi v d n = false
def qA (nd nn mi : Nat) (u v : SX) : Prop := (nd ≤ 16 ∧ nn ≤ 120 ∧ mi ≤ 100000) ∧ (u.1 10 = nI nd ∧ u.1 16 = nI nn ∧ u.1 17 = nI mi) ∧ (v.1 2 = nI nd ∧ v.1 13 = nI nn ∧ v.1 1 = nI mi) ∧ u.1 18 = v.1 21
def qD (u v : SX) (d : Nat) : Prop := (bt (u.1 3) d = decide (¬ v.2 5 d = 0) ∧ bt (u.1 4) d = decide (¬ v.2 6 d = 0)) ∧ (u.2 5 d = v.2 4 d ∧ u.2 6 d = v.2 8 d ∧ u.2 7 d = v.2 9 d) ∧ (u.2 8 d = v.2 11 d ∧ u.2 9 d = v.2 12 d) ∧ okT (v.2 4 d).toInt (v.2 8 d).toInt (v.2 9 d).toInt ∧ (∀ t, t < 6 → bt (u.2 1 t) d = bt (v.2 10 d) t)
def qL (nd : Nat) (u v : SX) (i : Nat) : Prop := bt (u.1 2) i = (decide (i < nd) && decide (v.2 7 i = 0)) ∧ (nd ≤ i → v.2 7 i = 0) ∧ (∀ us, us < 8 → bt (u.2 0 us) i = (decide (i < nd) && decide (v.2 3 i = nI us)))
def qN (nd nn mi : Nat) (u v : SX) (n : Nat) : Prop := u.2 14 n = v.2 20 n ∧ (nn ≤ n → v.2 18 n = 0) ∧ (n < nn → u.2 11 n = v.2 14 n ∧ (∃ f : Nat, f ≤ 200000 ∧ u.2 12 n = nI f ∧ (v.2 18 n = 0 ↔ mi < f) ∧ (v.2 18 n = 0 → v.2 15 n = nI f)) ∧ (v.2 18 n = 0 → u.2 13 n = v.2 19 n) ∧ (¬ v.2 18 n = 0 → v.2 19 n = 0) ∧ ∀ i, nd ≤ i → i < 32 → bt (u.2 13 n) i = false)
def qK (nn : Nat) (u v : SX) (us ky : Nat) : Prop := (u.2 15 (us * 10 + ky) = -1 ∧ ∀ n, n < nn → ¬ (v.2 16 n = nI us ∧ v.2 17 n = nI ky)) ∨ (∃ m, m < nn ∧ u.2 15 (us * 10 + ky) = nI m ∧ v.2 16 m = nI us ∧ v.2 17 m = nI ky ∧ ∀ n, n < nn → n ≠ m → v.2 16 n = nI us → v.2 17 n = nI ky → ¬ v.2 18 n = 0)
def RQ (nd nn mi : Nat) (u v : SX) : Prop := qA nd nn mi u v ∧ (∀ d, d < 16 → qD u v d) ∧ (∀ i, i < 32 → qL nd u v i) ∧ (∀ n, n < 120 → qN nd nn mi u v n) ∧ (∀ us, us < 8 → ∀ ky, ky < 10 → qK nn u v us ky)
theorem if10 {b : Bool} : decide (¬ (if b = true then (1 : Int32) else 0) = 0) = b := by cases b <;> rfl
theorem qB1_M {v : SX} {mi d : Nat} (h1 : v.1 1 = nI mi) (hm : mi ≤ 200000) (hd : d < 200) (ho : okT (v.2 4 d).toInt (v.2 8 d).toInt (v.2 9 d).toInt) : qB1 v d = qz mi (v.2 4 d).toInt (v.2 8 d).toInt (v.2 9 d).toInt := by
  have ht : (v.1 1).toInt = (mi : Int) := by rw [h1, nI_toInt (by omega)]
  have e := X1_quiet hd (by rw [ht]; omega) ho
  unfold qB1
  rw [e, ht]
  exact if10
theorem wn_M {mi : Nat} (hm : mi ≤ 200000) : wn (nI mi) = decide (mi % 60 = 0) := by
  unfold wn
  have e : nI mi - nI mi / 60 * 60 = nI (mi % 60) := pk_rem (d := 60) (by omega) (by omega) (by omega)
  rw [e]
  apply decide_eq_decide.mpr
  rw [← nI_0, nI_eq (by omega) (by omega)]
theorem day_M {mi : Nat} (hm : mi ≤ 200000) : nI mi / 1440 = nI (mi / 1440) := pk_div (d := 1440) (by omega) (by omega) (by omega)
theorem used_M {v : SX} {mi d : Nat} (h1 : v.1 1 = nI mi) (hm : mi ≤ 200000) (hd : d < 200) : r_X1_used v (nI d) = usedM mi v d := by
  unfold r_X1_used usedM
  rw [ixn hd, h1, day_M hm]
theorem tkM_eq {v : SX} {mi d n : Nat} (h1 : v.1 1 = nI mi) (hm : mi ≤ 200000) (hd : d < 200) (ho : okT (v.2 4 d).toInt (v.2 8 d).toInt (v.2 9 d).toInt) : tk (decide (¬ v.2 5 d = 0)) (decide (¬ v.2 6 d = 0)) (qB1 v d) (wn (v.1 1)) (H1 v n) (r_X1_used v (nI d)) = tkM mi v d n := by
  rw [qB1_M h1 hm hd ho, used_M h1 hm hd, h1, wn_M hm]; rfl
theorem RQ_quiet {nd nn mi : Nat} {u v : SX} (h : RQ nd nn mi u v) {d : Nat} (hd : d < 16) : r_X0_isInQuietHours u (nI d) = r_X1_isQuietNow v (nI d) := by
  obtain ⟨⟨⟨a1, a2, a3⟩, ⟨a4, a5, a6⟩, ⟨a7, a8, a9⟩, a10⟩, hD, hL, hN, hK⟩ := h
  obtain ⟨_, ⟨b3, b4, b5⟩, _, b8, _⟩ := hD d hd
  have t0 : (u.1 17).toInt = (mi : Int) := by rw [a6, nI_toInt (by omega)]
  have t1 : (v.1 1).toInt = (mi : Int) := by rw [a9, nI_toInt (by omega)]
  rw [X0_quiet (by omega) (by rw [t0]; omega) (by rw [b3, b4, b5]; exact b8), X1_quiet (by omega) (by rw [t1]; omega) b8, t0, t1, b3, b4, b5]
theorem RQ_spent {nd nn mi : Nat} {u v : SX} (h : RQ nd nn mi u v) {d : Nat} (hd : d < 16) : r_X0_spentToday u (nI d) = r_X1_used v (nI d) := by
  obtain ⟨⟨⟨a1, a2, a3⟩, ⟨a4, a5, a6⟩, ⟨a7, a8, a9⟩, a10⟩, hD, hL, hN, hK⟩ := h
  obtain ⟨_, _, ⟨b6, b7⟩, _, _⟩ := hD d hd
  unfold r_X0_spentToday r_X1_used
  rw [ixn (by omega), b6, b7, a6, a9]
theorem RQ_sB {nd nn mi : Nat} {u v : SX} (h : RQ nd nn mi u v) {n : Nat} (hn : n < nn) : sB u n = decide (v.2 18 n = 0) := by
  obtain ⟨⟨⟨a1, a2, a3⟩, ⟨a4, a5, a6⟩, ⟨a7, a8, a9⟩, a10⟩, hD, hL, hN, hK⟩ := h
  obtain ⟨_, _, c⟩ := hN n (by omega)
  obtain ⟨_, ⟨f, f1, f2, f3, f4⟩, _, _, _⟩ := c hn
  unfold sB
  apply decide_eq_decide.mpr
  rw [f2, a6, f3, nI_leI (by omega) (by omega)]
  omega
theorem RQ_W {nd nn mi : Nat} {u v : SX} (h : RQ nd nn mi u v) {n : Nat} (hn : n < nn) (d : Nat) : W0 u d n = W1 v d n := by
  have e := RQ_sB h hn
  obtain ⟨⟨⟨a1, a2, a3⟩, ⟨a4, a5, a6⟩, ⟨a7, a8, a9⟩, a10⟩, hD, hL, hN, hK⟩ := h
  obtain ⟨_, _, c⟩ := hN n (by omega)
  obtain ⟨_, _, c3, c4, _⟩ := c hn
  unfold W0 W1
  rw [e]
  by_cases q : v.2 18 n = 0
  · rw [decide_eq_true q, c3 q, Bool.true_and]
  · rw [decide_eq_false q, c4 q, b_0, Bool.false_and]
theorem RQ_WH {nd nn mi : Nat} {u v : SX} (h : RQ nd nn mi u v) (d : Nat) : ∀ n, n < nn → W0 u d n = W1 v d n ∧ H0 u n = H1 v n := by
  intro n hn
  refine ⟨RQ_W h hn d, ?_⟩
  obtain ⟨⟨⟨a1, a2, a3⟩, ⟨a4, a5, a6⟩, ⟨a7, a8, a9⟩, a10⟩, hD, hL, hN, hK⟩ := h
  obtain ⟨_, _, c⟩ := hN n (by omega)
  unfold H0 H1
  rw [(c hn).1]
theorem RQ_par {nd nn mi : Nat} {u v : SX} (h : RQ nd nn mi u v) {d : Nat} (hd : d < 16) : (∀ k, k < nn → T0f u d k = T1f v d k) ∧ (∀ k, k ≤ nn → E0f u d k = E1f v d k) ∧ (∀ k, k ≤ nn → C0f u d k = C1f v d k) := by
  have hq : qB0 u d = qB1 v d := by unfold qB0 qB1; rw [RQ_quiet h hd]
  have hs := RQ_spent h hd
  have hw := RQ_WH h d
  obtain ⟨⟨⟨a1, a2, a3⟩, ⟨a4, a5, a6⟩, ⟨a7, a8, a9⟩, a10⟩, hD, hL, hN, hK⟩ := h
  obtain ⟨⟨b1, b2⟩, _, _, _, _⟩ := hD d hd
  refine ⟨fun k hk => ?_, fun k hk => ?_, fun k hk => ?_⟩
  · unfold T0f T1f
    rw [hq, hs, b1, b2, a6, a9]
    exact gT_cong _ _ _ _ _ hk hw
  · unfold E0f E1f
    rw [hq, hs, b1, b2, a6, a9]
    exact gE_cong _ _ _ _ _ k (fun n hn => hw n (by omega))
  · unfold C0f C1f
    rw [hq, hs, b1, b2, a6, a9]
    exact gC_cong _ _ _ _ _ k (fun n hn => hw n (by omega))
theorem gE_none {W H : Nat → Bool} {on dz qt win : Bool} {c0 : Int32} : ∀ k, (∀ n, n < k → W n = false) → gE W H on dz qt win c0 k = false
  | 0, _ => rfl
  | k + 1, h => by rw [gE_succ, gE_none k (fun n hn => h n (by omega)), gT_none (h k (by omega))]; rfl
theorem fb_sm_tail {f : Nat → Nat} {m : Nat} : ∀ e, (∀ k, m ≤ k → k < m + e → f k = 0) → fb_sm f (m + e) = fb_sm f m
  | 0, _ => rfl
  | e + 1, h => by
    show fb_sm f (m + e + 1) = _
    rw [fb_sm_succ, fb_sm_tail e (fun k a b => h k a (by omega)), h (m + e) (by omega) (by omega)]; rfl
theorem deliverNow_both {nd nn mi : Nat} {u v : SX} (h : RQ nd nn mi u v) : RQ nd nn mi (s_X0_deliverNow u) (s_X1_look v) ∧ r_X0_deliverNow u = r_X1_look v ∧ qS nd nn mi (s_X1_look v) := by
  have hpar := fun d (hd : d < 16) => RQ_par h (d := d) hd
  have hWW := fun d n hn => RQ_W h (n := n) hn d
  have h' := h
  obtain ⟨⟨⟨a1, a2, a3⟩, ⟨a4, a5, a6⟩, ⟨a7, a8, a9⟩, a10⟩, hD, hL, hN, hK⟩ := h
  have hW : ∀ n, n < nn → ∀ i, nd ≤ i → i < 32 → bt (u.2 13 n) i = false := fun n hn => ((hN n (by omega)).2.2 hn).2.2.2.2
  have x0 := INV0_all a4 a1 a2 hW nn (Nat.le_refl _)
  have y0 := INV2_all a8 a2 nd a1
  have ex : s_X0_deliverNow u = l_X0_deliverNow_12 u nn := by unfold s_X0_deliverNow; rw [a5, ixn (by omega)]
  have ey : s_X1_look v = l_X1_look_7 v nd := by unfold s_X1_look; rw [a7, ixn (by omega)]
  have rx : r_X0_deliverNow u = (l_X0_deliverNow_12 u nn).1 18 - u.1 18 := by unfold r_X0_deliverNow; rw [a5, ixn (by omega)]
  have ry : r_X1_look v = (l_X1_look_7 v nd).1 21 - v.1 21 := by unfold r_X1_look; rw [a7, ixn (by omega)]
  rw [ex, ey, rx, ry]
  generalize l_X0_deliverNow_12 u nn = x at x0
  generalize l_X1_look_7 v nd = y at y0
  obtain ⟨x1, x2, x3, x4, x5, x6, x7⟩ := x0
  obtain ⟨y1, y2, y3, y4, y5, y6, y7⟩ := y0
  have Tn : ∀ i n, nd ≤ i → i < 32 → n < nn → T0f u i n = false := by
    intro i n a b c
    apply gT_none
    rw [W0, hW n c i a b, Bool.and_false]
  have Tb : ∀ i n, i < 32 → (decide (n < nn) && T0f u i n) = (decide (i < nd) && (decide (n < nn) && T1f v i n)) := by
    intro i n hi
    by_cases c : n < nn
    · rw [decide_eq_true c, Bool.true_and, Bool.true_and]
      by_cases e : i < nd
      · rw [decide_eq_true e, Bool.true_and, (hpar i (by omega)).1 n c]
      · rw [decide_eq_false e, Bool.false_and, Tn i n (by omega) hi c]
    · rw [decide_eq_false c, Bool.false_and, Bool.false_and, Bool.and_false]
  have Eb : ∀ d, d < 16 → E0f u d nn = (decide (d < nd) && E1f v d nn) := by
    intro d hd
    by_cases e : d < nd
    · rw [decide_eq_true e, Bool.true_and, (hpar d hd).2.1 nn (Nat.le_refl _)]
    · rw [decide_eq_false e, Bool.false_and]
      apply gE_none
      intro n hn
      rw [W0, hW n hn d (by omega) (by omega), Bool.and_false]
  have Sb : fb_sm (fun n => fb_ct (fun d => T0f u d n) 16) nn = fb_sm (fun d => fb_ct (fun n => T1f v d n) nn) nd := by
    rw [fb_swap (fun d n => T0f u d n) 16 nn]
    have e1 := fb_sm_tail (f := fun d => fb_ct (fun n => T0f u d n) nn) (m := nd) (16 - nd) (fun k p q => ct_none (fun n hn => Tn k n p (by omega) hn))
    rw [show nd + (16 - nd) = 16 by omega] at e1
    refine e1.trans (fb_sm_cong fun d hd => fb_ct_cong fun n hn => (hpar d (by omega)).1 n hn)
  have s18 : x.1 18 = y.1 21 := by rw [x7, y7, Sb, a10]
  have y2' : ∀ j, j ≠ 11 → j ≠ 12 → j ≠ 19 → j ≠ 20 → ∀ d, y.2 j d = v.2 j d := fun j p q r s d => by rw [y2 j p q r s]
  have x2' : ∀ j, j ≠ 8 → j ≠ 9 → j ≠ 13 → j ≠ 14 → ∀ d, x.2 j d = u.2 j d := fun j p q r s d => by rw [x2 j p q r s]
  refine ⟨⟨⟨⟨a1, a2, a3⟩, ⟨?_, ?_, ?_⟩, ⟨?_, ?_, ?_⟩, s18⟩, fun d hd => ?_, fun i hi => ?_, fun n hn => ?_, fun us hus ky hky => ?_⟩, ?_, fun d hd n hn hb => ?_⟩
  · rw [x1 10 (by decide)]; exact a4
  · rw [x1 16 (by decide)]; exact a5
  · rw [x1 17 (by decide)]; exact a6
  · rw [y1 2 (by decide)]; exact a7
  · rw [y1 13 (by decide)]; exact a8
  · rw [y1 1 (by decide)]; exact a9
  · obtain ⟨⟨b1, b2⟩, ⟨b3, b4, b5⟩, ⟨b6, b7⟩, b8, b9⟩ := hD d hd
    unfold qD
    rw [x1 3 (by decide), x1 4 (by decide), x2' 5 (by decide) (by decide) (by decide) (by decide), x2' 6 (by decide) (by decide) (by decide) (by decide), x2' 7 (by decide) (by decide) (by decide) (by decide), x5 d hd, x6 d hd, y2' 5 (by decide) (by decide) (by decide) (by decide), y2' 6 (by decide) (by decide) (by decide) (by decide), y2' 4 (by decide) (by decide) (by decide) (by decide), y2' 8 (by decide) (by decide) (by decide) (by decide), y2' 9 (by decide) (by decide) (by decide) (by decide), y2' 10 (by decide) (by decide) (by decide) (by decide), y5 d, y6 d, x2 1 (by decide) (by decide) (by decide) (by decide), Eb d hd, (hpar d hd).2.2 nn (Nat.le_refl _), a6, a9, b6, b7]
    exact ⟨⟨b1, b2⟩, ⟨b3, b4, b5⟩, ⟨rfl, rfl⟩, b8, b9⟩
  · obtain ⟨b1, b2, b3⟩ := hL i hi
    unfold qL
    rw [x1 2 (by decide), x2 0 (by decide) (by decide) (by decide) (by decide), y2' 7 (by decide) (by decide) (by decide) (by decide), y2' 3 (by decide) (by decide) (by decide) (by decide)]
    exact ⟨b1, b2, b3⟩
  · obtain ⟨b1, b2, b3⟩ := hN n hn
    unfold qN
    rw [y2' 18 (by decide) (by decide) (by decide) (by decide), y2' 14 (by decide) (by decide) (by decide) (by decide), y2' 15 (by decide) (by decide) (by decide) (by decide), x2' 11 (by decide) (by decide) (by decide) (by decide), x2' 12 (by decide) (by decide) (by decide) (by decide)]
    refine ⟨?_, b2, fun hnn => ?_⟩
    · apply b_ext
      intro i hi
      rw [x4 n i hi, y4 n i hi, b1, Tb i n hi]
    · obtain ⟨c1, c2, c3, c4, c5⟩ := b3 hnn
      refine ⟨c1, c2, fun o => ?_, fun o => ?_, fun i p q => ?_⟩
      · apply b_ext
        intro i hi
        rw [x3 n i hi, y3 n i hi, c3 o, Tb i n hi]
      · apply b_ext
        intro i hi
        rw [y3 n i hi, c4 o, b_0, Bool.false_and]
      · rw [x3 n i q, c5 i p q, Bool.false_and]
  · have := hK us hus ky hky
    unfold qK at this ⊢
    rw [x2 15 (by decide) (by decide) (by decide) (by decide), y2 16 (by decide) (by decide) (by decide) (by decide), y2 17 (by decide) (by decide) (by decide) (by decide), y2 18 (by decide) (by decide) (by decide) (by decide)]
    exact this
  · rw [s18, a10]
  · rw [y3 n d (by omega), decide_eq_true hd, decide_eq_true hn, Bool.true_and, Bool.true_and] at hb
    have hb1 : bt (v.2 19 n) d = true := by
      cases z : bt (v.2 19 n) d
      · rw [z] at hb; cases hb
      · rfl
    have hb2 : T1f v d n = false := by
      cases z : T1f v d n
      · rfl
      · rw [z, hb1] at hb; cases hb
    have e := gT_last (W := W1 v d) hn hb1 hb2
    obtain ⟨_, _, _, b8, _⟩ := hD d (by omega)
    have hu : usedM mi y d = C1f v d nn := by
      have e8 := y5 d
      have e9 := y6 d
      rw [decide_eq_true hd, Bool.true_and] at e8 e9
      rw [a9, day_M (by omega)] at e8
      unfold usedM
      cases hE : E1f v d nn with
      | true =>
        rw [hE, if_pos rfl] at e8 e9
        rw [e8, e9, if_pos rfl]
      | false =>
        rw [hE, if_neg (by decide)] at e8 e9
        rw [e8, e9]
        have hz : C1f v d nn = r_X1_used v (nI d) := gE_C nn hE
        rw [hz, used_M a9 (by omega) (by omega)]; rfl
    unfold tkM
    rw [hu]
    unfold H1
    rw [y2' 5 (by decide) (by decide) (by decide) (by decide), y2' 6 (by decide) (by decide) (by decide) (by decide), y2' 4 (by decide) (by decide) (by decide) (by decide), y2' 8 (by decide) (by decide) (by decide) (by decide), y2' 9 (by decide) (by decide) (by decide) (by decide), y2' 14 (by decide) (by decide) (by decide) (by decide)]
    rw [qB1_M a9 (by omega) (by omega) b8, a9, wn_M (by omega)] at e
    unfold C1f
    rw [qB1_M a9 (by omega) (by omega) b8, a9, wn_M (by omega)]
    exact e
