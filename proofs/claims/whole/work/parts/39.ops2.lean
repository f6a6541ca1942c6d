/-! ===== addDevice, join, kill, read, pass ===== -/
theorem D_join : zD_join RRw := by
  intro u v h p1 p2 p3 hp
  have h0 := h
  obtain ⟨nd, nn, mi, hQ, hS⟩ := h
  rcases devC hQ p1 with ⟨i0, e3⟩ | ⟨d, hd, rfl, i1, e0⟩
  · right
    have hs : s_X1_join v p1 p2 p3 = pF v 0 1 := by unfold s_X1_join; rw [if_pos i0]
    have he : e_X0_join u p1 p2 p3 = 3 := by unfold e_X0_join; rw [e3]; rfl
    refine ⟨by rw [he]; decide, by rw [hs, he]; rfl, by rw [hs]; exact RRw_ref 1 h0⟩
  · have n1 : ¬ r_X1_isDevice v (nI d) = 0 := by rw [i1]; decide
    rcases winC p2 0 5 with ⟨j0, f1⟩ | ⟨j1, f0, l1, l2⟩
    · right
      have hs : s_X1_join v (nI d) p2 p3 = pF v 0 2 := by unfold s_X1_join; rw [if_neg n1, if_pos j0]
      have he : e_X0_join u (nI d) p2 p3 = 1 := by unfold e_X0_join; rw [e0, f1]; rfl
      refine ⟨by rw [he]; decide, by rw [hs, he]; rfl, by rw [hs]; exact RRw_ref 2 h0⟩
    · left
      have n2 : ¬ r_X1_in p2 0 5 = 0 := by rw [j1]; decide
      obtain ⟨t, ht, rfl⟩ := nI_range (n := 5) (by rw [i0] at l1; exact l1) (by have : (5 : Int32).toInt = 5 := rfl; rw [this] at l2; omega) (by omega)
      have hs : s_X1_join v (nI d) (nI t) p3 = pG (pF v 0 0) 10 d (r_X0_changed (v.2 10 d) (nI t) p3) := by
        unfold s_X1_join r_X0_changed
        rw [if_neg n1, if_neg n2, ixn (by have := hQ.1.1.1; omega)]
        by_cases q : p3 = 0
        · rw [if_pos q, if_pos q]; rfl
        · rw [if_neg q, if_neg q]; rfl
      have hs0 : s_X0_join u (nI d) (nI t) p3 = pG u 1 t (r_X0_changed (u.2 1 t) (nI d) p3) := by
        unfold s_X0_join
        rw [ixn (by omega)]
      obtain ⟨⟨⟨a1, a2, a3⟩, ⟨a4, a5, a6⟩, ⟨a7, a8, a9⟩, a10⟩, hD, hL, hN, hK⟩ := hQ
      rw [hs, hs0]
      refine ⟨by unfold e_X0_join; rw [e0, f0]; rfl, rfl, ?_, nd, nn, mi, ?_, ?_⟩
      · unfold r_X0_join r_X1_join
        rw [if_neg n1, if_neg n2, ixn (by omega), ixn (by omega), has01 _ (by omega), bt_shr1 _ (by omega), (hD d (by omega)).2.2.2.2 t (by omega)]
        cases bt (v.2 10 d) t
        · rw [if_neg (show ¬ (false = true) by decide), if_neg (show ¬ ((0 : Int32) = 1) by decide)]
        · rw [if_pos (show true = true from rfl), if_pos (show (1 : Int32) = 1 from rfl)]
      · refine ⟨⟨⟨a1, a2, a3⟩, ⟨a4, a5, a6⟩, ⟨a7, a8, a9⟩, a10⟩, fun e he => ?_, hL, hN, hK⟩
        obtain ⟨b1, b2, b3, b4, b5⟩ := hD e he
        refine ⟨b1, b2, b3, b4, fun t' ht' => ?_⟩
        show bt (upd (u.2 1) t (r_X0_changed (u.2 1 t) (nI d) p3) t') e = bt (upd (v.2 10) d (r_X0_changed (v.2 10 d) (nI t) p3) e) t'
        by_cases w : e = d
        · subst w
          rw [pk_us, bt_changed _ _ (by omega)]
          by_cases w2 : t' = t
          · subst w2
            rw [pk_us, bt_changed _ _ (by omega), if_pos rfl, if_pos rfl]
          · rw [pk_un w2, if_neg w2]; exact b5 t' ht'
        · rw [pk_un w]
          by_cases w2 : t' = t
          · subst w2
            rw [pk_us, bt_changed _ _ (by omega), if_neg w]; exact b5 t' ht'
          · rw [pk_un w2]; exact b5 t' ht'
      · unfold qS tkM usedM H1 at hS ⊢
        exact hS
theorem D_addDevice : zD_addDevice RRw := by
  intro u v h p1 p2
  have h0 := h
  obtain ⟨nd, nn, mi, hQ, hS⟩ := h
  rcases winC p1 0 7 with ⟨i0', e1⟩ | ⟨i1, e0, l1, l2⟩
  · right
    have hs : s_X1_addDevice v p1 p2 = pF v 0 1 := by unfold s_X1_addDevice; rw [if_pos i0']
    have he : e_X0_addDevice u p1 p2 = 1 := by unfold e_X0_addDevice; rw [e1]; rfl
    refine ⟨by rw [he]; decide, by rw [hs, he]; rfl, by rw [hs]; exact RRw_ref 1 h0⟩
  · have n1 : ¬ r_X1_in p1 0 7 = 0 := by rw [i1]; decide
    rcases winC p2 (-720) 840 with ⟨j0, f1⟩ | ⟨j1, f0, l3, l4⟩
    · right
      have hs : s_X1_addDevice v p1 p2 = pF v 0 1 := by unfold s_X1_addDevice; rw [if_neg n1, if_pos j0]
      have he : e_X0_addDevice u p1 p2 = 1 := by unfold e_X0_addDevice; rw [e0, f1]; rfl
      refine ⟨by rw [he]; decide, by rw [hs, he]; rfl, by rw [hs]; exact RRw_ref 1 h0⟩
    · have n2 : ¬ r_X1_in p2 (-720) 840 = 0 := by rw [j1]; decide
      obtain ⟨⟨⟨a1, a2, a3⟩, ⟨a4, a5, a6⟩, ⟨a7, a8, a9⟩, a10⟩, hD, hL, hN, hK⟩ := hQ
      by_cases c : nd = 16
      · right
        have hs : s_X1_addDevice v p1 p2 = pF v 0 2 := by unfold s_X1_addDevice; rw [if_neg n1, if_neg n2, a7, c]; rfl
        have he : e_X0_addDevice u p1 p2 = 2 := by unfold e_X0_addDevice; rw [e0, f0, a4, c]; rfl
        refine ⟨by rw [he]; decide, by rw [hs, he]; rfl, by rw [hs]; exact RRw_ref 2 h0⟩
      · left
        have n3 : ¬ v.1 2 = 16 := by
          rw [a7]
          intro q
          exact c ((nI_eq (b := 16) (by omega) (by omega)).mp q)
        have m3 : u.1 10 < 16 := by rw [a4]; exact (nI_ltI (b := 16) (by omega) (by omega)).mpr (by omega)
        obtain ⟨us, hus, rfl⟩ := nI_range (p := p1) (n := 7) (by rw [i0] at l1; exact l1) (by have : (7 : Int32).toInt = 7 := rfl; rw [this] at l2; omega) (by omega)
        have k3 : (-720 : Int32).toInt = -720 := rfl
        have k4 : (840 : Int32).toInt = 840 := rfl
        rw [k3] at l3
        rw [k4] at l4
        have hs : s_X1_addDevice v (nI us) p2 = pF (pG (pG (pG (pF v 0 0) 3 nd (nI us)) 4 nd p2) 5 nd 1) 2 (nI (nd + 1)) := by
          unfold s_X1_addDevice
          rw [if_neg n1, if_neg n2, if_neg n3, a7, ixn (by omega), nI_1]; rfl
        have hs0 : s_X0_addDevice u (nI us) p2 = pF (pF (pG (pG (pF u 10 (nI (nd + 1))) 5 nd p2) 0 us ((u.2 0 us) ||| (r_X0_bitOf (nI nd)))) 2 ((u.1 2) ||| (r_X0_bitOf (nI nd)))) 3 ((u.1 3) ||| (r_X0_bitOf (nI nd))) := by
          unfold s_X0_addDevice
          rw [a4, ixn (by omega), ixn (by omega), nI_1]
        rw [hs, hs0]
        refine ⟨by unfold e_X0_addDevice; rw [e0, f0, if_pos m3]; rfl, rfl, ?_, nd + 1, nn, mi, ?_, ?_⟩
        · unfold r_X0_addDevice r_X1_addDevice
          rw [if_neg n1, if_neg n2, if_neg n3, a4, a7, nI_1, nI_pred]
        · have hb := fun i => bt_bitOf (d := nd) (by omega) i
          refine ⟨⟨⟨by omega, a2, a3⟩, ⟨rfl, a5, a6⟩, ⟨rfl, a8, a9⟩, a10⟩, fun e he => ?_, fun i hi => ?_, fun n hn => ?_, hK⟩
          · obtain ⟨⟨b1, b2⟩, ⟨b3, b4, b5⟩, b6, b7, b8⟩ := hD e he
            refine ⟨⟨?_, b2⟩, ⟨?_, b4, b5⟩, b6, ?_, b8⟩
            · show bt ((u.1 3) ||| (r_X0_bitOf (nI nd))) e = decide (¬ upd (v.2 5) nd 1 e = 0)
              rw [b_or, hb]
              by_cases w : e = nd
              · subst w
                rw [pk_us, decide_eq_true rfl, Bool.or_true, decide_eq_true ne10]
              · rw [pk_un w, decide_eq_false w, Bool.or_false]; exact b1
            · show upd (u.2 5) nd p2 e = upd (v.2 4) nd p2 e
              by_cases w : e = nd
              · subst w; rw [pk_us, pk_us]
              · rw [pk_un w, pk_un w]; exact b3
            · show okT (upd (v.2 4) nd p2 e).toInt (v.2 8 e).toInt (v.2 9 e).toInt
              by_cases w : e = nd
              · subst w; rw [pk_us]; exact ⟨⟨l3, l4⟩, b7.2⟩
              · rw [pk_un w]; exact b7
          · obtain ⟨b1, b2, b3⟩ := hL i hi
            refine ⟨?_, fun q => b2 (by omega), fun us' hus' => ?_⟩
            · show bt ((u.1 2) ||| (r_X0_bitOf (nI nd))) i = (decide (i < nd + 1) && decide (v.2 7 i = 0))
              rw [b_or, hb, b1]
              by_cases w : i = nd
              · subst w
                rw [decide_eq_true rfl, Bool.or_true, decide_eq_true (Nat.lt_succ_self i), decide_eq_true (b2 (Nat.le_refl i))]; rfl
              · rw [decide_eq_false w, Bool.or_false, dec_succ_ne w]
            · show bt (upd (u.2 0) us ((u.2 0 us) ||| (r_X0_bitOf (nI nd))) us') i = (decide (i < nd + 1) && decide (upd (v.2 3) nd (nI us) i = nI us'))
              have b4 := b3 us' hus'
              by_cases w : i = nd
              · subst w
                rw [pk_us, decide_eq_true (Nat.lt_succ_self i), Bool.true_and]
                rw [decide_eq_false (Nat.lt_irrefl i), Bool.false_and] at b4
                by_cases w2 : us' = us
                · subst w2
                  rw [pk_us, b_or, hb, decide_eq_true rfl, Bool.or_true, decide_eq_true rfl]
                · rw [pk_un w2, b4, decide_eq_false]
                  intro q
                  exact w2 ((nI_eq (by omega) (by omega)).mp q).symm
              · rw [pk_un w, dec_succ_ne w]
                by_cases w2 : us' = us
                · subst w2
                  rw [pk_us, b_or, hb, decide_eq_false w, Bool.or_false]; exact b4
                · rw [pk_un w2]; exact b4
          · obtain ⟨c1, c2, c3⟩ := hN n hn
            refine ⟨c1, c2, fun q => ?_⟩
            obtain ⟨d1, d2, d3, d4, d5⟩ := c3 q
            exact ⟨d1, d2, d3, d4, fun i q1 q2 => d5 i (by omega) q2⟩
        · intro e he n hn hb
          have hb1 : bt (v.2 19 n) e = true := hb
          by_cases w : e = nd
          · subst w
            exfalso
            obtain ⟨c1, c2, c3⟩ := hN n (by omega)
            obtain ⟨d1, d2, d3, d4, d5⟩ := c3 hn
            by_cases o : v.2 18 n = 0
            · rw [← d3 o, d5 e (Nat.le_refl _) (by omega)] at hb1; cases hb1
            · rw [d4 o, b_0] at hb1; cases hb1
          · have t := hS e (by omega) n hn hb1
            unfold tkM usedM H1 at t ⊢
            show tk (decide (¬ upd (v.2 5) nd 1 e = 0)) (decide (¬ v.2 6 e = 0)) (qz mi (upd (v.2 4) nd p2 e).toInt (v.2 8 e).toInt (v.2 9 e).toInt) _ _ _ = false
            rw [pk_un w, pk_un w]
            exact t
theorem kill0 (u : SX) {d : Nat} : ∀ k, k ≤ 120 → (l_X0_kill_47 u (nI d) k).1 = upd u.1 2 (r_X0_changed (u.1 2) (nI d) 0) ∧ (∀ j, j ≠ 13 → (l_X0_kill_47 u (nI d) k).2 j = u.2 j) ∧ (∀ n, (l_X0_kill_47 u (nI d) k).2 13 n = if n < k then (u.2 13 n) &&& ((1 <<< (nI d &&& 31)) ^^^ (-1)) else u.2 13 n)
  | 0, _ => ⟨rfl, fun j _ => rfl, fun n => by rw [if_neg (Nat.not_lt_zero n)]; rfl⟩
  | k + 1, hk => by
    obtain ⟨i1, i2, i3⟩ := kill0 u (d := d) k (by omega)
    show (b_X0_kill_47 u (nI d) k (l_X0_kill_47 u (nI d) k)).1 = _ ∧ (∀ j, j ≠ 13 → (b_X0_kill_47 u (nI d) k (l_X0_kill_47 u (nI d) k)).2 j = u.2 j) ∧ (∀ n, (b_X0_kill_47 u (nI d) k (l_X0_kill_47 u (nI d) k)).2 13 n = _)
    generalize l_X0_kill_47 u (nI d) k = x at *
    unfold b_X0_kill_47
    rw [ixn (by omega)]
    refine ⟨i1, fun j hj => ?_, fun n => ?_⟩
    · rw [← i2 j hj]
      show va_up x.2 13 _ j = _
      simp only [va_up, if_neg hj]
    · show upd (x.2 13) k (r_X0_changed (x.2 13 k) (nI d) 0) n = _
      by_cases e : n = k
      · subst e
        rw [pk_us, i3 n, if_neg (Nat.lt_irrefl n), if_pos (Nat.lt_succ_self n)]
        unfold r_X0_changed
        rw [if_pos rfl]; rfl
      · rw [pk_un e, i3 n]
        by_cases q : n < k
        · rw [if_pos q, if_pos (by omega)]
        · rw [if_neg q, if_neg (by omega)]
theorem kill1 (v : SX) {d : Nat} (hd : d < 200) : ∀ k, k ≤ 120 → (l_X1_kill_50 v (nI d) k).1 = upd v.1 0 0 ∧ (∀ j, j ≠ 7 → j ≠ 19 → (l_X1_kill_50 v (nI d) k).2 j = v.2 j) ∧ (l_X1_kill_50 v (nI d) k).2 7 = upd (v.2 7) d 1 ∧ (∀ n, (l_X1_kill_50 v (nI d) k).2 19 n = if n < k then (v.2 19 n) &&& ((1 <<< (nI d &&& 31)) ^^^ (-1)) else v.2 19 n)
  | 0, _ => by
    unfold l_X1_kill_50
    rw [ixn hd]
    refine ⟨rfl, fun j h7 h19 => ?_, rfl, fun n => by rw [if_neg (Nat.not_lt_zero n)]; rfl⟩
    show va_up v.2 7 _ j = _
    simp only [va_up, if_neg h7]
  | k + 1, hk => by
    obtain ⟨i1, i2, i4, i3⟩ := kill1 v hd k (by omega)
    show (b_X1_kill_50 v (nI d) k (l_X1_kill_50 v (nI d) k)).1 = _ ∧ (∀ j, j ≠ 7 → j ≠ 19 → (b_X1_kill_50 v (nI d) k (l_X1_kill_50 v (nI d) k)).2 j = v.2 j) ∧ (b_X1_kill_50 v (nI d) k (l_X1_kill_50 v (nI d) k)).2 7 = _ ∧ (∀ n, (b_X1_kill_50 v (nI d) k (l_X1_kill_50 v (nI d) k)).2 19 n = _)
    generalize l_X1_kill_50 v (nI d) k = x at *
    unfold b_X1_kill_50
    rw [ixn (by omega)]
    refine ⟨i1, fun j h7 h19 => ?_, i4, fun n => ?_⟩
    · rw [← i2 j h7 h19]
      show va_up x.2 19 _ j = _
      simp only [va_up, if_neg h19]
    · show upd (x.2 19) k ((x.2 19 k) &&& ((1 <<< (nI d &&& 31)) ^^^ (-1))) n = _
      by_cases e : n = k
      · subst e
        rw [pk_us, i3 n, if_neg (Nat.lt_irrefl n), if_pos (Nat.lt_succ_self n)]
      · rw [pk_un e, i3 n]
        by_cases q : n < k
        · rw [if_pos q, if_pos (by omega)]
        · rw [if_neg q, if_neg (by omega)]
theorem D_kill : zD_kill RRw := by
  intro u v h p1
  have h0 := h
  obtain ⟨nd, nn, mi, hQ, hS⟩ := h
  rcases devC hQ p1 with ⟨i0, e3⟩ | ⟨d, hd, rfl, i1, e0⟩
  · right
    have hs : s_X1_kill v p1 = pF v 0 1 := by unfold s_X1_kill; rw [if_pos i0]
    have he : e_X0_kill u p1 = 3 := by unfold e_X0_kill; rw [e3]; rfl
    refine ⟨by rw [he]; decide, by rw [hs, he]; rfl, by rw [hs]; exact RRw_ref 1 h0⟩
  · have n1 : ¬ r_X1_isDevice v (nI d) = 0 := by rw [i1]; decide
    have hct := count_both (RQ_ref 0 hQ) (d := d) (by have := hQ.1.1.1; omega)
    obtain ⟨⟨⟨a1, a2, a3⟩, ⟨a4, a5, a6⟩, ⟨a7, a8, a9⟩, a10⟩, hD, hL, hN, hK⟩ := hQ
    have hal := (hL d (by omega)).1
    rw [decide_eq_true hd, Bool.true_and] at hal
    by_cases c : v.2 7 d = 0
    · left
      rw [decide_eq_true c] at hal
      have nh : ¬ r_X0_has (u.1 2) (nI d) = 0 := by
        intro q
        rw [(has_iff _ (by omega)).mp q] at hal; cases hal
      have hs : s_X1_kill v (nI d) = l_X1_kill_50 v (nI d) nn := by
        unfold s_X1_kill
        rw [if_neg n1, ixn (by omega), if_pos c, a8, ixn (by omega)]
      have hs0 : s_X0_kill u (nI d) = l_X0_kill_47 u (nI d) nn := by
        unfold s_X0_kill
        rw [a5, ixn (by omega)]
      obtain ⟨x1, x2, x3⟩ := kill0 u (d := d) nn a2
      obtain ⟨y1, y2, y4, y3⟩ := kill1 v (d := d) (by omega) nn a2
      rw [hs, hs0]
      have he : e_X0_kill u (nI d) = 0 := by unfold e_X0_kill; rw [e0, if_pos rfl, if_neg nh]
      have hr : r_X0_kill u (nI d) = r_X1_kill v (nI d) := by
        unfold r_X0_kill r_X1_kill
        rw [if_neg n1, ixn (by omega), if_pos c]
        exact hct
      generalize l_X0_kill_47 u (nI d) nn = x at *
      generalize l_X1_kill_50 v (nI d) nn = y at *
      have y2' : ∀ j, j ≠ 7 → j ≠ 19 → ∀ e, y.2 j e = v.2 j e := fun j p q e => by rw [y2 j p q]
      have x2' : ∀ j, j ≠ 13 → ∀ e, x.2 j e = u.2 j e := fun j p e => by rw [x2 j p]
      have y1' : ∀ j, j ≠ 0 → y.1 j = v.1 j := fun j p => by rw [y1, pk_un p]
      have x1' : ∀ j, j ≠ 2 → x.1 j = u.1 j := fun j p => by rw [x1, pk_un p]
      refine ⟨he, by rw [y1, pk_us], hr, nd, nn, mi, ⟨⟨⟨a1, a2, a3⟩, ⟨?_, ?_, ?_⟩, ⟨?_, ?_, ?_⟩, ?_⟩, fun e he => ?_, fun i hi => ?_, fun n hn => ?_, fun us hus ky hky => ?_⟩, fun e he n hn hb => ?_⟩
      · rw [x1' 10 (by decide)]; exact a4
      · rw [x1' 16 (by decide)]; exact a5
      · rw [x1' 17 (by decide)]; exact a6
      · rw [y1' 2 (by decide)]; exact a7
      · rw [y1' 13 (by decide)]; exact a8
      · rw [y1' 1 (by decide)]; exact a9
      · rw [x1' 18 (by decide), y1' 21 (by decide)]; exact a10
      · have t := hD e he
        unfold qD at t ⊢
        rw [x1' 3 (by decide), x1' 4 (by decide), x2 5 (by decide), x2 6 (by decide), x2 7 (by decide), x2 8 (by decide), x2 9 (by decide), x2 1 (by decide), y2 5 (by decide) (by decide), y2 6 (by decide) (by decide), y2 4 (by decide) (by decide), y2 8 (by decide) (by decide), y2 9 (by decide) (by decide), y2 10 (by decide) (by decide), y2 11 (by decide) (by decide), y2 12 (by decide) (by decide)]
        exact t
      · obtain ⟨b1, b2, b3⟩ := hL i hi
        unfold qL
        rw [x1, pk_us, x2 0 (by decide), y4, y2 3 (by decide) (by decide), bt_ch0 _ (by omega), b1]
        refine ⟨?_, fun q => ?_, b3⟩
        · by_cases w : i = d
          · subst w
            rw [pk_us, decide_eq_true rfl, decide_eq_false ne10, Bool.not_true, Bool.and_false, Bool.and_false]
          · rw [pk_un w, decide_eq_false w, Bool.not_false, Bool.and_true]
        · rw [pk_un (by omega)]; exact b2 q
      · obtain ⟨b1, b2, b3⟩ := hN n hn
        unfold qN
        rw [x2 14 (by decide), x2 11 (by decide), x2 12 (by decide), y2 20 (by decide) (by decide), y2 18 (by decide) (by decide), y2 14 (by decide) (by decide), y2 15 (by decide) (by decide)]
        refine ⟨b1, b2, fun q => ?_⟩
        obtain ⟨d1, d2, d3, d4, d5⟩ := b3 q
        rw [x3 n, y3 n, if_pos q, if_pos q]
        refine ⟨d1, d2, fun o => ?_, fun o => ?_, fun i q1 q2 => ?_⟩
        · rw [d3 o]
        · apply b_ext
          intro i hi
          rw [b_and, d4 o, b_0, Bool.false_and]
        · rw [b_and, d5 i q1 q2, Bool.false_and]
      · have t := hK us hus ky hky
        unfold qK at t ⊢
        rw [x2 15 (by decide), y2 16 (by decide) (by decide), y2 17 (by decide) (by decide), y2 18 (by decide) (by decide)]
        exact t
      · rw [y3 n, if_pos hn, b_and] at hb
        have hb1 : bt (v.2 19 n) e = true := by
          cases z : bt (v.2 19 n) e
          · rw [z, Bool.false_and] at hb; cases hb
          · rfl
        have t := hS e he n hn hb1
        unfold tkM usedM H1 at t ⊢
        rw [y2 5 (by decide) (by decide), y2 6 (by decide) (by decide), y2 4 (by decide) (by decide), y2 8 (by decide) (by decide), y2 9 (by decide) (by decide), y2 14 (by decide) (by decide), y2 11 (by decide) (by decide), y2 12 (by decide) (by decide)]
        exact t
    · right
      rw [decide_eq_false c] at hal
      have hh : r_X0_has (u.1 2) (nI d) = 0 := (has_iff _ (by omega)).mpr hal
      have hs : s_X1_kill v (nI d) = pF v 0 2 := by
        unfold s_X1_kill
        rw [if_neg n1, ixn (by omega), if_neg c]
      have he : e_X0_kill u (nI d) = 2 := by unfold e_X0_kill; rw [e0, if_pos rfl, if_pos hh]
      refine ⟨by rw [he]; decide, by rw [hs, he]; rfl, by rw [hs]; exact RRw_ref 2 h0⟩
theorem end_both {nd nn mi m : Nat} {u v : SX} (h : RQ nd nn mi u v) (hm : m < nn) : RQ nd nn mi (pG u 12 m (u.1 17)) (pG (pG v 18 m 1) 19 m 0) := by
  obtain ⟨⟨⟨a1, a2, a3⟩, ⟨a4, a5, a6⟩, ⟨a7, a8, a9⟩, a10⟩, hD, hL, hN, hK⟩ := h
  refine ⟨⟨⟨a1, a2, a3⟩, ⟨a4, a5, a6⟩, ⟨a7, a8, a9⟩, a10⟩, hD, hL, fun n hn => ?_, fun us hus ky hky => ?_⟩
  · obtain ⟨b1, b2, b3⟩ := hN n hn
    show u.2 14 n = v.2 20 n ∧ (nn ≤ n → upd (v.2 18) m 1 n = 0) ∧ (n < nn → u.2 11 n = v.2 14 n ∧ (∃ f : Nat, f ≤ 200000 ∧ upd (u.2 12) m (u.1 17) n = nI f ∧ (upd (v.2 18) m 1 n = 0 ↔ mi < f) ∧ (upd (v.2 18) m 1 n = 0 → v.2 15 n = nI f)) ∧ (upd (v.2 18) m 1 n = 0 → u.2 13 n = upd (v.2 19) m 0 n) ∧ (¬ upd (v.2 18) m 1 n = 0 → upd (v.2 19) m 0 n = 0) ∧ ∀ i, nd ≤ i → i < 32 → bt (u.2 13 n) i = false)
    by_cases e : n = m
    · subst e
      rw [pk_us, pk_us, pk_us]
      refine ⟨b1, fun q => absurd hm (by omega), fun q => ?_⟩
      obtain ⟨d1, d2, d3, d4, d5⟩ := b3 q
      refine ⟨d1, ⟨mi, by omega, a6, ?_, fun o => absurd o ne10⟩, fun o => absurd o ne10, fun _ => rfl, d5⟩
      exact ⟨fun o => absurd o ne10, fun o => absurd o (Nat.lt_irrefl mi)⟩
    · rw [pk_un e, pk_un e, pk_un e]
      exact ⟨b1, b2, b3⟩
  · have t := hK us hus ky hky
    rcases t with t | ⟨k, k1, k2, k3, k4, k5⟩
    · exact Or.inl t
    · refine Or.inr ⟨k, k1, k2, k3, k4, fun n q1 q2 q3 q4 => ?_⟩
      show ¬ upd (v.2 18) m 1 n = 0
      by_cases e : n = m
      · subst e; rw [pk_us]; exact ne10
      · rw [pk_un e]; exact k5 n q1 q2 q3 q4
theorem end_S {nd nn mi m : Nat} {v : SX} (h : qS nd nn mi v) : qS nd nn mi (pG (pG v 18 m 1) 19 m 0) := by
  intro d hd n hn hb
  have hb1 : bt (v.2 19 n) d = true := by
    have hb2 : bt (upd (v.2 19) m 0 n) d = true := hb
    by_cases e : n = m
    · subst e; rw [pk_us, b_0] at hb2; cases hb2
    · rw [pk_un e] at hb2; exact hb2
  have t := h d hd n hn hb1
  unfold tkM usedM H1 at t ⊢
  exact t
theorem D_read : zD_read RRw := by
  intro u v h p1 p2
  have h0 := h
  obtain ⟨nd, nn, mi, hQ, hS⟩ := h
  rcases devC hQ p1 with ⟨i0, e3⟩ | ⟨d, hd, rfl, i1, e0⟩
  · right
    have hs : s_X1_read v p1 p2 = pF v 0 1 := by unfold s_X1_read; rw [if_pos i0]
    have he : e_X0_read u p1 p2 = 3 := by unfold e_X0_read; rw [e3]; rfl
    refine ⟨by rw [he]; decide, by rw [hs, he]; rfl, by rw [hs]; exact RRw_ref 1 h0⟩
  · have n1 : ¬ r_X1_isDevice v (nI d) = 0 := by rw [i1]; decide
    rcases notC hQ p2 with ⟨j0, f3⟩ | ⟨n, hn, rfl, j1, f0⟩
    · right
      have hs : s_X1_read v (nI d) p2 = pF v 0 1 := by unfold s_X1_read; rw [if_neg n1, if_pos j0]
      have he : e_X0_read u (nI d) p2 = 3 := by unfold e_X0_read; rw [e0, f3]; rfl
      refine ⟨by rw [he]; decide, by rw [hs, he]; rfl, by rw [hs]; exact RRw_ref 1 h0⟩
    · have n2 : ¬ r_X1_isNotice v (nI n) = 0 := by rw [j1]; decide
      have hnd := hQ.1.1.1
      have hnn := hQ.1.1.2.1
      have hst := stands_both hQ hn
      have hwt := waits_both hQ hn
      have hdel := (hQ.2.2.2.1 n (by omega)).1
      have hhas := has01 (u.2 14 n) (d := d) (by omega)
      have hb := bt_shr1 (v.2 20 n) (d := d) (by omega)
      rw [hdel] at hhas
      have refuse : e_X0_read u (nI d) (nI n) = 2 → s_X1_read v (nI d) (nI n) = pF v 0 2 → (e_X0_read u (nI d) (nI n) = 0 ∧ (s_X1_read v (nI d) (nI n)).1 0 = 0 ∧ r_X0_read u (nI d) (nI n) = r_X1_read v (nI d) (nI n) ∧ RRw (s_X0_read u (nI d) (nI n)) (s_X1_read v (nI d) (nI n))) ∨ (e_X0_read u (nI d) (nI n) ≠ 0 ∧ (s_X1_read v (nI d) (nI n)).1 0 = (if e_X0_read u (nI d) (nI n) = 3 then 1 else 2) ∧ RRw u (s_X1_read v (nI d) (nI n))) := by
        intro he hs
        right
        refine ⟨by rw [he]; decide, by rw [hs, he]; rfl, by rw [hs]; exact RRw_ref 2 h0⟩
      cases z : bt (v.2 20 n) d with
      | false =>
        rw [z, if_neg (show ¬ (false = true) by decide)] at hhas hb
        refine refuse ?_ ?_
        · unfold e_X0_read
          rw [e0, if_pos rfl, f0, if_pos rfl, ixn (by omega), hdel, if_pos hhas]
        · unfold s_X1_read
          rw [if_neg n1, if_neg n2, ixn (by omega), hb, if_neg (show ¬ ((0 : Int32) = 1) by decide)]
      | true =>
        rw [z, if_pos rfl] at hhas hb
        by_cases o : v.2 18 n = 0
        · left
          rw [if_pos o] at hst
          have he : e_X0_read u (nI d) (nI n) = 0 := by
            unfold e_X0_read
            rw [e0, if_pos rfl, f0, if_pos rfl, ixn (by omega), hdel, hhas, if_neg ne10, hst, if_neg ne10]
          have hs : s_X1_read v (nI d) (nI n) = pG (pG (pF v 0 0) 18 n 1) 19 n 0 := by
            unfold s_X1_read
            rw [if_neg n1, if_neg n2, ixn (by omega), hb, if_pos rfl, if_pos o]; rfl
          have hs0 : s_X0_read u (nI d) (nI n) = pG u 12 n (u.1 17) := by
            unfold s_X0_read s_X0_withdraw
            rw [ixn (by omega)]
          have hr : r_X0_read u (nI d) (nI n) = r_X1_read v (nI d) (nI n) := by
            unfold r_X0_read r_X1_read
            rw [if_neg n1, if_neg n2, ixn (by omega), hb, if_pos rfl, if_pos o, hwt]
            obtain ⟨_, _, c⟩ := hQ.2.2.2.1 n (by omega)
            obtain ⟨_, _, d3, _, d5⟩ := c hn
            rw [d3 o] at d5
            exact (bits_J6 fun i q1 q2 => d5 i (by omega) q2).symm
          rw [hs, hs0]
          exact ⟨he, rfl, hr, nd, nn, mi, end_both (RQ_ref 0 hQ) hn, end_S (qS_ref 0 hS)⟩
        · rw [if_neg o] at hst
          refine refuse ?_ ?_
          · unfold e_X0_read
            rw [e0, if_pos rfl, f0, if_pos rfl, ixn (by omega), hdel, hhas, if_neg ne10, hst, if_pos rfl]
          · unfold s_X1_read
            rw [if_neg n1, if_neg n2, ixn (by omega), hb, if_pos rfl, if_neg o]
theorem D_pass : zD_pass RRw := by
  intro u v h p1
  have h0 := h
  obtain ⟨nd, nn, mi, hQ, hS⟩ := h
  have a3 := hQ.1.1.2.2
  have a6 := hQ.1.2.1.2.2
  have a9 := hQ.1.2.2.1.2.2
  rcases winC p1 1 3000 with ⟨i0', e1⟩ | ⟨i1, e0, l1, l2⟩
  · right
    have hs : s_X1_pass v p1 = pF v 0 1 := by unfold s_X1_pass; rw [if_pos i0']
    have he : e_X0_pass u p1 = 1 := by unfold e_X0_pass; rw [e1]; rfl
    refine ⟨by rw [he]; decide, by rw [hs, he]; rfl, by rw [hs]; exact RRw_ref 1 h0⟩
  · have n1 : ¬ r_X1_in p1 1 3000 = 0 := by rw [i1]; decide
    have m1 : (1 : Int32).toInt = 1 := rfl
    have m2 : (3000 : Int32).toInt = 3000 := rfl
    rw [m1] at l1
    rw [m2] at l2
    obtain ⟨P, hP, rfl⟩ := nI_range (p := p1) (n := 3000) (by omega) (by omega) (by omega)
    have eu : u.1 17 + nI P = nI (mi + P) := by rw [a6, nI_add]
    have ev : v.1 1 + nI P = nI (mi + P) := by rw [a9, nI_add]
    by_cases c : mi + P ≤ 100000
    · left
      have c2 : nI (mi + P) ≤ 100000 := nI_le (b := 100000) c (by omega)
      have he : e_X0_pass u (nI P) = 0 := by unfold e_X0_pass; rw [e0, eu, if_pos rfl, if_pos c2]
      have hs : s_X1_pass v (nI P) = (l_X1_pass_44 v (nI P) P).1 := by
        unfold s_X1_pass
        rw [if_neg n1, ev, if_pos c2]
        show (l_X1_pass_44 v (nI P) (nI P).toNatClampNeg).1 = _
        rw [nI_clamp (by omega)]
      have hr : r_X1_pass v (nI P) = (l_X1_pass_44 v (nI P) P).2 := by
        unfold r_X1_pass
        rw [if_neg n1, ev, if_pos c2]
        show (l_X1_pass_44 v (nI P) (nI P).toNatClampNeg).2 = _
        rw [nI_clamp (by omega)]
      have hs0 : s_X0_pass u (nI P) = (l_X0_pass_41 u (nI P) P).1 := by
        unfold s_X0_pass
        show (l_X0_pass_41 u (nI P) (nI P).toNatClampNeg).1 = _
        rw [nI_clamp (by omega)]
      have hr0 : r_X0_pass u (nI P) = (l_X0_pass_41 u (nI P) P).2 := by
        unfold r_X0_pass
        show (l_X0_pass_41 u (nI P) (nI P).toNatClampNeg).2 = _
        rw [nI_clamp (by omega)]
      obtain ⟨m, q1, q2, q3, r1, r2, r3⟩ := pass_sim hQ hS c P
      have em : m = mi + P := by omega
      subst em
      rw [show mi + P - mi = P by omega] at r1 r2 r3
      rw [hs, hr, hs0, hr0]
      exact ⟨he, pass_44_0 v (nI P) P, r3, nd, nn, mi + P, r1, r2⟩
    · right
      have c2 : ¬ nI (mi + P) ≤ 100000 := nI_ge (a := 100000) (by omega) (by omega)
      have hs : s_X1_pass v (nI P) = pF v 0 2 := by unfold s_X1_pass; rw [if_neg n1, ev, if_neg c2]
      have he : e_X0_pass u (nI P) = 2 := by unfold e_X0_pass; rw [e0, eu, if_pos rfl, if_neg c2]
      refine ⟨by rw [he]; decide, by rw [hs, he]; rfl, by rw [hs]; exact RRw_ref 2 h0⟩
