/-! ===== keys: standing; what is sent ===== -/
theorem plc (us ky : Nat) : r_X0_placeOf (nI us) (nI ky) = nI (us * 10 + ky) := by
  unfold r_X0_placeOf
  rw [show (10 : Int32) = nI 10 from rfl, pk_mul, nI_add]
theorem nI_nm1 {n : Nat} (hn : n < 200) : ¬ nI n = -1 := by
  intro q
  have e := (fa_eq _ _).mp q
  rw [nI_toInt (by omega)] at e
  have e2 : (-1 : Int32).toInt = -1 := rfl
  rw [e2] at e
  omega
theorem stl_b (v : SX) (p q : Int32) (k : Nat) (hk : k < 200) (x : Int32) : b_X1_standingNow_5 v p q k x = if (v.2 16 k = p ∧ v.2 17 k = q ∧ v.2 18 k = 0) then nI k else x := by
  unfold b_X1_standingNow_5
  rw [ixn hk]
  by_cases a : v.2 16 k = p
  · by_cases b : v.2 17 k = q
    · by_cases c : v.2 18 k = 0
      · rw [if_pos a, if_pos b, if_pos c, if_pos ⟨a, b, c⟩]
      · rw [if_pos a, if_pos b, if_neg c, if_neg (fun z => c z.2.2)]
    · rw [if_pos a, if_neg b, if_neg (fun z => b z.2.1)]
  · rw [if_neg a, if_neg (fun z => a z.1)]
theorem stl_none (v : SX) (p q : Int32) : ∀ k, k ≤ 120 → (∀ n, n < k → ¬ (v.2 16 n = p ∧ v.2 17 n = q ∧ v.2 18 n = 0)) → l_X1_standingNow_5 v p q k = -1
  | 0, _, _ => rfl
  | k + 1, hk, h => by
    show b_X1_standingNow_5 v p q k (l_X1_standingNow_5 v p q k) = -1
    rw [stl_b v p q k (by omega), if_neg (h k (by omega)), stl_none v p q k (by omega) (fun n hn => h n (by omega))]
theorem stl_one (v : SX) (p q : Int32) {m : Nat} (hq : v.2 16 m = p ∧ v.2 17 m = q ∧ v.2 18 m = 0) : ∀ k, k ≤ 120 → m < k → (∀ n, n < k → n ≠ m → ¬ (v.2 16 n = p ∧ v.2 17 n = q ∧ v.2 18 n = 0)) → l_X1_standingNow_5 v p q k = nI m
  | 0, _, hm, _ => absurd hm (Nat.not_lt_zero m)
  | k + 1, hk, hm, h => by
    show b_X1_standingNow_5 v p q k (l_X1_standingNow_5 v p q k) = nI m
    rw [stl_b v p q k (by omega)]
    by_cases e : k = m
    · subst e; rw [if_pos hq]
    · rw [if_neg (h k (by omega) e), stl_one v p q hq k (by omega) (by omega) (fun n hn => h n (by omega))]
theorem stNow {nd nn mi : Nat} {u v : SX} (h : RQ nd nn mi u v) {us ky : Nat} (hus : us < 8) (hky : ky < 10) :
    (r_X0_standing u (nI us) (nI ky) = -1 ∧ r_X1_standingNow v (nI us) (nI ky) = -1 ∧ s_X0_replaceKey u (nI us) (nI ky) = pG u 15 (us * 10 + ky) (nI nn) ∧ ∀ n, n < nn → v.2 16 n = nI us → v.2 17 n = nI ky → ¬ v.2 18 n = 0)
    ∨ (∃ m, m < nn ∧ r_X0_standing u (nI us) (nI ky) = nI m ∧ r_X1_standingNow v (nI us) (nI ky) = nI m ∧ s_X0_replaceKey u (nI us) (nI ky) = pG (pG u 12 m (u.1 17)) 15 (us * 10 + ky) (nI nn) ∧ ∀ n, n < nn → n ≠ m → v.2 16 n = nI us → v.2 17 n = nI ky → ¬ v.2 18 n = 0) := by
  have hnn := h.1.1.2.1
  have h16 := h.1.2.1.2.1
  have h13 := h.1.2.2.1.2.1
  have hst := fun n hn => stands_both h (n := n) hn
  have t := h.2.2.2.2 us hus ky hky
  have eN : r_X1_standingNow v (nI us) (nI ky) = l_X1_standingNow_5 v (nI us) (nI ky) nn := by
    unfold r_X1_standingNow
    rw [h13, ixn (by omega)]
  have eP : ix (r_X0_placeOf (nI us) (nI ky)) = us * 10 + ky := by rw [plc, ixn (by omega)]
  unfold r_X0_standing s_X0_replaceKey
  rw [eN, eP]
  unfold qK at t
  rcases t with ⟨t1, t2⟩ | ⟨m, m1, m2, m3, m4, m5⟩
  · left
    rw [if_pos t1, if_pos t1, h16]
    exact ⟨rfl, stl_none v _ _ nn hnn (fun n hn q => t2 n hn ⟨q.1, q.2.1⟩), rfl, fun n hn a b => absurd ⟨a, b⟩ (t2 n hn)⟩
  · have g : ¬ u.2 15 (us * 10 + ky) = -1 := by rw [m2]; exact nI_nm1 (by omega)
    rw [if_neg g, if_neg g, m2, hst m m1]
    by_cases o : v.2 18 m = 0
    · right
      rw [if_pos o, if_neg ne10, if_neg ne10]
      refine ⟨m, m1, rfl, stl_one v _ _ ⟨m3, m4, o⟩ nn hnn m1 (fun n hn e q => m5 n hn e q.1 q.2.1 q.2.2), ?_, m5⟩
      unfold s_X0_withdraw
      rw [ixn (by omega)]
      show pG (pG u 12 m (u.1 17)) 15 (us * 10 + ky) (u.1 16) = _
      rw [h16]
    · left
      rw [if_neg o, if_pos rfl, if_pos rfl, h16]
      have all : ∀ n, n < nn → v.2 16 n = nI us → v.2 17 n = nI ky → ¬ v.2 18 n = 0 := by
        intro n hn a b
        by_cases e : n = m
        · subst e; exact o
        · exact m5 n hn e a b
      exact ⟨rfl, stl_none v _ _ nn hnn (fun n hn q => all n hn q.1 q.2.1 q.2.2), rfl, all⟩
theorem D_standing : zD_standing RRw := by
  intro u v h p1 p2
  have h0 := h
  obtain ⟨nd, nn, mi, hQ, hS⟩ := h
  rcases winC p1 0 7 with ⟨i0', e1⟩ | ⟨i1, e0, l1, l2⟩
  · right
    have hs : s_X1_standing v p1 p2 = pF v 0 1 := by unfold s_X1_standing; rw [if_pos i0']
    have he : e_X0_standing u p1 p2 = 1 := by unfold e_X0_standing; rw [e1]; rfl
    refine ⟨by rw [he]; decide, by rw [hs]; rfl, by rw [hs]; exact RRw_ref 1 h0⟩
  · have n1 : ¬ r_X1_in p1 0 7 = 0 := by rw [i1]; decide
    rcases winC p2 0 9 with ⟨j0, f1⟩ | ⟨j1, f0, l3, l4⟩
    · right
      have hs : s_X1_standing v p1 p2 = pF v 0 1 := by unfold s_X1_standing; rw [if_neg n1, if_pos j0]
      have he : e_X0_standing u p1 p2 = 1 := by unfold e_X0_standing; rw [e0, f1]; rfl
      refine ⟨by rw [he]; decide, by rw [hs]; rfl, by rw [hs]; exact RRw_ref 1 h0⟩
    · left
      have n2 : ¬ r_X1_in p2 0 9 = 0 := by rw [j1]; decide
      obtain ⟨us, hus, rfl⟩ := nI_range (p := p1) (n := 7) (by rw [i0] at l1; exact l1) (by have : (7 : Int32).toInt = 7 := rfl; rw [this] at l2; omega) (by omega)
      obtain ⟨ky, hky, rfl⟩ := nI_range (p := p2) (n := 9) (by rw [i0] at l3; exact l3) (by have : (9 : Int32).toInt = 9 := rfl; rw [this] at l4; omega) (by omega)
      have hs : s_X1_standing v (nI us) (nI ky) = pF v 0 0 := by unfold s_X1_standing; rw [if_neg n1, if_neg n2]
      have hr : r_X1_standing v (nI us) (nI ky) = r_X1_standingNow (pF v 0 0) (nI us) (nI ky) := by unfold r_X1_standing; rw [if_neg n1, if_neg n2]
      rw [hs, hr]
      refine ⟨by unfold e_X0_standing; rw [e0, f0]; rfl, rfl, ?_, RRw_ref 0 h0⟩
      rcases stNow (RQ_ref 0 hQ) (us := us) (ky := ky) (by omega) (by omega) with ⟨a, b, _⟩ | ⟨m, _, a, b, _⟩
      · rw [a, b]
      · rw [a, b]
theorem qK_keep {nn us ky : Nat} {u u' v v' : SX} (h : qK nn u v us ky) (e15 : u'.2 15 (us * 10 + ky) = u.2 15 (us * 10 + ky)) (e16 : ∀ n, n < nn → v'.2 16 n = v.2 16 n) (e17 : ∀ n, n < nn → v'.2 17 n = v.2 17 n) (e18 : ∀ n, n < nn → ¬ v.2 18 n = 0 → ¬ v'.2 18 n = 0) (hnew : ¬ (v'.2 16 nn = nI us ∧ v'.2 17 nn = nI ky)) : qK (nn + 1) u' v' us ky := by
  unfold qK at h ⊢
  rw [e15]
  rcases h with ⟨t1, t2⟩ | ⟨m, m1, m2, m3, m4, m5⟩
  · refine Or.inl ⟨t1, fun n hn => ?_⟩
    rcases Nat.lt_or_ge n nn with q | q
    · rw [e16 n q, e17 n q]; exact t2 n q
    · have : n = nn := by omega
      subst this; exact hnew
  · refine Or.inr ⟨m, by omega, m2, by rw [e16 m m1]; exact m3, by rw [e17 m m1]; exact m4, fun n hn e a b => ?_⟩
    rcases Nat.lt_or_ge n nn with q | q
    · rw [e16 n q] at a
      rw [e17 n q] at b
      exact e18 n q (m5 n q e a b)
    · have : n = nn := by omega
      subst this; exact absurd ⟨a, b⟩ hnew
theorem qK_new {nn us ky : Nat} {u' v' : SX} (e15 : u'.2 15 (us * 10 + ky) = nI nn) (e16 : v'.2 16 nn = nI us) (e17 : v'.2 17 nn = nI ky) (ho : ∀ n, n < nn → v'.2 16 n = nI us → v'.2 17 n = nI ky → ¬ v'.2 18 n = 0) : qK (nn + 1) u' v' us ky :=
  Or.inr ⟨nn, Nat.lt_succ_self nn, e15, e16, e17, fun n hn e a b => ho n (by omega) a b⟩
theorem add_all {nd nn mi L : Nat} {u v : SX} {us key hi A T : Int32} (hA : qA nd nn mi u v) (hD : ∀ d, d < 16 → qD u v d) (hL : ∀ i, i < 32 → qL nd u v i) (hN : ∀ n, n < 120 → qN nd nn mi u v n) (hnn : nn < 120) (hz : z01 hi) (hL1 : 1 ≤ L) (hL2 : L ≤ 10000) (hAT : ∀ i, i < 32 → bt (A &&& u.1 2) i = bt T i) (hT : ∀ i, nd ≤ i → i < 32 → bt T i = false)
    (hK : ∀ us', us' < 8 → ∀ ky', ky' < 10 → qK (nn + 1) u (pG (pG v 16 nn us) 17 nn key) us' ky') :
    RRw (s_X0_sendTo u A hi (nI L)) (s_X1_add v us key hi (nI L) T) ∧ r_X0_sendTo u A hi (nI L) = r_X1_add v us key hi (nI L) T ∧ (s_X1_add v us key hi (nI L) T).1 0 = v.1 0 := by
  obtain ⟨⟨a1, a2, a3⟩, ⟨a4, a5, a6⟩, ⟨a7, a8, a9⟩, a10⟩ := hA
  have eu : s_X0_sendTo u A hi (nI L) = s_X0_deliverNow (pG (pG (pG (pF u 16 (nI (nn + 1))) 11 nn hi) 12 nn (nI (mi + L))) 13 nn (A &&& u.1 2)) := by
    unfold s_X0_sendTo
    rw [a5, a6, ixn (by omega), b01 hz, nI_1, nI_add]
  have ev : s_X1_add v us key hi (nI L) T = s_X1_look (pF (pG (pG (pG (pG (pG v 16 nn us) 17 nn key) 14 nn hi) 15 nn (nI (mi + L))) 19 nn T) 13 (nI (nn + 1))) := by
    unfold s_X1_add
    rw [a8, a9, ixn (by omega), b01 hz, nI_1, nI_add]
  have er : r_X1_add v us key hi (nI L) T = nI nn := by
    have z : r_X1_add v us key hi (nI L) T = (s_X1_add v us key hi (nI L) T).1 13 - 1 := rfl
    rw [z, ev, s_X1_look_1 _ _ (by decide)]
    show nI (nn + 1) - 1 = _
    rw [nI_pred]
  have q : RQ nd (nn + 1) mi (pG (pG (pG (pF u 16 (nI (nn + 1))) 11 nn hi) 12 nn (nI (mi + L))) 13 nn (A &&& u.1 2)) (pF (pG (pG (pG (pG (pG v 16 nn us) 17 nn key) 14 nn hi) 15 nn (nI (mi + L))) 19 nn T) 13 (nI (nn + 1))) := by
    refine ⟨⟨⟨a1, by omega, a3⟩, ⟨a4, rfl, a6⟩, ⟨a7, rfl, a9⟩, a10⟩, hD, hL, fun n hn => ?_, hK⟩
    obtain ⟨b1, b2, b3⟩ := hN n hn
    show u.2 14 n = v.2 20 n ∧ (nn + 1 ≤ n → v.2 18 n = 0) ∧ (n < nn + 1 → upd (u.2 11) nn hi n = upd (v.2 14) nn hi n ∧ (∃ f : Nat, f ≤ 200000 ∧ upd (u.2 12) nn (nI (mi + L)) n = nI f ∧ (v.2 18 n = 0 ↔ mi < f) ∧ (v.2 18 n = 0 → upd (v.2 15) nn (nI (mi + L)) n = nI f)) ∧ (v.2 18 n = 0 → upd (u.2 13) nn (A &&& u.1 2) n = upd (v.2 19) nn T n) ∧ (¬ v.2 18 n = 0 → upd (v.2 19) nn T n = 0) ∧ ∀ i, nd ≤ i → i < 32 → bt (upd (u.2 13) nn (A &&& u.1 2) n) i = false)
    refine ⟨b1, fun q => b2 (by omega), fun q => ?_⟩
    by_cases e : n = nn
    · subst e
      have o := b2 (Nat.le_refl n)
      rw [pk_us, pk_us, pk_us, pk_us, pk_us, pk_us]
      refine ⟨rfl, ⟨mi + L, by omega, rfl, ⟨fun _ => by omega, fun _ => o⟩, fun _ => rfl⟩, fun _ => b_ext hAT, fun w => absurd o w, fun i p1 p2 => ?_⟩
      rw [hAT i p2]; exact hT i p1 p2
    · rw [pk_un e, pk_un e, pk_un e, pk_un e, pk_un e, pk_un e]
      exact b3 (by omega)
  obtain ⟨r1, r2⟩ := both q
  rw [eu, ev, er]
  refine ⟨r1, a5, ?_⟩
  rw [s_X1_look_1 _ _ (by decide)]; rfl
theorem send_bits (v : SX) (p1 p2 p3 p4 : Int32) (i : Nat) : ∀ k, k ≤ 16 → bt (l_X1_send_106 v p1 p2 p3 p4 k) i = (decide (i < k) && (decide (v.2 3 i = p1) && decide (v.2 7 i = 0)))
  | 0, _ => by rw [decide_eq_false (Nat.not_lt_zero i), Bool.false_and]; exact b_0 i
  | k + 1, hk => by
    have ih := send_bits v p1 p2 p3 p4 i k (by omega)
    show bt (b_X1_send_106 v p1 p2 p3 p4 k (l_X1_send_106 v p1 p2 p3 p4 k)) i = _
    have step : ∀ x : Int32, bt (b_X1_send_106 v p1 p2 p3 p4 k x) i = (bt x i || (decide (i = k) && (decide (v.2 3 k = p1) && decide (v.2 7 k = 0)))) := by
      intro x
      unfold b_X1_send_106
      rw [ixn (by omega)]
      by_cases a : v.2 3 k = p1
      · by_cases b : v.2 7 k = 0
        · rw [if_pos a, if_pos b, b_or, bt_sh1 (by omega), decide_eq_true a, decide_eq_true b, Bool.and_true, Bool.and_true]
        · rw [if_pos a, if_neg b, b_or, b_0, decide_eq_false b, Bool.and_false, Bool.and_false]
      · rw [if_neg a, b_or, b_0, decide_eq_false a, Bool.false_and, Bool.and_false]
    rw [step, ih]
    by_cases e : i = k
    · subst e
      rw [decide_eq_false (Nat.lt_irrefl i), decide_eq_true rfl, decide_eq_true (Nat.lt_succ_self i), Bool.false_and, Bool.false_or]
    · rw [decide_eq_false e, dec_succ_ne e, Bool.false_and, Bool.or_false]
theorem inKey {p : Int32} (h : ¬ p = -1) : r_X1_in p (-1) 9 = r_X1_in p 0 9 := by
  have m1 : (-1 : Int32).toInt = -1 := rfl
  have h2 : ¬ p.toInt = -1 := fun q => h ((fa_eq _ _).mpr (by rw [q, m1]))
  have e : (p < -1) ↔ (p < 0) := by rw [fa_lt, fa_lt, m1, i0]; omega
  unfold r_X1_in
  by_cases a : p < -1
  · rw [if_pos a, if_pos (e.mp a)]
  · rw [if_neg a, if_neg (fun z => a (e.mpr z))]
theorem room_C {nd nn mi : Nat} {u v : SX} (h : RQ nd nn mi u v) : (nn = 120 ∧ v.1 13 = 120 ∧ e_X0_requireRoomForNotice u = 2) ∨ (nn < 120 ∧ ¬ v.1 13 = 120 ∧ e_X0_requireRoomForNotice u = 0) := by
  have a2 := h.1.1.2.1
  have a5 := h.1.2.1.2.1
  have a8 := h.1.2.2.1.2.1
  unfold e_X0_requireRoomForNotice
  by_cases c : nn = 120
  · left
    refine ⟨c, by rw [a8, c]; rfl, ?_⟩
    rw [a5, c]; rfl
  · right
    refine ⟨by omega, fun q => c ((nI_eq (b := 120) (by omega) (by omega)).mp (by rw [← a8]; exact q)), ?_⟩
    have lt : nI nn < 120 := (nI_ltI (a := nn) (b := 120) (by omega) (by omega)).mpr (by omega)
    rw [a5, if_pos lt]
theorem D_send : zD_send RRw := by
  intro u v h p1 p2 p3 p4 hp
  have h0 := h
  obtain ⟨nd, nn, mi, hQ, hS⟩ := h
  rcases winC p1 0 7 with ⟨i0', e1⟩ | ⟨i1, e0, l1, l2⟩
  · right
    have hs : s_X1_send v p1 p2 p3 p4 = pF v 0 1 := by unfold s_X1_send; rw [if_pos i0']
    have he : e_X0_send u p1 p2 p3 p4 = 1 := by unfold e_X0_send; rw [e1]; rfl
    refine ⟨by rw [he]; decide, by rw [hs, he]; rfl, by rw [hs]; exact RRw_ref 1 h0⟩
  · have n1 : ¬ r_X1_in p1 0 7 = 0 := by rw [i1]; decide
    obtain ⟨us, hus, rfl⟩ := nI_range (p := p1) (n := 7) (by rw [i0] at l1; exact l1) (by have : (7 : Int32).toInt = 7 := rfl; rw [this] at l2; omega) (by omega)
    have hk : (¬ p2 = -1 ∧ r_X1_in p2 (-1) 9 = 0 ∧ e_X0_requireWithin p2 0 9 = 1) ∨ (r_X1_in p2 (-1) 9 = 1 ∧ (p2 = -1 ∨ (e_X0_requireWithin p2 0 9 = 0 ∧ ¬ p2 = -1 ∧ ∃ ky, ky < 10 ∧ p2 = nI ky))) := by
      by_cases c : p2 = -1
      · right
        exact ⟨by rw [c]; decide, Or.inl c⟩
      · rw [inKey c]
        rcases winC p2 0 9 with ⟨j0, f1⟩ | ⟨j1, f0, l3, l4⟩
        · exact Or.inl ⟨c, j0, f1⟩
        · right
          obtain ⟨ky, hky, e⟩ := nI_range (p := p2) (n := 9) (by rw [i0] at l3; exact l3) (by have : (9 : Int32).toInt = 9 := rfl; rw [this] at l4; omega) (by omega)
          exact ⟨j1, Or.inr ⟨f0, c, ky, by omega, e⟩⟩
    rcases hk with ⟨c, j0, f1⟩ | ⟨j1, hk⟩
    · right
      have hs : s_X1_send v (nI us) p2 p3 p4 = pF v 0 1 := by unfold s_X1_send; rw [if_neg n1, if_pos j0]
      have he : e_X0_send u (nI us) p2 p3 p4 = 1 := by unfold e_X0_send; rw [e0, if_pos rfl, if_neg c, f1]; rfl
      refine ⟨by rw [he]; decide, by rw [hs, he]; rfl, by rw [hs]; exact RRw_ref 1 h0⟩
    · have n2 : ¬ r_X1_in p2 (-1) 9 = 0 := by rw [j1]; decide
      have eT : e_X0_send u (nI us) p2 p3 p4 = (if (e_X0_requireWithin p4 1 10000) = 0 then (if (e_X0_requireRoomForNotice u ) = 0 then 0 else (e_X0_requireRoomForNotice u )) else (e_X0_requireWithin p4 1 10000)) := by
        unfold e_X0_send
        rw [e0, if_pos rfl]
        rcases hk with c | ⟨f0, c, _⟩
        · rw [if_pos c]
        · rw [if_neg c, f0, if_pos rfl]
      rcases winC p4 1 10000 with ⟨k0, g1⟩ | ⟨k1, g0, l5, l6⟩
      · right
        have hs : s_X1_send v (nI us) p2 p3 p4 = pF v 0 1 := by unfold s_X1_send; rw [if_neg n1, if_neg n2, if_pos k0]
        have he : e_X0_send u (nI us) p2 p3 p4 = 1 := by rw [eT, g1]; rfl
        refine ⟨by rw [he]; decide, by rw [hs, he]; rfl, by rw [hs]; exact RRw_ref 1 h0⟩
      · have n3 : ¬ r_X1_in p4 1 10000 = 0 := by rw [k1]; decide
        rcases room_C hQ with ⟨_, r1, r2⟩ | ⟨hnn, r1, r2⟩
        · right
          have hs : s_X1_send v (nI us) p2 p3 p4 = pF v 0 2 := by unfold s_X1_send; rw [if_neg n1, if_neg n2, if_neg n3, if_pos r1]
          have he : e_X0_send u (nI us) p2 p3 p4 = 2 := by rw [eT, g0, r2]; rfl
          refine ⟨by rw [he]; decide, by rw [hs, he]; rfl, by rw [hs]; exact RRw_ref 2 h0⟩
        · left
          have m1 : (1 : Int32).toInt = 1 := rfl
          have m2 : (10000 : Int32).toInt = 10000 := rfl
          rw [m1] at l5
          rw [m2] at l6
          obtain ⟨L, hLL, eL⟩ := nI_range (p := p4) (n := 10000) (by omega) (by omega) (by omega)
          have hL1 : 1 ≤ L := by rw [eL, nI_toInt (by omega)] at l5; omega
          have hnd := hQ.1.1.1
          have a7 := hQ.1.2.2.1.1
          have hz : e_X0_send u (nI us) p2 p3 p4 = 0 := by rw [eT, g0, r2]; rfl
          have hbits := fun i => send_bits v (nI us) p2 p3 p4 i nd hnd
          have hLq := hQ.2.2.1
          have hAT : ∀ i, i < 32 → bt ((u.2 0 us) &&& u.1 2) i = bt (l_X1_send_106 v (nI us) p2 p3 p4 nd) i := by
            intro i hi
            obtain ⟨b1, b2, b3⟩ := hLq i hi
            rw [b_and, b1, b3 us (by omega), hbits i]
            cases decide (i < nd) <;> cases decide (v.2 3 i = nI us) <;> cases decide (v.2 7 i = 0) <;> rfl
          have hTn : ∀ i, nd ≤ i → i < 32 → bt (l_X1_send_106 v (nI us) p2 p3 p4 nd) i = false := by
            intro i q1 q2
            rw [hbits i, decide_eq_false (by omega), Bool.false_and]
          have es : ∀ z, (if p2 = (-1) then (-1) else (r_X1_standingNow (pF v 0 0) (nI us) p2)) = z → s_X1_send v (nI us) p2 p3 p4 = (if z = (-1) then (s_X1_add (pF v 0 0) (nI us) p2 p3 p4 (l_X1_send_106 v (nI us) p2 p3 p4 nd)) else (s_X1_add (pG (pG (pF v 0 0) 18 (ix z) 1) 19 (ix z) 0) (nI us) p2 p3 p4 (l_X1_send_106 v (nI us) p2 p3 p4 nd))) ∧ r_X1_send v (nI us) p2 p3 p4 = (if z = (-1) then (r_X1_add (pF v 0 0) (nI us) p2 p3 p4 (l_X1_send_106 v (nI us) p2 p3 p4 nd)) else (r_X1_add (pG (pG (pF v 0 0) 18 (ix z) 1) 19 (ix z) 0) (nI us) p2 p3 p4 (l_X1_send_106 v (nI us) p2 p3 p4 nd))) := by
            intro z hz
            unfold s_X1_send r_X1_send
            rw [if_neg n1, if_neg n2, if_neg n3, if_neg r1, if_neg n1, if_neg n2, if_neg n3, if_neg r1, hz, a7, ixn (by omega)]
            exact ⟨rfl, rfl⟩
          rcases hk with c | ⟨f0, c, ky, hky, ek⟩
          · -- no key
            obtain ⟨es1, es2⟩ := es (-1) (if_pos c)
            rw [if_pos rfl] at es1 es2
            have hs0 : s_X0_send u (nI us) p2 p3 p4 = s_X0_sendTo u (u.2 0 us) p3 p4 := by unfold s_X0_send; rw [if_pos c, ixn (by omega)]
            have hr0 : r_X0_send u (nI us) p2 p3 p4 = r_X0_sendTo u (u.2 0 us) p3 p4 := by unfold r_X0_send; rw [if_pos c, ixn (by omega)]
            rw [es1, es2, hs0, hr0]
            generalize l_X1_send_106 v (nI us) p2 p3 p4 nd = T at *
            subst eL
            obtain ⟨hA, hD, hL, hN, hK⟩ := RQ_ref 0 hQ
            obtain ⟨t1, t2, t3⟩ := add_all (us := nI us) (key := p2) hA hD hL hN hnn hp hL1 hLL hAT hTn (fun us' hus' ky' hky' => by
              refine qK_keep (hK us' hus' ky' hky') rfl (fun n hn => ?_) (fun n hn => ?_) (fun n hn a => a) (fun q => ?_)
              · show upd (v.2 16) nn (nI us) n = v.2 16 n
                rw [pk_un (by omega)]
              · show upd (v.2 17) nn p2 n = v.2 17 n
                rw [pk_un (by omega)]
              · have q2 : upd (v.2 17) nn p2 nn = nI ky' := q.2
                rw [pk_us, c] at q2
                exact nI_nm1 (by omega) q2.symm)
            exact ⟨hz, t3, t2, t1⟩
          · have hs0 : s_X0_send u (nI us) p2 p3 p4 = s_X0_sendTo (s_X0_replaceKey u (nI us) p2) ((s_X0_replaceKey u (nI us) p2).2 0 us) p3 p4 := by unfold s_X0_send; rw [if_neg c, ixn (by omega)]
            have hr0 : r_X0_send u (nI us) p2 p3 p4 = r_X0_sendTo (s_X0_replaceKey u (nI us) p2) ((s_X0_replaceKey u (nI us) p2).2 0 us) p3 p4 := by unfold r_X0_send; rw [if_neg c, ixn (by omega)]
            rw [hs0, hr0]
            have fin : ∀ u2 v2 : SX, RQ nd nn mi u2 v2 → v2.1 0 = 0 → u2.2 0 = u.2 0 → u2.1 2 = u.1 2 → (∀ n, n < nn → v2.2 16 n = nI us → v2.2 17 n = nI ky → ¬ v2.2 18 n = 0) → (s_X1_add v2 (nI us) p2 p3 p4 (l_X1_send_106 v (nI us) p2 p3 p4 nd)).1 0 = 0 ∧ r_X0_sendTo (pG u2 15 (us * 10 + ky) (nI nn)) ((pG u2 15 (us * 10 + ky) (nI nn)).2 0 us) p3 p4 = r_X1_add v2 (nI us) p2 p3 p4 (l_X1_send_106 v (nI us) p2 p3 p4 nd) ∧ RRw (s_X0_sendTo (pG u2 15 (us * 10 + ky) (nI nn)) ((pG u2 15 (us * 10 + ky) (nI nn)).2 0 us) p3 p4) (s_X1_add v2 (nI us) p2 p3 p4 (l_X1_send_106 v (nI us) p2 p3 p4 nd)) := by
              intro u2 v2 hQ2 z0 z1 z2 ho
              have eA : (pG u2 15 (us * 10 + ky) (nI nn)).2 0 us = u.2 0 us := by
                show u2.2 0 us = _
                rw [z1]
              rw [eA]
              generalize l_X1_send_106 v (nI us) p2 p3 p4 nd = T at *
              obtain ⟨hA, hD, hL, hN, hK⟩ := hQ2
              have hAT2 : ∀ i, i < 32 → bt ((u.2 0 us) &&& (pG u2 15 (us * 10 + ky) (nI nn)).1 2) i = bt T i := by
                intro i hi
                show bt ((u.2 0 us) &&& u2.1 2) i = _
                rw [z2]; exact hAT i hi
              obtain ⟨t1, t2, t3⟩ := add_all (u := pG u2 15 (us * 10 + ky) (nI nn)) (v := v2) (us := nI us) (key := p2) (L := L) hA hD hL hN hnn hp hL1 hLL hAT2 hTn (fun us' hus' ky' hky' => by
                by_cases w : us' * 10 + ky' = us * 10 + ky
                · have w1 : us' = us := by omega
                  have w2 : ky' = ky := by omega
                  subst w1 w2
                  refine qK_new ?_ ?_ ?_ (fun n hn a b => ?_)
                  · show upd (u2.2 15) (us' * 10 + ky') (nI nn) (us' * 10 + ky') = nI nn
                    rw [pk_us]
                  · show upd (v2.2 16) nn (nI us') nn = _
                    rw [pk_us]
                  · show upd (v2.2 17) nn p2 nn = _
                    rw [pk_us, ek]
                  · have a2 : upd (v2.2 16) nn (nI us') n = nI us' := a
                    have b2 : upd (v2.2 17) nn p2 n = nI ky' := b
                    rw [pk_un (by omega)] at a2 b2
                    exact ho n hn a2 b2
                · refine qK_keep (hK us' hus' ky' hky') ?_ (fun n hn => ?_) (fun n hn => ?_) (fun n hn a => a) (fun q => ?_)
                  · show upd (u2.2 15) (us * 10 + ky) (nI nn) (us' * 10 + ky') = u2.2 15 (us' * 10 + ky')
                    rw [pk_un w]
                  · show upd (v2.2 16) nn (nI us) n = v2.2 16 n
                    rw [pk_un (by omega)]
                  · show upd (v2.2 17) nn p2 n = v2.2 17 n
                    rw [pk_un (by omega)]
                  · have q1 : upd (v2.2 16) nn (nI us) nn = nI us' := q.1
                    have q2 : upd (v2.2 17) nn p2 nn = nI ky' := q.2
                    rw [pk_us] at q1 q2
                    rw [ek] at q2
                    have w1 := (nI_eq (by omega) (by omega)).mp q1
                    have w2 := (nI_eq (by omega) (by omega)).mp q2
                    exact w (by omega))
              rw [eL]
              exact ⟨t3.trans z0, t2, t1⟩
            have hQ2 := RQ_ref 0 hQ
            rcases stNow hQ2 (us := us) (ky := ky) (by omega) hky with ⟨_, b, c2, d⟩ | ⟨m, hm, _, b, c2, d⟩
            · obtain ⟨es1, es2⟩ := es (-1) (by rw [if_neg c, ek]; exact b)
              rw [if_pos rfl] at es1 es2
              rw [← ek] at c2
              rw [es1, es2, c2]
              obtain ⟨t1, t2, t3⟩ := fin u (pF v 0 0) hQ2 rfl rfl rfl d
              exact ⟨hz, t1, t2, t3⟩
            · obtain ⟨es1, es2⟩ := es (nI m) (by rw [if_neg c, ek]; exact b)
              rw [if_neg (nI_nm1 (by omega)), ixn (by omega)] at es1 es2
              rw [← ek] at c2
              rw [es1, es2, c2]
              obtain ⟨t1, t2, t3⟩ := fin (pG u 12 m (u.1 17)) (pG (pG (pF v 0 0) 18 m 1) 19 m 0) (end_both hQ2 hm) rfl rfl rfl (fun n hn x y => by
                show ¬ upd (v.2 18) m 1 n = 0
                by_cases e : n = m
                · subst e; rw [pk_us]; exact ne10
                · rw [pk_un e]; exact d n hn e x y)
              exact ⟨hz, t1, t2, t3⟩
def cnd (p1 : Int32) (a b : Bool) : Bool := if p1 = 0 then a && b else if p1 = 1 then a || b else a && !b
theorem sendBy_bits (v : SX) (p1 p4 p5 : Int32) {f s : Nat} (hf : f < 6) (hs : s < 6) (i : Nat) : ∀ k, k ≤ 16 → bt (l_X1_sendBy_84 v p1 (nI f) (nI s) p4 p5 k) i = (decide (i < k) && (cnd p1 (bt (v.2 10 i) f) (bt (v.2 10 i) s) && decide (v.2 7 i = 0)))
  | 0, _ => by rw [decide_eq_false (Nat.not_lt_zero i), Bool.false_and]; exact b_0 i
  | k + 1, hk => by
    have ih := sendBy_bits v p1 p4 p5 hf hs i k (by omega)
    show bt (b_X1_sendBy_84 v p1 (nI f) (nI s) p4 p5 k (l_X1_sendBy_84 v p1 (nI f) (nI s) p4 p5 k)) i = _
    have step : ∀ x : Int32, bt (b_X1_sendBy_84 v p1 (nI f) (nI s) p4 p5 k x) i = (bt x i || (decide (i = k) && (cnd p1 (bt (v.2 10 k) f) (bt (v.2 10 k) s) && decide (v.2 7 k = 0)))) := by
      intro x
      have e1 : bt (x ||| (1 <<< ((nI k) &&& 31))) i = (bt x i || decide (i = k)) := by rw [b_or, bt_sh1 (by omega)]
      have e0 : bt (x ||| 0) i = bt x i := by rw [b_or, b_0, Bool.or_false]
      have n01 : ¬ ((0 : Int32) = 1) := by decide
      unfold b_X1_sendBy_84 cnd
      rw [ixn (by omega), bt_shr1 _ (by omega), bt_shr1 _ (by omega)]
      by_cases w : v.2 7 k = 0
      · by_cases a : p1 = 0
        · cases bt (v.2 10 k) f <;> cases bt (v.2 10 k) s <;> simp [a, w, e1, e0, n01]
        · by_cases b : p1 = 1
          · have : ¬ ((1 : Int32) = 0) := ne10
            cases bt (v.2 10 k) f <;> cases bt (v.2 10 k) s <;> simp [b, w, e1, e0, n01, this]
          · cases bt (v.2 10 k) f <;> cases bt (v.2 10 k) s <;> simp [a, b, w, e1, e0, n01]
      · by_cases a : p1 = 0
        · cases bt (v.2 10 k) f <;> cases bt (v.2 10 k) s <;> simp [a, w, e1, e0, n01]
        · by_cases b : p1 = 1
          · have : ¬ ((1 : Int32) = 0) := ne10
            cases bt (v.2 10 k) f <;> cases bt (v.2 10 k) s <;> simp [b, w, e1, e0, n01, this]
          · cases bt (v.2 10 k) f <;> cases bt (v.2 10 k) s <;> simp [a, b, w, e1, e0, n01]
    rw [step, ih]
    by_cases e : i = k
    · subst e
      rw [decide_eq_false (Nat.lt_irrefl i), decide_eq_true rfl, decide_eq_true (Nat.lt_succ_self i), Bool.false_and, Bool.false_or]
    · rw [decide_eq_false e, dec_succ_ne e, Bool.false_and, Bool.or_false]
theorem fulfil_bits (u : SX) (p1 : Int32) {f s : Nat} (hf : f < 6) (hs : s < 6) (i : Nat) : bt (r_X0_devicesThatFulfil u p1 (nI f) (nI s)) i = cnd p1 (bt (u.2 1 f) i) (bt (u.2 1 s) i) := by
  unfold r_X0_devicesThatFulfil cnd
  rw [ixn (by omega), ixn (by omega)]
  by_cases a : p1 = 0
  · rw [if_pos a, if_pos a, b_and]
  · rw [if_neg a, if_neg a]
    by_cases b : p1 = 1
    · rw [if_pos b, if_pos b, b_or]
    · rw [if_neg b, if_neg b, bt_andnot]
theorem D_sendBy : zD_sendBy RRw := by
  intro u v h p1 p2 p3 p4 p5 hp
  have h0 := h
  obtain ⟨nd, nn, mi, hQ, hS⟩ := h
  rcases winC p1 0 2 with ⟨i0', e1⟩ | ⟨i1, e0, l1, l2⟩
  · right
    have hs : s_X1_sendBy v p1 p2 p3 p4 p5 = pF v 0 1 := by unfold s_X1_sendBy; rw [if_pos i0']
    have he : e_X0_sendBy u p1 p2 p3 p4 p5 = 1 := by unfold e_X0_sendBy; rw [e1]; rfl
    refine ⟨by rw [he]; decide, by rw [hs, he]; rfl, by rw [hs]; exact RRw_ref 1 h0⟩
  have n1 : ¬ r_X1_in p1 0 2 = 0 := by rw [i1]; decide
  rcases winC p2 0 5 with ⟨j0, f1⟩ | ⟨j1, f0, l3, l4⟩
  · right
    have hs : s_X1_sendBy v p1 p2 p3 p4 p5 = pF v 0 1 := by unfold s_X1_sendBy; rw [if_neg n1, if_pos j0]
    have he : e_X0_sendBy u p1 p2 p3 p4 p5 = 1 := by unfold e_X0_sendBy; rw [e0, f1]; rfl
    refine ⟨by rw [he]; decide, by rw [hs, he]; rfl, by rw [hs]; exact RRw_ref 1 h0⟩
  have n2 : ¬ r_X1_in p2 0 5 = 0 := by rw [j1]; decide
  rcases winC p3 0 5 with ⟨k0, g1⟩ | ⟨k1, g0, l5, l6⟩
  · right
    have hs : s_X1_sendBy v p1 p2 p3 p4 p5 = pF v 0 1 := by unfold s_X1_sendBy; rw [if_neg n1, if_neg n2, if_pos k0]
    have he : e_X0_sendBy u p1 p2 p3 p4 p5 = 1 := by unfold e_X0_sendBy; rw [e0, f0, g1]; rfl
    refine ⟨by rw [he]; decide, by rw [hs, he]; rfl, by rw [hs]; exact RRw_ref 1 h0⟩
  have n3 : ¬ r_X1_in p3 0 5 = 0 := by rw [k1]; decide
  rcases winC p5 1 10000 with ⟨o0, d1⟩ | ⟨o1, d0, l7, l8⟩
  · right
    have hs : s_X1_sendBy v p1 p2 p3 p4 p5 = pF v 0 1 := by unfold s_X1_sendBy; rw [if_neg n1, if_neg n2, if_neg n3, if_pos o0]
    have he : e_X0_sendBy u p1 p2 p3 p4 p5 = 1 := by unfold e_X0_sendBy; rw [e0, f0, g0, d1]; rfl
    refine ⟨by rw [he]; decide, by rw [hs, he]; rfl, by rw [hs]; exact RRw_ref 1 h0⟩
  have n4 : ¬ r_X1_in p5 1 10000 = 0 := by rw [o1]; decide
  rcases room_C hQ with ⟨_, r1, r2⟩ | ⟨hnn, r1, r2⟩
  · right
    have hs : s_X1_sendBy v p1 p2 p3 p4 p5 = pF v 0 2 := by unfold s_X1_sendBy; rw [if_neg n1, if_neg n2, if_neg n3, if_neg n4, if_pos r1]
    have he : e_X0_sendBy u p1 p2 p3 p4 p5 = 2 := by unfold e_X0_sendBy; rw [e0, f0, g0, d0, r2]; rfl
    refine ⟨by rw [he]; decide, by rw [hs, he]; rfl, by rw [hs]; exact RRw_ref 2 h0⟩
  left
  have he : e_X0_sendBy u p1 p2 p3 p4 p5 = 0 := by unfold e_X0_sendBy; rw [e0, f0, g0, d0, r2]; rfl
  have m5 : (5 : Int32).toInt = 5 := rfl
  have m1 : (1 : Int32).toInt = 1 := rfl
  have m2 : (10000 : Int32).toInt = 10000 := rfl
  rw [i0] at l3 l5
  rw [m5] at l4 l6
  rw [m1] at l7
  rw [m2] at l8
  obtain ⟨f, hf, rfl⟩ := nI_range (p := p2) (n := 5) (by omega) (by omega) (by omega)
  obtain ⟨s, hs, rfl⟩ := nI_range (p := p3) (n := 5) (by omega) (by omega) (by omega)
  obtain ⟨L, hLL, rfl⟩ := nI_range (p := p5) (n := 10000) (by omega) (by omega) (by omega)
  have hL1 : 1 ≤ L := by rw [nI_toInt (by omega)] at l7; omega
  have hnd := hQ.1.1.1
  have a7 := hQ.1.2.2.1.1
  have es : s_X1_sendBy v p1 (nI f) (nI s) p4 (nI L) = s_X1_add (pF v 0 0) (-1) (-1) p4 (nI L) (l_X1_sendBy_84 v p1 (nI f) (nI s) p4 (nI L) nd) := by
    unfold s_X1_sendBy
    rw [if_neg n1, if_neg n2, if_neg n3, if_neg n4, if_neg r1, a7, ixn (by omega)]
  have er : r_X1_sendBy v p1 (nI f) (nI s) p4 (nI L) = r_X1_add (pF v 0 0) (-1) (-1) p4 (nI L) (l_X1_sendBy_84 v p1 (nI f) (nI s) p4 (nI L) nd) := by
    unfold r_X1_sendBy
    rw [if_neg n1, if_neg n2, if_neg n3, if_neg n4, if_neg r1, a7, ixn (by omega)]
  have hbits := fun i => sendBy_bits v p1 p4 (nI L) (show f < 6 by omega) (show s < 6 by omega) i nd hnd
  have hDq := hQ.2.1
  have hLq := hQ.2.2.1
  have hTn : ∀ i, nd ≤ i → i < 32 → bt (l_X1_sendBy_84 v p1 (nI f) (nI s) p4 (nI L) nd) i = false := by
    intro i q1 q2
    rw [hbits i, decide_eq_false (by omega), Bool.false_and]
  have hAT : ∀ i, i < 32 → bt ((r_X0_devicesThatFulfil u p1 (nI f) (nI s)) &&& u.1 2) i = bt (l_X1_sendBy_84 v p1 (nI f) (nI s) p4 (nI L) nd) i := by
    intro i hi
    obtain ⟨b1, b2, b3⟩ := hLq i hi
    rw [b_and, b1, hbits i, fulfil_bits u p1 (by omega) (by omega)]
    by_cases q : i < nd
    · have t := (hDq i (by omega)).2.2.2.2
      rw [t f (by omega), t s (by omega), decide_eq_true q, Bool.true_and, Bool.true_and]
    · rw [decide_eq_false q, Bool.false_and, Bool.false_and, Bool.and_false]
  unfold s_X0_sendBy r_X0_sendBy
  rw [es, er]
  obtain ⟨hA, hD, hL, hN, hK⟩ := RQ_ref 0 hQ
  obtain ⟨t1, t2, t3⟩ := add_all (us := -1) (key := -1) hA hD hL hN hnn hp hL1 hLL hAT hTn (fun us' hus' ky' hky' => by
    refine qK_keep (hK us' hus' ky' hky') rfl (fun n hn => ?_) (fun n hn => ?_) (fun n hn a => a) (fun q => ?_)
    · show upd (v.2 16) nn (-1) n = v.2 16 n
      rw [pk_un (by omega)]
    · show upd (v.2 17) nn (-1) n = v.2 17 n
      rw [pk_un (by omega)]
    · have q2 : upd (v.2 17) nn (-1) nn = nI ky' := q.2
      rw [pk_us] at q2
      exact nI_nm1 (by omega) q2.symm)
  exact ⟨he, t3, t2, t1⟩
theorem RRw_all : zDall RRw := ⟨D_addDevice, D_setOnline, D_setDozing, D_setQuiet, D_join, D_kill, D_devices, D_isQuiet, D_send, D_sendBy, D_read, D_sent, D_stands, D_waitsFor, D_deliveredTo, D_standing, D_badge, D_waiting, D_quota, D_pass, D_clock, D_deliveries⟩
