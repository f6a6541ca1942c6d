/-! ===== the calls: the relation is kept, the answers are alike ===== -/
def RRw (u v : SX) : Prop := ∃ nd nn mi, RQ nd nn mi u v ∧ qS nd nn mi v
theorem RRw_ref {u v : SX} (x : Int32) (h : RRw u v) : RRw u (pF v 0 x) := by
  obtain ⟨nd, nn, mi, a, b⟩ := h
  exact ⟨nd, nn, mi, RQ_ref x a, qS_ref x b⟩
theorem RRw_WF {u v : SX} (h : RRw u v) : zWF u v := by
  obtain ⟨nd, nn, mi, ⟨⟨⟨a1, a2, a3⟩, ⟨a4, a5, a6⟩, ⟨a7, a8, a9⟩, a10⟩, hD, hL, hN, hK⟩, hs⟩ := h
  refine ⟨nd, nn, ⟨a4, a1⟩, ⟨a5, a2⟩, fun i hi => ?_, a7, a8⟩
  have t := hK (i / 10) (by omega) (i % 10) (by omega)
  unfold qK at t
  rw [show i / 10 * 10 + i % 10 = i by omega] at t
  rcases t with t | ⟨m, m1, m2, _⟩
  · exact Or.inl t.1
  · right
    rw [m2]
    exact vp_in_nI (by omega) (by omega)
theorem init_u (k : Nat) (hk : k ≤ 100) : (l_X0_init k).1 = u0SX.1 ∧ (∀ j, j ≠ 15 → (l_X0_init k).2 j = u0SX.2 j) ∧ (∀ i, i < k → (l_X0_init k).2 15 i = -1) := by
  induction k with
  | zero => exact ⟨rfl, fun j _ => rfl, fun i hi => absurd hi (Nat.not_lt_zero i)⟩
  | succ k ih =>
    obtain ⟨h1, h2, h3⟩ := ih (by omega)
    refine ⟨h1, fun j hj => ?_, fun i hi => ?_⟩
    · rw [← h2 j hj]
      show va_up _ 15 _ j = _
      simp only [va_up, if_neg hj]
    · show upd ((l_X0_init k).2 15) (ix (nI k)) (-1) i = -1
      rw [ixn (by omega)]
      by_cases e : i = k
      · subst e; rw [pk_us]
      · rw [pk_un e]; exact h3 i (by omega)
theorem RRw_0 : RRw s_X0_init u0SX := by
  obtain ⟨h1, h2, h3⟩ := init_u 80 (by omega)
  refine ⟨0, 0, 0, ⟨⟨⟨by omega, by omega, by omega⟩, ⟨?_, ?_, ?_⟩, ⟨rfl, rfl, rfl⟩, ?_⟩, fun d hd => ?_, fun i hi => ?_, fun n hn => ?_, fun us hus ky hky => ?_⟩, fun d hd => absurd hd (Nat.not_lt_zero d)⟩
  · show (l_X0_init 80).1 10 = _; rw [h1]; rfl
  · show (l_X0_init 80).1 16 = _; rw [h1]; rfl
  · show (l_X0_init 80).1 17 = _; rw [h1]; rfl
  · show (l_X0_init 80).1 18 = _; rw [h1]; rfl
  · unfold qD s_X0_init
    rw [h1, h2 5 (by decide), h2 6 (by decide), h2 7 (by decide), h2 8 (by decide), h2 9 (by decide), h2 1 (by decide)]
    refine ⟨⟨b_0 d, b_0 d⟩, ⟨rfl, rfl, rfl⟩, ⟨rfl, rfl⟩, ?_, fun t _ => ?_⟩
    · show okT (0 : Int32).toInt (0 : Int32).toInt (0 : Int32).toInt
      rw [i0]
      exact ⟨⟨by omega, by omega⟩, ⟨by omega, by omega⟩, ⟨by omega, by omega⟩⟩
    · show bt 0 d = bt 0 t
      rw [b_0, b_0]
  · unfold qL s_X0_init
    rw [h1, h2 0 (by decide)]
    refine ⟨?_, fun _ => rfl, fun us _ => ?_⟩
    · rw [decide_eq_false (Nat.not_lt_zero i), Bool.false_and]; exact b_0 i
    · rw [decide_eq_false (Nat.not_lt_zero i), Bool.false_and]; exact b_0 i
  · unfold qN s_X0_init
    rw [h2 14 (by decide)]
    exact ⟨rfl, fun _ => rfl, fun q => absurd q (Nat.not_lt_zero n)⟩
  · unfold qK
    exact Or.inl ⟨h3 _ (by omega), fun n q => absurd q (Nat.not_lt_zero n)⟩
/-! ===== what is refused ===== -/
theorem inN (p : Int32) {n : Nat} (hn : n ≤ 200) : (r_X1_in p 0 (nI n - 1) = 0 ∧ (if p < 0 then 3 else (if p < nI n then 0 else 3)) = 3) ∨ (∃ d, d < n ∧ p = nI d ∧ r_X1_in p 0 (nI n - 1) = 1 ∧ (if p < 0 then 3 else (if p < nI n then 0 else 3)) = 0) := by
  unfold r_X1_in
  by_cases a : p < 0
  · left
    rw [if_pos a, if_pos a]
    exact ⟨rfl, rfl⟩
  · rw [if_neg a, if_neg a]
    obtain ⟨j, hj, rfl⟩ := nI_of a
    have key : (nI n - 1 < nI j) ↔ ¬ nI j < nI n := by
      rw [nI_ltI hj (by omega)]
      rcases n with _ | n
      · have e : nI 0 - 1 = -1 := rfl
        rw [e, fa_lt, nI_toInt hj]
        have e2 : (-1 : Int32).toInt = -1 := rfl
        rw [e2]
        constructor
        · intro _; omega
        · intro _; omega
      · rw [nI_pred, nI_ltI (by omega) hj]
        omega
    by_cases b : nI j < nI n
    · right
      refine ⟨j, (nI_ltI hj (by omega)).mp b, rfl, ?_, ?_⟩
      · rw [if_neg (fun q => key.mp q b)]
      · rw [if_pos b]
    · left
      rw [if_pos (key.mpr b), if_neg b]
      exact ⟨rfl, rfl⟩
theorem devC {nd nn mi : Nat} {u v : SX} (h : RQ nd nn mi u v) (p : Int32) : (r_X1_isDevice v p = 0 ∧ e_X0_requireDevice u p = 3) ∨ (∃ d, d < nd ∧ p = nI d ∧ r_X1_isDevice v p = 1 ∧ e_X0_requireDevice u p = 0) := by
  obtain ⟨⟨⟨a1, a2, a3⟩, ⟨a4, a5, a6⟩, ⟨a7, a8, a9⟩, a10⟩, _⟩ := h
  unfold r_X1_isDevice e_X0_requireDevice
  rw [a7, a4]
  exact inN p (by omega)
theorem notC {nd nn mi : Nat} {u v : SX} (h : RQ nd nn mi u v) (p : Int32) : (r_X1_isNotice v p = 0 ∧ e_X0_requireNotice u p = 3) ∨ (∃ d, d < nn ∧ p = nI d ∧ r_X1_isNotice v p = 1 ∧ e_X0_requireNotice u p = 0) := by
  obtain ⟨⟨⟨a1, a2, a3⟩, ⟨a4, a5, a6⟩, ⟨a7, a8, a9⟩, a10⟩, _⟩ := h
  unfold r_X1_isNotice e_X0_requireNotice
  rw [a8, a5]
  exact inN p (by omega)
theorem winC (p lo hi : Int32) : (r_X1_in p lo hi = 0 ∧ e_X0_requireWithin p lo hi = 1) ∨ (r_X1_in p lo hi = 1 ∧ e_X0_requireWithin p lo hi = 0 ∧ lo.toInt ≤ p.toInt ∧ p.toInt ≤ hi.toInt) := by
  unfold r_X1_in e_X0_requireWithin
  by_cases a : p < lo
  · left; rw [if_pos a, if_pos a]; exact ⟨rfl, rfl⟩
  · rw [if_neg a, if_neg a]
    by_cases b : hi < p
    · left
      rw [if_pos b]
      rw [fa_lt] at b
      rw [if_neg (by rw [fa_le]; omega)]
      exact ⟨rfl, rfl⟩
    · right
      rw [if_neg b]
      rw [fa_lt] at a b
      rw [if_pos (by rw [fa_le]; omega)]
      exact ⟨rfl, rfl, by omega, by omega⟩
theorem nI_range {p : Int32} {n : Nat} (h0 : 0 ≤ p.toInt) (h1 : p.toInt ≤ n) (hn : n < 2000000) : ∃ k, k ≤ n ∧ p = nI k := by
  refine ⟨p.toInt.toNat, by omega, ?_⟩
  rw [fa_eq, nI_toInt (by omega)]
  omega
theorem b01 {p : Int32} (h : z01 p) : vp_nar .boolean p = p := by rcases h with rfl | rfl <;> rfl
theorem ne10 : ¬ ((1 : Int32) = 0) := by decide
theorem look_0 {v : SX} (h : v.1 0 = 0) : (s_X1_look v).1 0 = 0 := by rw [s_X1_look_1 v 0 (by decide)]; exact h
theorem both {nd nn mi : Nat} {u v : SX} (h : RQ nd nn mi u v) : RRw (s_X0_deliverNow u) (s_X1_look v) ∧ r_X0_deliverNow u = r_X1_look v := by
  obtain ⟨a, b, c⟩ := deliverNow_both h
  exact ⟨⟨nd, nn, mi, a, c⟩, b⟩
/-! ===== setOnline, setDozing, setQuiet ===== -/
theorem D_setOnline : zD_setOnline RRw := by
  intro u v h p1 p2 hp
  have h0 := h
  obtain ⟨nd, nn, mi, hQ, hS⟩ := h
  rcases devC hQ p1 with ⟨i0, e3⟩ | ⟨d, hd, rfl, i1, e0⟩
  · right
    have hs : s_X1_setOnline v p1 p2 = pF v 0 1 := by unfold s_X1_setOnline; rw [if_pos i0]
    refine ⟨by unfold e_X0_setOnline; rw [e3]; decide, by rw [hs]; rfl, by rw [hs]; exact RRw_ref 1 h0⟩
  · left
    have n1 : ¬ r_X1_isDevice v (nI d) = 0 := by rw [i1]; decide
    unfold e_X0_setOnline r_X0_setOnline s_X0_setOnline s_X1_setOnline r_X1_setOnline
    rw [e0, if_pos rfl, if_neg n1, if_neg n1, b01 hp]
    obtain ⟨⟨⟨a1, a2, a3⟩, ⟨a4, a5, a6⟩, ⟨a7, a8, a9⟩, a10⟩, hD, hL, hN, hK⟩ := hQ
    rw [ixn (by omega)]
    have q : RQ nd nn mi (pF u 3 (r_X0_changed (u.1 3) (nI d) p2)) (pG (pF v 0 0) 5 d p2) := by
      refine ⟨⟨⟨a1, a2, a3⟩, ⟨a4, a5, a6⟩, ⟨a7, a8, a9⟩, a10⟩, fun e he => ?_, hL, hN, hK⟩
      obtain ⟨⟨b1, b2⟩, b3, b4, b5, b6⟩ := hD e he
      refine ⟨⟨?_, b2⟩, b3, b4, b5, b6⟩
      show bt (r_X0_changed (u.1 3) (nI d) p2) e = decide (¬ upd (v.2 5) d p2 e = 0)
      rw [bt_changed _ _ (by omega)]
      by_cases w : e = d
      · subst w; rw [if_pos rfl, pk_us]
      · rw [if_neg w, pk_un w]; exact b1
    obtain ⟨r1, r2⟩ := both q
    exact ⟨rfl, look_0 rfl, r2, r1⟩
theorem D_setDozing : zD_setDozing RRw := by
  intro u v h p1 p2 hp
  have h0 := h
  obtain ⟨nd, nn, mi, hQ, hS⟩ := h
  rcases devC hQ p1 with ⟨i0, e3⟩ | ⟨d, hd, rfl, i1, e0⟩
  · right
    have hs : s_X1_setDozing v p1 p2 = pF v 0 1 := by unfold s_X1_setDozing; rw [if_pos i0]
    refine ⟨by unfold e_X0_setDozing; rw [e3]; decide, by rw [hs]; rfl, by rw [hs]; exact RRw_ref 1 h0⟩
  · left
    have n1 : ¬ r_X1_isDevice v (nI d) = 0 := by rw [i1]; decide
    unfold e_X0_setDozing r_X0_setDozing s_X0_setDozing s_X1_setDozing r_X1_setDozing
    rw [e0, if_pos rfl, if_neg n1, if_neg n1, b01 hp]
    obtain ⟨⟨⟨a1, a2, a3⟩, ⟨a4, a5, a6⟩, ⟨a7, a8, a9⟩, a10⟩, hD, hL, hN, hK⟩ := hQ
    rw [ixn (by omega)]
    have q : RQ nd nn mi (pF u 4 (r_X0_changed (u.1 4) (nI d) p2)) (pG (pF v 0 0) 6 d p2) := by
      refine ⟨⟨⟨a1, a2, a3⟩, ⟨a4, a5, a6⟩, ⟨a7, a8, a9⟩, a10⟩, fun e he => ?_, hL, hN, hK⟩
      obtain ⟨⟨b1, b2⟩, b3, b4, b5, b6⟩ := hD e he
      refine ⟨⟨b1, ?_⟩, b3, b4, b5, b6⟩
      show bt (r_X0_changed (u.1 4) (nI d) p2) e = decide (¬ upd (v.2 6) d p2 e = 0)
      rw [bt_changed _ _ (by omega)]
      by_cases w : e = d
      · subst w; rw [if_pos rfl, pk_us]
      · rw [if_neg w, pk_un w]; exact b2
    obtain ⟨r1, r2⟩ := both q
    exact ⟨rfl, look_0 rfl, r2, r1⟩
theorem D_setQuiet : zD_setQuiet RRw := by
  intro u v h p1 p2 p3
  have h0 := h
  obtain ⟨nd, nn, mi, hQ, hS⟩ := h
  rcases devC hQ p1 with ⟨i0, e3⟩ | ⟨d, hd, rfl, i1, e0⟩
  · right
    have hs : s_X1_setQuiet v p1 p2 p3 = pF v 0 1 := by unfold s_X1_setQuiet; rw [if_pos i0]
    have he : e_X0_setQuiet u p1 p2 p3 = 3 := by unfold e_X0_setQuiet; rw [e3]; rfl
    refine ⟨by rw [he]; decide, by rw [hs, he]; rfl, by rw [hs]; exact RRw_ref 1 h0⟩
  · have n1 : ¬ r_X1_isDevice v (nI d) = 0 := by rw [i1]; decide
    rcases winC p2 0 1439 with ⟨j0, f1⟩ | ⟨j1, f0, l1, l2⟩
    · right
      have hs : s_X1_setQuiet v (nI d) p2 p3 = pF v 0 2 := by unfold s_X1_setQuiet; rw [if_neg n1, if_pos j0]
      have he : e_X0_setQuiet u (nI d) p2 p3 = 1 := by unfold e_X0_setQuiet; rw [e0, f1]; rfl
      refine ⟨by rw [he]; decide, by rw [hs, he]; rfl, by rw [hs]; exact RRw_ref 2 h0⟩
    · have n2 : ¬ r_X1_in p2 0 1439 = 0 := by rw [j1]; decide
      rcases winC p3 0 1439 with ⟨k0, g1⟩ | ⟨k1, g0, l3, l4⟩
      · right
        have hs : s_X1_setQuiet v (nI d) p2 p3 = pF v 0 2 := by unfold s_X1_setQuiet; rw [if_neg n1, if_neg n2, if_pos k0]
        have he : e_X0_setQuiet u (nI d) p2 p3 = 1 := by unfold e_X0_setQuiet; rw [e0, f0, g1]; rfl
        refine ⟨by rw [he]; decide, by rw [hs, he]; rfl, by rw [hs]; exact RRw_ref 2 h0⟩
      · left
        have n3 : ¬ r_X1_in p3 0 1439 = 0 := by rw [k1]; decide
        unfold e_X0_setQuiet r_X0_setQuiet s_X0_setQuiet s_X1_setQuiet r_X1_setQuiet
        rw [e0, f0, g0, if_neg n1, if_neg n1, if_neg n2, if_neg n2, if_neg n3, if_neg n3]
        obtain ⟨⟨⟨a1, a2, a3⟩, ⟨a4, a5, a6⟩, ⟨a7, a8, a9⟩, a10⟩, hD, hL, hN, hK⟩ := hQ
        rw [ixn (by omega)]
        have q : RQ nd nn mi (pG (pG u 6 d p2) 7 d p3) (pG (pG (pF v 0 0) 8 d p2) 9 d p3) := by
          refine ⟨⟨⟨a1, a2, a3⟩, ⟨a4, a5, a6⟩, ⟨a7, a8, a9⟩, a10⟩, fun e he => ?_, hL, hN, hK⟩
          obtain ⟨b1, ⟨b3, b4, b5⟩, b6, b7, b8⟩ := hD e he
          have m0 : (0 : Int32).toInt = 0 := rfl
          have m1 : (1439 : Int32).toInt = 1439 := rfl
          rw [m0] at l1 l3
          rw [m1] at l2 l4
          refine ⟨b1, ⟨b3, ?_, ?_⟩, b6, ?_, b8⟩
          · show upd (u.2 6) d p2 e = upd (v.2 8) d p2 e
            by_cases w : e = d
            · subst w; rw [pk_us, pk_us]
            · rw [pk_un w, pk_un w]; exact b4
          · show upd (u.2 7) d p3 e = upd (v.2 9) d p3 e
            by_cases w : e = d
            · subst w; rw [pk_us, pk_us]
            · rw [pk_un w, pk_un w]; exact b5
          · show okT (v.2 4 e).toInt (upd (v.2 8) d p2 e).toInt (upd (v.2 9) d p3 e).toInt
            by_cases w : e = d
            · subst w; rw [pk_us, pk_us]
              exact ⟨b7.1, ⟨by omega, by omega⟩, ⟨by omega, by omega⟩⟩
            · rw [pk_un w, pk_un w]; exact b7
        obtain ⟨r1, r2⟩ := both q
        exact ⟨rfl, look_0 rfl, r2, r1⟩
/-! ===== calls that ask ===== -/
theorem D_devices : zD_devices RRw := by
  intro u v h
  refine ⟨?_, RRw_ref 0 h⟩
  obtain ⟨nd, nn, mi, ⟨⟨⟨a1, a2, a3⟩, ⟨a4, a5, a6⟩, ⟨a7, a8, a9⟩, a10⟩, hD, hL, hN, hK⟩, hS⟩ := h
  exact a4.trans a7.symm
theorem D_sent : zD_sent RRw := by
  intro u v h
  refine ⟨?_, RRw_ref 0 h⟩
  obtain ⟨nd, nn, mi, ⟨⟨⟨a1, a2, a3⟩, ⟨a4, a5, a6⟩, ⟨a7, a8, a9⟩, a10⟩, hD, hL, hN, hK⟩, hS⟩ := h
  exact a5.trans a8.symm
theorem D_clock : zD_clock RRw := by
  intro u v h
  refine ⟨?_, RRw_ref 0 h⟩
  obtain ⟨nd, nn, mi, ⟨⟨⟨a1, a2, a3⟩, ⟨a4, a5, a6⟩, ⟨a7, a8, a9⟩, a10⟩, hD, hL, hN, hK⟩, hS⟩ := h
  exact a6.trans a9.symm
theorem D_deliveries : zD_deliveries RRw := by
  intro u v h
  refine ⟨?_, RRw_ref 0 h⟩
  obtain ⟨nd, nn, mi, ⟨⟨⟨a1, a2, a3⟩, ⟨a4, a5, a6⟩, ⟨a7, a8, a9⟩, a10⟩, hD, hL, hN, hK⟩, hS⟩ := h
  exact a10
theorem D_isQuiet : zD_isQuiet RRw := by
  intro u v h p1
  have h0 := h
  obtain ⟨nd, nn, mi, hQ, hS⟩ := h
  rcases devC hQ p1 with ⟨i0, e3⟩ | ⟨d, hd, rfl, i1, e0⟩
  · right
    have hs : s_X1_isQuiet v p1 = pF v 0 1 := by unfold s_X1_isQuiet; rw [if_pos i0]
    refine ⟨by unfold e_X0_isQuiet; rw [e3]; decide, by rw [hs]; rfl, by rw [hs]; exact RRw_ref 1 h0⟩
  · left
    have n1 : ¬ r_X1_isDevice v (nI d) = 0 := by rw [i1]; decide
    have q := RQ_quiet hQ (d := d) (by have := hQ.1.1.1; omega)
    unfold e_X0_isQuiet r_X0_isQuiet s_X1_isQuiet r_X1_isQuiet
    rw [e0, if_neg n1, if_neg n1]
    refine ⟨rfl, rfl, ?_, RRw_ref 0 h0⟩
    have e1 : r_X1_isQuietNow (pF v 0 0) (nI d) = r_X1_isQuietNow v (nI d) := rfl
    rw [e1, ← q]
    rcases z01_X0_isInQuietHours u (nI d) with z | z
    · rw [z]; rfl
    · rw [z]; rfl
theorem D_quota : zD_quota RRw := by
  intro u v h p1
  have h0 := h
  obtain ⟨nd, nn, mi, hQ, hS⟩ := h
  rcases devC hQ p1 with ⟨i0, e3⟩ | ⟨d, hd, rfl, i1, e0⟩
  · right
    have hs : s_X1_quota v p1 = pF v 0 1 := by unfold s_X1_quota; rw [if_pos i0]
    refine ⟨by unfold e_X0_quota; rw [e3]; decide, by rw [hs]; rfl, by rw [hs]; exact RRw_ref 1 h0⟩
  · left
    have n1 : ¬ r_X1_isDevice v (nI d) = 0 := by rw [i1]; decide
    have q := RQ_spent hQ (d := d) (by have := hQ.1.1.1; omega)
    unfold e_X0_quota r_X0_quota s_X1_quota r_X1_quota
    rw [e0, if_neg n1, if_neg n1, q]
    exact ⟨rfl, rfl, rfl, RRw_ref 0 h0⟩
theorem waits_both {nd nn mi : Nat} {u v : SX} (h : RQ nd nn mi u v) {n : Nat} (hn : n < nn) : r_X0_waitsNow u (nI n) = v.2 19 n := by
  have e := RQ_sB h hn
  have hnn := h.1.1.2.1
  obtain ⟨_, _, _, hN, _⟩ := h
  obtain ⟨_, _, c⟩ := hN n (by omega)
  obtain ⟨_, _, c3, c4, _⟩ := c hn
  rw [wNow u (by omega), e]
  by_cases q : v.2 18 n = 0
  · rw [decide_eq_true q, if_pos rfl, c3 q]
  · rw [decide_eq_false q, if_neg (by decide), c4 q]
theorem stands_both {nd nn mi : Nat} {u v : SX} (h : RQ nd nn mi u v) {n : Nat} (hn : n < nn) : r_X0_isStanding u (nI n) = if v.2 18 n = 0 then 1 else 0 := by
  have hnn := h.1.1.2.1
  rw [isSt u (by omega), RQ_sB h hn]
  by_cases q : v.2 18 n = 0
  · rw [decide_eq_true q, if_pos rfl, if_pos q]
  · rw [decide_eq_false q, if_neg (by decide), if_neg q]
theorem D_stands : zD_stands RRw := by
  intro u v h p1
  have h0 := h
  obtain ⟨nd, nn, mi, hQ, hS⟩ := h
  rcases notC hQ p1 with ⟨i0, e3⟩ | ⟨n, hn, rfl, i1, e0⟩
  · right
    have hs : s_X1_stands v p1 = pF v 0 1 := by unfold s_X1_stands s_X1_noNotice; rw [if_pos i0]
    refine ⟨by unfold e_X0_stands; rw [e3]; decide, by rw [hs]; rfl, by rw [hs]; exact RRw_ref 1 h0⟩
  · left
    have n1 : ¬ r_X1_isNotice v (nI n) = 0 := by rw [i1]; decide
    have hnn := hQ.1.1.2.1
    unfold e_X0_stands r_X0_stands s_X1_stands r_X1_stands r_X1_noNotice s_X1_noNotice
    rw [e0, if_neg n1, if_neg n1, if_pos rfl, ixn (by omega), stands_both hQ hn]
    exact ⟨rfl, rfl, rfl, RRw_ref 0 h0⟩
theorem D_waitsFor : zD_waitsFor RRw := by
  intro u v h p1
  have h0 := h
  obtain ⟨nd, nn, mi, hQ, hS⟩ := h
  rcases notC hQ p1 with ⟨i0, e3⟩ | ⟨n, hn, rfl, i1, e0⟩
  · right
    have hs : s_X1_waitsFor v p1 = pF v 0 1 := by unfold s_X1_waitsFor s_X1_noNotice; rw [if_pos i0]
    refine ⟨by unfold e_X0_waitsFor; rw [e3]; decide, by rw [hs]; rfl, by rw [hs]; exact RRw_ref 1 h0⟩
  · left
    have n1 : ¬ r_X1_isNotice v (nI n) = 0 := by rw [i1]; decide
    have hnn := hQ.1.1.2.1
    unfold e_X0_waitsFor r_X0_waitsFor s_X1_waitsFor r_X1_waitsFor r_X1_noNotice s_X1_noNotice
    rw [e0, if_neg n1, if_neg n1, if_pos rfl, ixn (by omega), waits_both hQ hn]
    exact ⟨rfl, rfl, rfl, RRw_ref 0 h0⟩
theorem D_deliveredTo : zD_deliveredTo RRw := by
  intro u v h p1
  have h0 := h
  obtain ⟨nd, nn, mi, hQ, hS⟩ := h
  rcases notC hQ p1 with ⟨i0, e3⟩ | ⟨n, hn, rfl, i1, e0⟩
  · right
    have hs : s_X1_deliveredTo v p1 = pF v 0 1 := by unfold s_X1_deliveredTo s_X1_noNotice; rw [if_pos i0]
    refine ⟨by unfold e_X0_deliveredTo; rw [e3]; decide, by rw [hs]; rfl, by rw [hs]; exact RRw_ref 1 h0⟩
  · left
    have n1 : ¬ r_X1_isNotice v (nI n) = 0 := by rw [i1]; decide
    have hnn := hQ.1.1.2.1
    unfold e_X0_deliveredTo r_X0_deliveredTo s_X1_deliveredTo r_X1_deliveredTo r_X1_noNotice s_X1_noNotice
    rw [e0, if_neg n1, if_neg n1, if_pos rfl, ixn (by omega), (hQ.2.2.2.1 n (by omega)).1]
    exact ⟨rfl, rfl, rfl, RRw_ref 0 h0⟩
theorem has01 (x : Int32) {d : Nat} (hd : d < 32) : r_X0_has x (nI d) = if bt x d then 1 else 0 := by
  cases z : bt x d with
  | false => exact (has_iff x hd).mpr z
  | true =>
    rcases z01_X0_has x (nI d) with q | q
    · exact absurd ((has_iff x hd).mp q) (by rw [z]; decide)
    · rw [q]; rfl
theorem count_both {nd nn mi : Nat} {u v : SX} (h : RQ nd nn mi u v) {d : Nat} (hd : d < 32) : r_X0_countWaiting u (nI d) = r_X1_countWaiting v (nI d) := by
  have hw := fun n hn => waits_both h (n := n) hn
  obtain ⟨⟨⟨a1, a2, a3⟩, ⟨a4, a5, a6⟩, ⟨a7, a8, a9⟩, a10⟩, hD, hL, hN, hK⟩ := h
  unfold r_X0_countWaiting r_X1_countWaiting
  rw [a5, a8, ixn (by omega)]
  have key : ∀ k, k ≤ nn → l_X0_countWaiting_4 u (nI d) k = l_X1_countWaiting_4 v (nI d) k := by
    intro k
    induction k with
    | zero => intro _; rfl
    | succ k ih =>
      intro hk
      show b_X0_countWaiting_4 u (nI d) k (l_X0_countWaiting_4 u (nI d) k) = b_X1_countWaiting_4 v (nI d) k (l_X1_countWaiting_4 v (nI d) k)
      rw [ih (by omega)]
      unfold b_X0_countWaiting_4 b_X1_countWaiting_4
      rw [hw k (by omega), ixn (by omega), bt_shr1 _ hd, has01 _ hd]
      cases bt (v.2 19 k) d
      · rw [if_neg (show ¬ (false = true) by decide), if_pos (show (0 : Int32) = 0 from rfl), Int32.add_zero]
      · rw [if_pos (show true = true from rfl), if_neg ne10]
  exact key nn (Nat.le_refl _)
theorem D_waiting : zD_waiting RRw := by
  intro u v h p1
  have h0 := h
  obtain ⟨nd, nn, mi, hQ, hS⟩ := h
  rcases devC hQ p1 with ⟨i0, e3⟩ | ⟨d, hd, rfl, i1, e0⟩
  · right
    have hs : s_X1_waiting v p1 = pF v 0 1 := by unfold s_X1_waiting; rw [if_pos i0]
    refine ⟨by unfold e_X0_waiting; rw [e3]; decide, by rw [hs]; rfl, by rw [hs]; exact RRw_ref 1 h0⟩
  · left
    have n1 : ¬ r_X1_isDevice v (nI d) = 0 := by rw [i1]; decide
    have hnd := hQ.1.1.1
    have q := count_both (RQ_ref 0 hQ) (d := d) (by omega)
    unfold e_X0_waiting r_X0_waiting s_X1_waiting r_X1_waiting
    rw [e0, if_neg n1, if_neg n1, q]
    exact ⟨rfl, rfl, rfl, RRw_ref 0 h0⟩
theorem D_badge : zD_badge RRw := by
  intro u v h p1
  have h0 := h
  obtain ⟨nd, nn, mi, hQ, hS⟩ := h
  rcases devC hQ p1 with ⟨i0, e3⟩ | ⟨d, hd, rfl, i1, e0⟩
  · right
    have hs : s_X1_badge v p1 = pF v 0 1 := by unfold s_X1_badge; rw [if_pos i0]
    refine ⟨by unfold e_X0_badge; rw [e3]; decide, by rw [hs]; rfl, by rw [hs]; exact RRw_ref 1 h0⟩
  · left
    have n1 : ¬ r_X1_isDevice v (nI d) = 0 := by rw [i1]; decide
    have hst := fun n hn => stands_both hQ (n := n) hn
    obtain ⟨⟨⟨a1, a2, a3⟩, ⟨a4, a5, a6⟩, ⟨a7, a8, a9⟩, a10⟩, hD, hL, hN, hK⟩ := hQ
    unfold e_X0_badge r_X0_badge s_X1_badge r_X1_badge
    rw [e0, if_neg n1, if_neg n1, a5, a8, ixn (by omega)]
    refine ⟨rfl, rfl, ?_, RRw_ref 0 h0⟩
    have key : ∀ k, k ≤ nn → l_X0_badge_9 u (nI d) k = l_X1_badge_26 v (nI d) k := by
      intro k
      induction k with
      | zero => intro _; rfl
      | succ k ih =>
        intro hk
        show b_X0_badge_9 u (nI d) k (l_X0_badge_9 u (nI d) k) = b_X1_badge_26 v (nI d) k (l_X1_badge_26 v (nI d) k)
        rw [ih (by omega)]
        unfold b_X0_badge_9 b_X1_badge_26
        rw [hst k (by omega), ixn (by omega), bt_shr1 _ (by omega), has01 _ (by omega), (hN k (by omega)).1]
        by_cases o : v.2 18 k = 0
        · rw [if_pos o, if_pos o]
          cases bt (v.2 20 k) d
          · rw [if_neg (show ¬ (false = true) by decide), if_pos (show (0 : Int32) = 0 from rfl), Int32.add_zero]
          · rw [if_pos (show true = true from rfl), if_neg ne10, if_neg ne10]
        · rw [if_neg o, if_neg o]
          cases bt (v.2 20 k) d
          · rw [if_neg (show ¬ (false = true) by decide), if_pos (show (0 : Int32) = 0 from rfl), Int32.add_zero]
          · rw [if_pos (show true = true from rfl), if_neg ne10, if_pos (show (0 : Int32) = 0 from rfl), Int32.add_zero]
    exact key nn (Nat.le_refl _)
