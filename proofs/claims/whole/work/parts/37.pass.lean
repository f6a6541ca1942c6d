/-! ===== minutes that pass ===== -/
def eb (v : SX) (n : Nat) : Bool := decide (v.2 18 n = 0) && decide (¬ (v.1 1 + 1) < v.2 15 n)
def ENDS (nn : Nat) (v y : SX) : Prop := y.1 = upd v.1 1 (v.1 1 + 1) ∧ (∀ j, j ≠ 18 → j ≠ 19 → y.2 j = v.2 j) ∧ (∀ n, y.2 18 n = if decide (n < nn) && eb v n then 1 else v.2 18 n) ∧ (∀ n, y.2 19 n = if decide (n < nn) && eb v n then 0 else v.2 19 n)
theorem ends_all (v0 : SX) (p : Int32) (k44 : Nat) (x : SX × Int32) : ∀ k, k ≤ 120 → ENDS k x.1 (l_X1_pass_62 v0 p k44 x k)
  | 0, _ => by
    refine ⟨rfl, fun j _ _ => rfl, fun n => ?_, fun n => ?_⟩
    · rw [decide_eq_false (Nat.not_lt_zero n), Bool.false_and]; rfl
    · rw [decide_eq_false (Nat.not_lt_zero n), Bool.false_and]; rfl
  | k + 1, hk => by
    obtain ⟨i1, i2, i3, i4⟩ := ends_all v0 p k44 x k (by omega)
    show ENDS (k + 1) x.1 (b_X1_pass_62 v0 p k44 x k (l_X1_pass_62 v0 p k44 x k))
    generalize l_X1_pass_62 v0 p k44 x k = y at *
    have e18 : y.2 18 k = x.1.2 18 k := by rw [i3 k, decide_eq_false (Nat.lt_irrefl k), Bool.false_and, if_neg (by decide)]
    have e1 : y.1 1 = x.1.1 1 + 1 := by rw [i1, pk_us]
    have e15 : y.2 15 k = x.1.2 15 k := by rw [i2 15 (by decide) (by decide)]
    have keep : eb x.1 k = false → ENDS (k + 1) x.1 y := by
      intro hb
      refine ⟨i1, i2, fun n => ?_, fun n => ?_⟩
      · rw [i3 n]
        by_cases e : n = k
        · subst e; simp only [hb, Bool.and_false]
        · rw [dec_succ_ne e]
      · rw [i4 n]
        by_cases e : n = k
        · subst e; simp only [hb, Bool.and_false]
        · rw [dec_succ_ne e]
    unfold b_X1_pass_62
    rw [ixn (by omega), e18, e1, e15]
    by_cases a : x.1.2 18 k = 0
    · rw [if_pos a]
      by_cases b : x.1.1 1 + 1 < x.1.2 15 k
      · rw [if_pos b]
        exact keep (by unfold eb; rw [decide_eq_true a, Bool.true_and]; exact decide_eq_false (fun q => q b))
      · rw [if_neg b]
        have hb : eb x.1 k = true := by unfold eb; rw [decide_eq_true a, decide_eq_true b]; rfl
        refine ⟨i1, fun j h18 h19 => ?_, fun n => ?_, fun n => ?_⟩
        · rw [← i2 j h18 h19]
          show va_up (va_up y.2 18 _) 19 _ j = _
          simp only [va_up, if_neg h18, if_neg h19]
        · show upd (y.2 18) k 1 n = _
          by_cases e : n = k
          · subst e
            rw [pk_us, decide_eq_true (Nat.lt_succ_self n), hb]; rfl
          · rw [pk_un e, i3 n, dec_succ_ne e]
        · show upd (y.2 19) k 0 n = _
          by_cases e : n = k
          · subst e
            rw [pk_us, decide_eq_true (Nat.lt_succ_self n), hb]; rfl
          · rw [pk_un e, i4 n, dec_succ_ne e]
    · rw [if_neg a]
      exact keep (by unfold eb; rw [decide_eq_false a, Bool.false_and])
theorem pF_pF (u : SX) (k : Nat) (x y : Int32) : pF (pF u k x) k y = pF u k y := by
  unfold pF
  have : upd (upd u.1 k x) k y = upd u.1 k y := by
    funext j
    by_cases e : j = k
    · subst e; rw [pk_us, pk_us]
    · rw [pk_un e, pk_un e, pk_un e]
  rw [this]
theorem pF_same (u : SX) (k : Nat) {x : Int32} (h : u.1 k = x) : pF u k x = u := by
  unfold pF
  have : upd u.1 k x = u.1 := by
    funext j
    by_cases e : j = k
    · subst e; rw [pk_us, h]
    · rw [pk_un e]
  rw [this]
theorem RQ_ref {nd nn mi : Nat} {u v : SX} (x : Int32) (h : RQ nd nn mi u v) : RQ nd nn mi u (pF v 0 x) := by
  unfold RQ qA qD qL qN qK at h ⊢
  exact h
theorem qS_ref {nd nn mi : Nat} {v : SX} (x : Int32) (h : qS nd nn mi v) : qS nd nn mi (pF v 0 x) := by
  unfold qS tkM usedM H1 at h ⊢
  exact h
theorem RQ_minute {nd nn mi : Nat} {u v y : SX} (h : RQ nd nn mi u v) (hm : mi + 1 ≤ 100000) (hy : ENDS nn v y) : RQ nd nn (mi + 1) (pF u 17 (nI (mi + 1))) y := by
  obtain ⟨⟨⟨a1, a2, a3⟩, ⟨a4, a5, a6⟩, ⟨a7, a8, a9⟩, a10⟩, hD, hL, hN, hK⟩ := h
  obtain ⟨y1, y2, y3, y4⟩ := hy
  have y1' : ∀ j, j ≠ 1 → y.1 j = v.1 j := fun j hj => by rw [y1, pk_un hj]
  have y2' : ∀ j, j ≠ 18 → j ≠ 19 → ∀ d, y.2 j d = v.2 j d := fun j p q d => by rw [y2 j p q]
  have c1 : v.1 1 + 1 = nI (mi + 1) := by rw [a9, nI_1]
  refine ⟨⟨⟨a1, a2, hm⟩, ⟨a4, a5, rfl⟩, ⟨?_, ?_, ?_⟩, ?_⟩, fun d hd => ?_, fun i hi => ?_, fun n hn => ?_, fun us hus ky hky => ?_⟩
  · rw [y1' 2 (by decide)]; exact a7
  · rw [y1' 13 (by decide)]; exact a8
  · rw [y1, pk_us, c1]
  · rw [y1' 21 (by decide)]; exact a10
  · have := hD d hd
    unfold qD at this ⊢
    rw [y2' 5 (by decide) (by decide), y2' 6 (by decide) (by decide), y2' 4 (by decide) (by decide), y2' 8 (by decide) (by decide), y2' 9 (by decide) (by decide), y2' 10 (by decide) (by decide), y2' 11 (by decide) (by decide), y2' 12 (by decide) (by decide)]
    exact this
  · have := hL i hi
    unfold qL at this ⊢
    rw [y2' 7 (by decide) (by decide), y2' 3 (by decide) (by decide)]
    exact this
  · obtain ⟨b1, b2, b3⟩ := hN n hn
    unfold qN
    rw [y2' 20 (by decide) (by decide), y2' 14 (by decide) (by decide), y2' 15 (by decide) (by decide), y3 n, y4 n]
    refine ⟨b1, fun q => ?_, fun q => ?_⟩
    · rw [decide_eq_false (by omega), Bool.false_and, if_neg (by decide)]
      exact b2 q
    · obtain ⟨d1, ⟨f, f1, f2, f3, f4⟩, d3, d4, d5⟩ := b3 q
      rw [decide_eq_true q, Bool.true_and]
      refine ⟨d1, ⟨f, f1, f2, ?_⟩, ?_⟩
      · by_cases o : v.2 18 n = 0
        · have e15 := f4 o
          have lt := f3.mp o
          unfold eb
          rw [decide_eq_true o, Bool.true_and, e15, c1]
          by_cases z : mi + 1 < f
          · rw [decide_eq_false (fun w => w (nI_lt z (by omega))), if_neg (by decide)]
            exact ⟨⟨fun _ => z, fun _ => o⟩, fun _ => rfl⟩
          · rw [decide_eq_true (nI_nlt (by omega) (by omega)), if_pos rfl]
            exact ⟨⟨fun w => absurd w (by decide), fun w => absurd w z⟩, fun _ => rfl⟩
        · have lt : ¬ mi < f := fun w => o (f3.mpr w)
          unfold eb
          rw [decide_eq_false o, Bool.false_and, if_neg (by decide)]
          exact ⟨⟨fun w => absurd w o, fun w => absurd (show mi < f by omega) lt⟩, fun w => absurd w o⟩
      · cases z : eb v n with
        | true =>
          rw [if_pos rfl, if_pos rfl]
          exact ⟨fun w => absurd w (by decide), fun _ => rfl, d5⟩
        | false =>
          rw [if_neg (by decide), if_neg (by decide)]
          exact ⟨d3, d4, d5⟩
  · have t := hK us hus ky hky
    unfold qK at t ⊢
    rw [y2 16 (by decide) (by decide), y2 17 (by decide) (by decide)]
    rcases t with t | ⟨m, m1, m2, m3, m4, m5⟩
    · exact Or.inl t
    · refine Or.inr ⟨m, m1, m2, m3, m4, fun n q1 q2 q3 q4 => ?_⟩
      have := m5 n q1 q2 q3 q4
      rw [y3 n]
      split
      · decide
      · exact this
theorem qS_ends {nd nn mi : Nat} {v y : SX} (h : qS nd nn mi v) (hy : ENDS nn v y) : qS nd nn mi y := by
  obtain ⟨y1, y2, y3, y4⟩ := hy
  have y2' : ∀ j, j ≠ 18 → j ≠ 19 → ∀ d, y.2 j d = v.2 j d := fun j p q d => by rw [y2 j p q]
  intro d hd n hn hb
  have hb1 : bt (v.2 19 n) d = true := by
    rw [y4 n] at hb
    split at hb
    · rw [b_0] at hb; cases hb
    · exact hb
  have := h d hd n hn hb1
  unfold tkM usedM H1 at this ⊢
  rw [y2' 5 (by decide) (by decide), y2' 6 (by decide) (by decide), y2' 4 (by decide) (by decide), y2' 8 (by decide) (by decide), y2' 9 (by decide) (by decide), y2' 14 (by decide) (by decide), y2' 11 (by decide) (by decide), y2' 12 (by decide) (by decide)]
  exact this
theorem keepS {nd nn m c c' : Nat} {v : SX} (hs : qS nd nn m v) (h1 : m ≤ c') (h2 : c' < c) (h3 : c ≤ m / 60 * 60 + 60) (hq : ∀ d, d < nd → qz m (v.2 4 d).toInt (v.2 8 d).toInt (v.2 9 d).toInt = true → qz c' (v.2 4 d).toInt (v.2 8 d).toInt (v.2 9 d).toInt = true) : qS nd nn c' v := by
  intro d hd n hn hb
  have z := hs d hd n hn hb
  have q := hq d hd
  have eu : usedM c' v d = usedM m v d := by
    unfold usedM
    rw [show c' / 1440 = m / 1440 by omega]
  have ew : decide (m % 60 = 0) = false → decide (c' % 60 = 0) = false := by
    intro a
    have := of_decide_eq_false a
    exact decide_eq_false (by omega)
  unfold tkM at z ⊢
  rw [eu]
  unfold tk at z ⊢
  cases hO : decide (¬ v.2 5 d = 0) with
  | false => rfl
  | true =>
    rw [hO, Bool.true_and] at z
    rw [Bool.true_and]
    cases hH : H1 v n with
    | true => rw [hH] at z; exact z
    | false =>
      rw [hH, if_neg (by decide)] at z
      rw [if_neg (by decide)]
      cases hz : qz m (v.2 4 d).toInt (v.2 8 d).toInt (v.2 9 d).toInt with
      | true => rw [q hz]; rfl
      | false =>
        rw [hz, Bool.not_false, Bool.true_and] at z
        cases hZ : decide (¬ v.2 6 d = 0) with
        | false => rw [hZ] at z; exact absurd (show true = false from z) (by decide)
        | true =>
          rw [hZ, Bool.not_true, Bool.false_or] at z
          rw [ew z, Bool.not_true, Bool.or_self, Bool.and_false]
theorem look_idle {nd nn mi : Nat} {u y : SX} (h : RQ nd nn mi u y) (hs : qS nd nn mi y) : s_X1_look y = y ∧ r_X1_look y = 0 := by
  obtain ⟨⟨⟨a1, a2, a3⟩, ⟨a4, a5, a6⟩, ⟨a7, a8, a9⟩, a10⟩, hD, hL, hN, hK⟩ := h
  have inner : ∀ d, d < nd → ∀ k, k ≤ nn → l_X1_look_17 y d y k = y := by
    intro d hd k
    induction k with
    | zero => intro _; rfl
    | succ k ih =>
      intro hk
      show b_X1_look_17 y d y k (l_X1_look_17 y d y k) = y
      rw [ih (by omega)]
      unfold b_X1_look_17
      rw [ixn (by omega)]
      by_cases a : ((y.2 19 k) >>> ((nI d) &&& 31)) &&& 1 = 1
      · obtain ⟨_, _, _, b8, _⟩ := hD d (by omega)
        have t := hs d hd k (by omega) ((shr1_iff _ (by omega)).mp a)
        have c := can1 y (d := d) (n := k) (by omega) (by omega)
        rw [tkM_eq a9 (by omega) (by omega) b8, t, if_neg (by decide)] at c
        rw [if_pos a, if_pos c]
      · rw [if_neg a]
  have outer : ∀ k, k ≤ nd → l_X1_look_7 y k = y := by
    intro k
    induction k with
    | zero => intro _; rfl
    | succ k ih =>
      intro hk
      show b_X1_look_7 y k (l_X1_look_7 y k) = y
      rw [ih (by omega)]
      unfold b_X1_look_7
      rw [a8, ixn (by omega)]
      exact inner k (by omega) nn (Nat.le_refl _)
  unfold s_X1_look r_X1_look
  rw [a7, ixn (by omega), outer nd (Nat.le_refl _)]
  exact ⟨rfl, Int32.sub_self _⟩
theorem RQ_qz {nd nn mi : Nat} {u v : SX} (h : RQ nd nn mi u v) {d : Nat} (hd : d < 16) (m : Int) : qz m (v.2 4 d).toInt (v.2 8 d).toInt (v.2 9 d).toInt = qz m (u.2 5 d).toInt (u.2 6 d).toInt (u.2 7 d).toInt := by
  obtain ⟨_, ⟨b3, b4, b5⟩, _, _, _⟩ := h.2.1 d hd
  rw [b3, b4, b5]
/-- the minutes behind m that are no chance, and the one at the end -/
theorem run_idle {nd nn m c k0 : Nat} {u v0 : SX} {p : Int32} (h13 : v0.1 13 = nI nn) (h : RQ nd nn m u (l_X1_pass_44 v0 p k0).1) (hs : qS nd nn m (l_X1_pass_44 v0 p k0).1) (hb : c ≤ m / 60 * 60 + 60) (hq : ∀ d, d < nd → qz m (u.2 5 d).toInt (u.2 6 d).toInt (u.2 7 d).toInt = true → ∀ c' : Nat, m ≤ c' → c' < c → qz c' (u.2 5 d).toInt (u.2 6 d).toInt (u.2 7 d).toInt = true) :
    ∀ j, m + j < c → m + j ≤ 100000 → RQ nd nn (m + j) (pF u 17 (nI (m + j))) (l_X1_pass_44 v0 p (k0 + j)).1 ∧ qS nd nn m (l_X1_pass_44 v0 p (k0 + j)).1 ∧ (l_X1_pass_44 v0 p (k0 + j)).2 = (l_X1_pass_44 v0 p k0).2
  | 0, _, _ => by
    have e : pF u 17 (nI (m + 0)) = u := pF_same u 17 h.1.2.1.2.2
    rw [e]
    exact ⟨h, hs, rfl⟩
  | j + 1, hj, hj2 => by
    obtain ⟨r1, r2, r3⟩ := run_idle h13 h hs hb hq j (by omega) (by omega)
    have hnn : nn ≤ 120 := h.1.1.2.1
    show RQ nd nn (m + (j + 1)) _ (b_X1_pass_44 v0 p (k0 + j) (l_X1_pass_44 v0 p (k0 + j))).1 ∧ qS nd nn m (b_X1_pass_44 v0 p (k0 + j) (l_X1_pass_44 v0 p (k0 + j))).1 ∧ (b_X1_pass_44 v0 p (k0 + j) (l_X1_pass_44 v0 p (k0 + j))).2 = _
    have en := ends_all v0 p (k0 + j) (l_X1_pass_44 v0 p (k0 + j)) nn hnn
    unfold b_X1_pass_44
    rw [h13, ixn (by omega)]
    generalize l_X1_pass_62 v0 p (k0 + j) (l_X1_pass_44 v0 p (k0 + j)) nn = y at en
    have q1 := RQ_minute r1 (by omega) en
    rw [pF_pF] at q1
    have q2 := qS_ends r2 en
    have q3 : qS nd nn (m + j + 1) y := by
      refine keepS q2 (by omega) (by omega : m + j + 1 < c) hb (fun d hd a => ?_)
      have hd16 : d < 16 := by have := h.1.1.1; omega
      rw [RQ_qz q1 hd16] at a ⊢
      exact hq d hd a (m + j + 1) (by omega) (by omega)
    obtain ⟨l1, l2⟩ := look_idle q1 q3
    dsimp only
    rw [l1, l2, r3]
    exact ⟨q1, q2, Int32.add_zero _⟩
theorem run_to {nd nn m c k0 e : Nat} {u v0 : SX} {p : Int32} (h13 : v0.1 13 = nI nn) (h : RQ nd nn m u (l_X1_pass_44 v0 p k0).1) (hs : qS nd nn m (l_X1_pass_44 v0 p k0).1) (hb : c ≤ m / 60 * 60 + 60) (hq : ∀ d, d < nd → qz m (u.2 5 d).toInt (u.2 6 d).toInt (u.2 7 d).toInt = true → ∀ c' : Nat, m ≤ c' → c' < c → qz c' (u.2 5 d).toInt (u.2 6 d).toInt (u.2 7 d).toInt = true) (he : m < e) (hec : e ≤ c) (he2 : e ≤ 100000) :
    RQ nd nn e (s_X0_deliverNow (pF u 17 (nI e))) (l_X1_pass_44 v0 p (k0 + (e - m))).1 ∧ qS nd nn e (l_X1_pass_44 v0 p (k0 + (e - m))).1 ∧ (l_X1_pass_44 v0 p (k0 + (e - m))).2 = (l_X1_pass_44 v0 p k0).2 + r_X0_deliverNow (pF u 17 (nI e)) := by
  obtain ⟨j, rfl⟩ : ∃ j, e = m + j + 1 := ⟨e - m - 1, by omega⟩
  obtain ⟨r1, r2, r3⟩ := run_idle h13 h hs hb hq j (by omega) (by omega)
  have hnn : nn ≤ 120 := h.1.1.2.1
  rw [show k0 + (m + j + 1 - m) = k0 + j + 1 by omega]
  show RQ nd nn (m + j + 1) _ (b_X1_pass_44 v0 p (k0 + j) (l_X1_pass_44 v0 p (k0 + j))).1 ∧ qS nd nn (m + j + 1) (b_X1_pass_44 v0 p (k0 + j) (l_X1_pass_44 v0 p (k0 + j))).1 ∧ (b_X1_pass_44 v0 p (k0 + j) (l_X1_pass_44 v0 p (k0 + j))).2 = _
  have en := ends_all v0 p (k0 + j) (l_X1_pass_44 v0 p (k0 + j)) nn hnn
  unfold b_X1_pass_44
  rw [h13, ixn (by omega)]
  generalize l_X1_pass_62 v0 p (k0 + j) (l_X1_pass_44 v0 p (k0 + j)) nn = y at en
  have q1 := RQ_minute r1 (by omega) en
  rw [pF_pF] at q1
  obtain ⟨d1, d2, d3⟩ := deliverNow_both q1
  dsimp only
  rw [r3, d2]
  exact ⟨d1, d3, rfl⟩
theorem pass_sim {nd nn m0 P : Nat} {u v : SX} (h : RQ nd nn m0 u v) (hs : qS nd nn m0 v) (hP : m0 + P ≤ 100000) : ∀ k, ∃ m, m0 ≤ m ∧ m ≤ m0 + P ∧ (m = m0 + P ∨ m0 + k ≤ m) ∧ RQ nd nn m (l_X0_pass_41 u (nI P) k).1 (l_X1_pass_44 v (nI P) (m - m0)).1 ∧ qS nd nn m (l_X1_pass_44 v (nI P) (m - m0)).1 ∧ (l_X0_pass_41 u (nI P) k).2 = (l_X1_pass_44 v (nI P) (m - m0)).2
  | 0 => by
    refine ⟨m0, Nat.le_refl _, by omega, Or.inr (by omega), ?_⟩
    rw [Nat.sub_self]
    exact ⟨RQ_ref 0 h, qS_ref 0 hs, rfl⟩
  | k + 1 => by
    obtain ⟨m, m1, m2, m3, r1, r2, r3⟩ := pass_sim h hs hP k
    have e17 : u.1 17 + nI P = nI (m0 + P) := by rw [h.1.2.1.2.2, nI_add]
    have h13 : v.1 13 = nI nn := h.1.2.2.1.2.1
    have hnd : nd ≤ 16 := h.1.1.1
    show ∃ m, m0 ≤ m ∧ m ≤ m0 + P ∧ (m = m0 + P ∨ m0 + (k + 1) ≤ m) ∧ RQ nd nn m (b_X0_pass_41 u (nI P) k (l_X0_pass_41 u (nI P) k)).1 _ ∧ _ ∧ (b_X0_pass_41 u (nI P) k (l_X0_pass_41 u (nI P) k)).2 = _
    generalize l_X0_pass_41 u (nI P) k = x at *
    have x17 : x.1.1 17 = nI m := r1.1.2.1.2.2
    have x10 : x.1.1 10 = nI nd := r1.1.2.1.1
    unfold b_X0_pass_41
    rw [e17, x17]
    by_cases a : m0 + P ≤ m
    · rw [if_pos (nI_le a (by omega))]
      exact ⟨m, m1, m2, Or.inl (by omega), r1, r2, r3⟩
    · rw [if_neg (nI_ge (by omega) (by omega))]
      obtain ⟨c, c1, c2, c3, c4⟩ := nextC (u := x.1) (mi := m) (nd := nd) x17 (by omega) hnd (fun d hd => by
        obtain ⟨_, ⟨b3, b4, b5⟩, _, b8, _⟩ := r1.2.1 d (by omega)
        rw [b3, b4, b5]; exact b8) nd (Nat.le_refl _)
      have en : r_X0_nextChance x.1 = nI c := by unfold r_X0_nextChance; rw [x10, ixn (by omega), c1]
      rw [en]
      have em : ∃ e, mnI (nI (m0 + P)) (nI c) = nI e ∧ m < e ∧ e ≤ c ∧ e ≤ m0 + P := by
        unfold mnI
        by_cases w : nI c < nI (m0 + P)
        · rw [if_pos w]
          have := (nI_ltI (by omega) (by omega)).mp w
          exact ⟨c, rfl, c2, Nat.le_refl _, by omega⟩
        · rw [if_neg w]
          have : ¬ c < m0 + P := fun z => w (nI_lt z (by omega))
          exact ⟨m0 + P, rfl, by omega, by omega, Nat.le_refl _⟩
      obtain ⟨e, e1, e2, e3, e4⟩ := em
      rw [e1]
      obtain ⟨t1, t2, t3⟩ := run_to h13 r1 r2 c3 c4 e2 e3 (by omega)
      rw [show m - m0 + (e - m) = e - m0 by omega] at t1 t2 t3
      refine ⟨e, by omega, e4, ?_, t1, t2, ?_⟩
      · rcases m3 with z | z
        · omega
        · right; omega
      · rw [t3, r3]
theorem pass_44_0 (v : SX) (p : Int32) (k : Nat) : (l_X1_pass_44 v p k).1.1 0 = 0 := by
  induction k with
  | zero => rfl
  | succ k ih =>
    show (b_X1_pass_44 v p k (l_X1_pass_44 v p k)).1.1 0 = _
    unfold b_X1_pass_44
    show (s_X1_look _).1 0 = _
    rw [s_X1_look_1 _ _ (by decide), lf_X1_pass_62 _ _ _ _ _ _ (by decide)]
    exact ih
