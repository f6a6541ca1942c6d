theorem zGok_GL (b L : Nat) (xs : Nat → Int32) : zGok (zGL b L xs) := by
  refine ⟨fun a U g mk A h => ?_, fun s U A B locs h hW hS hBA => ?_⟩
  · obtain ⟨h1, h2, h3, h4⟩ := h
    exact ⟨zGok_U.1 a U g mk A h1, va_X.moved (u := U) (U := U.calling g mk a) (Vm.Alike.refl U.vm) h2, h3, h4⟩
  · obtain ⟨h1, h2, h3, h4⟩ := h
    exact ⟨zGok_U.2 s U A B locs h1 hW hS hBA, va_X.moved hW.alike (h2.kept (hS.2.1 b h3 h4)), Nat.lt_of_lt_of_le h3 hS.1, fun z => h4 (hBA b z)⟩
theorem mask31 (v : Int32) : ∃ n, n < 2147483648 ∧ (v &&& 2147483647) = nI n := by
  refine ⟨(v &&& 2147483647).toBitVec.toNat, ?_, ?_⟩
  · have e : (v &&& 2147483647).toBitVec = v.toBitVec &&& 2147483647#32 := rfl
    rw [e, BitVec.toNat_and]
    have := Nat.and_le_right (n := v.toBitVec.toNat) (m := (2147483647#32).toNat)
    have b : (2147483647#32).toNat = 2147483647 := rfl
    omega
  · apply Int32.toBitVec_inj.mp
    show _ = BitVec.ofNat 32 _
    rw [BitVec.ofNat_toNat, BitVec.setWidth_eq]
theorem g_badge {u : SX} {p : Int32} (h : e_X0_requireDevice u p = 0) : e_X0_badge u p = 0 := by
  unfold e_X0_badge; simp [h]
theorem g_waiting {u : SX} {p : Int32} (h : e_X0_requireDevice u p = 0) : e_X0_waiting u p = 0 := by
  unfold e_X0_waiting; simp [h]
theorem g_quota {u : SX} {p : Int32} (h : e_X0_requireDevice u p = 0) : e_X0_quota u p = 0 := by
  unfold e_X0_quota; simp [h]
theorem g_isQuiet {u : SX} {p : Int32} (h : e_X0_requireDevice u p = 0) : e_X0_isQuiet u p = 0 := by
  unfold e_X0_isQuiet; simp [h]
theorem v_badge {u : SX} {p : Int32} (hnn : u.1 16 = nI 0) : r_X0_badge u p = 0 := by
  unfold r_X0_badge; rw [hnn]; rfl
theorem v_waiting {u : SX} {p : Int32} (hnn : u.1 16 = nI 0) : r_X0_waiting u p = 0 := by
  unfold r_X0_waiting r_X0_countWaiting; rw [hnn]; rfl
theorem v_quota {u : SX} (h1 : u.2 9 0 = 0) : r_X0_quota u 0 = 3 := by
  unfold r_X0_quota r_X0_spentToday
  have e : ix 0 = 0 := rfl
  rw [e, h1]
  split <;> rfl
theorem st_e {k : Nat} (hk : k < 30) : e_X0_requireWithin (nI k / 10) 0 7 = 0 ∧ e_X0_requireWithin (nI k - nI k / 10 * 10) 0 9 = 0 := by
  have e1 : nI k / 10 = nI (k / 10) := pk_div (d := 10) (by omega) (by omega) (by omega)
  have e2 : nI k - nI k / 10 * 10 = nI (k % 10) := pk_rem (d := 10) (by omega) (by omega) (by omega)
  have a : (0 : Int32).toInt = 0 := rfl
  have b : (7 : Int32).toInt = 7 := rfl
  have c : (9 : Int32).toInt = 9 := rfl
  rw [e2, e1]
  exact ⟨win (by rw [nI_toInt (by omega), a]; omega) (by rw [nI_toInt (by omega), b]; omega), win (by rw [nI_toInt (by omega), a]; omega) (by rw [nI_toInt (by omega), c]; omega)⟩
theorem g_standing {u : SX} {k : Nat} (hk : k < 30) : e_X0_standing u (nI k / 10) (nI k - nI k / 10 * 10) = 0 := by
  unfold e_X0_standing; simp [(st_e hk).1, (st_e hk).2]
theorem v_standing {u : SX} {k : Nat} (hk : k < 30) (h : ∀ i : Nat, i < 80 → u.2 15 i = (-1)) : r_X0_standing u (nI k / 10) (nI k - nI k / 10 * 10) = (-1) := by
  unfold r_X0_standing
  rw [if_pos (h _ (zix_lt (zplaceW (st_e hk).1 (st_e hk).2) (by omega)))]
theorem g_adds {u : SX} {y : Nat} (hy : y < 2147483648) (hnd : u.1 10 = nI 0) : e_X0_addDevice u (nI y - nI y / 3 * 3) ((nI y / 3 - nI y / 3 / 1561 * 1561) - 720) = 0 := by
  have e1 : nI y - nI y / 3 * 3 = nI (y % 3) := pk_rem (d := 3) (by omega) (by omega) (by omega)
  have e2 : nI y / 3 = nI (y / 3) := pk_div (d := 3) (by omega) (by omega) (by omega)
  have e3 : nI (y / 3) - nI (y / 3) / 1561 * 1561 = nI (y / 3 % 1561) := pk_rem (d := 1561) (by omega) (by omega) (by omega)
  rw [e1, e2, e3]
  have e4 : (nI (y / 3 % 1561) - 720).toInt = ((y / 3 % 1561 : Nat) : Int) - 720 := by
    have c : (720 : Int32).toInt = 720 := rfl
    rw [Int32.toInt_sub, nI_toInt (by omega), c, tI_bmod (by omega) (by omega)]
  have a : (0 : Int32).toInt = 0 := rfl
  have b : (7 : Int32).toInt = 7 := rfl
  have c : (-720 : Int32).toInt = -720 := rfl
  have d : (840 : Int32).toInt = 840 := rfl
  have w1 : e_X0_requireWithin (nI (y % 3)) 0 7 = 0 := win (by rw [nI_toInt (by omega), a]; omega) (by rw [nI_toInt (by omega), b]; omega)
  have w2 : e_X0_requireWithin (nI (y / 3 % 1561) - 720) (-720) 840 = 0 := win (by rw [e4, c]; omega) (by rw [e4, d]; omega)
  unfold e_X0_addDevice
  rw [if_pos w1, if_pos w2, hnd]
  rfl
theorem init_1 (k : Nat) : (l_X0_init k).1 = fun _ => 0 := by
  induction k with
  | zero => rfl
  | succ k ih => exact ih
theorem s_init_1 : s_X0_init.1 = fun _ => 0 := init_1 80
theorem init_15 (k : Nat) (hk : k ≤ 80) : ∀ i, i < k → (l_X0_init k).2 15 i = (-1) := by
  induction k with
  | zero => intro i h; omega
  | succ k ih =>
    intro i h
    show (pG (l_X0_init k) 15 (ix (nI k)) (-1)).2 15 i = _
    have e : ix (nI k) = k := nI_clamp (by omega)
    rw [e]
    simp only [pG, va_up, upd]
    by_cases q : i = k
    · simp [q, upd]
    · have z : upd ((l_X0_init k).2 15) k (-1) i = (l_X0_init k).2 15 i := by simp [upd, q]
      simp [z]; exact ih (by omega) i (by omega)
theorem init_9 (k i : Nat) : (l_X0_init k).2 9 i = 0 := by
  induction k with
  | zero => rfl
  | succ k ih =>
    show (pG (l_X0_init k) 15 (ix (nI k)) (-1)).2 9 i = _
    simp only [pG, va_up]
    exact ih
theorem s_init_15 : ∀ i : Nat, i < 80 → s_X0_init.2 15 i = (-1) := init_15 80 (by omega)
theorem s_init_10 : s_X0_init.1 10 = nI 0 := by rw [s_init_1]; rfl
theorem s_init_16 : s_X0_init.1 16 = nI 0 := by rw [s_init_1]; rfl
theorem s_init_9 : s_X0_init.2 9 0 = 0 := init_9 80 0
theorem ad_10 (u : SX) (P Q : Int32) (h : u.1 = fun _ => 0) : (s_X0_addDevice u P Q).1 10 = nI 1 := by
  unfold s_X0_addDevice
  simp only [pF, pG, upd, h]
  rfl
theorem ad_16 (u : SX) (P Q : Int32) (h : u.1 = fun _ => 0) : (s_X0_addDevice u P Q).1 16 = nI 0 := by
  unfold s_X0_addDevice
  simp only [pF, pG, upd, h]
  rfl
theorem ad_18 (u : SX) (P Q : Int32) (h : u.1 = fun _ => 0) : (s_X0_addDevice u P Q).1 18 = 0 := by
  unfold s_X0_addDevice
  simp only [pF, pG, upd, h]
  rfl
theorem ad_15 (u : SX) (P Q : Int32) (h : ∀ i : Nat, i < 80 → u.2 15 i = (-1)) : ∀ i : Nat, i < 80 → (s_X0_addDevice u P Q).2 15 i = (-1) := by
  intro i hi
  unfold s_X0_addDevice
  simp only [pF, pG, va_up]
  exact h i hi
theorem ad_9 (u : SX) (P Q : Int32) (h : u.2 9 0 = 0) : (s_X0_addDevice u P Q).2 9 0 = 0 := by
  unfold s_X0_addDevice
  simp only [pF, pG, va_up]
  exact h
/-- the state behind the first act -/
def uB (P Q : Int32) : SX := s_X0_addDevice s_X0_init P Q
theorem uB_10 (P Q : Int32) : (uB P Q).1 10 = nI 1 := ad_10 _ P Q s_init_1
theorem uB_16 (P Q : Int32) : (uB P Q).1 16 = nI 0 := ad_16 _ P Q s_init_1
theorem uB_18 (P Q : Int32) : (uB P Q).1 18 = 0 := ad_18 _ P Q s_init_1
theorem uB_15 (P Q : Int32) : ∀ i : Nat, i < 80 → (uB P Q).2 15 i = (-1) := ad_15 _ P Q s_init_15
theorem uB_9 (P Q : Int32) : (uB P Q).2 9 0 = 0 := ad_9 _ P Q s_init_9
set_option maxHeartbeats 4000000 in
set_option maxRecDepth 100000 in
theorem c_L_drawn (l : Launch) (D : va_G) (tys : List (ClassId × FieldType)) (b L j : Nat) (xs : Nat → Int32) (hj : j < 1000) (hL : L ≤ 260) : zMi l yL_drawn wsL_drawn ({ frames := 0, cells := 0, slots := 0, locals := 0 } : Room) (zGL b L xs) D tys [] [.ref b, .int (nI j)] (fun (r : Int32) (_ : Unit) => ∃ n, n < 2147483648 ∧ r = nI n) (fun _ => []) 0 0 := by
  refine z_startIK (cc := cL_drawn) (n := 2) (own := RL) (L0 := [(0, .ref b), (1, .int (nI j))]) (plainFor_of_name (by decide)) rfl rfl (Nat.le_of_ble_eq_true rfl) rfl (fun E hEl hret => ?_)
  refine z_iload_n 1 dL_drawn_0 rfl ?_
  refine z_aload_n 0 dL_drawn_1 rfl ?_
  refine z_slen dL_drawn_2 ?_
  refine z_icmp_ge 12 dL_drawn_3 (by decide) (fun c => ?_) (fun c => ?_)
  ·
    refine z_ldc (v := 15524329) (List.mem_of_getElem? (i := 1) rfl) dL_drawn_12 ?_
    refine z_iload_n 1 dL_drawn_14 rfl ?_
    refine z_iconst (v := 3) dL_drawn_15 rfl ?_
    refine z_iadd dL_drawn_16 ?_
    refine z_imul dL_drawn_17 ?_
    refine z_sipush (v := 13697) dL_drawn_18 rfl ?_
    refine z_iadd dL_drawn_21 ?_
    refine z_ldc (v := 2147483647) (List.mem_of_getElem? (i := 2) rfl) dL_drawn_22 ?_
    refine z_iand dL_drawn_24 ?_
    exact hret _ () _ _ _ dL_drawn_25 (mask31 _) rfl
  ·
    have hjL : j < L := by
      rcases Nat.lt_or_ge j L with q | q
      · exact q
      · exact absurd (nI_le q (by omega)) c
    refine z_aload_n 0 dL_drawn_6 rfl ?_
    refine z_iload_n 1 dL_drawn_7 rfl ?_
    refine z_sld (v := xs j) (vp_in_nI hjL (by omega)) (by rw [nI_clamp (by omega)]) dL_drawn_8 ?_
    refine z_goto 22 dL_drawn_9 (by decide) ?_
    refine z_ldc (v := 2147483647) (List.mem_of_getElem? (i := 2) rfl) dL_drawn_22 ?_
    refine z_iand dL_drawn_24 ?_
    exact hret _ () _ _ _ dL_drawn_25 (mask31 _) rfl
