set_option maxHeartbeats 4000000 in
set_option maxRecDepth 100000 in
theorem c_X1_quota (l : Launch) (D : va_G) (cI cZ : ClassId) (h : Nat) (a : Nat → Nat) (u : SX) (p1 : Int32) (nd : Nat) (hnd : u.1 2 = nI nd) (hd : nd ≤ 16) : zMi l yX1_quota wsX1_quota ({ frames := 2, cells := 0, slots := 0, locals := 43 } : Room) zTT D [(cI, .int), (cZ, .boolean)] (wX1 cI cZ h a u) [.ref h, .int p1] (fun (r : Int32) (u2 : SX) => r = r_X1_quota u p1 ∧ u2 = s_X1_quota u p1) (fun u2 => (wX1 cI cZ h a u2)) 0 0 := by
  refine z_startI (cc := cX1_quota) (n := 2) (own := RX1) (L0 := [(0, .ref h), (1, .int p1)]) (plainFor_of_name (by decide)) rfl rfl (Nat.le_of_ble_eq_true rfl) rfl (fun E hret => ?_)
  have hixnd : ix (u.1 2) = nd := by rw [hnd]; exact nI_clamp (by omega)
  refine z_aload_n 0 dX1_quota_0 rfl ?_
  refine z_aload_n 0 dX1_quota_1 rfl ?_
  refine z_iload_n 1 dX1_quota_2 rfl ?_
  refine z_callVi (As := [.int p1]) (st := [.ref h]) (fun l => c_X1_isDevice l D cI cZ h a u p1) zGok_TT (fun _ _ _ => trivial) (fun s args hts => cwV 1 hts gX1_quota_X1_isDevice rfl rfl rfl (by decide +kernel) ⟨Nat.le_of_ble_eq_true rfl, Nat.le_of_ble_eq_true rfl⟩) (ci := 1) rfl rfl rfl rfl (Nat.le_of_ble_eq_true rfl) ⟨Nat.le_of_ble_eq_true rfl, Nat.le_of_ble_eq_true rfl⟩ dX1_quota_3 rfl (fun r u2 hp => ?_)
  subst hp
  refine z_if_eq 13 dX1_quota_6 (by decide) (fun c_6_0 => ?_) (fun c_6_0 => ?_)
  ·
    refine z_iconst (v := 1) dX1_quota_13 rfl ?_
    refine z_callVi (As := [.int 1]) (st := []) (fun l => c_X1_refused l D cI cZ h a u 1) zGok_TT (fun _ _ _ => trivial) (fun s args hts => cwV 1 hts gX1_quota_X1_refused rfl rfl rfl (by decide +kernel) ⟨Nat.le_of_ble_eq_true rfl, Nat.le_of_ble_eq_true rfl⟩) (ci := 1) rfl rfl rfl rfl (Nat.le_of_ble_eq_true rfl) ⟨Nat.le_of_ble_eq_true rfl, Nat.le_of_ble_eq_true rfl⟩ dX1_quota_14 rfl (fun r u2 hp => ?_)
    obtain ⟨hp1, hp2⟩ := hp; have hp4 : r = 1 := hp1.trans (by simp [r_X1_refused]); clear hp1; subst hp4; have hp3 : u2 = (pF u 0 1) := hp2; clear hp2; subst hp3
    refine z_if_eq 24 dX1_quota_17 (by decide) (fun c_17_1 => absurd c_17_1 (by decide)) (fun _ => ?_)
    refine z_iconst (v := 0) dX1_quota_20 rfl ?_
    refine z_goto 31 dX1_quota_21 (by decide) ?_
    exact hret _ (pF u 0 1) _ _ _ dX1_quota_31 ⟨(by rw [r_X1_quota, if_pos c_6_0]), (by rw [s_X1_quota, if_pos c_6_0])⟩ rfl
  ·
    refine z_iconst (v := 0) dX1_quota_9 rfl ?_
    refine z_goto 14 dX1_quota_10 (by decide) ?_
    refine z_callVi (As := [.int 0]) (st := []) (fun l => c_X1_refused l D cI cZ h a u 0) zGok_TT (fun _ _ _ => trivial) (fun s args hts => cwV 1 hts gX1_quota_X1_refused rfl rfl rfl (by decide +kernel) ⟨Nat.le_of_ble_eq_true rfl, Nat.le_of_ble_eq_true rfl⟩) (ci := 1) rfl rfl rfl rfl (Nat.le_of_ble_eq_true rfl) ⟨Nat.le_of_ble_eq_true rfl, Nat.le_of_ble_eq_true rfl⟩ dX1_quota_14 rfl (fun r u2 hp => ?_)
    obtain ⟨hp1, hp2⟩ := hp; have hp4 : r = 0 := hp1.trans (by simp [r_X1_refused]); clear hp1; subst hp4; have hp3 : u2 = (pF u 0 0) := hp2; clear hp2; subst hp3
    refine z_if_eq 24 dX1_quota_17 (by decide) (fun _ => ?_) (fun c_17_2 => absurd c_17_2 (by decide))
    refine z_iconst (v := 3) dX1_quota_24 rfl ?_
    refine z_aload_n 0 dX1_quota_25 rfl ?_
    refine z_iload_n 1 dX1_quota_26 rfl ?_
    refine z_callVi (As := [.int p1]) (st := [.int 3]) (fun l => c_X1_used l D cI cZ h a (pF u 0 0) p1 (by first | (with_reducible assumption) | with_reducible exact zmdev hnd hd (by assumption) | exact hnd | assumption | decide)) zGok_TT (fun _ _ _ => trivial) (fun s args hts => cwV 1 hts gX1_quota_X1_used rfl rfl rfl (by decide +kernel) ⟨Nat.le_of_ble_eq_true rfl, Nat.le_of_ble_eq_true rfl⟩) (ci := 1) rfl rfl rfl rfl (Nat.le_of_ble_eq_true rfl) ⟨Nat.le_of_ble_eq_true rfl, Nat.le_of_ble_eq_true rfl⟩ dX1_quota_27 rfl (fun r u2 hp => ?_)
    subst hp
    refine z_isub dX1_quota_30 ?_
    exact hret _ (pF u 0 0) _ _ _ dX1_quota_31 ⟨(by rw [r_X1_quota, if_neg c_6_0]), (by rw [s_X1_quota, if_neg c_6_0])⟩ rfl
set_option maxHeartbeats 4000000 in
set_option maxRecDepth 100000 in
theorem c_X1_clock (l : Launch) (D : va_G) (cI cZ : ClassId) (h : Nat) (a : Nat → Nat) (u : SX)   : zMi l yX1_clock wsX1_clock ({ frames := 1, cells := 0, slots := 0, locals := 21 } : Room) zTT D [(cI, .int), (cZ, .boolean)] (wX1 cI cZ h a u) [.ref h] (fun (r : Int32) (u2 : SX) => r = r_X1_clock u ∧ u2 = s_X1_clock u) (fun u2 => (wX1 cI cZ h a u2)) 0 0 := by
  refine z_startI (cc := cX1_clock) (n := 1) (own := RX1) (L0 := [(0, .ref h)]) (plainFor_of_name (by decide)) rfl rfl (Nat.le_of_ble_eq_true rfl) rfl (fun E hret => ?_)
  refine z_aload_n 0 dX1_clock_0 rfl ?_
  refine z_aload_n 0 dX1_clock_1 rfl ?_
  refine z_get (C := RX1) (T := TX1) (N := 22) (v := .int (u.1 1)) inwX1_clock 0 rfl rfl 1 (by decide) (List.mem_of_getElem? (i := 1) rfl) rfl rfl dX1_clock_2 ?_
  refine z_callVi (As := [.int (u.1 1)]) (st := []) (fun l => c_X1_fine l D cI cZ h a u (u.1 1)) zGok_TT (fun _ _ _ => trivial) (fun s args hts => cwV 1 hts gX1_clock_X1_fine rfl rfl rfl (by decide +kernel) ⟨Nat.le_of_ble_eq_true rfl, Nat.le_of_ble_eq_true rfl⟩) (ci := 1) rfl rfl rfl rfl (Nat.le_of_ble_eq_true rfl) ⟨Nat.le_of_ble_eq_true rfl, Nat.le_of_ble_eq_true rfl⟩ dX1_clock_5 rfl (fun r u2 hp => ?_)
  obtain ⟨rfl, hp2⟩ := hp; have hp3 : u2 = (pF u 0 0) := hp2; clear hp2; subst hp3
  exact hret _ (pF u 0 0) _ _ _ dX1_clock_8 ⟨(by rw [r_X1_clock]), (by rw [s_X1_clock])⟩ rfl
set_option maxHeartbeats 4000000 in
set_option maxRecDepth 100000 in
theorem c_X1_deliveries (l : Launch) (D : va_G) (cI cZ : ClassId) (h : Nat) (a : Nat → Nat) (u : SX)   : zMi l yX1_deliveries wsX1_deliveries ({ frames := 1, cells := 0, slots := 0, locals := 21 } : Room) zTT D [(cI, .int), (cZ, .boolean)] (wX1 cI cZ h a u) [.ref h] (fun (r : Int32) (u2 : SX) => r = r_X1_deliveries u ∧ u2 = s_X1_deliveries u) (fun u2 => (wX1 cI cZ h a u2)) 0 0 := by
  refine z_startI (cc := cX1_deliveries) (n := 1) (own := RX1) (L0 := [(0, .ref h)]) (plainFor_of_name (by decide)) rfl rfl (Nat.le_of_ble_eq_true rfl) rfl (fun E hret => ?_)
  refine z_aload_n 0 dX1_deliveries_0 rfl ?_
  refine z_aload_n 0 dX1_deliveries_1 rfl ?_
  refine z_get (C := RX1) (T := TX1) (N := 22) (v := .int (u.1 21)) inwX1_deliveries 0 rfl rfl 21 (by decide) (List.mem_of_getElem? (i := 1) rfl) rfl rfl dX1_deliveries_2 ?_
  refine z_callVi (As := [.int (u.1 21)]) (st := []) (fun l => c_X1_fine l D cI cZ h a u (u.1 21)) zGok_TT (fun _ _ _ => trivial) (fun s args hts => cwV 1 hts gX1_deliveries_X1_fine rfl rfl rfl (by decide +kernel) ⟨Nat.le_of_ble_eq_true rfl, Nat.le_of_ble_eq_true rfl⟩) (ci := 1) rfl rfl rfl rfl (Nat.le_of_ble_eq_true rfl) ⟨Nat.le_of_ble_eq_true rfl, Nat.le_of_ble_eq_true rfl⟩ dX1_deliveries_5 rfl (fun r u2 hp => ?_)
  obtain ⟨rfl, hp2⟩ := hp; have hp3 : u2 = (pF u 0 0) := hp2; clear hp2; subst hp3
  exact hret _ (pF u 0 0) _ _ _ dX1_deliveries_8 ⟨(by rw [r_X1_deliveries]), (by rw [s_X1_deliveries])⟩ rfl
