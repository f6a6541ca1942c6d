set_option maxHeartbeats 4000000 in
set_option maxRecDepth 100000 in
theorem c_X1_sent (l : Launch) (D : va_G) (cI cZ : ClassId) (h : Nat) (a : Nat → Nat) (u : SX)   : zMi l yX1_sent wsX1_sent ({ frames := 1, cells := 0, slots := 0, locals := 21 } : Room) zTT D [(cI, .int), (cZ, .boolean)] (wX1 cI cZ h a u) [.ref h] (fun (r : Int32) (u2 : SX) => r = r_X1_sent u ∧ u2 = s_X1_sent u) (fun u2 => (wX1 cI cZ h a u2)) 0 0 := by
  refine z_startI (cc := cX1_sent) (n := 1) (own := RX1) (L0 := [(0, .ref h)]) (plainFor_of_name (by decide)) rfl rfl (Nat.le_of_ble_eq_true rfl) rfl (fun E hret => ?_)
  refine z_aload_n 0 dX1_sent_0 rfl ?_
  refine z_aload_n 0 dX1_sent_1 rfl ?_
  refine z_get (C := RX1) (T := TX1) (N := 22) (v := .int (u.1 13)) inwX1_sent 0 rfl rfl 13 (by decide) (List.mem_of_getElem? (i := 1) rfl) rfl rfl dX1_sent_2 ?_
  refine z_callVi (As := [.int (u.1 13)]) (st := []) (fun l => c_X1_fine l D cI cZ h a u (u.1 13)) zGok_TT (fun _ _ _ => trivial) (fun s args hts => cwV 1 hts gX1_sent_X1_fine rfl rfl rfl (by decide +kernel) ⟨Nat.le_of_ble_eq_true rfl, Nat.le_of_ble_eq_true rfl⟩) (ci := 1) rfl rfl rfl rfl (Nat.le_of_ble_eq_true rfl) ⟨Nat.le_of_ble_eq_true rfl, Nat.le_of_ble_eq_true rfl⟩ dX1_sent_5 rfl (fun r u2 hp => ?_)
  obtain ⟨rfl, hp2⟩ := hp; have hp3 : u2 = (pF u 0 0) := hp2; clear hp2; subst hp3
  exact hret _ (pF u 0 0) _ _ _ dX1_sent_8 ⟨(by rw [r_X1_sent]), (by rw [s_X1_sent])⟩ rfl
set_option maxHeartbeats 4000000 in
set_option maxRecDepth 100000 in
theorem c_X1_noNotice (l : Launch) (D : va_G) (cI cZ : ClassId) (h : Nat) (a : Nat → Nat) (u : SX) (p1 : Int32)  : zMi l yX1_noNotice wsX1_noNotice ({ frames := 2, cells := 0, slots := 0, locals := 43 } : Room) zTT D [(cI, .int), (cZ, .boolean)] (wX1 cI cZ h a u) [.ref h, .int p1] (fun (r : Int32) (u2 : SX) => r = r_X1_noNotice u p1 ∧ u2 = s_X1_noNotice u p1) (fun u2 => (wX1 cI cZ h a u2)) 0 0 := by
  refine z_startZ (cc := cX1_noNotice) (n := 2) (own := RX1) (L0 := [(0, .ref h), (1, .int p1)]) (plainFor_of_name (by decide)) rfl rfl (Nat.le_of_ble_eq_true rfl) rfl (fun E hret => ?_)
  refine z_aload_n 0 dX1_noNotice_0 rfl ?_
  refine z_aload_n 0 dX1_noNotice_1 rfl ?_
  refine z_iload_n 1 dX1_noNotice_2 rfl ?_
  refine z_callVi (As := [.int p1]) (st := [.ref h]) (fun l => c_X1_isNotice l D cI cZ h a u p1) zGok_TT (fun _ _ _ => trivial) (fun s args hts => cwV 1 hts gX1_noNotice_X1_isNotice rfl rfl rfl (by decide +kernel) ⟨Nat.le_of_ble_eq_true rfl, Nat.le_of_ble_eq_true rfl⟩) (ci := 1) rfl rfl rfl rfl (Nat.le_of_ble_eq_true rfl) ⟨Nat.le_of_ble_eq_true rfl, Nat.le_of_ble_eq_true rfl⟩ dX1_noNotice_3 rfl (fun r u2 hp => ?_)
  subst hp
  refine z_if_eq 13 dX1_noNotice_6 (by decide) (fun c_6_0 => ?_) (fun c_6_0 => ?_)
  ·
    refine z_iconst (v := 1) dX1_noNotice_13 rfl ?_
    refine z_callVi (As := [.int 1]) (st := []) (fun l => c_X1_refused l D cI cZ h a u 1) zGok_TT (fun _ _ _ => trivial) (fun s args hts => cwV 1 hts gX1_noNotice_X1_refused rfl rfl rfl (by decide +kernel) ⟨Nat.le_of_ble_eq_true rfl, Nat.le_of_ble_eq_true rfl⟩) (ci := 1) rfl rfl rfl rfl (Nat.le_of_ble_eq_true rfl) ⟨Nat.le_of_ble_eq_true rfl, Nat.le_of_ble_eq_true rfl⟩ dX1_noNotice_14 rfl (fun r u2 hp => ?_)
    obtain ⟨hp1, hp2⟩ := hp; have hp4 : r = 1 := hp1.trans (by simp [r_X1_refused]); clear hp1; subst hp4; have hp3 : u2 = (pF u 0 1) := hp2; clear hp2; subst hp3
    exact hret _ (pF u 0 1) _ _ _ dX1_noNotice_17 ⟨(by rw [r_X1_noNotice, if_pos c_6_0]), (by rw [s_X1_noNotice, if_pos c_6_0])⟩ rfl rfl
  ·
    refine z_iconst (v := 0) dX1_noNotice_9 rfl ?_
    refine z_goto 14 dX1_noNotice_10 (by decide) ?_
    refine z_callVi (As := [.int 0]) (st := []) (fun l => c_X1_refused l D cI cZ h a u 0) zGok_TT (fun _ _ _ => trivial) (fun s args hts => cwV 1 hts gX1_noNotice_X1_refused rfl rfl rfl (by decide +kernel) ⟨Nat.le_of_ble_eq_true rfl, Nat.le_of_ble_eq_true rfl⟩) (ci := 1) rfl rfl rfl rfl (Nat.le_of_ble_eq_true rfl) ⟨Nat.le_of_ble_eq_true rfl, Nat.le_of_ble_eq_true rfl⟩ dX1_noNotice_14 rfl (fun r u2 hp => ?_)
    obtain ⟨hp1, hp2⟩ := hp; have hp4 : r = 0 := hp1.trans (by simp [r_X1_refused]); clear hp1; subst hp4; have hp3 : u2 = (pF u 0 0) := hp2; clear hp2; subst hp3
    exact hret _ (pF u 0 0) _ _ _ dX1_noNotice_17 ⟨(by rw [r_X1_noNotice, if_neg c_6_0]), (by rw [s_X1_noNotice, if_neg c_6_0])⟩ rfl rfl
set_option maxHeartbeats 4000000 in
set_option maxRecDepth 100000 in
theorem c_X1_stands (l : Launch) (D : va_G) (cI cZ : ClassId) (h : Nat) (a : Nat → Nat) (u : SX) (p1 : Int32) (nn : Nat) (hnn : u.1 13 = nI nn) (hn : nn ≤ 120) : zMi l yX1_stands wsX1_stands ({ frames := 3, cells := 0, slots := 0, locals := 64 } : Room) zTT D [(cI, .int), (cZ, .boolean)] (wX1 cI cZ h a u) [.ref h, .int p1] (fun (r : Int32) (u2 : SX) => r = r_X1_stands u p1 ∧ u2 = s_X1_stands u p1) (fun u2 => (wX1 cI cZ h a u2)) 0 0 := by
  refine z_startZ (cc := cX1_stands) (n := 2) (own := RX1) (L0 := [(0, .ref h), (1, .int p1)]) (plainFor_of_name (by decide)) rfl rfl (Nat.le_of_ble_eq_true rfl) rfl (fun E hret => ?_)
  have hixnn : ix (u.1 13) = nn := by rw [hnn]; exact nI_clamp (by omega)
  refine z_aload_n 0 dX1_stands_0 rfl ?_
  refine z_iload_n 1 dX1_stands_1 rfl ?_
  refine z_callVi (As := [.int p1]) (st := []) (fun l => c_X1_noNotice l D cI cZ h a u p1) zGok_TT (fun _ _ _ => trivial) (fun s args hts => cwV 1 hts gX1_stands_X1_noNotice rfl rfl rfl (by decide +kernel) ⟨Nat.le_of_ble_eq_true rfl, Nat.le_of_ble_eq_true rfl⟩) (ci := 1) rfl rfl rfl rfl (Nat.le_of_ble_eq_true rfl) ⟨Nat.le_of_ble_eq_true rfl, Nat.le_of_ble_eq_true rfl⟩ dX1_stands_2 rfl (fun r u2 hp => ?_)
  obtain ⟨rfl, rfl⟩ := hp
  refine z_if_ne 21 dX1_stands_5 (by decide) (fun c_5_0 => ?_) (fun c_5_0 => ?_)
  ·
    refine z_iconst (v := 0) dX1_stands_21 rfl ?_
    exact hret _ (s_X1_noNotice u p1) _ _ _ dX1_stands_22 ⟨(by rw [r_X1_stands, if_neg c_5_0]), (by rw [s_X1_stands])⟩ rfl rfl
  ·
    refine z_aload_n 0 dX1_stands_8 rfl ?_
    refine z_get (C := RX1) (T := TX1) (N := 22) (v := .ref (a 18)) inwX1_stands 0 rfl rfl 18 (by decide) (List.mem_of_getElem? (i := 1) rfl) rfl rfl dX1_stands_9 ?_
    refine z_iload_n 1 dX1_stands_12 rfl ?_
    refine z_zald (v := ((s_X1_noNotice u p1).2 18 (ix p1))) 15 1 rfl rfl (by first | (with_reducible assumption) | with_reducible exact zmnot hnn hn (by assumption) | with_reducible exact zmnot2 hnn hn (by assumption) | exact hnn | assumption | decide) rfl dX1_stands_13 ?_
    refine z_if_ne 21 dX1_stands_14 (by decide) (fun c_14_1 => ?_) (fun c_14_1 => ?_)
    ·
      refine z_iconst (v := 0) dX1_stands_21 rfl ?_
      exact hret _ (s_X1_noNotice u p1) _ _ _ dX1_stands_22 ⟨(by rw [r_X1_stands, if_pos c_5_0, if_neg c_14_1]), (by rw [s_X1_stands])⟩ rfl rfl
    ·
      refine z_iconst (v := 1) dX1_stands_17 rfl ?_
      refine z_goto 22 dX1_stands_18 (by decide) ?_
      exact hret _ (s_X1_noNotice u p1) _ _ _ dX1_stands_22 ⟨(by rw [r_X1_stands, if_pos c_5_0, if_pos c_14_1]), (by rw [s_X1_stands])⟩ rfl rfl
set_option maxHeartbeats 4000000 in
set_option maxRecDepth 100000 in
theorem c_X1_waitsFor (l : Launch) (D : va_G) (cI cZ : ClassId) (h : Nat) (a : Nat → Nat) (u : SX) (p1 : Int32) (nn : Nat) (hnn : u.1 13 = nI nn) (hn : nn ≤ 120) : zMi l yX1_waitsFor wsX1_waitsFor ({ frames := 3, cells := 0, slots := 0, locals := 64 } : Room) zTT D [(cI, .int), (cZ, .boolean)] (wX1 cI cZ h a u) [.ref h, .int p1] (fun (r : Int32) (u2 : SX) => r = r_X1_waitsFor u p1 ∧ u2 = s_X1_waitsFor u p1) (fun u2 => (wX1 cI cZ h a u2)) 0 0 := by
  refine z_startI (cc := cX1_waitsFor) (n := 2) (own := RX1) (L0 := [(0, .ref h), (1, .int p1)]) (plainFor_of_name (by decide)) rfl rfl (Nat.le_of_ble_eq_true rfl) rfl (fun E hret => ?_)
  have hixnn : ix (u.1 13) = nn := by rw [hnn]; exact nI_clamp (by omega)
  refine z_aload_n 0 dX1_waitsFor_0 rfl ?_
  refine z_iload_n 1 dX1_waitsFor_1 rfl ?_
  refine z_callVi (As := [.int p1]) (st := []) (fun l => c_X1_noNotice l D cI cZ h a u p1) zGok_TT (fun _ _ _ => trivial) (fun s args hts => cwV 1 hts gX1_waitsFor_X1_noNotice rfl rfl rfl (by decide +kernel) ⟨Nat.le_of_ble_eq_true rfl, Nat.le_of_ble_eq_true rfl⟩) (ci := 1) rfl rfl rfl rfl (Nat.le_of_ble_eq_true rfl) ⟨Nat.le_of_ble_eq_true rfl, Nat.le_of_ble_eq_true rfl⟩ dX1_waitsFor_2 rfl (fun r u2 hp => ?_)
  obtain ⟨rfl, rfl⟩ := hp
  refine z_if_eq 12 dX1_waitsFor_5 (by decide) (fun c_5_0 => ?_) (fun c_5_0 => ?_)
  ·
    refine z_aload_n 0 dX1_waitsFor_12 rfl ?_
    refine z_get (C := RX1) (T := TX1) (N := 22) (v := .ref (a 19)) inwX1_waitsFor 0 rfl rfl 19 (by decide) (List.mem_of_getElem? (i := 1) rfl) rfl rfl dX1_waitsFor_13 ?_
    refine z_iload_n 1 dX1_waitsFor_16 rfl ?_
    refine z_iald (v := ((s_X1_noNotice u p1).2 19 (ix p1))) 16 0 rfl rfl (by first | (with_reducible assumption) | with_reducible exact zmnot hnn hn (by assumption) | with_reducible exact zmnot2 hnn hn (by assumption) | exact hnn | assumption | decide) rfl dX1_waitsFor_17 ?_
    exact hret _ (s_X1_noNotice u p1) _ _ _ dX1_waitsFor_18 ⟨(by rw [r_X1_waitsFor, if_pos c_5_0]), (by rw [s_X1_waitsFor])⟩ rfl
  ·
    refine z_iconst (v := 0) dX1_waitsFor_8 rfl ?_
    refine z_goto 18 dX1_waitsFor_9 (by decide) ?_
    exact hret _ (s_X1_noNotice u p1) _ _ _ dX1_waitsFor_18 ⟨(by rw [r_X1_waitsFor, if_neg c_5_0]), (by rw [s_X1_waitsFor])⟩ rfl
set_option maxHeartbeats 4000000 in
set_option maxRecDepth 100000 in
theorem c_X1_deliveredTo (l : Launch) (D : va_G) (cI cZ : ClassId) (h : Nat) (a : Nat → Nat) (u : SX) (p1 : Int32) (nn : Nat) (hnn : u.1 13 = nI nn) (hn : nn ≤ 120) : zMi l yX1_deliveredTo wsX1_deliveredTo ({ frames := 3, cells := 0, slots := 0, locals := 64 } : Room) zTT D [(cI, .int), (cZ, .boolean)] (wX1 cI cZ h a u) [.ref h, .int p1] (fun (r : Int32) (u2 : SX) => r = r_X1_deliveredTo u p1 ∧ u2 = s_X1_deliveredTo u p1) (fun u2 => (wX1 cI cZ h a u2)) 0 0 := by
  refine z_startI (cc := cX1_deliveredTo) (n := 2) (own := RX1) (L0 := [(0, .ref h), (1, .int p1)]) (plainFor_of_name (by decide)) rfl rfl (Nat.le_of_ble_eq_true rfl) rfl (fun E hret => ?_)
  have hixnn : ix (u.1 13) = nn := by rw [hnn]; exact nI_clamp (by omega)
  refine z_aload_n 0 dX1_deliveredTo_0 rfl ?_
  refine z_iload_n 1 dX1_deliveredTo_1 rfl ?_
  refine z_callVi (As := [.int p1]) (st := []) (fun l => c_X1_noNotice l D cI cZ h a u p1) zGok_TT (fun _ _ _ => trivial) (fun s args hts => cwV 1 hts gX1_deliveredTo_X1_noNotice rfl rfl rfl (by decide +kernel) ⟨Nat.le_of_ble_eq_true rfl, Nat.le_of_ble_eq_true rfl⟩) (ci := 1) rfl rfl rfl rfl (Nat.le_of_ble_eq_true rfl) ⟨Nat.le_of_ble_eq_true rfl, Nat.le_of_ble_eq_true rfl⟩ dX1_deliveredTo_2 rfl (fun r u2 hp => ?_)
  obtain ⟨rfl, rfl⟩ := hp
  refine z_if_eq 12 dX1_deliveredTo_5 (by decide) (fun c_5_0 => ?_) (fun c_5_0 => ?_)
  ·
    refine z_aload_n 0 dX1_deliveredTo_12 rfl ?_
    refine z_get (C := RX1) (T := TX1) (N := 22) (v := .ref (a 20)) inwX1_deliveredTo 0 rfl rfl 20 (by decide) (List.mem_of_getElem? (i := 1) rfl) rfl rfl dX1_deliveredTo_13 ?_
    refine z_iload_n 1 dX1_deliveredTo_16 rfl ?_
    refine z_iald (v := ((s_X1_noNotice u p1).2 20 (ix p1))) 17 0 rfl rfl (by first | (with_reducible assumption) | with_reducible exact zmnot hnn hn (by assumption) | with_reducible exact zmnot2 hnn hn (by assumption) | exact hnn | assumption | decide) rfl dX1_deliveredTo_17 ?_
    exact hret _ (s_X1_noNotice u p1) _ _ _ dX1_deliveredTo_18 ⟨(by rw [r_X1_deliveredTo, if_pos c_5_0]), (by rw [s_X1_deliveredTo])⟩ rfl
  ·
    refine z_iconst (v := 0) dX1_deliveredTo_8 rfl ?_
    refine z_goto 18 dX1_deliveredTo_9 (by decide) ?_
    exact hret _ (s_X1_noNotice u p1) _ _ _ dX1_deliveredTo_18 ⟨(by rw [r_X1_deliveredTo, if_neg c_5_0]), (by rw [s_X1_deliveredTo])⟩ rfl
set_option maxHeartbeats 4000000 in
set_option maxRecDepth 100000 in
theorem c_X1_standing (l : Launch) (D : va_G) (cI cZ : ClassId) (h : Nat) (a : Nat → Nat) (u : SX) (p1 p2 : Int32) (nn : Nat) (hnn : u.1 13 = nI nn) (hn : nn ≤ 120) : zMi l yX1_standing wsX1_standing ({ frames := 1, cells := 0, slots := 0, locals := 24 } : Room) zTT D [(cI, .int), (cZ, .boolean)] (wX1 cI cZ h a u) [.ref h, .int p1, .int p2] (fun (r : Int32) (u2 : SX) => r = r_X1_standing u p1 p2 ∧ u2 = s_X1_standing u p1 p2) (fun u2 => (wX1 cI cZ h a u2)) 0 0 := by
  refine z_startI (cc := cX1_standing) (n := 3) (own := RX1) (L0 := [(0, .ref h), (1, .int p1), (2, .int p2)]) (plainFor_of_name (by decide)) rfl rfl (Nat.le_of_ble_eq_true rfl) rfl (fun E hret => ?_)
  have hixnn : ix (u.1 13) = nn := by rw [hnn]; exact nI_clamp (by omega)
  refine z_aload_n 0 dX1_standing_0 rfl ?_
  refine z_iload_n 1 dX1_standing_1 rfl ?_
  refine z_iconst (v := 0) dX1_standing_2 rfl ?_
  refine z_bipush (v := 7) dX1_standing_3 rfl ?_
  refine z_callSi (As := [.int p1, .int 0, .int 7]) (st := [.ref h]) (fun l => c_X1_in l D _ _ p1 0 7) zGok_TT (fun _ _ _ => trivial) (fun s args hts => va_cwS 3 hts gX1_standing_X1_in rfl rfl rfl (by decide +kernel) ⟨Nat.le_of_ble_eq_true rfl, Nat.le_of_ble_eq_true rfl⟩) rfl (Nat.le_of_ble_eq_true rfl) ⟨Nat.le_of_ble_eq_true rfl, Nat.le_of_ble_eq_true rfl⟩ dX1_standing_5 rfl (fun r u2 hp => ?_)
  subst hp
  refine z_if_eq 25 dX1_standing_8 (by decide) (fun c_8_0 => ?_) (fun c_8_0 => ?_)
  ·
    refine z_iconst (v := 1) dX1_standing_25 rfl ?_
    refine z_callVi (As := [.int 1]) (st := []) (fun l => c_X1_refused l D cI cZ h a u 1) zGok_TT (fun _ _ _ => trivial) (fun s args hts => cwV 1 hts gX1_standing_X1_refused rfl rfl rfl (by decide +kernel) ⟨Nat.le_of_ble_eq_true rfl, Nat.le_of_ble_eq_true rfl⟩) (ci := 1) rfl rfl rfl rfl (Nat.le_of_ble_eq_true rfl) ⟨Nat.le_of_ble_eq_true rfl, Nat.le_of_ble_eq_true rfl⟩ dX1_standing_26 rfl (fun r u2 hp => ?_)
    obtain ⟨hp1, hp2⟩ := hp; have hp4 : r = 1 := hp1.trans (by simp [r_X1_refused]); clear hp1; subst hp4; have hp3 : u2 = (pF u 0 1) := hp2; clear hp2; subst hp3
    refine z_if_eq 36 dX1_standing_29 (by decide) (fun c_29_1 => absurd c_29_1 (by decide)) (fun _ => ?_)
    refine z_iconst (v := 0) dX1_standing_32 rfl ?_
    refine z_goto 42 dX1_standing_33 (by decide) ?_
    exact hret _ (pF u 0 1) _ _ _ dX1_standing_42 ⟨(by rw [r_X1_standing, if_pos c_8_0]), (by rw [s_X1_standing, if_pos c_8_0])⟩ rfl
  ·
    refine z_iload_n 2 dX1_standing_11 rfl ?_
    refine z_iconst (v := 0) dX1_standing_12 rfl ?_
    refine z_bipush (v := 9) dX1_standing_13 rfl ?_
    refine z_callSi (As := [.int p2, .int 0, .int 9]) (st := [.ref h]) (fun l => c_X1_in l D _ _ p2 0 9) zGok_TT (fun _ _ _ => trivial) (fun s args hts => va_cwS 3 hts gX1_standing_X1_in rfl rfl rfl (by decide +kernel) ⟨Nat.le_of_ble_eq_true rfl, Nat.le_of_ble_eq_true rfl⟩) rfl (Nat.le_of_ble_eq_true rfl) ⟨Nat.le_of_ble_eq_true rfl, Nat.le_of_ble_eq_true rfl⟩ dX1_standing_15 rfl (fun r u2 hp => ?_)
    subst hp
    refine z_if_eq 25 dX1_standing_18 (by decide) (fun c_18_2 => ?_) (fun c_18_2 => ?_)
    ·
      refine z_iconst (v := 1) dX1_standing_25 rfl ?_
      refine z_callVi (As := [.int 1]) (st := []) (fun l => c_X1_refused l D cI cZ h a u 1) zGok_TT (fun _ _ _ => trivial) (fun s args hts => cwV 1 hts gX1_standing_X1_refused rfl rfl rfl (by decide +kernel) ⟨Nat.le_of_ble_eq_true rfl, Nat.le_of_ble_eq_true rfl⟩) (ci := 1) rfl rfl rfl rfl (Nat.le_of_ble_eq_true rfl) ⟨Nat.le_of_ble_eq_true rfl, Nat.le_of_ble_eq_true rfl⟩ dX1_standing_26 rfl (fun r u2 hp => ?_)
      obtain ⟨hp1, hp2⟩ := hp; have hp4 : r = 1 := hp1.trans (by simp [r_X1_refused]); clear hp1; subst hp4; have hp3 : u2 = (pF u 0 1) := hp2; clear hp2; subst hp3
      refine z_if_eq 36 dX1_standing_29 (by decide) (fun c_29_3 => absurd c_29_3 (by decide)) (fun _ => ?_)
      refine z_iconst (v := 0) dX1_standing_32 rfl ?_
      refine z_goto 42 dX1_standing_33 (by decide) ?_
      exact hret _ (pF u 0 1) _ _ _ dX1_standing_42 ⟨(by rw [r_X1_standing, if_neg c_8_0, if_pos c_18_2]), (by rw [s_X1_standing, if_neg c_8_0, if_pos c_18_2])⟩ rfl
    ·
      refine z_iconst (v := 0) dX1_standing_21 rfl ?_
      refine z_goto 26 dX1_standing_22 (by decide) ?_
      refine z_callVi (As := [.int 0]) (st := []) (fun l => c_X1_refused l D cI cZ h a u 0) zGok_TT (fun _ _ _ => trivial) (fun s args hts => cwV 1 hts gX1_standing_X1_refused rfl rfl rfl (by decide +kernel) ⟨Nat.le_of_ble_eq_true rfl, Nat.le_of_ble_eq_true rfl⟩) (ci := 1) rfl rfl rfl rfl (Nat.le_of_ble_eq_true rfl) ⟨Nat.le_of_ble_eq_true rfl, Nat.le_of_ble_eq_true rfl⟩ dX1_standing_26 rfl (fun r u2 hp => ?_)
      obtain ⟨hp1, hp2⟩ := hp; have hp4 : r = 0 := hp1.trans (by simp [r_X1_refused]); clear hp1; subst hp4; have hp3 : u2 = (pF u 0 0) := hp2; clear hp2; subst hp3
      refine z_if_eq 36 dX1_standing_29 (by decide) (fun _ => ?_) (fun c_29_4 => absurd c_29_4 (by decide))
      refine z_aload_n 0 dX1_standing_36 rfl ?_
      refine z_iload_n 1 dX1_standing_37 rfl ?_
      refine z_iload_n 2 dX1_standing_38 rfl ?_
      refine z_callVi (As := [.int p1, .int p2]) (st := []) (fun l => c_X1_standingNow l D cI cZ h a (pF u 0 0) p1 p2 nn (by first | (with_reducible assumption) | with_reducible exact zmnot hnn hn (by assumption) | exact hnn | assumption | decide) (by first | (with_reducible assumption) | with_reducible exact zmnot hnn hn (by assumption) | exact hnn | assumption | decide)) zGok_TT (fun _ _ _ => trivial) (fun s args hts => cwV 2 hts gX1_standing_X1_standingNow rfl rfl rfl (by decide +kernel) ⟨Nat.le_of_ble_eq_true rfl, Nat.le_of_ble_eq_true rfl⟩) (ci := 1) rfl rfl rfl rfl (Nat.le_of_ble_eq_true rfl) ⟨Nat.le_of_ble_eq_true rfl, Nat.le_of_ble_eq_true rfl⟩ dX1_standing_39 rfl (fun r u2 hp => ?_)
      subst hp
      exact hret _ (pF u 0 0) _ _ _ dX1_standing_42 ⟨(by rw [r_X1_standing, if_neg c_8_0, if_neg c_18_2]), (by rw [s_X1_standing, if_neg c_8_0, if_neg c_18_2])⟩ rfl
set_option maxHeartbeats 4000000 in
set_option maxRecDepth 100000 in
theorem c_X1_badge (l : Launch) (D : va_G) (cI cZ : ClassId) (h : Nat) (a : Nat → Nat) (u : SX) (p1 : Int32) (nd : Nat) (hnd : u.1 2 = nI nd) (hd : nd ≤ 16) (nn : Nat) (hnn : u.1 13 = nI nn) (hn : nn ≤ 120) : zMi l yX1_badge wsX1_badge ({ frames := 2, cells := 0, slots := 0, locals := 43 } : Room) zTT D [(cI, .int), (cZ, .boolean)] (wX1 cI cZ h a u) [.ref h, .int p1] (fun (r : Int32) (u2 : SX) => r = r_X1_badge u p1 ∧ u2 = s_X1_badge u p1) (fun u2 => (wX1 cI cZ h a u2)) 0 0 := by
  refine z_startI (cc := cX1_badge) (n := 4) (own := RX1) (L0 := [(0, .ref h), (1, .int p1)]) (plainFor_of_name (by decide)) rfl rfl (Nat.le_of_ble_eq_true rfl) rfl (fun E hret => ?_)
  have hixnn : ix (u.1 13) = nn := by rw [hnn]; exact nI_clamp (by omega)
  have hixnd : ix (u.1 2) = nd := by rw [hnd]; exact nI_clamp (by omega)
  refine z_aload_n 0 dX1_badge_0 rfl ?_
  refine z_aload_n 0 dX1_badge_1 rfl ?_
  refine z_iload_n 1 dX1_badge_2 rfl ?_
  refine z_callVi (As := [.int p1]) (st := [.ref h]) (fun l => c_X1_isDevice l D cI cZ h a u p1) zGok_TT (fun _ _ _ => trivial) (fun s args hts => cwV 1 hts gX1_badge_X1_isDevice rfl rfl rfl (by decide +kernel) ⟨Nat.le_of_ble_eq_true rfl, Nat.le_of_ble_eq_true rfl⟩) (ci := 1) rfl rfl rfl rfl (Nat.le_of_ble_eq_true rfl) ⟨Nat.le_of_ble_eq_true rfl, Nat.le_of_ble_eq_true rfl⟩ dX1_badge_3 rfl (fun r u2 hp => ?_)
  subst hp
  refine z_if_eq 13 dX1_badge_6 (by decide) (fun c_6_0 => ?_) (fun c_6_0 => ?_)
  ·
    refine z_iconst (v := 1) dX1_badge_13 rfl ?_
    refine z_callVi (As := [.int 1]) (st := []) (fun l => c_X1_refused l D cI cZ h a u 1) zGok_TT (fun _ _ _ => trivial) (fun s args hts => cwV 1 hts gX1_badge_X1_refused rfl rfl rfl (by decide +kernel) ⟨Nat.le_of_ble_eq_true rfl, Nat.le_of_ble_eq_true rfl⟩) (ci := 1) rfl rfl rfl rfl (Nat.le_of_ble_eq_true rfl) ⟨Nat.le_of_ble_eq_true rfl, Nat.le_of_ble_eq_true rfl⟩ dX1_badge_14 rfl (fun r u2 hp => ?_)
    obtain ⟨hp1, hp2⟩ := hp; have hp4 : r = 1 := hp1.trans (by simp [r_X1_refused]); clear hp1; subst hp4; have hp3 : u2 = (pF u 0 1) := hp2; clear hp2; subst hp3
    refine z_if_eq 22 dX1_badge_17 (by decide) (fun c_17_1 => absurd c_17_1 (by decide)) (fun _ => ?_)
    refine z_iconst (v := 0) dX1_badge_20 rfl ?_
    exact hret _ (pF u 0 1) _ _ _ dX1_badge_21 ⟨(by rw [r_X1_badge, hixnn, if_pos c_6_0]), (by rw [s_X1_badge, if_pos c_6_0])⟩ rfl
  ·
    refine z_iconst (v := 0) dX1_badge_9 rfl ?_
    refine z_goto 14 dX1_badge_10 (by decide) ?_
    refine z_callVi (As := [.int 0]) (st := []) (fun l => c_X1_refused l D cI cZ h a u 0) zGok_TT (fun _ _ _ => trivial) (fun s args hts => cwV 1 hts gX1_badge_X1_refused rfl rfl rfl (by decide +kernel) ⟨Nat.le_of_ble_eq_true rfl, Nat.le_of_ble_eq_true rfl⟩) (ci := 1) rfl rfl rfl rfl (Nat.le_of_ble_eq_true rfl) ⟨Nat.le_of_ble_eq_true rfl, Nat.le_of_ble_eq_true rfl⟩ dX1_badge_14 rfl (fun r u2 hp => ?_)
    obtain ⟨hp1, hp2⟩ := hp; have hp4 : r = 0 := hp1.trans (by simp [r_X1_refused]); clear hp1; subst hp4; have hp3 : u2 = (pF u 0 0) := hp2; clear hp2; subst hp3
    refine z_if_eq 22 dX1_badge_17 (by decide) (fun _ => ?_) (fun c_17_2 => absurd c_17_2 (by decide))
    refine z_iconst (v := 0) dX1_badge_22 rfl ?_
    refine z_istore_n (L' := [(2, .int 0), (0, .ref h), (1, .int p1)]) dX1_badge_23 (by decide) rfl ?_
    refine z_iconst (v := 0) dX1_badge_24 rfl ?_
    refine z_istore_n (L' := [(3, .int 0), (2, .int 0), (0, .ref h), (1, .int p1)]) dX1_badge_25 (by decide) rfl ?_
    refine z_sub (L' := [(0, .ref h), (1, .int p1), (2, .int 0), (3, .int 0)]) [2, 3, 1, 0] rfl ?_
    have hloop26 : ∀ r k26 : Nat, k26 + r = nn → ZW E zTT ({ frames := 2, cells := 0, slots := 0, locals := 43 } : Room) cX1_badge RX1 wsX1_badge 4 D [(cI, .int), (cZ, .boolean)] 0 0 (wX1 cI cZ h a (pF u 0 0)) 26 [(0, .ref h), (1, .int p1), (2, .int (l_X1_badge_26 u p1 k26)), (3, .int (nI k26))] [] := by
      intro r
      induction r with
      | zero =>
        intro k26 hk26
        have hkN26 : nn = k26 := by omega
        subst hkN26
        refine z_iload_n 3 dX1_badge_26 rfl ?_
        refine z_aload_n 0 dX1_badge_27 rfl ?_
        refine z_get (C := RX1) (T := TX1) (N := 22) (v := .int (u.1 13)) inwX1_badge 0 rfl rfl 13 (by decide) (List.mem_of_getElem? (i := 1) rfl) rfl rfl dX1_badge_28 ?_
        refine z_icmp_ge 66 dX1_badge_31 (by decide) (fun c_31_4 => ?_) (fun c_31_4 => ?_)
        ·
          refine z_iload_n 2 dX1_badge_66 rfl ?_
          exact hret _ (pF u 0 0) _ _ _ dX1_badge_67 ⟨(by rw [r_X1_badge, hixnn, if_neg c_6_0]), (by rw [s_X1_badge, if_neg c_6_0])⟩ rfl
        · exact absurd (by rw [hnn]; exact nI_le (Nat.le_refl _) (by omega)) c_31_4
      | succ r ih26 =>
        intro k26 hk26
        obtain ⟨x26, hx26⟩ : ∃ x, x = l_X1_badge_26 u p1 k26 := ⟨_, rfl⟩
        rw [← hx26]
        refine z_iload_n 3 dX1_badge_26 rfl ?_
        refine z_aload_n 0 dX1_badge_27 rfl ?_
        refine z_get (C := RX1) (T := TX1) (N := 22) (v := .int (u.1 13)) inwX1_badge 0 rfl rfl 13 (by decide) (List.mem_of_getElem? (i := 1) rfl) rfl rfl dX1_badge_28 ?_
        refine z_icmp_ge 66 dX1_badge_31 (by decide) (fun c_31_3 => ?_) (fun c_31_3 => ?_)
        · exact absurd c_31_3 (by rw [hnn]; exact nI_ge (by omega) (by omega))
        ·
          refine z_iload_n 2 dX1_badge_34 rfl ?_
          refine z_aload_n 0 dX1_badge_35 rfl ?_
          refine z_get (C := RX1) (T := TX1) (N := 22) (v := .ref (a 18)) inwX1_badge 0 rfl rfl 18 (by decide) (List.mem_of_getElem? (i := 2) rfl) rfl rfl dX1_badge_36 ?_
          refine z_iload_n 3 dX1_badge_39 rfl ?_
          refine z_zald (v := (u.2 18 (ix (nI k26)))) 15 1 rfl rfl (vp_in_nI (by omega) (by omega)) rfl dX1_badge_40 ?_
          refine z_if_eq 48 dX1_badge_41 (by decide) (fun c_41_5 => ?_) (fun c_41_5 => ?_)
          ·
            refine z_aload_n 0 dX1_badge_48 rfl ?_
            refine z_get (C := RX1) (T := TX1) (N := 22) (v := .ref (a 20)) inwX1_badge 0 rfl rfl 20 (by decide) (List.mem_of_getElem? (i := 3) rfl) rfl rfl dX1_badge_49 ?_
            refine z_iload_n 3 dX1_badge_52 rfl ?_
            refine z_iald (v := (u.2 20 (ix (nI k26)))) 17 0 rfl rfl (vp_in_nI (by omega) (by omega)) rfl dX1_badge_53 ?_
            refine z_iload_n 1 dX1_badge_54 rfl ?_
            refine z_ishr dX1_badge_55 ?_
            refine z_iconst (v := 1) dX1_badge_56 rfl ?_
            refine z_iand dX1_badge_57 ?_
            refine z_iadd dX1_badge_58 ?_
            refine z_istore_n (L' := [(2, .int (x26 + (((u.2 20 (ix (nI k26))) >>> (p1 &&& 31)) &&& 1))), (0, .ref h), (1, .int p1), (3, .int (nI k26))]) dX1_badge_59 (by decide) rfl ?_
            refine z_iinc (v := (nI (k26 + 1))) (L' := [(3, .int (nI (k26 + 1))), (2, .int (x26 + (((u.2 20 (ix (nI k26))) >>> (p1 &&& 31)) &&& 1))), (0, .ref h), (1, .int p1)]) 3 dX1_badge_60 rfl (nI_1 k26) (by decide) rfl ?_
            refine z_goto 26 dX1_badge_63 (by decide) ?_
            have hb26 : l_X1_badge_26 u p1 (k26 + 1) = (x26 + (((u.2 20 (ix (nI k26))) >>> (p1 &&& 31)) &&& 1)) := by
              show b_X1_badge_26 u p1 k26 (l_X1_badge_26 u p1 k26) = _
              rw [← hx26, b_X1_badge_26, if_pos c_41_5]
            refine z_sub (L' := [(0, .ref h), (1, .int p1), (2, .int (x26 + (((u.2 20 (ix (nI k26))) >>> (p1 &&& 31)) &&& 1))), (3, .int (nI (k26 + 1)))]) [2, 3, 1, 0] rfl ?_
            have ih2 := ih26 (k26 + 1) (by omega)
            rw [hb26] at ih2
            exact ih2
          ·
            refine z_iconst (v := 0) dX1_badge_44 rfl ?_
            refine z_goto 58 dX1_badge_45 (by decide) ?_
            refine z_iadd dX1_badge_58 ?_
            refine z_istore_n (L' := [(2, .int (x26 + 0)), (0, .ref h), (1, .int p1), (3, .int (nI k26))]) dX1_badge_59 (by decide) rfl ?_
            refine z_iinc (v := (nI (k26 + 1))) (L' := [(3, .int (nI (k26 + 1))), (2, .int (x26 + 0)), (0, .ref h), (1, .int p1)]) 3 dX1_badge_60 rfl (nI_1 k26) (by decide) rfl ?_
            refine z_goto 26 dX1_badge_63 (by decide) ?_
            have hb26 : l_X1_badge_26 u p1 (k26 + 1) = (x26 + 0) := by
              show b_X1_badge_26 u p1 k26 (l_X1_badge_26 u p1 k26) = _
              rw [← hx26, b_X1_badge_26, if_neg c_41_5]
            refine z_sub (L' := [(0, .ref h), (1, .int p1), (2, .int (x26 + 0)), (3, .int (nI (k26 + 1)))]) [2, 3, 1, 0] rfl ?_
            have ih2 := ih26 (k26 + 1) (by omega)
            rw [hb26] at ih2
            exact ih2
    exact hloop26 nn 0 (by omega)
set_option maxHeartbeats 4000000 in
set_option maxRecDepth 100000 in
theorem c_X1_waiting (l : Launch) (D : va_G) (cI cZ : ClassId) (h : Nat) (a : Nat → Nat) (u : SX) (p1 : Int32) (nd : Nat) (hnd : u.1 2 = nI nd) (hd : nd ≤ 16) (nn : Nat) (hnn : u.1 13 = nI nn) (hn : nn ≤ 120) : zMi l yX1_waiting wsX1_waiting ({ frames := 2, cells := 0, slots := 0, locals := 43 } : Room) zTT D [(cI, .int), (cZ, .boolean)] (wX1 cI cZ h a u) [.ref h, .int p1] (fun (r : Int32) (u2 : SX) => r = r_X1_waiting u p1 ∧ u2 = s_X1_waiting u p1) (fun u2 => (wX1 cI cZ h a u2)) 0 0 := by
  refine z_startI (cc := cX1_waiting) (n := 2) (own := RX1) (L0 := [(0, .ref h), (1, .int p1)]) (plainFor_of_name (by decide)) rfl rfl (Nat.le_of_ble_eq_true rfl) rfl (fun E hret => ?_)
  have hixnn : ix (u.1 13) = nn := by rw [hnn]; exact nI_clamp (by omega)
  have hixnd : ix (u.1 2) = nd := by rw [hnd]; exact nI_clamp (by omega)
  refine z_aload_n 0 dX1_waiting_0 rfl ?_
  refine z_aload_n 0 dX1_waiting_1 rfl ?_
  refine z_iload_n 1 dX1_waiting_2 rfl ?_
  refine z_callVi (As := [.int p1]) (st := [.ref h]) (fun l => c_X1_isDevice l D cI cZ h a u p1) zGok_TT (fun _ _ _ => trivial) (fun s args hts => cwV 1 hts gX1_waiting_X1_isDevice rfl rfl rfl (by decide +kernel) ⟨Nat.le_of_ble_eq_true rfl, Nat.le_of_ble_eq_true rfl⟩) (ci := 1) rfl rfl rfl rfl (Nat.le_of_ble_eq_true rfl) ⟨Nat.le_of_ble_eq_true rfl, Nat.le_of_ble_eq_true rfl⟩ dX1_waiting_3 rfl (fun r u2 hp => ?_)
  subst hp
  refine z_if_eq 13 dX1_waiting_6 (by decide) (fun c_6_0 => ?_) (fun c_6_0 => ?_)
  ·
    refine z_iconst (v := 1) dX1_waiting_13 rfl ?_
    refine z_callVi (As := [.int 1]) (st := []) (fun l => c_X1_refused l D cI cZ h a u 1) zGok_TT (fun _ _ _ => trivial) (fun s args hts => cwV 1 hts gX1_waiting_X1_refused rfl rfl rfl (by decide +kernel) ⟨Nat.le_of_ble_eq_true rfl, Nat.le_of_ble_eq_true rfl⟩) (ci := 1) rfl rfl rfl rfl (Nat.le_of_ble_eq_true rfl) ⟨Nat.le_of_ble_eq_true rfl, Nat.le_of_ble_eq_true rfl⟩ dX1_waiting_14 rfl (fun r u2 hp => ?_)
    obtain ⟨hp1, hp2⟩ := hp; have hp4 : r = 1 := hp1.trans (by simp [r_X1_refused]); clear hp1; subst hp4; have hp3 : u2 = (pF u 0 1) := hp2; clear hp2; subst hp3
    refine z_if_eq 24 dX1_waiting_17 (by decide) (fun c_17_1 => absurd c_17_1 (by decide)) (fun _ => ?_)
    refine z_iconst (v := 0) dX1_waiting_20 rfl ?_
    refine z_goto 29 dX1_waiting_21 (by decide) ?_
    exact hret _ (pF u 0 1) _ _ _ dX1_waiting_29 ⟨(by rw [r_X1_waiting, if_pos c_6_0]), (by rw [s_X1_waiting, if_pos c_6_0])⟩ rfl
  ·
    refine z_iconst (v := 0) dX1_waiting_9 rfl ?_
    refine z_goto 14 dX1_waiting_10 (by decide) ?_
    refine z_callVi (As := [.int 0]) (st := []) (fun l => c_X1_refused l D cI cZ h a u 0) zGok_TT (fun _ _ _ => trivial) (fun s args hts => cwV 1 hts gX1_waiting_X1_refused rfl rfl rfl (by decide +kernel) ⟨Nat.le_of_ble_eq_true rfl, Nat.le_of_ble_eq_true rfl⟩) (ci := 1) rfl rfl rfl rfl (Nat.le_of_ble_eq_true rfl) ⟨Nat.le_of_ble_eq_true rfl, Nat.le_of_ble_eq_true rfl⟩ dX1_waiting_14 rfl (fun r u2 hp => ?_)
    obtain ⟨hp1, hp2⟩ := hp; have hp4 : r = 0 := hp1.trans (by simp [r_X1_refused]); clear hp1; subst hp4; have hp3 : u2 = (pF u 0 0) := hp2; clear hp2; subst hp3
    refine z_if_eq 24 dX1_waiting_17 (by decide) (fun _ => ?_) (fun c_17_2 => absurd c_17_2 (by decide))
    refine z_aload_n 0 dX1_waiting_24 rfl ?_
    refine z_iload_n 1 dX1_waiting_25 rfl ?_
    refine z_callVi (As := [.int p1]) (st := []) (fun l => c_X1_countWaiting l D cI cZ h a (pF u 0 0) p1 nn (by first | (with_reducible assumption) | with_reducible exact zmdev hnd hd (by assumption) | with_reducible exact zmnot hnn hn (by assumption) | exact hnd | exact hnn | assumption | decide) (by first | (with_reducible assumption) | with_reducible exact zmdev hnd hd (by assumption) | with_reducible exact zmnot hnn hn (by assumption) | exact hnd | exact hnn | assumption | decide)) zGok_TT (fun _ _ _ => trivial) (fun s args hts => cwV 1 hts gX1_waiting_X1_countWaiting rfl rfl rfl (by decide +kernel) ⟨Nat.le_of_ble_eq_true rfl, Nat.le_of_ble_eq_true rfl⟩) (ci := 1) rfl rfl rfl rfl (Nat.le_of_ble_eq_true rfl) ⟨Nat.le_of_ble_eq_true rfl, Nat.le_of_ble_eq_true rfl⟩ dX1_waiting_26 rfl (fun r u2 hp => ?_)
    subst hp
    exact hret _ (pF u 0 0) _ _ _ dX1_waiting_29 ⟨(by rw [r_X1_waiting, if_neg c_6_0]), (by rw [s_X1_waiting, if_neg c_6_0])⟩ rfl
