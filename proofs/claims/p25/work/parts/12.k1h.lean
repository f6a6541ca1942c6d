set_option maxHeartbeats 4000000 in
set_option maxRecDepth 100000 in
theorem c_X0_sendBy (l : Launch) (D : va_G) (cI cZ : ClassId) (h : Nat) (a : Nat → Nat) (u : SX) (p1 p2 p3 p4 p5 : Int32) (he : e_X0_sendBy u p1 p2 p3 p4 p5 = 0) (nd : Nat) (hnd : u.1 10 = nI nd) (hd : nd ≤ 16) (nn : Nat) (hnn : u.1 16 = nI nn) (hn : nn ≤ 120) : zMi l yX0_sendBy wsX0_sendBy ({ frames := 6, cells := 0, slots := 0, locals := 136 } : Room) zTT D [(cI, .int), (cZ, .boolean)] (wX0 cI cZ h a u) [.ref h, .int p1, .int p2, .int p3, .int p4, .int p5] (fun (r : Int32) (u2 : SX) => r = r_X0_sendBy u p1 p2 p3 p4 p5 ∧ u2 = s_X0_sendBy u p1 p2 p3 p4 p5) (fun u2 => (wX0 cI cZ h a u2)) 0 0 := by
  refine z_startI (cc := cX0_sendBy) (n := 6) (own := RX0) (L0 := [(0, .ref h), (1, .int p1), (2, .int p2), (3, .int p3), (4, .int p4), (5, .int p5)]) (plainFor_of_name (by decide)) rfl rfl (Nat.le_of_ble_eq_true rfl) rfl (fun E hret => ?_)
  have hixnn : ix (u.1 16) = nn := by rw [hnn]; exact nI_clamp (by omega)
  have hixnd : ix (u.1 10) = nd := by rw [hnd]; exact nI_clamp (by omega)
  refine z_iload_n 1 dX0_sendBy_0 rfl ?_
  refine z_iconst (v := 0) dX0_sendBy_1 rfl ?_
  refine z_iconst (v := 2) dX0_sendBy_2 rfl ?_
  have e_3_0 : (e_X0_requireWithin p1 0 2) = 0 := Decidable.byContradiction (fun hq => by rw [e_X0_sendBy, if_neg hq] at he; exact hq he)
  refine z_callSv (As := [.int p1, .int 0, .int 2]) (st := []) (fun l => c_X0_requireWithin l D _ _ p1 0 2 (by assumption)) zGok_TT (fun _ _ _ => trivial) (fun s args hts => va_cwS 3 hts gX0_sendBy_X0_requireWithin rfl rfl rfl (by decide +kernel) ⟨Nat.le_of_ble_eq_true rfl, Nat.le_of_ble_eq_true rfl⟩) rfl (Nat.le_of_ble_eq_true rfl) ⟨Nat.le_of_ble_eq_true rfl, Nat.le_of_ble_eq_true rfl⟩ dX0_sendBy_3 rfl (fun u2 hp => ?_)
  clear hp
  refine z_iload_n 2 dX0_sendBy_6 rfl ?_
  refine z_iconst (v := 0) dX0_sendBy_7 rfl ?_
  refine z_iconst (v := 5) dX0_sendBy_8 rfl ?_
  have e_9_1 : (e_X0_requireWithin p2 0 5) = 0 := Decidable.byContradiction (fun hq => by rw [e_X0_sendBy, if_pos e_3_0, if_neg hq] at he; exact hq he)
  refine z_callSv (As := [.int p2, .int 0, .int 5]) (st := []) (fun l => c_X0_requireWithin l D _ _ p2 0 5 (by assumption)) zGok_TT (fun _ _ _ => trivial) (fun s args hts => va_cwS 3 hts gX0_sendBy_X0_requireWithin rfl rfl rfl (by decide +kernel) ⟨Nat.le_of_ble_eq_true rfl, Nat.le_of_ble_eq_true rfl⟩) rfl (Nat.le_of_ble_eq_true rfl) ⟨Nat.le_of_ble_eq_true rfl, Nat.le_of_ble_eq_true rfl⟩ dX0_sendBy_9 rfl (fun u2 hp => ?_)
  clear hp
  refine z_iload_n 3 dX0_sendBy_12 rfl ?_
  refine z_iconst (v := 0) dX0_sendBy_13 rfl ?_
  refine z_iconst (v := 5) dX0_sendBy_14 rfl ?_
  have e_15_2 : (e_X0_requireWithin p3 0 5) = 0 := Decidable.byContradiction (fun hq => by rw [e_X0_sendBy, if_pos e_3_0, if_pos e_9_1, if_neg hq] at he; exact hq he)
  refine z_callSv (As := [.int p3, .int 0, .int 5]) (st := []) (fun l => c_X0_requireWithin l D _ _ p3 0 5 (by assumption)) zGok_TT (fun _ _ _ => trivial) (fun s args hts => va_cwS 3 hts gX0_sendBy_X0_requireWithin rfl rfl rfl (by decide +kernel) ⟨Nat.le_of_ble_eq_true rfl, Nat.le_of_ble_eq_true rfl⟩) rfl (Nat.le_of_ble_eq_true rfl) ⟨Nat.le_of_ble_eq_true rfl, Nat.le_of_ble_eq_true rfl⟩ dX0_sendBy_15 rfl (fun u2 hp => ?_)
  clear hp
  refine z_iload 5 dX0_sendBy_18 rfl ?_
  refine z_iconst (v := 1) dX0_sendBy_20 rfl ?_
  refine z_sipush (v := 10000) dX0_sendBy_21 rfl ?_
  have e_24_3 : (e_X0_requireWithin p5 1 10000) = 0 := Decidable.byContradiction (fun hq => by rw [e_X0_sendBy, if_pos e_3_0, if_pos e_9_1, if_pos e_15_2, if_neg hq] at he; exact hq he)
  refine z_callSv (As := [.int p5, .int 1, .int 10000]) (st := []) (fun l => c_X0_requireWithin l D _ _ p5 1 10000 (by assumption)) zGok_TT (fun _ _ _ => trivial) (fun s args hts => va_cwS 3 hts gX0_sendBy_X0_requireWithin rfl rfl rfl (by decide +kernel) ⟨Nat.le_of_ble_eq_true rfl, Nat.le_of_ble_eq_true rfl⟩) rfl (Nat.le_of_ble_eq_true rfl) ⟨Nat.le_of_ble_eq_true rfl, Nat.le_of_ble_eq_true rfl⟩ dX0_sendBy_24 rfl (fun u2 hp => ?_)
  clear hp
  refine z_aload_n 0 dX0_sendBy_27 rfl ?_
  have e_28_4 : (e_X0_requireRoomForNotice u ) = 0 := Decidable.byContradiction (fun hq => by rw [e_X0_sendBy, if_pos e_3_0, if_pos e_9_1, if_pos e_15_2, if_pos e_24_3, if_neg hq] at he; exact hq he)
  refine z_callVv (As := []) (st := []) (fun l => c_X0_requireRoomForNotice l D cI cZ h a u  (by assumption)) zGok_TT (fun _ _ _ => trivial) (fun s args hts => cwV 0 hts gX0_sendBy_X0_requireRoomForNotice rfl rfl rfl (by decide +kernel) ⟨Nat.le_of_ble_eq_true rfl, Nat.le_of_ble_eq_true rfl⟩) (ci := 0) rfl rfl rfl rfl (Nat.le_of_ble_eq_true rfl) ⟨Nat.le_of_ble_eq_true rfl, Nat.le_of_ble_eq_true rfl⟩ dX0_sendBy_28 rfl (fun u2 hp => ?_)
  clear hp
  refine z_aload_n 0 dX0_sendBy_31 rfl ?_
  refine z_aload_n 0 dX0_sendBy_32 rfl ?_
  refine z_iload_n 1 dX0_sendBy_33 rfl ?_
  refine z_iload_n 2 dX0_sendBy_34 rfl ?_
  refine z_iload_n 3 dX0_sendBy_35 rfl ?_
  refine z_callVi (As := [.int p1, .int p2, .int p3]) (st := [.ref h]) (fun l => c_X0_devicesThatFulfil l D cI cZ h a u p1 p2 p3 (by first | (with_reducible assumption) | with_reducible exact zdev hnd hd (by assumption) | with_reducible exact znot hnn hn (by assumption) | with_reducible exact zwithin (by assumption) (by decide) (by decide) | with_reducible exact zroom0 hnn hn (by assumption) | exact hnd | exact hnn | assumption | decide) (by first | (with_reducible assumption) | with_reducible exact zdev hnd hd (by assumption) | with_reducible exact znot hnn hn (by assumption) | with_reducible exact zwithin (by assumption) (by decide) (by decide) | with_reducible exact zroom0 hnn hn (by assumption) | exact hnd | exact hnn | assumption | decide)) zGok_TT (fun _ _ _ => trivial) (fun s args hts => cwV 3 hts gX0_sendBy_X0_devicesThatFulfil rfl rfl rfl (by decide +kernel) ⟨Nat.le_of_ble_eq_true rfl, Nat.le_of_ble_eq_true rfl⟩) (ci := 0) rfl rfl rfl rfl (Nat.le_of_ble_eq_true rfl) ⟨Nat.le_of_ble_eq_true rfl, Nat.le_of_ble_eq_true rfl⟩ dX0_sendBy_36 rfl (fun r u2 hp => ?_)
  subst hp
  refine z_iload 4 dX0_sendBy_39 rfl ?_
  refine z_iload 5 dX0_sendBy_41 rfl ?_
  refine z_callVi (As := [.int (r_X0_devicesThatFulfil u p1 p2 p3), .int p4, .int p5]) (st := []) (fun l => c_X0_sendTo l D cI cZ h a u (r_X0_devicesThatFulfil u p1 p2 p3) p4 p5 nd (by first | (with_reducible assumption) | with_reducible exact zdev hnd hd (by assumption) | with_reducible exact znot hnn hn (by assumption) | with_reducible exact zwithin (by assumption) (by decide) (by decide) | with_reducible exact zroom0 hnn hn (by assumption) | exact hnd | exact hnn | assumption | decide) (by first | (with_reducible assumption) | with_reducible exact zdev hnd hd (by assumption) | with_reducible exact znot hnn hn (by assumption) | with_reducible exact zwithin (by assumption) (by decide) (by decide) | with_reducible exact zroom0 hnn hn (by assumption) | exact hnd | exact hnn | assumption | decide) nn (by first | (with_reducible assumption) | with_reducible exact zdev hnd hd (by assumption) | with_reducible exact znot hnn hn (by assumption) | with_reducible exact zwithin (by assumption) (by decide) (by decide) | with_reducible exact zroom0 hnn hn (by assumption) | exact hnd | exact hnn | assumption | decide) (by first | (with_reducible assumption) | with_reducible exact zdev hnd hd (by assumption) | with_reducible exact znot hnn hn (by assumption) | with_reducible exact zwithin (by assumption) (by decide) (by decide) | with_reducible exact zroom0 hnn hn (by assumption) | exact hnd | exact hnn | assumption | decide) (by first | (with_reducible assumption) | with_reducible exact zdev hnd hd (by assumption) | with_reducible exact znot hnn hn (by assumption) | with_reducible exact zwithin (by assumption) (by decide) (by decide) | with_reducible exact zroom0 hnn hn (by assumption) | exact hnd | exact hnn | assumption | decide)) zGok_TT (fun _ _ _ => trivial) (fun s args hts => cwV 3 hts gX0_sendBy_X0_sendTo rfl rfl rfl (by decide +kernel) ⟨Nat.le_of_ble_eq_true rfl, Nat.le_of_ble_eq_true rfl⟩) (ci := 0) rfl rfl rfl rfl (Nat.le_of_ble_eq_true rfl) ⟨Nat.le_of_ble_eq_true rfl, Nat.le_of_ble_eq_true rfl⟩ dX0_sendBy_43 rfl (fun r u2 hp => ?_)
  obtain ⟨rfl, rfl⟩ := hp
  exact hret _ (s_X0_sendTo u (r_X0_devicesThatFulfil u p1 p2 p3) p4 p5) _ _ _ dX0_sendBy_46 ⟨(by rw [r_X0_sendBy]), (by rw [s_X0_sendBy])⟩ rfl
set_option maxHeartbeats 4000000 in
set_option maxRecDepth 100000 in
theorem t_X0_sendBy (l : Launch) (hlt : l.stackTraces = false) (D : va_G) (cI cZ : ClassId) (h : Nat) (a : Nat → Nat) (u : SX) (p1 p2 p3 p4 p5 : Int32) (he : e_X0_sendBy u p1 p2 p3 p4 p5 ≠ 0) (nd : Nat) (hnd : u.1 10 = nI nd) (hd : nd ≤ 16) (nn : Nat) (hnn : u.1 16 = nI nn) (hn : nn ≤ 120) : zMx l yX0_sendBy wsX0_sendBy ({ frames := 7, cells := 1, slots := 6, locals := 136 } : Room) D [(cI, .int), (cZ, .boolean)] (wX0 cI cZ h a u) [.ref h, .int p1, .int p2, .int p3, .int p4, .int p5] (fun E' => E' = zEx (e_X0_sendBy u p1 p2 p3 p4 p5)) := by
  refine z_startX (cc := cX0_sendBy) (n := 6) (own := RX0) (L0 := [(0, .ref h), (1, .int p1), (2, .int p2), (3, .int p3), (4, .int p4), (5, .int p5)]) hlt (by decide) rfl rfl (Nat.le_of_ble_eq_true rfl) rfl ⟨Nat.le_of_ble_eq_true rfl, Nat.le_of_ble_eq_true rfl⟩ (fun E hlt hthr hthrow => ?_)
  refine z_iload_n 1 dX0_sendBy_0 rfl ?_
  refine z_iconst (v := 0) dX0_sendBy_1 rfl ?_
  refine z_iconst (v := 2) dX0_sendBy_2 rfl ?_
  by_cases e_3_0 : (e_X0_requireWithin p1 0 2) = 0
  ·
    refine z_callSv (As := [.int p1, .int 0, .int 2]) (st := []) (fun l => c_X0_requireWithin l D _ _ p1 0 2 (by assumption)) zGok_TT (fun _ _ _ => trivial) (fun s args hts => va_cwS 3 hts gX0_sendBy_X0_requireWithin rfl rfl rfl (by decide +kernel) ⟨Nat.le_of_ble_eq_true rfl, Nat.le_of_ble_eq_true rfl⟩) rfl (Nat.le_of_ble_eq_true rfl) ⟨Nat.le_of_ble_eq_true rfl, Nat.le_of_ble_eq_true rfl⟩ dX0_sendBy_3 rfl (fun u2 hp => ?_)
    clear hp
    refine z_iload_n 2 dX0_sendBy_6 rfl ?_
    refine z_iconst (v := 0) dX0_sendBy_7 rfl ?_
    refine z_iconst (v := 5) dX0_sendBy_8 rfl ?_
    by_cases e_9_1 : (e_X0_requireWithin p2 0 5) = 0
    ·
      refine z_callSv (As := [.int p2, .int 0, .int 5]) (st := []) (fun l => c_X0_requireWithin l D _ _ p2 0 5 (by assumption)) zGok_TT (fun _ _ _ => trivial) (fun s args hts => va_cwS 3 hts gX0_sendBy_X0_requireWithin rfl rfl rfl (by decide +kernel) ⟨Nat.le_of_ble_eq_true rfl, Nat.le_of_ble_eq_true rfl⟩) rfl (Nat.le_of_ble_eq_true rfl) ⟨Nat.le_of_ble_eq_true rfl, Nat.le_of_ble_eq_true rfl⟩ dX0_sendBy_9 rfl (fun u2 hp => ?_)
      clear hp
      refine z_iload_n 3 dX0_sendBy_12 rfl ?_
      refine z_iconst (v := 0) dX0_sendBy_13 rfl ?_
      refine z_iconst (v := 5) dX0_sendBy_14 rfl ?_
      by_cases e_15_2 : (e_X0_requireWithin p3 0 5) = 0
      ·
        refine z_callSv (As := [.int p3, .int 0, .int 5]) (st := []) (fun l => c_X0_requireWithin l D _ _ p3 0 5 (by assumption)) zGok_TT (fun _ _ _ => trivial) (fun s args hts => va_cwS 3 hts gX0_sendBy_X0_requireWithin rfl rfl rfl (by decide +kernel) ⟨Nat.le_of_ble_eq_true rfl, Nat.le_of_ble_eq_true rfl⟩) rfl (Nat.le_of_ble_eq_true rfl) ⟨Nat.le_of_ble_eq_true rfl, Nat.le_of_ble_eq_true rfl⟩ dX0_sendBy_15 rfl (fun u2 hp => ?_)
        clear hp
        refine z_iload 5 dX0_sendBy_18 rfl ?_
        refine z_iconst (v := 1) dX0_sendBy_20 rfl ?_
        refine z_sipush (v := 10000) dX0_sendBy_21 rfl ?_
        by_cases e_24_3 : (e_X0_requireWithin p5 1 10000) = 0
        ·
          refine z_callSv (As := [.int p5, .int 1, .int 10000]) (st := []) (fun l => c_X0_requireWithin l D _ _ p5 1 10000 (by assumption)) zGok_TT (fun _ _ _ => trivial) (fun s args hts => va_cwS 3 hts gX0_sendBy_X0_requireWithin rfl rfl rfl (by decide +kernel) ⟨Nat.le_of_ble_eq_true rfl, Nat.le_of_ble_eq_true rfl⟩) rfl (Nat.le_of_ble_eq_true rfl) ⟨Nat.le_of_ble_eq_true rfl, Nat.le_of_ble_eq_true rfl⟩ dX0_sendBy_24 rfl (fun u2 hp => ?_)
          clear hp
          refine z_aload_n 0 dX0_sendBy_27 rfl ?_
          by_cases e_28_4 : (e_X0_requireRoomForNotice u ) = 0
          ·
            refine z_callVv (As := []) (st := []) (fun l => c_X0_requireRoomForNotice l D cI cZ h a u  (by assumption)) zGok_TT (fun _ _ _ => trivial) (fun s args hts => cwV 0 hts gX0_sendBy_X0_requireRoomForNotice rfl rfl rfl (by decide +kernel) ⟨Nat.le_of_ble_eq_true rfl, Nat.le_of_ble_eq_true rfl⟩) (ci := 0) rfl rfl rfl rfl (Nat.le_of_ble_eq_true rfl) ⟨Nat.le_of_ble_eq_true rfl, Nat.le_of_ble_eq_true rfl⟩ dX0_sendBy_28 rfl (fun u2 hp => ?_)
            clear hp
            exact absurd (by rw [e_X0_sendBy, if_pos e_3_0, if_pos e_9_1, if_pos e_15_2, if_pos e_24_3, if_pos e_28_4]) he
          ·
            refine z_callVx (As := []) (st := []) hlt (fun l hl => t_X0_requireRoomForNotice l hl D cI cZ h a u  (by assumption)) (fun s args hts => cwV 0 hts gX0_sendBy_X0_requireRoomForNotice rfl rfl rfl (by decide +kernel) ⟨Nat.le_of_ble_eq_true rfl, Nat.le_of_ble_eq_true rfl⟩) (ci := 0) rfl rfl rfl rfl (Nat.le_of_ble_eq_true rfl) ⟨Nat.le_of_ble_eq_true rfl, Nat.le_of_ble_eq_true rfl⟩ dX0_sendBy_28 rfl ?_
            exact hthr _ _ _ (fun E' hE => by rw [e_X0_sendBy, if_pos e_3_0, if_pos e_9_1, if_pos e_15_2, if_pos e_24_3, if_neg e_28_4]; exact hE)
        ·
          refine z_callSx (As := [.int p5, .int 1, .int 10000]) (st := []) hlt (fun l hl => t_X0_requireWithin l hl D _ _ p5 1 10000 (by assumption)) (fun s args hts => va_cwS 3 hts gX0_sendBy_X0_requireWithin rfl rfl rfl (by decide +kernel) ⟨Nat.le_of_ble_eq_true rfl, Nat.le_of_ble_eq_true rfl⟩) rfl (Nat.le_of_ble_eq_true rfl) ⟨Nat.le_of_ble_eq_true rfl, Nat.le_of_ble_eq_true rfl⟩ dX0_sendBy_24 rfl ?_
          exact hthr _ _ _ (fun E' hE => by rw [e_X0_sendBy, if_pos e_3_0, if_pos e_9_1, if_pos e_15_2, if_neg e_24_3]; exact hE)
      ·
        refine z_callSx (As := [.int p3, .int 0, .int 5]) (st := []) hlt (fun l hl => t_X0_requireWithin l hl D _ _ p3 0 5 (by assumption)) (fun s args hts => va_cwS 3 hts gX0_sendBy_X0_requireWithin rfl rfl rfl (by decide +kernel) ⟨Nat.le_of_ble_eq_true rfl, Nat.le_of_ble_eq_true rfl⟩) rfl (Nat.le_of_ble_eq_true rfl) ⟨Nat.le_of_ble_eq_true rfl, Nat.le_of_ble_eq_true rfl⟩ dX0_sendBy_15 rfl ?_
        exact hthr _ _ _ (fun E' hE => by rw [e_X0_sendBy, if_pos e_3_0, if_pos e_9_1, if_neg e_15_2]; exact hE)
    ·
      refine z_callSx (As := [.int p2, .int 0, .int 5]) (st := []) hlt (fun l hl => t_X0_requireWithin l hl D _ _ p2 0 5 (by assumption)) (fun s args hts => va_cwS 3 hts gX0_sendBy_X0_requireWithin rfl rfl rfl (by decide +kernel) ⟨Nat.le_of_ble_eq_true rfl, Nat.le_of_ble_eq_true rfl⟩) rfl (Nat.le_of_ble_eq_true rfl) ⟨Nat.le_of_ble_eq_true rfl, Nat.le_of_ble_eq_true rfl⟩ dX0_sendBy_9 rfl ?_
      exact hthr _ _ _ (fun E' hE => by rw [e_X0_sendBy, if_pos e_3_0, if_neg e_9_1]; exact hE)
  ·
    refine z_callSx (As := [.int p1, .int 0, .int 2]) (st := []) hlt (fun l hl => t_X0_requireWithin l hl D _ _ p1 0 2 (by assumption)) (fun s args hts => va_cwS 3 hts gX0_sendBy_X0_requireWithin rfl rfl rfl (by decide +kernel) ⟨Nat.le_of_ble_eq_true rfl, Nat.le_of_ble_eq_true rfl⟩) rfl (Nat.le_of_ble_eq_true rfl) ⟨Nat.le_of_ble_eq_true rfl, Nat.le_of_ble_eq_true rfl⟩ dX0_sendBy_3 rfl ?_
    exact hthr _ _ _ (fun E' hE => by rw [e_X0_sendBy, if_neg e_3_0]; exact hE)
set_option maxHeartbeats 4000000 in
set_option maxRecDepth 100000 in
theorem c_X0_read (l : Launch) (D : va_G) (cI cZ : ClassId) (h : Nat) (a : Nat → Nat) (u : SX) (p1 p2 : Int32) (he : e_X0_read u p1 p2 = 0) (nd : Nat) (hnd : u.1 10 = nI nd) (hd : nd ≤ 16) (nn : Nat) (hnn : u.1 16 = nI nn) (hn : nn ≤ 120) : zMi l yX0_read wsX0_read ({ frames := 2, cells := 0, slots := 0, locals := 42 } : Room) zTT D [(cI, .int), (cZ, .boolean)] (wX0 cI cZ h a u) [.ref h, .int p1, .int p2] (fun (r : Int32) (u2 : SX) => r = r_X0_read u p1 p2 ∧ u2 = s_X0_read u p1 p2) (fun u2 => (wX0 cI cZ h a u2)) 0 0 := by
  refine z_startI (cc := cX0_read) (n := 4) (own := RX0) (L0 := [(0, .ref h), (1, .int p1), (2, .int p2)]) (plainFor_of_name (by decide)) rfl rfl (Nat.le_of_ble_eq_true rfl) rfl (fun E hret => ?_)
  have hixnn : ix (u.1 16) = nn := by rw [hnn]; exact nI_clamp (by omega)
  have hixnd : ix (u.1 10) = nd := by rw [hnd]; exact nI_clamp (by omega)
  refine z_aload_n 0 dX0_read_0 rfl ?_
  refine z_iload_n 1 dX0_read_1 rfl ?_
  have e_2_0 : (e_X0_requireDevice u p1) = 0 := Decidable.byContradiction (fun hq => by rw [e_X0_read, if_neg hq] at he; exact hq he)
  refine z_callVv (As := [.int p1]) (st := []) (fun l => c_X0_requireDevice l D cI cZ h a u p1 (by assumption)) zGok_TT (fun _ _ _ => trivial) (fun s args hts => cwV 1 hts gX0_read_X0_requireDevice rfl rfl rfl (by decide +kernel) ⟨Nat.le_of_ble_eq_true rfl, Nat.le_of_ble_eq_true rfl⟩) (ci := 0) rfl rfl rfl rfl (Nat.le_of_ble_eq_true rfl) ⟨Nat.le_of_ble_eq_true rfl, Nat.le_of_ble_eq_true rfl⟩ dX0_read_2 rfl (fun u2 hp => ?_)
  clear hp
  refine z_aload_n 0 dX0_read_5 rfl ?_
  refine z_iload_n 2 dX0_read_6 rfl ?_
  have e_7_1 : (e_X0_requireNotice u p2) = 0 := Decidable.byContradiction (fun hq => by rw [e_X0_read, if_pos e_2_0, if_neg hq] at he; exact hq he)
  refine z_callVv (As := [.int p2]) (st := []) (fun l => c_X0_requireNotice l D cI cZ h a u p2 (by assumption)) zGok_TT (fun _ _ _ => trivial) (fun s args hts => cwV 1 hts gX0_read_X0_requireNotice rfl rfl rfl (by decide +kernel) ⟨Nat.le_of_ble_eq_true rfl, Nat.le_of_ble_eq_true rfl⟩) (ci := 0) rfl rfl rfl rfl (Nat.le_of_ble_eq_true rfl) ⟨Nat.le_of_ble_eq_true rfl, Nat.le_of_ble_eq_true rfl⟩ dX0_read_7 rfl (fun u2 hp => ?_)
  clear hp
  refine z_aload_n 0 dX0_read_10 rfl ?_
  refine z_get (C := RX0) (T := TX0) (N := 19) (v := .ref (a 14)) inwX0_read 0 rfl rfl 14 (by decide) (List.mem_of_getElem? (i := 3) rfl) rfl rfl dX0_read_11 ?_
  refine z_iload_n 2 dX0_read_14 rfl ?_
  refine z_iald (v := (u.2 14 (ix p2))) 11 0 rfl rfl (by first | (with_reducible assumption) | with_reducible exact zdev hnd hd (by assumption) | with_reducible exact znot hnn hn (by assumption) | exact hnd | exact hnn | assumption | decide) rfl dX0_read_15 ?_
  refine z_iload_n 1 dX0_read_16 rfl ?_
  refine z_callSi (As := [.int (u.2 14 (ix p2)), .int p1]) (st := []) (fun l => c_X0_has l D _ _ (u.2 14 (ix p2)) p1) zGok_TT (fun _ _ _ => trivial) (fun s args hts => va_cwS 2 hts gX0_read_X0_has rfl rfl rfl (by decide +kernel) ⟨Nat.le_of_ble_eq_true rfl, Nat.le_of_ble_eq_true rfl⟩) rfl (Nat.le_of_ble_eq_true rfl) ⟨Nat.le_of_ble_eq_true rfl, Nat.le_of_ble_eq_true rfl⟩ dX0_read_17 rfl (fun r u2 hp => ?_)
  subst hp
  refine z_if_eq 31 dX0_read_20 (by decide) (fun c_20_2 => ?_) (fun c_20_2 => ?_)
  ·
    exact absurd he (by rw [e_X0_read, if_pos e_2_0, if_pos e_7_1, if_pos c_20_2]; decide)
  ·
    refine z_aload_n 0 dX0_read_23 rfl ?_
    refine z_iload_n 2 dX0_read_24 rfl ?_
    refine z_callVi (As := [.int p2]) (st := []) (fun l => c_X0_isStanding l D cI cZ h a u p2 (by first | (with_reducible assumption) | with_reducible exact zdev hnd hd (by assumption) | with_reducible exact znot hnn hn (by assumption) | exact hnd | exact hnn | assumption | decide)) zGok_TT (fun _ _ _ => trivial) (fun s args hts => cwV 1 hts gX0_read_X0_isStanding rfl rfl rfl (by decide +kernel) ⟨Nat.le_of_ble_eq_true rfl, Nat.le_of_ble_eq_true rfl⟩) (ci := 0) rfl rfl rfl rfl (Nat.le_of_ble_eq_true rfl) ⟨Nat.le_of_ble_eq_true rfl, Nat.le_of_ble_eq_true rfl⟩ dX0_read_25 rfl (fun r u2 hp => ?_)
    subst hp
    refine z_if_ne 41 dX0_read_28 (by decide) (fun c_28_3 => ?_) (fun c_28_3 => ?_)
    ·
      refine z_aload_n 0 dX0_read_41 rfl ?_
      refine z_iload_n 2 dX0_read_42 rfl ?_
      refine z_callVi (As := [.int p2]) (st := []) (fun l => c_X0_waitsNow l D cI cZ h a u p2 (by first | (with_reducible assumption) | with_reducible exact zdev hnd hd (by assumption) | with_reducible exact znot hnn hn (by assumption) | exact hnd | exact hnn | assumption | decide)) zGok_TT (fun _ _ _ => trivial) (fun s args hts => cwV 1 hts gX0_read_X0_waitsNow rfl rfl rfl (by decide +kernel) ⟨Nat.le_of_ble_eq_true rfl, Nat.le_of_ble_eq_true rfl⟩) (ci := 0) rfl rfl rfl rfl (Nat.le_of_ble_eq_true rfl) ⟨Nat.le_of_ble_eq_true rfl, Nat.le_of_ble_eq_true rfl⟩ dX0_read_43 rfl (fun r u2 hp => ?_)
      subst hp
      refine z_callSi (As := [.int (r_X0_waitsNow u p2)]) (st := []) (fun l => c_J6_bitCount_0f7a4 l D _ _ (r_X0_waitsNow u p2)) zGok_TT (fun _ _ _ => trivial) (fun s args hts => va_cwS 1 hts gX0_read_J6_bitCount_0f7a4 rfl rfl rfl (by decide +kernel) ⟨Nat.le_of_ble_eq_true rfl, Nat.le_of_ble_eq_true rfl⟩) rfl (Nat.le_of_ble_eq_true rfl) ⟨Nat.le_of_ble_eq_true rfl, Nat.le_of_ble_eq_true rfl⟩ dX0_read_46 rfl (fun r u2 hp => ?_)
      subst hp
      refine z_istore_n (L' := [(3, .int (r_J6_bitCount_0f7a4 (r_X0_waitsNow u p2))), (0, .ref h), (1, .int p1), (2, .int p2)]) dX0_read_49 (by decide) rfl ?_
      refine z_aload_n 1 dX0_read_50 rfl ?_
      refine z_iload_n 3 dX0_read_51 rfl ?_
      refine z_callVv (As := [.int p2]) (st := []) (fun l => c_X0_withdraw l D cI cZ h a u p2 (by first | (with_reducible assumption) | with_reducible exact zdev hnd hd (by assumption) | with_reducible exact znot hnn hn (by assumption) | exact hnd | exact hnn | assumption | decide)) zGok_TT (fun _ _ _ => trivial) (fun s args hts => cwV 1 hts gX0_read_X0_withdraw rfl rfl rfl (by decide +kernel) ⟨Nat.le_of_ble_eq_true rfl, Nat.le_of_ble_eq_true rfl⟩) (ci := 0) rfl rfl rfl rfl (Nat.le_of_ble_eq_true rfl) ⟨Nat.le_of_ble_eq_true rfl, Nat.le_of_ble_eq_true rfl⟩ dX0_read_52 rfl (fun u2 hp => ?_)
      subst hp
      refine z_iload_n 0 dX0_read_55 rfl ?_
      exact hret _ (s_X0_withdraw u p2) _ _ _ dX0_read_56 ⟨(by rw [r_X0_read]), (by rw [s_X0_read])⟩ rfl
    ·
      exact absurd he (by rw [e_X0_read, if_pos e_2_0, if_pos e_7_1, if_neg c_20_2, if_pos c_28_3]; decide)
set_option maxHeartbeats 4000000 in
set_option maxRecDepth 100000 in
theorem t_X0_read (l : Launch) (hlt : l.stackTraces = false) (D : va_G) (cI cZ : ClassId) (h : Nat) (a : Nat → Nat) (u : SX) (p1 p2 : Int32) (he : e_X0_read u p1 p2 ≠ 0) (nd : Nat) (hnd : u.1 10 = nI nd) (hd : nd ≤ 16) (nn : Nat) (hnn : u.1 16 = nI nn) (hn : nn ≤ 120) : zMx l yX0_read wsX0_read ({ frames := 7, cells := 1, slots := 6, locals := 103 } : Room) D [(cI, .int), (cZ, .boolean)] (wX0 cI cZ h a u) [.ref h, .int p1, .int p2] (fun E' => E' = zEx (e_X0_read u p1 p2)) := by
  refine z_startX (cc := cX0_read) (n := 4) (own := RX0) (L0 := [(0, .ref h), (1, .int p1), (2, .int p2)]) hlt (by decide) rfl rfl (Nat.le_of_ble_eq_true rfl) rfl ⟨Nat.le_of_ble_eq_true rfl, Nat.le_of_ble_eq_true rfl⟩ (fun E hlt hthr hthrow => ?_)
  refine z_aload_n 0 dX0_read_0 rfl ?_
  refine z_iload_n 1 dX0_read_1 rfl ?_
  by_cases e_2_0 : (e_X0_requireDevice u p1) = 0
  ·
    refine z_callVv (As := [.int p1]) (st := []) (fun l => c_X0_requireDevice l D cI cZ h a u p1 (by assumption)) zGok_TT (fun _ _ _ => trivial) (fun s args hts => cwV 1 hts gX0_read_X0_requireDevice rfl rfl rfl (by decide +kernel) ⟨Nat.le_of_ble_eq_true rfl, Nat.le_of_ble_eq_true rfl⟩) (ci := 0) rfl rfl rfl rfl (Nat.le_of_ble_eq_true rfl) ⟨Nat.le_of_ble_eq_true rfl, Nat.le_of_ble_eq_true rfl⟩ dX0_read_2 rfl (fun u2 hp => ?_)
    clear hp
    refine z_aload_n 0 dX0_read_5 rfl ?_
    refine z_iload_n 2 dX0_read_6 rfl ?_
    by_cases e_7_1 : (e_X0_requireNotice u p2) = 0
    ·
      refine z_callVv (As := [.int p2]) (st := []) (fun l => c_X0_requireNotice l D cI cZ h a u p2 (by assumption)) zGok_TT (fun _ _ _ => trivial) (fun s args hts => cwV 1 hts gX0_read_X0_requireNotice rfl rfl rfl (by decide +kernel) ⟨Nat.le_of_ble_eq_true rfl, Nat.le_of_ble_eq_true rfl⟩) (ci := 0) rfl rfl rfl rfl (Nat.le_of_ble_eq_true rfl) ⟨Nat.le_of_ble_eq_true rfl, Nat.le_of_ble_eq_true rfl⟩ dX0_read_7 rfl (fun u2 hp => ?_)
      clear hp
      refine z_aload_n 0 dX0_read_10 rfl ?_
      refine z_get (C := RX0) (T := TX0) (N := 19) (v := .ref (a 14)) inwX0_read 0 rfl rfl 14 (by decide) (List.mem_of_getElem? (i := 3) rfl) rfl rfl dX0_read_11 ?_
      refine z_iload_n 2 dX0_read_14 rfl ?_
      refine z_iald (v := (u.2 14 (ix p2))) 11 0 rfl rfl (by first | (with_reducible assumption) | with_reducible exact zdev hnd hd (by assumption) | with_reducible exact znot hnn hn (by assumption) | exact hnd | exact hnn | assumption | decide) rfl dX0_read_15 ?_
      refine z_iload_n 1 dX0_read_16 rfl ?_
      refine z_callSi (As := [.int (u.2 14 (ix p2)), .int p1]) (st := []) (fun l => c_X0_has l D _ _ (u.2 14 (ix p2)) p1) zGok_TT (fun _ _ _ => trivial) (fun s args hts => va_cwS 2 hts gX0_read_X0_has rfl rfl rfl (by decide +kernel) ⟨Nat.le_of_ble_eq_true rfl, Nat.le_of_ble_eq_true rfl⟩) rfl (Nat.le_of_ble_eq_true rfl) ⟨Nat.le_of_ble_eq_true rfl, Nat.le_of_ble_eq_true rfl⟩ dX0_read_17 rfl (fun r u2 hp => ?_)
      subst hp
      refine z_if_eq 31 dX0_read_20 (by decide) (fun c_20_2 => ?_) (fun c_20_2 => ?_)
      ·
        exact hthrow 31 _ "java/lang/IllegalStateException" "it was not delivered there, or does not stand any more" 73 130 77 (by decide) (by decide) (by decide +kernel) (List.mem_of_getElem? (i := 1) rfl) (List.mem_of_getElem? (i := 2) rfl) rfl (by decide) (fun w h => List.mem_cons_of_mem _ (by first | exact List.mem_append_right _ h | exact List.mem_append_left _ (List.mem_append_right _ h) | exact List.mem_append_left _ (List.mem_append_left _ (List.mem_append_right _ h)))) (by decide +kernel) (by decide +kernel) dX0_read_31 dX0_read_34 dX0_read_35 dX0_read_37 dX0_read_40 (by show _ = zEx _; rw [e_X0_read, if_pos e_2_0, if_pos e_7_1, if_pos c_20_2]; rfl)
      ·
        refine z_aload_n 0 dX0_read_23 rfl ?_
        refine z_iload_n 2 dX0_read_24 rfl ?_
        refine z_callVi (As := [.int p2]) (st := []) (fun l => c_X0_isStanding l D cI cZ h a u p2 (by first | (with_reducible assumption) | with_reducible exact zdev hnd hd (by assumption) | with_reducible exact znot hnn hn (by assumption) | exact hnd | exact hnn | assumption | decide)) zGok_TT (fun _ _ _ => trivial) (fun s args hts => cwV 1 hts gX0_read_X0_isStanding rfl rfl rfl (by decide +kernel) ⟨Nat.le_of_ble_eq_true rfl, Nat.le_of_ble_eq_true rfl⟩) (ci := 0) rfl rfl rfl rfl (Nat.le_of_ble_eq_true rfl) ⟨Nat.le_of_ble_eq_true rfl, Nat.le_of_ble_eq_true rfl⟩ dX0_read_25 rfl (fun r u2 hp => ?_)
        subst hp
        refine z_if_ne 41 dX0_read_28 (by decide) (fun c_28_3 => ?_) (fun c_28_3 => ?_)
        ·
          exact absurd (by rw [e_X0_read, if_pos e_2_0, if_pos e_7_1, if_neg c_20_2, if_neg c_28_3]) he
        ·
          exact hthrow 31 _ "java/lang/IllegalStateException" "it was not delivered there, or does not stand any more" 73 130 77 (by decide) (by decide) (by decide +kernel) (List.mem_of_getElem? (i := 1) rfl) (List.mem_of_getElem? (i := 2) rfl) rfl (by decide) (fun w h => List.mem_cons_of_mem _ (by first | exact List.mem_append_right _ h | exact List.mem_append_left _ (List.mem_append_right _ h) | exact List.mem_append_left _ (List.mem_append_left _ (List.mem_append_right _ h)))) (by decide +kernel) (by decide +kernel) dX0_read_31 dX0_read_34 dX0_read_35 dX0_read_37 dX0_read_40 (by show _ = zEx _; rw [e_X0_read, if_pos e_2_0, if_pos e_7_1, if_neg c_20_2, if_pos c_28_3]; rfl)
    ·
      refine z_callVx (As := [.int p2]) (st := []) hlt (fun l hl => t_X0_requireNotice l hl D cI cZ h a u p2 (by assumption)) (fun s args hts => cwV 1 hts gX0_read_X0_requireNotice rfl rfl rfl (by decide +kernel) ⟨Nat.le_of_ble_eq_true rfl, Nat.le_of_ble_eq_true rfl⟩) (ci := 0) rfl rfl rfl rfl (Nat.le_of_ble_eq_true rfl) ⟨Nat.le_of_ble_eq_true rfl, Nat.le_of_ble_eq_true rfl⟩ dX0_read_7 rfl ?_
      exact hthr _ _ _ (fun E' hE => by rw [e_X0_read, if_pos e_2_0, if_neg e_7_1]; exact hE)
  ·
    refine z_callVx (As := [.int p1]) (st := []) hlt (fun l hl => t_X0_requireDevice l hl D cI cZ h a u p1 (by assumption)) (fun s args hts => cwV 1 hts gX0_read_X0_requireDevice rfl rfl rfl (by decide +kernel) ⟨Nat.le_of_ble_eq_true rfl, Nat.le_of_ble_eq_true rfl⟩) (ci := 0) rfl rfl rfl rfl (Nat.le_of_ble_eq_true rfl) ⟨Nat.le_of_ble_eq_true rfl, Nat.le_of_ble_eq_true rfl⟩ dX0_read_2 rfl ?_
    exact hthr _ _ _ (fun E' hE => by rw [e_X0_read, if_neg e_2_0]; exact hE)
