set_option maxHeartbeats 4000000 in
set_option maxRecDepth 100000 in
theorem c_X0_setOnline (l : Launch) (D : va_G) (cI cZ : ClassId) (h : Nat) (a : Nat → Nat) (u : SX) (p1 p2 : Int32) (he : e_X0_setOnline u p1 p2 = 0) (nd : Nat) (hnd : u.1 10 = nI nd) (hd : nd ≤ 16) (nn : Nat) (hnn : u.1 16 = nI nn) (hn : nn ≤ 120) : zMi l yX0_setOnline wsX0_setOnline ({ frames := 5, cells := 0, slots := 0, locals := 112 } : Room) zTT D [(cI, .int), (cZ, .boolean)] (wX0 cI cZ h a u) [.ref h, .int p1, .int p2] (fun (r : Int32) (u2 : SX) => r = r_X0_setOnline u p1 p2 ∧ u2 = s_X0_setOnline u p1 p2) (fun u2 => (wX0 cI cZ h a u2)) 0 0 := by
  refine z_startI (cc := cX0_setOnline) (n := 3) (own := RX0) (L0 := [(0, .ref h), (1, .int p1), (2, .int p2)]) (plainFor_of_name (by decide)) rfl rfl (Nat.le_of_ble_eq_true rfl) rfl (fun E hret => ?_)
  have hixnn : ix (u.1 16) = nn := by rw [hnn]; exact nI_clamp (by omega)
  have hixnd : ix (u.1 10) = nd := by rw [hnd]; exact nI_clamp (by omega)
  refine z_aload_n 0 dX0_setOnline_0 rfl ?_
  refine z_iload_n 1 dX0_setOnline_1 rfl ?_
  have e_2_0 : (e_X0_requireDevice u p1) = 0 := Decidable.byContradiction (fun hq => by rw [e_X0_setOnline, if_neg hq] at he; exact hq he)
  refine z_callVv (As := [.int p1]) (st := []) (fun l => c_X0_requireDevice l D cI cZ h a u p1 (by assumption)) zGok_TT (fun _ _ _ => trivial) (fun s args hts => cwV 1 hts gX0_setOnline_X0_requireDevice rfl rfl rfl (by decide +kernel) ⟨Nat.le_of_ble_eq_true rfl, Nat.le_of_ble_eq_true rfl⟩) (ci := 0) rfl rfl rfl rfl (Nat.le_of_ble_eq_true rfl) ⟨Nat.le_of_ble_eq_true rfl, Nat.le_of_ble_eq_true rfl⟩ dX0_setOnline_2 rfl (fun u2 hp => ?_)
  clear hp
  refine z_aload_n 0 dX0_setOnline_5 rfl ?_
  refine z_aload_n 0 dX0_setOnline_6 rfl ?_
  refine z_get (C := RX0) (T := TX0) (N := 19) (v := .int (u.1 3)) inwX0_setOnline 0 rfl rfl 3 (by decide) (List.mem_of_getElem? (i := 1) rfl) rfl rfl dX0_setOnline_7 ?_
  refine z_iload_n 1 dX0_setOnline_10 rfl ?_
  refine z_iload_n 2 dX0_setOnline_11 rfl ?_
  refine z_callSi (As := [.int (u.1 3), .int p1, .int p2]) (st := [.ref h]) (fun l => c_X0_changed l D _ _ (u.1 3) p1 p2) zGok_TT (fun _ _ _ => trivial) (fun s args hts => va_cwS 3 hts gX0_setOnline_X0_changed rfl rfl rfl (by decide +kernel) ⟨Nat.le_of_ble_eq_true rfl, Nat.le_of_ble_eq_true rfl⟩) rfl (Nat.le_of_ble_eq_true rfl) ⟨Nat.le_of_ble_eq_true rfl, Nat.le_of_ble_eq_true rfl⟩ dX0_setOnline_12 rfl (fun r u2 hp => ?_)
  subst hp
  refine z_put (C := RX0) (T := TX0) (N := 19) (v := .int (r_X0_changed (u.1 3) p1 p2)) (w' := (wX0 cI cZ h a (pF u 3 (r_X0_changed (u.1 3) p1 p2)))) inwX0_setOnline 0 rfl rfl 3 (by decide) (List.mem_of_getElem? (i := 1) rfl) rfl tyX0 tyX0_ok nmX0 rfl rfl rfl (Nat.le_of_ble_eq_true rfl) (wX0_p3 _ _ _ _ _ _) dX0_setOnline_15 ?_
  refine z_aload_n 0 dX0_setOnline_18 rfl ?_
  refine z_callVi (As := []) (st := []) (fun l => c_X0_deliverNow l D cI cZ h a (pF u 3 (r_X0_changed (u.1 3) p1 p2))  nd (by first | (with_reducible assumption) | with_reducible exact zdev hnd hd (by assumption) | with_reducible exact znot hnn hn (by assumption) | exact hnd | exact hnn | assumption | decide) (by first | (with_reducible assumption) | with_reducible exact zdev hnd hd (by assumption) | with_reducible exact znot hnn hn (by assumption) | exact hnd | exact hnn | assumption | decide) nn (by first | (with_reducible assumption) | with_reducible exact zdev hnd hd (by assumption) | with_reducible exact znot hnn hn (by assumption) | exact hnd | exact hnn | assumption | decide) (by first | (with_reducible assumption) | with_reducible exact zdev hnd hd (by assumption) | with_reducible exact znot hnn hn (by assumption) | exact hnd | exact hnn | assumption | decide)) zGok_TT (fun _ _ _ => trivial) (fun s args hts => cwV 0 hts gX0_setOnline_X0_deliverNow rfl rfl rfl (by decide +kernel) ⟨Nat.le_of_ble_eq_true rfl, Nat.le_of_ble_eq_true rfl⟩) (ci := 0) rfl rfl rfl rfl (Nat.le_of_ble_eq_true rfl) ⟨Nat.le_of_ble_eq_true rfl, Nat.le_of_ble_eq_true rfl⟩ dX0_setOnline_19 rfl (fun r u2 hp => ?_)
  obtain ⟨rfl, rfl⟩ := hp
  exact hret _ (s_X0_deliverNow (pF u 3 (r_X0_changed (u.1 3) p1 p2)) ) _ _ _ dX0_setOnline_22 ⟨(by rw [r_X0_setOnline]), (by rw [s_X0_setOnline])⟩ rfl
set_option maxHeartbeats 4000000 in
set_option maxRecDepth 100000 in
theorem t_X0_setOnline (l : Launch) (hlt : l.stackTraces = false) (D : va_G) (cI cZ : ClassId) (h : Nat) (a : Nat → Nat) (u : SX) (p1 p2 : Int32) (he : e_X0_setOnline u p1 p2 ≠ 0) (nd : Nat) (hnd : u.1 10 = nI nd) (hd : nd ≤ 16) (nn : Nat) (hnn : u.1 16 = nI nn) (hn : nn ≤ 120) : zMx l yX0_setOnline wsX0_setOnline ({ frames := 7, cells := 1, slots := 6, locals := 112 } : Room) D [(cI, .int), (cZ, .boolean)] (wX0 cI cZ h a u) [.ref h, .int p1, .int p2] (fun E' => E' = zEx (e_X0_setOnline u p1 p2)) := by
  refine z_startX (cc := cX0_setOnline) (n := 3) (own := RX0) (L0 := [(0, .ref h), (1, .int p1), (2, .int p2)]) hlt (by decide) rfl rfl (Nat.le_of_ble_eq_true rfl) rfl ⟨Nat.le_of_ble_eq_true rfl, Nat.le_of_ble_eq_true rfl⟩ (fun E hlt hthr hthrow => ?_)
  refine z_aload_n 0 dX0_setOnline_0 rfl ?_
  refine z_iload_n 1 dX0_setOnline_1 rfl ?_
  by_cases e_2_0 : (e_X0_requireDevice u p1) = 0
  ·
    refine z_callVv (As := [.int p1]) (st := []) (fun l => c_X0_requireDevice l D cI cZ h a u p1 (by assumption)) zGok_TT (fun _ _ _ => trivial) (fun s args hts => cwV 1 hts gX0_setOnline_X0_requireDevice rfl rfl rfl (by decide +kernel) ⟨Nat.le_of_ble_eq_true rfl, Nat.le_of_ble_eq_true rfl⟩) (ci := 0) rfl rfl rfl rfl (Nat.le_of_ble_eq_true rfl) ⟨Nat.le_of_ble_eq_true rfl, Nat.le_of_ble_eq_true rfl⟩ dX0_setOnline_2 rfl (fun u2 hp => ?_)
    clear hp
    exact absurd (by rw [e_X0_setOnline, if_pos e_2_0]) he
  ·
    refine z_callVx (As := [.int p1]) (st := []) hlt (fun l hl => t_X0_requireDevice l hl D cI cZ h a u p1 (by assumption)) (fun s args hts => cwV 1 hts gX0_setOnline_X0_requireDevice rfl rfl rfl (by decide +kernel) ⟨Nat.le_of_ble_eq_true rfl, Nat.le_of_ble_eq_true rfl⟩) (ci := 0) rfl rfl rfl rfl (Nat.le_of_ble_eq_true rfl) ⟨Nat.le_of_ble_eq_true rfl, Nat.le_of_ble_eq_true rfl⟩ dX0_setOnline_2 rfl ?_
    exact hthr _ _ _ (fun E' hE => by rw [e_X0_setOnline, if_neg e_2_0]; exact hE)
set_option maxHeartbeats 4000000 in
set_option maxRecDepth 100000 in
theorem c_X0_setDozing (l : Launch) (D : va_G) (cI cZ : ClassId) (h : Nat) (a : Nat → Nat) (u : SX) (p1 p2 : Int32) (he : e_X0_setDozing u p1 p2 = 0) (nd : Nat) (hnd : u.1 10 = nI nd) (hd : nd ≤ 16) (nn : Nat) (hnn : u.1 16 = nI nn) (hn : nn ≤ 120) : zMi l yX0_setDozing wsX0_setDozing ({ frames := 5, cells := 0, slots := 0, locals := 112 } : Room) zTT D [(cI, .int), (cZ, .boolean)] (wX0 cI cZ h a u) [.ref h, .int p1, .int p2] (fun (r : Int32) (u2 : SX) => r = r_X0_setDozing u p1 p2 ∧ u2 = s_X0_setDozing u p1 p2) (fun u2 => (wX0 cI cZ h a u2)) 0 0 := by
  refine z_startI (cc := cX0_setDozing) (n := 3) (own := RX0) (L0 := [(0, .ref h), (1, .int p1), (2, .int p2)]) (plainFor_of_name (by decide)) rfl rfl (Nat.le_of_ble_eq_true rfl) rfl (fun E hret => ?_)
  have hixnn : ix (u.1 16) = nn := by rw [hnn]; exact nI_clamp (by omega)
  have hixnd : ix (u.1 10) = nd := by rw [hnd]; exact nI_clamp (by omega)
  refine z_aload_n 0 dX0_setDozing_0 rfl ?_
  refine z_iload_n 1 dX0_setDozing_1 rfl ?_
  have e_2_0 : (e_X0_requireDevice u p1) = 0 := Decidable.byContradiction (fun hq => by rw [e_X0_setDozing, if_neg hq] at he; exact hq he)
  refine z_callVv (As := [.int p1]) (st := []) (fun l => c_X0_requireDevice l D cI cZ h a u p1 (by assumption)) zGok_TT (fun _ _ _ => trivial) (fun s args hts => cwV 1 hts gX0_setDozing_X0_requireDevice rfl rfl rfl (by decide +kernel) ⟨Nat.le_of_ble_eq_true rfl, Nat.le_of_ble_eq_true rfl⟩) (ci := 0) rfl rfl rfl rfl (Nat.le_of_ble_eq_true rfl) ⟨Nat.le_of_ble_eq_true rfl, Nat.le_of_ble_eq_true rfl⟩ dX0_setDozing_2 rfl (fun u2 hp => ?_)
  clear hp
  refine z_aload_n 0 dX0_setDozing_5 rfl ?_
  refine z_aload_n 0 dX0_setDozing_6 rfl ?_
  refine z_get (C := RX0) (T := TX0) (N := 19) (v := .int (u.1 4)) inwX0_setDozing 0 rfl rfl 4 (by decide) (List.mem_of_getElem? (i := 1) rfl) rfl rfl dX0_setDozing_7 ?_
  refine z_iload_n 1 dX0_setDozing_10 rfl ?_
  refine z_iload_n 2 dX0_setDozing_11 rfl ?_
  refine z_callSi (As := [.int (u.1 4), .int p1, .int p2]) (st := [.ref h]) (fun l => c_X0_changed l D _ _ (u.1 4) p1 p2) zGok_TT (fun _ _ _ => trivial) (fun s args hts => va_cwS 3 hts gX0_setDozing_X0_changed rfl rfl rfl (by decide +kernel) ⟨Nat.le_of_ble_eq_true rfl, Nat.le_of_ble_eq_true rfl⟩) rfl (Nat.le_of_ble_eq_true rfl) ⟨Nat.le_of_ble_eq_true rfl, Nat.le_of_ble_eq_true rfl⟩ dX0_setDozing_12 rfl (fun r u2 hp => ?_)
  subst hp
  refine z_put (C := RX0) (T := TX0) (N := 19) (v := .int (r_X0_changed (u.1 4) p1 p2)) (w' := (wX0 cI cZ h a (pF u 4 (r_X0_changed (u.1 4) p1 p2)))) inwX0_setDozing 0 rfl rfl 4 (by decide) (List.mem_of_getElem? (i := 1) rfl) rfl tyX0 tyX0_ok nmX0 rfl rfl rfl (Nat.le_of_ble_eq_true rfl) (wX0_p4 _ _ _ _ _ _) dX0_setDozing_15 ?_
  refine z_aload_n 0 dX0_setDozing_18 rfl ?_
  refine z_callVi (As := []) (st := []) (fun l => c_X0_deliverNow l D cI cZ h a (pF u 4 (r_X0_changed (u.1 4) p1 p2))  nd (by first | (with_reducible assumption) | with_reducible exact zdev hnd hd (by assumption) | with_reducible exact znot hnn hn (by assumption) | exact hnd | exact hnn | assumption | decide) (by first | (with_reducible assumption) | with_reducible exact zdev hnd hd (by assumption) | with_reducible exact znot hnn hn (by assumption) | exact hnd | exact hnn | assumption | decide) nn (by first | (with_reducible assumption) | with_reducible exact zdev hnd hd (by assumption) | with_reducible exact znot hnn hn (by assumption) | exact hnd | exact hnn | assumption | decide) (by first | (with_reducible assumption) | with_reducible exact zdev hnd hd (by assumption) | with_reducible exact znot hnn hn (by assumption) | exact hnd | exact hnn | assumption | decide)) zGok_TT (fun _ _ _ => trivial) (fun s args hts => cwV 0 hts gX0_setDozing_X0_deliverNow rfl rfl rfl (by decide +kernel) ⟨Nat.le_of_ble_eq_true rfl, Nat.le_of_ble_eq_true rfl⟩) (ci := 0) rfl rfl rfl rfl (Nat.le_of_ble_eq_true rfl) ⟨Nat.le_of_ble_eq_true rfl, Nat.le_of_ble_eq_true rfl⟩ dX0_setDozing_19 rfl (fun r u2 hp => ?_)
  obtain ⟨rfl, rfl⟩ := hp
  exact hret _ (s_X0_deliverNow (pF u 4 (r_X0_changed (u.1 4) p1 p2)) ) _ _ _ dX0_setDozing_22 ⟨(by rw [r_X0_setDozing]), (by rw [s_X0_setDozing])⟩ rfl
set_option maxHeartbeats 4000000 in
set_option maxRecDepth 100000 in
theorem t_X0_setDozing (l : Launch) (hlt : l.stackTraces = false) (D : va_G) (cI cZ : ClassId) (h : Nat) (a : Nat → Nat) (u : SX) (p1 p2 : Int32) (he : e_X0_setDozing u p1 p2 ≠ 0) (nd : Nat) (hnd : u.1 10 = nI nd) (hd : nd ≤ 16) (nn : Nat) (hnn : u.1 16 = nI nn) (hn : nn ≤ 120) : zMx l yX0_setDozing wsX0_setDozing ({ frames := 7, cells := 1, slots := 6, locals := 112 } : Room) D [(cI, .int), (cZ, .boolean)] (wX0 cI cZ h a u) [.ref h, .int p1, .int p2] (fun E' => E' = zEx (e_X0_setDozing u p1 p2)) := by
  refine z_startX (cc := cX0_setDozing) (n := 3) (own := RX0) (L0 := [(0, .ref h), (1, .int p1), (2, .int p2)]) hlt (by decide) rfl rfl (Nat.le_of_ble_eq_true rfl) rfl ⟨Nat.le_of_ble_eq_true rfl, Nat.le_of_ble_eq_true rfl⟩ (fun E hlt hthr hthrow => ?_)
  refine z_aload_n 0 dX0_setDozing_0 rfl ?_
  refine z_iload_n 1 dX0_setDozing_1 rfl ?_
  by_cases e_2_0 : (e_X0_requireDevice u p1) = 0
  ·
    refine z_callVv (As := [.int p1]) (st := []) (fun l => c_X0_requireDevice l D cI cZ h a u p1 (by assumption)) zGok_TT (fun _ _ _ => trivial) (fun s args hts => cwV 1 hts gX0_setDozing_X0_requireDevice rfl rfl rfl (by decide +kernel) ⟨Nat.le_of_ble_eq_true rfl, Nat.le_of_ble_eq_true rfl⟩) (ci := 0) rfl rfl rfl rfl (Nat.le_of_ble_eq_true rfl) ⟨Nat.le_of_ble_eq_true rfl, Nat.le_of_ble_eq_true rfl⟩ dX0_setDozing_2 rfl (fun u2 hp => ?_)
    clear hp
    exact absurd (by rw [e_X0_setDozing, if_pos e_2_0]) he
  ·
    refine z_callVx (As := [.int p1]) (st := []) hlt (fun l hl => t_X0_requireDevice l hl D cI cZ h a u p1 (by assumption)) (fun s args hts => cwV 1 hts gX0_setDozing_X0_requireDevice rfl rfl rfl (by decide +kernel) ⟨Nat.le_of_ble_eq_true rfl, Nat.le_of_ble_eq_true rfl⟩) (ci := 0) rfl rfl rfl rfl (Nat.le_of_ble_eq_true rfl) ⟨Nat.le_of_ble_eq_true rfl, Nat.le_of_ble_eq_true rfl⟩ dX0_setDozing_2 rfl ?_
    exact hthr _ _ _ (fun E' hE => by rw [e_X0_setDozing, if_neg e_2_0]; exact hE)
