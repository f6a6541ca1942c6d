set_option maxHeartbeats 4000000 in
set_option maxRecDepth 100000 in
theorem c_X0_setQuiet (l : Launch) (D : va_G) (cI cZ : ClassId) (h : Nat) (a : Nat → Nat) (u : SX) (p1 p2 p3 : Int32) (he : e_X0_setQuiet u p1 p2 p3 = 0) (nd : Nat) (hnd : u.1 10 = nI nd) (hd : nd ≤ 16) (nn : Nat) (hnn : u.1 16 = nI nn) (hn : nn ≤ 120) : zMi l yX0_setQuiet wsX0_setQuiet ({ frames := 5, cells := 0, slots := 0, locals := 112 } : Room) zTT D [(cI, .int), (cZ, .boolean)] (wX0 cI cZ h a u) [.ref h, .int p1, .int p2, .int p3] (fun (r : Int32) (u2 : SX) => r = r_X0_setQuiet u p1 p2 p3 ∧ u2 = s_X0_setQuiet u p1 p2 p3) (fun u2 => (wX0 cI cZ h a u2)) 0 0 := by
  refine z_startI (cc := cX0_setQuiet) (n := 4) (own := RX0) (L0 := [(0, .ref h), (1, .int p1), (2, .int p2), (3, .int p3)]) (plainFor_of_name (by decide)) rfl rfl (Nat.le_of_ble_eq_true rfl) rfl (fun E hret => ?_)
  have hixnn : ix (u.1 16) = nn := by rw [hnn]; exact nI_clamp (by omega)
  have hixnd : ix (u.1 10) = nd := by rw [hnd]; exact nI_clamp (by omega)
  refine z_aload_n 0 dX0_setQuiet_0 rfl ?_
  refine z_iload_n 1 dX0_setQuiet_1 rfl ?_
  have e_2_0 : (e_X0_requireDevice u p1) = 0 := Decidable.byContradiction (fun hq => by rw [e_X0_setQuiet, if_neg hq] at he; exact hq he)
  refine z_callVv (As := [.int p1]) (st := []) (fun l => c_X0_requireDevice l D cI cZ h a u p1 (by assumption)) zGok_TT (fun _ _ _ => trivial) (fun s args hts => cwV 1 hts gX0_setQuiet_X0_requireDevice rfl rfl rfl (by decide +kernel) ⟨Nat.le_of_ble_eq_true rfl, Nat.le_of_ble_eq_true rfl⟩) (ci := 0) rfl rfl rfl rfl (Nat.le_of_ble_eq_true rfl) ⟨Nat.le_of_ble_eq_true rfl, Nat.le_of_ble_eq_true rfl⟩ dX0_setQuiet_2 rfl (fun u2 hp => ?_)
  clear hp
  refine z_iload_n 2 dX0_setQuiet_5 rfl ?_
  refine z_iconst (v := 0) dX0_setQuiet_6 rfl ?_
  refine z_sipush (v := 1439) dX0_setQuiet_7 rfl ?_
  have e_10_1 : (e_X0_requireWithin p2 0 1439) = 0 := Decidable.byContradiction (fun hq => by rw [e_X0_setQuiet, if_pos e_2_0, if_neg hq] at he; exact hq he)
  refine z_callSv (As := [.int p2, .int 0, .int 1439]) (st := []) (fun l => c_X0_requireWithin l D _ _ p2 0 1439 (by assumption)) zGok_TT (fun _ _ _ => trivial) (fun s args hts => va_cwS 3 hts gX0_setQuiet_X0_requireWithin rfl rfl rfl (by decide +kernel) ⟨Nat.le_of_ble_eq_true rfl, Nat.le_of_ble_eq_true rfl⟩) rfl (Nat.le_of_ble_eq_true rfl) ⟨Nat.le_of_ble_eq_true rfl, Nat.le_of_ble_eq_true rfl⟩ dX0_setQuiet_10 rfl (fun u2 hp => ?_)
  clear hp
  refine z_iload_n 3 dX0_setQuiet_13 rfl ?_
  refine z_iconst (v := 0) dX0_setQuiet_14 rfl ?_
  refine z_sipush (v := 1439) dX0_setQuiet_15 rfl ?_
  have e_18_2 : (e_X0_requireWithin p3 0 1439) = 0 := Decidable.byContradiction (fun hq => by rw [e_X0_setQuiet, if_pos e_2_0, if_pos e_10_1, if_neg hq] at he; exact hq he)
  refine z_callSv (As := [.int p3, .int 0, .int 1439]) (st := []) (fun l => c_X0_requireWithin l D _ _ p3 0 1439 (by assumption)) zGok_TT (fun _ _ _ => trivial) (fun s args hts => va_cwS 3 hts gX0_setQuiet_X0_requireWithin rfl rfl rfl (by decide +kernel) ⟨Nat.le_of_ble_eq_true rfl, Nat.le_of_ble_eq_true rfl⟩) rfl (Nat.le_of_ble_eq_true rfl) ⟨Nat.le_of_ble_eq_true rfl, Nat.le_of_ble_eq_true rfl⟩ dX0_setQuiet_18 rfl (fun u2 hp => ?_)
  clear hp
  refine z_aload_n 0 dX0_setQuiet_21 rfl ?_
  refine z_get (C := RX0) (T := TX0) (N := 19) (v := .ref (a 6)) inwX0_setQuiet 0 rfl rfl 6 (by decide) (List.mem_of_getElem? (i := 1) rfl) rfl rfl dX0_setQuiet_22 ?_
  refine z_iload_n 1 dX0_setQuiet_25 rfl ?_
  refine z_iload_n 2 dX0_setQuiet_26 rfl ?_
  refine z_iast (w' := (wX0 cI cZ h a (pG u 6 (ix p1) p2))) 4 0 rfl rfl (by first | (with_reducible assumption) | with_reducible exact zdev hnd hd (by assumption) | with_reducible exact znot hnn hn (by assumption) | with_reducible exact zwithin (by assumption) (by decide) (by decide) | exact hnd | exact hnn | assumption | decide) (wX0_g6 _ _ _ _ _ _ _) dX0_setQuiet_27 ?_
  refine z_aload_n 0 dX0_setQuiet_28 rfl ?_
  refine z_get (C := RX0) (T := TX0) (N := 19) (v := .ref (a 7)) inwX0_setQuiet 0 rfl rfl 7 (by decide) (List.mem_of_getElem? (i := 2) rfl) rfl rfl dX0_setQuiet_29 ?_
  refine z_iload_n 1 dX0_setQuiet_32 rfl ?_
  refine z_iload_n 3 dX0_setQuiet_33 rfl ?_
  refine z_iast (w' := (wX0 cI cZ h a (pG (pG u 6 (ix p1) p2) 7 (ix p1) p3))) 5 0 rfl rfl (by first | (with_reducible assumption) | with_reducible exact zdev hnd hd (by assumption) | with_reducible exact znot hnn hn (by assumption) | with_reducible exact zwithin (by assumption) (by decide) (by decide) | exact hnd | exact hnn | assumption | decide) (wX0_g7 _ _ _ _ _ _ _) dX0_setQuiet_34 ?_
  refine z_aload_n 0 dX0_setQuiet_35 rfl ?_
  refine z_callVi (As := []) (st := []) (fun l => c_X0_deliverNow l D cI cZ h a (pG (pG u 6 (ix p1) p2) 7 (ix p1) p3)  nd (by first | (with_reducible assumption) | with_reducible exact zdev hnd hd (by assumption) | with_reducible exact znot hnn hn (by assumption) | with_reducible exact zwithin (by assumption) (by decide) (by decide) | exact hnd | exact hnn | assumption | decide) (by first | (with_reducible assumption) | with_reducible exact zdev hnd hd (by assumption) | with_reducible exact znot hnn hn (by assumption) | with_reducible exact zwithin (by assumption) (by decide) (by decide) | exact hnd | exact hnn | assumption | decide) nn (by first | (with_reducible assumption) | with_reducible exact zdev hnd hd (by assumption) | with_reducible exact znot hnn hn (by assumption) | with_reducible exact zwithin (by assumption) (by decide) (by decide) | exact hnd | exact hnn | assumption | decide) (by first | (with_reducible assumption) | with_reducible exact zdev hnd hd (by assumption) | with_reducible exact znot hnn hn (by assumption) | with_reducible exact zwithin (by assumption) (by decide) (by decide) | exact hnd | exact hnn | assumption | decide)) zGok_TT (fun _ _ _ => trivial) (fun s args hts => cwV 0 hts gX0_setQuiet_X0_deliverNow rfl rfl rfl (by decide +kernel) ⟨Nat.le_of_ble_eq_true rfl, Nat.le_of_ble_eq_true rfl⟩) (ci := 0) rfl rfl rfl rfl (Nat.le_of_ble_eq_true rfl) ⟨Nat.le_of_ble_eq_true rfl, Nat.le_of_ble_eq_true rfl⟩ dX0_setQuiet_36 rfl (fun r u2 hp => ?_)
  obtain ⟨rfl, rfl⟩ := hp
  exact hret _ (s_X0_deliverNow (pG (pG u 6 (ix p1) p2) 7 (ix p1) p3) ) _ _ _ dX0_setQuiet_39 ⟨(by rw [r_X0_setQuiet]), (by rw [s_X0_setQuiet])⟩ rfl
set_option maxHeartbeats 4000000 in
set_option maxRecDepth 100000 in
theorem t_X0_setQuiet (l : Launch) (hlt : l.stackTraces = false) (D : va_G) (cI cZ : ClassId) (h : Nat) (a : Nat → Nat) (u : SX) (p1 p2 p3 : Int32) (he : e_X0_setQuiet u p1 p2 p3 ≠ 0) (nd : Nat) (hnd : u.1 10 = nI nd) (hd : nd ≤ 16) (nn : Nat) (hnn : u.1 16 = nI nn) (hn : nn ≤ 120) : zMx l yX0_setQuiet wsX0_setQuiet ({ frames := 7, cells := 1, slots := 6, locals := 112 } : Room) D [(cI, .int), (cZ, .boolean)] (wX0 cI cZ h a u) [.ref h, .int p1, .int p2, .int p3] (fun E' => E' = zEx (e_X0_setQuiet u p1 p2 p3)) := by
  refine z_startX (cc := cX0_setQuiet) (n := 4) (own := RX0) (L0 := [(0, .ref h), (1, .int p1), (2, .int p2), (3, .int p3)]) hlt (by decide) rfl rfl (Nat.le_of_ble_eq_true rfl) rfl ⟨Nat.le_of_ble_eq_true rfl, Nat.le_of_ble_eq_true rfl⟩ (fun E hlt hthr hthrow => ?_)
  refine z_aload_n 0 dX0_setQuiet_0 rfl ?_
  refine z_iload_n 1 dX0_setQuiet_1 rfl ?_
  by_cases e_2_0 : (e_X0_requireDevice u p1) = 0
  ·
    refine z_callVv (As := [.int p1]) (st := []) (fun l => c_X0_requireDevice l D cI cZ h a u p1 (by assumption)) zGok_TT (fun _ _ _ => trivial) (fun s args hts => cwV 1 hts gX0_setQuiet_X0_requireDevice rfl rfl rfl (by decide +kernel) ⟨Nat.le_of_ble_eq_true rfl, Nat.le_of_ble_eq_true rfl⟩) (ci := 0) rfl rfl rfl rfl (Nat.le_of_ble_eq_true rfl) ⟨Nat.le_of_ble_eq_true rfl, Nat.le_of_ble_eq_true rfl⟩ dX0_setQuiet_2 rfl (fun u2 hp => ?_)
    clear hp
    refine z_iload_n 2 dX0_setQuiet_5 rfl ?_
    refine z_iconst (v := 0) dX0_setQuiet_6 rfl ?_
    refine z_sipush (v := 1439) dX0_setQuiet_7 rfl ?_
    by_cases e_10_1 : (e_X0_requireWithin p2 0 1439) = 0
    ·
      refine z_callSv (As := [.int p2, .int 0, .int 1439]) (st := []) (fun l => c_X0_requireWithin l D _ _ p2 0 1439 (by assumption)) zGok_TT (fun _ _ _ => trivial) (fun s args hts => va_cwS 3 hts gX0_setQuiet_X0_requireWithin rfl rfl rfl (by decide +kernel) ⟨Nat.le_of_ble_eq_true rfl, Nat.le_of_ble_eq_true rfl⟩) rfl (Nat.le_of_ble_eq_true rfl) ⟨Nat.le_of_ble_eq_true rfl, Nat.le_of_ble_eq_true rfl⟩ dX0_setQuiet_10 rfl (fun u2 hp => ?_)
      clear hp
      refine z_iload_n 3 dX0_setQuiet_13 rfl ?_
      refine z_iconst (v := 0) dX0_setQuiet_14 rfl ?_
      refine z_sipush (v := 1439) dX0_setQuiet_15 rfl ?_
      by_cases e_18_2 : (e_X0_requireWithin p3 0 1439) = 0
      ·
        refine z_callSv (As := [.int p3, .int 0, .int 1439]) (st := []) (fun l => c_X0_requireWithin l D _ _ p3 0 1439 (by assumption)) zGok_TT (fun _ _ _ => trivial) (fun s args hts => va_cwS 3 hts gX0_setQuiet_X0_requireWithin rfl rfl rfl (by decide +kernel) ⟨Nat.le_of_ble_eq_true rfl, Nat.le_of_ble_eq_true rfl⟩) rfl (Nat.le_of_ble_eq_true rfl) ⟨Nat.le_of_ble_eq_true rfl, Nat.le_of_ble_eq_true rfl⟩ dX0_setQuiet_18 rfl (fun u2 hp => ?_)
        clear hp
        exact absurd (by rw [e_X0_setQuiet, if_pos e_2_0, if_pos e_10_1, if_pos e_18_2]) he
      ·
        refine z_callSx (As := [.int p3, .int 0, .int 1439]) (st := []) hlt (fun l hl => t_X0_requireWithin l hl D _ _ p3 0 1439 (by assumption)) (fun s args hts => va_cwS 3 hts gX0_setQuiet_X0_requireWithin rfl rfl rfl (by decide +kernel) ⟨Nat.le_of_ble_eq_true rfl, Nat.le_of_ble_eq_true rfl⟩) rfl (Nat.le_of_ble_eq_true rfl) ⟨Nat.le_of_ble_eq_true rfl, Nat.le_of_ble_eq_true rfl⟩ dX0_setQuiet_18 rfl ?_
        exact hthr _ _ _ (fun E' hE => by rw [e_X0_setQuiet, if_pos e_2_0, if_pos e_10_1, if_neg e_18_2]; exact hE)
    ·
      refine z_callSx (As := [.int p2, .int 0, .int 1439]) (st := []) hlt (fun l hl => t_X0_requireWithin l hl D _ _ p2 0 1439 (by assumption)) (fun s args hts => va_cwS 3 hts gX0_setQuiet_X0_requireWithin rfl rfl rfl (by decide +kernel) ⟨Nat.le_of_ble_eq_true rfl, Nat.le_of_ble_eq_true rfl⟩) rfl (Nat.le_of_ble_eq_true rfl) ⟨Nat.le_of_ble_eq_true rfl, Nat.le_of_ble_eq_true rfl⟩ dX0_setQuiet_10 rfl ?_
      exact hthr _ _ _ (fun E' hE => by rw [e_X0_setQuiet, if_pos e_2_0, if_neg e_10_1]; exact hE)
  ·
    refine z_callVx (As := [.int p1]) (st := []) hlt (fun l hl => t_X0_requireDevice l hl D cI cZ h a u p1 (by assumption)) (fun s args hts => cwV 1 hts gX0_setQuiet_X0_requireDevice rfl rfl rfl (by decide +kernel) ⟨Nat.le_of_ble_eq_true rfl, Nat.le_of_ble_eq_true rfl⟩) (ci := 0) rfl rfl rfl rfl (Nat.le_of_ble_eq_true rfl) ⟨Nat.le_of_ble_eq_true rfl, Nat.le_of_ble_eq_true rfl⟩ dX0_setQuiet_2 rfl ?_
    exact hthr _ _ _ (fun E' hE => by rw [e_X0_setQuiet, if_neg e_2_0]; exact hE)
set_option maxHeartbeats 4000000 in
set_option maxRecDepth 100000 in
theorem c_X0_join (l : Launch) (D : va_G) (cI cZ : ClassId) (h : Nat) (a : Nat → Nat) (u : SX) (p1 p2 p3 : Int32) (he : e_X0_join u p1 p2 p3 = 0) (nd : Nat) (hnd : u.1 10 = nI nd) (hd : nd ≤ 16) : zMi l yX0_join wsX0_join ({ frames := 2, cells := 0, slots := 0, locals := 42 } : Room) zTT D [(cI, .int), (cZ, .boolean)] (wX0 cI cZ h a u) [.ref h, .int p1, .int p2, .int p3] (fun (r : Int32) (u2 : SX) => r = r_X0_join u p1 p2 p3 ∧ u2 = s_X0_join u p1 p2 p3) (fun u2 => (wX0 cI cZ h a u2)) 0 0 := by
  refine z_startZ (cc := cX0_join) (n := 5) (own := RX0) (L0 := [(0, .ref h), (1, .int p1), (2, .int p2), (3, .int p3)]) (plainFor_of_name (by decide)) rfl rfl (Nat.le_of_ble_eq_true rfl) rfl (fun E hret => ?_)
  have hixnd : ix (u.1 10) = nd := by rw [hnd]; exact nI_clamp (by omega)
  refine z_aload_n 0 dX0_join_0 rfl ?_
  refine z_iload_n 1 dX0_join_1 rfl ?_
  have e_2_0 : (e_X0_requireDevice u p1) = 0 := Decidable.byContradiction (fun hq => by rw [e_X0_join, if_neg hq] at he; exact hq he)
  refine z_callVv (As := [.int p1]) (st := []) (fun l => c_X0_requireDevice l D cI cZ h a u p1 (by assumption)) zGok_TT (fun _ _ _ => trivial) (fun s args hts => cwV 1 hts gX0_join_X0_requireDevice rfl rfl rfl (by decide +kernel) ⟨Nat.le_of_ble_eq_true rfl, Nat.le_of_ble_eq_true rfl⟩) (ci := 0) rfl rfl rfl rfl (Nat.le_of_ble_eq_true rfl) ⟨Nat.le_of_ble_eq_true rfl, Nat.le_of_ble_eq_true rfl⟩ dX0_join_2 rfl (fun u2 hp => ?_)
  clear hp
  refine z_iload_n 2 dX0_join_5 rfl ?_
  refine z_iconst (v := 0) dX0_join_6 rfl ?_
  refine z_iconst (v := 5) dX0_join_7 rfl ?_
  have e_8_1 : (e_X0_requireWithin p2 0 5) = 0 := Decidable.byContradiction (fun hq => by rw [e_X0_join, if_pos e_2_0, if_neg hq] at he; exact hq he)
  refine z_callSv (As := [.int p2, .int 0, .int 5]) (st := []) (fun l => c_X0_requireWithin l D _ _ p2 0 5 (by assumption)) zGok_TT (fun _ _ _ => trivial) (fun s args hts => va_cwS 3 hts gX0_join_X0_requireWithin rfl rfl rfl (by decide +kernel) ⟨Nat.le_of_ble_eq_true rfl, Nat.le_of_ble_eq_true rfl⟩) rfl (Nat.le_of_ble_eq_true rfl) ⟨Nat.le_of_ble_eq_true rfl, Nat.le_of_ble_eq_true rfl⟩ dX0_join_8 rfl (fun u2 hp => ?_)
  clear hp
  refine z_aload_n 0 dX0_join_11 rfl ?_
  refine z_get (C := RX0) (T := TX0) (N := 19) (v := .ref (a 1)) inwX0_join 0 rfl rfl 1 (by decide) (List.mem_of_getElem? (i := 1) rfl) rfl rfl dX0_join_12 ?_
  refine z_iload_n 2 dX0_join_15 rfl ?_
  refine z_iald (v := (u.2 1 (ix p2))) 2 0 rfl rfl (by first | (with_reducible assumption) | with_reducible exact zdev hnd hd (by assumption) | with_reducible exact zwithin (by assumption) (by decide) (by decide) | exact hnd | assumption | decide) rfl dX0_join_16 ?_
  refine z_iload_n 1 dX0_join_17 rfl ?_
  refine z_callSi (As := [.int (u.2 1 (ix p2)), .int p1]) (st := []) (fun l => c_X0_has l D _ _ (u.2 1 (ix p2)) p1) zGok_TT (fun _ _ _ => trivial) (fun s args hts => va_cwS 2 hts gX0_join_X0_has rfl rfl rfl (by decide +kernel) ⟨Nat.le_of_ble_eq_true rfl, Nat.le_of_ble_eq_true rfl⟩) rfl (Nat.le_of_ble_eq_true rfl) ⟨Nat.le_of_ble_eq_true rfl, Nat.le_of_ble_eq_true rfl⟩ dX0_join_18 rfl (fun r u2 hp => ?_)
  subst hp
  refine z_istore (L' := [(4, .int (r_X0_has (u.2 1 (ix p2)) p1)), (0, .ref h), (1, .int p1), (2, .int p2), (3, .int p3)]) dX0_join_21 (by decide) rfl ?_
  refine z_aload_n 1 dX0_join_23 rfl ?_
  refine z_get (C := RX0) (T := TX0) (N := 19) (v := .ref (a 1)) inwX0_join 0 rfl rfl 1 (by decide) (List.mem_of_getElem? (i := 1) rfl) rfl rfl dX0_join_24 ?_
  refine z_iload_n 3 dX0_join_27 rfl ?_
  refine z_aload_n 1 dX0_join_28 rfl ?_
  refine z_get (C := RX0) (T := TX0) (N := 19) (v := .ref (a 1)) inwX0_join 0 rfl rfl 1 (by decide) (List.mem_of_getElem? (i := 1) rfl) rfl rfl dX0_join_29 ?_
  refine z_iload_n 3 dX0_join_32 rfl ?_
  refine z_iald (v := (u.2 1 (ix p2))) 2 0 rfl rfl (by first | (with_reducible assumption) | with_reducible exact zdev hnd hd (by assumption) | with_reducible exact zwithin (by assumption) (by decide) (by decide) | exact hnd | assumption | decide) rfl dX0_join_33 ?_
  refine z_iload_n 2 dX0_join_34 rfl ?_
  refine z_iload_n 4 dX0_join_35 rfl ?_
  refine z_callSi (As := [.int (u.2 1 (ix p2)), .int p1, .int p3]) (st := [.int p2, .ref (a 1)]) (fun l => c_X0_changed l D _ _ (u.2 1 (ix p2)) p1 p3) zGok_TT (fun _ _ _ => trivial) (fun s args hts => va_cwS 3 hts gX0_join_X0_changed rfl rfl rfl (by decide +kernel) ⟨Nat.le_of_ble_eq_true rfl, Nat.le_of_ble_eq_true rfl⟩) rfl (Nat.le_of_ble_eq_true rfl) ⟨Nat.le_of_ble_eq_true rfl, Nat.le_of_ble_eq_true rfl⟩ dX0_join_36 rfl (fun r u2 hp => ?_)
  subst hp
  refine z_iast (w' := (wX0 cI cZ h a (pG u 1 (ix p2) (r_X0_changed (u.2 1 (ix p2)) p1 p3)))) 2 0 rfl rfl (by first | (with_reducible assumption) | with_reducible exact zdev hnd hd (by assumption) | with_reducible exact zwithin (by assumption) (by decide) (by decide) | exact hnd | assumption | decide) (wX0_g1 _ _ _ _ _ _ _) dX0_join_39 ?_
  refine z_iload 0 dX0_join_40 rfl ?_
  exact hret _ (pG u 1 (ix p2) (r_X0_changed (u.2 1 (ix p2)) p1 p3)) _ _ _ dX0_join_42 ⟨(by rw [r_X0_join]), (by rw [s_X0_join])⟩ rfl (znar01 (z01_X0_has _ _))
set_option maxHeartbeats 4000000 in
set_option maxRecDepth 100000 in
theorem t_X0_join (l : Launch) (hlt : l.stackTraces = false) (D : va_G) (cI cZ : ClassId) (h : Nat) (a : Nat → Nat) (u : SX) (p1 p2 p3 : Int32) (he : e_X0_join u p1 p2 p3 ≠ 0) (nd : Nat) (hnd : u.1 10 = nI nd) (hd : nd ≤ 16) : zMx l yX0_join wsX0_join ({ frames := 7, cells := 1, slots := 6, locals := 104 } : Room) D [(cI, .int), (cZ, .boolean)] (wX0 cI cZ h a u) [.ref h, .int p1, .int p2, .int p3] (fun E' => E' = zEx (e_X0_join u p1 p2 p3)) := by
  refine z_startX (cc := cX0_join) (n := 5) (own := RX0) (L0 := [(0, .ref h), (1, .int p1), (2, .int p2), (3, .int p3)]) hlt (by decide) rfl rfl (Nat.le_of_ble_eq_true rfl) rfl ⟨Nat.le_of_ble_eq_true rfl, Nat.le_of_ble_eq_true rfl⟩ (fun E hlt hthr hthrow => ?_)
  refine z_aload_n 0 dX0_join_0 rfl ?_
  refine z_iload_n 1 dX0_join_1 rfl ?_
  by_cases e_2_0 : (e_X0_requireDevice u p1) = 0
  ·
    refine z_callVv (As := [.int p1]) (st := []) (fun l => c_X0_requireDevice l D cI cZ h a u p1 (by assumption)) zGok_TT (fun _ _ _ => trivial) (fun s args hts => cwV 1 hts gX0_join_X0_requireDevice rfl rfl rfl (by decide +kernel) ⟨Nat.le_of_ble_eq_true rfl, Nat.le_of_ble_eq_true rfl⟩) (ci := 0) rfl rfl rfl rfl (Nat.le_of_ble_eq_true rfl) ⟨Nat.le_of_ble_eq_true rfl, Nat.le_of_ble_eq_true rfl⟩ dX0_join_2 rfl (fun u2 hp => ?_)
    clear hp
    refine z_iload_n 2 dX0_join_5 rfl ?_
    refine z_iconst (v := 0) dX0_join_6 rfl ?_
    refine z_iconst (v := 5) dX0_join_7 rfl ?_
    by_cases e_8_1 : (e_X0_requireWithin p2 0 5) = 0
    ·
      refine z_callSv (As := [.int p2, .int 0, .int 5]) (st := []) (fun l => c_X0_requireWithin l D _ _ p2 0 5 (by assumption)) zGok_TT (fun _ _ _ => trivial) (fun s args hts => va_cwS 3 hts gX0_join_X0_requireWithin rfl rfl rfl (by decide +kernel) ⟨Nat.le_of_ble_eq_true rfl, Nat.le_of_ble_eq_true rfl⟩) rfl (Nat.le_of_ble_eq_true rfl) ⟨Nat.le_of_ble_eq_true rfl, Nat.le_of_ble_eq_true rfl⟩ dX0_join_8 rfl (fun u2 hp => ?_)
      clear hp
      exact absurd (by rw [e_X0_join, if_pos e_2_0, if_pos e_8_1]) he
    ·
      refine z_callSx (As := [.int p2, .int 0, .int 5]) (st := []) hlt (fun l hl => t_X0_requireWithin l hl D _ _ p2 0 5 (by assumption)) (fun s args hts => va_cwS 3 hts gX0_join_X0_requireWithin rfl rfl rfl (by decide +kernel) ⟨Nat.le_of_ble_eq_true rfl, Nat.le_of_ble_eq_true rfl⟩) rfl (Nat.le_of_ble_eq_true rfl) ⟨Nat.le_of_ble_eq_true rfl, Nat.le_of_ble_eq_true rfl⟩ dX0_join_8 rfl ?_
      exact hthr _ _ _ (fun E' hE => by rw [e_X0_join, if_pos e_2_0, if_neg e_8_1]; exact hE)
  ·
    refine z_callVx (As := [.int p1]) (st := []) hlt (fun l hl => t_X0_requireDevice l hl D cI cZ h a u p1 (by assumption)) (fun s args hts => cwV 1 hts gX0_join_X0_requireDevice rfl rfl rfl (by decide +kernel) ⟨Nat.le_of_ble_eq_true rfl, Nat.le_of_ble_eq_true rfl⟩) (ci := 0) rfl rfl rfl rfl (Nat.le_of_ble_eq_true rfl) ⟨Nat.le_of_ble_eq_true rfl, Nat.le_of_ble_eq_true rfl⟩ dX0_join_2 rfl ?_
    exact hthr _ _ _ (fun E' hE => by rw [e_X0_join, if_neg e_2_0]; exact hE)
