set_option maxHeartbeats 4000000 in
set_option maxRecDepth 100000 in
theorem c_X0_sendTo (l : Launch) (D : va_G) (cI cZ : ClassId) (h : Nat) (a : Nat → Nat) (u : SX) (p1 p2 p3 : Int32) (nd : Nat) (hnd : u.1 10 = nI nd) (hd : nd ≤ 16) (nn : Nat) (hnn : u.1 16 = nI nn) (hn : nn ≤ 120) (hlt : nn < 120) : zMi l yX0_sendTo wsX0_sendTo ({ frames := 5, cells := 0, slots := 0, locals := 112 } : Room) zTT D [(cI, .int), (cZ, .boolean)] (wX0 cI cZ h a u) [.ref h, .int p1, .int p2, .int p3] (fun (r : Int32) (u2 : SX) => r = r_X0_sendTo u p1 p2 p3 ∧ u2 = s_X0_sendTo u p1 p2 p3) (fun u2 => (wX0 cI cZ h a u2)) 0 0 := by
  refine z_startI (cc := cX0_sendTo) (n := 5) (own := RX0) (L0 := [(0, .ref h), (1, .int p1), (2, .int p2), (3, .int p3)]) (plainFor_of_name (by decide)) rfl rfl (Nat.le_of_ble_eq_true rfl) rfl (fun E hret => ?_)
  have hixnn : ix (u.1 16) = nn := by rw [hnn]; exact nI_clamp (by omega)
  have hixnd : ix (u.1 10) = nd := by rw [hnd]; exact nI_clamp (by omega)
  refine z_aload_n 0 dX0_sendTo_0 rfl ?_
  refine z_get (C := RX0) (T := TX0) (N := 19) (v := .int (u.1 16)) inwX0_sendTo 0 rfl rfl 16 (by decide) (List.mem_of_getElem? (i := 1) rfl) rfl rfl dX0_sendTo_1 ?_
  refine z_istore (L' := [(4, .int (u.1 16)), (0, .ref h), (1, .int p1), (2, .int p2), (3, .int p3)]) dX0_sendTo_4 (by decide) rfl ?_
  refine z_aload_n 1 dX0_sendTo_6 rfl ?_
  refine z_dup dX0_sendTo_7 rfl ?_
  refine z_get (C := RX0) (T := TX0) (N := 19) (v := .int (u.1 16)) inwX0_sendTo 0 rfl rfl 16 (by decide) (List.mem_of_getElem? (i := 1) rfl) rfl rfl dX0_sendTo_8 ?_
  refine z_iconst (v := 1) dX0_sendTo_11 rfl ?_
  refine z_iadd dX0_sendTo_12 ?_
  refine z_put (C := RX0) (T := TX0) (N := 19) (v := .int ((u.1 16) + 1)) (w' := (wX0 cI cZ h a (pF u 16 ((u.1 16) + 1)))) inwX0_sendTo 0 rfl rfl 16 (by decide) (List.mem_of_getElem? (i := 1) rfl) rfl tyX0 tyX0_ok nmX0 rfl rfl rfl (Nat.le_of_ble_eq_true rfl) (wX0_p16 _ _ _ _ _ _) dX0_sendTo_13 ?_
  refine z_aload_n 1 dX0_sendTo_16 rfl ?_
  refine z_get (C := RX0) (T := TX0) (N := 19) (v := .ref (a 11)) inwX0_sendTo 0 rfl rfl 11 (by decide) (List.mem_of_getElem? (i := 2) rfl) rfl rfl dX0_sendTo_17 ?_
  refine z_iload 0 dX0_sendTo_20 rfl ?_
  refine z_iload_n 3 dX0_sendTo_22 rfl ?_
  refine z_zast (w' := (wX0 cI cZ h a (pG (pF u 16 ((u.1 16) + 1)) 11 (ix (u.1 16)) (vp_nar .boolean p2)))) 8 1 rfl rfl (by first | (with_reducible assumption) | with_reducible exact zdev hnd hd (by assumption) | with_reducible exact znot hnn hn (by assumption) | with_reducible exact zroomN hnn hlt | exact hnd | exact hnn | assumption | decide) (wX0_g11 _ _ _ _ _ _ _) dX0_sendTo_23 ?_
  refine z_aload_n 1 dX0_sendTo_24 rfl ?_
  refine z_get (C := RX0) (T := TX0) (N := 19) (v := .ref (a 12)) inwX0_sendTo 0 rfl rfl 12 (by decide) (List.mem_of_getElem? (i := 3) rfl) rfl rfl dX0_sendTo_25 ?_
  refine z_iload 0 dX0_sendTo_28 rfl ?_
  refine z_aload_n 1 dX0_sendTo_30 rfl ?_
  refine z_get (C := RX0) (T := TX0) (N := 19) (v := .int (u.1 17)) inwX0_sendTo 0 rfl rfl 17 (by decide) (List.mem_of_getElem? (i := 4) rfl) rfl rfl dX0_sendTo_31 ?_
  refine z_iload_n 4 dX0_sendTo_34 rfl ?_
  refine z_iadd dX0_sendTo_35 ?_
  refine z_iast (w' := (wX0 cI cZ h a (pG (pG (pF u 16 ((u.1 16) + 1)) 11 (ix (u.1 16)) (vp_nar .boolean p2)) 12 (ix (u.1 16)) ((u.1 17) + p3)))) 9 0 rfl rfl (by first | (with_reducible assumption) | with_reducible exact zdev hnd hd (by assumption) | with_reducible exact znot hnn hn (by assumption) | with_reducible exact zroomN hnn hlt | exact hnd | exact hnn | assumption | decide) (wX0_g12 _ _ _ _ _ _ _) dX0_sendTo_36 ?_
  refine z_aload_n 1 dX0_sendTo_37 rfl ?_
  refine z_get (C := RX0) (T := TX0) (N := 19) (v := .ref (a 13)) inwX0_sendTo 0 rfl rfl 13 (by decide) (List.mem_of_getElem? (i := 5) rfl) rfl rfl dX0_sendTo_38 ?_
  refine z_iload 0 dX0_sendTo_41 rfl ?_
  refine z_iload_n 2 dX0_sendTo_43 rfl ?_
  refine z_aload_n 1 dX0_sendTo_44 rfl ?_
  refine z_get (C := RX0) (T := TX0) (N := 19) (v := .int (u.1 2)) inwX0_sendTo 0 rfl rfl 2 (by decide) (List.mem_of_getElem? (i := 6) rfl) rfl rfl dX0_sendTo_45 ?_
  refine z_iand dX0_sendTo_48 ?_
  refine z_iast (w' := (wX0 cI cZ h a (pG (pG (pG (pF u 16 ((u.1 16) + 1)) 11 (ix (u.1 16)) (vp_nar .boolean p2)) 12 (ix (u.1 16)) ((u.1 17) + p3)) 13 (ix (u.1 16)) (p1 &&& (u.1 2))))) 10 0 rfl rfl (by first | (with_reducible assumption) | with_reducible exact zdev hnd hd (by assumption) | with_reducible exact znot hnn hn (by assumption) | with_reducible exact zroomN hnn hlt | exact hnd | exact hnn | assumption | decide) (wX0_g13 _ _ _ _ _ _ _) dX0_sendTo_49 ?_
  refine z_aload_n 1 dX0_sendTo_50 rfl ?_
  refine z_callVi (As := []) (st := []) (fun l => c_X0_deliverNow l D cI cZ h a (pG (pG (pG (pF u 16 ((u.1 16) + 1)) 11 (ix (u.1 16)) (vp_nar .boolean p2)) 12 (ix (u.1 16)) ((u.1 17) + p3)) 13 (ix (u.1 16)) (p1 &&& (u.1 2)))  nd (by first | (with_reducible assumption) | with_reducible exact zdev hnd hd (by assumption) | with_reducible exact znot hnn hn (by assumption) | with_reducible exact zroomN hnn hlt | exact hnd | exact hnn | assumption | decide) (by first | (with_reducible assumption) | with_reducible exact zdev hnd hd (by assumption) | with_reducible exact znot hnn hn (by assumption) | with_reducible exact zroomN hnn hlt | exact hnd | exact hnn | assumption | decide) (nn + 1) (by show u.1 16 + 1 = _; rw [hnn]; exact nI_1 nn) (hlt)) zGok_TT (fun _ _ _ => trivial) (fun s args hts => cwV 0 hts gX0_sendTo_X0_deliverNow rfl rfl rfl (by decide +kernel) ⟨Nat.le_of_ble_eq_true rfl, Nat.le_of_ble_eq_true rfl⟩) (ci := 0) rfl rfl rfl rfl (Nat.le_of_ble_eq_true rfl) ⟨Nat.le_of_ble_eq_true rfl, Nat.le_of_ble_eq_true rfl⟩ dX0_sendTo_51 rfl (fun r u2 hp => ?_)
  obtain ⟨rfl, rfl⟩ := hp
  refine z_pop dX0_sendTo_54 rfl ?_
  refine z_iload 0 dX0_sendTo_55 rfl ?_
  exact hret _ (s_X0_deliverNow (pG (pG (pG (pF u 16 ((u.1 16) + 1)) 11 (ix (u.1 16)) (vp_nar .boolean p2)) 12 (ix (u.1 16)) ((u.1 17) + p3)) 13 (ix (u.1 16)) (p1 &&& (u.1 2))) ) _ _ _ dX0_sendTo_57 ⟨(by rw [r_X0_sendTo]), (by rw [s_X0_sendTo])⟩ rfl
set_option maxHeartbeats 4000000 in
set_option maxRecDepth 100000 in
theorem c_X0_addDevice (l : Launch) (D : va_G) (cI cZ : ClassId) (h : Nat) (a : Nat → Nat) (u : SX) (p1 p2 : Int32) (he : e_X0_addDevice u p1 p2 = 0) (nd : Nat) (hnd : u.1 10 = nI nd) (hd : nd ≤ 16) : zMi l yX0_addDevice wsX0_addDevice ({ frames := 1, cells := 0, slots := 0, locals := 22 } : Room) zTT D [(cI, .int), (cZ, .boolean)] (wX0 cI cZ h a u) [.ref h, .int p1, .int p2] (fun (r : Int32) (u2 : SX) => r = r_X0_addDevice u p1 p2 ∧ u2 = s_X0_addDevice u p1 p2) (fun u2 => (wX0 cI cZ h a u2)) 0 0 := by
  refine z_startI (cc := cX0_addDevice) (n := 4) (own := RX0) (L0 := [(0, .ref h), (1, .int p1), (2, .int p2)]) (plainFor_of_name (by decide)) rfl rfl (Nat.le_of_ble_eq_true rfl) rfl (fun E hret => ?_)
  have hixnd : ix (u.1 10) = nd := by rw [hnd]; exact nI_clamp (by omega)
  refine z_iload_n 1 dX0_addDevice_0 rfl ?_
  refine z_iconst (v := 0) dX0_addDevice_1 rfl ?_
  refine z_bipush (v := 7) dX0_addDevice_2 rfl ?_
  have e_4_0 : (e_X0_requireWithin p1 0 7) = 0 := Decidable.byContradiction (fun hq => by rw [e_X0_addDevice, if_neg hq] at he; exact hq he)
  refine z_callSv (As := [.int p1, .int 0, .int 7]) (st := []) (fun l => c_X0_requireWithin l D _ _ p1 0 7 (by assumption)) zGok_TT (fun _ _ _ => trivial) (fun s args hts => va_cwS 3 hts gX0_addDevice_X0_requireWithin rfl rfl rfl (by decide +kernel) ⟨Nat.le_of_ble_eq_true rfl, Nat.le_of_ble_eq_true rfl⟩) rfl (Nat.le_of_ble_eq_true rfl) ⟨Nat.le_of_ble_eq_true rfl, Nat.le_of_ble_eq_true rfl⟩ dX0_addDevice_4 rfl (fun u2 hp => ?_)
  clear hp
  refine z_iload_n 2 dX0_addDevice_7 rfl ?_
  refine z_sipush (v := (-720)) dX0_addDevice_8 rfl ?_
  refine z_sipush (v := 840) dX0_addDevice_11 rfl ?_
  have e_14_1 : (e_X0_requireWithin p2 (-720) 840) = 0 := Decidable.byContradiction (fun hq => by rw [e_X0_addDevice, if_pos e_4_0, if_neg hq] at he; exact hq he)
  refine z_callSv (As := [.int p2, .int (-720), .int 840]) (st := []) (fun l => c_X0_requireWithin l D _ _ p2 (-720) 840 (by assumption)) zGok_TT (fun _ _ _ => trivial) (fun s args hts => va_cwS 3 hts gX0_addDevice_X0_requireWithin rfl rfl rfl (by decide +kernel) ⟨Nat.le_of_ble_eq_true rfl, Nat.le_of_ble_eq_true rfl⟩) rfl (Nat.le_of_ble_eq_true rfl) ⟨Nat.le_of_ble_eq_true rfl, Nat.le_of_ble_eq_true rfl⟩ dX0_addDevice_14 rfl (fun u2 hp => ?_)
  clear hp
  refine z_aload_n 0 dX0_addDevice_17 rfl ?_
  refine z_get (C := RX0) (T := TX0) (N := 19) (v := .int (u.1 10)) inwX0_addDevice 0 rfl rfl 10 (by decide) (List.mem_of_getElem? (i := 3) rfl) rfl rfl dX0_addDevice_18 ?_
  refine z_bipush (v := 16) dX0_addDevice_21 rfl ?_
  refine z_icmp_lt 36 dX0_addDevice_23 (by decide) (fun c_23_2 => ?_) (fun c_23_2 => ?_)
  ·
    refine z_aload_n 0 dX0_addDevice_36 rfl ?_
    refine z_get (C := RX0) (T := TX0) (N := 19) (v := .int (u.1 10)) inwX0_addDevice 0 rfl rfl 10 (by decide) (List.mem_of_getElem? (i := 3) rfl) rfl rfl dX0_addDevice_37 ?_
    refine z_istore_n (L' := [(3, .int (u.1 10)), (0, .ref h), (1, .int p1), (2, .int p2)]) dX0_addDevice_40 (by decide) rfl ?_
    refine z_aload_n 1 dX0_addDevice_41 rfl ?_
    refine z_dup dX0_addDevice_42 rfl ?_
    refine z_get (C := RX0) (T := TX0) (N := 19) (v := .int (u.1 10)) inwX0_addDevice 0 rfl rfl 10 (by decide) (List.mem_of_getElem? (i := 3) rfl) rfl rfl dX0_addDevice_43 ?_
    refine z_iconst (v := 1) dX0_addDevice_46 rfl ?_
    refine z_iadd dX0_addDevice_47 ?_
    refine z_put (C := RX0) (T := TX0) (N := 19) (v := .int ((u.1 10) + 1)) (w' := (wX0 cI cZ h a (pF u 10 ((u.1 10) + 1)))) inwX0_addDevice 0 rfl rfl 10 (by decide) (List.mem_of_getElem? (i := 3) rfl) rfl tyX0 tyX0_ok nmX0 rfl rfl rfl (Nat.le_of_ble_eq_true rfl) (wX0_p10 _ _ _ _ _ _) dX0_addDevice_48 ?_
    refine z_aload_n 1 dX0_addDevice_51 rfl ?_
    refine z_get (C := RX0) (T := TX0) (N := 19) (v := .ref (a 5)) inwX0_addDevice 0 rfl rfl 5 (by decide) (List.mem_of_getElem? (i := 4) rfl) rfl rfl dX0_addDevice_52 ?_
    refine z_iload_n 0 dX0_addDevice_55 rfl ?_
    refine z_iload_n 3 dX0_addDevice_56 rfl ?_
    refine z_iast (w' := (wX0 cI cZ h a (pG (pF u 10 ((u.1 10) + 1)) 5 (ix (u.1 10)) p2))) 3 0 rfl rfl (by first | (with_reducible assumption) | with_reducible exact zdev hnd hd (by assumption) | with_reducible exact zroomD2 hnd hd (by assumption) | with_reducible exact zwithin (by assumption) (by decide) (by decide) | exact hnd | assumption | decide) (wX0_g5 _ _ _ _ _ _ _) dX0_addDevice_57 ?_
    refine z_aload_n 1 dX0_addDevice_58 rfl ?_
    refine z_get (C := RX0) (T := TX0) (N := 19) (v := .ref (a 0)) inwX0_addDevice 0 rfl rfl 0 (by decide) (List.mem_of_getElem? (i := 5) rfl) rfl rfl dX0_addDevice_59 ?_
    refine z_iload_n 2 dX0_addDevice_62 rfl ?_
    refine z_dup2 dX0_addDevice_63 rfl rfl ?_
    refine z_iald (v := (u.2 0 (ix p1))) 1 0 rfl rfl (by first | (with_reducible assumption) | with_reducible exact zdev hnd hd (by assumption) | with_reducible exact zroomD2 hnd hd (by assumption) | with_reducible exact zwithin (by assumption) (by decide) (by decide) | exact hnd | assumption | decide) rfl dX0_addDevice_64 ?_
    refine z_iload_n 0 dX0_addDevice_65 rfl ?_
    refine z_callSi (As := [.int (u.1 10)]) (st := [.int (u.2 0 (ix p1)), .int p1, .ref (a 0)]) (fun l => c_X0_bitOf l D _ _ (u.1 10)) zGok_TT (fun _ _ _ => trivial) (fun s args hts => va_cwS 1 hts gX0_addDevice_X0_bitOf rfl rfl rfl (by decide +kernel) ⟨Nat.le_of_ble_eq_true rfl, Nat.le_of_ble_eq_true rfl⟩) rfl (Nat.le_of_ble_eq_true rfl) ⟨Nat.le_of_ble_eq_true rfl, Nat.le_of_ble_eq_true rfl⟩ dX0_addDevice_66 rfl (fun r u2 hp => ?_)
    subst hp
    refine z_ior dX0_addDevice_69 ?_
    refine z_iast (w' := (wX0 cI cZ h a (pG (pG (pF u 10 ((u.1 10) + 1)) 5 (ix (u.1 10)) p2) 0 (ix p1) ((u.2 0 (ix p1)) ||| (r_X0_bitOf (u.1 10)))))) 1 0 rfl rfl (by first | (with_reducible assumption) | with_reducible exact zdev hnd hd (by assumption) | with_reducible exact zroomD2 hnd hd (by assumption) | with_reducible exact zwithin (by assumption) (by decide) (by decide) | exact hnd | assumption | decide) (wX0_g0 _ _ _ _ _ _ _) dX0_addDevice_70 ?_
    refine z_aload_n 1 dX0_addDevice_71 rfl ?_
    refine z_dup dX0_addDevice_72 rfl ?_
    refine z_get (C := RX0) (T := TX0) (N := 19) (v := .int (u.1 2)) inwX0_addDevice 0 rfl rfl 2 (by decide) (List.mem_of_getElem? (i := 6) rfl) rfl rfl dX0_addDevice_73 ?_
    refine z_iload_n 0 dX0_addDevice_76 rfl ?_
    refine z_callSi (As := [.int (u.1 10)]) (st := [.int (u.1 2), .ref h]) (fun l => c_X0_bitOf l D _ _ (u.1 10)) zGok_TT (fun _ _ _ => trivial) (fun s args hts => va_cwS 1 hts gX0_addDevice_X0_bitOf rfl rfl rfl (by decide +kernel) ⟨Nat.le_of_ble_eq_true rfl, Nat.le_of_ble_eq_true rfl⟩) rfl (Nat.le_of_ble_eq_true rfl) ⟨Nat.le_of_ble_eq_true rfl, Nat.le_of_ble_eq_true rfl⟩ dX0_addDevice_77 rfl (fun r u2 hp => ?_)
    subst hp
    refine z_ior dX0_addDevice_80 ?_
    refine z_put (C := RX0) (T := TX0) (N := 19) (v := .int ((u.1 2) ||| (r_X0_bitOf (u.1 10)))) (w' := (wX0 cI cZ h a (pF (pG (pG (pF u 10 ((u.1 10) + 1)) 5 (ix (u.1 10)) p2) 0 (ix p1) ((u.2 0 (ix p1)) ||| (r_X0_bitOf (u.1 10)))) 2 ((u.1 2) ||| (r_X0_bitOf (u.1 10)))))) inwX0_addDevice 0 rfl rfl 2 (by decide) (List.mem_of_getElem? (i := 6) rfl) rfl tyX0 tyX0_ok nmX0 rfl rfl rfl (Nat.le_of_ble_eq_true rfl) (wX0_p2 _ _ _ _ _ _) dX0_addDevice_81 ?_
    refine z_aload_n 1 dX0_addDevice_84 rfl ?_
    refine z_dup dX0_addDevice_85 rfl ?_
    refine z_get (C := RX0) (T := TX0) (N := 19) (v := .int (u.1 3)) inwX0_addDevice 0 rfl rfl 3 (by decide) (List.mem_of_getElem? (i := 7) rfl) rfl rfl dX0_addDevice_86 ?_
    refine z_iload_n 0 dX0_addDevice_89 rfl ?_
    refine z_callSi (As := [.int (u.1 10)]) (st := [.int (u.1 3), .ref h]) (fun l => c_X0_bitOf l D _ _ (u.1 10)) zGok_TT (fun _ _ _ => trivial) (fun s args hts => va_cwS 1 hts gX0_addDevice_X0_bitOf rfl rfl rfl (by decide +kernel) ⟨Nat.le_of_ble_eq_true rfl, Nat.le_of_ble_eq_true rfl⟩) rfl (Nat.le_of_ble_eq_true rfl) ⟨Nat.le_of_ble_eq_true rfl, Nat.le_of_ble_eq_true rfl⟩ dX0_addDevice_90 rfl (fun r u2 hp => ?_)
    subst hp
    refine z_ior dX0_addDevice_93 ?_
    refine z_put (C := RX0) (T := TX0) (N := 19) (v := .int ((u.1 3) ||| (r_X0_bitOf (u.1 10)))) (w' := (wX0 cI cZ h a (pF (pF (pG (pG (pF u 10 ((u.1 10) + 1)) 5 (ix (u.1 10)) p2) 0 (ix p1) ((u.2 0 (ix p1)) ||| (r_X0_bitOf (u.1 10)))) 2 ((u.1 2) ||| (r_X0_bitOf (u.1 10)))) 3 ((u.1 3) ||| (r_X0_bitOf (u.1 10)))))) inwX0_addDevice 0 rfl rfl 3 (by decide) (List.mem_of_getElem? (i := 7) rfl) rfl tyX0 tyX0_ok nmX0 rfl rfl rfl (Nat.le_of_ble_eq_true rfl) (wX0_p3 _ _ _ _ _ _) dX0_addDevice_94 ?_
    refine z_iload_n 0 dX0_addDevice_97 rfl ?_
    exact hret _ (pF (pF (pG (pG (pF u 10 ((u.1 10) + 1)) 5 (ix (u.1 10)) p2) 0 (ix p1) ((u.2 0 (ix p1)) ||| (r_X0_bitOf (u.1 10)))) 2 ((u.1 2) ||| (r_X0_bitOf (u.1 10)))) 3 ((u.1 3) ||| (r_X0_bitOf (u.1 10)))) _ _ _ dX0_addDevice_98 ⟨(by rw [r_X0_addDevice]), (by rw [s_X0_addDevice])⟩ rfl
  ·
    exact absurd he (by rw [e_X0_addDevice, if_pos e_4_0, if_pos e_14_1, if_neg c_23_2]; decide)
set_option maxHeartbeats 4000000 in
set_option maxRecDepth 100000 in
theorem t_X0_addDevice (l : Launch) (hlt : l.stackTraces = false) (D : va_G) (cI cZ : ClassId) (h : Nat) (a : Nat → Nat) (u : SX) (p1 p2 : Int32) (he : e_X0_addDevice u p1 p2 ≠ 0) (nd : Nat) (hnd : u.1 10 = nI nd) (hd : nd ≤ 16) : zMx l yX0_addDevice wsX0_addDevice ({ frames := 7, cells := 1, slots := 6, locals := 104 } : Room) D [(cI, .int), (cZ, .boolean)] (wX0 cI cZ h a u) [.ref h, .int p1, .int p2] (fun E' => E' = zEx (e_X0_addDevice u p1 p2)) := by
  refine z_startX (cc := cX0_addDevice) (n := 4) (own := RX0) (L0 := [(0, .ref h), (1, .int p1), (2, .int p2)]) hlt (by decide) rfl rfl (Nat.le_of_ble_eq_true rfl) rfl ⟨Nat.le_of_ble_eq_true rfl, Nat.le_of_ble_eq_true rfl⟩ (fun E hlt hthr hthrow => ?_)
  refine z_iload_n 1 dX0_addDevice_0 rfl ?_
  refine z_iconst (v := 0) dX0_addDevice_1 rfl ?_
  refine z_bipush (v := 7) dX0_addDevice_2 rfl ?_
  by_cases e_4_0 : (e_X0_requireWithin p1 0 7) = 0
  ·
    refine z_callSv (As := [.int p1, .int 0, .int 7]) (st := []) (fun l => c_X0_requireWithin l D _ _ p1 0 7 (by assumption)) zGok_TT (fun _ _ _ => trivial) (fun s args hts => va_cwS 3 hts gX0_addDevice_X0_requireWithin rfl rfl rfl (by decide +kernel) ⟨Nat.le_of_ble_eq_true rfl, Nat.le_of_ble_eq_true rfl⟩) rfl (Nat.le_of_ble_eq_true rfl) ⟨Nat.le_of_ble_eq_true rfl, Nat.le_of_ble_eq_true rfl⟩ dX0_addDevice_4 rfl (fun u2 hp => ?_)
    clear hp
    refine z_iload_n 2 dX0_addDevice_7 rfl ?_
    refine z_sipush (v := (-720)) dX0_addDevice_8 rfl ?_
    refine z_sipush (v := 840) dX0_addDevice_11 rfl ?_
    by_cases e_14_1 : (e_X0_requireWithin p2 (-720) 840) = 0
    ·
      refine z_callSv (As := [.int p2, .int (-720), .int 840]) (st := []) (fun l => c_X0_requireWithin l D _ _ p2 (-720) 840 (by assumption)) zGok_TT (fun _ _ _ => trivial) (fun s args hts => va_cwS 3 hts gX0_addDevice_X0_requireWithin rfl rfl rfl (by decide +kernel) ⟨Nat.le_of_ble_eq_true rfl, Nat.le_of_ble_eq_true rfl⟩) rfl (Nat.le_of_ble_eq_true rfl) ⟨Nat.le_of_ble_eq_true rfl, Nat.le_of_ble_eq_true rfl⟩ dX0_addDevice_14 rfl (fun u2 hp => ?_)
      clear hp
      refine z_aload_n 0 dX0_addDevice_17 rfl ?_
      refine z_get (C := RX0) (T := TX0) (N := 19) (v := .int (u.1 10)) inwX0_addDevice 0 rfl rfl 10 (by decide) (List.mem_of_getElem? (i := 3) rfl) rfl rfl dX0_addDevice_18 ?_
      refine z_bipush (v := 16) dX0_addDevice_21 rfl ?_
      refine z_icmp_lt 36 dX0_addDevice_23 (by decide) (fun c_23_2 => ?_) (fun c_23_2 => ?_)
      ·
        exact absurd (by rw [e_X0_addDevice, if_pos e_4_0, if_pos e_14_1, if_pos c_23_2]) he
      ·
        exact hthrow 26 _ "java/lang/IllegalStateException" "there are 16 devices" 73 75 77 (by decide) (by decide) (by decide +kernel) (List.mem_of_getElem? (i := 1) rfl) (List.mem_of_getElem? (i := 2) rfl) rfl (by decide) (fun w h => List.mem_cons_of_mem _ (by first | exact List.mem_append_right _ h | exact List.mem_append_left _ (List.mem_append_right _ h) | exact List.mem_append_left _ (List.mem_append_left _ (List.mem_append_right _ h)))) (by decide +kernel) (by decide +kernel) dX0_addDevice_26 dX0_addDevice_29 dX0_addDevice_30 dX0_addDevice_32 dX0_addDevice_35 (by show _ = zEx _; rw [e_X0_addDevice, if_pos e_4_0, if_pos e_14_1, if_neg c_23_2]; rfl)
    ·
      refine z_callSx (As := [.int p2, .int (-720), .int 840]) (st := []) hlt (fun l hl => t_X0_requireWithin l hl D _ _ p2 (-720) 840 (by assumption)) (fun s args hts => va_cwS 3 hts gX0_addDevice_X0_requireWithin rfl rfl rfl (by decide +kernel) ⟨Nat.le_of_ble_eq_true rfl, Nat.le_of_ble_eq_true rfl⟩) rfl (Nat.le_of_ble_eq_true rfl) ⟨Nat.le_of_ble_eq_true rfl, Nat.le_of_ble_eq_true rfl⟩ dX0_addDevice_14 rfl ?_
      exact hthr _ _ _ (fun E' hE => by rw [e_X0_addDevice, if_pos e_4_0, if_neg e_14_1]; exact hE)
  ·
    refine z_callSx (As := [.int p1, .int 0, .int 7]) (st := []) hlt (fun l hl => t_X0_requireWithin l hl D _ _ p1 0 7 (by assumption)) (fun s args hts => va_cwS 3 hts gX0_addDevice_X0_requireWithin rfl rfl rfl (by decide +kernel) ⟨Nat.le_of_ble_eq_true rfl, Nat.le_of_ble_eq_true rfl⟩) rfl (Nat.le_of_ble_eq_true rfl) ⟨Nat.le_of_ble_eq_true rfl, Nat.le_of_ble_eq_true rfl⟩ dX0_addDevice_4 rfl ?_
    exact hthr _ _ _ (fun E' hE => by rw [e_X0_addDevice, if_neg e_4_0]; exact hE)
