set_option maxHeartbeats 4000000 in
set_option maxRecDepth 100000 in
theorem c_X1_addDevice (l : Launch) (D : va_G) (cI cZ : ClassId) (h : Nat) (a : Nat → Nat) (u : SX) (p1 p2 : Int32) (nd : Nat) (hnd : u.1 2 = nI nd) (hd : nd ≤ 16) : zMi l yX1_addDevice wsX1_addDevice ({ frames := 1, cells := 0, slots := 0, locals := 22 } : Room) zTT D [(cI, .int), (cZ, .boolean)] (wX1 cI cZ h a u) [.ref h, .int p1, .int p2] (fun (r : Int32) (u2 : SX) => r = r_X1_addDevice u p1 p2 ∧ u2 = s_X1_addDevice u p1 p2) (fun u2 => (wX1 cI cZ h a u2)) 0 0 := by
  refine z_startI (cc := cX1_addDevice) (n := 4) (own := RX1) (L0 := [(0, .ref h), (1, .int p1), (2, .int p2)]) (plainFor_of_name (by decide)) rfl rfl (Nat.le_of_ble_eq_true rfl) rfl (fun E hret => ?_)
  have hixnd : ix (u.1 2) = nd := by rw [hnd]; exact nI_clamp (by omega)
  refine z_iload_n 1 dX1_addDevice_0 rfl ?_
  refine z_iconst (v := 0) dX1_addDevice_1 rfl ?_
  refine z_bipush (v := 7) dX1_addDevice_2 rfl ?_
  refine z_callSi (As := [.int p1, .int 0, .int 7]) (st := []) (fun l => c_X1_in l D _ _ p1 0 7) zGok_TT (fun _ _ _ => trivial) (fun s args hts => va_cwS 3 hts gX1_addDevice_X1_in rfl rfl rfl (by decide +kernel) ⟨Nat.le_of_ble_eq_true rfl, Nat.le_of_ble_eq_true rfl⟩) rfl (Nat.le_of_ble_eq_true rfl) ⟨Nat.le_of_ble_eq_true rfl, Nat.le_of_ble_eq_true rfl⟩ dX1_addDevice_4 rfl (fun r u2 hp => ?_)
  subst hp
  refine z_if_eq 27 dX1_addDevice_7 (by decide) (fun c_7_0 => ?_) (fun c_7_0 => ?_)
  ·
    refine z_iconst (v := 0) dX1_addDevice_27 rfl ?_
    refine z_istore_n (L' := [(3, .int 0), (0, .ref h), (1, .int p1), (2, .int p2)]) dX1_addDevice_28 (by decide) rfl ?_
    refine z_aload_n 1 dX1_addDevice_29 rfl ?_
    refine z_iload_n 0 dX1_addDevice_30 rfl ?_
    refine z_if_ne 38 dX1_addDevice_31 (by decide) (fun c_31_1 => absurd c_31_1 (by decide)) (fun _ => ?_)
    refine z_iconst (v := 1) dX1_addDevice_34 rfl ?_
    refine z_goto 52 dX1_addDevice_35 (by decide) ?_
    refine z_callVi (As := [.int 1]) (st := []) (fun l => c_X1_refused l D cI cZ h a u 1) zGok_TT (fun _ _ _ => trivial) (fun s args hts => cwV 1 hts gX1_addDevice_X1_refused rfl rfl rfl (by decide +kernel) ⟨Nat.le_of_ble_eq_true rfl, Nat.le_of_ble_eq_true rfl⟩) (ci := 1) rfl rfl rfl rfl (Nat.le_of_ble_eq_true rfl) ⟨Nat.le_of_ble_eq_true rfl, Nat.le_of_ble_eq_true rfl⟩ dX1_addDevice_52 rfl (fun r u2 hp => ?_)
    obtain ⟨hp1, hp2⟩ := hp; have hp4 : r = 1 := hp1.trans (by simp [r_X1_refused]); clear hp1; subst hp4; have hp3 : u2 = (pF u 0 1) := hp2; clear hp2; subst hp3
    refine z_if_eq 60 dX1_addDevice_55 (by decide) (fun c_55_2 => absurd c_55_2 (by decide)) (fun _ => ?_)
    refine z_iconst (v := 0) dX1_addDevice_58 rfl ?_
    exact hret _ (pF u 0 1) _ _ _ dX1_addDevice_59 ⟨(by rw [r_X1_addDevice, if_pos c_7_0]), (by rw [s_X1_addDevice, if_pos c_7_0])⟩ rfl
  ·
    refine z_iload_n 2 dX1_addDevice_10 rfl ?_
    refine z_sipush (v := (-720)) dX1_addDevice_11 rfl ?_
    refine z_sipush (v := 840) dX1_addDevice_14 rfl ?_
    refine z_callSi (As := [.int p2, .int (-720), .int 840]) (st := []) (fun l => c_X1_in l D _ _ p2 (-720) 840) zGok_TT (fun _ _ _ => trivial) (fun s args hts => va_cwS 3 hts gX1_addDevice_X1_in rfl rfl rfl (by decide +kernel) ⟨Nat.le_of_ble_eq_true rfl, Nat.le_of_ble_eq_true rfl⟩) rfl (Nat.le_of_ble_eq_true rfl) ⟨Nat.le_of_ble_eq_true rfl, Nat.le_of_ble_eq_true rfl⟩ dX1_addDevice_17 rfl (fun r u2 hp => ?_)
    subst hp
    refine z_if_eq 27 dX1_addDevice_20 (by decide) (fun c_20_3 => ?_) (fun c_20_3 => ?_)
    ·
      refine z_iconst (v := 0) dX1_addDevice_27 rfl ?_
      refine z_istore_n (L' := [(3, .int 0), (0, .ref h), (1, .int p1), (2, .int p2)]) dX1_addDevice_28 (by decide) rfl ?_
      refine z_aload_n 1 dX1_addDevice_29 rfl ?_
      refine z_iload_n 0 dX1_addDevice_30 rfl ?_
      refine z_if_ne 38 dX1_addDevice_31 (by decide) (fun c_31_4 => absurd c_31_4 (by decide)) (fun _ => ?_)
      refine z_iconst (v := 1) dX1_addDevice_34 rfl ?_
      refine z_goto 52 dX1_addDevice_35 (by decide) ?_
      refine z_callVi (As := [.int 1]) (st := []) (fun l => c_X1_refused l D cI cZ h a u 1) zGok_TT (fun _ _ _ => trivial) (fun s args hts => cwV 1 hts gX1_addDevice_X1_refused rfl rfl rfl (by decide +kernel) ⟨Nat.le_of_ble_eq_true rfl, Nat.le_of_ble_eq_true rfl⟩) (ci := 1) rfl rfl rfl rfl (Nat.le_of_ble_eq_true rfl) ⟨Nat.le_of_ble_eq_true rfl, Nat.le_of_ble_eq_true rfl⟩ dX1_addDevice_52 rfl (fun r u2 hp => ?_)
      obtain ⟨hp1, hp2⟩ := hp; have hp4 : r = 1 := hp1.trans (by simp [r_X1_refused]); clear hp1; subst hp4; have hp3 : u2 = (pF u 0 1) := hp2; clear hp2; subst hp3
      refine z_if_eq 60 dX1_addDevice_55 (by decide) (fun c_55_5 => absurd c_55_5 (by decide)) (fun _ => ?_)
      refine z_iconst (v := 0) dX1_addDevice_58 rfl ?_
      exact hret _ (pF u 0 1) _ _ _ dX1_addDevice_59 ⟨(by rw [r_X1_addDevice, if_neg c_7_0, if_pos c_20_3]), (by rw [s_X1_addDevice, if_neg c_7_0, if_pos c_20_3])⟩ rfl
    ·
      refine z_iconst (v := 1) dX1_addDevice_23 rfl ?_
      refine z_goto 28 dX1_addDevice_24 (by decide) ?_
      refine z_istore_n (L' := [(3, .int 1), (0, .ref h), (1, .int p1), (2, .int p2)]) dX1_addDevice_28 (by decide) rfl ?_
      refine z_aload_n 1 dX1_addDevice_29 rfl ?_
      refine z_iload_n 0 dX1_addDevice_30 rfl ?_
      refine z_if_ne 38 dX1_addDevice_31 (by decide) (fun _ => ?_) (fun c_31_6 => absurd c_31_6 (by decide))
      refine z_aload_n 1 dX1_addDevice_38 rfl ?_
      refine z_get (C := RX1) (T := TX1) (N := 22) (v := .int (u.1 2)) inwX1_addDevice 0 rfl rfl 2 (by decide) (List.mem_of_getElem? (i := 1) rfl) rfl rfl dX1_addDevice_39 ?_
      refine z_bipush (v := 16) dX1_addDevice_42 rfl ?_
      refine z_icmp_ne 51 dX1_addDevice_44 (by decide) (fun c_44_7 => ?_) (fun c_44_7 => ?_)
      ·
        refine z_iconst (v := 0) dX1_addDevice_51 rfl ?_
        refine z_callVi (As := [.int 0]) (st := []) (fun l => c_X1_refused l D cI cZ h a u 0) zGok_TT (fun _ _ _ => trivial) (fun s args hts => cwV 1 hts gX1_addDevice_X1_refused rfl rfl rfl (by decide +kernel) ⟨Nat.le_of_ble_eq_true rfl, Nat.le_of_ble_eq_true rfl⟩) (ci := 1) rfl rfl rfl rfl (Nat.le_of_ble_eq_true rfl) ⟨Nat.le_of_ble_eq_true rfl, Nat.le_of_ble_eq_true rfl⟩ dX1_addDevice_52 rfl (fun r u2 hp => ?_)
        obtain ⟨hp1, hp2⟩ := hp; have hp4 : r = 0 := hp1.trans (by simp [r_X1_refused]); clear hp1; subst hp4; have hp3 : u2 = (pF u 0 0) := hp2; clear hp2; subst hp3
        refine z_if_eq 60 dX1_addDevice_55 (by decide) (fun _ => ?_) (fun c_55_8 => absurd c_55_8 (by decide))
        refine z_aload_n 1 dX1_addDevice_60 rfl ?_
        refine z_get (C := RX1) (T := TX1) (N := 22) (v := .ref (a 3)) inwX1_addDevice 0 rfl rfl 3 (by decide) (List.mem_of_getElem? (i := 2) rfl) rfl rfl dX1_addDevice_61 ?_
        refine z_aload_n 1 dX1_addDevice_64 rfl ?_
        refine z_get (C := RX1) (T := TX1) (N := 22) (v := .int (u.1 2)) inwX1_addDevice 0 rfl rfl 2 (by decide) (List.mem_of_getElem? (i := 1) rfl) rfl rfl dX1_addDevice_65 ?_
        refine z_iload_n 2 dX1_addDevice_68 rfl ?_
        refine z_iast (w' := (wX1 cI cZ h a (pG (pF u 0 0) 3 (ix (u.1 2)) p1))) 1 0 rfl rfl (by first | (with_reducible assumption) | with_reducible exact zmdev hnd hd (by assumption) | with_reducible exact zroomE hnd hd (by assumption) | exact hnd | assumption | decide) (wX1_g3 _ _ _ _ _ _ _) dX1_addDevice_69 ?_
        refine z_aload_n 1 dX1_addDevice_70 rfl ?_
        refine z_get (C := RX1) (T := TX1) (N := 22) (v := .ref (a 4)) inwX1_addDevice 0 rfl rfl 4 (by decide) (List.mem_of_getElem? (i := 3) rfl) rfl rfl dX1_addDevice_71 ?_
        refine z_aload_n 1 dX1_addDevice_74 rfl ?_
        refine z_get (C := RX1) (T := TX1) (N := 22) (v := .int (u.1 2)) inwX1_addDevice 0 rfl rfl 2 (by decide) (List.mem_of_getElem? (i := 1) rfl) rfl rfl dX1_addDevice_75 ?_
        refine z_iload_n 3 dX1_addDevice_78 rfl ?_
        refine z_iast (w' := (wX1 cI cZ h a (pG (pG (pF u 0 0) 3 (ix (u.1 2)) p1) 4 (ix (u.1 2)) p2))) 2 0 rfl rfl (by first | (with_reducible assumption) | with_reducible exact zmdev hnd hd (by assumption) | with_reducible exact zroomE hnd hd (by assumption) | exact hnd | assumption | decide) (wX1_g4 _ _ _ _ _ _ _) dX1_addDevice_79 ?_
        refine z_aload_n 1 dX1_addDevice_80 rfl ?_
        refine z_get (C := RX1) (T := TX1) (N := 22) (v := .ref (a 5)) inwX1_addDevice 0 rfl rfl 5 (by decide) (List.mem_of_getElem? (i := 4) rfl) rfl rfl dX1_addDevice_81 ?_
        refine z_aload_n 1 dX1_addDevice_84 rfl ?_
        refine z_get (C := RX1) (T := TX1) (N := 22) (v := .int (u.1 2)) inwX1_addDevice 0 rfl rfl 2 (by decide) (List.mem_of_getElem? (i := 1) rfl) rfl rfl dX1_addDevice_85 ?_
        refine z_iconst (v := 1) dX1_addDevice_88 rfl ?_
        refine z_zast (w' := (wX1 cI cZ h a (pG (pG (pG (pF u 0 0) 3 (ix (u.1 2)) p1) 4 (ix (u.1 2)) p2) 5 (ix (u.1 2)) (vp_nar .boolean 1)))) 3 1 rfl rfl (by first | (with_reducible assumption) | with_reducible exact zmdev hnd hd (by assumption) | with_reducible exact zroomE hnd hd (by assumption) | exact hnd | assumption | decide) (wX1_g5 _ _ _ _ _ _ _) dX1_addDevice_89 ?_
        refine z_aload_n 1 dX1_addDevice_90 rfl ?_
        refine z_dup dX1_addDevice_91 rfl ?_
        refine z_get (C := RX1) (T := TX1) (N := 22) (v := .int (u.1 2)) inwX1_addDevice 0 rfl rfl 2 (by decide) (List.mem_of_getElem? (i := 1) rfl) rfl rfl dX1_addDevice_92 ?_
        refine z_iconst (v := 1) dX1_addDevice_95 rfl ?_
        refine z_iadd dX1_addDevice_96 ?_
        refine z_put (C := RX1) (T := TX1) (N := 22) (v := .int ((u.1 2) + 1)) (w' := (wX1 cI cZ h a (pF (pG (pG (pG (pF u 0 0) 3 (ix (u.1 2)) p1) 4 (ix (u.1 2)) p2) 5 (ix (u.1 2)) (vp_nar .boolean 1)) 2 ((u.1 2) + 1)))) inwX1_addDevice 0 rfl rfl 2 (by decide) (List.mem_of_getElem? (i := 1) rfl) rfl tyX1 tyX1_ok nmX1 rfl rfl rfl (Nat.le_of_ble_eq_true rfl) (wX1_p2 _ _ _ _ _ _) dX1_addDevice_97 ?_
        refine z_aload_n 1 dX1_addDevice_100 rfl ?_
        refine z_get (C := RX1) (T := TX1) (N := 22) (v := .int ((u.1 2) + 1)) inwX1_addDevice 0 rfl rfl 2 (by decide) (List.mem_of_getElem? (i := 1) rfl) rfl rfl dX1_addDevice_101 ?_
        refine z_iconst (v := 1) dX1_addDevice_104 rfl ?_
        refine z_isub dX1_addDevice_105 ?_
        exact hret _ (pF (pG (pG (pG (pF u 0 0) 3 (ix (u.1 2)) p1) 4 (ix (u.1 2)) p2) 5 (ix (u.1 2)) (vp_nar .boolean 1)) 2 ((u.1 2) + 1)) _ _ _ dX1_addDevice_106 ⟨(by rw [r_X1_addDevice, if_neg c_7_0, if_neg c_20_3, if_neg c_44_7]), (by rw [s_X1_addDevice, if_neg c_7_0, if_neg c_20_3, if_neg c_44_7])⟩ rfl
      ·
        refine z_iconst (v := 2) dX1_addDevice_47 rfl ?_
        refine z_goto 52 dX1_addDevice_48 (by decide) ?_
        refine z_callVi (As := [.int 2]) (st := []) (fun l => c_X1_refused l D cI cZ h a u 2) zGok_TT (fun _ _ _ => trivial) (fun s args hts => cwV 1 hts gX1_addDevice_X1_refused rfl rfl rfl (by decide +kernel) ⟨Nat.le_of_ble_eq_true rfl, Nat.le_of_ble_eq_true rfl⟩) (ci := 1) rfl rfl rfl rfl (Nat.le_of_ble_eq_true rfl) ⟨Nat.le_of_ble_eq_true rfl, Nat.le_of_ble_eq_true rfl⟩ dX1_addDevice_52 rfl (fun r u2 hp => ?_)
        obtain ⟨hp1, hp2⟩ := hp; have hp4 : r = 1 := hp1.trans (by simp [r_X1_refused]); clear hp1; subst hp4; have hp3 : u2 = (pF u 0 2) := hp2; clear hp2; subst hp3
        refine z_if_eq 60 dX1_addDevice_55 (by decide) (fun c_55_9 => absurd c_55_9 (by decide)) (fun _ => ?_)
        refine z_iconst (v := 0) dX1_addDevice_58 rfl ?_
        exact hret _ (pF u 0 2) _ _ _ dX1_addDevice_59 ⟨(by rw [r_X1_addDevice, if_neg c_7_0, if_neg c_20_3, if_pos c_44_7]), (by rw [s_X1_addDevice, if_neg c_7_0, if_neg c_20_3, if_pos c_44_7])⟩ rfl
set_option maxHeartbeats 4000000 in
set_option maxRecDepth 100000 in
theorem c_X1_setOnline (l : Launch) (D : va_G) (cI cZ : ClassId) (h : Nat) (a : Nat → Nat) (u : SX) (p1 p2 : Int32) (nd : Nat) (hnd : u.1 2 = nI nd) (hd : nd ≤ 16) (nn : Nat) (hnn : u.1 13 = nI nn) (hn : nn ≤ 120) : zMi l yX1_setOnline wsX1_setOnline ({ frames := 3, cells := 0, slots := 0, locals := 69 } : Room) zTT D [(cI, .int), (cZ, .boolean)] (wX1 cI cZ h a u) [.ref h, .int p1, .int p2] (fun (r : Int32) (u2 : SX) => r = r_X1_setOnline u p1 p2 ∧ u2 = s_X1_setOnline u p1 p2) (fun u2 => (wX1 cI cZ h a u2)) 0 0 := by
  refine z_startI (cc := cX1_setOnline) (n := 3) (own := RX1) (L0 := [(0, .ref h), (1, .int p1), (2, .int p2)]) (plainFor_of_name (by decide)) rfl rfl (Nat.le_of_ble_eq_true rfl) rfl (fun E hret => ?_)
  have hixnn : ix (u.1 13) = nn := by rw [hnn]; exact nI_clamp (by omega)
  have hixnd : ix (u.1 2) = nd := by rw [hnd]; exact nI_clamp (by omega)
  refine z_aload_n 0 dX1_setOnline_0 rfl ?_
  refine z_aload_n 0 dX1_setOnline_1 rfl ?_
  refine z_iload_n 1 dX1_setOnline_2 rfl ?_
  refine z_callVi (As := [.int p1]) (st := [.ref h]) (fun l => c_X1_isDevice l D cI cZ h a u p1) zGok_TT (fun _ _ _ => trivial) (fun s args hts => cwV 1 hts gX1_setOnline_X1_isDevice rfl rfl rfl (by decide +kernel) ⟨Nat.le_of_ble_eq_true rfl, Nat.le_of_ble_eq_true rfl⟩) (ci := 1) rfl rfl rfl rfl (Nat.le_of_ble_eq_true rfl) ⟨Nat.le_of_ble_eq_true rfl, Nat.le_of_ble_eq_true rfl⟩ dX1_setOnline_3 rfl (fun r u2 hp => ?_)
  subst hp
  refine z_if_eq 13 dX1_setOnline_6 (by decide) (fun c_6_0 => ?_) (fun c_6_0 => ?_)
  ·
    refine z_iconst (v := 1) dX1_setOnline_13 rfl ?_
    refine z_callVi (As := [.int 1]) (st := []) (fun l => c_X1_refused l D cI cZ h a u 1) zGok_TT (fun _ _ _ => trivial) (fun s args hts => cwV 1 hts gX1_setOnline_X1_refused rfl rfl rfl (by decide +kernel) ⟨Nat.le_of_ble_eq_true rfl, Nat.le_of_ble_eq_true rfl⟩) (ci := 1) rfl rfl rfl rfl (Nat.le_of_ble_eq_true rfl) ⟨Nat.le_of_ble_eq_true rfl, Nat.le_of_ble_eq_true rfl⟩ dX1_setOnline_14 rfl (fun r u2 hp => ?_)
    obtain ⟨hp1, hp2⟩ := hp; have hp4 : r = 1 := hp1.trans (by simp [r_X1_refused]); clear hp1; subst hp4; have hp3 : u2 = (pF u 0 1) := hp2; clear hp2; subst hp3
    refine z_if_eq 22 dX1_setOnline_17 (by decide) (fun c_17_1 => absurd c_17_1 (by decide)) (fun _ => ?_)
    refine z_iconst (v := 0) dX1_setOnline_20 rfl ?_
    exact hret _ (pF u 0 1) _ _ _ dX1_setOnline_21 ⟨(by rw [r_X1_setOnline, if_pos c_6_0]), (by rw [s_X1_setOnline, if_pos c_6_0])⟩ rfl
  ·
    refine z_iconst (v := 0) dX1_setOnline_9 rfl ?_
    refine z_goto 14 dX1_setOnline_10 (by decide) ?_
    refine z_callVi (As := [.int 0]) (st := []) (fun l => c_X1_refused l D cI cZ h a u 0) zGok_TT (fun _ _ _ => trivial) (fun s args hts => cwV 1 hts gX1_setOnline_X1_refused rfl rfl rfl (by decide +kernel) ⟨Nat.le_of_ble_eq_true rfl, Nat.le_of_ble_eq_true rfl⟩) (ci := 1) rfl rfl rfl rfl (Nat.le_of_ble_eq_true rfl) ⟨Nat.le_of_ble_eq_true rfl, Nat.le_of_ble_eq_true rfl⟩ dX1_setOnline_14 rfl (fun r u2 hp => ?_)
    obtain ⟨hp1, hp2⟩ := hp; have hp4 : r = 0 := hp1.trans (by simp [r_X1_refused]); clear hp1; subst hp4; have hp3 : u2 = (pF u 0 0) := hp2; clear hp2; subst hp3
    refine z_if_eq 22 dX1_setOnline_17 (by decide) (fun _ => ?_) (fun c_17_2 => absurd c_17_2 (by decide))
    refine z_aload_n 0 dX1_setOnline_22 rfl ?_
    refine z_get (C := RX1) (T := TX1) (N := 22) (v := .ref (a 5)) inwX1_setOnline 0 rfl rfl 5 (by decide) (List.mem_of_getElem? (i := 1) rfl) rfl rfl dX1_setOnline_23 ?_
    refine z_iload_n 1 dX1_setOnline_26 rfl ?_
    refine z_iload_n 2 dX1_setOnline_27 rfl ?_
    refine z_zast (w' := (wX1 cI cZ h a (pG (pF u 0 0) 5 (ix p1) (vp_nar .boolean p2)))) 3 1 rfl rfl (by first | (with_reducible assumption) | with_reducible exact zmdev hnd hd (by assumption) | with_reducible exact zmnot hnn hn (by assumption) | exact hnd | exact hnn | assumption | decide) (wX1_g5 _ _ _ _ _ _ _) dX1_setOnline_28 ?_
    refine z_aload_n 0 dX1_setOnline_29 rfl ?_
    refine z_callVi (As := []) (st := []) (fun l => c_X1_look l D cI cZ h a (pG (pF u 0 0) 5 (ix p1) (vp_nar .boolean p2))  nd (by first | (with_reducible assumption) | with_reducible exact zmdev hnd hd (by assumption) | with_reducible exact zmnot hnn hn (by assumption) | exact hnd | exact hnn | assumption | decide) (by first | (with_reducible assumption) | with_reducible exact zmdev hnd hd (by assumption) | with_reducible exact zmnot hnn hn (by assumption) | exact hnd | exact hnn | assumption | decide) nn (by first | (with_reducible assumption) | with_reducible exact zmdev hnd hd (by assumption) | with_reducible exact zmnot hnn hn (by assumption) | exact hnd | exact hnn | assumption | decide) (by first | (with_reducible assumption) | with_reducible exact zmdev hnd hd (by assumption) | with_reducible exact zmnot hnn hn (by assumption) | exact hnd | exact hnn | assumption | decide)) zGok_TT (fun _ _ _ => trivial) (fun s args hts => cwV 0 hts gX1_setOnline_X1_look rfl rfl rfl (by decide +kernel) ⟨Nat.le_of_ble_eq_true rfl, Nat.le_of_ble_eq_true rfl⟩) (ci := 1) rfl rfl rfl rfl (Nat.le_of_ble_eq_true rfl) ⟨Nat.le_of_ble_eq_true rfl, Nat.le_of_ble_eq_true rfl⟩ dX1_setOnline_30 rfl (fun r u2 hp => ?_)
    obtain ⟨rfl, rfl⟩ := hp
    exact hret _ (s_X1_look (pG (pF u 0 0) 5 (ix p1) (vp_nar .boolean p2)) ) _ _ _ dX1_setOnline_33 ⟨(by rw [r_X1_setOnline, if_neg c_6_0]), (by rw [s_X1_setOnline, if_neg c_6_0])⟩ rfl
set_option maxHeartbeats 4000000 in
set_option maxRecDepth 100000 in
theorem c_X1_setDozing (l : Launch) (D : va_G) (cI cZ : ClassId) (h : Nat) (a : Nat → Nat) (u : SX) (p1 p2 : Int32) (nd : Nat) (hnd : u.1 2 = nI nd) (hd : nd ≤ 16) (nn : Nat) (hnn : u.1 13 = nI nn) (hn : nn ≤ 120) : zMi l yX1_setDozing wsX1_setDozing ({ frames := 3, cells := 0, slots := 0, locals := 69 } : Room) zTT D [(cI, .int), (cZ, .boolean)] (wX1 cI cZ h a u) [.ref h, .int p1, .int p2] (fun (r : Int32) (u2 : SX) => r = r_X1_setDozing u p1 p2 ∧ u2 = s_X1_setDozing u p1 p2) (fun u2 => (wX1 cI cZ h a u2)) 0 0 := by
  refine z_startI (cc := cX1_setDozing) (n := 3) (own := RX1) (L0 := [(0, .ref h), (1, .int p1), (2, .int p2)]) (plainFor_of_name (by decide)) rfl rfl (Nat.le_of_ble_eq_true rfl) rfl (fun E hret => ?_)
  have hixnn : ix (u.1 13) = nn := by rw [hnn]; exact nI_clamp (by omega)
  have hixnd : ix (u.1 2) = nd := by rw [hnd]; exact nI_clamp (by omega)
  refine z_aload_n 0 dX1_setDozing_0 rfl ?_
  refine z_aload_n 0 dX1_setDozing_1 rfl ?_
  refine z_iload_n 1 dX1_setDozing_2 rfl ?_
  refine z_callVi (As := [.int p1]) (st := [.ref h]) (fun l => c_X1_isDevice l D cI cZ h a u p1) zGok_TT (fun _ _ _ => trivial) (fun s args hts => cwV 1 hts gX1_setDozing_X1_isDevice rfl rfl rfl (by decide +kernel) ⟨Nat.le_of_ble_eq_true rfl, Nat.le_of_ble_eq_true rfl⟩) (ci := 1) rfl rfl rfl rfl (Nat.le_of_ble_eq_true rfl) ⟨Nat.le_of_ble_eq_true rfl, Nat.le_of_ble_eq_true rfl⟩ dX1_setDozing_3 rfl (fun r u2 hp => ?_)
  subst hp
  refine z_if_eq 13 dX1_setDozing_6 (by decide) (fun c_6_0 => ?_) (fun c_6_0 => ?_)
  ·
    refine z_iconst (v := 1) dX1_setDozing_13 rfl ?_
    refine z_callVi (As := [.int 1]) (st := []) (fun l => c_X1_refused l D cI cZ h a u 1) zGok_TT (fun _ _ _ => trivial) (fun s args hts => cwV 1 hts gX1_setDozing_X1_refused rfl rfl rfl (by decide +kernel) ⟨Nat.le_of_ble_eq_true rfl, Nat.le_of_ble_eq_true rfl⟩) (ci := 1) rfl rfl rfl rfl (Nat.le_of_ble_eq_true rfl) ⟨Nat.le_of_ble_eq_true rfl, Nat.le_of_ble_eq_true rfl⟩ dX1_setDozing_14 rfl (fun r u2 hp => ?_)
    obtain ⟨hp1, hp2⟩ := hp; have hp4 : r = 1 := hp1.trans (by simp [r_X1_refused]); clear hp1; subst hp4; have hp3 : u2 = (pF u 0 1) := hp2; clear hp2; subst hp3
    refine z_if_eq 22 dX1_setDozing_17 (by decide) (fun c_17_1 => absurd c_17_1 (by decide)) (fun _ => ?_)
    refine z_iconst (v := 0) dX1_setDozing_20 rfl ?_
    exact hret _ (pF u 0 1) _ _ _ dX1_setDozing_21 ⟨(by rw [r_X1_setDozing, if_pos c_6_0]), (by rw [s_X1_setDozing, if_pos c_6_0])⟩ rfl
  ·
    refine z_iconst (v := 0) dX1_setDozing_9 rfl ?_
    refine z_goto 14 dX1_setDozing_10 (by decide) ?_
    refine z_callVi (As := [.int 0]) (st := []) (fun l => c_X1_refused l D cI cZ h a u 0) zGok_TT (fun _ _ _ => trivial) (fun s args hts => cwV 1 hts gX1_setDozing_X1_refused rfl rfl rfl (by decide +kernel) ⟨Nat.le_of_ble_eq_true rfl, Nat.le_of_ble_eq_true rfl⟩) (ci := 1) rfl rfl rfl rfl (Nat.le_of_ble_eq_true rfl) ⟨Nat.le_of_ble_eq_true rfl, Nat.le_of_ble_eq_true rfl⟩ dX1_setDozing_14 rfl (fun r u2 hp => ?_)
    obtain ⟨hp1, hp2⟩ := hp; have hp4 : r = 0 := hp1.trans (by simp [r_X1_refused]); clear hp1; subst hp4; have hp3 : u2 = (pF u 0 0) := hp2; clear hp2; subst hp3
    refine z_if_eq 22 dX1_setDozing_17 (by decide) (fun _ => ?_) (fun c_17_2 => absurd c_17_2 (by decide))
    refine z_aload_n 0 dX1_setDozing_22 rfl ?_
    refine z_get (C := RX1) (T := TX1) (N := 22) (v := .ref (a 6)) inwX1_setDozing 0 rfl rfl 6 (by decide) (List.mem_of_getElem? (i := 1) rfl) rfl rfl dX1_setDozing_23 ?_
    refine z_iload_n 1 dX1_setDozing_26 rfl ?_
    refine z_iload_n 2 dX1_setDozing_27 rfl ?_
    refine z_zast (w' := (wX1 cI cZ h a (pG (pF u 0 0) 6 (ix p1) (vp_nar .boolean p2)))) 4 1 rfl rfl (by first | (with_reducible assumption) | with_reducible exact zmdev hnd hd (by assumption) | with_reducible exact zmnot hnn hn (by assumption) | exact hnd | exact hnn | assumption | decide) (wX1_g6 _ _ _ _ _ _ _) dX1_setDozing_28 ?_
    refine z_aload_n 0 dX1_setDozing_29 rfl ?_
    refine z_callVi (As := []) (st := []) (fun l => c_X1_look l D cI cZ h a (pG (pF u 0 0) 6 (ix p1) (vp_nar .boolean p2))  nd (by first | (with_reducible assumption) | with_reducible exact zmdev hnd hd (by assumption) | with_reducible exact zmnot hnn hn (by assumption) | exact hnd | exact hnn | assumption | decide) (by first | (with_reducible assumption) | with_reducible exact zmdev hnd hd (by assumption) | with_reducible exact zmnot hnn hn (by assumption) | exact hnd | exact hnn | assumption | decide) nn (by first | (with_reducible assumption) | with_reducible exact zmdev hnd hd (by assumption) | with_reducible exact zmnot hnn hn (by assumption) | exact hnd | exact hnn | assumption | decide) (by first | (with_reducible assumption) | with_reducible exact zmdev hnd hd (by assumption) | with_reducible exact zmnot hnn hn (by assumption) | exact hnd | exact hnn | assumption | decide)) zGok_TT (fun _ _ _ => trivial) (fun s args hts => cwV 0 hts gX1_setDozing_X1_look rfl rfl rfl (by decide +kernel) ⟨Nat.le_of_ble_eq_true rfl, Nat.le_of_ble_eq_true rfl⟩) (ci := 1) rfl rfl rfl rfl (Nat.le_of_ble_eq_true rfl) ⟨Nat.le_of_ble_eq_true rfl, Nat.le_of_ble_eq_true rfl⟩ dX1_setDozing_30 rfl (fun r u2 hp => ?_)
    obtain ⟨rfl, rfl⟩ := hp
    exact hret _ (s_X1_look (pG (pF u 0 0) 6 (ix p1) (vp_nar .boolean p2)) ) _ _ _ dX1_setDozing_33 ⟨(by rw [r_X1_setDozing, if_neg c_6_0]), (by rw [s_X1_setDozing, if_neg c_6_0])⟩ rfl
set_option maxHeartbeats 4000000 in
set_option maxRecDepth 100000 in
theorem c_X1_setQuiet (l : Launch) (D : va_G) (cI cZ : ClassId) (h : Nat) (a : Nat → Nat) (u : SX) (p1 p2 p3 : Int32) (nd : Nat) (hnd : u.1 2 = nI nd) (hd : nd ≤ 16) (nn : Nat) (hnn : u.1 13 = nI nn) (hn : nn ≤ 120) : zMi l yX1_setQuiet wsX1_setQuiet ({ frames := 3, cells := 0, slots := 0, locals := 69 } : Room) zTT D [(cI, .int), (cZ, .boolean)] (wX1 cI cZ h a u) [.ref h, .int p1, .int p2, .int p3] (fun (r : Int32) (u2 : SX) => r = r_X1_setQuiet u p1 p2 p3 ∧ u2 = s_X1_setQuiet u p1 p2 p3) (fun u2 => (wX1 cI cZ h a u2)) 0 0 := by
  refine z_startI (cc := cX1_setQuiet) (n := 4) (own := RX1) (L0 := [(0, .ref h), (1, .int p1), (2, .int p2), (3, .int p3)]) (plainFor_of_name (by decide)) rfl rfl (Nat.le_of_ble_eq_true rfl) rfl (fun E hret => ?_)
  have hixnn : ix (u.1 13) = nn := by rw [hnn]; exact nI_clamp (by omega)
  have hixnd : ix (u.1 2) = nd := by rw [hnd]; exact nI_clamp (by omega)
  refine z_aload_n 0 dX1_setQuiet_0 rfl ?_
  refine z_aload_n 0 dX1_setQuiet_1 rfl ?_
  refine z_iload_n 1 dX1_setQuiet_2 rfl ?_
  refine z_callVi (As := [.int p1]) (st := [.ref h]) (fun l => c_X1_isDevice l D cI cZ h a u p1) zGok_TT (fun _ _ _ => trivial) (fun s args hts => cwV 1 hts gX1_setQuiet_X1_isDevice rfl rfl rfl (by decide +kernel) ⟨Nat.le_of_ble_eq_true rfl, Nat.le_of_ble_eq_true rfl⟩) (ci := 1) rfl rfl rfl rfl (Nat.le_of_ble_eq_true rfl) ⟨Nat.le_of_ble_eq_true rfl, Nat.le_of_ble_eq_true rfl⟩ dX1_setQuiet_3 rfl (fun r u2 hp => ?_)
  subst hp
  refine z_if_ne 13 dX1_setQuiet_6 (by decide) (fun c_6_0 => ?_) (fun c_6_0 => ?_)
  ·
    refine z_iload_n 2 dX1_setQuiet_13 rfl ?_
    refine z_iconst (v := 0) dX1_setQuiet_14 rfl ?_
    refine z_sipush (v := 1439) dX1_setQuiet_15 rfl ?_
    refine z_callSi (As := [.int p2, .int 0, .int 1439]) (st := [.ref h]) (fun l => c_X1_in l D _ _ p2 0 1439) zGok_TT (fun _ _ _ => trivial) (fun s args hts => va_cwS 3 hts gX1_setQuiet_X1_in rfl rfl rfl (by decide +kernel) ⟨Nat.le_of_ble_eq_true rfl, Nat.le_of_ble_eq_true rfl⟩) rfl (Nat.le_of_ble_eq_true rfl) ⟨Nat.le_of_ble_eq_true rfl, Nat.le_of_ble_eq_true rfl⟩ dX1_setQuiet_18 rfl (fun r u2 hp => ?_)
    subst hp
    refine z_if_eq 39 dX1_setQuiet_21 (by decide) (fun c_21_1 => ?_) (fun c_21_1 => ?_)
    ·
      refine z_iconst (v := 2) dX1_setQuiet_39 rfl ?_
      refine z_callVi (As := [.int 2]) (st := []) (fun l => c_X1_refused l D cI cZ h a u 2) zGok_TT (fun _ _ _ => trivial) (fun s args hts => cwV 1 hts gX1_setQuiet_X1_refused rfl rfl rfl (by decide +kernel) ⟨Nat.le_of_ble_eq_true rfl, Nat.le_of_ble_eq_true rfl⟩) (ci := 1) rfl rfl rfl rfl (Nat.le_of_ble_eq_true rfl) ⟨Nat.le_of_ble_eq_true rfl, Nat.le_of_ble_eq_true rfl⟩ dX1_setQuiet_40 rfl (fun r u2 hp => ?_)
      obtain ⟨hp1, hp2⟩ := hp; have hp4 : r = 1 := hp1.trans (by simp [r_X1_refused]); clear hp1; subst hp4; have hp3 : u2 = (pF u 0 2) := hp2; clear hp2; subst hp3
      refine z_if_eq 48 dX1_setQuiet_43 (by decide) (fun c_43_2 => absurd c_43_2 (by decide)) (fun _ => ?_)
      refine z_iconst (v := 0) dX1_setQuiet_46 rfl ?_
      exact hret _ (pF u 0 2) _ _ _ dX1_setQuiet_47 ⟨(by rw [r_X1_setQuiet, if_neg c_6_0, if_pos c_21_1]), (by rw [s_X1_setQuiet, if_neg c_6_0, if_pos c_21_1])⟩ rfl
    ·
      refine z_iload_n 3 dX1_setQuiet_24 rfl ?_
      refine z_iconst (v := 0) dX1_setQuiet_25 rfl ?_
      refine z_sipush (v := 1439) dX1_setQuiet_26 rfl ?_
      refine z_callSi (As := [.int p3, .int 0, .int 1439]) (st := [.ref h]) (fun l => c_X1_in l D _ _ p3 0 1439) zGok_TT (fun _ _ _ => trivial) (fun s args hts => va_cwS 3 hts gX1_setQuiet_X1_in rfl rfl rfl (by decide +kernel) ⟨Nat.le_of_ble_eq_true rfl, Nat.le_of_ble_eq_true rfl⟩) rfl (Nat.le_of_ble_eq_true rfl) ⟨Nat.le_of_ble_eq_true rfl, Nat.le_of_ble_eq_true rfl⟩ dX1_setQuiet_29 rfl (fun r u2 hp => ?_)
      subst hp
      refine z_if_eq 39 dX1_setQuiet_32 (by decide) (fun c_32_3 => ?_) (fun c_32_3 => ?_)
      ·
        refine z_iconst (v := 2) dX1_setQuiet_39 rfl ?_
        refine z_callVi (As := [.int 2]) (st := []) (fun l => c_X1_refused l D cI cZ h a u 2) zGok_TT (fun _ _ _ => trivial) (fun s args hts => cwV 1 hts gX1_setQuiet_X1_refused rfl rfl rfl (by decide +kernel) ⟨Nat.le_of_ble_eq_true rfl, Nat.le_of_ble_eq_true rfl⟩) (ci := 1) rfl rfl rfl rfl (Nat.le_of_ble_eq_true rfl) ⟨Nat.le_of_ble_eq_true rfl, Nat.le_of_ble_eq_true rfl⟩ dX1_setQuiet_40 rfl (fun r u2 hp => ?_)
        obtain ⟨hp1, hp2⟩ := hp; have hp4 : r = 1 := hp1.trans (by simp [r_X1_refused]); clear hp1; subst hp4; have hp3 : u2 = (pF u 0 2) := hp2; clear hp2; subst hp3
        refine z_if_eq 48 dX1_setQuiet_43 (by decide) (fun c_43_4 => absurd c_43_4 (by decide)) (fun _ => ?_)
        refine z_iconst (v := 0) dX1_setQuiet_46 rfl ?_
        exact hret _ (pF u 0 2) _ _ _ dX1_setQuiet_47 ⟨(by rw [r_X1_setQuiet, if_neg c_6_0, if_neg c_21_1, if_pos c_32_3]), (by rw [s_X1_setQuiet, if_neg c_6_0, if_neg c_21_1, if_pos c_32_3])⟩ rfl
      ·
        refine z_iconst (v := 0) dX1_setQuiet_35 rfl ?_
        refine z_goto 40 dX1_setQuiet_36 (by decide) ?_
        refine z_callVi (As := [.int 0]) (st := []) (fun l => c_X1_refused l D cI cZ h a u 0) zGok_TT (fun _ _ _ => trivial) (fun s args hts => cwV 1 hts gX1_setQuiet_X1_refused rfl rfl rfl (by decide +kernel) ⟨Nat.le_of_ble_eq_true rfl, Nat.le_of_ble_eq_true rfl⟩) (ci := 1) rfl rfl rfl rfl (Nat.le_of_ble_eq_true rfl) ⟨Nat.le_of_ble_eq_true rfl, Nat.le_of_ble_eq_true rfl⟩ dX1_setQuiet_40 rfl (fun r u2 hp => ?_)
        obtain ⟨hp1, hp2⟩ := hp; have hp4 : r = 0 := hp1.trans (by simp [r_X1_refused]); clear hp1; subst hp4; have hp3 : u2 = (pF u 0 0) := hp2; clear hp2; subst hp3
        refine z_if_eq 48 dX1_setQuiet_43 (by decide) (fun _ => ?_) (fun c_43_5 => absurd c_43_5 (by decide))
        refine z_aload_n 0 dX1_setQuiet_48 rfl ?_
        refine z_get (C := RX1) (T := TX1) (N := 22) (v := .ref (a 8)) inwX1_setQuiet 0 rfl rfl 8 (by decide) (List.mem_of_getElem? (i := 1) rfl) rfl rfl dX1_setQuiet_49 ?_
        refine z_iload_n 1 dX1_setQuiet_52 rfl ?_
        refine z_iload_n 2 dX1_setQuiet_53 rfl ?_
        refine z_iast (w' := (wX1 cI cZ h a (pG (pF u 0 0) 8 (ix p1) p2))) 6 0 rfl rfl (by first | (with_reducible assumption) | with_reducible exact zmdev hnd hd (by assumption) | with_reducible exact zmnot hnn hn (by assumption) | exact hnd | exact hnn | assumption | decide) (wX1_g8 _ _ _ _ _ _ _) dX1_setQuiet_54 ?_
        refine z_aload_n 0 dX1_setQuiet_55 rfl ?_
        refine z_get (C := RX1) (T := TX1) (N := 22) (v := .ref (a 9)) inwX1_setQuiet 0 rfl rfl 9 (by decide) (List.mem_of_getElem? (i := 2) rfl) rfl rfl dX1_setQuiet_56 ?_
        refine z_iload_n 1 dX1_setQuiet_59 rfl ?_
        refine z_iload_n 3 dX1_setQuiet_60 rfl ?_
        refine z_iast (w' := (wX1 cI cZ h a (pG (pG (pF u 0 0) 8 (ix p1) p2) 9 (ix p1) p3))) 7 0 rfl rfl (by first | (with_reducible assumption) | with_reducible exact zmdev hnd hd (by assumption) | with_reducible exact zmnot hnn hn (by assumption) | exact hnd | exact hnn | assumption | decide) (wX1_g9 _ _ _ _ _ _ _) dX1_setQuiet_61 ?_
        refine z_aload_n 0 dX1_setQuiet_62 rfl ?_
        refine z_callVi (As := []) (st := []) (fun l => c_X1_look l D cI cZ h a (pG (pG (pF u 0 0) 8 (ix p1) p2) 9 (ix p1) p3)  nd (by first | (with_reducible assumption) | with_reducible exact zmdev hnd hd (by assumption) | with_reducible exact zmnot hnn hn (by assumption) | exact hnd | exact hnn | assumption | decide) (by first | (with_reducible assumption) | with_reducible exact zmdev hnd hd (by assumption) | with_reducible exact zmnot hnn hn (by assumption) | exact hnd | exact hnn | assumption | decide) nn (by first | (with_reducible assumption) | with_reducible exact zmdev hnd hd (by assumption) | with_reducible exact zmnot hnn hn (by assumption) | exact hnd | exact hnn | assumption | decide) (by first | (with_reducible assumption) | with_reducible exact zmdev hnd hd (by assumption) | with_reducible exact zmnot hnn hn (by assumption) | exact hnd | exact hnn | assumption | decide)) zGok_TT (fun _ _ _ => trivial) (fun s args hts => cwV 0 hts gX1_setQuiet_X1_look rfl rfl rfl (by decide +kernel) ⟨Nat.le_of_ble_eq_true rfl, Nat.le_of_ble_eq_true rfl⟩) (ci := 1) rfl rfl rfl rfl (Nat.le_of_ble_eq_true rfl) ⟨Nat.le_of_ble_eq_true rfl, Nat.le_of_ble_eq_true rfl⟩ dX1_setQuiet_63 rfl (fun r u2 hp => ?_)
        obtain ⟨rfl, rfl⟩ := hp
        exact hret _ (s_X1_look (pG (pG (pF u 0 0) 8 (ix p1) p2) 9 (ix p1) p3) ) _ _ _ dX1_setQuiet_66 ⟨(by rw [r_X1_setQuiet, if_neg c_6_0, if_neg c_21_1, if_neg c_32_3]), (by rw [s_X1_setQuiet, if_neg c_6_0, if_neg c_21_1, if_neg c_32_3])⟩ rfl
  ·
    refine z_iconst (v := 1) dX1_setQuiet_9 rfl ?_
    refine z_goto 40 dX1_setQuiet_10 (by decide) ?_
    refine z_callVi (As := [.int 1]) (st := []) (fun l => c_X1_refused l D cI cZ h a u 1) zGok_TT (fun _ _ _ => trivial) (fun s args hts => cwV 1 hts gX1_setQuiet_X1_refused rfl rfl rfl (by decide +kernel) ⟨Nat.le_of_ble_eq_true rfl, Nat.le_of_ble_eq_true rfl⟩) (ci := 1) rfl rfl rfl rfl (Nat.le_of_ble_eq_true rfl) ⟨Nat.le_of_ble_eq_true rfl, Nat.le_of_ble_eq_true rfl⟩ dX1_setQuiet_40 rfl (fun r u2 hp => ?_)
    obtain ⟨hp1, hp2⟩ := hp; have hp4 : r = 1 := hp1.trans (by simp [r_X1_refused]); clear hp1; subst hp4; have hp3 : u2 = (pF u 0 1) := hp2; clear hp2; subst hp3
    refine z_if_eq 48 dX1_setQuiet_43 (by decide) (fun c_43_6 => absurd c_43_6 (by decide)) (fun _ => ?_)
    refine z_iconst (v := 0) dX1_setQuiet_46 rfl ?_
    exact hret _ (pF u 0 1) _ _ _ dX1_setQuiet_47 ⟨(by rw [r_X1_setQuiet, if_pos c_6_0]), (by rw [s_X1_setQuiet, if_pos c_6_0])⟩ rfl
set_option maxHeartbeats 4000000 in
set_option maxRecDepth 100000 in
theorem c_X1_join (l : Launch) (D : va_G) (cI cZ : ClassId) (h : Nat) (a : Nat → Nat) (u : SX) (p1 p2 p3 : Int32) (nd : Nat) (hnd : u.1 2 = nI nd) (hd : nd ≤ 16) : zMi l yX1_join wsX1_join ({ frames := 2, cells := 0, slots := 0, locals := 43 } : Room) zTT D [(cI, .int), (cZ, .boolean)] (wX1 cI cZ h a u) [.ref h, .int p1, .int p2, .int p3] (fun (r : Int32) (u2 : SX) => r = r_X1_join u p1 p2 p3 ∧ u2 = s_X1_join u p1 p2 p3) (fun u2 => (wX1 cI cZ h a u2)) 0 0 := by
  refine z_startZ (cc := cX1_join) (n := 5) (own := RX1) (L0 := [(0, .ref h), (1, .int p1), (2, .int p2), (3, .int p3)]) (plainFor_of_name (by decide)) rfl rfl (Nat.le_of_ble_eq_true rfl) rfl (fun E hret => ?_)
  have hixnd : ix (u.1 2) = nd := by rw [hnd]; exact nI_clamp (by omega)
  refine z_aload_n 0 dX1_join_0 rfl ?_
  refine z_aload_n 0 dX1_join_1 rfl ?_
  refine z_iload_n 1 dX1_join_2 rfl ?_
  refine z_callVi (As := [.int p1]) (st := [.ref h]) (fun l => c_X1_isDevice l D cI cZ h a u p1) zGok_TT (fun _ _ _ => trivial) (fun s args hts => cwV 1 hts gX1_join_X1_isDevice rfl rfl rfl (by decide +kernel) ⟨Nat.le_of_ble_eq_true rfl, Nat.le_of_ble_eq_true rfl⟩) (ci := 1) rfl rfl rfl rfl (Nat.le_of_ble_eq_true rfl) ⟨Nat.le_of_ble_eq_true rfl, Nat.le_of_ble_eq_true rfl⟩ dX1_join_3 rfl (fun r u2 hp => ?_)
  subst hp
  refine z_if_ne 13 dX1_join_6 (by decide) (fun c_6_0 => ?_) (fun c_6_0 => ?_)
  ·
    refine z_iload_n 2 dX1_join_13 rfl ?_
    refine z_iconst (v := 0) dX1_join_14 rfl ?_
    refine z_iconst (v := 5) dX1_join_15 rfl ?_
    refine z_callSi (As := [.int p2, .int 0, .int 5]) (st := [.ref h]) (fun l => c_X1_in l D _ _ p2 0 5) zGok_TT (fun _ _ _ => trivial) (fun s args hts => va_cwS 3 hts gX1_join_X1_in rfl rfl rfl (by decide +kernel) ⟨Nat.le_of_ble_eq_true rfl, Nat.le_of_ble_eq_true rfl⟩) rfl (Nat.le_of_ble_eq_true rfl) ⟨Nat.le_of_ble_eq_true rfl, Nat.le_of_ble_eq_true rfl⟩ dX1_join_16 rfl (fun r u2 hp => ?_)
    subst hp
    refine z_if_eq 26 dX1_join_19 (by decide) (fun c_19_1 => ?_) (fun c_19_1 => ?_)
    ·
      refine z_iconst (v := 2) dX1_join_26 rfl ?_
      refine z_callVi (As := [.int 2]) (st := []) (fun l => c_X1_refused l D cI cZ h a u 2) zGok_TT (fun _ _ _ => trivial) (fun s args hts => cwV 1 hts gX1_join_X1_refused rfl rfl rfl (by decide +kernel) ⟨Nat.le_of_ble_eq_true rfl, Nat.le_of_ble_eq_true rfl⟩) (ci := 1) rfl rfl rfl rfl (Nat.le_of_ble_eq_true rfl) ⟨Nat.le_of_ble_eq_true rfl, Nat.le_of_ble_eq_true rfl⟩ dX1_join_27 rfl (fun r u2 hp => ?_)
      obtain ⟨hp1, hp2⟩ := hp; have hp4 : r = 1 := hp1.trans (by simp [r_X1_refused]); clear hp1; subst hp4; have hp3 : u2 = (pF u 0 2) := hp2; clear hp2; subst hp3
      refine z_if_eq 35 dX1_join_30 (by decide) (fun c_30_2 => absurd c_30_2 (by decide)) (fun _ => ?_)
      refine z_iconst (v := 0) dX1_join_33 rfl ?_
      exact hret _ (pF u 0 2) _ _ _ dX1_join_34 ⟨(by rw [r_X1_join, if_neg c_6_0, if_pos c_19_1]), (by rw [s_X1_join, if_neg c_6_0, if_pos c_19_1])⟩ rfl rfl
    ·
      refine z_iconst (v := 0) dX1_join_22 rfl ?_
      refine z_goto 27 dX1_join_23 (by decide) ?_
      refine z_callVi (As := [.int 0]) (st := []) (fun l => c_X1_refused l D cI cZ h a u 0) zGok_TT (fun _ _ _ => trivial) (fun s args hts => cwV 1 hts gX1_join_X1_refused rfl rfl rfl (by decide +kernel) ⟨Nat.le_of_ble_eq_true rfl, Nat.le_of_ble_eq_true rfl⟩) (ci := 1) rfl rfl rfl rfl (Nat.le_of_ble_eq_true rfl) ⟨Nat.le_of_ble_eq_true rfl, Nat.le_of_ble_eq_true rfl⟩ dX1_join_27 rfl (fun r u2 hp => ?_)
      obtain ⟨hp1, hp2⟩ := hp; have hp4 : r = 0 := hp1.trans (by simp [r_X1_refused]); clear hp1; subst hp4; have hp3 : u2 = (pF u 0 0) := hp2; clear hp2; subst hp3
      refine z_if_eq 35 dX1_join_30 (by decide) (fun _ => ?_) (fun c_30_3 => absurd c_30_3 (by decide))
      refine z_aload_n 0 dX1_join_35 rfl ?_
      refine z_get (C := RX1) (T := TX1) (N := 22) (v := .ref (a 10)) inwX1_join 0 rfl rfl 10 (by decide) (List.mem_of_getElem? (i := 1) rfl) rfl rfl dX1_join_36 ?_
      refine z_iload_n 1 dX1_join_39 rfl ?_
      refine z_iald (v := (u.2 10 (ix p1))) 8 0 rfl rfl (by first | (with_reducible assumption) | with_reducible exact zmdev hnd hd (by assumption) | exact hnd | assumption | decide) rfl dX1_join_40 ?_
      refine z_iload_n 2 dX1_join_41 rfl ?_
      refine z_ishr dX1_join_42 ?_
      refine z_iconst (v := 1) dX1_join_43 rfl ?_
      refine z_iand dX1_join_44 ?_
      refine z_iconst (v := 1) dX1_join_45 rfl ?_
      refine z_icmp_ne 53 dX1_join_46 (by decide) (fun c_46_4 => ?_) (fun c_46_4 => ?_)
      ·
        refine z_iconst (v := 0) dX1_join_53 rfl ?_
        refine z_istore (L' := [(4, .int 0), (0, .ref h), (1, .int p1), (2, .int p2), (3, .int p3)]) dX1_join_54 (by decide) rfl ?_
        refine z_aload_n 1 dX1_join_56 rfl ?_
        refine z_get (C := RX1) (T := TX1) (N := 22) (v := .ref (a 10)) inwX1_join 0 rfl rfl 10 (by decide) (List.mem_of_getElem? (i := 1) rfl) rfl rfl dX1_join_57 ?_
        refine z_iload_n 2 dX1_join_60 rfl ?_
        refine z_iload_n 4 dX1_join_61 rfl ?_
        refine z_if_eq 78 dX1_join_62 (by decide) (fun c_62_5 => ?_) (fun c_62_5 => ?_)
        ·
          refine z_aload_n 1 dX1_join_78 rfl ?_
          refine z_get (C := RX1) (T := TX1) (N := 22) (v := .ref (a 10)) inwX1_join 0 rfl rfl 10 (by decide) (List.mem_of_getElem? (i := 1) rfl) rfl rfl dX1_join_79 ?_
          refine z_iload_n 2 dX1_join_82 rfl ?_
          refine z_iald (v := (u.2 10 (ix p1))) 8 0 rfl rfl (by first | (with_reducible assumption) | with_reducible exact zmdev hnd hd (by assumption) | exact hnd | assumption | decide) rfl dX1_join_83 ?_
          refine z_iconst (v := 1) dX1_join_84 rfl ?_
          refine z_iload_n 3 dX1_join_85 rfl ?_
          refine z_ishl dX1_join_86 ?_
          refine z_iconst (v := (-1)) dX1_join_87 rfl ?_
          refine z_ixor dX1_join_88 ?_
          refine z_iand dX1_join_89 ?_
          refine z_iast (w' := (wX1 cI cZ h a (pG (pF u 0 0) 10 (ix p1) ((u.2 10 (ix p1)) &&& ((1 <<< (p2 &&& 31)) ^^^ (-1)))))) 8 0 rfl rfl (by first | (with_reducible assumption) | with_reducible exact zmdev hnd hd (by assumption) | exact hnd | assumption | decide) (wX1_g10 _ _ _ _ _ _ _) dX1_join_90 ?_
          refine z_iload 0 dX1_join_91 rfl ?_
          exact hret _ (pG (pF u 0 0) 10 (ix p1) ((u.2 10 (ix p1)) &&& ((1 <<< (p2 &&& 31)) ^^^ (-1)))) _ _ _ dX1_join_93 ⟨(by rw [r_X1_join, if_neg c_6_0, if_neg c_19_1, if_neg c_46_4]), (by rw [s_X1_join, if_neg c_6_0, if_neg c_19_1, if_pos c_62_5])⟩ rfl rfl
        ·
          refine z_aload_n 1 dX1_join_65 rfl ?_
          refine z_get (C := RX1) (T := TX1) (N := 22) (v := .ref (a 10)) inwX1_join 0 rfl rfl 10 (by decide) (List.mem_of_getElem? (i := 1) rfl) rfl rfl dX1_join_66 ?_
          refine z_iload_n 2 dX1_join_69 rfl ?_
          refine z_iald (v := (u.2 10 (ix p1))) 8 0 rfl rfl (by first | (with_reducible assumption) | with_reducible exact zmdev hnd hd (by assumption) | exact hnd | assumption | decide) rfl dX1_join_70 ?_
          refine z_iconst (v := 1) dX1_join_71 rfl ?_
          refine z_iload_n 3 dX1_join_72 rfl ?_
          refine z_ishl dX1_join_73 ?_
          refine z_ior dX1_join_74 ?_
          refine z_goto 90 dX1_join_75 (by decide) ?_
          refine z_iast (w' := (wX1 cI cZ h a (pG (pF u 0 0) 10 (ix p1) ((u.2 10 (ix p1)) ||| (1 <<< (p2 &&& 31)))))) 8 0 rfl rfl (by first | (with_reducible assumption) | with_reducible exact zmdev hnd hd (by assumption) | exact hnd | assumption | decide) (wX1_g10 _ _ _ _ _ _ _) dX1_join_90 ?_
          refine z_iload 0 dX1_join_91 rfl ?_
          exact hret _ (pG (pF u 0 0) 10 (ix p1) ((u.2 10 (ix p1)) ||| (1 <<< (p2 &&& 31)))) _ _ _ dX1_join_93 ⟨(by rw [r_X1_join, if_neg c_6_0, if_neg c_19_1, if_neg c_46_4]), (by rw [s_X1_join, if_neg c_6_0, if_neg c_19_1, if_neg c_62_5])⟩ rfl rfl
      ·
        refine z_iconst (v := 1) dX1_join_49 rfl ?_
        refine z_goto 54 dX1_join_50 (by decide) ?_
        refine z_istore (L' := [(4, .int 1), (0, .ref h), (1, .int p1), (2, .int p2), (3, .int p3)]) dX1_join_54 (by decide) rfl ?_
        refine z_aload_n 1 dX1_join_56 rfl ?_
        refine z_get (C := RX1) (T := TX1) (N := 22) (v := .ref (a 10)) inwX1_join 0 rfl rfl 10 (by decide) (List.mem_of_getElem? (i := 1) rfl) rfl rfl dX1_join_57 ?_
        refine z_iload_n 2 dX1_join_60 rfl ?_
        refine z_iload_n 4 dX1_join_61 rfl ?_
        refine z_if_eq 78 dX1_join_62 (by decide) (fun c_62_6 => ?_) (fun c_62_6 => ?_)
        ·
          refine z_aload_n 1 dX1_join_78 rfl ?_
          refine z_get (C := RX1) (T := TX1) (N := 22) (v := .ref (a 10)) inwX1_join 0 rfl rfl 10 (by decide) (List.mem_of_getElem? (i := 1) rfl) rfl rfl dX1_join_79 ?_
          refine z_iload_n 2 dX1_join_82 rfl ?_
          refine z_iald (v := (u.2 10 (ix p1))) 8 0 rfl rfl (by first | (with_reducible assumption) | with_reducible exact zmdev hnd hd (by assumption) | exact hnd | assumption | decide) rfl dX1_join_83 ?_
          refine z_iconst (v := 1) dX1_join_84 rfl ?_
          refine z_iload_n 3 dX1_join_85 rfl ?_
          refine z_ishl dX1_join_86 ?_
          refine z_iconst (v := (-1)) dX1_join_87 rfl ?_
          refine z_ixor dX1_join_88 ?_
          refine z_iand dX1_join_89 ?_
          refine z_iast (w' := (wX1 cI cZ h a (pG (pF u 0 0) 10 (ix p1) ((u.2 10 (ix p1)) &&& ((1 <<< (p2 &&& 31)) ^^^ (-1)))))) 8 0 rfl rfl (by first | (with_reducible assumption) | with_reducible exact zmdev hnd hd (by assumption) | exact hnd | assumption | decide) (wX1_g10 _ _ _ _ _ _ _) dX1_join_90 ?_
          refine z_iload 0 dX1_join_91 rfl ?_
          exact hret _ (pG (pF u 0 0) 10 (ix p1) ((u.2 10 (ix p1)) &&& ((1 <<< (p2 &&& 31)) ^^^ (-1)))) _ _ _ dX1_join_93 ⟨(by rw [r_X1_join, if_neg c_6_0, if_neg c_19_1, if_pos c_46_4]), (by rw [s_X1_join, if_neg c_6_0, if_neg c_19_1, if_pos c_62_6])⟩ rfl rfl
        ·
          refine z_aload_n 1 dX1_join_65 rfl ?_
          refine z_get (C := RX1) (T := TX1) (N := 22) (v := .ref (a 10)) inwX1_join 0 rfl rfl 10 (by decide) (List.mem_of_getElem? (i := 1) rfl) rfl rfl dX1_join_66 ?_
          refine z_iload_n 2 dX1_join_69 rfl ?_
          refine z_iald (v := (u.2 10 (ix p1))) 8 0 rfl rfl (by first | (with_reducible assumption) | with_reducible exact zmdev hnd hd (by assumption) | exact hnd | assumption | decide) rfl dX1_join_70 ?_
          refine z_iconst (v := 1) dX1_join_71 rfl ?_
          refine z_iload_n 3 dX1_join_72 rfl ?_
          refine z_ishl dX1_join_73 ?_
          refine z_ior dX1_join_74 ?_
          refine z_goto 90 dX1_join_75 (by decide) ?_
          refine z_iast (w' := (wX1 cI cZ h a (pG (pF u 0 0) 10 (ix p1) ((u.2 10 (ix p1)) ||| (1 <<< (p2 &&& 31)))))) 8 0 rfl rfl (by first | (with_reducible assumption) | with_reducible exact zmdev hnd hd (by assumption) | exact hnd | assumption | decide) (wX1_g10 _ _ _ _ _ _ _) dX1_join_90 ?_
          refine z_iload 0 dX1_join_91 rfl ?_
          exact hret _ (pG (pF u 0 0) 10 (ix p1) ((u.2 10 (ix p1)) ||| (1 <<< (p2 &&& 31)))) _ _ _ dX1_join_93 ⟨(by rw [r_X1_join, if_neg c_6_0, if_neg c_19_1, if_pos c_46_4]), (by rw [s_X1_join, if_neg c_6_0, if_neg c_19_1, if_neg c_62_6])⟩ rfl rfl
  ·
    refine z_iconst (v := 1) dX1_join_9 rfl ?_
    refine z_goto 27 dX1_join_10 (by decide) ?_
    refine z_callVi (As := [.int 1]) (st := []) (fun l => c_X1_refused l D cI cZ h a u 1) zGok_TT (fun _ _ _ => trivial) (fun s args hts => cwV 1 hts gX1_join_X1_refused rfl rfl rfl (by decide +kernel) ⟨Nat.le_of_ble_eq_true rfl, Nat.le_of_ble_eq_true rfl⟩) (ci := 1) rfl rfl rfl rfl (Nat.le_of_ble_eq_true rfl) ⟨Nat.le_of_ble_eq_true rfl, Nat.le_of_ble_eq_true rfl⟩ dX1_join_27 rfl (fun r u2 hp => ?_)
    obtain ⟨hp1, hp2⟩ := hp; have hp4 : r = 1 := hp1.trans (by simp [r_X1_refused]); clear hp1; subst hp4; have hp3 : u2 = (pF u 0 1) := hp2; clear hp2; subst hp3
    refine z_if_eq 35 dX1_join_30 (by decide) (fun c_30_7 => absurd c_30_7 (by decide)) (fun _ => ?_)
    refine z_iconst (v := 0) dX1_join_33 rfl ?_
    exact hret _ (pF u 0 1) _ _ _ dX1_join_34 ⟨(by rw [r_X1_join, if_pos c_6_0]), (by rw [s_X1_join, if_pos c_6_0])⟩ rfl rfl
