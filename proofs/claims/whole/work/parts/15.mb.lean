set_option maxHeartbeats 4000000 in
set_option maxRecDepth 100000 in
theorem c_X1_in (l : Launch) (D : va_G) (tys : List (ClassId × FieldType)) (w0 : va_W) (p1 p2 p3 : Int32)  : zMi l yX1_in wsX1_in ({ frames := 0, cells := 0, slots := 0, locals := 0 } : Room) zTT D tys w0 [.int p1, .int p2, .int p3] (fun (r : Int32) (_ : Unit) => r = r_X1_in p1 p2 p3) (fun _ => w0) 0 0 := by
  refine z_startZ (cc := cX1_in) (n := 3) (own := RX1) (L0 := [(0, .int p1), (1, .int p2), (2, .int p3)]) (plainFor_of_name (by decide)) rfl rfl (Nat.le_of_ble_eq_true rfl) rfl (fun E hret => ?_)
  refine z_iload_n 0 dX1_in_0 rfl ?_
  refine z_iload_n 1 dX1_in_1 rfl ?_
  refine z_icmp_lt 14 dX1_in_2 (by decide) (fun c_2_0 => ?_) (fun c_2_0 => ?_)
  ·
    refine z_iconst (v := 0) dX1_in_14 rfl ?_
    exact hret _ () _ _ _ dX1_in_15 (by rw [r_X1_in, if_pos c_2_0]) rfl rfl
  ·
    refine z_iload_n 0 dX1_in_5 rfl ?_
    refine z_iload_n 2 dX1_in_6 rfl ?_
    refine z_icmp_gt 14 dX1_in_7 (by decide) (fun c_7_1 => ?_) (fun c_7_1 => ?_)
    ·
      refine z_iconst (v := 0) dX1_in_14 rfl ?_
      exact hret _ () _ _ _ dX1_in_15 (by rw [r_X1_in, if_neg c_2_0, if_pos c_7_1]) rfl rfl
    ·
      refine z_iconst (v := 1) dX1_in_10 rfl ?_
      refine z_goto 15 dX1_in_11 (by decide) ?_
      exact hret _ () _ _ _ dX1_in_15 (by rw [r_X1_in, if_neg c_2_0, if_neg c_7_1]) rfl rfl
set_option maxHeartbeats 4000000 in
set_option maxRecDepth 100000 in
theorem c_X1_thrown (l : Launch) (D : va_G) (cI cZ : ClassId) (h : Nat) (a : Nat → Nat) (u : SX)   : zMi l yX1_thrown wsX1_thrown ({ frames := 0, cells := 0, slots := 0, locals := 0 } : Room) zTT D [(cI, .int), (cZ, .boolean)] (wX1 cI cZ h a u) [.ref h] (fun (r : Int32) (_ : Unit) => r = r_X1_thrown u) (fun _ => (wX1 cI cZ h a u)) 0 0 := by
  refine z_startI (cc := cX1_thrown) (n := 1) (own := RX1) (L0 := [(0, .ref h)]) (plainFor_of_name (by decide)) rfl rfl (Nat.le_of_ble_eq_true rfl) rfl (fun E hret => ?_)
  refine z_aload_n 0 dX1_thrown_0 rfl ?_
  refine z_get (C := RX1) (T := TX1) (N := 22) (v := .int (u.1 0)) inwX1_thrown 0 rfl rfl 0 (by decide) (List.mem_of_getElem? (i := 1) rfl) rfl rfl dX1_thrown_1 ?_
  exact hret _ () _ _ _ dX1_thrown_4 (by rw [r_X1_thrown]) rfl
set_option maxHeartbeats 4000000 in
set_option maxRecDepth 100000 in
theorem c_X1_refused (l : Launch) (D : va_G) (cI cZ : ClassId) (h : Nat) (a : Nat → Nat) (u : SX) (p1 : Int32)  : zMi l yX1_refused wsX1_refused ({ frames := 0, cells := 0, slots := 0, locals := 0 } : Room) zTT D [(cI, .int), (cZ, .boolean)] (wX1 cI cZ h a u) [.ref h, .int p1] (fun (r : Int32) (u2 : SX) => r = r_X1_refused u p1 ∧ u2 = s_X1_refused u p1) (fun u2 => (wX1 cI cZ h a u2)) 0 0 := by
  refine z_startZ (cc := cX1_refused) (n := 2) (own := RX1) (L0 := [(0, .ref h), (1, .int p1)]) (plainFor_of_name (by decide)) rfl rfl (Nat.le_of_ble_eq_true rfl) rfl (fun E hret => ?_)
  refine z_aload_n 0 dX1_refused_0 rfl ?_
  refine z_iload_n 1 dX1_refused_1 rfl ?_
  refine z_put (C := RX1) (T := TX1) (N := 22) (v := .int p1) (w' := (wX1 cI cZ h a (pF u 0 p1))) inwX1_refused 0 rfl rfl 0 (by decide) (List.mem_of_getElem? (i := 1) rfl) rfl tyX1 tyX1_ok nmX1 rfl rfl rfl (Nat.le_of_ble_eq_true rfl) (wX1_p0 _ _ _ _ _ _) dX1_refused_2 ?_
  refine z_iload_n 1 dX1_refused_5 rfl ?_
  refine z_if_eq 13 dX1_refused_6 (by decide) (fun c_6_0 => ?_) (fun c_6_0 => ?_)
  ·
    refine z_iconst (v := 0) dX1_refused_13 rfl ?_
    exact hret _ (pF u 0 p1) _ _ _ dX1_refused_14 ⟨(by rw [r_X1_refused, if_pos c_6_0]), (by rw [s_X1_refused])⟩ rfl rfl
  ·
    refine z_iconst (v := 1) dX1_refused_9 rfl ?_
    refine z_goto 14 dX1_refused_10 (by decide) ?_
    exact hret _ (pF u 0 p1) _ _ _ dX1_refused_14 ⟨(by rw [r_X1_refused, if_neg c_6_0]), (by rw [s_X1_refused])⟩ rfl rfl
set_option maxHeartbeats 4000000 in
set_option maxRecDepth 100000 in
theorem c_X1_fine (l : Launch) (D : va_G) (cI cZ : ClassId) (h : Nat) (a : Nat → Nat) (u : SX) (p1 : Int32)  : zMi l yX1_fine wsX1_fine ({ frames := 0, cells := 0, slots := 0, locals := 0 } : Room) zTT D [(cI, .int), (cZ, .boolean)] (wX1 cI cZ h a u) [.ref h, .int p1] (fun (r : Int32) (u2 : SX) => r = r_X1_fine u p1 ∧ u2 = s_X1_fine u p1) (fun u2 => (wX1 cI cZ h a u2)) 0 0 := by
  refine z_startI (cc := cX1_fine) (n := 2) (own := RX1) (L0 := [(0, .ref h), (1, .int p1)]) (plainFor_of_name (by decide)) rfl rfl (Nat.le_of_ble_eq_true rfl) rfl (fun E hret => ?_)
  refine z_aload_n 0 dX1_fine_0 rfl ?_
  refine z_iconst (v := 0) dX1_fine_1 rfl ?_
  refine z_put (C := RX1) (T := TX1) (N := 22) (v := .int 0) (w' := (wX1 cI cZ h a (pF u 0 0))) inwX1_fine 0 rfl rfl 0 (by decide) (List.mem_of_getElem? (i := 1) rfl) rfl tyX1 tyX1_ok nmX1 rfl rfl rfl (Nat.le_of_ble_eq_true rfl) (wX1_p0 _ _ _ _ _ _) dX1_fine_2 ?_
  refine z_iload_n 1 dX1_fine_5 rfl ?_
  exact hret _ (pF u 0 0) _ _ _ dX1_fine_6 ⟨(by rw [r_X1_fine]), (by rw [s_X1_fine])⟩ rfl
set_option maxHeartbeats 4000000 in
set_option maxRecDepth 100000 in
theorem c_X1_isDevice (l : Launch) (D : va_G) (cI cZ : ClassId) (h : Nat) (a : Nat → Nat) (u : SX) (p1 : Int32)  : zMi l yX1_isDevice wsX1_isDevice ({ frames := 1, cells := 0, slots := 0, locals := 22 } : Room) zTT D [(cI, .int), (cZ, .boolean)] (wX1 cI cZ h a u) [.ref h, .int p1] (fun (r : Int32) (_ : Unit) => r = r_X1_isDevice u p1) (fun _ => (wX1 cI cZ h a u)) 0 0 := by
  refine z_startZ (cc := cX1_isDevice) (n := 2) (own := RX1) (L0 := [(0, .ref h), (1, .int p1)]) (plainFor_of_name (by decide)) rfl rfl (Nat.le_of_ble_eq_true rfl) rfl (fun E hret => ?_)
  refine z_iload_n 1 dX1_isDevice_0 rfl ?_
  refine z_iconst (v := 0) dX1_isDevice_1 rfl ?_
  refine z_aload_n 0 dX1_isDevice_2 rfl ?_
  refine z_get (C := RX1) (T := TX1) (N := 22) (v := .int (u.1 2)) inwX1_isDevice 0 rfl rfl 2 (by decide) (List.mem_of_getElem? (i := 1) rfl) rfl rfl dX1_isDevice_3 ?_
  refine z_iconst (v := 1) dX1_isDevice_6 rfl ?_
  refine z_isub dX1_isDevice_7 ?_
  refine z_callSi (As := [.int p1, .int 0, .int ((u.1 2) - 1)]) (st := []) (fun l => c_X1_in l D _ _ p1 0 ((u.1 2) - 1)) zGok_TT (fun _ _ _ => trivial) (fun s args hts => va_cwS 3 hts gX1_isDevice_X1_in rfl rfl rfl (by decide +kernel) ⟨Nat.le_of_ble_eq_true rfl, Nat.le_of_ble_eq_true rfl⟩) rfl (Nat.le_of_ble_eq_true rfl) ⟨Nat.le_of_ble_eq_true rfl, Nat.le_of_ble_eq_true rfl⟩ dX1_isDevice_8 rfl (fun r u2 hp => ?_)
  subst hp
  exact hret _ () _ _ _ dX1_isDevice_11 (by rw [r_X1_isDevice]) rfl (znar01 (z01_X1_in _ _ _))
set_option maxHeartbeats 4000000 in
set_option maxRecDepth 100000 in
theorem c_X1_isNotice (l : Launch) (D : va_G) (cI cZ : ClassId) (h : Nat) (a : Nat → Nat) (u : SX) (p1 : Int32)  : zMi l yX1_isNotice wsX1_isNotice ({ frames := 1, cells := 0, slots := 0, locals := 22 } : Room) zTT D [(cI, .int), (cZ, .boolean)] (wX1 cI cZ h a u) [.ref h, .int p1] (fun (r : Int32) (_ : Unit) => r = r_X1_isNotice u p1) (fun _ => (wX1 cI cZ h a u)) 0 0 := by
  refine z_startZ (cc := cX1_isNotice) (n := 2) (own := RX1) (L0 := [(0, .ref h), (1, .int p1)]) (plainFor_of_name (by decide)) rfl rfl (Nat.le_of_ble_eq_true rfl) rfl (fun E hret => ?_)
  refine z_iload_n 1 dX1_isNotice_0 rfl ?_
  refine z_iconst (v := 0) dX1_isNotice_1 rfl ?_
  refine z_aload_n 0 dX1_isNotice_2 rfl ?_
  refine z_get (C := RX1) (T := TX1) (N := 22) (v := .int (u.1 13)) inwX1_isNotice 0 rfl rfl 13 (by decide) (List.mem_of_getElem? (i := 1) rfl) rfl rfl dX1_isNotice_3 ?_
  refine z_iconst (v := 1) dX1_isNotice_6 rfl ?_
  refine z_isub dX1_isNotice_7 ?_
  refine z_callSi (As := [.int p1, .int 0, .int ((u.1 13) - 1)]) (st := []) (fun l => c_X1_in l D _ _ p1 0 ((u.1 13) - 1)) zGok_TT (fun _ _ _ => trivial) (fun s args hts => va_cwS 3 hts gX1_isNotice_X1_in rfl rfl rfl (by decide +kernel) ⟨Nat.le_of_ble_eq_true rfl, Nat.le_of_ble_eq_true rfl⟩) rfl (Nat.le_of_ble_eq_true rfl) ⟨Nat.le_of_ble_eq_true rfl, Nat.le_of_ble_eq_true rfl⟩ dX1_isNotice_8 rfl (fun r u2 hp => ?_)
  subst hp
  exact hret _ () _ _ _ dX1_isNotice_11 (by rw [r_X1_isNotice]) rfl (znar01 (z01_X1_in _ _ _))
set_option maxHeartbeats 4000000 in
set_option maxRecDepth 100000 in
theorem c_X1_isQuietNow (l : Launch) (D : va_G) (cI cZ : ClassId) (h : Nat) (a : Nat → Nat) (u : SX) (p1 : Int32) (hp1 : vp_in p1 16) : zMi l yX1_isQuietNow wsX1_isQuietNow ({ frames := 0, cells := 0, slots := 0, locals := 0 } : Room) zTT D [(cI, .int), (cZ, .boolean)] (wX1 cI cZ h a u) [.ref h, .int p1] (fun (r : Int32) (_ : Unit) => r = r_X1_isQuietNow u p1) (fun _ => (wX1 cI cZ h a u)) 0 0 := by
  refine z_startZ (cc := cX1_isQuietNow) (n := 5) (own := RX1) (L0 := [(0, .ref h), (1, .int p1)]) (plainFor_of_name (by decide)) rfl rfl (Nat.le_of_ble_eq_true rfl) rfl (fun E hret => ?_)
  refine z_aload_n 0 dX1_isQuietNow_0 rfl ?_
  refine z_get (C := RX1) (T := TX1) (N := 22) (v := .int (u.1 1)) inwX1_isQuietNow 0 rfl rfl 1 (by decide) (List.mem_of_getElem? (i := 1) rfl) rfl rfl dX1_isQuietNow_1 ?_
  refine z_aload_n 0 dX1_isQuietNow_4 rfl ?_
  refine z_get (C := RX1) (T := TX1) (N := 22) (v := .ref (a 4)) inwX1_isQuietNow 0 rfl rfl 4 (by decide) (List.mem_of_getElem? (i := 2) rfl) rfl rfl dX1_isQuietNow_5 ?_
  refine z_iload_n 1 dX1_isQuietNow_8 rfl ?_
  refine z_iald (v := (u.2 4 (ix p1))) 2 0 rfl rfl (by first | (with_reducible assumption) | assumption | decide) rfl dX1_isQuietNow_9 ?_
  refine z_iadd dX1_isQuietNow_10 ?_
  refine z_sipush (v := 1440) dX1_isQuietNow_11 rfl ?_
  refine z_iadd dX1_isQuietNow_14 ?_
  refine z_sipush (v := 1440) dX1_isQuietNow_15 rfl ?_
  refine z_irem dX1_isQuietNow_18 (by decide) ?_
  refine z_istore_n (L' := [(2, .int ((((u.1 1) + (u.2 4 (ix p1))) + 1440) - (((u.1 1) + (u.2 4 (ix p1))) + 1440) / 1440 * 1440)), (0, .ref h), (1, .int p1)]) dX1_isQuietNow_19 (by decide) rfl ?_
  refine z_aload_n 1 dX1_isQuietNow_20 rfl ?_
  refine z_get (C := RX1) (T := TX1) (N := 22) (v := .ref (a 8)) inwX1_isQuietNow 0 rfl rfl 8 (by decide) (List.mem_of_getElem? (i := 3) rfl) rfl rfl dX1_isQuietNow_21 ?_
  refine z_iload_n 2 dX1_isQuietNow_24 rfl ?_
  refine z_iald (v := (u.2 8 (ix p1))) 6 0 rfl rfl (by first | (with_reducible assumption) | assumption | decide) rfl dX1_isQuietNow_25 ?_
  refine z_istore_n (L' := [(3, .int (u.2 8 (ix p1))), (2, .int ((((u.1 1) + (u.2 4 (ix p1))) + 1440) - (((u.1 1) + (u.2 4 (ix p1))) + 1440) / 1440 * 1440)), (0, .ref h), (1, .int p1)]) dX1_isQuietNow_26 (by decide) rfl ?_
  refine z_aload_n 2 dX1_isQuietNow_27 rfl ?_
  refine z_get (C := RX1) (T := TX1) (N := 22) (v := .ref (a 9)) inwX1_isQuietNow 0 rfl rfl 9 (by decide) (List.mem_of_getElem? (i := 4) rfl) rfl rfl dX1_isQuietNow_28 ?_
  refine z_iload_n 3 dX1_isQuietNow_31 rfl ?_
  refine z_iald (v := (u.2 9 (ix p1))) 7 0 rfl rfl (by first | (with_reducible assumption) | assumption | decide) rfl dX1_isQuietNow_32 ?_
  refine z_istore (L' := [(4, .int (u.2 9 (ix p1))), (3, .int (u.2 8 (ix p1))), (2, .int ((((u.1 1) + (u.2 4 (ix p1))) + 1440) - (((u.1 1) + (u.2 4 (ix p1))) + 1440) / 1440 * 1440)), (0, .ref h), (1, .int p1)]) dX1_isQuietNow_33 (by decide) rfl ?_
  refine z_iload_n 1 dX1_isQuietNow_35 rfl ?_
  refine z_iload 0 dX1_isQuietNow_36 rfl ?_
  refine z_icmp_gt 60 dX1_isQuietNow_38 (by decide) (fun c_38_0 => ?_) (fun c_38_0 => ?_)
  ·
    refine z_iload_n 2 dX1_isQuietNow_60 rfl ?_
    refine z_iload_n 1 dX1_isQuietNow_61 rfl ?_
    refine z_icmp_ge 71 dX1_isQuietNow_62 (by decide) (fun c_62_1 => ?_) (fun c_62_1 => ?_)
    ·
      refine z_iconst (v := 1) dX1_isQuietNow_71 rfl ?_
      refine z_goto 76 dX1_isQuietNow_72 (by decide) ?_
      exact hret _ () _ _ _ dX1_isQuietNow_76 (by rw [r_X1_isQuietNow, if_pos c_38_0, if_pos c_62_1]) rfl rfl
    ·
      refine z_iload_n 2 dX1_isQuietNow_65 rfl ?_
      refine z_iload 0 dX1_isQuietNow_66 rfl ?_
      refine z_icmp_ge 75 dX1_isQuietNow_68 (by decide) (fun c_68_2 => ?_) (fun c_68_2 => ?_)
      ·
        refine z_iconst (v := 0) dX1_isQuietNow_75 rfl ?_
        exact hret _ () _ _ _ dX1_isQuietNow_76 (by rw [r_X1_isQuietNow, if_pos c_38_0, if_neg c_62_1, if_pos c_68_2]) rfl rfl
      ·
        refine z_iconst (v := 1) dX1_isQuietNow_71 rfl ?_
        refine z_goto 76 dX1_isQuietNow_72 (by decide) ?_
        exact hret _ () _ _ _ dX1_isQuietNow_76 (by rw [r_X1_isQuietNow, if_pos c_38_0, if_neg c_62_1, if_neg c_68_2]) rfl rfl
  ·
    refine z_iload_n 2 dX1_isQuietNow_41 rfl ?_
    refine z_iload_n 1 dX1_isQuietNow_42 rfl ?_
    refine z_icmp_lt 56 dX1_isQuietNow_43 (by decide) (fun c_43_3 => ?_) (fun c_43_3 => ?_)
    ·
      refine z_iconst (v := 0) dX1_isQuietNow_56 rfl ?_
      refine z_goto 76 dX1_isQuietNow_57 (by decide) ?_
      exact hret _ () _ _ _ dX1_isQuietNow_76 (by rw [r_X1_isQuietNow, if_neg c_38_0, if_pos c_43_3]) rfl rfl
    ·
      refine z_iload_n 2 dX1_isQuietNow_46 rfl ?_
      refine z_iload 0 dX1_isQuietNow_47 rfl ?_
      refine z_icmp_ge 56 dX1_isQuietNow_49 (by decide) (fun c_49_4 => ?_) (fun c_49_4 => ?_)
      ·
        refine z_iconst (v := 0) dX1_isQuietNow_56 rfl ?_
        refine z_goto 76 dX1_isQuietNow_57 (by decide) ?_
        exact hret _ () _ _ _ dX1_isQuietNow_76 (by rw [r_X1_isQuietNow, if_neg c_38_0, if_neg c_43_3, if_pos c_49_4]) rfl rfl
      ·
        refine z_iconst (v := 1) dX1_isQuietNow_52 rfl ?_
        refine z_goto 76 dX1_isQuietNow_53 (by decide) ?_
        exact hret _ () _ _ _ dX1_isQuietNow_76 (by rw [r_X1_isQuietNow, if_neg c_38_0, if_neg c_43_3, if_neg c_49_4]) rfl rfl
set_option maxHeartbeats 4000000 in
set_option maxRecDepth 100000 in
theorem c_X1_used (l : Launch) (D : va_G) (cI cZ : ClassId) (h : Nat) (a : Nat → Nat) (u : SX) (p1 : Int32) (hp1 : vp_in p1 16) : zMi l yX1_used wsX1_used ({ frames := 0, cells := 0, slots := 0, locals := 0 } : Room) zTT D [(cI, .int), (cZ, .boolean)] (wX1 cI cZ h a u) [.ref h, .int p1] (fun (r : Int32) (_ : Unit) => r = r_X1_used u p1) (fun _ => (wX1 cI cZ h a u)) 0 0 := by
  refine z_startI (cc := cX1_used) (n := 2) (own := RX1) (L0 := [(0, .ref h), (1, .int p1)]) (plainFor_of_name (by decide)) rfl rfl (Nat.le_of_ble_eq_true rfl) rfl (fun E hret => ?_)
  refine z_aload_n 0 dX1_used_0 rfl ?_
  refine z_get (C := RX1) (T := TX1) (N := 22) (v := .ref (a 11)) inwX1_used 0 rfl rfl 11 (by decide) (List.mem_of_getElem? (i := 1) rfl) rfl rfl dX1_used_1 ?_
  refine z_iload_n 1 dX1_used_4 rfl ?_
  refine z_iald (v := (u.2 11 (ix p1))) 9 0 rfl rfl (by first | (with_reducible assumption) | assumption | decide) rfl dX1_used_5 ?_
  refine z_aload_n 0 dX1_used_6 rfl ?_
  refine z_get (C := RX1) (T := TX1) (N := 22) (v := .int (u.1 1)) inwX1_used 0 rfl rfl 1 (by decide) (List.mem_of_getElem? (i := 2) rfl) rfl rfl dX1_used_7 ?_
  refine z_sipush (v := 1440) dX1_used_10 rfl ?_
  refine z_idiv dX1_used_13 (by decide) ?_
  refine z_icmp_ne 26 dX1_used_14 (by decide) (fun c_14_0 => ?_) (fun c_14_0 => ?_)
  ·
    refine z_iconst (v := 0) dX1_used_26 rfl ?_
    exact hret _ () _ _ _ dX1_used_27 (by rw [r_X1_used, if_neg c_14_0]) rfl
  ·
    refine z_aload_n 0 dX1_used_17 rfl ?_
    refine z_get (C := RX1) (T := TX1) (N := 22) (v := .ref (a 12)) inwX1_used 0 rfl rfl 12 (by decide) (List.mem_of_getElem? (i := 3) rfl) rfl rfl dX1_used_18 ?_
    refine z_iload_n 1 dX1_used_21 rfl ?_
    refine z_iald (v := (u.2 12 (ix p1))) 10 0 rfl rfl (by first | (with_reducible assumption) | assumption | decide) rfl dX1_used_22 ?_
    refine z_goto 27 dX1_used_23 (by decide) ?_
    exact hret _ () _ _ _ dX1_used_27 (by rw [r_X1_used, if_pos c_14_0]) rfl
set_option maxHeartbeats 4000000 in
set_option maxRecDepth 100000 in
theorem c_X1_can (l : Launch) (D : va_G) (cI cZ : ClassId) (h : Nat) (a : Nat → Nat) (u : SX) (p1 p2 : Int32) (hp1 : vp_in p1 16) (hp2 : vp_in p2 120) : zMi l yX1_can wsX1_can ({ frames := 1, cells := 0, slots := 0, locals := 24 } : Room) zTT D [(cI, .int), (cZ, .boolean)] (wX1 cI cZ h a u) [.ref h, .int p1, .int p2] (fun (r : Int32) (_ : Unit) => r = r_X1_can u p1 p2) (fun _ => (wX1 cI cZ h a u)) 0 0 := by
  refine z_startZ (cc := cX1_can) (n := 3) (own := RX1) (L0 := [(0, .ref h), (1, .int p1), (2, .int p2)]) (plainFor_of_name (by decide)) rfl rfl (Nat.le_of_ble_eq_true rfl) rfl (fun E hret => ?_)
  refine z_aload_n 0 dX1_can_0 rfl ?_
  refine z_get (C := RX1) (T := TX1) (N := 22) (v := .ref (a 5)) inwX1_can 0 rfl rfl 5 (by decide) (List.mem_of_getElem? (i := 1) rfl) rfl rfl dX1_can_1 ?_
  refine z_iload_n 1 dX1_can_4 rfl ?_
  refine z_zald (v := (u.2 5 (ix p1))) 3 1 rfl rfl (by first | (with_reducible assumption) | assumption | decide) rfl dX1_can_5 ?_
  refine z_if_ne 11 dX1_can_6 (by decide) (fun c_6_0 => ?_) (fun c_6_0 => ?_)
  ·
    refine z_aload_n 0 dX1_can_11 rfl ?_
    refine z_get (C := RX1) (T := TX1) (N := 22) (v := .ref (a 14)) inwX1_can 0 rfl rfl 14 (by decide) (List.mem_of_getElem? (i := 2) rfl) rfl rfl dX1_can_12 ?_
    refine z_iload_n 2 dX1_can_15 rfl ?_
    refine z_zald (v := (u.2 14 (ix p2))) 11 1 rfl rfl (by first | (with_reducible assumption) | assumption | decide) rfl dX1_can_16 ?_
    refine z_if_eq 44 dX1_can_17 (by decide) (fun c_17_1 => ?_) (fun c_17_1 => ?_)
    ·
      refine z_aload_n 0 dX1_can_44 rfl ?_
      refine z_iload_n 1 dX1_can_45 rfl ?_
      refine z_callVi (As := [.int p1]) (st := []) (fun l => c_X1_isQuietNow l D cI cZ h a u p1 (by first | (with_reducible assumption) | assumption | decide)) zGok_TT (fun _ _ _ => trivial) (fun s args hts => cwV 1 hts gX1_can_X1_isQuietNow rfl rfl rfl (by decide +kernel) ⟨Nat.le_of_ble_eq_true rfl, Nat.le_of_ble_eq_true rfl⟩) (ci := 1) rfl rfl rfl rfl (Nat.le_of_ble_eq_true rfl) ⟨Nat.le_of_ble_eq_true rfl, Nat.le_of_ble_eq_true rfl⟩ dX1_can_46 rfl (fun r u2 hp => ?_)
      subst hp
      refine z_if_ne 75 dX1_can_49 (by decide) (fun c_49_2 => ?_) (fun c_49_2 => ?_)
      ·
        refine z_iconst (v := 0) dX1_can_75 rfl ?_
        exact hret _ () _ _ _ dX1_can_76 (by rw [r_X1_can, if_neg c_6_0, if_pos c_17_1, if_neg c_49_2]) rfl rfl
      ·
        refine z_aload_n 0 dX1_can_52 rfl ?_
        refine z_get (C := RX1) (T := TX1) (N := 22) (v := .ref (a 6)) inwX1_can 0 rfl rfl 6 (by decide) (List.mem_of_getElem? (i := 3) rfl) rfl rfl dX1_can_53 ?_
        refine z_iload_n 1 dX1_can_56 rfl ?_
        refine z_zald (v := (u.2 6 (ix p1))) 4 1 rfl rfl (by first | (with_reducible assumption) | assumption | decide) rfl dX1_can_57 ?_
        refine z_if_eq 71 dX1_can_58 (by decide) (fun c_58_3 => ?_) (fun c_58_3 => ?_)
        ·
          refine z_iconst (v := 1) dX1_can_71 rfl ?_
          refine z_goto 76 dX1_can_72 (by decide) ?_
          exact hret _ () _ _ _ dX1_can_76 (by rw [r_X1_can, if_neg c_6_0, if_pos c_17_1, if_pos c_49_2, if_pos c_58_3]) rfl rfl
        ·
          refine z_aload_n 0 dX1_can_61 rfl ?_
          refine z_get (C := RX1) (T := TX1) (N := 22) (v := .int (u.1 1)) inwX1_can 0 rfl rfl 1 (by decide) (List.mem_of_getElem? (i := 4) rfl) rfl rfl dX1_can_62 ?_
          refine z_bipush (v := 60) dX1_can_65 rfl ?_
          refine z_irem dX1_can_67 (by decide) ?_
          refine z_if_ne 75 dX1_can_68 (by decide) (fun c_68_4 => ?_) (fun c_68_4 => ?_)
          ·
            refine z_iconst (v := 0) dX1_can_75 rfl ?_
            exact hret _ () _ _ _ dX1_can_76 (by rw [r_X1_can, if_neg c_6_0, if_pos c_17_1, if_pos c_49_2, if_neg c_58_3, if_neg c_68_4]) rfl rfl
          ·
            refine z_iconst (v := 1) dX1_can_71 rfl ?_
            refine z_goto 76 dX1_can_72 (by decide) ?_
            exact hret _ () _ _ _ dX1_can_76 (by rw [r_X1_can, if_neg c_6_0, if_pos c_17_1, if_pos c_49_2, if_neg c_58_3, if_pos c_68_4]) rfl rfl
    ·
      refine z_aload_n 0 dX1_can_20 rfl ?_
      refine z_get (C := RX1) (T := TX1) (N := 22) (v := .ref (a 6)) inwX1_can 0 rfl rfl 6 (by decide) (List.mem_of_getElem? (i := 3) rfl) rfl rfl dX1_can_21 ?_
      refine z_iload_n 1 dX1_can_24 rfl ?_
      refine z_zald (v := (u.2 6 (ix p1))) 4 1 rfl rfl (by first | (with_reducible assumption) | assumption | decide) rfl dX1_can_25 ?_
      refine z_if_eq 38 dX1_can_26 (by decide) (fun c_26_5 => ?_) (fun c_26_5 => ?_)
      ·
        refine z_iconst (v := 1) dX1_can_38 rfl ?_
        refine z_goto 43 dX1_can_39 (by decide) ?_
        exact hret _ () _ _ _ dX1_can_43 (by rw [r_X1_can, if_neg c_6_0, if_neg c_17_1, if_pos c_26_5]) rfl rfl
      ·
        refine z_aload_n 0 dX1_can_29 rfl ?_
        refine z_iload_n 1 dX1_can_30 rfl ?_
        refine z_callVi (As := [.int p1]) (st := []) (fun l => c_X1_used l D cI cZ h a u p1 (by first | (with_reducible assumption) | assumption | decide)) zGok_TT (fun _ _ _ => trivial) (fun s args hts => cwV 1 hts gX1_can_X1_used rfl rfl rfl (by decide +kernel) ⟨Nat.le_of_ble_eq_true rfl, Nat.le_of_ble_eq_true rfl⟩) (ci := 1) rfl rfl rfl rfl (Nat.le_of_ble_eq_true rfl) ⟨Nat.le_of_ble_eq_true rfl, Nat.le_of_ble_eq_true rfl⟩ dX1_can_31 rfl (fun r u2 hp => ?_)
        subst hp
        refine z_iconst (v := 3) dX1_can_34 rfl ?_
        refine z_icmp_ge 42 dX1_can_35 (by decide) (fun c_35_6 => ?_) (fun c_35_6 => ?_)
        ·
          refine z_iconst (v := 0) dX1_can_42 rfl ?_
          exact hret _ () _ _ _ dX1_can_43 (by rw [r_X1_can, if_neg c_6_0, if_neg c_17_1, if_neg c_26_5, if_pos c_35_6]) rfl rfl
        ·
          refine z_iconst (v := 1) dX1_can_38 rfl ?_
          refine z_goto 43 dX1_can_39 (by decide) ?_
          exact hret _ () _ _ _ dX1_can_43 (by rw [r_X1_can, if_neg c_6_0, if_neg c_17_1, if_neg c_26_5, if_neg c_35_6]) rfl rfl
  ·
    refine z_iconst (v := 0) dX1_can_9 rfl ?_
    exact hret _ () _ _ _ dX1_can_10 (by rw [r_X1_can, if_pos c_6_0]) rfl rfl
set_option maxHeartbeats 4000000 in
set_option maxRecDepth 100000 in
theorem c_X1_deliver (l : Launch) (D : va_G) (cI cZ : ClassId) (h : Nat) (a : Nat → Nat) (u : SX) (p1 p2 : Int32) (hp1 : vp_in p1 16) (hp2 : vp_in p2 120) : zMv l yX1_deliver wsX1_deliver ({ frames := 1, cells := 0, slots := 0, locals := 21 } : Room) zTT D [(cI, .int), (cZ, .boolean)] (wX1 cI cZ h a u) [.ref h, .int p1, .int p2] (fun u2 : SX => u2 = s_X1_deliver u p1 p2) (fun u2 => (wX1 cI cZ h a u2)) 0 0 := by
  refine z_startV (cc := cX1_deliver) (n := 3) (own := RX1) (L0 := [(0, .ref h), (1, .int p1), (2, .int p2)]) (plainFor_of_name (by decide)) rfl rfl (Nat.le_of_ble_eq_true rfl) rfl (fun E hret => ?_)
  refine z_aload_n 0 dX1_deliver_0 rfl ?_
  refine z_get (C := RX1) (T := TX1) (N := 22) (v := .ref (a 19)) inwX1_deliver 0 rfl rfl 19 (by decide) (List.mem_of_getElem? (i := 1) rfl) rfl rfl dX1_deliver_1 ?_
  refine z_iload_n 2 dX1_deliver_4 rfl ?_
  refine z_dup2 dX1_deliver_5 rfl rfl ?_
  refine z_iald (v := (u.2 19 (ix p2))) 16 0 rfl rfl (by first | (with_reducible assumption) | assumption | decide) rfl dX1_deliver_6 ?_
  refine z_iconst (v := 1) dX1_deliver_7 rfl ?_
  refine z_iload_n 1 dX1_deliver_8 rfl ?_
  refine z_ishl dX1_deliver_9 ?_
  refine z_iconst (v := (-1)) dX1_deliver_10 rfl ?_
  refine z_ixor dX1_deliver_11 ?_
  refine z_iand dX1_deliver_12 ?_
  refine z_iast (w' := (wX1 cI cZ h a (pG u 19 (ix p2) ((u.2 19 (ix p2)) &&& ((1 <<< (p1 &&& 31)) ^^^ (-1)))))) 16 0 rfl rfl (by first | (with_reducible assumption) | assumption | decide) (wX1_g19 _ _ _ _ _ _ _) dX1_deliver_13 ?_
  refine z_aload_n 0 dX1_deliver_14 rfl ?_
  refine z_get (C := RX1) (T := TX1) (N := 22) (v := .ref (a 20)) inwX1_deliver 0 rfl rfl 20 (by decide) (List.mem_of_getElem? (i := 2) rfl) rfl rfl dX1_deliver_15 ?_
  refine z_iload_n 2 dX1_deliver_18 rfl ?_
  refine z_dup2 dX1_deliver_19 rfl rfl ?_
  refine z_iald (v := (u.2 20 (ix p2))) 17 0 rfl rfl (by first | (with_reducible assumption) | assumption | decide) rfl dX1_deliver_20 ?_
  refine z_iconst (v := 1) dX1_deliver_21 rfl ?_
  refine z_iload_n 1 dX1_deliver_22 rfl ?_
  refine z_ishl dX1_deliver_23 ?_
  refine z_ior dX1_deliver_24 ?_
  refine z_iast (w' := (wX1 cI cZ h a (pG (pG u 19 (ix p2) ((u.2 19 (ix p2)) &&& ((1 <<< (p1 &&& 31)) ^^^ (-1)))) 20 (ix p2) ((u.2 20 (ix p2)) ||| (1 <<< (p1 &&& 31)))))) 17 0 rfl rfl (by first | (with_reducible assumption) | assumption | decide) (wX1_g20 _ _ _ _ _ _ _) dX1_deliver_25 ?_
  refine z_aload_n 0 dX1_deliver_26 rfl ?_
  refine z_dup dX1_deliver_27 rfl ?_
  refine z_get (C := RX1) (T := TX1) (N := 22) (v := .int (u.1 21)) inwX1_deliver 0 rfl rfl 21 (by decide) (List.mem_of_getElem? (i := 3) rfl) rfl rfl dX1_deliver_28 ?_
  refine z_iconst (v := 1) dX1_deliver_31 rfl ?_
  refine z_iadd dX1_deliver_32 ?_
  refine z_put (C := RX1) (T := TX1) (N := 22) (v := .int ((u.1 21) + 1)) (w' := (wX1 cI cZ h a (pF (pG (pG u 19 (ix p2) ((u.2 19 (ix p2)) &&& ((1 <<< (p1 &&& 31)) ^^^ (-1)))) 20 (ix p2) ((u.2 20 (ix p2)) ||| (1 <<< (p1 &&& 31)))) 21 ((u.1 21) + 1)))) inwX1_deliver 0 rfl rfl 21 (by decide) (List.mem_of_getElem? (i := 3) rfl) rfl tyX1 tyX1_ok nmX1 rfl rfl rfl (Nat.le_of_ble_eq_true rfl) (wX1_p21 _ _ _ _ _ _) dX1_deliver_33 ?_
  refine z_aload_n 0 dX1_deliver_36 rfl ?_
  refine z_get (C := RX1) (T := TX1) (N := 22) (v := .ref (a 14)) inwX1_deliver 0 rfl rfl 14 (by decide) (List.mem_of_getElem? (i := 4) rfl) rfl rfl dX1_deliver_37 ?_
  refine z_iload_n 2 dX1_deliver_40 rfl ?_
  refine z_zald (v := (u.2 14 (ix p2))) 11 1 rfl rfl (by first | (with_reducible assumption) | assumption | decide) rfl dX1_deliver_41 ?_
  refine z_if_eq 81 dX1_deliver_42 (by decide) (fun c_42_0 => ?_) (fun c_42_0 => ?_)
  ·
    exact hret (pF (pG (pG u 19 (ix p2) ((u.2 19 (ix p2)) &&& ((1 <<< (p1 &&& 31)) ^^^ (-1)))) 20 (ix p2) ((u.2 20 (ix p2)) ||| (1 <<< (p1 &&& 31)))) 21 ((u.1 21) + 1)) _ _ _ dX1_deliver_81 (by rw [s_X1_deliver, if_pos c_42_0]) rfl
  ·
    refine z_aload_n 0 dX1_deliver_45 rfl ?_
    refine z_get (C := RX1) (T := TX1) (N := 22) (v := .ref (a 6)) inwX1_deliver 0 rfl rfl 6 (by decide) (List.mem_of_getElem? (i := 5) rfl) rfl rfl dX1_deliver_46 ?_
    refine z_iload_n 1 dX1_deliver_49 rfl ?_
    refine z_zald (v := (u.2 6 (ix p1))) 4 1 rfl rfl (by first | (with_reducible assumption) | assumption | decide) rfl dX1_deliver_50 ?_
    refine z_if_eq 81 dX1_deliver_51 (by decide) (fun c_51_1 => ?_) (fun c_51_1 => ?_)
    ·
      exact hret (pF (pG (pG u 19 (ix p2) ((u.2 19 (ix p2)) &&& ((1 <<< (p1 &&& 31)) ^^^ (-1)))) 20 (ix p2) ((u.2 20 (ix p2)) ||| (1 <<< (p1 &&& 31)))) 21 ((u.1 21) + 1)) _ _ _ dX1_deliver_81 (by rw [s_X1_deliver, if_neg c_42_0, if_pos c_51_1]) rfl
    ·
      refine z_aload_n 0 dX1_deliver_54 rfl ?_
      refine z_get (C := RX1) (T := TX1) (N := 22) (v := .ref (a 12)) inwX1_deliver 0 rfl rfl 12 (by decide) (List.mem_of_getElem? (i := 6) rfl) rfl rfl dX1_deliver_55 ?_
      refine z_iload_n 1 dX1_deliver_58 rfl ?_
      refine z_aload_n 0 dX1_deliver_59 rfl ?_
      refine z_iload_n 1 dX1_deliver_60 rfl ?_
      refine z_callVi (As := [.int p1]) (st := [.int p1, .ref (a 12)]) (fun l => c_X1_used l D cI cZ h a (pF (pG (pG u 19 (ix p2) ((u.2 19 (ix p2)) &&& ((1 <<< (p1 &&& 31)) ^^^ (-1)))) 20 (ix p2) ((u.2 20 (ix p2)) ||| (1 <<< (p1 &&& 31)))) 21 ((u.1 21) + 1)) p1 (by first | (with_reducible assumption) | assumption | decide)) zGok_TT (fun _ _ _ => trivial) (fun s args hts => cwV 1 hts gX1_deliver_X1_used rfl rfl rfl (by decide +kernel) ⟨Nat.le_of_ble_eq_true rfl, Nat.le_of_ble_eq_true rfl⟩) (ci := 1) rfl rfl rfl rfl (Nat.le_of_ble_eq_true rfl) ⟨Nat.le_of_ble_eq_true rfl, Nat.le_of_ble_eq_true rfl⟩ dX1_deliver_61 rfl (fun r u2 hp => ?_)
      subst hp
      refine z_iconst (v := 1) dX1_deliver_64 rfl ?_
      refine z_iadd dX1_deliver_65 ?_
      refine z_iast (w' := (wX1 cI cZ h a (pG (pF (pG (pG u 19 (ix p2) ((u.2 19 (ix p2)) &&& ((1 <<< (p1 &&& 31)) ^^^ (-1)))) 20 (ix p2) ((u.2 20 (ix p2)) ||| (1 <<< (p1 &&& 31)))) 21 ((u.1 21) + 1)) 12 (ix p1) ((r_X1_used (pF (pG (pG u 19 (ix p2) ((u.2 19 (ix p2)) &&& ((1 <<< (p1 &&& 31)) ^^^ (-1)))) 20 (ix p2) ((u.2 20 (ix p2)) ||| (1 <<< (p1 &&& 31)))) 21 ((u.1 21) + 1)) p1) + 1)))) 10 0 rfl rfl (by first | (with_reducible assumption) | assumption | decide) (wX1_g12 _ _ _ _ _ _ _) dX1_deliver_66 ?_
      refine z_aload_n 0 dX1_deliver_67 rfl ?_
      refine z_get (C := RX1) (T := TX1) (N := 22) (v := .ref (a 11)) inwX1_deliver 0 rfl rfl 11 (by decide) (List.mem_of_getElem? (i := 7) rfl) rfl rfl dX1_deliver_68 ?_
      refine z_iload_n 1 dX1_deliver_71 rfl ?_
      refine z_aload_n 0 dX1_deliver_72 rfl ?_
      refine z_get (C := RX1) (T := TX1) (N := 22) (v := .int (u.1 1)) inwX1_deliver 0 rfl rfl 1 (by decide) (List.mem_of_getElem? (i := 8) rfl) rfl rfl dX1_deliver_73 ?_
      refine z_sipush (v := 1440) dX1_deliver_76 rfl ?_
      refine z_idiv dX1_deliver_79 (by decide) ?_
      refine z_iast (w' := (wX1 cI cZ h a (pG (pG (pF (pG (pG u 19 (ix p2) ((u.2 19 (ix p2)) &&& ((1 <<< (p1 &&& 31)) ^^^ (-1)))) 20 (ix p2) ((u.2 20 (ix p2)) ||| (1 <<< (p1 &&& 31)))) 21 ((u.1 21) + 1)) 12 (ix p1) ((r_X1_used (pF (pG (pG u 19 (ix p2) ((u.2 19 (ix p2)) &&& ((1 <<< (p1 &&& 31)) ^^^ (-1)))) 20 (ix p2) ((u.2 20 (ix p2)) ||| (1 <<< (p1 &&& 31)))) 21 ((u.1 21) + 1)) p1) + 1)) 11 (ix p1) ((u.1 1) / 1440)))) 9 0 rfl rfl (by first | (with_reducible assumption) | assumption | decide) (wX1_g11 _ _ _ _ _ _ _) dX1_deliver_80 ?_
      exact hret (pG (pG (pF (pG (pG u 19 (ix p2) ((u.2 19 (ix p2)) &&& ((1 <<< (p1 &&& 31)) ^^^ (-1)))) 20 (ix p2) ((u.2 20 (ix p2)) ||| (1 <<< (p1 &&& 31)))) 21 ((u.1 21) + 1)) 12 (ix p1) ((r_X1_used (pF (pG (pG u 19 (ix p2) ((u.2 19 (ix p2)) &&& ((1 <<< (p1 &&& 31)) ^^^ (-1)))) 20 (ix p2) ((u.2 20 (ix p2)) ||| (1 <<< (p1 &&& 31)))) 21 ((u.1 21) + 1)) p1) + 1)) 11 (ix p1) ((u.1 1) / 1440)) _ _ _ dX1_deliver_81 (by rw [s_X1_deliver, if_neg c_42_0, if_neg c_51_1]) rfl
