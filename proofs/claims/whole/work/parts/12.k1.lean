set_option maxHeartbeats 4000000 in
set_option maxRecDepth 100000 in
theorem c_J6_bitCount_0f7a4 (l : Launch) (D : va_G) (tys : List (ClassId × FieldType)) (w0 : va_W) (p1 : Int32)  : zMi l yJ6_bitCount_0f7a4 wsJ6_bitCount_0f7a4 ({ frames := 0, cells := 0, slots := 0, locals := 0 } : Room) zTT D tys w0 [.int p1] (fun (r : Int32) (_ : Unit) => r = r_J6_bitCount_0f7a4 p1) (fun _ => w0) 0 0 := by
  refine z_startI (cc := cJ6_bitCount_0f7a4) (n := 1) (own := RJ6) (L0 := [(0, .int p1)]) (plainFor_of_name (by decide)) rfl rfl (Nat.le_of_ble_eq_true rfl) rfl (fun E hret => ?_)
  refine z_iload_n 0 dJ6_bitCount_0f7a4_0 rfl ?_
  refine z_iload_n 0 dJ6_bitCount_0f7a4_1 rfl ?_
  refine z_iconst (v := 1) dJ6_bitCount_0f7a4_2 rfl ?_
  refine z_iushr (v := (ushr p1 1)) dJ6_bitCount_0f7a4_3 rfl ?_
  refine z_ldcw (v := 1431655765) (List.mem_of_getElem? (i := 1) rfl) dJ6_bitCount_0f7a4_4 ?_
  refine z_iand dJ6_bitCount_0f7a4_7 ?_
  refine z_isub dJ6_bitCount_0f7a4_8 ?_
  refine z_istore_n (L' := [(0, .int (bc1 p1))]) dJ6_bitCount_0f7a4_9 (by decide) rfl ?_
  refine z_iload_n 0 dJ6_bitCount_0f7a4_10 rfl ?_
  refine z_ldcw (v := 858993459) (List.mem_of_getElem? (i := 2) rfl) dJ6_bitCount_0f7a4_11 ?_
  refine z_iand dJ6_bitCount_0f7a4_14 ?_
  refine z_iload_n 0 dJ6_bitCount_0f7a4_15 rfl ?_
  refine z_iconst (v := 2) dJ6_bitCount_0f7a4_16 rfl ?_
  refine z_iushr (v := (ushr (bc1 p1) 2)) dJ6_bitCount_0f7a4_17 rfl ?_
  refine z_ldcw (v := 858993459) (List.mem_of_getElem? (i := 2) rfl) dJ6_bitCount_0f7a4_18 ?_
  refine z_iand dJ6_bitCount_0f7a4_21 ?_
  refine z_iadd dJ6_bitCount_0f7a4_22 ?_
  refine z_istore_n (L' := [(0, .int (bc2 (bc1 p1)))]) dJ6_bitCount_0f7a4_23 (by decide) rfl ?_
  refine z_iload_n 0 dJ6_bitCount_0f7a4_24 rfl ?_
  refine z_iload_n 0 dJ6_bitCount_0f7a4_25 rfl ?_
  refine z_iconst (v := 4) dJ6_bitCount_0f7a4_26 rfl ?_
  refine z_iushr (v := (ushr (bc2 (bc1 p1)) 4)) dJ6_bitCount_0f7a4_27 rfl ?_
  refine z_iadd dJ6_bitCount_0f7a4_28 ?_
  refine z_ldcw (v := 252645135) (List.mem_of_getElem? (i := 3) rfl) dJ6_bitCount_0f7a4_29 ?_
  refine z_iand dJ6_bitCount_0f7a4_32 ?_
  refine z_istore_n (L' := [(0, .int (bc3 (bc2 (bc1 p1))))]) dJ6_bitCount_0f7a4_33 (by decide) rfl ?_
  refine z_iload_n 0 dJ6_bitCount_0f7a4_34 rfl ?_
  refine z_iload_n 0 dJ6_bitCount_0f7a4_35 rfl ?_
  refine z_bipush (v := 8) dJ6_bitCount_0f7a4_36 rfl ?_
  refine z_iushr (v := (ushr (bc3 (bc2 (bc1 p1))) 8)) dJ6_bitCount_0f7a4_38 rfl ?_
  refine z_iadd dJ6_bitCount_0f7a4_39 ?_
  refine z_istore_n (L' := [(0, .int (bc4 (bc3 (bc2 (bc1 p1)))))]) dJ6_bitCount_0f7a4_40 (by decide) rfl ?_
  refine z_iload_n 0 dJ6_bitCount_0f7a4_41 rfl ?_
  refine z_iload_n 0 dJ6_bitCount_0f7a4_42 rfl ?_
  refine z_bipush (v := 16) dJ6_bitCount_0f7a4_43 rfl ?_
  refine z_iushr (v := (ushr (bc4 (bc3 (bc2 (bc1 p1)))) 16)) dJ6_bitCount_0f7a4_45 rfl ?_
  refine z_iadd dJ6_bitCount_0f7a4_46 ?_
  refine z_istore_n (L' := [(0, .int (bc5 (bc4 (bc3 (bc2 (bc1 p1))))))]) dJ6_bitCount_0f7a4_47 (by decide) rfl ?_
  refine z_iload_n 0 dJ6_bitCount_0f7a4_48 rfl ?_
  refine z_bipush (v := 63) dJ6_bitCount_0f7a4_49 rfl ?_
  refine z_iand dJ6_bitCount_0f7a4_51 ?_
  exact hret _ () _ _ _ dJ6_bitCount_0f7a4_52 (by rw [r_J6_bitCount_0f7a4]) rfl
set_option maxHeartbeats 4000000 in
set_option maxRecDepth 100000 in
theorem c_X0_deliver (l : Launch) (D : va_G) (cI cZ : ClassId) (h : Nat) (a : Nat → Nat) (u : SX) (p1 p2 : Int32) (hp1 : vp_in p1 120) (nd : Nat) (hnd : u.1 10 = nI nd) (hd : nd ≤ 16) : zMv l yX0_deliver wsX0_deliver ({ frames := 3, cells := 0, slots := 0, locals := 63 } : Room) zTT D [(cI, .int), (cZ, .boolean)] (wX0 cI cZ h a u) [.ref h, .int p1, .int p2] (fun u2 : SX => u2 = s_X0_deliver u p1 p2) (fun u2 => (wX0 cI cZ h a u2)) 0 0 := by
  refine z_startV (cc := cX0_deliver) (n := 3) (own := RX0) (L0 := [(0, .ref h), (1, .int p1), (2, .int p2)]) (plainFor_of_name (by decide)) rfl rfl (Nat.le_of_ble_eq_true rfl) rfl (fun E hret => ?_)
  have hixnd : ix (u.1 10) = nd := by rw [hnd]; exact nI_clamp (by omega)
  refine z_aload_n 0 dX0_deliver_0 rfl ?_
  refine z_get (C := RX0) (T := TX0) (N := 19) (v := .ref (a 13)) inwX0_deliver 0 rfl rfl 13 (by decide) (List.mem_of_getElem? (i := 1) rfl) rfl rfl dX0_deliver_1 ?_
  refine z_iload_n 1 dX0_deliver_4 rfl ?_
  refine z_dup2 dX0_deliver_5 rfl rfl ?_
  refine z_iald (v := (u.2 13 (ix p1))) 10 0 rfl rfl (by first | assumption | exact hnd | exact zdev hnd hd (by assumption) | decide) rfl dX0_deliver_6 ?_
  refine z_iload_n 2 dX0_deliver_7 rfl ?_
  refine z_iconst (v := (-1)) dX0_deliver_8 rfl ?_
  refine z_ixor dX0_deliver_9 ?_
  refine z_iand dX0_deliver_10 ?_
  refine z_iast (w' := (wX0 cI cZ h a (pG u 13 (ix p1) ((u.2 13 (ix p1)) &&& (p2 ^^^ (-1)))))) 10 0 rfl rfl (by first | assumption | exact hnd | exact zdev hnd hd (by assumption) | decide) (wX0_g13 _ _ _ _ _ _ _) dX0_deliver_11 ?_
  refine z_aload_n 0 dX0_deliver_12 rfl ?_
  refine z_get (C := RX0) (T := TX0) (N := 19) (v := .ref (a 14)) inwX0_deliver 0 rfl rfl 14 (by decide) (List.mem_of_getElem? (i := 2) rfl) rfl rfl dX0_deliver_13 ?_
  refine z_iload_n 1 dX0_deliver_16 rfl ?_
  refine z_dup2 dX0_deliver_17 rfl rfl ?_
  refine z_iald (v := (u.2 14 (ix p1))) 11 0 rfl rfl (by first | assumption | exact hnd | exact zdev hnd hd (by assumption) | decide) rfl dX0_deliver_18 ?_
  refine z_iload_n 2 dX0_deliver_19 rfl ?_
  refine z_ior dX0_deliver_20 ?_
  refine z_iast (w' := (wX0 cI cZ h a (pG (pG u 13 (ix p1) ((u.2 13 (ix p1)) &&& (p2 ^^^ (-1)))) 14 (ix p1) ((u.2 14 (ix p1)) ||| p2)))) 11 0 rfl rfl (by first | assumption | exact hnd | exact zdev hnd hd (by assumption) | decide) (wX0_g14 _ _ _ _ _ _ _) dX0_deliver_21 ?_
  refine z_aload_n 0 dX0_deliver_22 rfl ?_
  refine z_dup dX0_deliver_23 rfl ?_
  refine z_get (C := RX0) (T := TX0) (N := 19) (v := .int (u.1 18)) inwX0_deliver 0 rfl rfl 18 (by decide) (List.mem_of_getElem? (i := 3) rfl) rfl rfl dX0_deliver_24 ?_
  refine z_iload_n 2 dX0_deliver_27 rfl ?_
  refine z_callSi (As := [.int p2]) (st := [.int (u.1 18), .ref h]) (fun l => c_J6_bitCount_0f7a4 l D _ _ p2) zGok_TT (fun _ _ _ => trivial) (fun s args hts => va_cwS 1 hts gX0_deliver_J6_bitCount_0f7a4 rfl rfl rfl (by decide +kernel) ⟨Nat.le_of_ble_eq_true rfl, Nat.le_of_ble_eq_true rfl⟩) rfl (Nat.le_of_ble_eq_true rfl) ⟨Nat.le_of_ble_eq_true rfl, Nat.le_of_ble_eq_true rfl⟩ dX0_deliver_28 rfl (fun r u2 hp => ?_)
  subst hp
  refine z_iadd dX0_deliver_31 ?_
  refine z_put (C := RX0) (T := TX0) (N := 19) (v := .int ((u.1 18) + (r_J6_bitCount_0f7a4 p2))) (w' := (wX0 cI cZ h a (pF (pG (pG u 13 (ix p1) ((u.2 13 (ix p1)) &&& (p2 ^^^ (-1)))) 14 (ix p1) ((u.2 14 (ix p1)) ||| p2)) 18 ((u.1 18) + (r_J6_bitCount_0f7a4 p2))))) inwX0_deliver 0 rfl rfl 18 (by decide) (List.mem_of_getElem? (i := 3) rfl) rfl tyX0 tyX0_ok nmX0 rfl rfl rfl (by decide) (wX0_p18 _ _ _ _ _ _) dX0_deliver_32 ?_
  refine z_aload_n 0 dX0_deliver_35 rfl ?_
  refine z_get (C := RX0) (T := TX0) (N := 19) (v := .ref (a 11)) inwX0_deliver 0 rfl rfl 11 (by decide) (List.mem_of_getElem? (i := 4) rfl) rfl rfl dX0_deliver_36 ?_
  refine z_iload_n 1 dX0_deliver_39 rfl ?_
  refine z_zald (v := (u.2 11 (ix p1))) 8 1 rfl rfl (by first | assumption | exact hnd | exact zdev hnd hd (by assumption) | decide) rfl dX0_deliver_40 ?_
  refine z_if_eq 54 dX0_deliver_41 (by decide) (fun c_41_0 => ?_) (fun c_41_0 => ?_)
  ·
    exact hret (pF (pG (pG u 13 (ix p1) ((u.2 13 (ix p1)) &&& (p2 ^^^ (-1)))) 14 (ix p1) ((u.2 14 (ix p1)) ||| p2)) 18 ((u.1 18) + (r_J6_bitCount_0f7a4 p2))) _ _ _ dX0_deliver_54 (by rw [s_X0_deliver, if_pos c_41_0]) rfl
  ·
    refine z_aload_n 0 dX0_deliver_44 rfl ?_
    refine z_iload_n 2 dX0_deliver_45 rfl ?_
    refine z_aload_n 0 dX0_deliver_46 rfl ?_
    refine z_get (C := RX0) (T := TX0) (N := 19) (v := .int (u.1 4)) inwX0_deliver 0 rfl rfl 4 (by decide) (List.mem_of_getElem? (i := 5) rfl) rfl rfl dX0_deliver_47 ?_
    refine z_iand dX0_deliver_50 ?_
    refine z_callVv (As := [.int (p2 &&& (u.1 4))]) (st := []) (fun l => c_X0_spendQuota l D cI cZ h a (pF (pG (pG u 13 (ix p1) ((u.2 13 (ix p1)) &&& (p2 ^^^ (-1)))) 14 (ix p1) ((u.2 14 (ix p1)) ||| p2)) 18 ((u.1 18) + (r_J6_bitCount_0f7a4 p2))) (p2 &&& (u.1 4)) nd (by first | assumption | exact hnd | exact zdev hnd hd (by assumption) | decide) (by first | assumption | exact hnd | exact zdev hnd hd (by assumption) | decide)) zGok_TT (fun _ _ _ => trivial) (fun s args hts => cwV 1 hts gX0_deliver_X0_spendQuota rfl rfl rfl (by decide +kernel) ⟨Nat.le_of_ble_eq_true rfl, Nat.le_of_ble_eq_true rfl⟩) (ci := 0) rfl rfl rfl rfl (Nat.le_of_ble_eq_true rfl) ⟨Nat.le_of_ble_eq_true rfl, Nat.le_of_ble_eq_true rfl⟩ dX0_deliver_51 rfl (fun u2 hp => ?_)
    subst hp
    exact hret (s_X0_spendQuota (pF (pG (pG u 13 (ix p1) ((u.2 13 (ix p1)) &&& (p2 ^^^ (-1)))) 14 (ix p1) ((u.2 14 (ix p1)) ||| p2)) 18 ((u.1 18) + (r_J6_bitCount_0f7a4 p2))) (p2 &&& (u.1 4))) _ _ _ dX0_deliver_54 (by rw [s_X0_deliver, if_neg c_41_0]) rfl
set_option maxHeartbeats 4000000 in
set_option maxRecDepth 100000 in
theorem c_X0_openToNormal (l : Launch) (D : va_G) (cI cZ : ClassId) (h : Nat) (a : Nat → Nat) (u : SX)  (nd : Nat) (hnd : u.1 10 = nI nd) (hd : nd ≤ 16) : zMi l yX0_openToNormal wsX0_openToNormal ({ frames := 3, cells := 0, slots := 0, locals := 66 } : Room) zTT D [(cI, .int), (cZ, .boolean)] (wX0 cI cZ h a u) [.ref h] (fun (r : Int32) (_ : Unit) => r = r_X0_openToNormal u) (fun _ => (wX0 cI cZ h a u)) 0 0 := by
  refine z_startI (cc := cX0_openToNormal) (n := 3) (own := RX0) (L0 := [(0, .ref h)]) (plainFor_of_name (by decide)) rfl rfl (Nat.le_of_ble_eq_true rfl) rfl (fun E hret => ?_)
  have hixnd : ix (u.1 10) = nd := by rw [hnd]; exact nI_clamp (by omega)
  refine z_aload_n 0 dX0_openToNormal_0 rfl ?_
  refine z_get (C := RX0) (T := TX0) (N := 19) (v := .int (u.1 17)) inwX0_openToNormal 0 rfl rfl 17 (by decide) (List.mem_of_getElem? (i := 1) rfl) rfl rfl dX0_openToNormal_1 ?_
  refine z_bipush (v := 60) dX0_openToNormal_4 rfl ?_
  refine z_irem dX0_openToNormal_6 (by decide) ?_
  have hJ28 : ZW E zTT ({ frames := 3, cells := 0, slots := 0, locals := 66 } : Room) cX0_openToNormal RX0 wsX0_openToNormal 3 D [(cI, .int), (cZ, .boolean)] 0 0 (wX0 cI cZ h a u) 28 [(0, .ref h)] [.int (if ((u.1 17) - (u.1 17) / 60 * 60) = 0 then (u.1 3) else ((u.1 3) &&& ((u.1 4) ^^^ (-1))))] := by
    refine z_istore_n (L' := [(1, .int (if ((u.1 17) - (u.1 17) / 60 * 60) = 0 then (u.1 3) else ((u.1 3) &&& ((u.1 4) ^^^ (-1))))), (0, .ref h)]) dX0_openToNormal_28 (by decide) rfl ?_
    refine z_iconst (v := 0) dX0_openToNormal_29 rfl ?_
    refine z_istore_n (L' := [(2, .int 0), (1, .int (if ((u.1 17) - (u.1 17) / 60 * 60) = 0 then (u.1 3) else ((u.1 3) &&& ((u.1 4) ^^^ (-1))))), (0, .ref h)]) dX0_openToNormal_30 (by decide) rfl ?_
    refine z_sub (L' := [(0, .ref h), (1, .int (if ((u.1 17) - (u.1 17) / 60 * 60) = 0 then (u.1 3) else ((u.1 3) &&& ((u.1 4) ^^^ (-1))))), (2, .int 0)]) [2, 1, 0] rfl ?_
    have hloop31 : ∀ r k31 : Nat, k31 + r = nd → ZW E zTT ({ frames := 3, cells := 0, slots := 0, locals := 66 } : Room) cX0_openToNormal RX0 wsX0_openToNormal 3 D [(cI, .int), (cZ, .boolean)] 0 0 (wX0 cI cZ h a u) 31 [(0, .ref h), (1, .int (l_X0_openToNormal_31 u k31)), (2, .int (nI k31))] [] := by
      intro r
      induction r with
      | zero =>
        intro k31 hk31
        have hkN31 : nd = k31 := by omega
        subst hkN31
        refine z_iload_n 2 dX0_openToNormal_31 rfl ?_
        refine z_aload_n 0 dX0_openToNormal_32 rfl ?_
        refine z_get (C := RX0) (T := TX0) (N := 19) (v := .int (u.1 10)) inwX0_openToNormal 0 rfl rfl 10 (by decide) (List.mem_of_getElem? (i := 4) rfl) rfl rfl dX0_openToNormal_33 ?_
        refine z_icmp_ge 60 dX0_openToNormal_36 (by decide) (fun c_36_2 => ?_) (fun c_36_2 => ?_)
        ·
          refine z_iload_n 1 dX0_openToNormal_60 rfl ?_
          exact hret _ () _ _ _ dX0_openToNormal_61 (by rw [r_X0_openToNormal, hixnd]) rfl
        · exact absurd (by rw [hnd]; exact nI_le (Nat.le_refl _) (by omega)) c_36_2
      | succ r ih31 =>
        intro k31 hk31
        obtain ⟨x31, hx31⟩ : ∃ x, x = l_X0_openToNormal_31 u k31 := ⟨_, rfl⟩
        rw [← hx31]
        refine z_iload_n 2 dX0_openToNormal_31 rfl ?_
        refine z_aload_n 0 dX0_openToNormal_32 rfl ?_
        refine z_get (C := RX0) (T := TX0) (N := 19) (v := .int (u.1 10)) inwX0_openToNormal 0 rfl rfl 10 (by decide) (List.mem_of_getElem? (i := 4) rfl) rfl rfl dX0_openToNormal_33 ?_
        refine z_icmp_ge 60 dX0_openToNormal_36 (by decide) (fun c_36_1 => ?_) (fun c_36_1 => ?_)
        · exact absurd c_36_1 (by rw [hnd]; exact nI_ge (by omega) (by omega))
        ·
          refine z_aload_n 0 dX0_openToNormal_39 rfl ?_
          refine z_iload_n 2 dX0_openToNormal_40 rfl ?_
          refine z_callVi (As := [.int (nI k31)]) (st := []) (fun l => c_X0_isInQuietHours l D cI cZ h a u (nI k31) (by first | assumption | exact vp_in_nI (by omega) (by omega) | exact hnd | exact zdev hnd hd (by assumption) | decide)) zGok_TT (fun _ _ _ => trivial) (fun s args hts => cwV 1 hts gX0_openToNormal_X0_isInQuietHours rfl rfl rfl (by decide +kernel) ⟨Nat.le_of_ble_eq_true rfl, Nat.le_of_ble_eq_true rfl⟩) (ci := 0) rfl rfl rfl rfl (Nat.le_of_ble_eq_true rfl) ⟨Nat.le_of_ble_eq_true rfl, Nat.le_of_ble_eq_true rfl⟩ dX0_openToNormal_41 rfl (fun r u2 hp => ?_)
          subst hp
          refine z_if_eq 54 dX0_openToNormal_44 (by decide) (fun c_44_3 => ?_) (fun c_44_3 => ?_)
          ·
            refine z_iinc (v := (nI (k31 + 1))) (L' := [(2, .int (nI (k31 + 1))), (0, .ref h), (1, .int x31)]) 2 dX0_openToNormal_54 rfl (nI_1 k31) (by decide) rfl ?_
            refine z_goto 31 dX0_openToNormal_57 (by decide) ?_
            have hb31 : l_X0_openToNormal_31 u (k31 + 1) = x31 := by
              show b_X0_openToNormal_31 u k31 (l_X0_openToNormal_31 u k31) = _
              rw [← hx31, b_X0_openToNormal_31, if_pos c_44_3]
            refine z_sub (L' := [(0, .ref h), (1, .int x31), (2, .int (nI (k31 + 1)))]) [1, 2, 0] rfl ?_
            have ih2 := ih31 (k31 + 1) (by omega)
            rw [hb31] at ih2
            exact ih2
          ·
            refine z_iload_n 1 dX0_openToNormal_47 rfl ?_
            refine z_iload_n 2 dX0_openToNormal_48 rfl ?_
            refine z_iconst (v := 0) dX0_openToNormal_49 rfl ?_
            refine z_callSi (As := [.int x31, .int (nI k31), .int 0]) (st := []) (fun l => c_X0_changed l D _ _ x31 (nI k31) 0) zGok_TT (fun _ _ _ => trivial) (fun s args hts => va_cwS 3 hts gX0_openToNormal_X0_changed rfl rfl rfl (by decide +kernel) ⟨Nat.le_of_ble_eq_true rfl, Nat.le_of_ble_eq_true rfl⟩) rfl (Nat.le_of_ble_eq_true rfl) ⟨Nat.le_of_ble_eq_true rfl, Nat.le_of_ble_eq_true rfl⟩ dX0_openToNormal_50 rfl (fun r u2 hp => ?_)
            subst hp
            refine z_istore_n (L' := [(1, .int (r_X0_changed x31 (nI k31) 0)), (0, .ref h), (2, .int (nI k31))]) dX0_openToNormal_53 (by decide) rfl ?_
            refine z_iinc (v := (nI (k31 + 1))) (L' := [(2, .int (nI (k31 + 1))), (1, .int (r_X0_changed x31 (nI k31) 0)), (0, .ref h)]) 2 dX0_openToNormal_54 rfl (nI_1 k31) (by decide) rfl ?_
            refine z_goto 31 dX0_openToNormal_57 (by decide) ?_
            have hb31 : l_X0_openToNormal_31 u (k31 + 1) = (r_X0_changed x31 (nI k31) 0) := by
              show b_X0_openToNormal_31 u k31 (l_X0_openToNormal_31 u k31) = _
              rw [← hx31, b_X0_openToNormal_31, if_neg c_44_3]
            refine z_sub (L' := [(0, .ref h), (1, .int (r_X0_changed x31 (nI k31) 0)), (2, .int (nI (k31 + 1)))]) [2, 1, 0] rfl ?_
            have ih2 := ih31 (k31 + 1) (by omega)
            rw [hb31] at ih2
            exact ih2
    exact hloop31 nd 0 (by omega)
  refine z_if_ne 17 dX0_openToNormal_7 (by decide) (fun c_7_0 => ?_) (fun c_7_0 => ?_)
  ·
    refine z_aload_n 0 dX0_openToNormal_17 rfl ?_
    refine z_get (C := RX0) (T := TX0) (N := 19) (v := .int (u.1 3)) inwX0_openToNormal 0 rfl rfl 3 (by decide) (List.mem_of_getElem? (i := 2) rfl) rfl rfl dX0_openToNormal_18 ?_
    refine z_aload_n 0 dX0_openToNormal_21 rfl ?_
    refine z_get (C := RX0) (T := TX0) (N := 19) (v := .int (u.1 4)) inwX0_openToNormal 0 rfl rfl 4 (by decide) (List.mem_of_getElem? (i := 3) rfl) rfl rfl dX0_openToNormal_22 ?_
    refine z_iconst (v := (-1)) dX0_openToNormal_25 rfl ?_
    refine z_ixor dX0_openToNormal_26 ?_
    refine z_iand dX0_openToNormal_27 ?_
    refine z_sub (L' := [(0, .ref h)]) [0] rfl ?_
    simp only [if_neg c_7_0] at hJ28
    exact hJ28
  ·
    refine z_aload_n 0 dX0_openToNormal_10 rfl ?_
    refine z_get (C := RX0) (T := TX0) (N := 19) (v := .int (u.1 3)) inwX0_openToNormal 0 rfl rfl 3 (by decide) (List.mem_of_getElem? (i := 2) rfl) rfl rfl dX0_openToNormal_11 ?_
    refine z_goto 28 dX0_openToNormal_14 (by decide) ?_
    refine z_sub (L' := [(0, .ref h)]) [0] rfl ?_
    simp only [if_pos c_7_0] at hJ28
    exact hJ28
set_option maxHeartbeats 4000000 in
set_option maxRecDepth 100000 in
theorem c_X0_openToHigh (l : Launch) (D : va_G) (cI cZ : ClassId) (h : Nat) (a : Nat → Nat) (u : SX)  (nd : Nat) (hnd : u.1 10 = nI nd) (hd : nd ≤ 16) : zMi l yX0_openToHigh wsX0_openToHigh ({ frames := 2, cells := 0, slots := 0, locals := 42 } : Room) zTT D [(cI, .int), (cZ, .boolean)] (wX0 cI cZ h a u) [.ref h] (fun (r : Int32) (_ : Unit) => r = r_X0_openToHigh u) (fun _ => (wX0 cI cZ h a u)) 0 0 := by
  refine z_startI (cc := cX0_openToHigh) (n := 3) (own := RX0) (L0 := [(0, .ref h)]) (plainFor_of_name (by decide)) rfl rfl (Nat.le_of_ble_eq_true rfl) rfl (fun E hret => ?_)
  have hixnd : ix (u.1 10) = nd := by rw [hnd]; exact nI_clamp (by omega)
  refine z_aload_n 0 dX0_openToHigh_0 rfl ?_
  refine z_get (C := RX0) (T := TX0) (N := 19) (v := .int (u.1 3)) inwX0_openToHigh 0 rfl rfl 3 (by decide) (List.mem_of_getElem? (i := 1) rfl) rfl rfl dX0_openToHigh_1 ?_
  refine z_istore_n (L' := [(1, .int (u.1 3)), (0, .ref h)]) dX0_openToHigh_4 (by decide) rfl ?_
  refine z_iconst (v := 0) dX0_openToHigh_5 rfl ?_
  refine z_istore_n (L' := [(2, .int 0), (1, .int (u.1 3)), (0, .ref h)]) dX0_openToHigh_6 (by decide) rfl ?_
  refine z_sub (L' := [(0, .ref h), (1, .int (u.1 3)), (2, .int 0)]) [2, 1, 0] rfl ?_
  have hloop7 : ∀ r k7 : Nat, k7 + r = nd → ZW E zTT ({ frames := 2, cells := 0, slots := 0, locals := 42 } : Room) cX0_openToHigh RX0 wsX0_openToHigh 3 D [(cI, .int), (cZ, .boolean)] 0 0 (wX0 cI cZ h a u) 7 [(0, .ref h), (1, .int (l_X0_openToHigh_7 u k7)), (2, .int (nI k7))] [] := by
    intro r
    induction r with
    | zero =>
      intro k7 hk7
      have hkN7 : nd = k7 := by omega
      subst hkN7
      refine z_iload_n 2 dX0_openToHigh_7 rfl ?_
      refine z_aload_n 0 dX0_openToHigh_8 rfl ?_
      refine z_get (C := RX0) (T := TX0) (N := 19) (v := .int (u.1 10)) inwX0_openToHigh 0 rfl rfl 10 (by decide) (List.mem_of_getElem? (i := 2) rfl) rfl rfl dX0_openToHigh_9 ?_
      refine z_icmp_ge 48 dX0_openToHigh_12 (by decide) (fun c_12_1 => ?_) (fun c_12_1 => ?_)
      ·
        refine z_iload_n 1 dX0_openToHigh_48 rfl ?_
        exact hret _ () _ _ _ dX0_openToHigh_49 (by rw [r_X0_openToHigh, hixnd]) rfl
      · exact absurd (by rw [hnd]; exact nI_le (Nat.le_refl _) (by omega)) c_12_1
    | succ r ih7 =>
      intro k7 hk7
      obtain ⟨x7, hx7⟩ : ∃ x, x = l_X0_openToHigh_7 u k7 := ⟨_, rfl⟩
      rw [← hx7]
      refine z_iload_n 2 dX0_openToHigh_7 rfl ?_
      refine z_aload_n 0 dX0_openToHigh_8 rfl ?_
      refine z_get (C := RX0) (T := TX0) (N := 19) (v := .int (u.1 10)) inwX0_openToHigh 0 rfl rfl 10 (by decide) (List.mem_of_getElem? (i := 2) rfl) rfl rfl dX0_openToHigh_9 ?_
      refine z_icmp_ge 48 dX0_openToHigh_12 (by decide) (fun c_12_0 => ?_) (fun c_12_0 => ?_)
      · exact absurd c_12_0 (by rw [hnd]; exact nI_ge (by omega) (by omega))
      ·
        refine z_aload_n 0 dX0_openToHigh_15 rfl ?_
        refine z_get (C := RX0) (T := TX0) (N := 19) (v := .int (u.1 4)) inwX0_openToHigh 0 rfl rfl 4 (by decide) (List.mem_of_getElem? (i := 3) rfl) rfl rfl dX0_openToHigh_16 ?_
        refine z_iload_n 2 dX0_openToHigh_19 rfl ?_
        refine z_callSi (As := [.int (u.1 4), .int (nI k7)]) (st := []) (fun l => c_X0_has l D _ _ (u.1 4) (nI k7)) zGok_TT (fun _ _ _ => trivial) (fun s args hts => va_cwS 2 hts gX0_openToHigh_X0_has rfl rfl rfl (by decide +kernel) ⟨Nat.le_of_ble_eq_true rfl, Nat.le_of_ble_eq_true rfl⟩) rfl (Nat.le_of_ble_eq_true rfl) ⟨Nat.le_of_ble_eq_true rfl, Nat.le_of_ble_eq_true rfl⟩ dX0_openToHigh_20 rfl (fun r u2 hp => ?_)
        subst hp
        refine z_if_eq 42 dX0_openToHigh_23 (by decide) (fun c_23_2 => ?_) (fun c_23_2 => ?_)
        ·
          refine z_iinc (v := (nI (k7 + 1))) (L' := [(2, .int (nI (k7 + 1))), (0, .ref h), (1, .int x7)]) 2 dX0_openToHigh_42 rfl (nI_1 k7) (by decide) rfl ?_
          refine z_goto 7 dX0_openToHigh_45 (by decide) ?_
          have hb7 : l_X0_openToHigh_7 u (k7 + 1) = x7 := by
            show b_X0_openToHigh_7 u k7 (l_X0_openToHigh_7 u k7) = _
            rw [← hx7, b_X0_openToHigh_7, if_pos c_23_2]
          refine z_sub (L' := [(0, .ref h), (1, .int x7), (2, .int (nI (k7 + 1)))]) [1, 2, 0] rfl ?_
          have ih2 := ih7 (k7 + 1) (by omega)
          rw [hb7] at ih2
          exact ih2
        ·
          refine z_aload_n 0 dX0_openToHigh_26 rfl ?_
          refine z_iload_n 2 dX0_openToHigh_27 rfl ?_
          refine z_callVi (As := [.int (nI k7)]) (st := []) (fun l => c_X0_spentToday l D cI cZ h a u (nI k7) (by first | assumption | exact vp_in_nI (by omega) (by omega) | exact hnd | exact zdev hnd hd (by assumption) | decide)) zGok_TT (fun _ _ _ => trivial) (fun s args hts => cwV 1 hts gX0_openToHigh_X0_spentToday rfl rfl rfl (by decide +kernel) ⟨Nat.le_of_ble_eq_true rfl, Nat.le_of_ble_eq_true rfl⟩) (ci := 0) rfl rfl rfl rfl (Nat.le_of_ble_eq_true rfl) ⟨Nat.le_of_ble_eq_true rfl, Nat.le_of_ble_eq_true rfl⟩ dX0_openToHigh_28 rfl (fun r u2 hp => ?_)
          subst hp
          refine z_iconst (v := 3) dX0_openToHigh_31 rfl ?_
          refine z_icmp_lt 42 dX0_openToHigh_32 (by decide) (fun c_32_3 => ?_) (fun c_32_3 => ?_)
          ·
            refine z_iinc (v := (nI (k7 + 1))) (L' := [(2, .int (nI (k7 + 1))), (0, .ref h), (1, .int x7)]) 2 dX0_openToHigh_42 rfl (nI_1 k7) (by decide) rfl ?_
            refine z_goto 7 dX0_openToHigh_45 (by decide) ?_
            have hb7 : l_X0_openToHigh_7 u (k7 + 1) = x7 := by
              show b_X0_openToHigh_7 u k7 (l_X0_openToHigh_7 u k7) = _
              rw [← hx7, b_X0_openToHigh_7, if_neg c_23_2, if_pos c_32_3]
            refine z_sub (L' := [(0, .ref h), (1, .int x7), (2, .int (nI (k7 + 1)))]) [1, 2, 0] rfl ?_
            have ih2 := ih7 (k7 + 1) (by omega)
            rw [hb7] at ih2
            exact ih2
          ·
            refine z_iload_n 1 dX0_openToHigh_35 rfl ?_
            refine z_iload_n 2 dX0_openToHigh_36 rfl ?_
            refine z_iconst (v := 0) dX0_openToHigh_37 rfl ?_
            refine z_callSi (As := [.int x7, .int (nI k7), .int 0]) (st := []) (fun l => c_X0_changed l D _ _ x7 (nI k7) 0) zGok_TT (fun _ _ _ => trivial) (fun s args hts => va_cwS 3 hts gX0_openToHigh_X0_changed rfl rfl rfl (by decide +kernel) ⟨Nat.le_of_ble_eq_true rfl, Nat.le_of_ble_eq_true rfl⟩) rfl (Nat.le_of_ble_eq_true rfl) ⟨Nat.le_of_ble_eq_true rfl, Nat.le_of_ble_eq_true rfl⟩ dX0_openToHigh_38 rfl (fun r u2 hp => ?_)
            subst hp
            refine z_istore_n (L' := [(1, .int (r_X0_changed x7 (nI k7) 0)), (0, .ref h), (2, .int (nI k7))]) dX0_openToHigh_41 (by decide) rfl ?_
            refine z_iinc (v := (nI (k7 + 1))) (L' := [(2, .int (nI (k7 + 1))), (1, .int (r_X0_changed x7 (nI k7) 0)), (0, .ref h)]) 2 dX0_openToHigh_42 rfl (nI_1 k7) (by decide) rfl ?_
            refine z_goto 7 dX0_openToHigh_45 (by decide) ?_
            have hb7 : l_X0_openToHigh_7 u (k7 + 1) = (r_X0_changed x7 (nI k7) 0) := by
              show b_X0_openToHigh_7 u k7 (l_X0_openToHigh_7 u k7) = _
              rw [← hx7, b_X0_openToHigh_7, if_neg c_23_2, if_neg c_32_3]
            refine z_sub (L' := [(0, .ref h), (1, .int (r_X0_changed x7 (nI k7) 0)), (2, .int (nI (k7 + 1)))]) [2, 1, 0] rfl ?_
            have ih2 := ih7 (k7 + 1) (by omega)
            rw [hb7] at ih2
            exact ih2
  exact hloop7 nd 0 (by omega)
set_option maxHeartbeats 4000000 in
set_option maxRecDepth 100000 in
theorem c_X0_nextChance (l : Launch) (D : va_G) (cI cZ : ClassId) (h : Nat) (a : Nat → Nat) (u : SX)  (nd : Nat) (hnd : u.1 10 = nI nd) (hd : nd ≤ 16) : zMi l yX0_nextChance wsX0_nextChance ({ frames := 3, cells := 0, slots := 0, locals := 66 } : Room) zTT D [(cI, .int), (cZ, .boolean)] (wX0 cI cZ h a u) [.ref h] (fun (r : Int32) (_ : Unit) => r = r_X0_nextChance u) (fun _ => (wX0 cI cZ h a u)) 0 0 := by
  refine z_startI (cc := cX0_nextChance) (n := 4) (own := RX0) (L0 := [(0, .ref h)]) (plainFor_of_name (by decide)) rfl rfl (Nat.le_of_ble_eq_true rfl) rfl (fun E hret => ?_)
  have hixnd : ix (u.1 10) = nd := by rw [hnd]; exact nI_clamp (by omega)
  refine z_aload_n 0 dX0_nextChance_0 rfl ?_
  refine z_get (C := RX0) (T := TX0) (N := 19) (v := .int (u.1 17)) inwX0_nextChance 0 rfl rfl 17 (by decide) (List.mem_of_getElem? (i := 1) rfl) rfl rfl dX0_nextChance_1 ?_
  refine z_aload_n 0 dX0_nextChance_4 rfl ?_
  refine z_get (C := RX0) (T := TX0) (N := 19) (v := .int (u.1 17)) inwX0_nextChance 0 rfl rfl 17 (by decide) (List.mem_of_getElem? (i := 1) rfl) rfl rfl dX0_nextChance_5 ?_
  refine z_bipush (v := 60) dX0_nextChance_8 rfl ?_
  refine z_irem dX0_nextChance_10 (by decide) ?_
  refine z_isub dX0_nextChance_11 ?_
  refine z_bipush (v := 60) dX0_nextChance_12 rfl ?_
  refine z_iadd dX0_nextChance_14 ?_
  refine z_istore_n (L' := [(1, .int (((u.1 17) - ((u.1 17) - (u.1 17) / 60 * 60)) + 60)), (0, .ref h)]) dX0_nextChance_15 (by decide) rfl ?_
  refine z_iconst (v := 0) dX0_nextChance_16 rfl ?_
  refine z_istore_n (L' := [(2, .int 0), (1, .int (((u.1 17) - ((u.1 17) - (u.1 17) / 60 * 60)) + 60)), (0, .ref h)]) dX0_nextChance_17 (by decide) rfl ?_
  refine z_sub (L' := [(0, .ref h), (1, .int (((u.1 17) - ((u.1 17) - (u.1 17) / 60 * 60)) + 60)), (2, .int 0)]) [2, 1, 0] rfl ?_
  have hloop18 : ∀ r k18 : Nat, k18 + r = nd → ZW E zTT ({ frames := 3, cells := 0, slots := 0, locals := 66 } : Room) cX0_nextChance RX0 wsX0_nextChance 4 D [(cI, .int), (cZ, .boolean)] 0 0 (wX0 cI cZ h a u) 18 [(0, .ref h), (1, .int (l_X0_nextChance_18 u k18)), (2, .int (nI k18))] [] := by
    intro r
    induction r with
    | zero =>
      intro k18 hk18
      have hkN18 : nd = k18 := by omega
      subst hkN18
      refine z_iload_n 2 dX0_nextChance_18 rfl ?_
      refine z_aload_n 0 dX0_nextChance_19 rfl ?_
      refine z_get (C := RX0) (T := TX0) (N := 19) (v := .int (u.1 10)) inwX0_nextChance 0 rfl rfl 10 (by decide) (List.mem_of_getElem? (i := 2) rfl) rfl rfl dX0_nextChance_20 ?_
      refine z_icmp_ge 70 dX0_nextChance_23 (by decide) (fun c_23_1 => ?_) (fun c_23_1 => ?_)
      ·
        refine z_iload_n 1 dX0_nextChance_70 rfl ?_
        exact hret _ () _ _ _ dX0_nextChance_71 (by rw [r_X0_nextChance, hixnd]) rfl
      · exact absurd (by rw [hnd]; exact nI_le (Nat.le_refl _) (by omega)) c_23_1
    | succ r ih18 =>
      intro k18 hk18
      obtain ⟨x18, hx18⟩ : ∃ x, x = l_X0_nextChance_18 u k18 := ⟨_, rfl⟩
      rw [← hx18]
      refine z_iload_n 2 dX0_nextChance_18 rfl ?_
      refine z_aload_n 0 dX0_nextChance_19 rfl ?_
      refine z_get (C := RX0) (T := TX0) (N := 19) (v := .int (u.1 10)) inwX0_nextChance 0 rfl rfl 10 (by decide) (List.mem_of_getElem? (i := 2) rfl) rfl rfl dX0_nextChance_20 ?_
      refine z_icmp_ge 70 dX0_nextChance_23 (by decide) (fun c_23_0 => ?_) (fun c_23_0 => ?_)
      · exact absurd c_23_0 (by rw [hnd]; exact nI_ge (by omega) (by omega))
      ·
        refine z_aload_n 0 dX0_nextChance_26 rfl ?_
        refine z_iload_n 2 dX0_nextChance_27 rfl ?_
        refine z_callVi (As := [.int (nI k18)]) (st := []) (fun l => c_X0_isInQuietHours l D cI cZ h a u (nI k18) (by first | assumption | exact vp_in_nI (by omega) (by omega) | exact hnd | exact zdev hnd hd (by assumption) | decide)) zGok_TT (fun _ _ _ => trivial) (fun s args hts => cwV 1 hts gX0_nextChance_X0_isInQuietHours rfl rfl rfl (by decide +kernel) ⟨Nat.le_of_ble_eq_true rfl, Nat.le_of_ble_eq_true rfl⟩) (ci := 0) rfl rfl rfl rfl (Nat.le_of_ble_eq_true rfl) ⟨Nat.le_of_ble_eq_true rfl, Nat.le_of_ble_eq_true rfl⟩ dX0_nextChance_28 rfl (fun r u2 hp => ?_)
        subst hp
        refine z_if_eq 64 dX0_nextChance_31 (by decide) (fun c_31_2 => ?_) (fun c_31_2 => ?_)
        ·
          refine z_iinc (v := (nI (k18 + 1))) (L' := [(2, .int (nI (k18 + 1))), (0, .ref h), (1, .int x18)]) 2 dX0_nextChance_64 rfl (nI_1 k18) (by decide) rfl ?_
          refine z_goto 18 dX0_nextChance_67 (by decide) ?_
          have hb18 : l_X0_nextChance_18 u (k18 + 1) = x18 := by
            show b_X0_nextChance_18 u k18 (l_X0_nextChance_18 u k18) = _
            rw [← hx18, b_X0_nextChance_18, if_pos c_31_2]
          refine z_sub (L' := [(0, .ref h), (1, .int x18), (2, .int (nI (k18 + 1)))]) [1, 2, 0] rfl ?_
          have ih2 := ih18 (k18 + 1) (by omega)
          rw [hb18] at ih2
          exact ih2
        ·
          refine z_aload_n 0 dX0_nextChance_34 rfl ?_
          refine z_get (C := RX0) (T := TX0) (N := 19) (v := .ref (a 7)) inwX0_nextChance 0 rfl rfl 7 (by decide) (List.mem_of_getElem? (i := 3) rfl) rfl rfl dX0_nextChance_35 ?_
          refine z_iload_n 2 dX0_nextChance_38 rfl ?_
          refine z_iald (v := (u.2 7 (ix (nI k18)))) 5 0 rfl rfl (vp_in_nI (by omega) (by omega)) rfl dX0_nextChance_39 ?_
          refine z_aload_n 0 dX0_nextChance_40 rfl ?_
          refine z_iload_n 2 dX0_nextChance_41 rfl ?_
          refine z_callVi (As := [.int (nI k18)]) (st := [.int (u.2 7 (ix (nI k18)))]) (fun l => c_X0_localTime l D cI cZ h a u (nI k18) (by first | assumption | exact vp_in_nI (by omega) (by omega) | exact hnd | exact zdev hnd hd (by assumption) | decide)) zGok_TT (fun _ _ _ => trivial) (fun s args hts => cwV 1 hts gX0_nextChance_X0_localTime rfl rfl rfl (by decide +kernel) ⟨Nat.le_of_ble_eq_true rfl, Nat.le_of_ble_eq_true rfl⟩) (ci := 0) rfl rfl rfl rfl (Nat.le_of_ble_eq_true rfl) ⟨Nat.le_of_ble_eq_true rfl, Nat.le_of_ble_eq_true rfl⟩ dX0_nextChance_42 rfl (fun r u2 hp => ?_)
          subst hp
          refine z_isub dX0_nextChance_45 ?_
          refine z_sipush (v := 1440) dX0_nextChance_46 rfl ?_
          refine z_callSi (As := [.int ((u.2 7 (ix (nI k18))) - (r_X0_localTime u (nI k18))), .int 1440]) (st := []) (fun l => c_J9_floorMod_7cf53 l D _ _ ((u.2 7 (ix (nI k18))) - (r_X0_localTime u (nI k18))) 1440 (by first | assumption | exact vp_in_nI (by omega) (by omega) | exact hnd | exact zdev hnd hd (by assumption) | decide)) zGok_TT (fun _ _ _ => trivial) (fun s args hts => va_cwS 2 hts gX0_nextChance_J9_floorMod_7cf53 rfl rfl rfl (by decide +kernel) ⟨Nat.le_of_ble_eq_true rfl, Nat.le_of_ble_eq_true rfl⟩) rfl (Nat.le_of_ble_eq_true rfl) ⟨Nat.le_of_ble_eq_true rfl, Nat.le_of_ble_eq_true rfl⟩ dX0_nextChance_49 rfl (fun r u2 hp => ?_)
          subst hp
          refine z_istore_n (L' := [(3, .int (r_J9_floorMod_7cf53 ((u.2 7 (ix (nI k18))) - (r_X0_localTime u (nI k18))) 1440)), (0, .ref h), (1, .int x18), (2, .int (nI k18))]) dX0_nextChance_52 (by decide) rfl ?_
          refine z_iload_n 2 dX0_nextChance_53 rfl ?_
          refine z_aload_n 1 dX0_nextChance_54 rfl ?_
          refine z_get (C := RX0) (T := TX0) (N := 19) (v := .int (u.1 17)) inwX0_nextChance 0 rfl rfl 17 (by decide) (List.mem_of_getElem? (i := 1) rfl) rfl rfl dX0_nextChance_55 ?_
          refine z_iload_n 0 dX0_nextChance_58 rfl ?_
          refine z_iadd dX0_nextChance_59 ?_
          refine z_mmin (List.mem_of_getElem? (i := 4) rfl) (List.mem_of_getElem? (i := 5) rfl) (List.mem_of_getElem? (i := 6) rfl) (List.mem_of_getElem? (i := 7) rfl) ⟨Nat.le_of_ble_eq_true rfl, Nat.le_of_ble_eq_true rfl, Nat.le_of_ble_eq_true rfl, Nat.le_of_ble_eq_true rfl⟩ (Nat.le_of_ble_eq_true rfl) dX0_nextChance_60 ?_
          refine z_istore_n (L' := [(1, .int (mnI x18 ((u.1 17) + (r_J9_floorMod_7cf53 ((u.2 7 (ix (nI k18))) - (r_X0_localTime u (nI k18))) 1440)))), (3, .int (r_J9_floorMod_7cf53 ((u.2 7 (ix (nI k18))) - (r_X0_localTime u (nI k18))) 1440)), (0, .ref h), (2, .int (nI k18))]) dX0_nextChance_63 (by decide) rfl ?_
          refine z_iinc (v := (nI (k18 + 1))) (L' := [(2, .int (nI (k18 + 1))), (1, .int (mnI x18 ((u.1 17) + (r_J9_floorMod_7cf53 ((u.2 7 (ix (nI k18))) - (r_X0_localTime u (nI k18))) 1440)))), (3, .int (r_J9_floorMod_7cf53 ((u.2 7 (ix (nI k18))) - (r_X0_localTime u (nI k18))) 1440)), (0, .ref h)]) 3 dX0_nextChance_64 rfl (nI_1 k18) (by decide) rfl ?_
          refine z_goto 18 dX0_nextChance_67 (by decide) ?_
          have hb18 : l_X0_nextChance_18 u (k18 + 1) = (mnI x18 ((u.1 17) + (r_J9_floorMod_7cf53 ((u.2 7 (ix (nI k18))) - (r_X0_localTime u (nI k18))) 1440))) := by
            show b_X0_nextChance_18 u k18 (l_X0_nextChance_18 u k18) = _
            rw [← hx18, b_X0_nextChance_18, if_neg c_31_2]
          refine z_sub (L' := [(0, .ref h), (1, .int (mnI x18 ((u.1 17) + (r_J9_floorMod_7cf53 ((u.2 7 (ix (nI k18))) - (r_X0_localTime u (nI k18))) 1440)))), (2, .int (nI (k18 + 1)))]) [3, 1, 0] rfl ?_
          have ih2 := ih18 (k18 + 1) (by omega)
          rw [hb18] at ih2
          exact ih2
  exact hloop18 nd 0 (by omega)
set_option maxHeartbeats 4000000 in
set_option maxRecDepth 100000 in
theorem c_X0_deliverNow (l : Launch) (D : va_G) (cI cZ : ClassId) (h : Nat) (a : Nat → Nat) (u : SX)  (nd : Nat) (hnd : u.1 10 = nI nd) (hd : nd ≤ 16) (nn : Nat) (hnn : u.1 16 = nI nn) (hn : nn ≤ 120) : zMi l yX0_deliverNow wsX0_deliverNow ({ frames := 4, cells := 0, slots := 0, locals := 88 } : Room) zTT D [(cI, .int), (cZ, .boolean)] (wX0 cI cZ h a u) [.ref h] (fun (r : Int32) (u2 : SX) => r = r_X0_deliverNow u ∧ u2 = s_X0_deliverNow u) (fun u2 => (wX0 cI cZ h a u2)) 0 0 := by
  refine z_startI (cc := cX0_deliverNow) (n := 5) (own := RX0) (L0 := [(0, .ref h)]) (plainFor_of_name (by decide)) rfl rfl (Nat.le_of_ble_eq_true rfl) rfl (fun E hret => ?_)
  have hixnn : ix (u.1 16) = nn := by rw [hnn]; exact nI_clamp (by omega)
  have hixnd : ix (u.1 10) = nd := by rw [hnd]; exact nI_clamp (by omega)
  refine z_aload_n 0 dX0_deliverNow_0 rfl ?_
  refine z_get (C := RX0) (T := TX0) (N := 19) (v := .int (u.1 18)) inwX0_deliverNow 0 rfl rfl 18 (by decide) (List.mem_of_getElem? (i := 1) rfl) rfl rfl dX0_deliverNow_1 ?_
  refine z_istore_n (L' := [(1, .int (u.1 18)), (0, .ref h)]) dX0_deliverNow_4 (by decide) rfl ?_
  refine z_aload_n 1 dX0_deliverNow_5 rfl ?_
  refine z_callVi (As := []) (st := []) (fun l => c_X0_openToNormal l D cI cZ h a u  nd (by first | assumption | exact vp_in_nI (by omega) (by omega) | exact hnd | exact zdev hnd hd (by assumption) | exact hnn | exact znot hnn hn (by assumption) | decide) (by first | assumption | exact vp_in_nI (by omega) (by omega) | exact hnd | exact zdev hnd hd (by assumption) | exact hnn | exact znot hnn hn (by assumption) | decide)) zGok_TT (fun _ _ _ => trivial) (fun s args hts => cwV 0 hts gX0_deliverNow_X0_openToNormal rfl rfl rfl (by decide +kernel) ⟨Nat.le_of_ble_eq_true rfl, Nat.le_of_ble_eq_true rfl⟩) (ci := 0) rfl rfl rfl rfl (Nat.le_of_ble_eq_true rfl) ⟨Nat.le_of_ble_eq_true rfl, Nat.le_of_ble_eq_true rfl⟩ dX0_deliverNow_6 rfl (fun r u2 hp => ?_)
  subst hp
  refine z_istore_n (L' := [(2, .int (r_X0_openToNormal u )), (1, .int (u.1 18)), (0, .ref h)]) dX0_deliverNow_9 (by decide) rfl ?_
  refine z_iconst (v := 0) dX0_deliverNow_10 rfl ?_
  refine z_istore_n (L' := [(3, .int 0), (2, .int (r_X0_openToNormal u )), (1, .int (u.1 18)), (0, .ref h)]) dX0_deliverNow_11 (by decide) rfl ?_
  refine z_sub (L' := [(0, .ref h), (1, .int (u.1 18)), (2, .int (r_X0_openToNormal u )), (3, .int 0)]) [3, 2, 1, 0] rfl ?_
  have hloop12 : ∀ r k12 : Nat, k12 + r = nn → ZW E zTT ({ frames := 4, cells := 0, slots := 0, locals := 88 } : Room) cX0_deliverNow RX0 wsX0_deliverNow 5 D [(cI, .int), (cZ, .boolean)] 0 0 (wX0 cI cZ h a (l_X0_deliverNow_12 u k12)) 12 [(0, .ref h), (1, .int (u.1 18)), (2, .int (r_X0_openToNormal u )), (3, .int (nI k12))] [] := by
    intro r
    induction r with
    | zero =>
      intro k12 hk12
      have hkN12 : nn = k12 := by omega
      subst hkN12
      have hbx : ((l_X0_deliverNow_12 u nn).1 16) = nI nn := by first | (rw [hx12, lf16_X0_deliverNow_12]; exact hnn) | (rw [lf16_X0_deliverNow_12]; exact hnn)
      have hbd : ((l_X0_deliverNow_12 u nn).1 10) = nI nd := by first | (rw [hx12, lf10_X0_deliverNow_12]; exact hnd) | (rw [lf10_X0_deliverNow_12]; exact hnd)
      refine z_iload_n 3 dX0_deliverNow_12 rfl ?_
      refine z_aload_n 0 dX0_deliverNow_13 rfl ?_
      refine z_get (C := RX0) (T := TX0) (N := 19) (v := .int ((l_X0_deliverNow_12 u nn).1 16)) inwX0_deliverNow 0 rfl rfl 16 (by decide) (List.mem_of_getElem? (i := 2) rfl) rfl rfl dX0_deliverNow_14 ?_
      refine z_icmp_ge 63 dX0_deliverNow_17 (by decide) (fun c_17_1 => ?_) (fun c_17_1 => ?_)
      ·
        refine z_aload_n 0 dX0_deliverNow_63 rfl ?_
        refine z_get (C := RX0) (T := TX0) (N := 19) (v := .int ((l_X0_deliverNow_12 u nn).1 18)) inwX0_deliverNow 0 rfl rfl 18 (by decide) (List.mem_of_getElem? (i := 1) rfl) rfl rfl dX0_deliverNow_64 ?_
        refine z_iload_n 1 dX0_deliverNow_67 rfl ?_
        refine z_isub dX0_deliverNow_68 ?_
        exact hret _ (l_X0_deliverNow_12 u nn) _ _ _ dX0_deliverNow_69 ⟨(by rw [r_X0_deliverNow, hixnn]), (by rw [s_X0_deliverNow, hixnn])⟩ rfl
      · exact absurd (by rw [hbx]; exact nI_le (Nat.le_refl _) (by omega)) c_17_1
    | succ r ih12 =>
      intro k12 hk12
      obtain ⟨x12, hx12⟩ : ∃ x, x = l_X0_deliverNow_12 u k12 := ⟨_, rfl⟩
      rw [← hx12]
      have hbx : (x12.1 16) = nI nn := by first | (rw [hx12, lf16_X0_deliverNow_12]; exact hnn) | (rw [lf16_X0_deliverNow_12]; exact hnn)
      have hbd : (x12.1 10) = nI nd := by first | (rw [hx12, lf10_X0_deliverNow_12]; exact hnd) | (rw [lf10_X0_deliverNow_12]; exact hnd)
      refine z_iload_n 3 dX0_deliverNow_12 rfl ?_
      refine z_aload_n 0 dX0_deliverNow_13 rfl ?_
      refine z_get (C := RX0) (T := TX0) (N := 19) (v := .int (x12.1 16)) inwX0_deliverNow 0 rfl rfl 16 (by decide) (List.mem_of_getElem? (i := 2) rfl) rfl rfl dX0_deliverNow_14 ?_
      refine z_icmp_ge 63 dX0_deliverNow_17 (by decide) (fun c_17_0 => ?_) (fun c_17_0 => ?_)
      · exact absurd c_17_0 (by rw [hbx]; exact nI_ge (by omega) (by omega))
      ·
        refine z_aload_n 0 dX0_deliverNow_20 rfl ?_
        refine z_iload_n 3 dX0_deliverNow_21 rfl ?_
        refine z_callVi (As := [.int (nI k12)]) (st := []) (fun l => c_X0_waitsNow l D cI cZ h a x12 (nI k12) (by first | assumption | exact vp_in_nI (by omega) (by omega) | exact hnd | exact zdev hnd hd (by assumption) | exact hnn | exact znot hnn hn (by assumption) | decide)) zGok_TT (fun _ _ _ => trivial) (fun s args hts => cwV 1 hts gX0_deliverNow_X0_waitsNow rfl rfl rfl (by decide +kernel) ⟨Nat.le_of_ble_eq_true rfl, Nat.le_of_ble_eq_true rfl⟩) (ci := 0) rfl rfl rfl rfl (Nat.le_of_ble_eq_true rfl) ⟨Nat.le_of_ble_eq_true rfl, Nat.le_of_ble_eq_true rfl⟩ dX0_deliverNow_22 rfl (fun r u2 hp => ?_)
        subst hp
        refine z_istore (L' := [(4, .int (r_X0_waitsNow x12 (nI k12))), (0, .ref h), (1, .int (u.1 18)), (2, .int (r_X0_openToNormal u )), (3, .int (nI k12))]) dX0_deliverNow_25 (by decide) rfl ?_
        refine z_iload 0 dX0_deliverNow_27 rfl ?_
        refine z_if_eq 57 dX0_deliverNow_29 (by decide) (fun c_29_2 => ?_) (fun c_29_2 => ?_)
        ·
          refine z_iinc (v := (nI (k12 + 1))) (L' := [(3, .int (nI (k12 + 1))), (4, .int (r_X0_waitsNow x12 (nI k12))), (0, .ref h), (1, .int (u.1 18)), (2, .int (r_X0_openToNormal u ))]) 4 dX0_deliverNow_57 rfl (nI_1 k12) (by decide) rfl ?_
          refine z_goto 12 dX0_deliverNow_60 (by decide) ?_
          have hb12 : l_X0_deliverNow_12 u (k12 + 1) = x12 := by
            show b_X0_deliverNow_12 u k12 (l_X0_deliverNow_12 u k12) = _
            rw [← hx12, b_X0_deliverNow_12, if_pos c_29_2]
          refine z_sub (L' := [(0, .ref h), (1, .int (u.1 18)), (2, .int (r_X0_openToNormal u )), (3, .int (nI (k12 + 1)))]) [2, 3, 4, 0] rfl ?_
          have ih2 := ih12 (k12 + 1) (by omega)
          rw [hb12] at ih2
          exact ih2
        ·
          refine z_aload_n 1 dX0_deliverNow_32 rfl ?_
          refine z_iload_n 4 dX0_deliverNow_33 rfl ?_
          refine z_iload 0 dX0_deliverNow_34 rfl ?_
          refine z_aload_n 1 dX0_deliverNow_36 rfl ?_
          refine z_get (C := RX0) (T := TX0) (N := 19) (v := .ref (a 11)) inwX0_deliverNow 0 rfl rfl 11 (by decide) (List.mem_of_getElem? (i := 3) rfl) rfl rfl dX0_deliverNow_37 ?_
          refine z_iload_n 4 dX0_deliverNow_40 rfl ?_
          refine z_zald (v := (x12.2 11 (ix (nI k12)))) 8 1 rfl rfl (vp_in_nI (by omega) (by omega)) rfl dX0_deliverNow_41 ?_
          refine z_if_eq 52 dX0_deliverNow_42 (by decide) (fun c_42_3 => ?_) (fun c_42_3 => ?_)
          ·
            refine z_iload_n 3 dX0_deliverNow_52 rfl ?_
            refine z_iand dX0_deliverNow_53 ?_
            refine z_callVv (As := [.int (nI k12), .int ((r_X0_waitsNow x12 (nI k12)) &&& (r_X0_openToNormal u ))]) (st := []) (fun l => c_X0_deliver l D cI cZ h a x12 (nI k12) ((r_X0_waitsNow x12 (nI k12)) &&& (r_X0_openToNormal u )) (by first | assumption | exact vp_in_nI (by omega) (by omega) | exact hnd | exact zdev hnd hd (by assumption) | exact hnn | exact znot hnn hn (by assumption) | decide) nd (by first | assumption | exact vp_in_nI (by omega) (by omega) | exact hnd | exact zdev hnd hd (by assumption) | exact hnn | exact znot hnn hn (by assumption) | decide) (by first | assumption | exact vp_in_nI (by omega) (by omega) | exact hnd | exact zdev hnd hd (by assumption) | exact hnn | exact znot hnn hn (by assumption) | decide)) zGok_TT (fun _ _ _ => trivial) (fun s args hts => cwV 2 hts gX0_deliverNow_X0_deliver rfl rfl rfl (by decide +kernel) ⟨Nat.le_of_ble_eq_true rfl, Nat.le_of_ble_eq_true rfl⟩) (ci := 0) rfl rfl rfl rfl (Nat.le_of_ble_eq_true rfl) ⟨Nat.le_of_ble_eq_true rfl, Nat.le_of_ble_eq_true rfl⟩ dX0_deliverNow_54 rfl (fun u2 hp => ?_)
            subst hp
            refine z_iinc (v := (nI (k12 + 1))) (L' := [(3, .int (nI (k12 + 1))), (4, .int (r_X0_waitsNow x12 (nI k12))), (0, .ref h), (1, .int (u.1 18)), (2, .int (r_X0_openToNormal u ))]) 4 dX0_deliverNow_57 rfl (nI_1 k12) (by decide) rfl ?_
            refine z_goto 12 dX0_deliverNow_60 (by decide) ?_
            have hb12 : l_X0_deliverNow_12 u (k12 + 1) = (s_X0_deliver x12 (nI k12) ((r_X0_waitsNow x12 (nI k12)) &&& (r_X0_openToNormal u ))) := by
              show b_X0_deliverNow_12 u k12 (l_X0_deliverNow_12 u k12) = _
              rw [← hx12, b_X0_deliverNow_12, if_neg c_29_2, if_pos c_42_3]
            refine z_sub (L' := [(0, .ref h), (1, .int (u.1 18)), (2, .int (r_X0_openToNormal u )), (3, .int (nI (k12 + 1)))]) [2, 3, 4, 0] rfl ?_
            have ih2 := ih12 (k12 + 1) (by omega)
            rw [hb12] at ih2
            exact ih2
          ·
            refine z_aload_n 1 dX0_deliverNow_45 rfl ?_
            refine z_callVi (As := []) (st := [.int (r_X0_waitsNow x12 (nI k12)), .int (nI k12), .ref h]) (fun l => c_X0_openToHigh l D cI cZ h a x12  nd (by first | assumption | exact vp_in_nI (by omega) (by omega) | exact hnd | exact zdev hnd hd (by assumption) | exact hnn | exact znot hnn hn (by assumption) | decide) (by first | assumption | exact vp_in_nI (by omega) (by omega) | exact hnd | exact zdev hnd hd (by assumption) | exact hnn | exact znot hnn hn (by assumption) | decide)) zGok_TT (fun _ _ _ => trivial) (fun s args hts => cwV 0 hts gX0_deliverNow_X0_openToHigh rfl rfl rfl (by decide +kernel) ⟨Nat.le_of_ble_eq_true rfl, Nat.le_of_ble_eq_true rfl⟩) (ci := 0) rfl rfl rfl rfl (Nat.le_of_ble_eq_true rfl) ⟨Nat.le_of_ble_eq_true rfl, Nat.le_of_ble_eq_true rfl⟩ dX0_deliverNow_46 rfl (fun r u2 hp => ?_)
            subst hp
            refine z_goto 53 dX0_deliverNow_49 (by decide) ?_
            refine z_iand dX0_deliverNow_53 ?_
            refine z_callVv (As := [.int (nI k12), .int ((r_X0_waitsNow x12 (nI k12)) &&& (r_X0_openToHigh x12 ))]) (st := []) (fun l => c_X0_deliver l D cI cZ h a x12 (nI k12) ((r_X0_waitsNow x12 (nI k12)) &&& (r_X0_openToHigh x12 )) (by first | assumption | exact vp_in_nI (by omega) (by omega) | exact hnd | exact zdev hnd hd (by assumption) | exact hnn | exact znot hnn hn (by assumption) | decide) nd (by first | assumption | exact vp_in_nI (by omega) (by omega) | exact hnd | exact zdev hnd hd (by assumption) | exact hnn | exact znot hnn hn (by assumption) | decide) (by first | assumption | exact vp_in_nI (by omega) (by omega) | exact hnd | exact zdev hnd hd (by assumption) | exact hnn | exact znot hnn hn (by assumption) | decide)) zGok_TT (fun _ _ _ => trivial) (fun s args hts => cwV 2 hts gX0_deliverNow_X0_deliver rfl rfl rfl (by decide +kernel) ⟨Nat.le_of_ble_eq_true rfl, Nat.le_of_ble_eq_true rfl⟩) (ci := 0) rfl rfl rfl rfl (Nat.le_of_ble_eq_true rfl) ⟨Nat.le_of_ble_eq_true rfl, Nat.le_of_ble_eq_true rfl⟩ dX0_deliverNow_54 rfl (fun u2 hp => ?_)
            subst hp
            refine z_iinc (v := (nI (k12 + 1))) (L' := [(3, .int (nI (k12 + 1))), (4, .int (r_X0_waitsNow x12 (nI k12))), (0, .ref h), (1, .int (u.1 18)), (2, .int (r_X0_openToNormal u ))]) 4 dX0_deliverNow_57 rfl (nI_1 k12) (by decide) rfl ?_
            refine z_goto 12 dX0_deliverNow_60 (by decide) ?_
            have hb12 : l_X0_deliverNow_12 u (k12 + 1) = (s_X0_deliver x12 (nI k12) ((r_X0_waitsNow x12 (nI k12)) &&& (r_X0_openToHigh x12 ))) := by
              show b_X0_deliverNow_12 u k12 (l_X0_deliverNow_12 u k12) = _
              rw [← hx12, b_X0_deliverNow_12, if_neg c_29_2, if_neg c_42_3]
            refine z_sub (L' := [(0, .ref h), (1, .int (u.1 18)), (2, .int (r_X0_openToNormal u )), (3, .int (nI (k12 + 1)))]) [2, 3, 4, 0] rfl ?_
            have ih2 := ih12 (k12 + 1) (by omega)
            rw [hb12] at ih2
            exact ih2
  exact hloop12 nn 0 (by omega)
set_option maxHeartbeats 4000000 in
set_option maxRecDepth 100000 in
theorem c_X0_devicesThatFulfil (l : Launch) (D : va_G) (cI cZ : ClassId) (h : Nat) (a : Nat → Nat) (u : SX) (p1 p2 p3 : Int32) (hp2 : vp_in p2 6) (hp3 : vp_in p3 6) : zMi l yX0_devicesThatFulfil wsX0_devicesThatFulfil ({ frames := 0, cells := 0, slots := 0, locals := 0 } : Room) zTT D [(cI, .int), (cZ, .boolean)] (wX0 cI cZ h a u) [.ref h, .int p1, .int p2, .int p3] (fun (r : Int32) (_ : Unit) => r = r_X0_devicesThatFulfil u p1 p2 p3) (fun _ => (wX0 cI cZ h a u)) 0 0 := by
  refine z_startI (cc := cX0_devicesThatFulfil) (n := 4) (own := RX0) (L0 := [(0, .ref h), (1, .int p1), (2, .int p2), (3, .int p3)]) (plainFor_of_name (by decide)) rfl rfl (Nat.le_of_ble_eq_true rfl) rfl (fun E hret => ?_)
  refine z_iload_n 1 dX0_devicesThatFulfil_0 rfl ?_
  refine z_switch01 28 42 56 dX0_devicesThatFulfil_1 (by decide) (by decide) (by decide) (fun c_1_0 => ?_) (fun c_1_0 c_1_0b => ?_) (fun c_1_0 c_1_0b => ?_)
  ·
    refine z_aload_n 0 dX0_devicesThatFulfil_28 rfl ?_
    refine z_get (C := RX0) (T := TX0) (N := 19) (v := .ref (a 1)) inwX0_devicesThatFulfil 0 rfl rfl 1 (by decide) (List.mem_of_getElem? (i := 1) rfl) rfl rfl dX0_devicesThatFulfil_29 ?_
    refine z_iload_n 2 dX0_devicesThatFulfil_32 rfl ?_
    refine z_iald (v := (u.2 1 (ix p2))) 2 0 rfl rfl (by first | assumption | decide) rfl dX0_devicesThatFulfil_33 ?_
    refine z_aload_n 0 dX0_devicesThatFulfil_34 rfl ?_
    refine z_get (C := RX0) (T := TX0) (N := 19) (v := .ref (a 1)) inwX0_devicesThatFulfil 0 rfl rfl 1 (by decide) (List.mem_of_getElem? (i := 1) rfl) rfl rfl dX0_devicesThatFulfil_35 ?_
    refine z_iload_n 3 dX0_devicesThatFulfil_38 rfl ?_
    refine z_iald (v := (u.2 1 (ix p3))) 2 0 rfl rfl (by first | assumption | decide) rfl dX0_devicesThatFulfil_39 ?_
    refine z_iand dX0_devicesThatFulfil_40 ?_
    exact hret _ () _ _ _ dX0_devicesThatFulfil_41 (by rw [r_X0_devicesThatFulfil, if_pos c_1_0]) rfl
  ·
    refine z_aload_n 0 dX0_devicesThatFulfil_42 rfl ?_
    refine z_get (C := RX0) (T := TX0) (N := 19) (v := .ref (a 1)) inwX0_devicesThatFulfil 0 rfl rfl 1 (by decide) (List.mem_of_getElem? (i := 1) rfl) rfl rfl dX0_devicesThatFulfil_43 ?_
    refine z_iload_n 2 dX0_devicesThatFulfil_46 rfl ?_
    refine z_iald (v := (u.2 1 (ix p2))) 2 0 rfl rfl (by first | assumption | decide) rfl dX0_devicesThatFulfil_47 ?_
    refine z_aload_n 0 dX0_devicesThatFulfil_48 rfl ?_
    refine z_get (C := RX0) (T := TX0) (N := 19) (v := .ref (a 1)) inwX0_devicesThatFulfil 0 rfl rfl 1 (by decide) (List.mem_of_getElem? (i := 1) rfl) rfl rfl dX0_devicesThatFulfil_49 ?_
    refine z_iload_n 3 dX0_devicesThatFulfil_52 rfl ?_
    refine z_iald (v := (u.2 1 (ix p3))) 2 0 rfl rfl (by first | assumption | decide) rfl dX0_devicesThatFulfil_53 ?_
    refine z_ior dX0_devicesThatFulfil_54 ?_
    exact hret _ () _ _ _ dX0_devicesThatFulfil_55 (by rw [r_X0_devicesThatFulfil, if_neg c_1_0, if_pos c_1_0b]) rfl
  ·
    refine z_aload_n 0 dX0_devicesThatFulfil_56 rfl ?_
    refine z_get (C := RX0) (T := TX0) (N := 19) (v := .ref (a 1)) inwX0_devicesThatFulfil 0 rfl rfl 1 (by decide) (List.mem_of_getElem? (i := 1) rfl) rfl rfl dX0_devicesThatFulfil_57 ?_
    refine z_iload_n 2 dX0_devicesThatFulfil_60 rfl ?_
    refine z_iald (v := (u.2 1 (ix p2))) 2 0 rfl rfl (by first | assumption | decide) rfl dX0_devicesThatFulfil_61 ?_
    refine z_aload_n 0 dX0_devicesThatFulfil_62 rfl ?_
    refine z_get (C := RX0) (T := TX0) (N := 19) (v := .ref (a 1)) inwX0_devicesThatFulfil 0 rfl rfl 1 (by decide) (List.mem_of_getElem? (i := 1) rfl) rfl rfl dX0_devicesThatFulfil_63 ?_
    refine z_iload_n 3 dX0_devicesThatFulfil_66 rfl ?_
    refine z_iald (v := (u.2 1 (ix p3))) 2 0 rfl rfl (by first | assumption | decide) rfl dX0_devicesThatFulfil_67 ?_
    refine z_iconst (v := (-1)) dX0_devicesThatFulfil_68 rfl ?_
    refine z_ixor dX0_devicesThatFulfil_69 ?_
    refine z_iand dX0_devicesThatFulfil_70 ?_
    exact hret _ () _ _ _ dX0_devicesThatFulfil_71 (by rw [r_X0_devicesThatFulfil, if_neg c_1_0, if_neg c_1_0b]) rfl
set_option maxHeartbeats 4000000 in
set_option maxRecDepth 100000 in
theorem c_X0_replaceKey (l : Launch) (D : va_G) (cI cZ : ClassId) (h : Nat) (a : Nat → Nat) (u : SX) (p1 p2 : Int32) (hpl : vp_in (r_X0_placeOf p1 p2) 80) (hlk : (u.2 15 (ix (r_X0_placeOf p1 p2))) = (-1) ∨ vp_in (u.2 15 (ix (r_X0_placeOf p1 p2))) 120) : zMv l yX0_replaceKey wsX0_replaceKey ({ frames := 1, cells := 0, slots := 0, locals := 21 } : Room) zTT D [(cI, .int), (cZ, .boolean)] (wX0 cI cZ h a u) [.ref h, .int p1, .int p2] (fun u2 : SX => u2 = s_X0_replaceKey u p1 p2) (fun u2 => (wX0 cI cZ h a u2)) 0 0 := by
  refine z_startV (cc := cX0_replaceKey) (n := 5) (own := RX0) (L0 := [(0, .ref h), (1, .int p1), (2, .int p2)]) (plainFor_of_name (by decide)) rfl rfl (Nat.le_of_ble_eq_true rfl) rfl (fun E hret => ?_)
  refine z_iload_n 1 dX0_replaceKey_0 rfl ?_
  refine z_iload_n 2 dX0_replaceKey_1 rfl ?_
  refine z_callSi (As := [.int p1, .int p2]) (st := []) (fun l => c_X0_placeOf l D _ _ p1 p2) zGok_TT (fun _ _ _ => trivial) (fun s args hts => va_cwS 2 hts gX0_replaceKey_X0_placeOf rfl rfl rfl (by decide +kernel) ⟨Nat.le_of_ble_eq_true rfl, Nat.le_of_ble_eq_true rfl⟩) rfl (Nat.le_of_ble_eq_true rfl) ⟨Nat.le_of_ble_eq_true rfl, Nat.le_of_ble_eq_true rfl⟩ dX0_replaceKey_2 rfl (fun r u2 hp => ?_)
  subst hp
  refine z_istore_n (L' := [(3, .int (r_X0_placeOf p1 p2)), (0, .ref h), (1, .int p1), (2, .int p2)]) dX0_replaceKey_5 (by decide) rfl ?_
  refine z_aload_n 1 dX0_replaceKey_6 rfl ?_
  refine z_get (C := RX0) (T := TX0) (N := 19) (v := .ref (a 15)) inwX0_replaceKey 0 rfl rfl 15 (by decide) (List.mem_of_getElem? (i := 1) rfl) rfl rfl dX0_replaceKey_7 ?_
  refine z_iload_n 0 dX0_replaceKey_10 rfl ?_
  refine z_iald (v := (u.2 15 (ix (r_X0_placeOf p1 p2)))) 12 0 rfl rfl (by first | assumption | exact hlk.resolve_left (by assumption) | decide) rfl dX0_replaceKey_11 ?_
  refine z_istore (L' := [(4, .int (u.2 15 (ix (r_X0_placeOf p1 p2)))), (3, .int (r_X0_placeOf p1 p2)), (0, .ref h), (1, .int p1), (2, .int p2)]) dX0_replaceKey_12 (by decide) rfl ?_
  refine z_iload 0 dX0_replaceKey_14 rfl ?_
  refine z_iconst (v := (-1)) dX0_replaceKey_16 rfl ?_
  refine z_icmp_eq 35 dX0_replaceKey_17 (by decide) (fun c_17_0 => ?_) (fun c_17_0 => ?_)
  ·
    refine z_aload_n 2 dX0_replaceKey_35 rfl ?_
    refine z_get (C := RX0) (T := TX0) (N := 19) (v := .ref (a 15)) inwX0_replaceKey 0 rfl rfl 15 (by decide) (List.mem_of_getElem? (i := 1) rfl) rfl rfl dX0_replaceKey_36 ?_
    refine z_iload_n 1 dX0_replaceKey_39 rfl ?_
    refine z_aload_n 2 dX0_replaceKey_40 rfl ?_
    refine z_get (C := RX0) (T := TX0) (N := 19) (v := .int (u.1 16)) inwX0_replaceKey 0 rfl rfl 16 (by decide) (List.mem_of_getElem? (i := 2) rfl) rfl rfl dX0_replaceKey_41 ?_
    refine z_iast (w' := (wX0 cI cZ h a (pG u 15 (ix (r_X0_placeOf p1 p2)) (u.1 16)))) 12 0 rfl rfl (by first | assumption | exact hlk.resolve_left (by assumption) | decide) (wX0_g15 _ _ _ _ _ _ _) dX0_replaceKey_44 ?_
    exact hret (pG u 15 (ix (r_X0_placeOf p1 p2)) (u.1 16)) _ _ _ dX0_replaceKey_45 (by rw [s_X0_replaceKey, if_pos c_17_0]) rfl
  ·
    refine z_aload_n 2 dX0_replaceKey_20 rfl ?_
    refine z_iload 0 dX0_replaceKey_21 rfl ?_
    refine z_callVi (As := [.int (u.2 15 (ix (r_X0_placeOf p1 p2)))]) (st := []) (fun l => c_X0_isStanding l D cI cZ h a u (u.2 15 (ix (r_X0_placeOf p1 p2))) (by first | assumption | exact hlk.resolve_left (by assumption) | decide)) zGok_TT (fun _ _ _ => trivial) (fun s args hts => cwV 1 hts gX0_replaceKey_X0_isStanding rfl rfl rfl (by decide +kernel) ⟨Nat.le_of_ble_eq_true rfl, Nat.le_of_ble_eq_true rfl⟩) (ci := 0) rfl rfl rfl rfl (Nat.le_of_ble_eq_true rfl) ⟨Nat.le_of_ble_eq_true rfl, Nat.le_of_ble_eq_true rfl⟩ dX0_replaceKey_23 rfl (fun r u2 hp => ?_)
    subst hp
    refine z_if_eq 35 dX0_replaceKey_26 (by decide) (fun c_26_1 => ?_) (fun c_26_1 => ?_)
    ·
      refine z_aload_n 2 dX0_replaceKey_35 rfl ?_
      refine z_get (C := RX0) (T := TX0) (N := 19) (v := .ref (a 15)) inwX0_replaceKey 0 rfl rfl 15 (by decide) (List.mem_of_getElem? (i := 1) rfl) rfl rfl dX0_replaceKey_36 ?_
      refine z_iload_n 1 dX0_replaceKey_39 rfl ?_
      refine z_aload_n 2 dX0_replaceKey_40 rfl ?_
      refine z_get (C := RX0) (T := TX0) (N := 19) (v := .int (u.1 16)) inwX0_replaceKey 0 rfl rfl 16 (by decide) (List.mem_of_getElem? (i := 2) rfl) rfl rfl dX0_replaceKey_41 ?_
      refine z_iast (w' := (wX0 cI cZ h a (pG u 15 (ix (r_X0_placeOf p1 p2)) (u.1 16)))) 12 0 rfl rfl (by first | assumption | exact hlk.resolve_left (by assumption) | decide) (wX0_g15 _ _ _ _ _ _ _) dX0_replaceKey_44 ?_
      exact hret (pG u 15 (ix (r_X0_placeOf p1 p2)) (u.1 16)) _ _ _ dX0_replaceKey_45 (by rw [s_X0_replaceKey, if_neg c_17_0, if_pos c_26_1]) rfl
    ·
      refine z_aload_n 2 dX0_replaceKey_29 rfl ?_
      refine z_iload 0 dX0_replaceKey_30 rfl ?_
      refine z_callVv (As := [.int (u.2 15 (ix (r_X0_placeOf p1 p2)))]) (st := []) (fun l => c_X0_withdraw l D cI cZ h a u (u.2 15 (ix (r_X0_placeOf p1 p2))) (by first | assumption | exact hlk.resolve_left (by assumption) | decide)) zGok_TT (fun _ _ _ => trivial) (fun s args hts => cwV 1 hts gX0_replaceKey_X0_withdraw rfl rfl rfl (by decide +kernel) ⟨Nat.le_of_ble_eq_true rfl, Nat.le_of_ble_eq_true rfl⟩) (ci := 0) rfl rfl rfl rfl (Nat.le_of_ble_eq_true rfl) ⟨Nat.le_of_ble_eq_true rfl, Nat.le_of_ble_eq_true rfl⟩ dX0_replaceKey_32 rfl (fun u2 hp => ?_)
      subst hp
      refine z_aload_n 2 dX0_replaceKey_35 rfl ?_
      refine z_get (C := RX0) (T := TX0) (N := 19) (v := .ref (a 15)) inwX0_replaceKey 0 rfl rfl 15 (by decide) (List.mem_of_getElem? (i := 1) rfl) rfl rfl dX0_replaceKey_36 ?_
      refine z_iload_n 1 dX0_replaceKey_39 rfl ?_
      refine z_aload_n 2 dX0_replaceKey_40 rfl ?_
      refine z_get (C := RX0) (T := TX0) (N := 19) (v := .int ((s_X0_withdraw u (u.2 15 (ix (r_X0_placeOf p1 p2)))).1 16)) inwX0_replaceKey 0 rfl rfl 16 (by decide) (List.mem_of_getElem? (i := 2) rfl) rfl rfl dX0_replaceKey_41 ?_
      refine z_iast (w' := (wX0 cI cZ h a (pG (s_X0_withdraw u (u.2 15 (ix (r_X0_placeOf p1 p2)))) 15 (ix (r_X0_placeOf p1 p2)) ((s_X0_withdraw u (u.2 15 (ix (r_X0_placeOf p1 p2)))).1 16)))) 12 0 rfl rfl (by first | assumption | exact hlk.resolve_left (by assumption) | decide) (wX0_g15 _ _ _ _ _ _ _) dX0_replaceKey_44 ?_
      exact hret (pG (s_X0_withdraw u (u.2 15 (ix (r_X0_placeOf p1 p2)))) 15 (ix (r_X0_placeOf p1 p2)) ((s_X0_withdraw u (u.2 15 (ix (r_X0_placeOf p1 p2)))).1 16)) _ _ _ dX0_replaceKey_45 (by rw [s_X0_replaceKey, if_neg c_17_0, if_neg c_26_1]) rfl
set_option maxHeartbeats 4000000 in
set_option maxRecDepth 100000 in
theorem c_X0_sendTo (l : Launch) (D : va_G) (cI cZ : ClassId) (h : Nat) (a : Nat → Nat) (u : SX) (p1 p2 p3 : Int32) (nd : Nat) (hnd : u.1 10 = nI nd) (hd : nd ≤ 16) (nn : Nat) (hnn : u.1 16 = nI nn) (hn : nn ≤ 120) (hlt : nn < 120) : zMi l yX0_sendTo wsX0_sendTo ({ frames := 5, cells := 0, slots := 0, locals := 112 } : Room) zTT D [(cI, .int), (cZ, .boolean)] (wX0 cI cZ h a u) [.ref h, .int p1, .int p2, .int p3] (fun (r : Int32) (u2 : SX) => r = r_X0_sendTo u p1 p2 p3 ∧ u2 = s_X0_sendTo u p1 p2 p3) (fun u2 => (wX0 cI cZ h a u2)) 0 0 := by
  refine z_startI (cc := cX0_sendTo) (n := 5) (own := RX0) (L0 := [(0, .ref h), (1, .int p1), (2, .int p2), (3, .int p3)]) (plainFor_of_name (by decide)) rfl rfl (Nat.le_of_ble_eq_true rfl) rfl (fun E hret => ?_)
  have hixnn : ix (u.1 16) = nn := by rw [hnn]; exact nI_clamp (by omega)
  have hixnd : ix (u.1 10) = nd := by rw [hnd]; exact nI_clamp (by omega)
  refine z_aload_n 0 dX0_sendTo_0 rfl ?_
  refine z_get (C := RX0) (T := TX0) (N := 19) (v := .int (u.1 16)) inwX0_sendTo 0 rfl rfl 16 (by decide) (List.mem_of_getElem? (i := 1) rfl) rfl rfl dX0_sendTo_1 ?_
  refine z_istore (L' := [(4, .int (u.1 16)), (0, .ref h), (1, .int p1), (2, .int p2), (3, .int p3)]) dX0_sendTo_4 (by decide) rfl ?_
  refine z_aload_n 1 dX0_sendTo_6 rfl ?_
  refine z_dup dX0_sendTo_7 rfl ?_
  refine z_get (C := RX0) (T := TX0) (N := 19) (v := .int (u.1 16)) inwX0_sendTo 0 rfl rfl 16 (by decide) (List.mem_of_getElem? (i := 1) rfl) rfl rfl dX0_sendTo_8 ?_
  refine z_iconst (v := 1) dX0_sendTo_11 rfl ?_
  refine z_iadd dX0_sendTo_12 ?_
  refine z_put (C := RX0) (T := TX0) (N := 19) (v := .int ((u.1 16) + 1)) (w' := (wX0 cI cZ h a (pF u 16 ((u.1 16) + 1)))) inwX0_sendTo 0 rfl rfl 16 (by decide) (List.mem_of_getElem? (i := 1) rfl) rfl tyX0 tyX0_ok nmX0 rfl rfl rfl (by decide) (wX0_p16 _ _ _ _ _ _) dX0_sendTo_13 ?_
  refine z_aload_n 1 dX0_sendTo_16 rfl ?_
  refine z_get (C := RX0) (T := TX0) (N := 19) (v := .ref (a 11)) inwX0_sendTo 0 rfl rfl 11 (by decide) (List.mem_of_getElem? (i := 2) rfl) rfl rfl dX0_sendTo_17 ?_
  refine z_iload 0 dX0_sendTo_20 rfl ?_
  refine z_iload_n 3 dX0_sendTo_22 rfl ?_
  refine z_zast (w' := (wX0 cI cZ h a (pG (pF u 16 ((u.1 16) + 1)) 11 (ix (u.1 16)) (vp_nar .boolean p2)))) 8 1 rfl rfl (by first | assumption | exact hnd | exact zdev hnd hd (by assumption) | exact hnn | exact znot hnn hn (by assumption) | exact zroomN hnn hlt | decide) (wX0_g11 _ _ _ _ _ _ _) dX0_sendTo_23 ?_
  refine z_aload_n 1 dX0_sendTo_24 rfl ?_
  refine z_get (C := RX0) (T := TX0) (N := 19) (v := .ref (a 12)) inwX0_sendTo 0 rfl rfl 12 (by decide) (List.mem_of_getElem? (i := 3) rfl) rfl rfl dX0_sendTo_25 ?_
  refine z_iload 0 dX0_sendTo_28 rfl ?_
  refine z_aload_n 1 dX0_sendTo_30 rfl ?_
  refine z_get (C := RX0) (T := TX0) (N := 19) (v := .int (u.1 17)) inwX0_sendTo 0 rfl rfl 17 (by decide) (List.mem_of_getElem? (i := 4) rfl) rfl rfl dX0_sendTo_31 ?_
  refine z_iload_n 4 dX0_sendTo_34 rfl ?_
  refine z_iadd dX0_sendTo_35 ?_
  refine z_iast (w' := (wX0 cI cZ h a (pG (pG (pF u 16 ((u.1 16) + 1)) 11 (ix (u.1 16)) (vp_nar .boolean p2)) 12 (ix (u.1 16)) ((u.1 17) + p3)))) 9 0 rfl rfl (by first | assumption | exact hnd | exact zdev hnd hd (by assumption) | exact hnn | exact znot hnn hn (by assumption) | exact zroomN hnn hlt | decide) (wX0_g12 _ _ _ _ _ _ _) dX0_sendTo_36 ?_
  refine z_aload_n 1 dX0_sendTo_37 rfl ?_
  refine z_get (C := RX0) (T := TX0) (N := 19) (v := .ref (a 13)) inwX0_sendTo 0 rfl rfl 13 (by decide) (List.mem_of_getElem? (i := 5) rfl) rfl rfl dX0_sendTo_38 ?_
  refine z_iload 0 dX0_sendTo_41 rfl ?_
  refine z_iload_n 2 dX0_sendTo_43 rfl ?_
  refine z_aload_n 1 dX0_sendTo_44 rfl ?_
  refine z_get (C := RX0) (T := TX0) (N := 19) (v := .int (u.1 2)) inwX0_sendTo 0 rfl rfl 2 (by decide) (List.mem_of_getElem? (i := 6) rfl) rfl rfl dX0_sendTo_45 ?_
  refine z_iand dX0_sendTo_48 ?_
  refine z_iast (w' := (wX0 cI cZ h a (pG (pG (pG (pF u 16 ((u.1 16) + 1)) 11 (ix (u.1 16)) (vp_nar .boolean p2)) 12 (ix (u.1 16)) ((u.1 17) + p3)) 13 (ix (u.1 16)) (p1 &&& (u.1 2))))) 10 0 rfl rfl (by first | assumption | exact hnd | exact zdev hnd hd (by assumption) | exact hnn | exact znot hnn hn (by assumption) | exact zroomN hnn hlt | decide) (wX0_g13 _ _ _ _ _ _ _) dX0_sendTo_49 ?_
  refine z_aload_n 1 dX0_sendTo_50 rfl ?_
  refine z_callVi (As := []) (st := []) (fun l => c_X0_deliverNow l D cI cZ h a (pG (pG (pG (pF u 16 ((u.1 16) + 1)) 11 (ix (u.1 16)) (vp_nar .boolean p2)) 12 (ix (u.1 16)) ((u.1 17) + p3)) 13 (ix (u.1 16)) (p1 &&& (u.1 2)))  nd (by first | assumption | exact hnd | exact zdev hnd hd (by assumption) | exact hnn | exact znot hnn hn (by assumption) | exact zroomN hnn hlt | decide) (by first | assumption | exact hnd | exact zdev hnd hd (by assumption) | exact hnn | exact znot hnn hn (by assumption) | exact zroomN hnn hlt | decide) (nn + 1) (by show u.1 16 + 1 = _; rw [hnn]; exact nI_1 nn) (hlt)) zGok_TT (fun _ _ _ => trivial) (fun s args hts => cwV 0 hts gX0_sendTo_X0_deliverNow rfl rfl rfl (by decide +kernel) ⟨Nat.le_of_ble_eq_true rfl, Nat.le_of_ble_eq_true rfl⟩) (ci := 0) rfl rfl rfl rfl (Nat.le_of_ble_eq_true rfl) ⟨Nat.le_of_ble_eq_true rfl, Nat.le_of_ble_eq_true rfl⟩ dX0_sendTo_51 rfl (fun r u2 hp => ?_)
  obtain ⟨rfl, rfl⟩ := hp
  refine z_pop dX0_sendTo_54 rfl ?_
  refine z_iload 0 dX0_sendTo_55 rfl ?_
  exact hret _ (s_X0_deliverNow (pG (pG (pG (pF u 16 ((u.1 16) + 1)) 11 (ix (u.1 16)) (vp_nar .boolean p2)) 12 (ix (u.1 16)) ((u.1 17) + p3)) 13 (ix (u.1 16)) (p1 &&& (u.1 2))) ) _ _ _ dX0_sendTo_57 ⟨(by rw [r_X0_sendTo]), (by rw [s_X0_sendTo])⟩ rfl
set_option maxHeartbeats 4000000 in
set_option maxRecDepth 100000 in
theorem c_X0_addDevice (l : Launch) (D : va_G) (cI cZ : ClassId) (h : Nat) (a : Nat → Nat) (u : SX) (p1 p2 : Int32) (he : e_X0_addDevice u p1 p2 = 0) (nd : Nat) (hnd : u.1 10 = nI nd) (hd : nd ≤ 16) : zMi l yX0_addDevice wsX0_addDevice ({ frames := 1, cells := 0, slots := 0, locals := 22 } : Room) zTT D [(cI, .int), (cZ, .boolean)] (wX0 cI cZ h a u) [.ref h, .int p1, .int p2] (fun (r : Int32) (u2 : SX) => r = r_X0_addDevice u p1 p2 ∧ u2 = s_X0_addDevice u p1 p2) (fun u2 => (wX0 cI cZ h a u2)) 0 0 := by
  refine z_startI (cc := cX0_addDevice) (n := 4) (own := RX0) (L0 := [(0, .ref h), (1, .int p1), (2, .int p2)]) (plainFor_of_name (by decide)) rfl rfl (Nat.le_of_ble_eq_true rfl) rfl (fun E hret => ?_)
  have hixnd : ix (u.1 10) = nd := by rw [hnd]; exact nI_clamp (by omega)
  refine z_iload_n 1 dX0_addDevice_0 rfl ?_
  refine z_iconst (v := 0) dX0_addDevice_1 rfl ?_
  refine z_bipush (v := 7) dX0_addDevice_2 rfl ?_
  have e_4_0 : (e_X0_requireWithin p1 0 7) = 0 := Decidable.byContradiction (fun hq => by rw [e_X0_addDevice, if_neg hq] at he; exact hq he)
  refine z_callSv (As := [.int p1, .int 0, .int 7]) (st := []) (fun l => c_X0_requireWithin l D _ _ p1 0 7 (by assumption)) zGok_TT (fun _ _ _ => trivial) (fun s args hts => va_cwS 3 hts gX0_addDevice_X0_requireWithin rfl rfl rfl (by decide +kernel) ⟨Nat.le_of_ble_eq_true rfl, Nat.le_of_ble_eq_true rfl⟩) rfl (Nat.le_of_ble_eq_true rfl) ⟨Nat.le_of_ble_eq_true rfl, Nat.le_of_ble_eq_true rfl⟩ dX0_addDevice_4 rfl (fun u2 hp => ?_)
  clear hp
  refine z_iload_n 2 dX0_addDevice_7 rfl ?_
  refine z_sipush (v := (-720)) dX0_addDevice_8 rfl ?_
  refine z_sipush (v := 840) dX0_addDevice_11 rfl ?_
  have e_14_1 : (e_X0_requireWithin p2 (-720) 840) = 0 := Decidable.byContradiction (fun hq => by rw [e_X0_addDevice, if_pos e_4_0, if_neg hq] at he; exact hq he)
  refine z_callSv (As := [.int p2, .int (-720), .int 840]) (st := []) (fun l => c_X0_requireWithin l D _ _ p2 (-720) 840 (by assumption)) zGok_TT (fun _ _ _ => trivial) (fun s args hts => va_cwS 3 hts gX0_addDevice_X0_requireWithin rfl rfl rfl (by decide +kernel) ⟨Nat.le_of_ble_eq_true rfl, Nat.le_of_ble_eq_true rfl⟩) rfl (Nat.le_of_ble_eq_true rfl) ⟨Nat.le_of_ble_eq_true rfl, Nat.le_of_ble_eq_true rfl⟩ dX0_addDevice_14 rfl (fun u2 hp => ?_)
  clear hp
  refine z_aload_n 0 dX0_addDevice_17 rfl ?_
  refine z_get (C := RX0) (T := TX0) (N := 19) (v := .int (u.1 10)) inwX0_addDevice 0 rfl rfl 10 (by decide) (List.mem_of_getElem? (i := 3) rfl) rfl rfl dX0_addDevice_18 ?_
  refine z_bipush (v := 16) dX0_addDevice_21 rfl ?_
  refine z_icmp_lt 36 dX0_addDevice_23 (by decide) (fun c_23_2 => ?_) (fun c_23_2 => ?_)
  ·
    refine z_aload_n 0 dX0_addDevice_36 rfl ?_
    refine z_get (C := RX0) (T := TX0) (N := 19) (v := .int (u.1 10)) inwX0_addDevice 0 rfl rfl 10 (by decide) (List.mem_of_getElem? (i := 3) rfl) rfl rfl dX0_addDevice_37 ?_
    refine z_istore_n (L' := [(3, .int (u.1 10)), (0, .ref h), (1, .int p1), (2, .int p2)]) dX0_addDevice_40 (by decide) rfl ?_
    refine z_aload_n 1 dX0_addDevice_41 rfl ?_
    refine z_dup dX0_addDevice_42 rfl ?_
    refine z_get (C := RX0) (T := TX0) (N := 19) (v := .int (u.1 10)) inwX0_addDevice 0 rfl rfl 10 (by decide) (List.mem_of_getElem? (i := 3) rfl) rfl rfl dX0_addDevice_43 ?_
    refine z_iconst (v := 1) dX0_addDevice_46 rfl ?_
    refine z_iadd dX0_addDevice_47 ?_
    refine z_put (C := RX0) (T := TX0) (N := 19) (v := .int ((u.1 10) + 1)) (w' := (wX0 cI cZ h a (pF u 10 ((u.1 10) + 1)))) inwX0_addDevice 0 rfl rfl 10 (by decide) (List.mem_of_getElem? (i := 3) rfl) rfl tyX0 tyX0_ok nmX0 rfl rfl rfl (by decide) (wX0_p10 _ _ _ _ _ _) dX0_addDevice_48 ?_
    refine z_aload_n 1 dX0_addDevice_51 rfl ?_
    refine z_get (C := RX0) (T := TX0) (N := 19) (v := .ref (a 5)) inwX0_addDevice 0 rfl rfl 5 (by decide) (List.mem_of_getElem? (i := 4) rfl) rfl rfl dX0_addDevice_52 ?_
    refine z_iload_n 0 dX0_addDevice_55 rfl ?_
    refine z_iload_n 3 dX0_addDevice_56 rfl ?_
    refine z_iast (w' := (wX0 cI cZ h a (pG (pF u 10 ((u.1 10) + 1)) 5 (ix (u.1 10)) p2))) 3 0 rfl rfl (by first | assumption | exact hnd | exact zdev hnd hd (by assumption) | exact zroomD hnd hd (by assumption) | exact zwithin (by assumption) (by decide) (by decide) | decide) (wX0_g5 _ _ _ _ _ _ _) dX0_addDevice_57 ?_
    refine z_aload_n 1 dX0_addDevice_58 rfl ?_
    refine z_get (C := RX0) (T := TX0) (N := 19) (v := .ref (a 0)) inwX0_addDevice 0 rfl rfl 0 (by decide) (List.mem_of_getElem? (i := 5) rfl) rfl rfl dX0_addDevice_59 ?_
    refine z_iload_n 2 dX0_addDevice_62 rfl ?_
    refine z_dup2 dX0_addDevice_63 rfl rfl ?_
    refine z_iald (v := (u.2 0 (ix p1))) 1 0 rfl rfl (by first | assumption | exact hnd | exact zdev hnd hd (by assumption) | exact zroomD hnd hd (by assumption) | exact zwithin (by assumption) (by decide) (by decide) | decide) rfl dX0_addDevice_64 ?_
    refine z_iload_n 0 dX0_addDevice_65 rfl ?_
    refine z_callSi (As := [.int (u.1 10)]) (st := [.int (u.2 0 (ix p1)), .int p1, .ref (a 0)]) (fun l => c_X0_bitOf l D _ _ (u.1 10)) zGok_TT (fun _ _ _ => trivial) (fun s args hts => va_cwS 1 hts gX0_addDevice_X0_bitOf rfl rfl rfl (by decide +kernel) ⟨Nat.le_of_ble_eq_true rfl, Nat.le_of_ble_eq_true rfl⟩) rfl (Nat.le_of_ble_eq_true rfl) ⟨Nat.le_of_ble_eq_true rfl, Nat.le_of_ble_eq_true rfl⟩ dX0_addDevice_66 rfl (fun r u2 hp => ?_)
    subst hp
    refine z_ior dX0_addDevice_69 ?_
    refine z_iast (w' := (wX0 cI cZ h a (pG (pG (pF u 10 ((u.1 10) + 1)) 5 (ix (u.1 10)) p2) 0 (ix p1) ((u.2 0 (ix p1)) ||| (r_X0_bitOf (u.1 10)))))) 1 0 rfl rfl (by first | assumption | exact hnd | exact zdev hnd hd (by assumption) | exact zroomD hnd hd (by assumption) | exact zwithin (by assumption) (by decide) (by decide) | decide) (wX0_g0 _ _ _ _ _ _ _) dX0_addDevice_70 ?_
    refine z_aload_n 1 dX0_addDevice_71 rfl ?_
    refine z_dup dX0_addDevice_72 rfl ?_
    refine z_get (C := RX0) (T := TX0) (N := 19) (v := .int (u.1 2)) inwX0_addDevice 0 rfl rfl 2 (by decide) (List.mem_of_getElem? (i := 6) rfl) rfl rfl dX0_addDevice_73 ?_
    refine z_iload_n 0 dX0_addDevice_76 rfl ?_
    refine z_callSi (As := [.int (u.1 10)]) (st := [.int (u.1 2), .ref h]) (fun l => c_X0_bitOf l D _ _ (u.1 10)) zGok_TT (fun _ _ _ => trivial) (fun s args hts => va_cwS 1 hts gX0_addDevice_X0_bitOf rfl rfl rfl (by decide +kernel) ⟨Nat.le_of_ble_eq_true rfl, Nat.le_of_ble_eq_true rfl⟩) rfl (Nat.le_of_ble_eq_true rfl) ⟨Nat.le_of_ble_eq_true rfl, Nat.le_of_ble_eq_true rfl⟩ dX0_addDevice_77 rfl (fun r u2 hp => ?_)
    subst hp
    refine z_ior dX0_addDevice_80 ?_
    refine z_put (C := RX0) (T := TX0) (N := 19) (v := .int ((u.1 2) ||| (r_X0_bitOf (u.1 10)))) (w' := (wX0 cI cZ h a (pF (pG (pG (pF u 10 ((u.1 10) + 1)) 5 (ix (u.1 10)) p2) 0 (ix p1) ((u.2 0 (ix p1)) ||| (r_X0_bitOf (u.1 10)))) 2 ((u.1 2) ||| (r_X0_bitOf (u.1 10)))))) inwX0_addDevice 0 rfl rfl 2 (by decide) (List.mem_of_getElem? (i := 6) rfl) rfl tyX0 tyX0_ok nmX0 rfl rfl rfl (by decide) (wX0_p2 _ _ _ _ _ _) dX0_addDevice_81 ?_
    refine z_aload_n 1 dX0_addDevice_84 rfl ?_
    refine z_dup dX0_addDevice_85 rfl ?_
    refine z_get (C := RX0) (T := TX0) (N := 19) (v := .int (u.1 3)) inwX0_addDevice 0 rfl rfl 3 (by decide) (List.mem_of_getElem? (i := 7) rfl) rfl rfl dX0_addDevice_86 ?_
    refine z_iload_n 0 dX0_addDevice_89 rfl ?_
    refine z_callSi (As := [.int (u.1 10)]) (st := [.int (u.1 3), .ref h]) (fun l => c_X0_bitOf l D _ _ (u.1 10)) zGok_TT (fun _ _ _ => trivial) (fun s args hts => va_cwS 1 hts gX0_addDevice_X0_bitOf rfl rfl rfl (by decide +kernel) ⟨Nat.le_of_ble_eq_true rfl, Nat.le_of_ble_eq_true rfl⟩) rfl (Nat.le_of_ble_eq_true rfl) ⟨Nat.le_of_ble_eq_true rfl, Nat.le_of_ble_eq_true rfl⟩ dX0_addDevice_90 rfl (fun r u2 hp => ?_)
    subst hp
    refine z_ior dX0_addDevice_93 ?_
    refine z_put (C := RX0) (T := TX0) (N := 19) (v := .int ((u.1 3) ||| (r_X0_bitOf (u.1 10)))) (w' := (wX0 cI cZ h a (pF (pF (pG (pG (pF u 10 ((u.1 10) + 1)) 5 (ix (u.1 10)) p2) 0 (ix p1) ((u.2 0 (ix p1)) ||| (r_X0_bitOf (u.1 10)))) 2 ((u.1 2) ||| (r_X0_bitOf (u.1 10)))) 3 ((u.1 3) ||| (r_X0_bitOf (u.1 10)))))) inwX0_addDevice 0 rfl rfl 3 (by decide) (List.mem_of_getElem? (i := 7) rfl) rfl tyX0 tyX0_ok nmX0 rfl rfl rfl (by decide) (wX0_p3 _ _ _ _ _ _) dX0_addDevice_94 ?_
    refine z_iload_n 0 dX0_addDevice_97 rfl ?_
    exact hret _ (pF (pF (pG (pG (pF u 10 ((u.1 10) + 1)) 5 (ix (u.1 10)) p2) 0 (ix p1) ((u.2 0 (ix p1)) ||| (r_X0_bitOf (u.1 10)))) 2 ((u.1 2) ||| (r_X0_bitOf (u.1 10)))) 3 ((u.1 3) ||| (r_X0_bitOf (u.1 10)))) _ _ _ dX0_addDevice_98 ⟨(by rw [r_X0_addDevice]), (by rw [s_X0_addDevice])⟩ rfl
  ·
    exact absurd he (by rw [e_X0_addDevice, if_pos e_4_0, if_pos e_14_1, if_neg c_23_2]; decide)
set_option maxHeartbeats 4000000 in
set_option maxRecDepth 100000 in
theorem t_X0_addDevice (l : Launch) (hlt : l.stackTraces = false) (D : va_G) (cI cZ : ClassId) (h : Nat) (a : Nat → Nat) (u : SX) (p1 p2 : Int32) (he : e_X0_addDevice u p1 p2 ≠ 0) (nd : Nat) (hnd : u.1 10 = nI nd) (hd : nd ≤ 16) : zMx l yX0_addDevice wsX0_addDevice ({ frames := 7, cells := 1, slots := 6, locals := 104 } : Room) D [(cI, .int), (cZ, .boolean)] (wX0 cI cZ h a u) [.ref h, .int p1, .int p2] (fun E' => E' = zEx (e_X0_addDevice u p1 p2)) := by
  refine z_startX (cc := cX0_addDevice) (n := 4) (own := RX0) (L0 := [(0, .ref h), (1, .int p1), (2, .int p2)]) hlt (by decide) rfl rfl (Nat.le_of_ble_eq_true rfl) rfl ⟨Nat.le_of_ble_eq_true rfl, Nat.le_of_ble_eq_true rfl⟩ (fun E hlt hthr hthrow => ?_)
  refine z_iload_n 1 dX0_addDevice_0 rfl ?_
  refine z_iconst (v := 0) dX0_addDevice_1 rfl ?_
  refine z_bipush (v := 7) dX0_addDevice_2 rfl ?_
  by_cases e_4_0 : (e_X0_requireWithin p1 0 7) = 0
  ·
    refine z_callSv (As := [.int p1, .int 0, .int 7]) (st := []) (fun l => c_X0_requireWithin l D _ _ p1 0 7 (by assumption)) zGok_TT (fun _ _ _ => trivial) (fun s args hts => va_cwS 3 hts gX0_addDevice_X0_requireWithin rfl rfl rfl (by decide +kernel) ⟨Nat.le_of_ble_eq_true rfl, Nat.le_of_ble_eq_true rfl⟩) rfl (Nat.le_of_ble_eq_true rfl) ⟨Nat.le_of_ble_eq_true rfl, Nat.le_of_ble_eq_true rfl⟩ dX0_addDevice_4 rfl (fun u2 hp => ?_)
    clear hp
    refine z_iload_n 2 dX0_addDevice_7 rfl ?_
    refine z_sipush (v := (-720)) dX0_addDevice_8 rfl ?_
    refine z_sipush (v := 840) dX0_addDevice_11 rfl ?_
    by_cases e_14_1 : (e_X0_requireWithin p2 (-720) 840) = 0
    ·
      refine z_callSv (As := [.int p2, .int (-720), .int 840]) (st := []) (fun l => c_X0_requireWithin l D _ _ p2 (-720) 840 (by assumption)) zGok_TT (fun _ _ _ => trivial) (fun s args hts => va_cwS 3 hts gX0_addDevice_X0_requireWithin rfl rfl rfl (by decide +kernel) ⟨Nat.le_of_ble_eq_true rfl, Nat.le_of_ble_eq_true rfl⟩) rfl (Nat.le_of_ble_eq_true rfl) ⟨Nat.le_of_ble_eq_true rfl, Nat.le_of_ble_eq_true rfl⟩ dX0_addDevice_14 rfl (fun u2 hp => ?_)
      clear hp
      refine z_aload_n 0 dX0_addDevice_17 rfl ?_
      refine z_get (C := RX0) (T := TX0) (N := 19) (v := .int (u.1 10)) inwX0_addDevice 0 rfl rfl 10 (by decide) (List.mem_of_getElem? (i := 3) rfl) rfl rfl dX0_addDevice_18 ?_
      refine z_bipush (v := 16) dX0_addDevice_21 rfl ?_
      refine z_icmp_lt 36 dX0_addDevice_23 (by decide) (fun c_23_2 => ?_) (fun c_23_2 => ?_)
      ·
        exact absurd (by rw [e_X0_addDevice, if_pos e_4_0, if_pos e_14_1, if_pos c_23_2]) he
      ·
        exact hthrow 26 _ "java/lang/IllegalStateException" "there are 16 devices" 73 75 77 (by decide) (by decide) (by decide +kernel) (List.mem_of_getElem? (i := 1) rfl) (List.mem_of_getElem? (i := 2) rfl) rfl (by decide) (fun w h => List.mem_cons_of_mem _ (by first | exact List.mem_append_right _ h | exact List.mem_append_left _ (List.mem_append_right _ h) | exact List.mem_append_left _ (List.mem_append_left _ (List.mem_append_right _ h)))) (by decide +kernel) (by decide +kernel) dX0_addDevice_26 dX0_addDevice_29 dX0_addDevice_30 dX0_addDevice_32 dX0_addDevice_35 (by show _ = zEx _; rw [e_X0_addDevice, if_pos e_4_0, if_pos e_14_1, if_neg c_23_2]; rfl)
    ·
      refine z_callSx (As := [.int p2, .int (-720), .int 840]) (st := []) hlt (fun l hl => t_X0_requireWithin l hl D _ _ p2 (-720) 840 (by assumption)) (fun s args hts => va_cwS 3 hts gX0_addDevice_X0_requireWithin rfl rfl rfl (by decide +kernel) ⟨Nat.le_of_ble_eq_true rfl, Nat.le_of_ble_eq_true rfl⟩) rfl (Nat.le_of_ble_eq_true rfl) ⟨Nat.le_of_ble_eq_true rfl, Nat.le_of_ble_eq_true rfl⟩ dX0_addDevice_14 rfl ?_
      exact hthr _ _ _ (fun E' hE => by rw [e_X0_addDevice, if_pos e_4_0, if_neg e_14_1]; exact hE)
  ·
    refine z_callSx (As := [.int p1, .int 0, .int 7]) (st := []) hlt (fun l hl => t_X0_requireWithin l hl D _ _ p1 0 7 (by assumption)) (fun s args hts => va_cwS 3 hts gX0_addDevice_X0_requireWithin rfl rfl rfl (by decide +kernel) ⟨Nat.le_of_ble_eq_true rfl, Nat.le_of_ble_eq_true rfl⟩) rfl (Nat.le_of_ble_eq_true rfl) ⟨Nat.le_of_ble_eq_true rfl, Nat.le_of_ble_eq_true rfl⟩ dX0_addDevice_4 rfl ?_
    exact hthr _ _ _ (fun E' hE => by rw [e_X0_addDevice, if_neg e_4_0]; exact hE)
set_option maxHeartbeats 4000000 in
set_option maxRecDepth 100000 in
theorem c_X0_setOnline (l : Launch) (D : va_G) (cI cZ : ClassId) (h : Nat) (a : Nat → Nat) (u : SX) (p1 p2 : Int32) (he : e_X0_setOnline u p1 p2 = 0) (nd : Nat) (hnd : u.1 10 = nI nd) (hd : nd ≤ 16) (nn : Nat) (hnn : u.1 16 = nI nn) (hn : nn ≤ 120) : zMi l yX0_setOnline wsX0_setOnline ({ frames := 5, cells := 0, slots := 0, locals := 112 } : Room) zTT D [(cI, .int), (cZ, .boolean)] (wX0 cI cZ h a u) [.ref h, .int p1, .int p2] (fun (r : Int32) (u2 : SX) => r = r_X0_setOnline u p1 p2 ∧ u2 = s_X0_setOnline u p1 p2) (fun u2 => (wX0 cI cZ h a u2)) 0 0 := by
  refine z_startI (cc := cX0_setOnline) (n := 3) (own := RX0) (L0 := [(0, .ref h), (1, .int p1), (2, .int p2)]) (plainFor_of_name (by decide)) rfl rfl (Nat.le_of_ble_eq_true rfl) rfl (fun E hret => ?_)
  have hixnn : ix (u.1 16) = nn := by rw [hnn]; exact nI_clamp (by omega)
  have hixnd : ix (u.1 10) = nd := by rw [hnd]; exact nI_clamp (by omega)
  refine z_aload_n 0 dX0_setOnline_0 rfl ?_
  refine z_iload_n 1 dX0_setOnline_1 rfl ?_
  have e_2_0 : (e_X0_requireDevice u p1) = 0 := Decidable.byContradiction (fun hq => by rw [e_X0_setOnline, if_neg hq] at he; exact hq he)
  refine z_callVv (As := [.int p1]) (st := []) (fun l => c_X0_requireDevice l D cI cZ h a u p1 (by assumption)) zGok_TT (fun _ _ _ => trivial) (fun s args hts => cwV 1 hts gX0_setOnline_X0_requireDevice rfl rfl rfl (by decide +kernel) ⟨Nat.le_of_ble_eq_true rfl, Nat.le_of_ble_eq_true rfl⟩) (ci := 0) rfl rfl rfl rfl (Nat.le_of_ble_eq_true rfl) ⟨Nat.le_of_ble_eq_true rfl, Nat.le_of_ble_eq_true rfl⟩ dX0_setOnline_2 rfl (fun u2 hp => ?_)
  clear hp
  refine z_aload_n 0 dX0_setOnline_5 rfl ?_
  refine z_aload_n 0 dX0_setOnline_6 rfl ?_
  refine z_get (C := RX0) (T := TX0) (N := 19) (v := .int (u.1 3)) inwX0_setOnline 0 rfl rfl 3 (by decide) (List.mem_of_getElem? (i := 1) rfl) rfl rfl dX0_setOnline_7 ?_
  refine z_iload_n 1 dX0_setOnline_10 rfl ?_
  refine z_iload_n 2 dX0_setOnline_11 rfl ?_
  refine z_callSi (As := [.int (u.1 3), .int p1, .int p2]) (st := [.ref h]) (fun l => c_X0_changed l D _ _ (u.1 3) p1 p2) zGok_TT (fun _ _ _ => trivial) (fun s args hts => va_cwS 3 hts gX0_setOnline_X0_changed rfl rfl rfl (by decide +kernel) ⟨Nat.le_of_ble_eq_true rfl, Nat.le_of_ble_eq_true rfl⟩) rfl (Nat.le_of_ble_eq_true rfl) ⟨Nat.le_of_ble_eq_true rfl, Nat.le_of_ble_eq_true rfl⟩ dX0_setOnline_12 rfl (fun r u2 hp => ?_)
  subst hp
  refine z_put (C := RX0) (T := TX0) (N := 19) (v := .int (r_X0_changed (u.1 3) p1 p2)) (w' := (wX0 cI cZ h a (pF u 3 (r_X0_changed (u.1 3) p1 p2)))) inwX0_setOnline 0 rfl rfl 3 (by decide) (List.mem_of_getElem? (i := 1) rfl) rfl tyX0 tyX0_ok nmX0 rfl rfl rfl (by decide) (wX0_p3 _ _ _ _ _ _) dX0_setOnline_15 ?_
  refine z_aload_n 0 dX0_setOnline_18 rfl ?_
  refine z_callVi (As := []) (st := []) (fun l => c_X0_deliverNow l D cI cZ h a (pF u 3 (r_X0_changed (u.1 3) p1 p2))  nd (by first | assumption | exact hnd | exact zdev hnd hd (by assumption) | exact hnn | exact znot hnn hn (by assumption) | decide) (by first | assumption | exact hnd | exact zdev hnd hd (by assumption) | exact hnn | exact znot hnn hn (by assumption) | decide) nn (by first | assumption | exact hnd | exact zdev hnd hd (by assumption) | exact hnn | exact znot hnn hn (by assumption) | decide) (by first | assumption | exact hnd | exact zdev hnd hd (by assumption) | exact hnn | exact znot hnn hn (by assumption) | decide)) zGok_TT (fun _ _ _ => trivial) (fun s args hts => cwV 0 hts gX0_setOnline_X0_deliverNow rfl rfl rfl (by decide +kernel) ⟨Nat.le_of_ble_eq_true rfl, Nat.le_of_ble_eq_true rfl⟩) (ci := 0) rfl rfl rfl rfl (Nat.le_of_ble_eq_true rfl) ⟨Nat.le_of_ble_eq_true rfl, Nat.le_of_ble_eq_true rfl⟩ dX0_setOnline_19 rfl (fun r u2 hp => ?_)
  obtain ⟨rfl, rfl⟩ := hp
  exact hret _ (s_X0_deliverNow (pF u 3 (r_X0_changed (u.1 3) p1 p2)) ) _ _ _ dX0_setOnline_22 ⟨(by rw [r_X0_setOnline]), (by rw [s_X0_setOnline])⟩ rfl
set_option maxHeartbeats 4000000 in
set_option maxRecDepth 100000 in
theorem t_X0_setOnline (l : Launch) (hlt : l.stackTraces = false) (D : va_G) (cI cZ : ClassId) (h : Nat) (a : Nat → Nat) (u : SX) (p1 p2 : Int32) (he : e_X0_setOnline u p1 p2 ≠ 0) (nd : Nat) (hnd : u.1 10 = nI nd) (hd : nd ≤ 16) (nn : Nat) (hnn : u.1 16 = nI nn) (hn : nn ≤ 120) : zMx l yX0_setOnline wsX0_setOnline ({ frames := 7, cells := 1, slots := 6, locals := 112 } : Room) D [(cI, .int), (cZ, .boolean)] (wX0 cI cZ h a u) [.ref h, .int p1, .int p2] (fun E' => E' = zEx (e_X0_setOnline u p1 p2)) := by
  refine z_startX (cc := cX0_setOnline) (n := 3) (own := RX0) (L0 := [(0, .ref h), (1, .int p1), (2, .int p2)]) hlt (by decide) rfl rfl (Nat.le_of_ble_eq_true rfl) rfl ⟨Nat.le_of_ble_eq_true rfl, Nat.le_of_ble_eq_true rfl⟩ (fun E hlt hthr hthrow => ?_)
  refine z_aload_n 0 dX0_setOnline_0 rfl ?_
  refine z_iload_n 1 dX0_setOnline_1 rfl ?_
  by_cases e_2_0 : (e_X0_requireDevice u p1) = 0
  ·
    refine z_callVv (As := [.int p1]) (st := []) (fun l => c_X0_requireDevice l D cI cZ h a u p1 (by assumption)) zGok_TT (fun _ _ _ => trivial) (fun s args hts => cwV 1 hts gX0_setOnline_X0_requireDevice rfl rfl rfl (by decide +kernel) ⟨Nat.le_of_ble_eq_true rfl, Nat.le_of_ble_eq_true rfl⟩) (ci := 0) rfl rfl rfl rfl (Nat.le_of_ble_eq_true rfl) ⟨Nat.le_of_ble_eq_true rfl, Nat.le_of_ble_eq_true rfl⟩ dX0_setOnline_2 rfl (fun u2 hp => ?_)
    clear hp
    exact absurd (by rw [e_X0_setOnline, if_pos e_2_0]) he
  ·
    refine z_callVx (As := [.int p1]) (st := []) hlt (fun l hl => t_X0_requireDevice l hl D cI cZ h a u p1 (by assumption)) (fun s args hts => cwV 1 hts gX0_setOnline_X0_requireDevice rfl rfl rfl (by decide +kernel) ⟨Nat.le_of_ble_eq_true rfl, Nat.le_of_ble_eq_true rfl⟩) (ci := 0) rfl rfl rfl rfl (Nat.le_of_ble_eq_true rfl) ⟨Nat.le_of_ble_eq_true rfl, Nat.le_of_ble_eq_true rfl⟩ dX0_setOnline_2 rfl ?_
    exact hthr _ _ _ (fun E' hE => by rw [e_X0_setOnline, if_neg e_2_0]; exact hE)
set_option maxHeartbeats 4000000 in
set_option maxRecDepth 100000 in
theorem c_X0_setDozing (l : Launch) (D : va_G) (cI cZ : ClassId) (h : Nat) (a : Nat → Nat) (u : SX) (p1 p2 : Int32) (he : e_X0_setDozing u p1 p2 = 0) (nd : Nat) (hnd : u.1 10 = nI nd) (hd : nd ≤ 16) (nn : Nat) (hnn : u.1 16 = nI nn) (hn : nn ≤ 120) : zMi l yX0_setDozing wsX0_setDozing ({ frames := 5, cells := 0, slots := 0, locals := 112 } : Room) zTT D [(cI, .int), (cZ, .boolean)] (wX0 cI cZ h a u) [.ref h, .int p1, .int p2] (fun (r : Int32) (u2 : SX) => r = r_X0_setDozing u p1 p2 ∧ u2 = s_X0_setDozing u p1 p2) (fun u2 => (wX0 cI cZ h a u2)) 0 0 := by
  refine z_startI (cc := cX0_setDozing) (n := 3) (own := RX0) (L0 := [(0, .ref h), (1, .int p1), (2, .int p2)]) (plainFor_of_name (by decide)) rfl rfl (Nat.le_of_ble_eq_true rfl) rfl (fun E hret => ?_)
  have hixnn : ix (u.1 16) = nn := by rw [hnn]; exact nI_clamp (by omega)
  have hixnd : ix (u.1 10) = nd := by rw [hnd]; exact nI_clamp (by omega)
  refine z_aload_n 0 dX0_setDozing_0 rfl ?_
  refine z_iload_n 1 dX0_setDozing_1 rfl ?_
  have e_2_0 : (e_X0_requireDevice u p1) = 0 := Decidable.byContradiction (fun hq => by rw [e_X0_setDozing, if_neg hq] at he; exact hq he)
  refine z_callVv (As := [.int p1]) (st := []) (fun l => c_X0_requireDevice l D cI cZ h a u p1 (by assumption)) zGok_TT (fun _ _ _ => trivial) (fun s args hts => cwV 1 hts gX0_setDozing_X0_requireDevice rfl rfl rfl (by decide +kernel) ⟨Nat.le_of_ble_eq_true rfl, Nat.le_of_ble_eq_true rfl⟩) (ci := 0) rfl rfl rfl rfl (Nat.le_of_ble_eq_true rfl) ⟨Nat.le_of_ble_eq_true rfl, Nat.le_of_ble_eq_true rfl⟩ dX0_setDozing_2 rfl (fun u2 hp => ?_)
  clear hp
  refine z_aload_n 0 dX0_setDozing_5 rfl ?_
  refine z_aload_n 0 dX0_setDozing_6 rfl ?_
  refine z_get (C := RX0) (T := TX0) (N := 19) (v := .int (u.1 4)) inwX0_setDozing 0 rfl rfl 4 (by decide) (List.mem_of_getElem? (i := 1) rfl) rfl rfl dX0_setDozing_7 ?_
  refine z_iload_n 1 dX0_setDozing_10 rfl ?_
  refine z_iload_n 2 dX0_setDozing_11 rfl ?_
  refine z_callSi (As := [.int (u.1 4), .int p1, .int p2]) (st := [.ref h]) (fun l => c_X0_changed l D _ _ (u.1 4) p1 p2) zGok_TT (fun _ _ _ => trivial) (fun s args hts => va_cwS 3 hts gX0_setDozing_X0_changed rfl rfl rfl (by decide +kernel) ⟨Nat.le_of_ble_eq_true rfl, Nat.le_of_ble_eq_true rfl⟩) rfl (Nat.le_of_ble_eq_true rfl) ⟨Nat.le_of_ble_eq_true rfl, Nat.le_of_ble_eq_true rfl⟩ dX0_setDozing_12 rfl (fun r u2 hp => ?_)
  subst hp
  refine z_put (C := RX0) (T := TX0) (N := 19) (v := .int (r_X0_changed (u.1 4) p1 p2)) (w' := (wX0 cI cZ h a (pF u 4 (r_X0_changed (u.1 4) p1 p2)))) inwX0_setDozing 0 rfl rfl 4 (by decide) (List.mem_of_getElem? (i := 1) rfl) rfl tyX0 tyX0_ok nmX0 rfl rfl rfl (by decide) (wX0_p4 _ _ _ _ _ _) dX0_setDozing_15 ?_
  refine z_aload_n 0 dX0_setDozing_18 rfl ?_
  refine z_callVi (As := []) (st := []) (fun l => c_X0_deliverNow l D cI cZ h a (pF u 4 (r_X0_changed (u.1 4) p1 p2))  nd (by first | assumption | exact hnd | exact zdev hnd hd (by assumption) | exact hnn | exact znot hnn hn (by assumption) | decide) (by first | assumption | exact hnd | exact zdev hnd hd (by assumption) | exact hnn | exact znot hnn hn (by assumption) | decide) nn (by first | assumption | exact hnd | exact zdev hnd hd (by assumption) | exact hnn | exact znot hnn hn (by assumption) | decide) (by first | assumption | exact hnd | exact zdev hnd hd (by assumption) | exact hnn | exact znot hnn hn (by assumption) | decide)) zGok_TT (fun _ _ _ => trivial) (fun s args hts => cwV 0 hts gX0_setDozing_X0_deliverNow rfl rfl rfl (by decide +kernel) ⟨Nat.le_of_ble_eq_true rfl, Nat.le_of_ble_eq_true rfl⟩) (ci := 0) rfl rfl rfl rfl (Nat.le_of_ble_eq_true rfl) ⟨Nat.le_of_ble_eq_true rfl, Nat.le_of_ble_eq_true rfl⟩ dX0_setDozing_19 rfl (fun r u2 hp => ?_)
  obtain ⟨rfl, rfl⟩ := hp
  exact hret _ (s_X0_deliverNow (pF u 4 (r_X0_changed (u.1 4) p1 p2)) ) _ _ _ dX0_setDozing_22 ⟨(by rw [r_X0_setDozing]), (by rw [s_X0_setDozing])⟩ rfl
set_option maxHeartbeats 4000000 in
set_option maxRecDepth 100000 in
theorem t_X0_setDozing (l : Launch) (hlt : l.stackTraces = false) (D : va_G) (cI cZ : ClassId) (h : Nat) (a : Nat → Nat) (u : SX) (p1 p2 : Int32) (he : e_X0_setDozing u p1 p2 ≠ 0) (nd : Nat) (hnd : u.1 10 = nI nd) (hd : nd ≤ 16) (nn : Nat) (hnn : u.1 16 = nI nn) (hn : nn ≤ 120) : zMx l yX0_setDozing wsX0_setDozing ({ frames := 7, cells := 1, slots := 6, locals := 112 } : Room) D [(cI, .int), (cZ, .boolean)] (wX0 cI cZ h a u) [.ref h, .int p1, .int p2] (fun E' => E' = zEx (e_X0_setDozing u p1 p2)) := by
  refine z_startX (cc := cX0_setDozing) (n := 3) (own := RX0) (L0 := [(0, .ref h), (1, .int p1), (2, .int p2)]) hlt (by decide) rfl rfl (Nat.le_of_ble_eq_true rfl) rfl ⟨Nat.le_of_ble_eq_true rfl, Nat.le_of_ble_eq_true rfl⟩ (fun E hlt hthr hthrow => ?_)
  refine z_aload_n 0 dX0_setDozing_0 rfl ?_
  refine z_iload_n 1 dX0_setDozing_1 rfl ?_
  by_cases e_2_0 : (e_X0_requireDevice u p1) = 0
  ·
    refine z_callVv (As := [.int p1]) (st := []) (fun l => c_X0_requireDevice l D cI cZ h a u p1 (by assumption)) zGok_TT (fun _ _ _ => trivial) (fun s args hts => cwV 1 hts gX0_setDozing_X0_requireDevice rfl rfl rfl (by decide +kernel) ⟨Nat.le_of_ble_eq_true rfl, Nat.le_of_ble_eq_true rfl⟩) (ci := 0) rfl rfl rfl rfl (Nat.le_of_ble_eq_true rfl) ⟨Nat.le_of_ble_eq_true rfl, Nat.le_of_ble_eq_true rfl⟩ dX0_setDozing_2 rfl (fun u2 hp => ?_)
    clear hp
    exact absurd (by rw [e_X0_setDozing, if_pos e_2_0]) he
  ·
    refine z_callVx (As := [.int p1]) (st := []) hlt (fun l hl => t_X0_requireDevice l hl D cI cZ h a u p1 (by assumption)) (fun s args hts => cwV 1 hts gX0_setDozing_X0_requireDevice rfl rfl rfl (by decide +kernel) ⟨Nat.le_of_ble_eq_true rfl, Nat.le_of_ble_eq_true rfl⟩) (ci := 0) rfl rfl rfl rfl (Nat.le_of_ble_eq_true rfl) ⟨Nat.le_of_ble_eq_true rfl, Nat.le_of_ble_eq_true rfl⟩ dX0_setDozing_2 rfl ?_
    exact hthr _ _ _ (fun E' hE => by rw [e_X0_setDozing, if_neg e_2_0]; exact hE)
set_option maxHeartbeats 4000000 in
set_option maxRecDepth 100000 in
theorem c_X0_setQuiet (l : Launch) (D : va_G) (cI cZ : ClassId) (h : Nat) (a : Nat → Nat) (u : SX) (p1 p2 p3 : Int32) (he : e_X0_setQuiet u p1 p2 p3 = 0) (nd : Nat) (hnd : u.1 10 = nI nd) (hd : nd ≤ 16) (nn : Nat) (hnn : u.1 16 = nI nn) (hn : nn ≤ 120) : zMi l yX0_setQuiet wsX0_setQuiet ({ frames := 5, cells := 0, slots := 0, locals := 112 } : Room) zTT D [(cI, .int), (cZ, .boolean)] (wX0 cI cZ h a u) [.ref h, .int p1, .int p2, .int p3] (fun (r : Int32) (u2 : SX) => r = r_X0_setQuiet u p1 p2 p3 ∧ u2 = s_X0_setQuiet u p1 p2 p3) (fun u2 => (wX0 cI cZ h a u2)) 0 0 := by
  refine z_startI (cc := cX0_setQuiet) (n := 4) (own := RX0) (L0 := [(0, .ref h), (1, .int p1), (2, .int p2), (3, .int p3)]) (plainFor_of_name (by decide)) rfl rfl (Nat.le_of_ble_eq_true rfl) rfl (fun E hret => ?_)
  have hixnn : ix (u.1 16) = nn := by rw [hnn]; exact nI_clamp (by omega)
  have hixnd : ix (u.1 10) = nd := by rw [hnd]; exact nI_clamp (by omega)
  refine z_aload_n 0 dX0_setQuiet_0 rfl ?_
  refine z_iload_n 1 dX0_setQuiet_1 rfl ?_
  have e_2_0 : (e_X0_requireDevice u p1) = 0 := Decidable.byContradiction (fun hq => by rw [e_X0_setQuiet, if_neg hq] at he; exact hq he)
  refine z_callVv (As := [.int p1]) (st := []) (fun l => c_X0_requireDevice l D cI cZ h a u p1 (by assumption)) zGok_TT (fun _ _ _ => trivial) (fun s args hts => cwV 1 hts gX0_setQuiet_X0_requireDevice rfl rfl rfl (by decide +kernel) ⟨Nat.le_of_ble_eq_true rfl, Nat.le_of_ble_eq_true rfl⟩) (ci := 0) rfl rfl rfl rfl (Nat.le_of_ble_eq_true rfl) ⟨Nat.le_of_ble_eq_true rfl, Nat.le_of_ble_eq_true rfl⟩ dX0_setQuiet_2 rfl (fun u2 hp => ?_)
  clear hp
  refine z_iload_n 2 dX0_setQuiet_5 rfl ?_
  refine z_iconst (v := 0) dX0_setQuiet_6 rfl ?_
  refine z_sipush (v := 1439) dX0_setQuiet_7 rfl ?_
  have e_10_1 : (e_X0_requireWithin p2 0 1439) = 0 := Decidable.byContradiction (fun hq => by rw [e_X0_setQuiet, if_pos e_2_0, if_neg hq] at he; exact hq he)
  refine z_callSv (As := [.int p2, .int 0, .int 1439]) (st := []) (fun l => c_X0_requireWithin l D _ _ p2 0 1439 (by assumption)) zGok_TT (fun _ _ _ => trivial) (fun s args hts => va_cwS 3 hts gX0_setQuiet_X0_requireWithin rfl rfl rfl (by decide +kernel) ⟨Nat.le_of_ble_eq_true rfl, Nat.le_of_ble_eq_true rfl⟩) rfl (Nat.le_of_ble_eq_true rfl) ⟨Nat.le_of_ble_eq_true rfl, Nat.le_of_ble_eq_true rfl⟩ dX0_setQuiet_10 rfl (fun u2 hp => ?_)
  clear hp
  refine z_iload_n 3 dX0_setQuiet_13 rfl ?_
  refine z_iconst (v := 0) dX0_setQuiet_14 rfl ?_
  refine z_sipush (v := 1439) dX0_setQuiet_15 rfl ?_
  have e_18_2 : (e_X0_requireWithin p3 0 1439) = 0 := Decidable.byContradiction (fun hq => by rw [e_X0_setQuiet, if_pos e_2_0, if_pos e_10_1, if_neg hq] at he; exact hq he)
  refine z_callSv (As := [.int p3, .int 0, .int 1439]) (st := []) (fun l => c_X0_requireWithin l D _ _ p3 0 1439 (by assumption)) zGok_TT (fun _ _ _ => trivial) (fun s args hts => va_cwS 3 hts gX0_setQuiet_X0_requireWithin rfl rfl rfl (by decide +kernel) ⟨Nat.le_of_ble_eq_true rfl, Nat.le_of_ble_eq_true rfl⟩) rfl (Nat.le_of_ble_eq_true rfl) ⟨Nat.le_of_ble_eq_true rfl, Nat.le_of_ble_eq_true rfl⟩ dX0_setQuiet_18 rfl (fun u2 hp => ?_)
  clear hp
  refine z_aload_n 0 dX0_setQuiet_21 rfl ?_
  refine z_get (C := RX0) (T := TX0) (N := 19) (v := .ref (a 6)) inwX0_setQuiet 0 rfl rfl 6 (by decide) (List.mem_of_getElem? (i := 1) rfl) rfl rfl dX0_setQuiet_22 ?_
  refine z_iload_n 1 dX0_setQuiet_25 rfl ?_
  refine z_iload_n 2 dX0_setQuiet_26 rfl ?_
  refine z_iast (w' := (wX0 cI cZ h a (pG u 6 (ix p1) p2))) 4 0 rfl rfl (by first | assumption | exact hnd | exact zdev hnd hd (by assumption) | exact hnn | exact znot hnn hn (by assumption) | exact zwithin (by assumption) (by decide) (by decide) | decide) (wX0_g6 _ _ _ _ _ _ _) dX0_setQuiet_27 ?_
  refine z_aload_n 0 dX0_setQuiet_28 rfl ?_
  refine z_get (C := RX0) (T := TX0) (N := 19) (v := .ref (a 7)) inwX0_setQuiet 0 rfl rfl 7 (by decide) (List.mem_of_getElem? (i := 2) rfl) rfl rfl dX0_setQuiet_29 ?_
  refine z_iload_n 1 dX0_setQuiet_32 rfl ?_
  refine z_iload_n 3 dX0_setQuiet_33 rfl ?_
  refine z_iast (w' := (wX0 cI cZ h a (pG (pG u 6 (ix p1) p2) 7 (ix p1) p3))) 5 0 rfl rfl (by first | assumption | exact hnd | exact zdev hnd hd (by assumption) | exact hnn | exact znot hnn hn (by assumption) | exact zwithin (by assumption) (by decide) (by decide) | decide) (wX0_g7 _ _ _ _ _ _ _) dX0_setQuiet_34 ?_
  refine z_aload_n 0 dX0_setQuiet_35 rfl ?_
  refine z_callVi (As := []) (st := []) (fun l => c_X0_deliverNow l D cI cZ h a (pG (pG u 6 (ix p1) p2) 7 (ix p1) p3)  nd (by first | assumption | exact hnd | exact zdev hnd hd (by assumption) | exact hnn | exact znot hnn hn (by assumption) | exact zwithin (by assumption) (by decide) (by decide) | decide) (by first | assumption | exact hnd | exact zdev hnd hd (by assumption) | exact hnn | exact znot hnn hn (by assumption) | exact zwithin (by assumption) (by decide) (by decide) | decide) nn (by first | assumption | exact hnd | exact zdev hnd hd (by assumption) | exact hnn | exact znot hnn hn (by assumption) | exact zwithin (by assumption) (by decide) (by decide) | decide) (by first | assumption | exact hnd | exact zdev hnd hd (by assumption) | exact hnn | exact znot hnn hn (by assumption) | exact zwithin (by assumption) (by decide) (by decide) | decide)) zGok_TT (fun _ _ _ => trivial) (fun s args hts => cwV 0 hts gX0_setQuiet_X0_deliverNow rfl rfl rfl (by decide +kernel) ⟨Nat.le_of_ble_eq_true rfl, Nat.le_of_ble_eq_true rfl⟩) (ci := 0) rfl rfl rfl rfl (Nat.le_of_ble_eq_true rfl) ⟨Nat.le_of_ble_eq_true rfl, Nat.le_of_ble_eq_true rfl⟩ dX0_setQuiet_36 rfl (fun r u2 hp => ?_)
  obtain ⟨rfl, rfl⟩ := hp
  exact hret _ (s_X0_deliverNow (pG (pG u 6 (ix p1) p2) 7 (ix p1) p3) ) _ _ _ dX0_setQuiet_39 ⟨(by rw [r_X0_setQuiet]), (by rw [s_X0_setQuiet])⟩ rfl
set_option maxHeartbeats 4000000 in
set_option maxRecDepth 100000 in
theorem t_X0_setQuiet (l : Launch) (hlt : l.stackTraces = false) (D : va_G) (cI cZ : ClassId) (h : Nat) (a : Nat → Nat) (u : SX) (p1 p2 p3 : Int32) (he : e_X0_setQuiet u p1 p2 p3 ≠ 0) (nd : Nat) (hnd : u.1 10 = nI nd) (hd : nd ≤ 16) (nn : Nat) (hnn : u.1 16 = nI nn) (hn : nn ≤ 120) : zMx l yX0_setQuiet wsX0_setQuiet ({ frames := 7, cells := 1, slots := 6, locals := 112 } : Room) D [(cI, .int), (cZ, .boolean)] (wX0 cI cZ h a u) [.ref h, .int p1, .int p2, .int p3] (fun E' => E' = zEx (e_X0_setQuiet u p1 p2 p3)) := by
  refine z_startX (cc := cX0_setQuiet) (n := 4) (own := RX0) (L0 := [(0, .ref h), (1, .int p1), (2, .int p2), (3, .int p3)]) hlt (by decide) rfl rfl (Nat.le_of_ble_eq_true rfl) rfl ⟨Nat.le_of_ble_eq_true rfl, Nat.le_of_ble_eq_true rfl⟩ (fun E hlt hthr hthrow => ?_)
  refine z_aload_n 0 dX0_setQuiet_0 rfl ?_
  refine z_iload_n 1 dX0_setQuiet_1 rfl ?_
  by_cases e_2_0 : (e_X0_requireDevice u p1) = 0
  ·
    refine z_callVv (As := [.int p1]) (st := []) (fun l => c_X0_requireDevice l D cI cZ h a u p1 (by assumption)) zGok_TT (fun _ _ _ => trivial) (fun s args hts => cwV 1 hts gX0_setQuiet_X0_requireDevice rfl rfl rfl (by decide +kernel) ⟨Nat.le_of_ble_eq_true rfl, Nat.le_of_ble_eq_true rfl⟩) (ci := 0) rfl rfl rfl rfl (Nat.le_of_ble_eq_true rfl) ⟨Nat.le_of_ble_eq_true rfl, Nat.le_of_ble_eq_true rfl⟩ dX0_setQuiet_2 rfl (fun u2 hp => ?_)
    clear hp
    refine z_iload_n 2 dX0_setQuiet_5 rfl ?_
    refine z_iconst (v := 0) dX0_setQuiet_6 rfl ?_
    refine z_sipush (v := 1439) dX0_setQuiet_7 rfl ?_
    by_cases e_10_1 : (e_X0_requireWithin p2 0 1439) = 0
    ·
      refine z_callSv (As := [.int p2, .int 0, .int 1439]) (st := []) (fun l => c_X0_requireWithin l D _ _ p2 0 1439 (by assumption)) zGok_TT (fun _ _ _ => trivial) (fun s args hts => va_cwS 3 hts gX0_setQuiet_X0_requireWithin rfl rfl rfl (by decide +kernel) ⟨Nat.le_of_ble_eq_true rfl, Nat.le_of_ble_eq_true rfl⟩) rfl (Nat.le_of_ble_eq_true rfl) ⟨Nat.le_of_ble_eq_true rfl, Nat.le_of_ble_eq_true rfl⟩ dX0_setQuiet_10 rfl (fun u2 hp => ?_)
      clear hp
      refine z_iload_n 3 dX0_setQuiet_13 rfl ?_
      refine z_iconst (v := 0) dX0_setQuiet_14 rfl ?_
      refine z_sipush (v := 1439) dX0_setQuiet_15 rfl ?_
      by_cases e_18_2 : (e_X0_requireWithin p3 0 1439) = 0
      ·
        refine z_callSv (As := [.int p3, .int 0, .int 1439]) (st := []) (fun l => c_X0_requireWithin l D _ _ p3 0 1439 (by assumption)) zGok_TT (fun _ _ _ => trivial) (fun s args hts => va_cwS 3 hts gX0_setQuiet_X0_requireWithin rfl rfl rfl (by decide +kernel) ⟨Nat.le_of_ble_eq_true rfl, Nat.le_of_ble_eq_true rfl⟩) rfl (Nat.le_of_ble_eq_true rfl) ⟨Nat.le_of_ble_eq_true rfl, Nat.le_of_ble_eq_true rfl⟩ dX0_setQuiet_18 rfl (fun u2 hp => ?_)
        clear hp
        exact absurd (by rw [e_X0_setQuiet, if_pos e_2_0, if_pos e_10_1, if_pos e_18_2]) he
      ·
        refine z_callSx (As := [.int p3, .int 0, .int 1439]) (st := []) hlt (fun l hl => t_X0_requireWithin l hl D _ _ p3 0 1439 (by assumption)) (fun s args hts => va_cwS 3 hts gX0_setQuiet_X0_requireWithin rfl rfl rfl (by decide +kernel) ⟨Nat.le_of_ble_eq_true rfl, Nat.le_of_ble_eq_true rfl⟩) rfl (Nat.le_of_ble_eq_true rfl) ⟨Nat.le_of_ble_eq_true rfl, Nat.le_of_ble_eq_true rfl⟩ dX0_setQuiet_18 rfl ?_
        exact hthr _ _ _ (fun E' hE => by rw [e_X0_setQuiet, if_pos e_2_0, if_pos e_10_1, if_neg e_18_2]; exact hE)
    ·
      refine z_callSx (As := [.int p2, .int 0, .int 1439]) (st := []) hlt (fun l hl => t_X0_requireWithin l hl D _ _ p2 0 1439 (by assumption)) (fun s args hts => va_cwS 3 hts gX0_setQuiet_X0_requireWithin rfl rfl rfl (by decide +kernel) ⟨Nat.le_of_ble_eq_true rfl, Nat.le_of_ble_eq_true rfl⟩) rfl (Nat.le_of_ble_eq_true rfl) ⟨Nat.le_of_ble_eq_true rfl, Nat.le_of_ble_eq_true rfl⟩ dX0_setQuiet_10 rfl ?_
      exact hthr _ _ _ (fun E' hE => by rw [e_X0_setQuiet, if_pos e_2_0, if_neg e_10_1]; exact hE)
  ·
    refine z_callVx (As := [.int p1]) (st := []) hlt (fun l hl => t_X0_requireDevice l hl D cI cZ h a u p1 (by assumption)) (fun s args hts => cwV 1 hts gX0_setQuiet_X0_requireDevice rfl rfl rfl (by decide +kernel) ⟨Nat.le_of_ble_eq_true rfl, Nat.le_of_ble_eq_true rfl⟩) (ci := 0) rfl rfl rfl rfl (Nat.le_of_ble_eq_true rfl) ⟨Nat.le_of_ble_eq_true rfl, Nat.le_of_ble_eq_true rfl⟩ dX0_setQuiet_2 rfl ?_
    exact hthr _ _ _ (fun E' hE => by rw [e_X0_setQuiet, if_neg e_2_0]; exact hE)
set_option maxHeartbeats 4000000 in
set_option maxRecDepth 100000 in
theorem c_X0_join (l : Launch) (D : va_G) (cI cZ : ClassId) (h : Nat) (a : Nat → Nat) (u : SX) (p1 p2 p3 : Int32) (he : e_X0_join u p1 p2 p3 = 0) (nd : Nat) (hnd : u.1 10 = nI nd) (hd : nd ≤ 16) : zMi l yX0_join wsX0_join ({ frames := 2, cells := 0, slots := 0, locals := 42 } : Room) zTT D [(cI, .int), (cZ, .boolean)] (wX0 cI cZ h a u) [.ref h, .int p1, .int p2, .int p3] (fun (r : Int32) (u2 : SX) => r = r_X0_join u p1 p2 p3 ∧ u2 = s_X0_join u p1 p2 p3) (fun u2 => (wX0 cI cZ h a u2)) 0 0 := by
  refine z_startZ (cc := cX0_join) (n := 5) (own := RX0) (L0 := [(0, .ref h), (1, .int p1), (2, .int p2), (3, .int p3)]) (plainFor_of_name (by decide)) rfl rfl (Nat.le_of_ble_eq_true rfl) rfl (fun E hret => ?_)
  have hixnd : ix (u.1 10) = nd := by rw [hnd]; exact nI_clamp (by omega)
  refine z_aload_n 0 dX0_join_0 rfl ?_
  refine z_iload_n 1 dX0_join_1 rfl ?_
  have e_2_0 : (e_X0_requireDevice u p1) = 0 := Decidable.byContradiction (fun hq => by rw [e_X0_join, if_neg hq] at he; exact hq he)
  refine z_callVv (As := [.int p1]) (st := []) (fun l => c_X0_requireDevice l D cI cZ h a u p1 (by assumption)) zGok_TT (fun _ _ _ => trivial) (fun s args hts => cwV 1 hts gX0_join_X0_requireDevice rfl rfl rfl (by decide +kernel) ⟨Nat.le_of_ble_eq_true rfl, Nat.le_of_ble_eq_true rfl⟩) (ci := 0) rfl rfl rfl rfl (Nat.le_of_ble_eq_true rfl) ⟨Nat.le_of_ble_eq_true rfl, Nat.le_of_ble_eq_true rfl⟩ dX0_join_2 rfl (fun u2 hp => ?_)
  clear hp
  refine z_iload_n 2 dX0_join_5 rfl ?_
  refine z_iconst (v := 0) dX0_join_6 rfl ?_
  refine z_iconst (v := 5) dX0_join_7 rfl ?_
  have e_8_1 : (e_X0_requireWithin p2 0 5) = 0 := Decidable.byContradiction (fun hq => by rw [e_X0_join, if_pos e_2_0, if_neg hq] at he; exact hq he)
  refine z_callSv (As := [.int p2, .int 0, .int 5]) (st := []) (fun l => c_X0_requireWithin l D _ _ p2 0 5 (by assumption)) zGok_TT (fun _ _ _ => trivial) (fun s args hts => va_cwS 3 hts gX0_join_X0_requireWithin rfl rfl rfl (by decide +kernel) ⟨Nat.le_of_ble_eq_true rfl, Nat.le_of_ble_eq_true rfl⟩) rfl (Nat.le_of_ble_eq_true rfl) ⟨Nat.le_of_ble_eq_true rfl, Nat.le_of_ble_eq_true rfl⟩ dX0_join_8 rfl (fun u2 hp => ?_)
  clear hp
  refine z_aload_n 0 dX0_join_11 rfl ?_
  refine z_get (C := RX0) (T := TX0) (N := 19) (v := .ref (a 1)) inwX0_join 0 rfl rfl 1 (by decide) (List.mem_of_getElem? (i := 1) rfl) rfl rfl dX0_join_12 ?_
  refine z_iload_n 2 dX0_join_15 rfl ?_
  refine z_iald (v := (u.2 1 (ix p2))) 2 0 rfl rfl (by first | assumption | exact hnd | exact zdev hnd hd (by assumption) | exact zwithin (by assumption) (by decide) (by decide) | decide) rfl dX0_join_16 ?_
  refine z_iload_n 1 dX0_join_17 rfl ?_
  refine z_callSi (As := [.int (u.2 1 (ix p2)), .int p1]) (st := []) (fun l => c_X0_has l D _ _ (u.2 1 (ix p2)) p1) zGok_TT (fun _ _ _ => trivial) (fun s args hts => va_cwS 2 hts gX0_join_X0_has rfl rfl rfl (by decide +kernel) ⟨Nat.le_of_ble_eq_true rfl, Nat.le_of_ble_eq_true rfl⟩) rfl (Nat.le_of_ble_eq_true rfl) ⟨Nat.le_of_ble_eq_true rfl, Nat.le_of_ble_eq_true rfl⟩ dX0_join_18 rfl (fun r u2 hp => ?_)
  subst hp
  refine z_istore (L' := [(4, .int (r_X0_has (u.2 1 (ix p2)) p1)), (0, .ref h), (1, .int p1), (2, .int p2), (3, .int p3)]) dX0_join_21 (by decide) rfl ?_
  refine z_aload_n 1 dX0_join_23 rfl ?_
  refine z_get (C := RX0) (T := TX0) (N := 19) (v := .ref (a 1)) inwX0_join 0 rfl rfl 1 (by decide) (List.mem_of_getElem? (i := 1) rfl) rfl rfl dX0_join_24 ?_
  refine z_iload_n 3 dX0_join_27 rfl ?_
  refine z_aload_n 1 dX0_join_28 rfl ?_
  refine z_get (C := RX0) (T := TX0) (N := 19) (v := .ref (a 1)) inwX0_join 0 rfl rfl 1 (by decide) (List.mem_of_getElem? (i := 1) rfl) rfl rfl dX0_join_29 ?_
  refine z_iload_n 3 dX0_join_32 rfl ?_
  refine z_iald (v := (u.2 1 (ix p2))) 2 0 rfl rfl (by first | assumption | exact hnd | exact zdev hnd hd (by assumption) | exact zwithin (by assumption) (by decide) (by decide) | decide) rfl dX0_join_33 ?_
  refine z_iload_n 2 dX0_join_34 rfl ?_
  refine z_iload_n 4 dX0_join_35 rfl ?_
  refine z_callSi (As := [.int (u.2 1 (ix p2)), .int p1, .int p3]) (st := [.int p2, .ref (a 1)]) (fun l => c_X0_changed l D _ _ (u.2 1 (ix p2)) p1 p3) zGok_TT (fun _ _ _ => trivial) (fun s args hts => va_cwS 3 hts gX0_join_X0_changed rfl rfl rfl (by decide +kernel) ⟨Nat.le_of_ble_eq_true rfl, Nat.le_of_ble_eq_true rfl⟩) rfl (Nat.le_of_ble_eq_true rfl) ⟨Nat.le_of_ble_eq_true rfl, Nat.le_of_ble_eq_true rfl⟩ dX0_join_36 rfl (fun r u2 hp => ?_)
  subst hp
  refine z_iast (w' := (wX0 cI cZ h a (pG u 1 (ix p2) (r_X0_changed (u.2 1 (ix p2)) p1 p3)))) 2 0 rfl rfl (by first | assumption | exact hnd | exact zdev hnd hd (by assumption) | exact zwithin (by assumption) (by decide) (by decide) | decide) (wX0_g1 _ _ _ _ _ _ _) dX0_join_39 ?_
  refine z_iload 0 dX0_join_40 rfl ?_
  exact hret _ (pG u 1 (ix p2) (r_X0_changed (u.2 1 (ix p2)) p1 p3)) _ _ _ dX0_join_42 ⟨(by rw [r_X0_join]), (by rw [s_X0_join])⟩ rfl (by first | rfl | exact znar01 (z01_X0_isInQuietHours _ _) | exact znar01 (z01_X0_isStanding _ _))
set_option maxHeartbeats 4000000 in
set_option maxRecDepth 100000 in
theorem t_X0_join (l : Launch) (hlt : l.stackTraces = false) (D : va_G) (cI cZ : ClassId) (h : Nat) (a : Nat → Nat) (u : SX) (p1 p2 p3 : Int32) (he : e_X0_join u p1 p2 p3 ≠ 0) (nd : Nat) (hnd : u.1 10 = nI nd) (hd : nd ≤ 16) : zMx l yX0_join wsX0_join ({ frames := 7, cells := 1, slots := 6, locals := 104 } : Room) D [(cI, .int), (cZ, .boolean)] (wX0 cI cZ h a u) [.ref h, .int p1, .int p2, .int p3] (fun E' => E' = zEx (e_X0_join u p1 p2 p3)) := by
  refine z_startX (cc := cX0_join) (n := 5) (own := RX0) (L0 := [(0, .ref h), (1, .int p1), (2, .int p2), (3, .int p3)]) hlt (by decide) rfl rfl (Nat.le_of_ble_eq_true rfl) rfl ⟨Nat.le_of_ble_eq_true rfl, Nat.le_of_ble_eq_true rfl⟩ (fun E hlt hthr hthrow => ?_)
  refine z_aload_n 0 dX0_join_0 rfl ?_
  refine z_iload_n 1 dX0_join_1 rfl ?_
  by_cases e_2_0 : (e_X0_requireDevice u p1) = 0
  ·
    refine z_callVv (As := [.int p1]) (st := []) (fun l => c_X0_requireDevice l D cI cZ h a u p1 (by assumption)) zGok_TT (fun _ _ _ => trivial) (fun s args hts => cwV 1 hts gX0_join_X0_requireDevice rfl rfl rfl (by decide +kernel) ⟨Nat.le_of_ble_eq_true rfl, Nat.le_of_ble_eq_true rfl⟩) (ci := 0) rfl rfl rfl rfl (Nat.le_of_ble_eq_true rfl) ⟨Nat.le_of_ble_eq_true rfl, Nat.le_of_ble_eq_true rfl⟩ dX0_join_2 rfl (fun u2 hp => ?_)
    clear hp
    refine z_iload_n 2 dX0_join_5 rfl ?_
    refine z_iconst (v := 0) dX0_join_6 rfl ?_
    refine z_iconst (v := 5) dX0_join_7 rfl ?_
    by_cases e_8_1 : (e_X0_requireWithin p2 0 5) = 0
    ·
      refine z_callSv (As := [.int p2, .int 0, .int 5]) (st := []) (fun l => c_X0_requireWithin l D _ _ p2 0 5 (by assumption)) zGok_TT (fun _ _ _ => trivial) (fun s args hts => va_cwS 3 hts gX0_join_X0_requireWithin rfl rfl rfl (by decide +kernel) ⟨Nat.le_of_ble_eq_true rfl, Nat.le_of_ble_eq_true rfl⟩) rfl (Nat.le_of_ble_eq_true rfl) ⟨Nat.le_of_ble_eq_true rfl, Nat.le_of_ble_eq_true rfl⟩ dX0_join_8 rfl (fun u2 hp => ?_)
      clear hp
      exact absurd (by rw [e_X0_join, if_pos e_2_0, if_pos e_8_1]) he
    ·
      refine z_callSx (As := [.int p2, .int 0, .int 5]) (st := []) hlt (fun l hl => t_X0_requireWithin l hl D _ _ p2 0 5 (by assumption)) (fun s args hts => va_cwS 3 hts gX0_join_X0_requireWithin rfl rfl rfl (by decide +kernel) ⟨Nat.le_of_ble_eq_true rfl, Nat.le_of_ble_eq_true rfl⟩) rfl (Nat.le_of_ble_eq_true rfl) ⟨Nat.le_of_ble_eq_true rfl, Nat.le_of_ble_eq_true rfl⟩ dX0_join_8 rfl ?_
      exact hthr _ _ _ (fun E' hE => by rw [e_X0_join, if_pos e_2_0, if_neg e_8_1]; exact hE)
  ·
    refine z_callVx (As := [.int p1]) (st := []) hlt (fun l hl => t_X0_requireDevice l hl D cI cZ h a u p1 (by assumption)) (fun s args hts => cwV 1 hts gX0_join_X0_requireDevice rfl rfl rfl (by decide +kernel) ⟨Nat.le_of_ble_eq_true rfl, Nat.le_of_ble_eq_true rfl⟩) (ci := 0) rfl rfl rfl rfl (Nat.le_of_ble_eq_true rfl) ⟨Nat.le_of_ble_eq_true rfl, Nat.le_of_ble_eq_true rfl⟩ dX0_join_2 rfl ?_
    exact hthr _ _ _ (fun E' hE => by rw [e_X0_join, if_neg e_2_0]; exact hE)
set_option maxHeartbeats 4000000 in
set_option maxRecDepth 100000 in
theorem c_X0_kill (l : Launch) (D : va_G) (cI cZ : ClassId) (h : Nat) (a : Nat → Nat) (u : SX) (p1 : Int32) (he : e_X0_kill u p1 = 0) (nd : Nat) (hnd : u.1 10 = nI nd) (hd : nd ≤ 16) (nn : Nat) (hnn : u.1 16 = nI nn) (hn : nn ≤ 120) : zMi l yX0_kill wsX0_kill ({ frames := 3, cells := 0, slots := 0, locals := 65 } : Room) zTT D [(cI, .int), (cZ, .boolean)] (wX0 cI cZ h a u) [.ref h, .int p1] (fun (r : Int32) (u2 : SX) => r = r_X0_kill u p1 ∧ u2 = s_X0_kill u p1) (fun u2 => (wX0 cI cZ h a u2)) 0 0 := by
  refine z_startI (cc := cX0_kill) (n := 4) (own := RX0) (L0 := [(0, .ref h), (1, .int p1)]) (plainFor_of_name (by decide)) rfl rfl (Nat.le_of_ble_eq_true rfl) rfl (fun E hret => ?_)
  have hixnn : ix (u.1 16) = nn := by rw [hnn]; exact nI_clamp (by omega)
  have hixnd : ix (u.1 10) = nd := by rw [hnd]; exact nI_clamp (by omega)
  refine z_aload_n 0 dX0_kill_0 rfl ?_
  refine z_iload_n 1 dX0_kill_1 rfl ?_
  have e_2_0 : (e_X0_requireDevice u p1) = 0 := Decidable.byContradiction (fun hq => by rw [e_X0_kill, if_neg hq] at he; exact hq he)
  refine z_callVv (As := [.int p1]) (st := []) (fun l => c_X0_requireDevice l D cI cZ h a u p1 (by assumption)) zGok_TT (fun _ _ _ => trivial) (fun s args hts => cwV 1 hts gX0_kill_X0_requireDevice rfl rfl rfl (by decide +kernel) ⟨Nat.le_of_ble_eq_true rfl, Nat.le_of_ble_eq_true rfl⟩) (ci := 0) rfl rfl rfl rfl (Nat.le_of_ble_eq_true rfl) ⟨Nat.le_of_ble_eq_true rfl, Nat.le_of_ble_eq_true rfl⟩ dX0_kill_2 rfl (fun u2 hp => ?_)
  clear hp
  refine z_aload_n 0 dX0_kill_5 rfl ?_
  refine z_get (C := RX0) (T := TX0) (N := 19) (v := .int (u.1 2)) inwX0_kill 0 rfl rfl 2 (by decide) (List.mem_of_getElem? (i := 3) rfl) rfl rfl dX0_kill_6 ?_
  refine z_iload_n 1 dX0_kill_9 rfl ?_
  refine z_callSi (As := [.int (u.1 2), .int p1]) (st := []) (fun l => c_X0_has l D _ _ (u.1 2) p1) zGok_TT (fun _ _ _ => trivial) (fun s args hts => va_cwS 2 hts gX0_kill_X0_has rfl rfl rfl (by decide +kernel) ⟨Nat.le_of_ble_eq_true rfl, Nat.le_of_ble_eq_true rfl⟩) rfl (Nat.le_of_ble_eq_true rfl) ⟨Nat.le_of_ble_eq_true rfl, Nat.le_of_ble_eq_true rfl⟩ dX0_kill_10 rfl (fun r u2 hp => ?_)
  subst hp
  refine z_if_ne 26 dX0_kill_13 (by decide) (fun c_13_1 => ?_) (fun c_13_1 => ?_)
  ·
    refine z_aload_n 0 dX0_kill_26 rfl ?_
    refine z_iload_n 1 dX0_kill_27 rfl ?_
    refine z_callVi (As := [.int p1]) (st := []) (fun l => c_X0_countWaiting l D cI cZ h a u p1 nn (by first | assumption | exact vp_in_nI (by omega) (by omega) | exact hnd | exact zdev hnd hd (by assumption) | exact hnn | exact znot hnn hn (by assumption) | decide) (by first | assumption | exact vp_in_nI (by omega) (by omega) | exact hnd | exact zdev hnd hd (by assumption) | exact hnn | exact znot hnn hn (by assumption) | decide)) zGok_TT (fun _ _ _ => trivial) (fun s args hts => cwV 1 hts gX0_kill_X0_countWaiting rfl rfl rfl (by decide +kernel) ⟨Nat.le_of_ble_eq_true rfl, Nat.le_of_ble_eq_true rfl⟩) (ci := 0) rfl rfl rfl rfl (Nat.le_of_ble_eq_true rfl) ⟨Nat.le_of_ble_eq_true rfl, Nat.le_of_ble_eq_true rfl⟩ dX0_kill_28 rfl (fun r u2 hp => ?_)
    subst hp
    refine z_istore_n (L' := [(2, .int (r_X0_countWaiting u p1)), (0, .ref h), (1, .int p1)]) dX0_kill_31 (by decide) rfl ?_
    refine z_aload_n 1 dX0_kill_32 rfl ?_
    refine z_aload_n 1 dX0_kill_33 rfl ?_
    refine z_get (C := RX0) (T := TX0) (N := 19) (v := .int (u.1 2)) inwX0_kill 0 rfl rfl 2 (by decide) (List.mem_of_getElem? (i := 3) rfl) rfl rfl dX0_kill_34 ?_
    refine z_iload_n 2 dX0_kill_37 rfl ?_
    refine z_iconst (v := 0) dX0_kill_38 rfl ?_
    refine z_callSi (As := [.int (u.1 2), .int p1, .int 0]) (st := [.ref h]) (fun l => c_X0_changed l D _ _ (u.1 2) p1 0) zGok_TT (fun _ _ _ => trivial) (fun s args hts => va_cwS 3 hts gX0_kill_X0_changed rfl rfl rfl (by decide +kernel) ⟨Nat.le_of_ble_eq_true rfl, Nat.le_of_ble_eq_true rfl⟩) rfl (Nat.le_of_ble_eq_true rfl) ⟨Nat.le_of_ble_eq_true rfl, Nat.le_of_ble_eq_true rfl⟩ dX0_kill_39 rfl (fun r u2 hp => ?_)
    subst hp
    refine z_put (C := RX0) (T := TX0) (N := 19) (v := .int (r_X0_changed (u.1 2) p1 0)) (w' := (wX0 cI cZ h a (pF u 2 (r_X0_changed (u.1 2) p1 0)))) inwX0_kill 0 rfl rfl 2 (by decide) (List.mem_of_getElem? (i := 3) rfl) rfl tyX0 tyX0_ok nmX0 rfl rfl rfl (by decide) (wX0_p2 _ _ _ _ _ _) dX0_kill_42 ?_
    refine z_iconst (v := 0) dX0_kill_45 rfl ?_
    refine z_istore_n (L' := [(3, .int 0), (2, .int (r_X0_countWaiting u p1)), (0, .ref h), (1, .int p1)]) dX0_kill_46 (by decide) rfl ?_
    refine z_sub (L' := [(0, .ref h), (1, .int p1), (2, .int (r_X0_countWaiting u p1)), (3, .int 0)]) [2, 3, 1, 0] rfl ?_
    have hloop47 : ∀ r k47 : Nat, k47 + r = nn → ZW E zTT ({ frames := 3, cells := 0, slots := 0, locals := 65 } : Room) cX0_kill RX0 wsX0_kill 4 D [(cI, .int), (cZ, .boolean)] 0 0 (wX0 cI cZ h a (l_X0_kill_47 u p1 k47)) 47 [(0, .ref h), (1, .int p1), (2, .int (r_X0_countWaiting u p1)), (3, .int (nI k47))] [] := by
      intro r
      induction r with
      | zero =>
        intro k47 hk47
        have hkN47 : nn = k47 := by omega
        subst hkN47
        have hbx : ((l_X0_kill_47 u p1 nn).1 16) = nI nn := by first | (rw [hx47, lf_X0_kill_47]; exact hnn) | (rw [lf_X0_kill_47]; exact hnn)
        refine z_iload_n 3 dX0_kill_47 rfl ?_
        refine z_aload_n 0 dX0_kill_48 rfl ?_
        refine z_get (C := RX0) (T := TX0) (N := 19) (v := .int ((l_X0_kill_47 u p1 nn).1 16)) inwX0_kill 0 rfl rfl 16 (by decide) (List.mem_of_getElem? (i := 4) rfl) rfl rfl dX0_kill_49 ?_
        refine z_icmp_ge 78 dX0_kill_52 (by decide) (fun c_52_3 => ?_) (fun c_52_3 => ?_)
        ·
          refine z_iload_n 2 dX0_kill_78 rfl ?_
          exact hret _ (l_X0_kill_47 u p1 nn) _ _ _ dX0_kill_79 ⟨(by rw [r_X0_kill]), (by rw [s_X0_kill, hixnn])⟩ rfl
        · exact absurd (by rw [hbx]; exact nI_le (Nat.le_refl _) (by omega)) c_52_3
      | succ r ih47 =>
        intro k47 hk47
        obtain ⟨x47, hx47⟩ : ∃ x, x = l_X0_kill_47 u p1 k47 := ⟨_, rfl⟩
        rw [← hx47]
        have hbx : (x47.1 16) = nI nn := by first | (rw [hx47, lf_X0_kill_47]; exact hnn) | (rw [lf_X0_kill_47]; exact hnn)
        refine z_iload_n 3 dX0_kill_47 rfl ?_
        refine z_aload_n 0 dX0_kill_48 rfl ?_
        refine z_get (C := RX0) (T := TX0) (N := 19) (v := .int (x47.1 16)) inwX0_kill 0 rfl rfl 16 (by decide) (List.mem_of_getElem? (i := 4) rfl) rfl rfl dX0_kill_49 ?_
        refine z_icmp_ge 78 dX0_kill_52 (by decide) (fun c_52_2 => ?_) (fun c_52_2 => ?_)
        · exact absurd c_52_2 (by rw [hbx]; exact nI_ge (by omega) (by omega))
        ·
          refine z_aload_n 0 dX0_kill_55 rfl ?_
          refine z_get (C := RX0) (T := TX0) (N := 19) (v := .ref (a 13)) inwX0_kill 0 rfl rfl 13 (by decide) (List.mem_of_getElem? (i := 5) rfl) rfl rfl dX0_kill_56 ?_
          refine z_iload_n 3 dX0_kill_59 rfl ?_
          refine z_aload_n 0 dX0_kill_60 rfl ?_
          refine z_get (C := RX0) (T := TX0) (N := 19) (v := .ref (a 13)) inwX0_kill 0 rfl rfl 13 (by decide) (List.mem_of_getElem? (i := 5) rfl) rfl rfl dX0_kill_61 ?_
          refine z_iload_n 3 dX0_kill_64 rfl ?_
          refine z_iald (v := (x47.2 13 (ix (nI k47)))) 10 0 rfl rfl (vp_in_nI (by omega) (by omega)) rfl dX0_kill_65 ?_
          refine z_iload_n 1 dX0_kill_66 rfl ?_
          refine z_iconst (v := 0) dX0_kill_67 rfl ?_
          refine z_callSi (As := [.int (x47.2 13 (ix (nI k47))), .int p1, .int 0]) (st := [.int (nI k47), .ref (a 13)]) (fun l => c_X0_changed l D _ _ (x47.2 13 (ix (nI k47))) p1 0) zGok_TT (fun _ _ _ => trivial) (fun s args hts => va_cwS 3 hts gX0_kill_X0_changed rfl rfl rfl (by decide +kernel) ⟨Nat.le_of_ble_eq_true rfl, Nat.le_of_ble_eq_true rfl⟩) rfl (Nat.le_of_ble_eq_true rfl) ⟨Nat.le_of_ble_eq_true rfl, Nat.le_of_ble_eq_true rfl⟩ dX0_kill_68 rfl (fun r u2 hp => ?_)
          subst hp
          refine z_iast (w' := (wX0 cI cZ h a (pG x47 13 (ix (nI k47)) (r_X0_changed (x47.2 13 (ix (nI k47))) p1 0)))) 10 0 rfl rfl (vp_in_nI (by omega) (by omega)) (wX0_g13 _ _ _ _ _ _ _) dX0_kill_71 ?_
          refine z_iinc (v := (nI (k47 + 1))) (L' := [(3, .int (nI (k47 + 1))), (0, .ref h), (1, .int p1), (2, .int (r_X0_countWaiting u p1))]) 3 dX0_kill_72 rfl (nI_1 k47) (by decide) rfl ?_
          refine z_goto 47 dX0_kill_75 (by decide) ?_
          have hb47 : l_X0_kill_47 u p1 (k47 + 1) = (pG x47 13 (ix (nI k47)) (r_X0_changed (x47.2 13 (ix (nI k47))) p1 0)) := by
            show b_X0_kill_47 u p1 k47 (l_X0_kill_47 u p1 k47) = _
            rw [← hx47, b_X0_kill_47]
          refine z_sub (L' := [(0, .ref h), (1, .int p1), (2, .int (r_X0_countWaiting u p1)), (3, .int (nI (k47 + 1)))]) [1, 2, 3, 0] rfl ?_
          have ih2 := ih47 (k47 + 1) (by omega)
          rw [hb47] at ih2
          exact ih2
    exact hloop47 nn 0 (by omega)
  ·
    exact absurd he (by rw [e_X0_kill, if_pos e_2_0, if_pos c_13_1]; decide)
set_option maxHeartbeats 4000000 in
set_option maxRecDepth 100000 in
theorem t_X0_kill (l : Launch) (hlt : l.stackTraces = false) (D : va_G) (cI cZ : ClassId) (h : Nat) (a : Nat → Nat) (u : SX) (p1 : Int32) (he : e_X0_kill u p1 ≠ 0) (nd : Nat) (hnd : u.1 10 = nI nd) (hd : nd ≤ 16) (nn : Nat) (hnn : u.1 16 = nI nn) (hn : nn ≤ 120) : zMx l yX0_kill wsX0_kill ({ frames := 7, cells := 1, slots := 6, locals := 103 } : Room) D [(cI, .int), (cZ, .boolean)] (wX0 cI cZ h a u) [.ref h, .int p1] (fun E' => E' = zEx (e_X0_kill u p1)) := by
  refine z_startX (cc := cX0_kill) (n := 4) (own := RX0) (L0 := [(0, .ref h), (1, .int p1)]) hlt (by decide) rfl rfl (Nat.le_of_ble_eq_true rfl) rfl ⟨Nat.le_of_ble_eq_true rfl, Nat.le_of_ble_eq_true rfl⟩ (fun E hlt hthr hthrow => ?_)
  refine z_aload_n 0 dX0_kill_0 rfl ?_
  refine z_iload_n 1 dX0_kill_1 rfl ?_
  by_cases e_2_0 : (e_X0_requireDevice u p1) = 0
  ·
    refine z_callVv (As := [.int p1]) (st := []) (fun l => c_X0_requireDevice l D cI cZ h a u p1 (by assumption)) zGok_TT (fun _ _ _ => trivial) (fun s args hts => cwV 1 hts gX0_kill_X0_requireDevice rfl rfl rfl (by decide +kernel) ⟨Nat.le_of_ble_eq_true rfl, Nat.le_of_ble_eq_true rfl⟩) (ci := 0) rfl rfl rfl rfl (Nat.le_of_ble_eq_true rfl) ⟨Nat.le_of_ble_eq_true rfl, Nat.le_of_ble_eq_true rfl⟩ dX0_kill_2 rfl (fun u2 hp => ?_)
    clear hp
    refine z_aload_n 0 dX0_kill_5 rfl ?_
    refine z_get (C := RX0) (T := TX0) (N := 19) (v := .int (u.1 2)) inwX0_kill 0 rfl rfl 2 (by decide) (List.mem_of_getElem? (i := 3) rfl) rfl rfl dX0_kill_6 ?_
    refine z_iload_n 1 dX0_kill_9 rfl ?_
    refine z_callSi (As := [.int (u.1 2), .int p1]) (st := []) (fun l => c_X0_has l D _ _ (u.1 2) p1) zGok_TT (fun _ _ _ => trivial) (fun s args hts => va_cwS 2 hts gX0_kill_X0_has rfl rfl rfl (by decide +kernel) ⟨Nat.le_of_ble_eq_true rfl, Nat.le_of_ble_eq_true rfl⟩) rfl (Nat.le_of_ble_eq_true rfl) ⟨Nat.le_of_ble_eq_true rfl, Nat.le_of_ble_eq_true rfl⟩ dX0_kill_10 rfl (fun r u2 hp => ?_)
    subst hp
    refine z_if_ne 26 dX0_kill_13 (by decide) (fun c_13_1 => ?_) (fun c_13_1 => ?_)
    ·
      exact absurd (by rw [e_X0_kill, if_pos e_2_0, if_neg c_13_1]) he
    ·
      exact hthrow 16 _ "java/lang/IllegalStateException" "the token is dead" 73 100 77 (by decide) (by decide) (by decide +kernel) (List.mem_of_getElem? (i := 1) rfl) (List.mem_of_getElem? (i := 2) rfl) rfl (by decide) (fun w h => List.mem_cons_of_mem _ (by first | exact List.mem_append_right _ h | exact List.mem_append_left _ (List.mem_append_right _ h) | exact List.mem_append_left _ (List.mem_append_left _ (List.mem_append_right _ h)))) (by decide +kernel) (by decide +kernel) dX0_kill_16 dX0_kill_19 dX0_kill_20 dX0_kill_22 dX0_kill_25 (by show _ = zEx _; rw [e_X0_kill, if_pos e_2_0, if_pos c_13_1]; rfl)
  ·
    refine z_callVx (As := [.int p1]) (st := []) hlt (fun l hl => t_X0_requireDevice l hl D cI cZ h a u p1 (by assumption)) (fun s args hts => cwV 1 hts gX0_kill_X0_requireDevice rfl rfl rfl (by decide +kernel) ⟨Nat.le_of_ble_eq_true rfl, Nat.le_of_ble_eq_true rfl⟩) (ci := 0) rfl rfl rfl rfl (Nat.le_of_ble_eq_true rfl) ⟨Nat.le_of_ble_eq_true rfl, Nat.le_of_ble_eq_true rfl⟩ dX0_kill_2 rfl ?_
    exact hthr _ _ _ (fun E' hE => by rw [e_X0_kill, if_neg e_2_0]; exact hE)
set_option maxHeartbeats 4000000 in
set_option maxRecDepth 100000 in
theorem c_X0_devices (l : Launch) (D : va_G) (cI cZ : ClassId) (h : Nat) (a : Nat → Nat) (u : SX)   : zMi l yX0_devices wsX0_devices ({ frames := 0, cells := 0, slots := 0, locals := 0 } : Room) zTT D [(cI, .int), (cZ, .boolean)] (wX0 cI cZ h a u) [.ref h] (fun (r : Int32) (_ : Unit) => r = r_X0_devices u) (fun _ => (wX0 cI cZ h a u)) 0 0 := by
  refine z_startI (cc := cX0_devices) (n := 1) (own := RX0) (L0 := [(0, .ref h)]) (plainFor_of_name (by decide)) rfl rfl (Nat.le_of_ble_eq_true rfl) rfl (fun E hret => ?_)
  refine z_aload_n 0 dX0_devices_0 rfl ?_
  refine z_get (C := RX0) (T := TX0) (N := 19) (v := .int (u.1 10)) inwX0_devices 0 rfl rfl 10 (by decide) (List.mem_of_getElem? (i := 1) rfl) rfl rfl dX0_devices_1 ?_
  exact hret _ () _ _ _ dX0_devices_4 (by rw [r_X0_devices]) rfl
set_option maxHeartbeats 4000000 in
set_option maxRecDepth 100000 in
theorem c_X0_isQuiet (l : Launch) (D : va_G) (cI cZ : ClassId) (h : Nat) (a : Nat → Nat) (u : SX) (p1 : Int32) (he : e_X0_isQuiet u p1 = 0) (nd : Nat) (hnd : u.1 10 = nI nd) (hd : nd ≤ 16) : zMi l yX0_isQuiet wsX0_isQuiet ({ frames := 3, cells := 0, slots := 0, locals := 66 } : Room) zTT D [(cI, .int), (cZ, .boolean)] (wX0 cI cZ h a u) [.ref h, .int p1] (fun (r : Int32) (_ : Unit) => r = r_X0_isQuiet u p1) (fun _ => (wX0 cI cZ h a u)) 0 0 := by
  refine z_startZ (cc := cX0_isQuiet) (n := 2) (own := RX0) (L0 := [(0, .ref h), (1, .int p1)]) (plainFor_of_name (by decide)) rfl rfl (Nat.le_of_ble_eq_true rfl) rfl (fun E hret => ?_)
  have hixnd : ix (u.1 10) = nd := by rw [hnd]; exact nI_clamp (by omega)
  refine z_aload_n 0 dX0_isQuiet_0 rfl ?_
  refine z_iload_n 1 dX0_isQuiet_1 rfl ?_
  have e_2_0 : (e_X0_requireDevice u p1) = 0 := Decidable.byContradiction (fun hq => by rw [e_X0_isQuiet, if_neg hq] at he; exact hq he)
  refine z_callVv (As := [.int p1]) (st := []) (fun l => c_X0_requireDevice l D cI cZ h a u p1 (by assumption)) zGok_TT (fun _ _ _ => trivial) (fun s args hts => cwV 1 hts gX0_isQuiet_X0_requireDevice rfl rfl rfl (by decide +kernel) ⟨Nat.le_of_ble_eq_true rfl, Nat.le_of_ble_eq_true rfl⟩) (ci := 0) rfl rfl rfl rfl (Nat.le_of_ble_eq_true rfl) ⟨Nat.le_of_ble_eq_true rfl, Nat.le_of_ble_eq_true rfl⟩ dX0_isQuiet_2 rfl (fun u2 hp => ?_)
  clear hp
  refine z_aload_n 0 dX0_isQuiet_5 rfl ?_
  refine z_iload_n 1 dX0_isQuiet_6 rfl ?_
  refine z_callVi (As := [.int p1]) (st := []) (fun l => c_X0_isInQuietHours l D cI cZ h a u p1 (by first | assumption | exact hnd | exact zdev hnd hd (by assumption) | decide)) zGok_TT (fun _ _ _ => trivial) (fun s args hts => cwV 1 hts gX0_isQuiet_X0_isInQuietHours rfl rfl rfl (by decide +kernel) ⟨Nat.le_of_ble_eq_true rfl, Nat.le_of_ble_eq_true rfl⟩) (ci := 0) rfl rfl rfl rfl (Nat.le_of_ble_eq_true rfl) ⟨Nat.le_of_ble_eq_true rfl, Nat.le_of_ble_eq_true rfl⟩ dX0_isQuiet_7 rfl (fun r u2 hp => ?_)
  subst hp
  exact hret _ () _ _ _ dX0_isQuiet_10 (by rw [r_X0_isQuiet]) rfl (by first | rfl | exact znar01 (z01_X0_isInQuietHours _ _) | exact znar01 (z01_X0_isStanding _ _))
set_option maxHeartbeats 4000000 in
set_option maxRecDepth 100000 in
theorem t_X0_isQuiet (l : Launch) (hlt : l.stackTraces = false) (D : va_G) (cI cZ : ClassId) (h : Nat) (a : Nat → Nat) (u : SX) (p1 : Int32) (he : e_X0_isQuiet u p1 ≠ 0) (nd : Nat) (hnd : u.1 10 = nI nd) (hd : nd ≤ 16) : zMx l yX0_isQuiet wsX0_isQuiet ({ frames := 7, cells := 1, slots := 6, locals := 103 } : Room) D [(cI, .int), (cZ, .boolean)] (wX0 cI cZ h a u) [.ref h, .int p1] (fun E' => E' = zEx (e_X0_isQuiet u p1)) := by
  refine z_startX (cc := cX0_isQuiet) (n := 2) (own := RX0) (L0 := [(0, .ref h), (1, .int p1)]) hlt (by decide) rfl rfl (Nat.le_of_ble_eq_true rfl) rfl ⟨Nat.le_of_ble_eq_true rfl, Nat.le_of_ble_eq_true rfl⟩ (fun E hlt hthr hthrow => ?_)
  refine z_aload_n 0 dX0_isQuiet_0 rfl ?_
  refine z_iload_n 1 dX0_isQuiet_1 rfl ?_
  by_cases e_2_0 : (e_X0_requireDevice u p1) = 0
  ·
    refine z_callVv (As := [.int p1]) (st := []) (fun l => c_X0_requireDevice l D cI cZ h a u p1 (by assumption)) zGok_TT (fun _ _ _ => trivial) (fun s args hts => cwV 1 hts gX0_isQuiet_X0_requireDevice rfl rfl rfl (by decide +kernel) ⟨Nat.le_of_ble_eq_true rfl, Nat.le_of_ble_eq_true rfl⟩) (ci := 0) rfl rfl rfl rfl (Nat.le_of_ble_eq_true rfl) ⟨Nat.le_of_ble_eq_true rfl, Nat.le_of_ble_eq_true rfl⟩ dX0_isQuiet_2 rfl (fun u2 hp => ?_)
    clear hp
    exact absurd (by rw [e_X0_isQuiet, if_pos e_2_0]) he
  ·
    refine z_callVx (As := [.int p1]) (st := []) hlt (fun l hl => t_X0_requireDevice l hl D cI cZ h a u p1 (by assumption)) (fun s args hts => cwV 1 hts gX0_isQuiet_X0_requireDevice rfl rfl rfl (by decide +kernel) ⟨Nat.le_of_ble_eq_true rfl, Nat.le_of_ble_eq_true rfl⟩) (ci := 0) rfl rfl rfl rfl (Nat.le_of_ble_eq_true rfl) ⟨Nat.le_of_ble_eq_true rfl, Nat.le_of_ble_eq_true rfl⟩ dX0_isQuiet_2 rfl ?_
    exact hthr _ _ _ (fun E' hE => by rw [e_X0_isQuiet, if_neg e_2_0]; exact hE)
set_option maxHeartbeats 4000000 in
set_option maxRecDepth 100000 in
theorem c_X0_send (l : Launch) (D : va_G) (cI cZ : ClassId) (h : Nat) (a : Nat → Nat) (u : SX) (p1 p2 p3 p4 : Int32) (he : e_X0_send u p1 p2 p3 p4 = 0) (nd : Nat) (hnd : u.1 10 = nI nd) (hd : nd ≤ 16) (nn : Nat) (hnn : u.1 16 = nI nn) (hn : nn ≤ 120) (hlk : ∀ i : Nat, i < 80 → (u.2 15 i) = (-1) ∨ vp_in (u.2 15 i) 120) : zMi l yX0_send wsX0_send ({ frames := 6, cells := 0, slots := 0, locals := 136 } : Room) zTT D [(cI, .int), (cZ, .boolean)] (wX0 cI cZ h a u) [.ref h, .int p1, .int p2, .int p3, .int p4] (fun (r : Int32) (u2 : SX) => r = r_X0_send u p1 p2 p3 p4 ∧ u2 = s_X0_send u p1 p2 p3 p4) (fun u2 => (wX0 cI cZ h a u2)) 0 0 := by
  refine z_startI (cc := cX0_send) (n := 5) (own := RX0) (L0 := [(0, .ref h), (1, .int p1), (2, .int p2), (3, .int p3), (4, .int p4)]) (plainFor_of_name (by decide)) rfl rfl (Nat.le_of_ble_eq_true rfl) rfl (fun E hret => ?_)
  have hixnn : ix (u.1 16) = nn := by rw [hnn]; exact nI_clamp (by omega)
  have hixnd : ix (u.1 10) = nd := by rw [hnd]; exact nI_clamp (by omega)
  refine z_iload_n 1 dX0_send_0 rfl ?_
  refine z_iconst (v := 0) dX0_send_1 rfl ?_
  refine z_bipush (v := 7) dX0_send_2 rfl ?_
  have e_4_0 : (e_X0_requireWithin p1 0 7) = 0 := Decidable.byContradiction (fun hq => by rw [e_X0_send, if_neg hq] at he; exact hq he)
  refine z_callSv (As := [.int p1, .int 0, .int 7]) (st := []) (fun l => c_X0_requireWithin l D _ _ p1 0 7 (by assumption)) zGok_TT (fun _ _ _ => trivial) (fun s args hts => va_cwS 3 hts gX0_send_X0_requireWithin rfl rfl rfl (by decide +kernel) ⟨Nat.le_of_ble_eq_true rfl, Nat.le_of_ble_eq_true rfl⟩) rfl (Nat.le_of_ble_eq_true rfl) ⟨Nat.le_of_ble_eq_true rfl, Nat.le_of_ble_eq_true rfl⟩ dX0_send_4 rfl (fun u2 hp => ?_)
  clear hp
  refine z_iload_n 2 dX0_send_7 rfl ?_
  refine z_iconst (v := (-1)) dX0_send_8 rfl ?_
  refine z_icmp_eq 19 dX0_send_9 (by decide) (fun c_9_1 => ?_) (fun c_9_1 => ?_)
  ·
    refine z_iload 4 dX0_send_19 rfl ?_
    refine z_iconst (v := 1) dX0_send_21 rfl ?_
    refine z_sipush (v := 10000) dX0_send_22 rfl ?_
    have e_25_2 : (e_X0_requireWithin p4 1 10000) = 0 := Decidable.byContradiction (fun hq => by rw [e_X0_send, if_pos e_4_0, if_pos c_9_1, if_neg hq] at he; exact hq he)
    refine z_callSv (As := [.int p4, .int 1, .int 10000]) (st := []) (fun l => c_X0_requireWithin l D _ _ p4 1 10000 (by assumption)) zGok_TT (fun _ _ _ => trivial) (fun s args hts => va_cwS 3 hts gX0_send_X0_requireWithin rfl rfl rfl (by decide +kernel) ⟨Nat.le_of_ble_eq_true rfl, Nat.le_of_ble_eq_true rfl⟩) rfl (Nat.le_of_ble_eq_true rfl) ⟨Nat.le_of_ble_eq_true rfl, Nat.le_of_ble_eq_true rfl⟩ dX0_send_25 rfl (fun u2 hp => ?_)
    clear hp
    refine z_aload_n 0 dX0_send_28 rfl ?_
    have e_29_3 : (e_X0_requireRoomForNotice u ) = 0 := Decidable.byContradiction (fun hq => by rw [e_X0_send, if_pos e_4_0, if_pos c_9_1, if_pos e_25_2, if_neg hq] at he; exact hq he)
    refine z_callVv (As := []) (st := []) (fun l => c_X0_requireRoomForNotice l D cI cZ h a u  (by assumption)) zGok_TT (fun _ _ _ => trivial) (fun s args hts => cwV 0 hts gX0_send_X0_requireRoomForNotice rfl rfl rfl (by decide +kernel) ⟨Nat.le_of_ble_eq_true rfl, Nat.le_of_ble_eq_true rfl⟩) (ci := 0) rfl rfl rfl rfl (Nat.le_of_ble_eq_true rfl) ⟨Nat.le_of_ble_eq_true rfl, Nat.le_of_ble_eq_true rfl⟩ dX0_send_29 rfl (fun u2 hp => ?_)
    clear hp
    refine z_iload_n 2 dX0_send_32 rfl ?_
    refine z_iconst (v := (-1)) dX0_send_33 rfl ?_
    refine z_icmp_eq 43 dX0_send_34 (by decide) (fun _ => ?_) (fun c_34_4 => absurd c_9_1 c_34_4)
    refine z_aload_n 0 dX0_send_43 rfl ?_
    refine z_aload_n 0 dX0_send_44 rfl ?_
    refine z_get (C := RX0) (T := TX0) (N := 19) (v := .ref (a 0)) inwX0_send 0 rfl rfl 0 (by decide) (List.mem_of_getElem? (i := 1) rfl) rfl rfl dX0_send_45 ?_
    refine z_iload_n 1 dX0_send_48 rfl ?_
    refine z_iald (v := (u.2 0 (ix p1))) 1 0 rfl rfl (by first | assumption | exact hnd | exact zdev hnd hd (by assumption) | exact hnn | exact znot hnn hn (by assumption) | exact zwithin (by assumption) (by decide) (by decide) | exact zplaceW (by assumption) (by assumption) | exact zlk hlk (zplaceW (by assumption) (by assumption)) | exact zroom0 hnn hn (by assumption) | (rw [s_X0_replaceKey_1]; exact hnn) | (rw [s_X0_replaceKey_1]; exact hnd) | decide) rfl dX0_send_49 ?_
    refine z_iload_n 3 dX0_send_50 rfl ?_
    refine z_iload 4 dX0_send_51 rfl ?_
    refine z_callVi (As := [.int (u.2 0 (ix p1)), .int p3, .int p4]) (st := []) (fun l => c_X0_sendTo l D cI cZ h a u (u.2 0 (ix p1)) p3 p4 nd (by first | assumption | exact hnd | exact zdev hnd hd (by assumption) | exact hnn | exact znot hnn hn (by assumption) | exact zwithin (by assumption) (by decide) (by decide) | exact zplaceW (by assumption) (by assumption) | exact zlk hlk (zplaceW (by assumption) (by assumption)) | exact zroom0 hnn hn (by assumption) | (rw [s_X0_replaceKey_1]; exact hnn) | (rw [s_X0_replaceKey_1]; exact hnd) | decide) (by first | assumption | exact hnd | exact zdev hnd hd (by assumption) | exact hnn | exact znot hnn hn (by assumption) | exact zwithin (by assumption) (by decide) (by decide) | exact zplaceW (by assumption) (by assumption) | exact zlk hlk (zplaceW (by assumption) (by assumption)) | exact zroom0 hnn hn (by assumption) | (rw [s_X0_replaceKey_1]; exact hnn) | (rw [s_X0_replaceKey_1]; exact hnd) | decide) nn (by first | assumption | exact hnd | exact zdev hnd hd (by assumption) | exact hnn | exact znot hnn hn (by assumption) | exact zwithin (by assumption) (by decide) (by decide) | exact zplaceW (by assumption) (by assumption) | exact zlk hlk (zplaceW (by assumption) (by assumption)) | exact zroom0 hnn hn (by assumption) | (rw [s_X0_replaceKey_1]; exact hnn) | (rw [s_X0_replaceKey_1]; exact hnd) | decide) (by first | assumption | exact hnd | exact zdev hnd hd (by assumption) | exact hnn | exact znot hnn hn (by assumption) | exact zwithin (by assumption) (by decide) (by decide) | exact zplaceW (by assumption) (by assumption) | exact zlk hlk (zplaceW (by assumption) (by assumption)) | exact zroom0 hnn hn (by assumption) | (rw [s_X0_replaceKey_1]; exact hnn) | (rw [s_X0_replaceKey_1]; exact hnd) | decide) (by first | assumption | exact hnd | exact zdev hnd hd (by assumption) | exact hnn | exact znot hnn hn (by assumption) | exact zwithin (by assumption) (by decide) (by decide) | exact zplaceW (by assumption) (by assumption) | exact zlk hlk (zplaceW (by assumption) (by assumption)) | exact zroom0 hnn hn (by assumption) | (rw [s_X0_replaceKey_1]; exact hnn) | (rw [s_X0_replaceKey_1]; exact hnd) | decide)) zGok_TT (fun _ _ _ => trivial) (fun s args hts => cwV 3 hts gX0_send_X0_sendTo rfl rfl rfl (by decide +kernel) ⟨Nat.le_of_ble_eq_true rfl, Nat.le_of_ble_eq_true rfl⟩) (ci := 0) rfl rfl rfl rfl (Nat.le_of_ble_eq_true rfl) ⟨Nat.le_of_ble_eq_true rfl, Nat.le_of_ble_eq_true rfl⟩ dX0_send_53 rfl (fun r u2 hp => ?_)
    obtain ⟨rfl, rfl⟩ := hp
    exact hret _ (s_X0_sendTo u (u.2 0 (ix p1)) p3 p4) _ _ _ dX0_send_56 ⟨(by rw [r_X0_send, if_pos c_9_1]), (by rw [s_X0_send, if_pos c_9_1])⟩ rfl
  ·
    refine z_iload_n 2 dX0_send_12 rfl ?_
    refine z_iconst (v := 0) dX0_send_13 rfl ?_
    refine z_bipush (v := 9) dX0_send_14 rfl ?_
    have e_16_5 : (e_X0_requireWithin p2 0 9) = 0 := Decidable.byContradiction (fun hq => by rw [e_X0_send, if_pos e_4_0, if_neg c_9_1, if_neg hq] at he; exact hq he)
    refine z_callSv (As := [.int p2, .int 0, .int 9]) (st := []) (fun l => c_X0_requireWithin l D _ _ p2 0 9 (by assumption)) zGok_TT (fun _ _ _ => trivial) (fun s args hts => va_cwS 3 hts gX0_send_X0_requireWithin rfl rfl rfl (by decide +kernel) ⟨Nat.le_of_ble_eq_true rfl, Nat.le_of_ble_eq_true rfl⟩) rfl (Nat.le_of_ble_eq_true rfl) ⟨Nat.le_of_ble_eq_true rfl, Nat.le_of_ble_eq_true rfl⟩ dX0_send_16 rfl (fun u2 hp => ?_)
    clear hp
    refine z_iload 4 dX0_send_19 rfl ?_
    refine z_iconst (v := 1) dX0_send_21 rfl ?_
    refine z_sipush (v := 10000) dX0_send_22 rfl ?_
    have e_25_6 : (e_X0_requireWithin p4 1 10000) = 0 := Decidable.byContradiction (fun hq => by rw [e_X0_send, if_pos e_4_0, if_neg c_9_1, if_pos e_16_5, if_neg hq] at he; exact hq he)
    refine z_callSv (As := [.int p4, .int 1, .int 10000]) (st := []) (fun l => c_X0_requireWithin l D _ _ p4 1 10000 (by assumption)) zGok_TT (fun _ _ _ => trivial) (fun s args hts => va_cwS 3 hts gX0_send_X0_requireWithin rfl rfl rfl (by decide +kernel) ⟨Nat.le_of_ble_eq_true rfl, Nat.le_of_ble_eq_true rfl⟩) rfl (Nat.le_of_ble_eq_true rfl) ⟨Nat.le_of_ble_eq_true rfl, Nat.le_of_ble_eq_true rfl⟩ dX0_send_25 rfl (fun u2 hp => ?_)
    clear hp
    refine z_aload_n 0 dX0_send_28 rfl ?_
    have e_29_7 : (e_X0_requireRoomForNotice u ) = 0 := Decidable.byContradiction (fun hq => by rw [e_X0_send, if_pos e_4_0, if_neg c_9_1, if_pos e_16_5, if_pos e_25_6, if_neg hq] at he; exact hq he)
    refine z_callVv (As := []) (st := []) (fun l => c_X0_requireRoomForNotice l D cI cZ h a u  (by assumption)) zGok_TT (fun _ _ _ => trivial) (fun s args hts => cwV 0 hts gX0_send_X0_requireRoomForNotice rfl rfl rfl (by decide +kernel) ⟨Nat.le_of_ble_eq_true rfl, Nat.le_of_ble_eq_true rfl⟩) (ci := 0) rfl rfl rfl rfl (Nat.le_of_ble_eq_true rfl) ⟨Nat.le_of_ble_eq_true rfl, Nat.le_of_ble_eq_true rfl⟩ dX0_send_29 rfl (fun u2 hp => ?_)
    clear hp
    refine z_iload_n 2 dX0_send_32 rfl ?_
    refine z_iconst (v := (-1)) dX0_send_33 rfl ?_
    refine z_icmp_eq 43 dX0_send_34 (by decide) (fun c_34_8 => absurd c_34_8 c_9_1) (fun _ => ?_)
    refine z_aload_n 0 dX0_send_37 rfl ?_
    refine z_iload_n 1 dX0_send_38 rfl ?_
    refine z_iload_n 2 dX0_send_39 rfl ?_
    refine z_callVv (As := [.int p1, .int p2]) (st := []) (fun l => c_X0_replaceKey l D cI cZ h a u p1 p2 (by first | assumption | exact hnd | exact zdev hnd hd (by assumption) | exact hnn | exact znot hnn hn (by assumption) | exact zwithin (by assumption) (by decide) (by decide) | exact zplaceW (by assumption) (by assumption) | exact zlk hlk (zplaceW (by assumption) (by assumption)) | exact zroom0 hnn hn (by assumption) | (rw [s_X0_replaceKey_1]; exact hnn) | (rw [s_X0_replaceKey_1]; exact hnd) | decide) (by first | assumption | exact hnd | exact zdev hnd hd (by assumption) | exact hnn | exact znot hnn hn (by assumption) | exact zwithin (by assumption) (by decide) (by decide) | exact zplaceW (by assumption) (by assumption) | exact zlk hlk (zplaceW (by assumption) (by assumption)) | exact zroom0 hnn hn (by assumption) | (rw [s_X0_replaceKey_1]; exact hnn) | (rw [s_X0_replaceKey_1]; exact hnd) | decide)) zGok_TT (fun _ _ _ => trivial) (fun s args hts => cwV 2 hts gX0_send_X0_replaceKey rfl rfl rfl (by decide +kernel) ⟨Nat.le_of_ble_eq_true rfl, Nat.le_of_ble_eq_true rfl⟩) (ci := 0) rfl rfl rfl rfl (Nat.le_of_ble_eq_true rfl) ⟨Nat.le_of_ble_eq_true rfl, Nat.le_of_ble_eq_true rfl⟩ dX0_send_40 rfl (fun u2 hp => ?_)
    subst hp
    refine z_aload_n 0 dX0_send_43 rfl ?_
    refine z_aload_n 0 dX0_send_44 rfl ?_
    refine z_get (C := RX0) (T := TX0) (N := 19) (v := .ref (a 0)) inwX0_send 0 rfl rfl 0 (by decide) (List.mem_of_getElem? (i := 1) rfl) rfl rfl dX0_send_45 ?_
    refine z_iload_n 1 dX0_send_48 rfl ?_
    refine z_iald (v := ((s_X0_replaceKey u p1 p2).2 0 (ix p1))) 1 0 rfl rfl (by first | assumption | exact hnd | exact zdev hnd hd (by assumption) | exact hnn | exact znot hnn hn (by assumption) | exact zwithin (by assumption) (by decide) (by decide) | exact zplaceW (by assumption) (by assumption) | exact zlk hlk (zplaceW (by assumption) (by assumption)) | exact zroom0 hnn hn (by assumption) | (rw [s_X0_replaceKey_1]; exact hnn) | (rw [s_X0_replaceKey_1]; exact hnd) | decide) rfl dX0_send_49 ?_
    refine z_iload_n 3 dX0_send_50 rfl ?_
    refine z_iload 4 dX0_send_51 rfl ?_
    refine z_callVi (As := [.int ((s_X0_replaceKey u p1 p2).2 0 (ix p1)), .int p3, .int p4]) (st := []) (fun l => c_X0_sendTo l D cI cZ h a (s_X0_replaceKey u p1 p2) ((s_X0_replaceKey u p1 p2).2 0 (ix p1)) p3 p4 nd (by first | assumption | exact hnd | exact zdev hnd hd (by assumption) | exact hnn | exact znot hnn hn (by assumption) | exact zwithin (by assumption) (by decide) (by decide) | exact zplaceW (by assumption) (by assumption) | exact zlk hlk (zplaceW (by assumption) (by assumption)) | exact zroom0 hnn hn (by assumption) | (rw [s_X0_replaceKey_1]; exact hnn) | (rw [s_X0_replaceKey_1]; exact hnd) | decide) (by first | assumption | exact hnd | exact zdev hnd hd (by assumption) | exact hnn | exact znot hnn hn (by assumption) | exact zwithin (by assumption) (by decide) (by decide) | exact zplaceW (by assumption) (by assumption) | exact zlk hlk (zplaceW (by assumption) (by assumption)) | exact zroom0 hnn hn (by assumption) | (rw [s_X0_replaceKey_1]; exact hnn) | (rw [s_X0_replaceKey_1]; exact hnd) | decide) nn (by first | assumption | exact hnd | exact zdev hnd hd (by assumption) | exact hnn | exact znot hnn hn (by assumption) | exact zwithin (by assumption) (by decide) (by decide) | exact zplaceW (by assumption) (by assumption) | exact zlk hlk (zplaceW (by assumption) (by assumption)) | exact zroom0 hnn hn (by assumption) | (rw [s_X0_replaceKey_1]; exact hnn) | (rw [s_X0_replaceKey_1]; exact hnd) | decide) (by first | assumption | exact hnd | exact zdev hnd hd (by assumption) | exact hnn | exact znot hnn hn (by assumption) | exact zwithin (by assumption) (by decide) (by decide) | exact zplaceW (by assumption) (by assumption) | exact zlk hlk (zplaceW (by assumption) (by assumption)) | exact zroom0 hnn hn (by assumption) | (rw [s_X0_replaceKey_1]; exact hnn) | (rw [s_X0_replaceKey_1]; exact hnd) | decide) (by first | assumption | exact hnd | exact zdev hnd hd (by assumption) | exact hnn | exact znot hnn hn (by assumption) | exact zwithin (by assumption) (by decide) (by decide) | exact zplaceW (by assumption) (by assumption) | exact zlk hlk (zplaceW (by assumption) (by assumption)) | exact zroom0 hnn hn (by assumption) | (rw [s_X0_replaceKey_1]; exact hnn) | (rw [s_X0_replaceKey_1]; exact hnd) | decide)) zGok_TT (fun _ _ _ => trivial) (fun s args hts => cwV 3 hts gX0_send_X0_sendTo rfl rfl rfl (by decide +kernel) ⟨Nat.le_of_ble_eq_true rfl, Nat.le_of_ble_eq_true rfl⟩) (ci := 0) rfl rfl rfl rfl (Nat.le_of_ble_eq_true rfl) ⟨Nat.le_of_ble_eq_true rfl, Nat.le_of_ble_eq_true rfl⟩ dX0_send_53 rfl (fun r u2 hp => ?_)
    obtain ⟨rfl, rfl⟩ := hp
    exact hret _ (s_X0_sendTo (s_X0_replaceKey u p1 p2) ((s_X0_replaceKey u p1 p2).2 0 (ix p1)) p3 p4) _ _ _ dX0_send_56 ⟨(by rw [r_X0_send, if_neg c_9_1]), (by rw [s_X0_send, if_neg c_9_1])⟩ rfl
set_option maxHeartbeats 4000000 in
set_option maxRecDepth 100000 in
theorem t_X0_send (l : Launch) (hlt : l.stackTraces = false) (D : va_G) (cI cZ : ClassId) (h : Nat) (a : Nat → Nat) (u : SX) (p1 p2 p3 p4 : Int32) (he : e_X0_send u p1 p2 p3 p4 ≠ 0) (nd : Nat) (hnd : u.1 10 = nI nd) (hd : nd ≤ 16) (nn : Nat) (hnn : u.1 16 = nI nn) (hn : nn ≤ 120) (hlk : ∀ i : Nat, i < 80 → (u.2 15 i) = (-1) ∨ vp_in (u.2 15 i) 120) : zMx l yX0_send wsX0_send ({ frames := 7, cells := 1, slots := 6, locals := 136 } : Room) D [(cI, .int), (cZ, .boolean)] (wX0 cI cZ h a u) [.ref h, .int p1, .int p2, .int p3, .int p4] (fun E' => E' = zEx (e_X0_send u p1 p2 p3 p4)) := by
  refine z_startX (cc := cX0_send) (n := 5) (own := RX0) (L0 := [(0, .ref h), (1, .int p1), (2, .int p2), (3, .int p3), (4, .int p4)]) hlt (by decide) rfl rfl (Nat.le_of_ble_eq_true rfl) rfl ⟨Nat.le_of_ble_eq_true rfl, Nat.le_of_ble_eq_true rfl⟩ (fun E hlt hthr hthrow => ?_)
  refine z_iload_n 1 dX0_send_0 rfl ?_
  refine z_iconst (v := 0) dX0_send_1 rfl ?_
  refine z_bipush (v := 7) dX0_send_2 rfl ?_
  by_cases e_4_0 : (e_X0_requireWithin p1 0 7) = 0
  ·
    refine z_callSv (As := [.int p1, .int 0, .int 7]) (st := []) (fun l => c_X0_requireWithin l D _ _ p1 0 7 (by assumption)) zGok_TT (fun _ _ _ => trivial) (fun s args hts => va_cwS 3 hts gX0_send_X0_requireWithin rfl rfl rfl (by decide +kernel) ⟨Nat.le_of_ble_eq_true rfl, Nat.le_of_ble_eq_true rfl⟩) rfl (Nat.le_of_ble_eq_true rfl) ⟨Nat.le_of_ble_eq_true rfl, Nat.le_of_ble_eq_true rfl⟩ dX0_send_4 rfl (fun u2 hp => ?_)
    clear hp
    refine z_iload_n 2 dX0_send_7 rfl ?_
    refine z_iconst (v := (-1)) dX0_send_8 rfl ?_
    refine z_icmp_eq 19 dX0_send_9 (by decide) (fun c_9_1 => ?_) (fun c_9_1 => ?_)
    ·
      refine z_iload 4 dX0_send_19 rfl ?_
      refine z_iconst (v := 1) dX0_send_21 rfl ?_
      refine z_sipush (v := 10000) dX0_send_22 rfl ?_
      by_cases e_25_2 : (e_X0_requireWithin p4 1 10000) = 0
      ·
        refine z_callSv (As := [.int p4, .int 1, .int 10000]) (st := []) (fun l => c_X0_requireWithin l D _ _ p4 1 10000 (by assumption)) zGok_TT (fun _ _ _ => trivial) (fun s args hts => va_cwS 3 hts gX0_send_X0_requireWithin rfl rfl rfl (by decide +kernel) ⟨Nat.le_of_ble_eq_true rfl, Nat.le_of_ble_eq_true rfl⟩) rfl (Nat.le_of_ble_eq_true rfl) ⟨Nat.le_of_ble_eq_true rfl, Nat.le_of_ble_eq_true rfl⟩ dX0_send_25 rfl (fun u2 hp => ?_)
        clear hp
        refine z_aload_n 0 dX0_send_28 rfl ?_
        by_cases e_29_3 : (e_X0_requireRoomForNotice u ) = 0
        ·
          refine z_callVv (As := []) (st := []) (fun l => c_X0_requireRoomForNotice l D cI cZ h a u  (by assumption)) zGok_TT (fun _ _ _ => trivial) (fun s args hts => cwV 0 hts gX0_send_X0_requireRoomForNotice rfl rfl rfl (by decide +kernel) ⟨Nat.le_of_ble_eq_true rfl, Nat.le_of_ble_eq_true rfl⟩) (ci := 0) rfl rfl rfl rfl (Nat.le_of_ble_eq_true rfl) ⟨Nat.le_of_ble_eq_true rfl, Nat.le_of_ble_eq_true rfl⟩ dX0_send_29 rfl (fun u2 hp => ?_)
          clear hp
          exact absurd (by rw [e_X0_send, if_pos e_4_0, if_pos c_9_1, if_pos e_25_2, if_pos e_29_3]) he
        ·
          refine z_callVx (As := []) (st := []) hlt (fun l hl => t_X0_requireRoomForNotice l hl D cI cZ h a u  (by assumption)) (fun s args hts => cwV 0 hts gX0_send_X0_requireRoomForNotice rfl rfl rfl (by decide +kernel) ⟨Nat.le_of_ble_eq_true rfl, Nat.le_of_ble_eq_true rfl⟩) (ci := 0) rfl rfl rfl rfl (Nat.le_of_ble_eq_true rfl) ⟨Nat.le_of_ble_eq_true rfl, Nat.le_of_ble_eq_true rfl⟩ dX0_send_29 rfl ?_
          exact hthr _ _ _ (fun E' hE => by rw [e_X0_send, if_pos e_4_0, if_pos c_9_1, if_pos e_25_2, if_neg e_29_3]; exact hE)
      ·
        refine z_callSx (As := [.int p4, .int 1, .int 10000]) (st := []) hlt (fun l hl => t_X0_requireWithin l hl D _ _ p4 1 10000 (by assumption)) (fun s args hts => va_cwS 3 hts gX0_send_X0_requireWithin rfl rfl rfl (by decide +kernel) ⟨Nat.le_of_ble_eq_true rfl, Nat.le_of_ble_eq_true rfl⟩) rfl (Nat.le_of_ble_eq_true rfl) ⟨Nat.le_of_ble_eq_true rfl, Nat.le_of_ble_eq_true rfl⟩ dX0_send_25 rfl ?_
        exact hthr _ _ _ (fun E' hE => by rw [e_X0_send, if_pos e_4_0, if_pos c_9_1, if_neg e_25_2]; exact hE)
    ·
      refine z_iload_n 2 dX0_send_12 rfl ?_
      refine z_iconst (v := 0) dX0_send_13 rfl ?_
      refine z_bipush (v := 9) dX0_send_14 rfl ?_
      by_cases e_16_5 : (e_X0_requireWithin p2 0 9) = 0
      ·
        refine z_callSv (As := [.int p2, .int 0, .int 9]) (st := []) (fun l => c_X0_requireWithin l D _ _ p2 0 9 (by assumption)) zGok_TT (fun _ _ _ => trivial) (fun s args hts => va_cwS 3 hts gX0_send_X0_requireWithin rfl rfl rfl (by decide +kernel) ⟨Nat.le_of_ble_eq_true rfl, Nat.le_of_ble_eq_true rfl⟩) rfl (Nat.le_of_ble_eq_true rfl) ⟨Nat.le_of_ble_eq_true rfl, Nat.le_of_ble_eq_true rfl⟩ dX0_send_16 rfl (fun u2 hp => ?_)
        clear hp
        refine z_iload 4 dX0_send_19 rfl ?_
        refine z_iconst (v := 1) dX0_send_21 rfl ?_
        refine z_sipush (v := 10000) dX0_send_22 rfl ?_
        by_cases e_25_6 : (e_X0_requireWithin p4 1 10000) = 0
        ·
          refine z_callSv (As := [.int p4, .int 1, .int 10000]) (st := []) (fun l => c_X0_requireWithin l D _ _ p4 1 10000 (by assumption)) zGok_TT (fun _ _ _ => trivial) (fun s args hts => va_cwS 3 hts gX0_send_X0_requireWithin rfl rfl rfl (by decide +kernel) ⟨Nat.le_of_ble_eq_true rfl, Nat.le_of_ble_eq_true rfl⟩) rfl (Nat.le_of_ble_eq_true rfl) ⟨Nat.le_of_ble_eq_true rfl, Nat.le_of_ble_eq_true rfl⟩ dX0_send_25 rfl (fun u2 hp => ?_)
          clear hp
          refine z_aload_n 0 dX0_send_28 rfl ?_
          by_cases e_29_7 : (e_X0_requireRoomForNotice u ) = 0
          ·
            refine z_callVv (As := []) (st := []) (fun l => c_X0_requireRoomForNotice l D cI cZ h a u  (by assumption)) zGok_TT (fun _ _ _ => trivial) (fun s args hts => cwV 0 hts gX0_send_X0_requireRoomForNotice rfl rfl rfl (by decide +kernel) ⟨Nat.le_of_ble_eq_true rfl, Nat.le_of_ble_eq_true rfl⟩) (ci := 0) rfl rfl rfl rfl (Nat.le_of_ble_eq_true rfl) ⟨Nat.le_of_ble_eq_true rfl, Nat.le_of_ble_eq_true rfl⟩ dX0_send_29 rfl (fun u2 hp => ?_)
            clear hp
            exact absurd (by rw [e_X0_send, if_pos e_4_0, if_neg c_9_1, if_pos e_16_5, if_pos e_25_6, if_pos e_29_7]) he
          ·
            refine z_callVx (As := []) (st := []) hlt (fun l hl => t_X0_requireRoomForNotice l hl D cI cZ h a u  (by assumption)) (fun s args hts => cwV 0 hts gX0_send_X0_requireRoomForNotice rfl rfl rfl (by decide +kernel) ⟨Nat.le_of_ble_eq_true rfl, Nat.le_of_ble_eq_true rfl⟩) (ci := 0) rfl rfl rfl rfl (Nat.le_of_ble_eq_true rfl) ⟨Nat.le_of_ble_eq_true rfl, Nat.le_of_ble_eq_true rfl⟩ dX0_send_29 rfl ?_
            exact hthr _ _ _ (fun E' hE => by rw [e_X0_send, if_pos e_4_0, if_neg c_9_1, if_pos e_16_5, if_pos e_25_6, if_neg e_29_7]; exact hE)
        ·
          refine z_callSx (As := [.int p4, .int 1, .int 10000]) (st := []) hlt (fun l hl => t_X0_requireWithin l hl D _ _ p4 1 10000 (by assumption)) (fun s args hts => va_cwS 3 hts gX0_send_X0_requireWithin rfl rfl rfl (by decide +kernel) ⟨Nat.le_of_ble_eq_true rfl, Nat.le_of_ble_eq_true rfl⟩) rfl (Nat.le_of_ble_eq_true rfl) ⟨Nat.le_of_ble_eq_true rfl, Nat.le_of_ble_eq_true rfl⟩ dX0_send_25 rfl ?_
          exact hthr _ _ _ (fun E' hE => by rw [e_X0_send, if_pos e_4_0, if_neg c_9_1, if_pos e_16_5, if_neg e_25_6]; exact hE)
      ·
        refine z_callSx (As := [.int p2, .int 0, .int 9]) (st := []) hlt (fun l hl => t_X0_requireWithin l hl D _ _ p2 0 9 (by assumption)) (fun s args hts => va_cwS 3 hts gX0_send_X0_requireWithin rfl rfl rfl (by decide +kernel) ⟨Nat.le_of_ble_eq_true rfl, Nat.le_of_ble_eq_true rfl⟩) rfl (Nat.le_of_ble_eq_true rfl) ⟨Nat.le_of_ble_eq_true rfl, Nat.le_of_ble_eq_true rfl⟩ dX0_send_16 rfl ?_
        exact hthr _ _ _ (fun E' hE => by rw [e_X0_send, if_pos e_4_0, if_neg c_9_1, if_neg e_16_5]; exact hE)
  ·
    refine z_callSx (As := [.int p1, .int 0, .int 7]) (st := []) hlt (fun l hl => t_X0_requireWithin l hl D _ _ p1 0 7 (by assumption)) (fun s args hts => va_cwS 3 hts gX0_send_X0_requireWithin rfl rfl rfl (by decide +kernel) ⟨Nat.le_of_ble_eq_true rfl, Nat.le_of_ble_eq_true rfl⟩) rfl (Nat.le_of_ble_eq_true rfl) ⟨Nat.le_of_ble_eq_true rfl, Nat.le_of_ble_eq_true rfl⟩ dX0_send_4 rfl ?_
    exact hthr _ _ _ (fun E' hE => by rw [e_X0_send, if_neg e_4_0]; exact hE)
set_option maxHeartbeats 4000000 in
set_option maxRecDepth 100000 in
theorem c_X0_sendBy (l : Launch) (D : va_G) (cI cZ : ClassId) (h : Nat) (a : Nat → Nat) (u : SX) (p1 p2 p3 p4 p5 : Int32) (he : e_X0_sendBy u p1 p2 p3 p4 p5 = 0) (nd : Nat) (hnd : u.1 10 = nI nd) (hd : nd ≤ 16) (nn : Nat) (hnn : u.1 16 = nI nn) (hn : nn ≤ 120) : zMi l yX0_sendBy wsX0_sendBy ({ frames := 6, cells := 0, slots := 0, locals := 136 } : Room) zTT D [(cI, .int), (cZ, .boolean)] (wX0 cI cZ h a u) [.ref h, .int p1, .int p2, .int p3, .int p4, .int p5] (fun (r : Int32) (u2 : SX) => r = r_X0_sendBy u p1 p2 p3 p4 p5 ∧ u2 = s_X0_sendBy u p1 p2 p3 p4 p5) (fun u2 => (wX0 cI cZ h a u2)) 0 0 := by
  refine z_startI (cc := cX0_sendBy) (n := 6) (own := RX0) (L0 := [(0, .ref h), (1, .int p1), (2, .int p2), (3, .int p3), (4, .int p4), (5, .int p5)]) (plainFor_of_name (by decide)) rfl rfl (Nat.le_of_ble_eq_true rfl) rfl (fun E hret => ?_)
  have hixnn : ix (u.1 16) = nn := by rw [hnn]; exact nI_clamp (by omega)
  have hixnd : ix (u.1 10) = nd := by rw [hnd]; exact nI_clamp (by omega)
  refine z_iload_n 1 dX0_sendBy_0 rfl ?_
  refine z_iconst (v := 0) dX0_sendBy_1 rfl ?_
  refine z_iconst (v := 2) dX0_sendBy_2 rfl ?_
  have e_3_0 : (e_X0_requireWithin p1 0 2) = 0 := Decidable.byContradiction (fun hq => by rw [e_X0_sendBy, if_neg hq] at he; exact hq he)
  refine z_callSv (As := [.int p1, .int 0, .int 2]) (st := []) (fun l => c_X0_requireWithin l D _ _ p1 0 2 (by assumption)) zGok_TT (fun _ _ _ => trivial) (fun s args hts => va_cwS 3 hts gX0_sendBy_X0_requireWithin rfl rfl rfl (by decide +kernel) ⟨Nat.le_of_ble_eq_true rfl, Nat.le_of_ble_eq_true rfl⟩) rfl (Nat.le_of_ble_eq_true rfl) ⟨Nat.le_of_ble_eq_true rfl, Nat.le_of_ble_eq_true rfl⟩ dX0_sendBy_3 rfl (fun u2 hp => ?_)
  clear hp
  refine z_iload_n 2 dX0_sendBy_6 rfl ?_
  refine z_iconst (v := 0) dX0_sendBy_7 rfl ?_
  refine z_iconst (v := 5) dX0_sendBy_8 rfl ?_
  have e_9_1 : (e_X0_requireWithin p2 0 5) = 0 := Decidable.byContradiction (fun hq => by rw [e_X0_sendBy, if_pos e_3_0, if_neg hq] at he; exact hq he)
  refine z_callSv (As := [.int p2, .int 0, .int 5]) (st := []) (fun l => c_X0_requireWithin l D _ _ p2 0 5 (by assumption)) zGok_TT (fun _ _ _ => trivial) (fun s args hts => va_cwS 3 hts gX0_sendBy_X0_requireWithin rfl rfl rfl (by decide +kernel) ⟨Nat.le_of_ble_eq_true rfl, Nat.le_of_ble_eq_true rfl⟩) rfl (Nat.le_of_ble_eq_true rfl) ⟨Nat.le_of_ble_eq_true rfl, Nat.le_of_ble_eq_true rfl⟩ dX0_sendBy_9 rfl (fun u2 hp => ?_)
  clear hp
  refine z_iload_n 3 dX0_sendBy_12 rfl ?_
  refine z_iconst (v := 0) dX0_sendBy_13 rfl ?_
  refine z_iconst (v := 5) dX0_sendBy_14 rfl ?_
  have e_15_2 : (e_X0_requireWithin p3 0 5) = 0 := Decidable.byContradiction (fun hq => by rw [e_X0_sendBy, if_pos e_3_0, if_pos e_9_1, if_neg hq] at he; exact hq he)
  refine z_callSv (As := [.int p3, .int 0, .int 5]) (st := []) (fun l => c_X0_requireWithin l D _ _ p3 0 5 (by assumption)) zGok_TT (fun _ _ _ => trivial) (fun s args hts => va_cwS 3 hts gX0_sendBy_X0_requireWithin rfl rfl rfl (by decide +kernel) ⟨Nat.le_of_ble_eq_true rfl, Nat.le_of_ble_eq_true rfl⟩) rfl (Nat.le_of_ble_eq_true rfl) ⟨Nat.le_of_ble_eq_true rfl, Nat.le_of_ble_eq_true rfl⟩ dX0_sendBy_15 rfl (fun u2 hp => ?_)
  clear hp
  refine z_iload 5 dX0_sendBy_18 rfl ?_
  refine z_iconst (v := 1) dX0_sendBy_20 rfl ?_
  refine z_sipush (v := 10000) dX0_sendBy_21 rfl ?_
  have e_24_3 : (e_X0_requireWithin p5 1 10000) = 0 := Decidable.byContradiction (fun hq => by rw [e_X0_sendBy, if_pos e_3_0, if_pos e_9_1, if_pos e_15_2, if_neg hq] at he; exact hq he)
  refine z_callSv (As := [.int p5, .int 1, .int 10000]) (st := []) (fun l => c_X0_requireWithin l D _ _ p5 1 10000 (by assumption)) zGok_TT (fun _ _ _ => trivial) (fun s args hts => va_cwS 3 hts gX0_sendBy_X0_requireWithin rfl rfl rfl (by decide +kernel) ⟨Nat.le_of_ble_eq_true rfl, Nat.le_of_ble_eq_true rfl⟩) rfl (Nat.le_of_ble_eq_true rfl) ⟨Nat.le_of_ble_eq_true rfl, Nat.le_of_ble_eq_true rfl⟩ dX0_sendBy_24 rfl (fun u2 hp => ?_)
  clear hp
  refine z_aload_n 0 dX0_sendBy_27 rfl ?_
  have e_28_4 : (e_X0_requireRoomForNotice u ) = 0 := Decidable.byContradiction (fun hq => by rw [e_X0_sendBy, if_pos e_3_0, if_pos e_9_1, if_pos e_15_2, if_pos e_24_3, if_neg hq] at he; exact hq he)
  refine z_callVv (As := []) (st := []) (fun l => c_X0_requireRoomForNotice l D cI cZ h a u  (by assumption)) zGok_TT (fun _ _ _ => trivial) (fun s args hts => cwV 0 hts gX0_sendBy_X0_requireRoomForNotice rfl rfl rfl (by decide +kernel) ⟨Nat.le_of_ble_eq_true rfl, Nat.le_of_ble_eq_true rfl⟩) (ci := 0) rfl rfl rfl rfl (Nat.le_of_ble_eq_true rfl) ⟨Nat.le_of_ble_eq_true rfl, Nat.le_of_ble_eq_true rfl⟩ dX0_sendBy_28 rfl (fun u2 hp => ?_)
  clear hp
  refine z_aload_n 0 dX0_sendBy_31 rfl ?_
  refine z_aload_n 0 dX0_sendBy_32 rfl ?_
  refine z_iload_n 1 dX0_sendBy_33 rfl ?_
  refine z_iload_n 2 dX0_sendBy_34 rfl ?_
  refine z_iload_n 3 dX0_sendBy_35 rfl ?_
  refine z_callVi (As := [.int p1, .int p2, .int p3]) (st := [.ref h]) (fun l => c_X0_devicesThatFulfil l D cI cZ h a u p1 p2 p3 (by first | assumption | exact hnd | exact zdev hnd hd (by assumption) | exact hnn | exact znot hnn hn (by assumption) | exact zwithin (by assumption) (by decide) (by decide) | exact zroom0 hnn hn (by assumption) | decide) (by first | assumption | exact hnd | exact zdev hnd hd (by assumption) | exact hnn | exact znot hnn hn (by assumption) | exact zwithin (by assumption) (by decide) (by decide) | exact zroom0 hnn hn (by assumption) | decide)) zGok_TT (fun _ _ _ => trivial) (fun s args hts => cwV 3 hts gX0_sendBy_X0_devicesThatFulfil rfl rfl rfl (by decide +kernel) ⟨Nat.le_of_ble_eq_true rfl, Nat.le_of_ble_eq_true rfl⟩) (ci := 0) rfl rfl rfl rfl (Nat.le_of_ble_eq_true rfl) ⟨Nat.le_of_ble_eq_true rfl, Nat.le_of_ble_eq_true rfl⟩ dX0_sendBy_36 rfl (fun r u2 hp => ?_)
  subst hp
  refine z_iload 4 dX0_sendBy_39 rfl ?_
  refine z_iload 5 dX0_sendBy_41 rfl ?_
  refine z_callVi (As := [.int (r_X0_devicesThatFulfil u p1 p2 p3), .int p4, .int p5]) (st := []) (fun l => c_X0_sendTo l D cI cZ h a u (r_X0_devicesThatFulfil u p1 p2 p3) p4 p5 nd (by first | assumption | exact hnd | exact zdev hnd hd (by assumption) | exact hnn | exact znot hnn hn (by assumption) | exact zwithin (by assumption) (by decide) (by decide) | exact zroom0 hnn hn (by assumption) | decide) (by first | assumption | exact hnd | exact zdev hnd hd (by assumption) | exact hnn | exact znot hnn hn (by assumption) | exact zwithin (by assumption) (by decide) (by decide) | exact zroom0 hnn hn (by assumption) | decide) nn (by first | assumption | exact hnd | exact zdev hnd hd (by assumption) | exact hnn | exact znot hnn hn (by assumption) | exact zwithin (by assumption) (by decide) (by decide) | exact zroom0 hnn hn (by assumption) | decide) (by first | assumption | exact hnd | exact zdev hnd hd (by assumption) | exact hnn | exact znot hnn hn (by assumption) | exact zwithin (by assumption) (by decide) (by decide) | exact zroom0 hnn hn (by assumption) | decide) (by first | assumption | exact hnd | exact zdev hnd hd (by assumption) | exact hnn | exact znot hnn hn (by assumption) | exact zwithin (by assumption) (by decide) (by decide) | exact zroom0 hnn hn (by assumption) | decide)) zGok_TT (fun _ _ _ => trivial) (fun s args hts => cwV 3 hts gX0_sendBy_X0_sendTo rfl rfl rfl (by decide +kernel) ⟨Nat.le_of_ble_eq_true rfl, Nat.le_of_ble_eq_true rfl⟩) (ci := 0) rfl rfl rfl rfl (Nat.le_of_ble_eq_true rfl) ⟨Nat.le_of_ble_eq_true rfl, Nat.le_of_ble_eq_true rfl⟩ dX0_sendBy_43 rfl (fun r u2 hp => ?_)
  obtain ⟨rfl, rfl⟩ := hp
  exact hret _ (s_X0_sendTo u (r_X0_devicesThatFulfil u p1 p2 p3) p4 p5) _ _ _ dX0_sendBy_46 ⟨(by rw [r_X0_sendBy]), (by rw [s_X0_sendBy])⟩ rfl
set_option maxHeartbeats 4000000 in
set_option maxRecDepth 100000 in
theorem t_X0_sendBy (l : Launch) (hlt : l.stackTraces = false) (D : va_G) (cI cZ : ClassId) (h : Nat) (a : Nat → Nat) (u : SX) (p1 p2 p3 p4 p5 : Int32) (he : e_X0_sendBy u p1 p2 p3 p4 p5 ≠ 0) (nd : Nat) (hnd : u.1 10 = nI nd) (hd : nd ≤ 16) (nn : Nat) (hnn : u.1 16 = nI nn) (hn : nn ≤ 120) : zMx l yX0_sendBy wsX0_sendBy ({ frames := 7, cells := 1, slots := 6, locals := 136 } : Room) D [(cI, .int), (cZ, .boolean)] (wX0 cI cZ h a u) [.ref h, .int p1, .int p2, .int p3, .int p4, .int p5] (fun E' => E' = zEx (e_X0_sendBy u p1 p2 p3 p4 p5)) := by
  refine z_startX (cc := cX0_sendBy) (n := 6) (own := RX0) (L0 := [(0, .ref h), (1, .int p1), (2, .int p2), (3, .int p3), (4, .int p4), (5, .int p5)]) hlt (by decide) rfl rfl (Nat.le_of_ble_eq_true rfl) rfl ⟨Nat.le_of_ble_eq_true rfl, Nat.le_of_ble_eq_true rfl⟩ (fun E hlt hthr hthrow => ?_)
  refine z_iload_n 1 dX0_sendBy_0 rfl ?_
  refine z_iconst (v := 0) dX0_sendBy_1 rfl ?_
  refine z_iconst (v := 2) dX0_sendBy_2 rfl ?_
  by_cases e_3_0 : (e_X0_requireWithin p1 0 2) = 0
  ·
    refine z_callSv (As := [.int p1, .int 0, .int 2]) (st := []) (fun l => c_X0_requireWithin l D _ _ p1 0 2 (by assumption)) zGok_TT (fun _ _ _ => trivial) (fun s args hts => va_cwS 3 hts gX0_sendBy_X0_requireWithin rfl rfl rfl (by decide +kernel) ⟨Nat.le_of_ble_eq_true rfl, Nat.le_of_ble_eq_true rfl⟩) rfl (Nat.le_of_ble_eq_true rfl) ⟨Nat.le_of_ble_eq_true rfl, Nat.le_of_ble_eq_true rfl⟩ dX0_sendBy_3 rfl (fun u2 hp => ?_)
    clear hp
    refine z_iload_n 2 dX0_sendBy_6 rfl ?_
    refine z_iconst (v := 0) dX0_sendBy_7 rfl ?_
    refine z_iconst (v := 5) dX0_sendBy_8 rfl ?_
    by_cases e_9_1 : (e_X0_requireWithin p2 0 5) = 0
    ·
      refine z_callSv (As := [.int p2, .int 0, .int 5]) (st := []) (fun l => c_X0_requireWithin l D _ _ p2 0 5 (by assumption)) zGok_TT (fun _ _ _ => trivial) (fun s args hts => va_cwS 3 hts gX0_sendBy_X0_requireWithin rfl rfl rfl (by decide +kernel) ⟨Nat.le_of_ble_eq_true rfl, Nat.le_of_ble_eq_true rfl⟩) rfl (Nat.le_of_ble_eq_true rfl) ⟨Nat.le_of_ble_eq_true rfl, Nat.le_of_ble_eq_true rfl⟩ dX0_sendBy_9 rfl (fun u2 hp => ?_)
      clear hp
      refine z_iload_n 3 dX0_sendBy_12 rfl ?_
      refine z_iconst (v := 0) dX0_sendBy_13 rfl ?_
      refine z_iconst (v := 5) dX0_sendBy_14 rfl ?_
      by_cases e_15_2 : (e_X0_requireWithin p3 0 5) = 0
      ·
        refine z_callSv (As := [.int p3, .int 0, .int 5]) (st := []) (fun l => c_X0_requireWithin l D _ _ p3 0 5 (by assumption)) zGok_TT (fun _ _ _ => trivial) (fun s args hts => va_cwS 3 hts gX0_sendBy_X0_requireWithin rfl rfl rfl (by decide +kernel) ⟨Nat.le_of_ble_eq_true rfl, Nat.le_of_ble_eq_true rfl⟩) rfl (Nat.le_of_ble_eq_true rfl) ⟨Nat.le_of_ble_eq_true rfl, Nat.le_of_ble_eq_true rfl⟩ dX0_sendBy_15 rfl (fun u2 hp => ?_)
        clear hp
        refine z_iload 5 dX0_sendBy_18 rfl ?_
        refine z_iconst (v := 1) dX0_sendBy_20 rfl ?_
        refine z_sipush (v := 10000) dX0_sendBy_21 rfl ?_
        by_cases e_24_3 : (e_X0_requireWithin p5 1 10000) = 0
        ·
          refine z_callSv (As := [.int p5, .int 1, .int 10000]) (st := []) (fun l => c_X0_requireWithin l D _ _ p5 1 10000 (by assumption)) zGok_TT (fun _ _ _ => trivial) (fun s args hts => va_cwS 3 hts gX0_sendBy_X0_requireWithin rfl rfl rfl (by decide +kernel) ⟨Nat.le_of_ble_eq_true rfl, Nat.le_of_ble_eq_true rfl⟩) rfl (Nat.le_of_ble_eq_true rfl) ⟨Nat.le_of_ble_eq_true rfl, Nat.le_of_ble_eq_true rfl⟩ dX0_sendBy_24 rfl (fun u2 hp => ?_)
          clear hp
          refine z_aload_n 0 dX0_sendBy_27 rfl ?_
          by_cases e_28_4 : (e_X0_requireRoomForNotice u ) = 0
          ·
            refine z_callVv (As := []) (st := []) (fun l => c_X0_requireRoomForNotice l D cI cZ h a u  (by assumption)) zGok_TT (fun _ _ _ => trivial) (fun s args hts => cwV 0 hts gX0_sendBy_X0_requireRoomForNotice rfl rfl rfl (by decide +kernel) ⟨Nat.le_of_ble_eq_true rfl, Nat.le_of_ble_eq_true rfl⟩) (ci := 0) rfl rfl rfl rfl (Nat.le_of_ble_eq_true rfl) ⟨Nat.le_of_ble_eq_true rfl, Nat.le_of_ble_eq_true rfl⟩ dX0_sendBy_28 rfl (fun u2 hp => ?_)
            clear hp
            exact absurd (by rw [e_X0_sendBy, if_pos e_3_0, if_pos e_9_1, if_pos e_15_2, if_pos e_24_3, if_pos e_28_4]) he
          ·
            refine z_callVx (As := []) (st := []) hlt (fun l hl => t_X0_requireRoomForNotice l hl D cI cZ h a u  (by assumption)) (fun s args hts => cwV 0 hts gX0_sendBy_X0_requireRoomForNotice rfl rfl rfl (by decide +kernel) ⟨Nat.le_of_ble_eq_true rfl, Nat.le_of_ble_eq_true rfl⟩) (ci := 0) rfl rfl rfl rfl (Nat.le_of_ble_eq_true rfl) ⟨Nat.le_of_ble_eq_true rfl, Nat.le_of_ble_eq_true rfl⟩ dX0_sendBy_28 rfl ?_
            exact hthr _ _ _ (fun E' hE => by rw [e_X0_sendBy, if_pos e_3_0, if_pos e_9_1, if_pos e_15_2, if_pos e_24_3, if_neg e_28_4]; exact hE)
        ·
          refine z_callSx (As := [.int p5, .int 1, .int 10000]) (st := []) hlt (fun l hl => t_X0_requireWithin l hl D _ _ p5 1 10000 (by assumption)) (fun s args hts => va_cwS 3 hts gX0_sendBy_X0_requireWithin rfl rfl rfl (by decide +kernel) ⟨Nat.le_of_ble_eq_true rfl, Nat.le_of_ble_eq_true rfl⟩) rfl (Nat.le_of_ble_eq_true rfl) ⟨Nat.le_of_ble_eq_true rfl, Nat.le_of_ble_eq_true rfl⟩ dX0_sendBy_24 rfl ?_
          exact hthr _ _ _ (fun E' hE => by rw [e_X0_sendBy, if_pos e_3_0, if_pos e_9_1, if_pos e_15_2, if_neg e_24_3]; exact hE)
      ·
        refine z_callSx (As := [.int p3, .int 0, .int 5]) (st := []) hlt (fun l hl => t_X0_requireWithin l hl D _ _ p3 0 5 (by assumption)) (fun s args hts => va_cwS 3 hts gX0_sendBy_X0_requireWithin rfl rfl rfl (by decide +kernel) ⟨Nat.le_of_ble_eq_true rfl, Nat.le_of_ble_eq_true rfl⟩) rfl (Nat.le_of_ble_eq_true rfl) ⟨Nat.le_of_ble_eq_true rfl, Nat.le_of_ble_eq_true rfl⟩ dX0_sendBy_15 rfl ?_
        exact hthr _ _ _ (fun E' hE => by rw [e_X0_sendBy, if_pos e_3_0, if_pos e_9_1, if_neg e_15_2]; exact hE)
    ·
      refine z_callSx (As := [.int p2, .int 0, .int 5]) (st := []) hlt (fun l hl => t_X0_requireWithin l hl D _ _ p2 0 5 (by assumption)) (fun s args hts => va_cwS 3 hts gX0_sendBy_X0_requireWithin rfl rfl rfl (by decide +kernel) ⟨Nat.le_of_ble_eq_true rfl, Nat.le_of_ble_eq_true rfl⟩) rfl (Nat.le_of_ble_eq_true rfl) ⟨Nat.le_of_ble_eq_true rfl, Nat.le_of_ble_eq_true rfl⟩ dX0_sendBy_9 rfl ?_
      exact hthr _ _ _ (fun E' hE => by rw [e_X0_sendBy, if_pos e_3_0, if_neg e_9_1]; exact hE)
  ·
    refine z_callSx (As := [.int p1, .int 0, .int 2]) (st := []) hlt (fun l hl => t_X0_requireWithin l hl D _ _ p1 0 2 (by assumption)) (fun s args hts => va_cwS 3 hts gX0_sendBy_X0_requireWithin rfl rfl rfl (by decide +kernel) ⟨Nat.le_of_ble_eq_true rfl, Nat.le_of_ble_eq_true rfl⟩) rfl (Nat.le_of_ble_eq_true rfl) ⟨Nat.le_of_ble_eq_true rfl, Nat.le_of_ble_eq_true rfl⟩ dX0_sendBy_3 rfl ?_
    exact hthr _ _ _ (fun E' hE => by rw [e_X0_sendBy, if_neg e_3_0]; exact hE)
set_option maxHeartbeats 4000000 in
set_option maxRecDepth 100000 in
theorem c_X0_read (l : Launch) (D : va_G) (cI cZ : ClassId) (h : Nat) (a : Nat → Nat) (u : SX) (p1 p2 : Int32) (he : e_X0_read u p1 p2 = 0) (nd : Nat) (hnd : u.1 10 = nI nd) (hd : nd ≤ 16) (nn : Nat) (hnn : u.1 16 = nI nn) (hn : nn ≤ 120) : zMi l yX0_read wsX0_read ({ frames := 2, cells := 0, slots := 0, locals := 42 } : Room) zTT D [(cI, .int), (cZ, .boolean)] (wX0 cI cZ h a u) [.ref h, .int p1, .int p2] (fun (r : Int32) (u2 : SX) => r = r_X0_read u p1 p2 ∧ u2 = s_X0_read u p1 p2) (fun u2 => (wX0 cI cZ h a u2)) 0 0 := by
  refine z_startI (cc := cX0_read) (n := 4) (own := RX0) (L0 := [(0, .ref h), (1, .int p1), (2, .int p2)]) (plainFor_of_name (by decide)) rfl rfl (Nat.le_of_ble_eq_true rfl) rfl (fun E hret => ?_)
  have hixnn : ix (u.1 16) = nn := by rw [hnn]; exact nI_clamp (by omega)
  have hixnd : ix (u.1 10) = nd := by rw [hnd]; exact nI_clamp (by omega)
  refine z_aload_n 0 dX0_read_0 rfl ?_
  refine z_iload_n 1 dX0_read_1 rfl ?_
  have e_2_0 : (e_X0_requireDevice u p1) = 0 := Decidable.byContradiction (fun hq => by rw [e_X0_read, if_neg hq] at he; exact hq he)
  refine z_callVv (As := [.int p1]) (st := []) (fun l => c_X0_requireDevice l D cI cZ h a u p1 (by assumption)) zGok_TT (fun _ _ _ => trivial) (fun s args hts => cwV 1 hts gX0_read_X0_requireDevice rfl rfl rfl (by decide +kernel) ⟨Nat.le_of_ble_eq_true rfl, Nat.le_of_ble_eq_true rfl⟩) (ci := 0) rfl rfl rfl rfl (Nat.le_of_ble_eq_true rfl) ⟨Nat.le_of_ble_eq_true rfl, Nat.le_of_ble_eq_true rfl⟩ dX0_read_2 rfl (fun u2 hp => ?_)
  clear hp
  refine z_aload_n 0 dX0_read_5 rfl ?_
  refine z_iload_n 2 dX0_read_6 rfl ?_
  have e_7_1 : (e_X0_requireNotice u p2) = 0 := Decidable.byContradiction (fun hq => by rw [e_X0_read, if_pos e_2_0, if_neg hq] at he; exact hq he)
  refine z_callVv (As := [.int p2]) (st := []) (fun l => c_X0_requireNotice l D cI cZ h a u p2 (by assumption)) zGok_TT (fun _ _ _ => trivial) (fun s args hts => cwV 1 hts gX0_read_X0_requireNotice rfl rfl rfl (by decide +kernel) ⟨Nat.le_of_ble_eq_true rfl, Nat.le_of_ble_eq_true rfl⟩) (ci := 0) rfl rfl rfl rfl (Nat.le_of_ble_eq_true rfl) ⟨Nat.le_of_ble_eq_true rfl, Nat.le_of_ble_eq_true rfl⟩ dX0_read_7 rfl (fun u2 hp => ?_)
  clear hp
  refine z_aload_n 0 dX0_read_10 rfl ?_
  refine z_get (C := RX0) (T := TX0) (N := 19) (v := .ref (a 14)) inwX0_read 0 rfl rfl 14 (by decide) (List.mem_of_getElem? (i := 3) rfl) rfl rfl dX0_read_11 ?_
  refine z_iload_n 2 dX0_read_14 rfl ?_
  refine z_iald (v := (u.2 14 (ix p2))) 11 0 rfl rfl (by first | assumption | exact hnd | exact zdev hnd hd (by assumption) | exact hnn | exact znot hnn hn (by assumption) | decide) rfl dX0_read_15 ?_
  refine z_iload_n 1 dX0_read_16 rfl ?_
  refine z_callSi (As := [.int (u.2 14 (ix p2)), .int p1]) (st := []) (fun l => c_X0_has l D _ _ (u.2 14 (ix p2)) p1) zGok_TT (fun _ _ _ => trivial) (fun s args hts => va_cwS 2 hts gX0_read_X0_has rfl rfl rfl (by decide +kernel) ⟨Nat.le_of_ble_eq_true rfl, Nat.le_of_ble_eq_true rfl⟩) rfl (Nat.le_of_ble_eq_true rfl) ⟨Nat.le_of_ble_eq_true rfl, Nat.le_of_ble_eq_true rfl⟩ dX0_read_17 rfl (fun r u2 hp => ?_)
  subst hp
  refine z_if_eq 31 dX0_read_20 (by decide) (fun c_20_2 => ?_) (fun c_20_2 => ?_)
  ·
    exact absurd he (by rw [e_X0_read, if_pos e_2_0, if_pos e_7_1, if_pos c_20_2]; decide)
  ·
    refine z_aload_n 0 dX0_read_23 rfl ?_
    refine z_iload_n 2 dX0_read_24 rfl ?_
    refine z_callVi (As := [.int p2]) (st := []) (fun l => c_X0_isStanding l D cI cZ h a u p2 (by first | assumption | exact hnd | exact zdev hnd hd (by assumption) | exact hnn | exact znot hnn hn (by assumption) | decide)) zGok_TT (fun _ _ _ => trivial) (fun s args hts => cwV 1 hts gX0_read_X0_isStanding rfl rfl rfl (by decide +kernel) ⟨Nat.le_of_ble_eq_true rfl, Nat.le_of_ble_eq_true rfl⟩) (ci := 0) rfl rfl rfl rfl (Nat.le_of_ble_eq_true rfl) ⟨Nat.le_of_ble_eq_true rfl, Nat.le_of_ble_eq_true rfl⟩ dX0_read_25 rfl (fun r u2 hp => ?_)
    subst hp
    refine z_if_ne 41 dX0_read_28 (by decide) (fun c_28_3 => ?_) (fun c_28_3 => ?_)
    ·
      refine z_aload_n 0 dX0_read_41 rfl ?_
      refine z_iload_n 2 dX0_read_42 rfl ?_
      refine z_callVi (As := [.int p2]) (st := []) (fun l => c_X0_waitsNow l D cI cZ h a u p2 (by first | assumption | exact hnd | exact zdev hnd hd (by assumption) | exact hnn | exact znot hnn hn (by assumption) | decide)) zGok_TT (fun _ _ _ => trivial) (fun s args hts => cwV 1 hts gX0_read_X0_waitsNow rfl rfl rfl (by decide +kernel) ⟨Nat.le_of_ble_eq_true rfl, Nat.le_of_ble_eq_true rfl⟩) (ci := 0) rfl rfl rfl rfl (Nat.le_of_ble_eq_true rfl) ⟨Nat.le_of_ble_eq_true rfl, Nat.le_of_ble_eq_true rfl⟩ dX0_read_43 rfl (fun r u2 hp => ?_)
      subst hp
      refine z_callSi (As := [.int (r_X0_waitsNow u p2)]) (st := []) (fun l => c_J6_bitCount_0f7a4 l D _ _ (r_X0_waitsNow u p2)) zGok_TT (fun _ _ _ => trivial) (fun s args hts => va_cwS 1 hts gX0_read_J6_bitCount_0f7a4 rfl rfl rfl (by decide +kernel) ⟨Nat.le_of_ble_eq_true rfl, Nat.le_of_ble_eq_true rfl⟩) rfl (Nat.le_of_ble_eq_true rfl) ⟨Nat.le_of_ble_eq_true rfl, Nat.le_of_ble_eq_true rfl⟩ dX0_read_46 rfl (fun r u2 hp => ?_)
      subst hp
      refine z_istore_n (L' := [(3, .int (r_J6_bitCount_0f7a4 (r_X0_waitsNow u p2))), (0, .ref h), (1, .int p1), (2, .int p2)]) dX0_read_49 (by decide) rfl ?_
      refine z_aload_n 1 dX0_read_50 rfl ?_
      refine z_iload_n 3 dX0_read_51 rfl ?_
      refine z_callVv (As := [.int p2]) (st := []) (fun l => c_X0_withdraw l D cI cZ h a u p2 (by first | assumption | exact hnd | exact zdev hnd hd (by assumption) | exact hnn | exact znot hnn hn (by assumption) | decide)) zGok_TT (fun _ _ _ => trivial) (fun s args hts => cwV 1 hts gX0_read_X0_withdraw rfl rfl rfl (by decide +kernel) ⟨Nat.le_of_ble_eq_true rfl, Nat.le_of_ble_eq_true rfl⟩) (ci := 0) rfl rfl rfl rfl (Nat.le_of_ble_eq_true rfl) ⟨Nat.le_of_ble_eq_true rfl, Nat.le_of_ble_eq_true rfl⟩ dX0_read_52 rfl (fun u2 hp => ?_)
      subst hp
      refine z_iload_n 0 dX0_read_55 rfl ?_
      exact hret _ (s_X0_withdraw u p2) _ _ _ dX0_read_56 ⟨(by rw [r_X0_read]), (by rw [s_X0_read])⟩ rfl
    ·
      exact absurd he (by rw [e_X0_read, if_pos e_2_0, if_pos e_7_1, if_neg c_20_2, if_pos c_28_3]; decide)
set_option maxHeartbeats 4000000 in
set_option maxRecDepth 100000 in
theorem t_X0_read (l : Launch) (hlt : l.stackTraces = false) (D : va_G) (cI cZ : ClassId) (h : Nat) (a : Nat → Nat) (u : SX) (p1 p2 : Int32) (he : e_X0_read u p1 p2 ≠ 0) (nd : Nat) (hnd : u.1 10 = nI nd) (hd : nd ≤ 16) (nn : Nat) (hnn : u.1 16 = nI nn) (hn : nn ≤ 120) : zMx l yX0_read wsX0_read ({ frames := 7, cells := 1, slots := 6, locals := 103 } : Room) D [(cI, .int), (cZ, .boolean)] (wX0 cI cZ h a u) [.ref h, .int p1, .int p2] (fun E' => E' = zEx (e_X0_read u p1 p2)) := by
  refine z_startX (cc := cX0_read) (n := 4) (own := RX0) (L0 := [(0, .ref h), (1, .int p1), (2, .int p2)]) hlt (by decide) rfl rfl (Nat.le_of_ble_eq_true rfl) rfl ⟨Nat.le_of_ble_eq_true rfl, Nat.le_of_ble_eq_true rfl⟩ (fun E hlt hthr hthrow => ?_)
  refine z_aload_n 0 dX0_read_0 rfl ?_
  refine z_iload_n 1 dX0_read_1 rfl ?_
  by_cases e_2_0 : (e_X0_requireDevice u p1) = 0
  ·
    refine z_callVv (As := [.int p1]) (st := []) (fun l => c_X0_requireDevice l D cI cZ h a u p1 (by assumption)) zGok_TT (fun _ _ _ => trivial) (fun s args hts => cwV 1 hts gX0_read_X0_requireDevice rfl rfl rfl (by decide +kernel) ⟨Nat.le_of_ble_eq_true rfl, Nat.le_of_ble_eq_true rfl⟩) (ci := 0) rfl rfl rfl rfl (Nat.le_of_ble_eq_true rfl) ⟨Nat.le_of_ble_eq_true rfl, Nat.le_of_ble_eq_true rfl⟩ dX0_read_2 rfl (fun u2 hp => ?_)
    clear hp
    refine z_aload_n 0 dX0_read_5 rfl ?_
    refine z_iload_n 2 dX0_read_6 rfl ?_
    by_cases e_7_1 : (e_X0_requireNotice u p2) = 0
    ·
      refine z_callVv (As := [.int p2]) (st := []) (fun l => c_X0_requireNotice l D cI cZ h a u p2 (by assumption)) zGok_TT (fun _ _ _ => trivial) (fun s args hts => cwV 1 hts gX0_read_X0_requireNotice rfl rfl rfl (by decide +kernel) ⟨Nat.le_of_ble_eq_true rfl, Nat.le_of_ble_eq_true rfl⟩) (ci := 0) rfl rfl rfl rfl (Nat.le_of_ble_eq_true rfl) ⟨Nat.le_of_ble_eq_true rfl, Nat.le_of_ble_eq_true rfl⟩ dX0_read_7 rfl (fun u2 hp => ?_)
      clear hp
      refine z_aload_n 0 dX0_read_10 rfl ?_
      refine z_get (C := RX0) (T := TX0) (N := 19) (v := .ref (a 14)) inwX0_read 0 rfl rfl 14 (by decide) (List.mem_of_getElem? (i := 3) rfl) rfl rfl dX0_read_11 ?_
      refine z_iload_n 2 dX0_read_14 rfl ?_
      refine z_iald (v := (u.2 14 (ix p2))) 11 0 rfl rfl (by first | assumption | exact hnd | exact zdev hnd hd (by assumption) | exact hnn | exact znot hnn hn (by assumption) | decide) rfl dX0_read_15 ?_
      refine z_iload_n 1 dX0_read_16 rfl ?_
      refine z_callSi (As := [.int (u.2 14 (ix p2)), .int p1]) (st := []) (fun l => c_X0_has l D _ _ (u.2 14 (ix p2)) p1) zGok_TT (fun _ _ _ => trivial) (fun s args hts => va_cwS 2 hts gX0_read_X0_has rfl rfl rfl (by decide +kernel) ⟨Nat.le_of_ble_eq_true rfl, Nat.le_of_ble_eq_true rfl⟩) rfl (Nat.le_of_ble_eq_true rfl) ⟨Nat.le_of_ble_eq_true rfl, Nat.le_of_ble_eq_true rfl⟩ dX0_read_17 rfl (fun r u2 hp => ?_)
      subst hp
      refine z_if_eq 31 dX0_read_20 (by decide) (fun c_20_2 => ?_) (fun c_20_2 => ?_)
      ·
        exact hthrow 31 _ "java/lang/IllegalStateException" "it was not delivered there, or does not stand any more" 73 130 77 (by decide) (by decide) (by decide +kernel) (List.mem_of_getElem? (i := 1) rfl) (List.mem_of_getElem? (i := 2) rfl) rfl (by decide) (fun w h => List.mem_cons_of_mem _ (by first | exact List.mem_append_right _ h | exact List.mem_append_left _ (List.mem_append_right _ h) | exact List.mem_append_left _ (List.mem_append_left _ (List.mem_append_right _ h)))) (by decide +kernel) (by decide +kernel) dX0_read_31 dX0_read_34 dX0_read_35 dX0_read_37 dX0_read_40 (by show _ = zEx _; rw [e_X0_read, if_pos e_2_0, if_pos e_7_1, if_pos c_20_2]; rfl)
      ·
        refine z_aload_n 0 dX0_read_23 rfl ?_
        refine z_iload_n 2 dX0_read_24 rfl ?_
        refine z_callVi (As := [.int p2]) (st := []) (fun l => c_X0_isStanding l D cI cZ h a u p2 (by first | assumption | exact hnd | exact zdev hnd hd (by assumption) | exact hnn | exact znot hnn hn (by assumption) | decide)) zGok_TT (fun _ _ _ => trivial) (fun s args hts => cwV 1 hts gX0_read_X0_isStanding rfl rfl rfl (by decide +kernel) ⟨Nat.le_of_ble_eq_true rfl, Nat.le_of_ble_eq_true rfl⟩) (ci := 0) rfl rfl rfl rfl (Nat.le_of_ble_eq_true rfl) ⟨Nat.le_of_ble_eq_true rfl, Nat.le_of_ble_eq_true rfl⟩ dX0_read_25 rfl (fun r u2 hp => ?_)
        subst hp
        refine z_if_ne 41 dX0_read_28 (by decide) (fun c_28_3 => ?_) (fun c_28_3 => ?_)
        ·
          exact absurd (by rw [e_X0_read, if_pos e_2_0, if_pos e_7_1, if_neg c_20_2, if_neg c_28_3]) he
        ·
          exact hthrow 31 _ "java/lang/IllegalStateException" "it was not delivered there, or does not stand any more" 73 130 77 (by decide) (by decide) (by decide +kernel) (List.mem_of_getElem? (i := 1) rfl) (List.mem_of_getElem? (i := 2) rfl) rfl (by decide) (fun w h => List.mem_cons_of_mem _ (by first | exact List.mem_append_right _ h | exact List.mem_append_left _ (List.mem_append_right _ h) | exact List.mem_append_left _ (List.mem_append_left _ (List.mem_append_right _ h)))) (by decide +kernel) (by decide +kernel) dX0_read_31 dX0_read_34 dX0_read_35 dX0_read_37 dX0_read_40 (by show _ = zEx _; rw [e_X0_read, if_pos e_2_0, if_pos e_7_1, if_neg c_20_2, if_pos c_28_3]; rfl)
    ·
      refine z_callVx (As := [.int p2]) (st := []) hlt (fun l hl => t_X0_requireNotice l hl D cI cZ h a u p2 (by assumption)) (fun s args hts => cwV 1 hts gX0_read_X0_requireNotice rfl rfl rfl (by decide +kernel) ⟨Nat.le_of_ble_eq_true rfl, Nat.le_of_ble_eq_true rfl⟩) (ci := 0) rfl rfl rfl rfl (Nat.le_of_ble_eq_true rfl) ⟨Nat.le_of_ble_eq_true rfl, Nat.le_of_ble_eq_true rfl⟩ dX0_read_7 rfl ?_
      exact hthr _ _ _ (fun E' hE => by rw [e_X0_read, if_pos e_2_0, if_neg e_7_1]; exact hE)
  ·
    refine z_callVx (As := [.int p1]) (st := []) hlt (fun l hl => t_X0_requireDevice l hl D cI cZ h a u p1 (by assumption)) (fun s args hts => cwV 1 hts gX0_read_X0_requireDevice rfl rfl rfl (by decide +kernel) ⟨Nat.le_of_ble_eq_true rfl, Nat.le_of_ble_eq_true rfl⟩) (ci := 0) rfl rfl rfl rfl (Nat.le_of_ble_eq_true rfl) ⟨Nat.le_of_ble_eq_true rfl, Nat.le_of_ble_eq_true rfl⟩ dX0_read_2 rfl ?_
    exact hthr _ _ _ (fun E' hE => by rw [e_X0_read, if_neg e_2_0]; exact hE)
set_option maxHeartbeats 4000000 in
set_option maxRecDepth 100000 in
theorem c_X0_sent (l : Launch) (D : va_G) (cI cZ : ClassId) (h : Nat) (a : Nat → Nat) (u : SX)   : zMi l yX0_sent wsX0_sent ({ frames := 0, cells := 0, slots := 0, locals := 0 } : Room) zTT D [(cI, .int), (cZ, .boolean)] (wX0 cI cZ h a u) [.ref h] (fun (r : Int32) (_ : Unit) => r = r_X0_sent u) (fun _ => (wX0 cI cZ h a u)) 0 0 := by
  refine z_startI (cc := cX0_sent) (n := 1) (own := RX0) (L0 := [(0, .ref h)]) (plainFor_of_name (by decide)) rfl rfl (Nat.le_of_ble_eq_true rfl) rfl (fun E hret => ?_)
  refine z_aload_n 0 dX0_sent_0 rfl ?_
  refine z_get (C := RX0) (T := TX0) (N := 19) (v := .int (u.1 16)) inwX0_sent 0 rfl rfl 16 (by decide) (List.mem_of_getElem? (i := 1) rfl) rfl rfl dX0_sent_1 ?_
  exact hret _ () _ _ _ dX0_sent_4 (by rw [r_X0_sent]) rfl
set_option maxHeartbeats 4000000 in
set_option maxRecDepth 100000 in
theorem c_X0_stands (l : Launch) (D : va_G) (cI cZ : ClassId) (h : Nat) (a : Nat → Nat) (u : SX) (p1 : Int32) (he : e_X0_stands u p1 = 0) (nn : Nat) (hnn : u.1 16 = nI nn) (hn : nn ≤ 120) : zMi l yX0_stands wsX0_stands ({ frames := 1, cells := 0, slots := 0, locals := 21 } : Room) zTT D [(cI, .int), (cZ, .boolean)] (wX0 cI cZ h a u) [.ref h, .int p1] (fun (r : Int32) (_ : Unit) => r = r_X0_stands u p1) (fun _ => (wX0 cI cZ h a u)) 0 0 := by
  refine z_startZ (cc := cX0_stands) (n := 2) (own := RX0) (L0 := [(0, .ref h), (1, .int p1)]) (plainFor_of_name (by decide)) rfl rfl (Nat.le_of_ble_eq_true rfl) rfl (fun E hret => ?_)
  have hixnn : ix (u.1 16) = nn := by rw [hnn]; exact nI_clamp (by omega)
  refine z_aload_n 0 dX0_stands_0 rfl ?_
  refine z_iload_n 1 dX0_stands_1 rfl ?_
  have e_2_0 : (e_X0_requireNotice u p1) = 0 := Decidable.byContradiction (fun hq => by rw [e_X0_stands, if_neg hq] at he; exact hq he)
  refine z_callVv (As := [.int p1]) (st := []) (fun l => c_X0_requireNotice l D cI cZ h a u p1 (by assumption)) zGok_TT (fun _ _ _ => trivial) (fun s args hts => cwV 1 hts gX0_stands_X0_requireNotice rfl rfl rfl (by decide +kernel) ⟨Nat.le_of_ble_eq_true rfl, Nat.le_of_ble_eq_true rfl⟩) (ci := 0) rfl rfl rfl rfl (Nat.le_of_ble_eq_true rfl) ⟨Nat.le_of_ble_eq_true rfl, Nat.le_of_ble_eq_true rfl⟩ dX0_stands_2 rfl (fun u2 hp => ?_)
  clear hp
  refine z_aload_n 0 dX0_stands_5 rfl ?_
  refine z_iload_n 1 dX0_stands_6 rfl ?_
  refine z_callVi (As := [.int p1]) (st := []) (fun l => c_X0_isStanding l D cI cZ h a u p1 (by first | assumption | exact hnn | exact znot hnn hn (by assumption) | decide)) zGok_TT (fun _ _ _ => trivial) (fun s args hts => cwV 1 hts gX0_stands_X0_isStanding rfl rfl rfl (by decide +kernel) ⟨Nat.le_of_ble_eq_true rfl, Nat.le_of_ble_eq_true rfl⟩) (ci := 0) rfl rfl rfl rfl (Nat.le_of_ble_eq_true rfl) ⟨Nat.le_of_ble_eq_true rfl, Nat.le_of_ble_eq_true rfl⟩ dX0_stands_7 rfl (fun r u2 hp => ?_)
  subst hp
  exact hret _ () _ _ _ dX0_stands_10 (by rw [r_X0_stands]) rfl (by first | rfl | exact znar01 (z01_X0_isInQuietHours _ _) | exact znar01 (z01_X0_isStanding _ _))
set_option maxHeartbeats 4000000 in
set_option maxRecDepth 100000 in
theorem t_X0_stands (l : Launch) (hlt : l.stackTraces = false) (D : va_G) (cI cZ : ClassId) (h : Nat) (a : Nat → Nat) (u : SX) (p1 : Int32) (he : e_X0_stands u p1 ≠ 0) (nn : Nat) (hnn : u.1 16 = nI nn) (hn : nn ≤ 120) : zMx l yX0_stands wsX0_stands ({ frames := 7, cells := 1, slots := 6, locals := 103 } : Room) D [(cI, .int), (cZ, .boolean)] (wX0 cI cZ h a u) [.ref h, .int p1] (fun E' => E' = zEx (e_X0_stands u p1)) := by
  refine z_startX (cc := cX0_stands) (n := 2) (own := RX0) (L0 := [(0, .ref h), (1, .int p1)]) hlt (by decide) rfl rfl (Nat.le_of_ble_eq_true rfl) rfl ⟨Nat.le_of_ble_eq_true rfl, Nat.le_of_ble_eq_true rfl⟩ (fun E hlt hthr hthrow => ?_)
  refine z_aload_n 0 dX0_stands_0 rfl ?_
  refine z_iload_n 1 dX0_stands_1 rfl ?_
  by_cases e_2_0 : (e_X0_requireNotice u p1) = 0
  ·
    refine z_callVv (As := [.int p1]) (st := []) (fun l => c_X0_requireNotice l D cI cZ h a u p1 (by assumption)) zGok_TT (fun _ _ _ => trivial) (fun s args hts => cwV 1 hts gX0_stands_X0_requireNotice rfl rfl rfl (by decide +kernel) ⟨Nat.le_of_ble_eq_true rfl, Nat.le_of_ble_eq_true rfl⟩) (ci := 0) rfl rfl rfl rfl (Nat.le_of_ble_eq_true rfl) ⟨Nat.le_of_ble_eq_true rfl, Nat.le_of_ble_eq_true rfl⟩ dX0_stands_2 rfl (fun u2 hp => ?_)
    clear hp
    exact absurd (by rw [e_X0_stands, if_pos e_2_0]) he
  ·
    refine z_callVx (As := [.int p1]) (st := []) hlt (fun l hl => t_X0_requireNotice l hl D cI cZ h a u p1 (by assumption)) (fun s args hts => cwV 1 hts gX0_stands_X0_requireNotice rfl rfl rfl (by decide +kernel) ⟨Nat.le_of_ble_eq_true rfl, Nat.le_of_ble_eq_true rfl⟩) (ci := 0) rfl rfl rfl rfl (Nat.le_of_ble_eq_true rfl) ⟨Nat.le_of_ble_eq_true rfl, Nat.le_of_ble_eq_true rfl⟩ dX0_stands_2 rfl ?_
    exact hthr _ _ _ (fun E' hE => by rw [e_X0_stands, if_neg e_2_0]; exact hE)
set_option maxHeartbeats 4000000 in
set_option maxRecDepth 100000 in
theorem c_X0_waitsFor (l : Launch) (D : va_G) (cI cZ : ClassId) (h : Nat) (a : Nat → Nat) (u : SX) (p1 : Int32) (he : e_X0_waitsFor u p1 = 0) (nn : Nat) (hnn : u.1 16 = nI nn) (hn : nn ≤ 120) : zMi l yX0_waitsFor wsX0_waitsFor ({ frames := 2, cells := 0, slots := 0, locals := 42 } : Room) zTT D [(cI, .int), (cZ, .boolean)] (wX0 cI cZ h a u) [.ref h, .int p1] (fun (r : Int32) (_ : Unit) => r = r_X0_waitsFor u p1) (fun _ => (wX0 cI cZ h a u)) 0 0 := by
  refine z_startI (cc := cX0_waitsFor) (n := 2) (own := RX0) (L0 := [(0, .ref h), (1, .int p1)]) (plainFor_of_name (by decide)) rfl rfl (Nat.le_of_ble_eq_true rfl) rfl (fun E hret => ?_)
  have hixnn : ix (u.1 16) = nn := by rw [hnn]; exact nI_clamp (by omega)
  refine z_aload_n 0 dX0_waitsFor_0 rfl ?_
  refine z_iload_n 1 dX0_waitsFor_1 rfl ?_
  have e_2_0 : (e_X0_requireNotice u p1) = 0 := Decidable.byContradiction (fun hq => by rw [e_X0_waitsFor, if_neg hq] at he; exact hq he)
  refine z_callVv (As := [.int p1]) (st := []) (fun l => c_X0_requireNotice l D cI cZ h a u p1 (by assumption)) zGok_TT (fun _ _ _ => trivial) (fun s args hts => cwV 1 hts gX0_waitsFor_X0_requireNotice rfl rfl rfl (by decide +kernel) ⟨Nat.le_of_ble_eq_true rfl, Nat.le_of_ble_eq_true rfl⟩) (ci := 0) rfl rfl rfl rfl (Nat.le_of_ble_eq_true rfl) ⟨Nat.le_of_ble_eq_true rfl, Nat.le_of_ble_eq_true rfl⟩ dX0_waitsFor_2 rfl (fun u2 hp => ?_)
  clear hp
  refine z_aload_n 0 dX0_waitsFor_5 rfl ?_
  refine z_iload_n 1 dX0_waitsFor_6 rfl ?_
  refine z_callVi (As := [.int p1]) (st := []) (fun l => c_X0_waitsNow l D cI cZ h a u p1 (by first | assumption | exact hnn | exact znot hnn hn (by assumption) | decide)) zGok_TT (fun _ _ _ => trivial) (fun s args hts => cwV 1 hts gX0_waitsFor_X0_waitsNow rfl rfl rfl (by decide +kernel) ⟨Nat.le_of_ble_eq_true rfl, Nat.le_of_ble_eq_true rfl⟩) (ci := 0) rfl rfl rfl rfl (Nat.le_of_ble_eq_true rfl) ⟨Nat.le_of_ble_eq_true rfl, Nat.le_of_ble_eq_true rfl⟩ dX0_waitsFor_7 rfl (fun r u2 hp => ?_)
  subst hp
  exact hret _ () _ _ _ dX0_waitsFor_10 (by rw [r_X0_waitsFor]) rfl
set_option maxHeartbeats 4000000 in
set_option maxRecDepth 100000 in
theorem t_X0_waitsFor (l : Launch) (hlt : l.stackTraces = false) (D : va_G) (cI cZ : ClassId) (h : Nat) (a : Nat → Nat) (u : SX) (p1 : Int32) (he : e_X0_waitsFor u p1 ≠ 0) (nn : Nat) (hnn : u.1 16 = nI nn) (hn : nn ≤ 120) : zMx l yX0_waitsFor wsX0_waitsFor ({ frames := 7, cells := 1, slots := 6, locals := 103 } : Room) D [(cI, .int), (cZ, .boolean)] (wX0 cI cZ h a u) [.ref h, .int p1] (fun E' => E' = zEx (e_X0_waitsFor u p1)) := by
  refine z_startX (cc := cX0_waitsFor) (n := 2) (own := RX0) (L0 := [(0, .ref h), (1, .int p1)]) hlt (by decide) rfl rfl (Nat.le_of_ble_eq_true rfl) rfl ⟨Nat.le_of_ble_eq_true rfl, Nat.le_of_ble_eq_true rfl⟩ (fun E hlt hthr hthrow => ?_)
  refine z_aload_n 0 dX0_waitsFor_0 rfl ?_
  refine z_iload_n 1 dX0_waitsFor_1 rfl ?_
  by_cases e_2_0 : (e_X0_requireNotice u p1) = 0
  ·
    refine z_callVv (As := [.int p1]) (st := []) (fun l => c_X0_requireNotice l D cI cZ h a u p1 (by assumption)) zGok_TT (fun _ _ _ => trivial) (fun s args hts => cwV 1 hts gX0_waitsFor_X0_requireNotice rfl rfl rfl (by decide +kernel) ⟨Nat.le_of_ble_eq_true rfl, Nat.le_of_ble_eq_true rfl⟩) (ci := 0) rfl rfl rfl rfl (Nat.le_of_ble_eq_true rfl) ⟨Nat.le_of_ble_eq_true rfl, Nat.le_of_ble_eq_true rfl⟩ dX0_waitsFor_2 rfl (fun u2 hp => ?_)
    clear hp
    exact absurd (by rw [e_X0_waitsFor, if_pos e_2_0]) he
  ·
    refine z_callVx (As := [.int p1]) (st := []) hlt (fun l hl => t_X0_requireNotice l hl D cI cZ h a u p1 (by assumption)) (fun s args hts => cwV 1 hts gX0_waitsFor_X0_requireNotice rfl rfl rfl (by decide +kernel) ⟨Nat.le_of_ble_eq_true rfl, Nat.le_of_ble_eq_true rfl⟩) (ci := 0) rfl rfl rfl rfl (Nat.le_of_ble_eq_true rfl) ⟨Nat.le_of_ble_eq_true rfl, Nat.le_of_ble_eq_true rfl⟩ dX0_waitsFor_2 rfl ?_
    exact hthr _ _ _ (fun E' hE => by rw [e_X0_waitsFor, if_neg e_2_0]; exact hE)
set_option maxHeartbeats 4000000 in
set_option maxRecDepth 100000 in
theorem c_X0_deliveredTo (l : Launch) (D : va_G) (cI cZ : ClassId) (h : Nat) (a : Nat → Nat) (u : SX) (p1 : Int32) (he : e_X0_deliveredTo u p1 = 0) (nn : Nat) (hnn : u.1 16 = nI nn) (hn : nn ≤ 120) : zMi l yX0_deliveredTo wsX0_deliveredTo ({ frames := 1, cells := 0, slots := 0, locals := 21 } : Room) zTT D [(cI, .int), (cZ, .boolean)] (wX0 cI cZ h a u) [.ref h, .int p1] (fun (r : Int32) (_ : Unit) => r = r_X0_deliveredTo u p1) (fun _ => (wX0 cI cZ h a u)) 0 0 := by
  refine z_startI (cc := cX0_deliveredTo) (n := 2) (own := RX0) (L0 := [(0, .ref h), (1, .int p1)]) (plainFor_of_name (by decide)) rfl rfl (Nat.le_of_ble_eq_true rfl) rfl (fun E hret => ?_)
  have hixnn : ix (u.1 16) = nn := by rw [hnn]; exact nI_clamp (by omega)
  refine z_aload_n 0 dX0_deliveredTo_0 rfl ?_
  refine z_iload_n 1 dX0_deliveredTo_1 rfl ?_
  have e_2_0 : (e_X0_requireNotice u p1) = 0 := Decidable.byContradiction (fun hq => by rw [e_X0_deliveredTo, if_neg hq] at he; exact hq he)
  refine z_callVv (As := [.int p1]) (st := []) (fun l => c_X0_requireNotice l D cI cZ h a u p1 (by assumption)) zGok_TT (fun _ _ _ => trivial) (fun s args hts => cwV 1 hts gX0_deliveredTo_X0_requireNotice rfl rfl rfl (by decide +kernel) ⟨Nat.le_of_ble_eq_true rfl, Nat.le_of_ble_eq_true rfl⟩) (ci := 0) rfl rfl rfl rfl (Nat.le_of_ble_eq_true rfl) ⟨Nat.le_of_ble_eq_true rfl, Nat.le_of_ble_eq_true rfl⟩ dX0_deliveredTo_2 rfl (fun u2 hp => ?_)
  clear hp
  refine z_aload_n 0 dX0_deliveredTo_5 rfl ?_
  refine z_get (C := RX0) (T := TX0) (N := 19) (v := .ref (a 14)) inwX0_deliveredTo 0 rfl rfl 14 (by decide) (List.mem_of_getElem? (i := 1) rfl) rfl rfl dX0_deliveredTo_6 ?_
  refine z_iload_n 1 dX0_deliveredTo_9 rfl ?_
  refine z_iald (v := (u.2 14 (ix p1))) 11 0 rfl rfl (by first | assumption | exact hnn | exact znot hnn hn (by assumption) | decide) rfl dX0_deliveredTo_10 ?_
  exact hret _ () _ _ _ dX0_deliveredTo_11 (by rw [r_X0_deliveredTo]) rfl
set_option maxHeartbeats 4000000 in
set_option maxRecDepth 100000 in
theorem t_X0_deliveredTo (l : Launch) (hlt : l.stackTraces = false) (D : va_G) (cI cZ : ClassId) (h : Nat) (a : Nat → Nat) (u : SX) (p1 : Int32) (he : e_X0_deliveredTo u p1 ≠ 0) (nn : Nat) (hnn : u.1 16 = nI nn) (hn : nn ≤ 120) : zMx l yX0_deliveredTo wsX0_deliveredTo ({ frames := 7, cells := 1, slots := 6, locals := 103 } : Room) D [(cI, .int), (cZ, .boolean)] (wX0 cI cZ h a u) [.ref h, .int p1] (fun E' => E' = zEx (e_X0_deliveredTo u p1)) := by
  refine z_startX (cc := cX0_deliveredTo) (n := 2) (own := RX0) (L0 := [(0, .ref h), (1, .int p1)]) hlt (by decide) rfl rfl (Nat.le_of_ble_eq_true rfl) rfl ⟨Nat.le_of_ble_eq_true rfl, Nat.le_of_ble_eq_true rfl⟩ (fun E hlt hthr hthrow => ?_)
  refine z_aload_n 0 dX0_deliveredTo_0 rfl ?_
  refine z_iload_n 1 dX0_deliveredTo_1 rfl ?_
  by_cases e_2_0 : (e_X0_requireNotice u p1) = 0
  ·
    refine z_callVv (As := [.int p1]) (st := []) (fun l => c_X0_requireNotice l D cI cZ h a u p1 (by assumption)) zGok_TT (fun _ _ _ => trivial) (fun s args hts => cwV 1 hts gX0_deliveredTo_X0_requireNotice rfl rfl rfl (by decide +kernel) ⟨Nat.le_of_ble_eq_true rfl, Nat.le_of_ble_eq_true rfl⟩) (ci := 0) rfl rfl rfl rfl (Nat.le_of_ble_eq_true rfl) ⟨Nat.le_of_ble_eq_true rfl, Nat.le_of_ble_eq_true rfl⟩ dX0_deliveredTo_2 rfl (fun u2 hp => ?_)
    clear hp
    exact absurd (by rw [e_X0_deliveredTo, if_pos e_2_0]) he
  ·
    refine z_callVx (As := [.int p1]) (st := []) hlt (fun l hl => t_X0_requireNotice l hl D cI cZ h a u p1 (by assumption)) (fun s args hts => cwV 1 hts gX0_deliveredTo_X0_requireNotice rfl rfl rfl (by decide +kernel) ⟨Nat.le_of_ble_eq_true rfl, Nat.le_of_ble_eq_true rfl⟩) (ci := 0) rfl rfl rfl rfl (Nat.le_of_ble_eq_true rfl) ⟨Nat.le_of_ble_eq_true rfl, Nat.le_of_ble_eq_true rfl⟩ dX0_deliveredTo_2 rfl ?_
    exact hthr _ _ _ (fun E' hE => by rw [e_X0_deliveredTo, if_neg e_2_0]; exact hE)
set_option maxHeartbeats 4000000 in
set_option maxRecDepth 100000 in
theorem c_X0_standing (l : Launch) (D : va_G) (cI cZ : ClassId) (h : Nat) (a : Nat → Nat) (u : SX) (p1 p2 : Int32) (he : e_X0_standing u p1 p2 = 0) (hlk : ∀ i : Nat, i < 80 → (u.2 15 i) = (-1) ∨ vp_in (u.2 15 i) 120) : zMi l yX0_standing wsX0_standing ({ frames := 1, cells := 0, slots := 0, locals := 22 } : Room) zTT D [(cI, .int), (cZ, .boolean)] (wX0 cI cZ h a u) [.ref h, .int p1, .int p2] (fun (r : Int32) (_ : Unit) => r = r_X0_standing u p1 p2) (fun _ => (wX0 cI cZ h a u)) 0 0 := by
  refine z_startI (cc := cX0_standing) (n := 4) (own := RX0) (L0 := [(0, .ref h), (1, .int p1), (2, .int p2)]) (plainFor_of_name (by decide)) rfl rfl (Nat.le_of_ble_eq_true rfl) rfl (fun E hret => ?_)
  refine z_iload_n 1 dX0_standing_0 rfl ?_
  refine z_iconst (v := 0) dX0_standing_1 rfl ?_
  refine z_bipush (v := 7) dX0_standing_2 rfl ?_
  have e_4_0 : (e_X0_requireWithin p1 0 7) = 0 := Decidable.byContradiction (fun hq => by rw [e_X0_standing, if_neg hq] at he; exact hq he)
  refine z_callSv (As := [.int p1, .int 0, .int 7]) (st := []) (fun l => c_X0_requireWithin l D _ _ p1 0 7 (by assumption)) zGok_TT (fun _ _ _ => trivial) (fun s args hts => va_cwS 3 hts gX0_standing_X0_requireWithin rfl rfl rfl (by decide +kernel) ⟨Nat.le_of_ble_eq_true rfl, Nat.le_of_ble_eq_true rfl⟩) rfl (Nat.le_of_ble_eq_true rfl) ⟨Nat.le_of_ble_eq_true rfl, Nat.le_of_ble_eq_true rfl⟩ dX0_standing_4 rfl (fun u2 hp => ?_)
  clear hp
  refine z_iload_n 2 dX0_standing_7 rfl ?_
  refine z_iconst (v := 0) dX0_standing_8 rfl ?_
  refine z_bipush (v := 9) dX0_standing_9 rfl ?_
  have e_11_1 : (e_X0_requireWithin p2 0 9) = 0 := Decidable.byContradiction (fun hq => by rw [e_X0_standing, if_pos e_4_0, if_neg hq] at he; exact hq he)
  refine z_callSv (As := [.int p2, .int 0, .int 9]) (st := []) (fun l => c_X0_requireWithin l D _ _ p2 0 9 (by assumption)) zGok_TT (fun _ _ _ => trivial) (fun s args hts => va_cwS 3 hts gX0_standing_X0_requireWithin rfl rfl rfl (by decide +kernel) ⟨Nat.le_of_ble_eq_true rfl, Nat.le_of_ble_eq_true rfl⟩) rfl (Nat.le_of_ble_eq_true rfl) ⟨Nat.le_of_ble_eq_true rfl, Nat.le_of_ble_eq_true rfl⟩ dX0_standing_11 rfl (fun u2 hp => ?_)
  clear hp
  refine z_aload_n 0 dX0_standing_14 rfl ?_
  refine z_get (C := RX0) (T := TX0) (N := 19) (v := .ref (a 15)) inwX0_standing 0 rfl rfl 15 (by decide) (List.mem_of_getElem? (i := 1) rfl) rfl rfl dX0_standing_15 ?_
  refine z_iload_n 1 dX0_standing_18 rfl ?_
  refine z_iload_n 2 dX0_standing_19 rfl ?_
  refine z_callSi (As := [.int p1, .int p2]) (st := [.ref (a 15)]) (fun l => c_X0_placeOf l D _ _ p1 p2) zGok_TT (fun _ _ _ => trivial) (fun s args hts => va_cwS 2 hts gX0_standing_X0_placeOf rfl rfl rfl (by decide +kernel) ⟨Nat.le_of_ble_eq_true rfl, Nat.le_of_ble_eq_true rfl⟩) rfl (Nat.le_of_ble_eq_true rfl) ⟨Nat.le_of_ble_eq_true rfl, Nat.le_of_ble_eq_true rfl⟩ dX0_standing_20 rfl (fun r u2 hp => ?_)
  subst hp
  refine z_iald (v := (u.2 15 (ix (r_X0_placeOf p1 p2)))) 12 0 rfl rfl (by first | assumption | exact zwithin (by assumption) (by decide) (by decide) | exact zplaceW (by assumption) (by assumption) | exact (zlk hlk (zplaceW (by assumption) (by assumption))).resolve_left (by assumption) | decide) rfl dX0_standing_23 ?_
  refine z_istore_n (L' := [(3, .int (u.2 15 (ix (r_X0_placeOf p1 p2)))), (0, .ref h), (1, .int p1), (2, .int p2)]) dX0_standing_24 (by decide) rfl ?_
  refine z_iload_n 0 dX0_standing_25 rfl ?_
  refine z_iconst (v := (-1)) dX0_standing_26 rfl ?_
  refine z_icmp_eq 42 dX0_standing_27 (by decide) (fun c_27_2 => ?_) (fun c_27_2 => ?_)
  ·
    refine z_iconst (v := (-1)) dX0_standing_42 rfl ?_
    exact hret _ () _ _ _ dX0_standing_43 (by rw [r_X0_standing, if_pos c_27_2]) rfl
  ·
    refine z_aload_n 1 dX0_standing_30 rfl ?_
    refine z_iload_n 0 dX0_standing_31 rfl ?_
    refine z_callVi (As := [.int (u.2 15 (ix (r_X0_placeOf p1 p2)))]) (st := []) (fun l => c_X0_isStanding l D cI cZ h a u (u.2 15 (ix (r_X0_placeOf p1 p2))) (by first | assumption | exact zwithin (by assumption) (by decide) (by decide) | exact zplaceW (by assumption) (by assumption) | exact (zlk hlk (zplaceW (by assumption) (by assumption))).resolve_left (by assumption) | decide)) zGok_TT (fun _ _ _ => trivial) (fun s args hts => cwV 1 hts gX0_standing_X0_isStanding rfl rfl rfl (by decide +kernel) ⟨Nat.le_of_ble_eq_true rfl, Nat.le_of_ble_eq_true rfl⟩) (ci := 0) rfl rfl rfl rfl (Nat.le_of_ble_eq_true rfl) ⟨Nat.le_of_ble_eq_true rfl, Nat.le_of_ble_eq_true rfl⟩ dX0_standing_32 rfl (fun r u2 hp => ?_)
    subst hp
    refine z_if_eq 42 dX0_standing_35 (by decide) (fun c_35_3 => ?_) (fun c_35_3 => ?_)
    ·
      refine z_iconst (v := (-1)) dX0_standing_42 rfl ?_
      exact hret _ () _ _ _ dX0_standing_43 (by rw [r_X0_standing, if_neg c_27_2, if_pos c_35_3]) rfl
    ·
      refine z_iload_n 0 dX0_standing_38 rfl ?_
      refine z_goto 43 dX0_standing_39 (by decide) ?_
      exact hret _ () _ _ _ dX0_standing_43 (by rw [r_X0_standing, if_neg c_27_2, if_neg c_35_3]) rfl
set_option maxHeartbeats 4000000 in
set_option maxRecDepth 100000 in
theorem t_X0_standing (l : Launch) (hlt : l.stackTraces = false) (D : va_G) (cI cZ : ClassId) (h : Nat) (a : Nat → Nat) (u : SX) (p1 p2 : Int32) (he : e_X0_standing u p1 p2 ≠ 0) (hlk : ∀ i : Nat, i < 80 → (u.2 15 i) = (-1) ∨ vp_in (u.2 15 i) 120) : zMx l yX0_standing wsX0_standing ({ frames := 7, cells := 1, slots := 6, locals := 104 } : Room) D [(cI, .int), (cZ, .boolean)] (wX0 cI cZ h a u) [.ref h, .int p1, .int p2] (fun E' => E' = zEx (e_X0_standing u p1 p2)) := by
  refine z_startX (cc := cX0_standing) (n := 4) (own := RX0) (L0 := [(0, .ref h), (1, .int p1), (2, .int p2)]) hlt (by decide) rfl rfl (Nat.le_of_ble_eq_true rfl) rfl ⟨Nat.le_of_ble_eq_true rfl, Nat.le_of_ble_eq_true rfl⟩ (fun E hlt hthr hthrow => ?_)
  refine z_iload_n 1 dX0_standing_0 rfl ?_
  refine z_iconst (v := 0) dX0_standing_1 rfl ?_
  refine z_bipush (v := 7) dX0_standing_2 rfl ?_
  by_cases e_4_0 : (e_X0_requireWithin p1 0 7) = 0
  ·
    refine z_callSv (As := [.int p1, .int 0, .int 7]) (st := []) (fun l => c_X0_requireWithin l D _ _ p1 0 7 (by assumption)) zGok_TT (fun _ _ _ => trivial) (fun s args hts => va_cwS 3 hts gX0_standing_X0_requireWithin rfl rfl rfl (by decide +kernel) ⟨Nat.le_of_ble_eq_true rfl, Nat.le_of_ble_eq_true rfl⟩) rfl (Nat.le_of_ble_eq_true rfl) ⟨Nat.le_of_ble_eq_true rfl, Nat.le_of_ble_eq_true rfl⟩ dX0_standing_4 rfl (fun u2 hp => ?_)
    clear hp
    refine z_iload_n 2 dX0_standing_7 rfl ?_
    refine z_iconst (v := 0) dX0_standing_8 rfl ?_
    refine z_bipush (v := 9) dX0_standing_9 rfl ?_
    by_cases e_11_1 : (e_X0_requireWithin p2 0 9) = 0
    ·
      refine z_callSv (As := [.int p2, .int 0, .int 9]) (st := []) (fun l => c_X0_requireWithin l D _ _ p2 0 9 (by assumption)) zGok_TT (fun _ _ _ => trivial) (fun s args hts => va_cwS 3 hts gX0_standing_X0_requireWithin rfl rfl rfl (by decide +kernel) ⟨Nat.le_of_ble_eq_true rfl, Nat.le_of_ble_eq_true rfl⟩) rfl (Nat.le_of_ble_eq_true rfl) ⟨Nat.le_of_ble_eq_true rfl, Nat.le_of_ble_eq_true rfl⟩ dX0_standing_11 rfl (fun u2 hp => ?_)
      clear hp
      exact absurd (by rw [e_X0_standing, if_pos e_4_0, if_pos e_11_1]) he
    ·
      refine z_callSx (As := [.int p2, .int 0, .int 9]) (st := []) hlt (fun l hl => t_X0_requireWithin l hl D _ _ p2 0 9 (by assumption)) (fun s args hts => va_cwS 3 hts gX0_standing_X0_requireWithin rfl rfl rfl (by decide +kernel) ⟨Nat.le_of_ble_eq_true rfl, Nat.le_of_ble_eq_true rfl⟩) rfl (Nat.le_of_ble_eq_true rfl) ⟨Nat.le_of_ble_eq_true rfl, Nat.le_of_ble_eq_true rfl⟩ dX0_standing_11 rfl ?_
      exact hthr _ _ _ (fun E' hE => by rw [e_X0_standing, if_pos e_4_0, if_neg e_11_1]; exact hE)
  ·
    refine z_callSx (As := [.int p1, .int 0, .int 7]) (st := []) hlt (fun l hl => t_X0_requireWithin l hl D _ _ p1 0 7 (by assumption)) (fun s args hts => va_cwS 3 hts gX0_standing_X0_requireWithin rfl rfl rfl (by decide +kernel) ⟨Nat.le_of_ble_eq_true rfl, Nat.le_of_ble_eq_true rfl⟩) rfl (Nat.le_of_ble_eq_true rfl) ⟨Nat.le_of_ble_eq_true rfl, Nat.le_of_ble_eq_true rfl⟩ dX0_standing_4 rfl ?_
    exact hthr _ _ _ (fun E' hE => by rw [e_X0_standing, if_neg e_4_0]; exact hE)
set_option maxHeartbeats 4000000 in
set_option maxRecDepth 100000 in
theorem c_X0_badge (l : Launch) (D : va_G) (cI cZ : ClassId) (h : Nat) (a : Nat → Nat) (u : SX) (p1 : Int32) (he : e_X0_badge u p1 = 0) (nd : Nat) (hnd : u.1 10 = nI nd) (hd : nd ≤ 16) (nn : Nat) (hnn : u.1 16 = nI nn) (hn : nn ≤ 120) : zMi l yX0_badge wsX0_badge ({ frames := 2, cells := 0, slots := 0, locals := 41 } : Room) zTT D [(cI, .int), (cZ, .boolean)] (wX0 cI cZ h a u) [.ref h, .int p1] (fun (r : Int32) (_ : Unit) => r = r_X0_badge u p1) (fun _ => (wX0 cI cZ h a u)) 0 0 := by
  refine z_startI (cc := cX0_badge) (n := 4) (own := RX0) (L0 := [(0, .ref h), (1, .int p1)]) (plainFor_of_name (by decide)) rfl rfl (Nat.le_of_ble_eq_true rfl) rfl (fun E hret => ?_)
  have hixnn : ix (u.1 16) = nn := by rw [hnn]; exact nI_clamp (by omega)
  have hixnd : ix (u.1 10) = nd := by rw [hnd]; exact nI_clamp (by omega)
  refine z_aload_n 0 dX0_badge_0 rfl ?_
  refine z_iload_n 1 dX0_badge_1 rfl ?_
  have e_2_0 : (e_X0_requireDevice u p1) = 0 := Decidable.byContradiction (fun hq => by rw [e_X0_badge, if_neg hq] at he; exact hq he)
  refine z_callVv (As := [.int p1]) (st := []) (fun l => c_X0_requireDevice l D cI cZ h a u p1 (by assumption)) zGok_TT (fun _ _ _ => trivial) (fun s args hts => cwV 1 hts gX0_badge_X0_requireDevice rfl rfl rfl (by decide +kernel) ⟨Nat.le_of_ble_eq_true rfl, Nat.le_of_ble_eq_true rfl⟩) (ci := 0) rfl rfl rfl rfl (Nat.le_of_ble_eq_true rfl) ⟨Nat.le_of_ble_eq_true rfl, Nat.le_of_ble_eq_true rfl⟩ dX0_badge_2 rfl (fun u2 hp => ?_)
  clear hp
  refine z_iconst (v := 0) dX0_badge_5 rfl ?_
  refine z_istore_n (L' := [(2, .int 0), (0, .ref h), (1, .int p1)]) dX0_badge_6 (by decide) rfl ?_
  refine z_iconst (v := 0) dX0_badge_7 rfl ?_
  refine z_istore_n (L' := [(3, .int 0), (2, .int 0), (0, .ref h), (1, .int p1)]) dX0_badge_8 (by decide) rfl ?_
  refine z_sub (L' := [(0, .ref h), (1, .int p1), (2, .int 0), (3, .int 0)]) [2, 3, 1, 0] rfl ?_
  have hloop9 : ∀ r k9 : Nat, k9 + r = nn → ZW E zTT ({ frames := 2, cells := 0, slots := 0, locals := 41 } : Room) cX0_badge RX0 wsX0_badge 4 D [(cI, .int), (cZ, .boolean)] 0 0 (wX0 cI cZ h a u) 9 [(0, .ref h), (1, .int p1), (2, .int (l_X0_badge_9 u p1 k9)), (3, .int (nI k9))] [] := by
    intro r
    induction r with
    | zero =>
      intro k9 hk9
      have hkN9 : nn = k9 := by omega
      subst hkN9
      refine z_iload_n 3 dX0_badge_9 rfl ?_
      refine z_aload_n 0 dX0_badge_10 rfl ?_
      refine z_get (C := RX0) (T := TX0) (N := 19) (v := .int (u.1 16)) inwX0_badge 0 rfl rfl 16 (by decide) (List.mem_of_getElem? (i := 1) rfl) rfl rfl dX0_badge_11 ?_
      refine z_icmp_ge 47 dX0_badge_14 (by decide) (fun c_14_2 => ?_) (fun c_14_2 => ?_)
      ·
        refine z_iload_n 2 dX0_badge_47 rfl ?_
        exact hret _ () _ _ _ dX0_badge_48 (by rw [r_X0_badge, hixnn]) rfl
      · exact absurd (by rw [hnn]; exact nI_le (Nat.le_refl _) (by omega)) c_14_2
    | succ r ih9 =>
      intro k9 hk9
      obtain ⟨x9, hx9⟩ : ∃ x, x = l_X0_badge_9 u p1 k9 := ⟨_, rfl⟩
      rw [← hx9]
      refine z_iload_n 3 dX0_badge_9 rfl ?_
      refine z_aload_n 0 dX0_badge_10 rfl ?_
      refine z_get (C := RX0) (T := TX0) (N := 19) (v := .int (u.1 16)) inwX0_badge 0 rfl rfl 16 (by decide) (List.mem_of_getElem? (i := 1) rfl) rfl rfl dX0_badge_11 ?_
      refine z_icmp_ge 47 dX0_badge_14 (by decide) (fun c_14_1 => ?_) (fun c_14_1 => ?_)
      · exact absurd c_14_1 (by rw [hnn]; exact nI_ge (by omega) (by omega))
      ·
        refine z_aload_n 0 dX0_badge_17 rfl ?_
        refine z_get (C := RX0) (T := TX0) (N := 19) (v := .ref (a 14)) inwX0_badge 0 rfl rfl 14 (by decide) (List.mem_of_getElem? (i := 2) rfl) rfl rfl dX0_badge_18 ?_
        refine z_iload_n 3 dX0_badge_21 rfl ?_
        refine z_iald (v := (u.2 14 (ix (nI k9)))) 11 0 rfl rfl (vp_in_nI (by omega) (by omega)) rfl dX0_badge_22 ?_
        refine z_iload_n 1 dX0_badge_23 rfl ?_
        refine z_callSi (As := [.int (u.2 14 (ix (nI k9))), .int p1]) (st := []) (fun l => c_X0_has l D _ _ (u.2 14 (ix (nI k9))) p1) zGok_TT (fun _ _ _ => trivial) (fun s args hts => va_cwS 2 hts gX0_badge_X0_has rfl rfl rfl (by decide +kernel) ⟨Nat.le_of_ble_eq_true rfl, Nat.le_of_ble_eq_true rfl⟩) rfl (Nat.le_of_ble_eq_true rfl) ⟨Nat.le_of_ble_eq_true rfl, Nat.le_of_ble_eq_true rfl⟩ dX0_badge_24 rfl (fun r u2 hp => ?_)
        subst hp
        refine z_if_eq 41 dX0_badge_27 (by decide) (fun c_27_3 => ?_) (fun c_27_3 => ?_)
        ·
          refine z_iinc (v := (nI (k9 + 1))) (L' := [(3, .int (nI (k9 + 1))), (0, .ref h), (1, .int p1), (2, .int x9)]) 3 dX0_badge_41 rfl (nI_1 k9) (by decide) rfl ?_
          refine z_goto 9 dX0_badge_44 (by decide) ?_
          have hb9 : l_X0_badge_9 u p1 (k9 + 1) = x9 := by
            show b_X0_badge_9 u p1 k9 (l_X0_badge_9 u p1 k9) = _
            rw [← hx9, b_X0_badge_9, if_pos c_27_3]
          refine z_sub (L' := [(0, .ref h), (1, .int p1), (2, .int x9), (3, .int (nI (k9 + 1)))]) [1, 2, 3, 0] rfl ?_
          have ih2 := ih9 (k9 + 1) (by omega)
          rw [hb9] at ih2
          exact ih2
        ·
          refine z_aload_n 0 dX0_badge_30 rfl ?_
          refine z_iload_n 3 dX0_badge_31 rfl ?_
          refine z_callVi (As := [.int (nI k9)]) (st := []) (fun l => c_X0_isStanding l D cI cZ h a u (nI k9) (by first | assumption | exact vp_in_nI (by omega) (by omega) | exact hnd | exact zdev hnd hd (by assumption) | exact hnn | exact znot hnn hn (by assumption) | decide)) zGok_TT (fun _ _ _ => trivial) (fun s args hts => cwV 1 hts gX0_badge_X0_isStanding rfl rfl rfl (by decide +kernel) ⟨Nat.le_of_ble_eq_true rfl, Nat.le_of_ble_eq_true rfl⟩) (ci := 0) rfl rfl rfl rfl (Nat.le_of_ble_eq_true rfl) ⟨Nat.le_of_ble_eq_true rfl, Nat.le_of_ble_eq_true rfl⟩ dX0_badge_32 rfl (fun r u2 hp => ?_)
          subst hp
          refine z_if_eq 41 dX0_badge_35 (by decide) (fun c_35_4 => ?_) (fun c_35_4 => ?_)
          ·
            refine z_iinc (v := (nI (k9 + 1))) (L' := [(3, .int (nI (k9 + 1))), (0, .ref h), (1, .int p1), (2, .int x9)]) 3 dX0_badge_41 rfl (nI_1 k9) (by decide) rfl ?_
            refine z_goto 9 dX0_badge_44 (by decide) ?_
            have hb9 : l_X0_badge_9 u p1 (k9 + 1) = x9 := by
              show b_X0_badge_9 u p1 k9 (l_X0_badge_9 u p1 k9) = _
              rw [← hx9, b_X0_badge_9, if_neg c_27_3, if_pos c_35_4]
            refine z_sub (L' := [(0, .ref h), (1, .int p1), (2, .int x9), (3, .int (nI (k9 + 1)))]) [1, 2, 3, 0] rfl ?_
            have ih2 := ih9 (k9 + 1) (by omega)
            rw [hb9] at ih2
            exact ih2
          ·
            refine z_iinc (v := (x9 + 1)) (L' := [(2, .int (x9 + 1)), (0, .ref h), (1, .int p1), (3, .int (nI k9))]) 2 dX0_badge_38 rfl rfl (by decide) rfl ?_
            refine z_iinc (v := (nI (k9 + 1))) (L' := [(3, .int (nI (k9 + 1))), (2, .int (x9 + 1)), (0, .ref h), (1, .int p1)]) 3 dX0_badge_41 rfl (nI_1 k9) (by decide) rfl ?_
            refine z_goto 9 dX0_badge_44 (by decide) ?_
            have hb9 : l_X0_badge_9 u p1 (k9 + 1) = (x9 + 1) := by
              show b_X0_badge_9 u p1 k9 (l_X0_badge_9 u p1 k9) = _
              rw [← hx9, b_X0_badge_9, if_neg c_27_3, if_neg c_35_4]
            refine z_sub (L' := [(0, .ref h), (1, .int p1), (2, .int (x9 + 1)), (3, .int (nI (k9 + 1)))]) [2, 3, 1, 0] rfl ?_
            have ih2 := ih9 (k9 + 1) (by omega)
            rw [hb9] at ih2
            exact ih2
  exact hloop9 nn 0 (by omega)
set_option maxHeartbeats 4000000 in
set_option maxRecDepth 100000 in
theorem t_X0_badge (l : Launch) (hlt : l.stackTraces = false) (D : va_G) (cI cZ : ClassId) (h : Nat) (a : Nat → Nat) (u : SX) (p1 : Int32) (he : e_X0_badge u p1 ≠ 0) (nd : Nat) (hnd : u.1 10 = nI nd) (hd : nd ≤ 16) (nn : Nat) (hnn : u.1 16 = nI nn) (hn : nn ≤ 120) : zMx l yX0_badge wsX0_badge ({ frames := 7, cells := 1, slots := 6, locals := 103 } : Room) D [(cI, .int), (cZ, .boolean)] (wX0 cI cZ h a u) [.ref h, .int p1] (fun E' => E' = zEx (e_X0_badge u p1)) := by
  refine z_startX (cc := cX0_badge) (n := 4) (own := RX0) (L0 := [(0, .ref h), (1, .int p1)]) hlt (by decide) rfl rfl (Nat.le_of_ble_eq_true rfl) rfl ⟨Nat.le_of_ble_eq_true rfl, Nat.le_of_ble_eq_true rfl⟩ (fun E hlt hthr hthrow => ?_)
  refine z_aload_n 0 dX0_badge_0 rfl ?_
  refine z_iload_n 1 dX0_badge_1 rfl ?_
  by_cases e_2_0 : (e_X0_requireDevice u p1) = 0
  ·
    refine z_callVv (As := [.int p1]) (st := []) (fun l => c_X0_requireDevice l D cI cZ h a u p1 (by assumption)) zGok_TT (fun _ _ _ => trivial) (fun s args hts => cwV 1 hts gX0_badge_X0_requireDevice rfl rfl rfl (by decide +kernel) ⟨Nat.le_of_ble_eq_true rfl, Nat.le_of_ble_eq_true rfl⟩) (ci := 0) rfl rfl rfl rfl (Nat.le_of_ble_eq_true rfl) ⟨Nat.le_of_ble_eq_true rfl, Nat.le_of_ble_eq_true rfl⟩ dX0_badge_2 rfl (fun u2 hp => ?_)
    clear hp
    exact absurd (by rw [e_X0_badge, if_pos e_2_0]) he
  ·
    refine z_callVx (As := [.int p1]) (st := []) hlt (fun l hl => t_X0_requireDevice l hl D cI cZ h a u p1 (by assumption)) (fun s args hts => cwV 1 hts gX0_badge_X0_requireDevice rfl rfl rfl (by decide +kernel) ⟨Nat.le_of_ble_eq_true rfl, Nat.le_of_ble_eq_true rfl⟩) (ci := 0) rfl rfl rfl rfl (Nat.le_of_ble_eq_true rfl) ⟨Nat.le_of_ble_eq_true rfl, Nat.le_of_ble_eq_true rfl⟩ dX0_badge_2 rfl ?_
    exact hthr _ _ _ (fun E' hE => by rw [e_X0_badge, if_neg e_2_0]; exact hE)
set_option maxHeartbeats 4000000 in
set_option maxRecDepth 100000 in
theorem c_X0_waiting (l : Launch) (D : va_G) (cI cZ : ClassId) (h : Nat) (a : Nat → Nat) (u : SX) (p1 : Int32) (he : e_X0_waiting u p1 = 0) (nd : Nat) (hnd : u.1 10 = nI nd) (hd : nd ≤ 16) (nn : Nat) (hnn : u.1 16 = nI nn) (hn : nn ≤ 120) : zMi l yX0_waiting wsX0_waiting ({ frames := 3, cells := 0, slots := 0, locals := 65 } : Room) zTT D [(cI, .int), (cZ, .boolean)] (wX0 cI cZ h a u) [.ref h, .int p1] (fun (r : Int32) (_ : Unit) => r = r_X0_waiting u p1) (fun _ => (wX0 cI cZ h a u)) 0 0 := by
  refine z_startI (cc := cX0_waiting) (n := 2) (own := RX0) (L0 := [(0, .ref h), (1, .int p1)]) (plainFor_of_name (by decide)) rfl rfl (Nat.le_of_ble_eq_true rfl) rfl (fun E hret => ?_)
  have hixnn : ix (u.1 16) = nn := by rw [hnn]; exact nI_clamp (by omega)
  have hixnd : ix (u.1 10) = nd := by rw [hnd]; exact nI_clamp (by omega)
  refine z_aload_n 0 dX0_waiting_0 rfl ?_
  refine z_iload_n 1 dX0_waiting_1 rfl ?_
  have e_2_0 : (e_X0_requireDevice u p1) = 0 := Decidable.byContradiction (fun hq => by rw [e_X0_waiting, if_neg hq] at he; exact hq he)
  refine z_callVv (As := [.int p1]) (st := []) (fun l => c_X0_requireDevice l D cI cZ h a u p1 (by assumption)) zGok_TT (fun _ _ _ => trivial) (fun s args hts => cwV 1 hts gX0_waiting_X0_requireDevice rfl rfl rfl (by decide +kernel) ⟨Nat.le_of_ble_eq_true rfl, Nat.le_of_ble_eq_true rfl⟩) (ci := 0) rfl rfl rfl rfl (Nat.le_of_ble_eq_true rfl) ⟨Nat.le_of_ble_eq_true rfl, Nat.le_of_ble_eq_true rfl⟩ dX0_waiting_2 rfl (fun u2 hp => ?_)
  clear hp
  refine z_aload_n 0 dX0_waiting_5 rfl ?_
  refine z_iload_n 1 dX0_waiting_6 rfl ?_
  refine z_callVi (As := [.int p1]) (st := []) (fun l => c_X0_countWaiting l D cI cZ h a u p1 nn (by first | assumption | exact hnd | exact zdev hnd hd (by assumption) | exact hnn | exact znot hnn hn (by assumption) | decide) (by first | assumption | exact hnd | exact zdev hnd hd (by assumption) | exact hnn | exact znot hnn hn (by assumption) | decide)) zGok_TT (fun _ _ _ => trivial) (fun s args hts => cwV 1 hts gX0_waiting_X0_countWaiting rfl rfl rfl (by decide +kernel) ⟨Nat.le_of_ble_eq_true rfl, Nat.le_of_ble_eq_true rfl⟩) (ci := 0) rfl rfl rfl rfl (Nat.le_of_ble_eq_true rfl) ⟨Nat.le_of_ble_eq_true rfl, Nat.le_of_ble_eq_true rfl⟩ dX0_waiting_7 rfl (fun r u2 hp => ?_)
  subst hp
  exact hret _ () _ _ _ dX0_waiting_10 (by rw [r_X0_waiting]) rfl
set_option maxHeartbeats 4000000 in
set_option maxRecDepth 100000 in
theorem t_X0_waiting (l : Launch) (hlt : l.stackTraces = false) (D : va_G) (cI cZ : ClassId) (h : Nat) (a : Nat → Nat) (u : SX) (p1 : Int32) (he : e_X0_waiting u p1 ≠ 0) (nd : Nat) (hnd : u.1 10 = nI nd) (hd : nd ≤ 16) (nn : Nat) (hnn : u.1 16 = nI nn) (hn : nn ≤ 120) : zMx l yX0_waiting wsX0_waiting ({ frames := 7, cells := 1, slots := 6, locals := 103 } : Room) D [(cI, .int), (cZ, .boolean)] (wX0 cI cZ h a u) [.ref h, .int p1] (fun E' => E' = zEx (e_X0_waiting u p1)) := by
  refine z_startX (cc := cX0_waiting) (n := 2) (own := RX0) (L0 := [(0, .ref h), (1, .int p1)]) hlt (by decide) rfl rfl (Nat.le_of_ble_eq_true rfl) rfl ⟨Nat.le_of_ble_eq_true rfl, Nat.le_of_ble_eq_true rfl⟩ (fun E hlt hthr hthrow => ?_)
  refine z_aload_n 0 dX0_waiting_0 rfl ?_
  refine z_iload_n 1 dX0_waiting_1 rfl ?_
  by_cases e_2_0 : (e_X0_requireDevice u p1) = 0
  ·
    refine z_callVv (As := [.int p1]) (st := []) (fun l => c_X0_requireDevice l D cI cZ h a u p1 (by assumption)) zGok_TT (fun _ _ _ => trivial) (fun s args hts => cwV 1 hts gX0_waiting_X0_requireDevice rfl rfl rfl (by decide +kernel) ⟨Nat.le_of_ble_eq_true rfl, Nat.le_of_ble_eq_true rfl⟩) (ci := 0) rfl rfl rfl rfl (Nat.le_of_ble_eq_true rfl) ⟨Nat.le_of_ble_eq_true rfl, Nat.le_of_ble_eq_true rfl⟩ dX0_waiting_2 rfl (fun u2 hp => ?_)
    clear hp
    exact absurd (by rw [e_X0_waiting, if_pos e_2_0]) he
  ·
    refine z_callVx (As := [.int p1]) (st := []) hlt (fun l hl => t_X0_requireDevice l hl D cI cZ h a u p1 (by assumption)) (fun s args hts => cwV 1 hts gX0_waiting_X0_requireDevice rfl rfl rfl (by decide +kernel) ⟨Nat.le_of_ble_eq_true rfl, Nat.le_of_ble_eq_true rfl⟩) (ci := 0) rfl rfl rfl rfl (Nat.le_of_ble_eq_true rfl) ⟨Nat.le_of_ble_eq_true rfl, Nat.le_of_ble_eq_true rfl⟩ dX0_waiting_2 rfl ?_
    exact hthr _ _ _ (fun E' hE => by rw [e_X0_waiting, if_neg e_2_0]; exact hE)
set_option maxHeartbeats 4000000 in
set_option maxRecDepth 100000 in
theorem c_X0_quota (l : Launch) (D : va_G) (cI cZ : ClassId) (h : Nat) (a : Nat → Nat) (u : SX) (p1 : Int32) (he : e_X0_quota u p1 = 0) (nd : Nat) (hnd : u.1 10 = nI nd) (hd : nd ≤ 16) : zMi l yX0_quota wsX0_quota ({ frames := 1, cells := 0, slots := 0, locals := 21 } : Room) zTT D [(cI, .int), (cZ, .boolean)] (wX0 cI cZ h a u) [.ref h, .int p1] (fun (r : Int32) (_ : Unit) => r = r_X0_quota u p1) (fun _ => (wX0 cI cZ h a u)) 0 0 := by
  refine z_startI (cc := cX0_quota) (n := 2) (own := RX0) (L0 := [(0, .ref h), (1, .int p1)]) (plainFor_of_name (by decide)) rfl rfl (Nat.le_of_ble_eq_true rfl) rfl (fun E hret => ?_)
  have hixnd : ix (u.1 10) = nd := by rw [hnd]; exact nI_clamp (by omega)
  refine z_aload_n 0 dX0_quota_0 rfl ?_
  refine z_iload_n 1 dX0_quota_1 rfl ?_
  have e_2_0 : (e_X0_requireDevice u p1) = 0 := Decidable.byContradiction (fun hq => by rw [e_X0_quota, if_neg hq] at he; exact hq he)
  refine z_callVv (As := [.int p1]) (st := []) (fun l => c_X0_requireDevice l D cI cZ h a u p1 (by assumption)) zGok_TT (fun _ _ _ => trivial) (fun s args hts => cwV 1 hts gX0_quota_X0_requireDevice rfl rfl rfl (by decide +kernel) ⟨Nat.le_of_ble_eq_true rfl, Nat.le_of_ble_eq_true rfl⟩) (ci := 0) rfl rfl rfl rfl (Nat.le_of_ble_eq_true rfl) ⟨Nat.le_of_ble_eq_true rfl, Nat.le_of_ble_eq_true rfl⟩ dX0_quota_2 rfl (fun u2 hp => ?_)
  clear hp
  refine z_iconst (v := 3) dX0_quota_5 rfl ?_
  refine z_aload_n 0 dX0_quota_6 rfl ?_
  refine z_iload_n 1 dX0_quota_7 rfl ?_
  refine z_callVi (As := [.int p1]) (st := [.int 3]) (fun l => c_X0_spentToday l D cI cZ h a u p1 (by first | assumption | exact hnd | exact zdev hnd hd (by assumption) | decide)) zGok_TT (fun _ _ _ => trivial) (fun s args hts => cwV 1 hts gX0_quota_X0_spentToday rfl rfl rfl (by decide +kernel) ⟨Nat.le_of_ble_eq_true rfl, Nat.le_of_ble_eq_true rfl⟩) (ci := 0) rfl rfl rfl rfl (Nat.le_of_ble_eq_true rfl) ⟨Nat.le_of_ble_eq_true rfl, Nat.le_of_ble_eq_true rfl⟩ dX0_quota_8 rfl (fun r u2 hp => ?_)
  subst hp
  refine z_isub dX0_quota_11 ?_
  exact hret _ () _ _ _ dX0_quota_12 (by rw [r_X0_quota]) rfl
set_option maxHeartbeats 4000000 in
set_option maxRecDepth 100000 in
theorem t_X0_quota (l : Launch) (hlt : l.stackTraces = false) (D : va_G) (cI cZ : ClassId) (h : Nat) (a : Nat → Nat) (u : SX) (p1 : Int32) (he : e_X0_quota u p1 ≠ 0) (nd : Nat) (hnd : u.1 10 = nI nd) (hd : nd ≤ 16) : zMx l yX0_quota wsX0_quota ({ frames := 7, cells := 1, slots := 6, locals := 103 } : Room) D [(cI, .int), (cZ, .boolean)] (wX0 cI cZ h a u) [.ref h, .int p1] (fun E' => E' = zEx (e_X0_quota u p1)) := by
  refine z_startX (cc := cX0_quota) (n := 2) (own := RX0) (L0 := [(0, .ref h), (1, .int p1)]) hlt (by decide) rfl rfl (Nat.le_of_ble_eq_true rfl) rfl ⟨Nat.le_of_ble_eq_true rfl, Nat.le_of_ble_eq_true rfl⟩ (fun E hlt hthr hthrow => ?_)
  refine z_aload_n 0 dX0_quota_0 rfl ?_
  refine z_iload_n 1 dX0_quota_1 rfl ?_
  by_cases e_2_0 : (e_X0_requireDevice u p1) = 0
  ·
    refine z_callVv (As := [.int p1]) (st := []) (fun l => c_X0_requireDevice l D cI cZ h a u p1 (by assumption)) zGok_TT (fun _ _ _ => trivial) (fun s args hts => cwV 1 hts gX0_quota_X0_requireDevice rfl rfl rfl (by decide +kernel) ⟨Nat.le_of_ble_eq_true rfl, Nat.le_of_ble_eq_true rfl⟩) (ci := 0) rfl rfl rfl rfl (Nat.le_of_ble_eq_true rfl) ⟨Nat.le_of_ble_eq_true rfl, Nat.le_of_ble_eq_true rfl⟩ dX0_quota_2 rfl (fun u2 hp => ?_)
    clear hp
    exact absurd (by rw [e_X0_quota, if_pos e_2_0]) he
  ·
    refine z_callVx (As := [.int p1]) (st := []) hlt (fun l hl => t_X0_requireDevice l hl D cI cZ h a u p1 (by assumption)) (fun s args hts => cwV 1 hts gX0_quota_X0_requireDevice rfl rfl rfl (by decide +kernel) ⟨Nat.le_of_ble_eq_true rfl, Nat.le_of_ble_eq_true rfl⟩) (ci := 0) rfl rfl rfl rfl (Nat.le_of_ble_eq_true rfl) ⟨Nat.le_of_ble_eq_true rfl, Nat.le_of_ble_eq_true rfl⟩ dX0_quota_2 rfl ?_
    exact hthr _ _ _ (fun E' hE => by rw [e_X0_quota, if_neg e_2_0]; exact hE)
set_option maxHeartbeats 4000000 in
set_option maxRecDepth 100000 in
theorem c_X0_clock (l : Launch) (D : va_G) (cI cZ : ClassId) (h : Nat) (a : Nat → Nat) (u : SX)   : zMi l yX0_clock wsX0_clock ({ frames := 0, cells := 0, slots := 0, locals := 0 } : Room) zTT D [(cI, .int), (cZ, .boolean)] (wX0 cI cZ h a u) [.ref h] (fun (r : Int32) (_ : Unit) => r = r_X0_clock u) (fun _ => (wX0 cI cZ h a u)) 0 0 := by
  refine z_startI (cc := cX0_clock) (n := 1) (own := RX0) (L0 := [(0, .ref h)]) (plainFor_of_name (by decide)) rfl rfl (Nat.le_of_ble_eq_true rfl) rfl (fun E hret => ?_)
  refine z_aload_n 0 dX0_clock_0 rfl ?_
  refine z_get (C := RX0) (T := TX0) (N := 19) (v := .int (u.1 17)) inwX0_clock 0 rfl rfl 17 (by decide) (List.mem_of_getElem? (i := 1) rfl) rfl rfl dX0_clock_1 ?_
  exact hret _ () _ _ _ dX0_clock_4 (by rw [r_X0_clock]) rfl
set_option maxHeartbeats 4000000 in
set_option maxRecDepth 100000 in
theorem c_X0_deliveries (l : Launch) (D : va_G) (cI cZ : ClassId) (h : Nat) (a : Nat → Nat) (u : SX)   : zMi l yX0_deliveries wsX0_deliveries ({ frames := 0, cells := 0, slots := 0, locals := 0 } : Room) zTT D [(cI, .int), (cZ, .boolean)] (wX0 cI cZ h a u) [.ref h] (fun (r : Int32) (_ : Unit) => r = r_X0_deliveries u) (fun _ => (wX0 cI cZ h a u)) 0 0 := by
  refine z_startI (cc := cX0_deliveries) (n := 1) (own := RX0) (L0 := [(0, .ref h)]) (plainFor_of_name (by decide)) rfl rfl (Nat.le_of_ble_eq_true rfl) rfl (fun E hret => ?_)
  refine z_aload_n 0 dX0_deliveries_0 rfl ?_
  refine z_get (C := RX0) (T := TX0) (N := 19) (v := .int (u.1 18)) inwX0_deliveries 0 rfl rfl 18 (by decide) (List.mem_of_getElem? (i := 1) rfl) rfl rfl dX0_deliveries_1 ?_
  exact hret _ () _ _ _ dX0_deliveries_4 (by rw [r_X0_deliveries]) rfl
