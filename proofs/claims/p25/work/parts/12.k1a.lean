set_option maxHeartbeats 4000000 in
set_option maxRecDepth 100000 in
theorem c_J6_bitCount_0f7a4 (l : Launch) (D : va_G) (tys : List (ClassId × FieldType)) (w0 : va_W) (p1 : Int32)  : zMi l yJ6_bitCount_0f7a4 wsJ6_bitCount_0f7a4 ({ frames := 0, cells := 0, slots := 0, locals := 0 } : Room) zTT D tys w0 [.int p1] (fun (r : Int32) (_ : Unit) => r = r_J6_bitCount_0f7a4 p1) (fun _ => w0) 0 0 := by
  refine z_startI (cc := cJ6_bitCount_0f7a4) (n := 1) (own := RJ6) (L0 := [(0, .int p1)]) (plainFor_of_name (by decide)) rfl rfl (Nat.le_of_ble_eq_true rfl) rfl (fun E hret => ?_)
  refine z_iload_n 0 dJ6_bitCount_0f7a4_0 rfl ?_
  refine z_iload_n 0 dJ6_bitCount_0f7a4_1 rfl ?_
  refine z_iconst (v := 1) dJ6_bitCount_0f7a4_2 rfl ?_
  refine z_iushr (v := (ushr p1 1)) dJ6_bitCount_0f7a4_3 rfl ?_
  refine z_ldcw (v := 1431655765) (List.mem_of_getElem? (i := 1) rfl) dJ6_bitCount_0f7a4_4 ?_
  refine z_iand dJ6_bitCount_0f7a4_7 ?_
  refine z_isub dJ6_bitCount_0f7a4_8 ?_
  refine z_istore_n (L' := [(0, .int (bc1 p1))]) dJ6_bitCount_0f7a4_9 (by decide) rfl ?_
  refine z_iload_n 0 dJ6_bitCount_0f7a4_10 rfl ?_
  refine z_ldcw (v := 858993459) (List.mem_of_getElem? (i := 2) rfl) dJ6_bitCount_0f7a4_11 ?_
  refine z_iand dJ6_bitCount_0f7a4_14 ?_
  refine z_iload_n 0 dJ6_bitCount_0f7a4_15 rfl ?_
  refine z_iconst (v := 2) dJ6_bitCount_0f7a4_16 rfl ?_
  refine z_iushr (v := (ushr (bc1 p1) 2)) dJ6_bitCount_0f7a4_17 rfl ?_
  refine z_ldcw (v := 858993459) (List.mem_of_getElem? (i := 2) rfl) dJ6_bitCount_0f7a4_18 ?_
  refine z_iand dJ6_bitCount_0f7a4_21 ?_
  refine z_iadd dJ6_bitCount_0f7a4_22 ?_
  refine z_istore_n (L' := [(0, .int (bc2 (bc1 p1)))]) dJ6_bitCount_0f7a4_23 (by decide) rfl ?_
  refine z_iload_n 0 dJ6_bitCount_0f7a4_24 rfl ?_
  refine z_iload_n 0 dJ6_bitCount_0f7a4_25 rfl ?_
  refine z_iconst (v := 4) dJ6_bitCount_0f7a4_26 rfl ?_
  refine z_iushr (v := (ushr (bc2 (bc1 p1)) 4)) dJ6_bitCount_0f7a4_27 rfl ?_
  refine z_iadd dJ6_bitCount_0f7a4_28 ?_
  refine z_ldcw (v := 252645135) (List.mem_of_getElem? (i := 3) rfl) dJ6_bitCount_0f7a4_29 ?_
  refine z_iand dJ6_bitCount_0f7a4_32 ?_
  refine z_istore_n (L' := [(0, .int (bc3 (bc2 (bc1 p1))))]) dJ6_bitCount_0f7a4_33 (by decide) rfl ?_
  refine z_iload_n 0 dJ6_bitCount_0f7a4_34 rfl ?_
  refine z_iload_n 0 dJ6_bitCount_0f7a4_35 rfl ?_
  refine z_bipush (v := 8) dJ6_bitCount_0f7a4_36 rfl ?_
  refine z_iushr (v := (ushr (bc3 (bc2 (bc1 p1))) 8)) dJ6_bitCount_0f7a4_38 rfl ?_
  refine z_iadd dJ6_bitCount_0f7a4_39 ?_
  refine z_istore_n (L' := [(0, .int (bc4 (bc3 (bc2 (bc1 p1)))))]) dJ6_bitCount_0f7a4_40 (by decide) rfl ?_
  refine z_iload_n 0 dJ6_bitCount_0f7a4_41 rfl ?_
  refine z_iload_n 0 dJ6_bitCount_0f7a4_42 rfl ?_
  refine z_bipush (v := 16) dJ6_bitCount_0f7a4_43 rfl ?_
  refine z_iushr (v := (ushr (bc4 (bc3 (bc2 (bc1 p1)))) 16)) dJ6_bitCount_0f7a4_45 rfl ?_
  refine z_iadd dJ6_bitCount_0f7a4_46 ?_
  refine z_istore_n (L' := [(0, .int (bc5 (bc4 (bc3 (bc2 (bc1 p1))))))]) dJ6_bitCount_0f7a4_47 (by decide) rfl ?_
  refine z_iload_n 0 dJ6_bitCount_0f7a4_48 rfl ?_
  refine z_bipush (v := 63) dJ6_bitCount_0f7a4_49 rfl ?_
  refine z_iand dJ6_bitCount_0f7a4_51 ?_
  exact hret _ () _ _ _ dJ6_bitCount_0f7a4_52 (by rw [r_J6_bitCount_0f7a4]) rfl
set_option maxHeartbeats 4000000 in
set_option maxRecDepth 100000 in
theorem c_X0_deliver (l : Launch) (D : va_G) (cI cZ : ClassId) (h : Nat) (a : Nat → Nat) (u : SX) (p1 p2 : Int32) (hp1 : vp_in p1 120) (nd : Nat) (hnd : u.1 10 = nI nd) (hd : nd ≤ 16) : zMv l yX0_deliver wsX0_deliver ({ frames := 3, cells := 0, slots := 0, locals := 63 } : Room) zTT D [(cI, .int), (cZ, .boolean)] (wX0 cI cZ h a u) [.ref h, .int p1, .int p2] (fun u2 : SX => u2 = s_X0_deliver u p1 p2) (fun u2 => (wX0 cI cZ h a u2)) 0 0 := by
  refine z_startV (cc := cX0_deliver) (n := 3) (own := RX0) (L0 := [(0, .ref h), (1, .int p1), (2, .int p2)]) (plainFor_of_name (by decide)) rfl rfl (Nat.le_of_ble_eq_true rfl) rfl (fun E hret => ?_)
  have hixnd : ix (u.1 10) = nd := by rw [hnd]; exact nI_clamp (by omega)
  refine z_aload_n 0 dX0_deliver_0 rfl ?_
  refine z_get (C := RX0) (T := TX0) (N := 19) (v := .ref (a 13)) inwX0_deliver 0 rfl rfl 13 (by decide) (List.mem_of_getElem? (i := 1) rfl) rfl rfl dX0_deliver_1 ?_
  refine z_iload_n 1 dX0_deliver_4 rfl ?_
  refine z_dup2 dX0_deliver_5 rfl rfl ?_
  refine z_iald (v := (u.2 13 (ix p1))) 10 0 rfl rfl (by first | (with_reducible assumption) | with_reducible exact zdev hnd hd (by assumption) | exact hnd | assumption | decide) rfl dX0_deliver_6 ?_
  refine z_iload_n 2 dX0_deliver_7 rfl ?_
  refine z_iconst (v := (-1)) dX0_deliver_8 rfl ?_
  refine z_ixor dX0_deliver_9 ?_
  refine z_iand dX0_deliver_10 ?_
  refine z_iast (w' := (wX0 cI cZ h a (pG u 13 (ix p1) ((u.2 13 (ix p1)) &&& (p2 ^^^ (-1)))))) 10 0 rfl rfl (by first | (with_reducible assumption) | with_reducible exact zdev hnd hd (by assumption) | exact hnd | assumption | decide) (wX0_g13 _ _ _ _ _ _ _) dX0_deliver_11 ?_
  refine z_aload_n 0 dX0_deliver_12 rfl ?_
  refine z_get (C := RX0) (T := TX0) (N := 19) (v := .ref (a 14)) inwX0_deliver 0 rfl rfl 14 (by decide) (List.mem_of_getElem? (i := 2) rfl) rfl rfl dX0_deliver_13 ?_
  refine z_iload_n 1 dX0_deliver_16 rfl ?_
  refine z_dup2 dX0_deliver_17 rfl rfl ?_
  refine z_iald (v := (u.2 14 (ix p1))) 11 0 rfl rfl (by first | (with_reducible assumption) | with_reducible exact zdev hnd hd (by assumption) | exact hnd | assumption | decide) rfl dX0_deliver_18 ?_
  refine z_iload_n 2 dX0_deliver_19 rfl ?_
  refine z_ior dX0_deliver_20 ?_
  refine z_iast (w' := (wX0 cI cZ h a (pG (pG u 13 (ix p1) ((u.2 13 (ix p1)) &&& (p2 ^^^ (-1)))) 14 (ix p1) ((u.2 14 (ix p1)) ||| p2)))) 11 0 rfl rfl (by first | (with_reducible assumption) | with_reducible exact zdev hnd hd (by assumption) | exact hnd | assumption | decide) (wX0_g14 _ _ _ _ _ _ _) dX0_deliver_21 ?_
  refine z_aload_n 0 dX0_deliver_22 rfl ?_
  refine z_dup dX0_deliver_23 rfl ?_
  refine z_get (C := RX0) (T := TX0) (N := 19) (v := .int (u.1 18)) inwX0_deliver 0 rfl rfl 18 (by decide) (List.mem_of_getElem? (i := 3) rfl) rfl rfl dX0_deliver_24 ?_
  refine z_iload_n 2 dX0_deliver_27 rfl ?_
  refine z_callSi (As := [.int p2]) (st := [.int (u.1 18), .ref h]) (fun l => c_J6_bitCount_0f7a4 l D _ _ p2) zGok_TT (fun _ _ _ => trivial) (fun s args hts => va_cwS 1 hts gX0_deliver_J6_bitCount_0f7a4 rfl rfl rfl (by decide +kernel) ⟨Nat.le_of_ble_eq_true rfl, Nat.le_of_ble_eq_true rfl⟩) rfl (Nat.le_of_ble_eq_true rfl) ⟨Nat.le_of_ble_eq_true rfl, Nat.le_of_ble_eq_true rfl⟩ dX0_deliver_28 rfl (fun r u2 hp => ?_)
  subst hp
  refine z_iadd dX0_deliver_31 ?_
  refine z_put (C := RX0) (T := TX0) (N := 19) (v := .int ((u.1 18) + (r_J6_bitCount_0f7a4 p2))) (w' := (wX0 cI cZ h a (pF (pG (pG u 13 (ix p1) ((u.2 13 (ix p1)) &&& (p2 ^^^ (-1)))) 14 (ix p1) ((u.2 14 (ix p1)) ||| p2)) 18 ((u.1 18) + (r_J6_bitCount_0f7a4 p2))))) inwX0_deliver 0 rfl rfl 18 (by decide) (List.mem_of_getElem? (i := 3) rfl) rfl tyX0 tyX0_ok nmX0 rfl rfl rfl (Nat.le_of_ble_eq_true rfl) (wX0_p18 _ _ _ _ _ _) dX0_deliver_32 ?_
  refine z_aload_n 0 dX0_deliver_35 rfl ?_
  refine z_get (C := RX0) (T := TX0) (N := 19) (v := .ref (a 11)) inwX0_deliver 0 rfl rfl 11 (by decide) (List.mem_of_getElem? (i := 4) rfl) rfl rfl dX0_deliver_36 ?_
  refine z_iload_n 1 dX0_deliver_39 rfl ?_
  refine z_zald (v := (u.2 11 (ix p1))) 8 1 rfl rfl (by first | (with_reducible assumption) | with_reducible exact zdev hnd hd (by assumption) | exact hnd | assumption | decide) rfl dX0_deliver_40 ?_
  refine z_if_eq 54 dX0_deliver_41 (by decide) (fun c_41_0 => ?_) (fun c_41_0 => ?_)
  ·
    exact hret (pF (pG (pG u 13 (ix p1) ((u.2 13 (ix p1)) &&& (p2 ^^^ (-1)))) 14 (ix p1) ((u.2 14 (ix p1)) ||| p2)) 18 ((u.1 18) + (r_J6_bitCount_0f7a4 p2))) _ _ _ dX0_deliver_54 (by rw [s_X0_deliver, if_pos c_41_0]) rfl
  ·
    refine z_aload_n 0 dX0_deliver_44 rfl ?_
    refine z_iload_n 2 dX0_deliver_45 rfl ?_
    refine z_aload_n 0 dX0_deliver_46 rfl ?_
    refine z_get (C := RX0) (T := TX0) (N := 19) (v := .int (u.1 4)) inwX0_deliver 0 rfl rfl 4 (by decide) (List.mem_of_getElem? (i := 5) rfl) rfl rfl dX0_deliver_47 ?_
    refine z_iand dX0_deliver_50 ?_
    refine z_callVv (As := [.int (p2 &&& (u.1 4))]) (st := []) (fun l => c_X0_spendQuota l D cI cZ h a (pF (pG (pG u 13 (ix p1) ((u.2 13 (ix p1)) &&& (p2 ^^^ (-1)))) 14 (ix p1) ((u.2 14 (ix p1)) ||| p2)) 18 ((u.1 18) + (r_J6_bitCount_0f7a4 p2))) (p2 &&& (u.1 4)) nd (by first | (with_reducible assumption) | with_reducible exact zdev hnd hd (by assumption) | exact hnd | assumption | decide) (by first | (with_reducible assumption) | with_reducible exact zdev hnd hd (by assumption) | exact hnd | assumption | decide)) zGok_TT (fun _ _ _ => trivial) (fun s args hts => cwV 1 hts gX0_deliver_X0_spendQuota rfl rfl rfl (by decide +kernel) ⟨Nat.le_of_ble_eq_true rfl, Nat.le_of_ble_eq_true rfl⟩) (ci := 0) rfl rfl rfl rfl (Nat.le_of_ble_eq_true rfl) ⟨Nat.le_of_ble_eq_true rfl, Nat.le_of_ble_eq_true rfl⟩ dX0_deliver_51 rfl (fun u2 hp => ?_)
    subst hp
    exact hret (s_X0_spendQuota (pF (pG (pG u 13 (ix p1) ((u.2 13 (ix p1)) &&& (p2 ^^^ (-1)))) 14 (ix p1) ((u.2 14 (ix p1)) ||| p2)) 18 ((u.1 18) + (r_J6_bitCount_0f7a4 p2))) (p2 &&& (u.1 4))) _ _ _ dX0_deliver_54 (by rw [s_X0_deliver, if_neg c_41_0]) rfl
set_option maxHeartbeats 4000000 in
set_option maxRecDepth 100000 in
theorem c_X0_openToNormal (l : Launch) (D : va_G) (cI cZ : ClassId) (h : Nat) (a : Nat → Nat) (u : SX)  (nd : Nat) (hnd : u.1 10 = nI nd) (hd : nd ≤ 16) : zMi l yX0_openToNormal wsX0_openToNormal ({ frames := 3, cells := 0, slots := 0, locals := 66 } : Room) zTT D [(cI, .int), (cZ, .boolean)] (wX0 cI cZ h a u) [.ref h] (fun (r : Int32) (_ : Unit) => r = r_X0_openToNormal u) (fun _ => (wX0 cI cZ h a u)) 0 0 := by
  refine z_startI (cc := cX0_openToNormal) (n := 3) (own := RX0) (L0 := [(0, .ref h)]) (plainFor_of_name (by decide)) rfl rfl (Nat.le_of_ble_eq_true rfl) rfl (fun E hret => ?_)
  have hixnd : ix (u.1 10) = nd := by rw [hnd]; exact nI_clamp (by omega)
  refine z_aload_n 0 dX0_openToNormal_0 rfl ?_
  refine z_get (C := RX0) (T := TX0) (N := 19) (v := .int (u.1 17)) inwX0_openToNormal 0 rfl rfl 17 (by decide) (List.mem_of_getElem? (i := 1) rfl) rfl rfl dX0_openToNormal_1 ?_
  refine z_bipush (v := 60) dX0_openToNormal_4 rfl ?_
  refine z_irem dX0_openToNormal_6 (by decide) ?_
  have hJ28 : ZW E zTT ({ frames := 3, cells := 0, slots := 0, locals := 66 } : Room) cX0_openToNormal RX0 wsX0_openToNormal 3 D [(cI, .int), (cZ, .boolean)] 0 0 (wX0 cI cZ h a u) 28 [(0, .ref h)] [.int (if ((u.1 17) - (u.1 17) / 60 * 60) = 0 then (u.1 3) else ((u.1 3) &&& ((u.1 4) ^^^ (-1))))] := by
    refine z_istore_n (L' := [(1, .int (if ((u.1 17) - (u.1 17) / 60 * 60) = 0 then (u.1 3) else ((u.1 3) &&& ((u.1 4) ^^^ (-1))))), (0, .ref h)]) dX0_openToNormal_28 (by decide) rfl ?_
    refine z_iconst (v := 0) dX0_openToNormal_29 rfl ?_
    refine z_istore_n (L' := [(2, .int 0), (1, .int (if ((u.1 17) - (u.1 17) / 60 * 60) = 0 then (u.1 3) else ((u.1 3) &&& ((u.1 4) ^^^ (-1))))), (0, .ref h)]) dX0_openToNormal_30 (by decide) rfl ?_
    refine z_sub (L' := [(0, .ref h), (1, .int (if ((u.1 17) - (u.1 17) / 60 * 60) = 0 then (u.1 3) else ((u.1 3) &&& ((u.1 4) ^^^ (-1))))), (2, .int 0)]) [2, 1, 0] rfl ?_
    have hloop31 : ∀ r k31 : Nat, k31 + r = nd → ZW E zTT ({ frames := 3, cells := 0, slots := 0, locals := 66 } : Room) cX0_openToNormal RX0 wsX0_openToNormal 3 D [(cI, .int), (cZ, .boolean)] 0 0 (wX0 cI cZ h a u) 31 [(0, .ref h), (1, .int (l_X0_openToNormal_31 u k31)), (2, .int (nI k31))] [] := by
      intro r
      induction r with
      | zero =>
        intro k31 hk31
        have hkN31 : nd = k31 := by omega
        subst hkN31
        refine z_iload_n 2 dX0_openToNormal_31 rfl ?_
        refine z_aload_n 0 dX0_openToNormal_32 rfl ?_
        refine z_get (C := RX0) (T := TX0) (N := 19) (v := .int (u.1 10)) inwX0_openToNormal 0 rfl rfl 10 (by decide) (List.mem_of_getElem? (i := 4) rfl) rfl rfl dX0_openToNormal_33 ?_
        refine z_icmp_ge 60 dX0_openToNormal_36 (by decide) (fun c_36_2 => ?_) (fun c_36_2 => ?_)
        ·
          refine z_iload_n 1 dX0_openToNormal_60 rfl ?_
          exact hret _ () _ _ _ dX0_openToNormal_61 (by rw [r_X0_openToNormal, hixnd]) rfl
        · exact absurd (by rw [hnd]; exact nI_le (Nat.le_refl _) (by omega)) c_36_2
      | succ r ih31 =>
        intro k31 hk31
        obtain ⟨x31, hx31⟩ : ∃ x, x = l_X0_openToNormal_31 u k31 := ⟨_, rfl⟩
        rw [← hx31]
        refine z_iload_n 2 dX0_openToNormal_31 rfl ?_
        refine z_aload_n 0 dX0_openToNormal_32 rfl ?_
        refine z_get (C := RX0) (T := TX0) (N := 19) (v := .int (u.1 10)) inwX0_openToNormal 0 rfl rfl 10 (by decide) (List.mem_of_getElem? (i := 4) rfl) rfl rfl dX0_openToNormal_33 ?_
        refine z_icmp_ge 60 dX0_openToNormal_36 (by decide) (fun c_36_1 => ?_) (fun c_36_1 => ?_)
        · exact absurd c_36_1 (by rw [hnd]; exact nI_ge (by omega) (by omega))
        ·
          refine z_aload_n 0 dX0_openToNormal_39 rfl ?_
          refine z_iload_n 2 dX0_openToNormal_40 rfl ?_
          refine z_callVi (As := [.int (nI k31)]) (st := []) (fun l => c_X0_isInQuietHours l D cI cZ h a u (nI k31) (by first | (with_reducible assumption) | with_reducible exact vp_in_nI (by omega) (by omega) | with_reducible exact zdev hnd hd (by assumption) | exact hnd | assumption | decide)) zGok_TT (fun _ _ _ => trivial) (fun s args hts => cwV 1 hts gX0_openToNormal_X0_isInQuietHours rfl rfl rfl (by decide +kernel) ⟨Nat.le_of_ble_eq_true rfl, Nat.le_of_ble_eq_true rfl⟩) (ci := 0) rfl rfl rfl rfl (Nat.le_of_ble_eq_true rfl) ⟨Nat.le_of_ble_eq_true rfl, Nat.le_of_ble_eq_true rfl⟩ dX0_openToNormal_41 rfl (fun r u2 hp => ?_)
          subst hp
          refine z_if_eq 54 dX0_openToNormal_44 (by decide) (fun c_44_3 => ?_) (fun c_44_3 => ?_)
          ·
            refine z_iinc (v := (nI (k31 + 1))) (L' := [(2, .int (nI (k31 + 1))), (0, .ref h), (1, .int x31)]) 2 dX0_openToNormal_54 rfl (nI_1 k31) (by decide) rfl ?_
            refine z_goto 31 dX0_openToNormal_57 (by decide) ?_
            have hb31 : l_X0_openToNormal_31 u (k31 + 1) = x31 := by
              show b_X0_openToNormal_31 u k31 (l_X0_openToNormal_31 u k31) = _
              rw [← hx31, b_X0_openToNormal_31, if_pos c_44_3]
            refine z_sub (L' := [(0, .ref h), (1, .int x31), (2, .int (nI (k31 + 1)))]) [1, 2, 0] rfl ?_
            have ih2 := ih31 (k31 + 1) (by omega)
            rw [hb31] at ih2
            exact ih2
          ·
            refine z_iload_n 1 dX0_openToNormal_47 rfl ?_
            refine z_iload_n 2 dX0_openToNormal_48 rfl ?_
            refine z_iconst (v := 0) dX0_openToNormal_49 rfl ?_
            refine z_callSi (As := [.int x31, .int (nI k31), .int 0]) (st := []) (fun l => c_X0_changed l D _ _ x31 (nI k31) 0) zGok_TT (fun _ _ _ => trivial) (fun s args hts => va_cwS 3 hts gX0_openToNormal_X0_changed rfl rfl rfl (by decide +kernel) ⟨Nat.le_of_ble_eq_true rfl, Nat.le_of_ble_eq_true rfl⟩) rfl (Nat.le_of_ble_eq_true rfl) ⟨Nat.le_of_ble_eq_true rfl, Nat.le_of_ble_eq_true rfl⟩ dX0_openToNormal_50 rfl (fun r u2 hp => ?_)
            subst hp
            refine z_istore_n (L' := [(1, .int (r_X0_changed x31 (nI k31) 0)), (0, .ref h), (2, .int (nI k31))]) dX0_openToNormal_53 (by decide) rfl ?_
            refine z_iinc (v := (nI (k31 + 1))) (L' := [(2, .int (nI (k31 + 1))), (1, .int (r_X0_changed x31 (nI k31) 0)), (0, .ref h)]) 2 dX0_openToNormal_54 rfl (nI_1 k31) (by decide) rfl ?_
            refine z_goto 31 dX0_openToNormal_57 (by decide) ?_
            have hb31 : l_X0_openToNormal_31 u (k31 + 1) = (r_X0_changed x31 (nI k31) 0) := by
              show b_X0_openToNormal_31 u k31 (l_X0_openToNormal_31 u k31) = _
              rw [← hx31, b_X0_openToNormal_31, if_neg c_44_3]
            refine z_sub (L' := [(0, .ref h), (1, .int (r_X0_changed x31 (nI k31) 0)), (2, .int (nI (k31 + 1)))]) [2, 1, 0] rfl ?_
            have ih2 := ih31 (k31 + 1) (by omega)
            rw [hb31] at ih2
            exact ih2
    exact hloop31 nd 0 (by omega)
  refine z_if_ne 17 dX0_openToNormal_7 (by decide) (fun c_7_0 => ?_) (fun c_7_0 => ?_)
  ·
    refine z_aload_n 0 dX0_openToNormal_17 rfl ?_
    refine z_get (C := RX0) (T := TX0) (N := 19) (v := .int (u.1 3)) inwX0_openToNormal 0 rfl rfl 3 (by decide) (List.mem_of_getElem? (i := 2) rfl) rfl rfl dX0_openToNormal_18 ?_
    refine z_aload_n 0 dX0_openToNormal_21 rfl ?_
    refine z_get (C := RX0) (T := TX0) (N := 19) (v := .int (u.1 4)) inwX0_openToNormal 0 rfl rfl 4 (by decide) (List.mem_of_getElem? (i := 3) rfl) rfl rfl dX0_openToNormal_22 ?_
    refine z_iconst (v := (-1)) dX0_openToNormal_25 rfl ?_
    refine z_ixor dX0_openToNormal_26 ?_
    refine z_iand dX0_openToNormal_27 ?_
    refine z_sub (L' := [(0, .ref h)]) [0] rfl ?_
    simp only [if_neg c_7_0] at hJ28
    exact hJ28
  ·
    refine z_aload_n 0 dX0_openToNormal_10 rfl ?_
    refine z_get (C := RX0) (T := TX0) (N := 19) (v := .int (u.1 3)) inwX0_openToNormal 0 rfl rfl 3 (by decide) (List.mem_of_getElem? (i := 2) rfl) rfl rfl dX0_openToNormal_11 ?_
    refine z_goto 28 dX0_openToNormal_14 (by decide) ?_
    refine z_sub (L' := [(0, .ref h)]) [0] rfl ?_
    simp only [if_pos c_7_0] at hJ28
    exact hJ28
set_option maxHeartbeats 4000000 in
set_option maxRecDepth 100000 in
theorem c_X0_openToHigh (l : Launch) (D : va_G) (cI cZ : ClassId) (h : Nat) (a : Nat → Nat) (u : SX)  (nd : Nat) (hnd : u.1 10 = nI nd) (hd : nd ≤ 16) : zMi l yX0_openToHigh wsX0_openToHigh ({ frames := 2, cells := 0, slots := 0, locals := 42 } : Room) zTT D [(cI, .int), (cZ, .boolean)] (wX0 cI cZ h a u) [.ref h] (fun (r : Int32) (_ : Unit) => r = r_X0_openToHigh u) (fun _ => (wX0 cI cZ h a u)) 0 0 := by
  refine z_startI (cc := cX0_openToHigh) (n := 3) (own := RX0) (L0 := [(0, .ref h)]) (plainFor_of_name (by decide)) rfl rfl (Nat.le_of_ble_eq_true rfl) rfl (fun E hret => ?_)
  have hixnd : ix (u.1 10) = nd := by rw [hnd]; exact nI_clamp (by omega)
  refine z_aload_n 0 dX0_openToHigh_0 rfl ?_
  refine z_get (C := RX0) (T := TX0) (N := 19) (v := .int (u.1 3)) inwX0_openToHigh 0 rfl rfl 3 (by decide) (List.mem_of_getElem? (i := 1) rfl) rfl rfl dX0_openToHigh_1 ?_
  refine z_istore_n (L' := [(1, .int (u.1 3)), (0, .ref h)]) dX0_openToHigh_4 (by decide) rfl ?_
  refine z_iconst (v := 0) dX0_openToHigh_5 rfl ?_
  refine z_istore_n (L' := [(2, .int 0), (1, .int (u.1 3)), (0, .ref h)]) dX0_openToHigh_6 (by decide) rfl ?_
  refine z_sub (L' := [(0, .ref h), (1, .int (u.1 3)), (2, .int 0)]) [2, 1, 0] rfl ?_
  have hloop7 : ∀ r k7 : Nat, k7 + r = nd → ZW E zTT ({ frames := 2, cells := 0, slots := 0, locals := 42 } : Room) cX0_openToHigh RX0 wsX0_openToHigh 3 D [(cI, .int), (cZ, .boolean)] 0 0 (wX0 cI cZ h a u) 7 [(0, .ref h), (1, .int (l_X0_openToHigh_7 u k7)), (2, .int (nI k7))] [] := by
    intro r
    induction r with
    | zero =>
      intro k7 hk7
      have hkN7 : nd = k7 := by omega
      subst hkN7
      refine z_iload_n 2 dX0_openToHigh_7 rfl ?_
      refine z_aload_n 0 dX0_openToHigh_8 rfl ?_
      refine z_get (C := RX0) (T := TX0) (N := 19) (v := .int (u.1 10)) inwX0_openToHigh 0 rfl rfl 10 (by decide) (List.mem_of_getElem? (i := 2) rfl) rfl rfl dX0_openToHigh_9 ?_
      refine z_icmp_ge 48 dX0_openToHigh_12 (by decide) (fun c_12_1 => ?_) (fun c_12_1 => ?_)
      ·
        refine z_iload_n 1 dX0_openToHigh_48 rfl ?_
        exact hret _ () _ _ _ dX0_openToHigh_49 (by rw [r_X0_openToHigh, hixnd]) rfl
      · exact absurd (by rw [hnd]; exact nI_le (Nat.le_refl _) (by omega)) c_12_1
    | succ r ih7 =>
      intro k7 hk7
      obtain ⟨x7, hx7⟩ : ∃ x, x = l_X0_openToHigh_7 u k7 := ⟨_, rfl⟩
      rw [← hx7]
      refine z_iload_n 2 dX0_openToHigh_7 rfl ?_
      refine z_aload_n 0 dX0_openToHigh_8 rfl ?_
      refine z_get (C := RX0) (T := TX0) (N := 19) (v := .int (u.1 10)) inwX0_openToHigh 0 rfl rfl 10 (by decide) (List.mem_of_getElem? (i := 2) rfl) rfl rfl dX0_openToHigh_9 ?_
      refine z_icmp_ge 48 dX0_openToHigh_12 (by decide) (fun c_12_0 => ?_) (fun c_12_0 => ?_)
      · exact absurd c_12_0 (by rw [hnd]; exact nI_ge (by omega) (by omega))
      ·
        refine z_aload_n 0 dX0_openToHigh_15 rfl ?_
        refine z_get (C := RX0) (T := TX0) (N := 19) (v := .int (u.1 4)) inwX0_openToHigh 0 rfl rfl 4 (by decide) (List.mem_of_getElem? (i := 3) rfl) rfl rfl dX0_openToHigh_16 ?_
        refine z_iload_n 2 dX0_openToHigh_19 rfl ?_
        refine z_callSi (As := [.int (u.1 4), .int (nI k7)]) (st := []) (fun l => c_X0_has l D _ _ (u.1 4) (nI k7)) zGok_TT (fun _ _ _ => trivial) (fun s args hts => va_cwS 2 hts gX0_openToHigh_X0_has rfl rfl rfl (by decide +kernel) ⟨Nat.le_of_ble_eq_true rfl, Nat.le_of_ble_eq_true rfl⟩) rfl (Nat.le_of_ble_eq_true rfl) ⟨Nat.le_of_ble_eq_true rfl, Nat.le_of_ble_eq_true rfl⟩ dX0_openToHigh_20 rfl (fun r u2 hp => ?_)
        subst hp
        refine z_if_eq 42 dX0_openToHigh_23 (by decide) (fun c_23_2 => ?_) (fun c_23_2 => ?_)
        ·
          refine z_iinc (v := (nI (k7 + 1))) (L' := [(2, .int (nI (k7 + 1))), (0, .ref h), (1, .int x7)]) 2 dX0_openToHigh_42 rfl (nI_1 k7) (by decide) rfl ?_
          refine z_goto 7 dX0_openToHigh_45 (by decide) ?_
          have hb7 : l_X0_openToHigh_7 u (k7 + 1) = x7 := by
            show b_X0_openToHigh_7 u k7 (l_X0_openToHigh_7 u k7) = _
            rw [← hx7, b_X0_openToHigh_7, if_pos c_23_2]
          refine z_sub (L' := [(0, .ref h), (1, .int x7), (2, .int (nI (k7 + 1)))]) [1, 2, 0] rfl ?_
          have ih2 := ih7 (k7 + 1) (by omega)
          rw [hb7] at ih2
          exact ih2
        ·
          refine z_aload_n 0 dX0_openToHigh_26 rfl ?_
          refine z_iload_n 2 dX0_openToHigh_27 rfl ?_
          refine z_callVi (As := [.int (nI k7)]) (st := []) (fun l => c_X0_spentToday l D cI cZ h a u (nI k7) (by first | (with_reducible assumption) | with_reducible exact vp_in_nI (by omega) (by omega) | with_reducible exact zdev hnd hd (by assumption) | exact hnd | assumption | decide)) zGok_TT (fun _ _ _ => trivial) (fun s args hts => cwV 1 hts gX0_openToHigh_X0_spentToday rfl rfl rfl (by decide +kernel) ⟨Nat.le_of_ble_eq_true rfl, Nat.le_of_ble_eq_true rfl⟩) (ci := 0) rfl rfl rfl rfl (Nat.le_of_ble_eq_true rfl) ⟨Nat.le_of_ble_eq_true rfl, Nat.le_of_ble_eq_true rfl⟩ dX0_openToHigh_28 rfl (fun r u2 hp => ?_)
          subst hp
          refine z_iconst (v := 3) dX0_openToHigh_31 rfl ?_
          refine z_icmp_lt 42 dX0_openToHigh_32 (by decide) (fun c_32_3 => ?_) (fun c_32_3 => ?_)
          ·
            refine z_iinc (v := (nI (k7 + 1))) (L' := [(2, .int (nI (k7 + 1))), (0, .ref h), (1, .int x7)]) 2 dX0_openToHigh_42 rfl (nI_1 k7) (by decide) rfl ?_
            refine z_goto 7 dX0_openToHigh_45 (by decide) ?_
            have hb7 : l_X0_openToHigh_7 u (k7 + 1) = x7 := by
              show b_X0_openToHigh_7 u k7 (l_X0_openToHigh_7 u k7) = _
              rw [← hx7, b_X0_openToHigh_7, if_neg c_23_2, if_pos c_32_3]
            refine z_sub (L' := [(0, .ref h), (1, .int x7), (2, .int (nI (k7 + 1)))]) [1, 2, 0] rfl ?_
            have ih2 := ih7 (k7 + 1) (by omega)
            rw [hb7] at ih2
            exact ih2
          ·
            refine z_iload_n 1 dX0_openToHigh_35 rfl ?_
            refine z_iload_n 2 dX0_openToHigh_36 rfl ?_
            refine z_iconst (v := 0) dX0_openToHigh_37 rfl ?_
            refine z_callSi (As := [.int x7, .int (nI k7), .int 0]) (st := []) (fun l => c_X0_changed l D _ _ x7 (nI k7) 0) zGok_TT (fun _ _ _ => trivial) (fun s args hts => va_cwS 3 hts gX0_openToHigh_X0_changed rfl rfl rfl (by decide +kernel) ⟨Nat.le_of_ble_eq_true rfl, Nat.le_of_ble_eq_true rfl⟩) rfl (Nat.le_of_ble_eq_true rfl) ⟨Nat.le_of_ble_eq_true rfl, Nat.le_of_ble_eq_true rfl⟩ dX0_openToHigh_38 rfl (fun r u2 hp => ?_)
            subst hp
            refine z_istore_n (L' := [(1, .int (r_X0_changed x7 (nI k7) 0)), (0, .ref h), (2, .int (nI k7))]) dX0_openToHigh_41 (by decide) rfl ?_
            refine z_iinc (v := (nI (k7 + 1))) (L' := [(2, .int (nI (k7 + 1))), (1, .int (r_X0_changed x7 (nI k7) 0)), (0, .ref h)]) 2 dX0_openToHigh_42 rfl (nI_1 k7) (by decide) rfl ?_
            refine z_goto 7 dX0_openToHigh_45 (by decide) ?_
            have hb7 : l_X0_openToHigh_7 u (k7 + 1) = (r_X0_changed x7 (nI k7) 0) := by
              show b_X0_openToHigh_7 u k7 (l_X0_openToHigh_7 u k7) = _
              rw [← hx7, b_X0_openToHigh_7, if_neg c_23_2, if_neg c_32_3]
            refine z_sub (L' := [(0, .ref h), (1, .int (r_X0_changed x7 (nI k7) 0)), (2, .int (nI (k7 + 1)))]) [2, 1, 0] rfl ?_
            have ih2 := ih7 (k7 + 1) (by omega)
            rw [hb7] at ih2
            exact ih2
  exact hloop7 nd 0 (by omega)
set_option maxHeartbeats 4000000 in
set_option maxRecDepth 100000 in
theorem c_X0_nextChance (l : Launch) (D : va_G) (cI cZ : ClassId) (h : Nat) (a : Nat → Nat) (u : SX)  (nd : Nat) (hnd : u.1 10 = nI nd) (hd : nd ≤ 16) : zMi l yX0_nextChance wsX0_nextChance ({ frames := 3, cells := 0, slots := 0, locals := 66 } : Room) zTT D [(cI, .int), (cZ, .boolean)] (wX0 cI cZ h a u) [.ref h] (fun (r : Int32) (_ : Unit) => r = r_X0_nextChance u) (fun _ => (wX0 cI cZ h a u)) 0 0 := by
  refine z_startI (cc := cX0_nextChance) (n := 4) (own := RX0) (L0 := [(0, .ref h)]) (plainFor_of_name (by decide)) rfl rfl (Nat.le_of_ble_eq_true rfl) rfl (fun E hret => ?_)
  have hixnd : ix (u.1 10) = nd := by rw [hnd]; exact nI_clamp (by omega)
  refine z_aload_n 0 dX0_nextChance_0 rfl ?_
  refine z_get (C := RX0) (T := TX0) (N := 19) (v := .int (u.1 17)) inwX0_nextChance 0 rfl rfl 17 (by decide) (List.mem_of_getElem? (i := 1) rfl) rfl rfl dX0_nextChance_1 ?_
  refine z_aload_n 0 dX0_nextChance_4 rfl ?_
  refine z_get (C := RX0) (T := TX0) (N := 19) (v := .int (u.1 17)) inwX0_nextChance 0 rfl rfl 17 (by decide) (List.mem_of_getElem? (i := 1) rfl) rfl rfl dX0_nextChance_5 ?_
  refine z_bipush (v := 60) dX0_nextChance_8 rfl ?_
  refine z_irem dX0_nextChance_10 (by decide) ?_
  refine z_isub dX0_nextChance_11 ?_
  refine z_bipush (v := 60) dX0_nextChance_12 rfl ?_
  refine z_iadd dX0_nextChance_14 ?_
  refine z_istore_n (L' := [(1, .int (((u.1 17) - ((u.1 17) - (u.1 17) / 60 * 60)) + 60)), (0, .ref h)]) dX0_nextChance_15 (by decide) rfl ?_
  refine z_iconst (v := 0) dX0_nextChance_16 rfl ?_
  refine z_istore_n (L' := [(2, .int 0), (1, .int (((u.1 17) - ((u.1 17) - (u.1 17) / 60 * 60)) + 60)), (0, .ref h)]) dX0_nextChance_17 (by decide) rfl ?_
  refine z_sub (L' := [(0, .ref h), (1, .int (((u.1 17) - ((u.1 17) - (u.1 17) / 60 * 60)) + 60)), (2, .int 0)]) [2, 1, 0] rfl ?_
  have hloop18 : ∀ r k18 : Nat, k18 + r = nd → ZW E zTT ({ frames := 3, cells := 0, slots := 0, locals := 66 } : Room) cX0_nextChance RX0 wsX0_nextChance 4 D [(cI, .int), (cZ, .boolean)] 0 0 (wX0 cI cZ h a u) 18 [(0, .ref h), (1, .int (l_X0_nextChance_18 u k18)), (2, .int (nI k18))] [] := by
    intro r
    induction r with
    | zero =>
      intro k18 hk18
      have hkN18 : nd = k18 := by omega
      subst hkN18
      refine z_iload_n 2 dX0_nextChance_18 rfl ?_
      refine z_aload_n 0 dX0_nextChance_19 rfl ?_
      refine z_get (C := RX0) (T := TX0) (N := 19) (v := .int (u.1 10)) inwX0_nextChance 0 rfl rfl 10 (by decide) (List.mem_of_getElem? (i := 2) rfl) rfl rfl dX0_nextChance_20 ?_
      refine z_icmp_ge 70 dX0_nextChance_23 (by decide) (fun c_23_1 => ?_) (fun c_23_1 => ?_)
      ·
        refine z_iload_n 1 dX0_nextChance_70 rfl ?_
        exact hret _ () _ _ _ dX0_nextChance_71 (by rw [r_X0_nextChance, hixnd]) rfl
      · exact absurd (by rw [hnd]; exact nI_le (Nat.le_refl _) (by omega)) c_23_1
    | succ r ih18 =>
      intro k18 hk18
      obtain ⟨x18, hx18⟩ : ∃ x, x = l_X0_nextChance_18 u k18 := ⟨_, rfl⟩
      rw [← hx18]
      refine z_iload_n 2 dX0_nextChance_18 rfl ?_
      refine z_aload_n 0 dX0_nextChance_19 rfl ?_
      refine z_get (C := RX0) (T := TX0) (N := 19) (v := .int (u.1 10)) inwX0_nextChance 0 rfl rfl 10 (by decide) (List.mem_of_getElem? (i := 2) rfl) rfl rfl dX0_nextChance_20 ?_
      refine z_icmp_ge 70 dX0_nextChance_23 (by decide) (fun c_23_0 => ?_) (fun c_23_0 => ?_)
      · exact absurd c_23_0 (by rw [hnd]; exact nI_ge (by omega) (by omega))
      ·
        refine z_aload_n 0 dX0_nextChance_26 rfl ?_
        refine z_iload_n 2 dX0_nextChance_27 rfl ?_
        refine z_callVi (As := [.int (nI k18)]) (st := []) (fun l => c_X0_isInQuietHours l D cI cZ h a u (nI k18) (by first | (with_reducible assumption) | with_reducible exact vp_in_nI (by omega) (by omega) | with_reducible exact zdev hnd hd (by assumption) | exact hnd | assumption | decide)) zGok_TT (fun _ _ _ => trivial) (fun s args hts => cwV 1 hts gX0_nextChance_X0_isInQuietHours rfl rfl rfl (by decide +kernel) ⟨Nat.le_of_ble_eq_true rfl, Nat.le_of_ble_eq_true rfl⟩) (ci := 0) rfl rfl rfl rfl (Nat.le_of_ble_eq_true rfl) ⟨Nat.le_of_ble_eq_true rfl, Nat.le_of_ble_eq_true rfl⟩ dX0_nextChance_28 rfl (fun r u2 hp => ?_)
        subst hp
        refine z_if_eq 64 dX0_nextChance_31 (by decide) (fun c_31_2 => ?_) (fun c_31_2 => ?_)
        ·
          refine z_iinc (v := (nI (k18 + 1))) (L' := [(2, .int (nI (k18 + 1))), (0, .ref h), (1, .int x18)]) 2 dX0_nextChance_64 rfl (nI_1 k18) (by decide) rfl ?_
          refine z_goto 18 dX0_nextChance_67 (by decide) ?_
          have hb18 : l_X0_nextChance_18 u (k18 + 1) = x18 := by
            show b_X0_nextChance_18 u k18 (l_X0_nextChance_18 u k18) = _
            rw [← hx18, b_X0_nextChance_18, if_pos c_31_2]
          refine z_sub (L' := [(0, .ref h), (1, .int x18), (2, .int (nI (k18 + 1)))]) [1, 2, 0] rfl ?_
          have ih2 := ih18 (k18 + 1) (by omega)
          rw [hb18] at ih2
          exact ih2
        ·
          refine z_aload_n 0 dX0_nextChance_34 rfl ?_
          refine z_get (C := RX0) (T := TX0) (N := 19) (v := .ref (a 7)) inwX0_nextChance 0 rfl rfl 7 (by decide) (List.mem_of_getElem? (i := 3) rfl) rfl rfl dX0_nextChance_35 ?_
          refine z_iload_n 2 dX0_nextChance_38 rfl ?_
          refine z_iald (v := (u.2 7 (ix (nI k18)))) 5 0 rfl rfl (vp_in_nI (by omega) (by omega)) rfl dX0_nextChance_39 ?_
          refine z_aload_n 0 dX0_nextChance_40 rfl ?_
          refine z_iload_n 2 dX0_nextChance_41 rfl ?_
          refine z_callVi (As := [.int (nI k18)]) (st := [.int (u.2 7 (ix (nI k18)))]) (fun l => c_X0_localTime l D cI cZ h a u (nI k18) (by first | (with_reducible assumption) | with_reducible exact vp_in_nI (by omega) (by omega) | with_reducible exact zdev hnd hd (by assumption) | exact hnd | assumption | decide)) zGok_TT (fun _ _ _ => trivial) (fun s args hts => cwV 1 hts gX0_nextChance_X0_localTime rfl rfl rfl (by decide +kernel) ⟨Nat.le_of_ble_eq_true rfl, Nat.le_of_ble_eq_true rfl⟩) (ci := 0) rfl rfl rfl rfl (Nat.le_of_ble_eq_true rfl) ⟨Nat.le_of_ble_eq_true rfl, Nat.le_of_ble_eq_true rfl⟩ dX0_nextChance_42 rfl (fun r u2 hp => ?_)
          subst hp
          refine z_isub dX0_nextChance_45 ?_
          refine z_sipush (v := 1440) dX0_nextChance_46 rfl ?_
          refine z_callSi (As := [.int ((u.2 7 (ix (nI k18))) - (r_X0_localTime u (nI k18))), .int 1440]) (st := []) (fun l => c_J9_floorMod_7cf53 l D _ _ ((u.2 7 (ix (nI k18))) - (r_X0_localTime u (nI k18))) 1440 (by first | (with_reducible assumption) | with_reducible exact vp_in_nI (by omega) (by omega) | with_reducible exact zdev hnd hd (by assumption) | exact hnd | assumption | decide)) zGok_TT (fun _ _ _ => trivial) (fun s args hts => va_cwS 2 hts gX0_nextChance_J9_floorMod_7cf53 rfl rfl rfl (by decide +kernel) ⟨Nat.le_of_ble_eq_true rfl, Nat.le_of_ble_eq_true rfl⟩) rfl (Nat.le_of_ble_eq_true rfl) ⟨Nat.le_of_ble_eq_true rfl, Nat.le_of_ble_eq_true rfl⟩ dX0_nextChance_49 rfl (fun r u2 hp => ?_)
          subst hp
          refine z_istore_n (L' := [(3, .int (r_J9_floorMod_7cf53 ((u.2 7 (ix (nI k18))) - (r_X0_localTime u (nI k18))) 1440)), (0, .ref h), (1, .int x18), (2, .int (nI k18))]) dX0_nextChance_52 (by decide) rfl ?_
          refine z_iload_n 2 dX0_nextChance_53 rfl ?_
          refine z_aload_n 1 dX0_nextChance_54 rfl ?_
          refine z_get (C := RX0) (T := TX0) (N := 19) (v := .int (u.1 17)) inwX0_nextChance 0 rfl rfl 17 (by decide) (List.mem_of_getElem? (i := 1) rfl) rfl rfl dX0_nextChance_55 ?_
          refine z_iload_n 0 dX0_nextChance_58 rfl ?_
          refine z_iadd dX0_nextChance_59 ?_
          refine z_mmin (List.mem_of_getElem? (i := 4) rfl) (List.mem_of_getElem? (i := 5) rfl) (List.mem_of_getElem? (i := 6) rfl) (List.mem_of_getElem? (i := 7) rfl) ⟨Nat.le_of_ble_eq_true rfl, Nat.le_of_ble_eq_true rfl, Nat.le_of_ble_eq_true rfl, Nat.le_of_ble_eq_true rfl⟩ (Nat.le_of_ble_eq_true rfl) dX0_nextChance_60 ?_
          refine z_istore_n (L' := [(1, .int (mnI x18 ((u.1 17) + (r_J9_floorMod_7cf53 ((u.2 7 (ix (nI k18))) - (r_X0_localTime u (nI k18))) 1440)))), (3, .int (r_J9_floorMod_7cf53 ((u.2 7 (ix (nI k18))) - (r_X0_localTime u (nI k18))) 1440)), (0, .ref h), (2, .int (nI k18))]) dX0_nextChance_63 (by decide) rfl ?_
          refine z_iinc (v := (nI (k18 + 1))) (L' := [(2, .int (nI (k18 + 1))), (1, .int (mnI x18 ((u.1 17) + (r_J9_floorMod_7cf53 ((u.2 7 (ix (nI k18))) - (r_X0_localTime u (nI k18))) 1440)))), (3, .int (r_J9_floorMod_7cf53 ((u.2 7 (ix (nI k18))) - (r_X0_localTime u (nI k18))) 1440)), (0, .ref h)]) 3 dX0_nextChance_64 rfl (nI_1 k18) (by decide) rfl ?_
          refine z_goto 18 dX0_nextChance_67 (by decide) ?_
          have hb18 : l_X0_nextChance_18 u (k18 + 1) = (mnI x18 ((u.1 17) + (r_J9_floorMod_7cf53 ((u.2 7 (ix (nI k18))) - (r_X0_localTime u (nI k18))) 1440))) := by
            show b_X0_nextChance_18 u k18 (l_X0_nextChance_18 u k18) = _
            rw [← hx18, b_X0_nextChance_18, if_neg c_31_2]
          refine z_sub (L' := [(0, .ref h), (1, .int (mnI x18 ((u.1 17) + (r_J9_floorMod_7cf53 ((u.2 7 (ix (nI k18))) - (r_X0_localTime u (nI k18))) 1440)))), (2, .int (nI (k18 + 1)))]) [3, 1, 0] rfl ?_
          have ih2 := ih18 (k18 + 1) (by omega)
          rw [hb18] at ih2
          exact ih2
  exact hloop18 nd 0 (by omega)
