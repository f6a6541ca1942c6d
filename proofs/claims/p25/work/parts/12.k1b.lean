set_option maxHeartbeats 4000000 in
set_option maxRecDepth 100000 in
theorem c_X0_deliverNow (l : Launch) (D : va_G) (cI cZ : ClassId) (h : Nat) (a : Nat → Nat) (u : SX)  (nd : Nat) (hnd : u.1 10 = nI nd) (hd : nd ≤ 16) (nn : Nat) (hnn : u.1 16 = nI nn) (hn : nn ≤ 120) : zMi l yX0_deliverNow wsX0_deliverNow ({ frames := 4, cells := 0, slots := 0, locals := 88 } : Room) zTT D [(cI, .int), (cZ, .boolean)] (wX0 cI cZ h a u) [.ref h] (fun (r : Int32) (u2 : SX) => r = r_X0_deliverNow u ∧ u2 = s_X0_deliverNow u) (fun u2 => (wX0 cI cZ h a u2)) 0 0 := by
  refine z_startI (cc := cX0_deliverNow) (n := 5) (own := RX0) (L0 := [(0, .ref h)]) (plainFor_of_name (by decide)) rfl rfl (Nat.le_of_ble_eq_true rfl) rfl (fun E hret => ?_)
  have hixnn : ix (u.1 16) = nn := by rw [hnn]; exact nI_clamp (by omega)
  have hixnd : ix (u.1 10) = nd := by rw [hnd]; exact nI_clamp (by omega)
  refine z_aload_n 0 dX0_deliverNow_0 rfl ?_
  refine z_get (C := RX0) (T := TX0) (N := 19) (v := .int (u.1 18)) inwX0_deliverNow 0 rfl rfl 18 (by decide) (List.mem_of_getElem? (i := 1) rfl) rfl rfl dX0_deliverNow_1 ?_
  refine z_istore_n (L' := [(1, .int (u.1 18)), (0, .ref h)]) dX0_deliverNow_4 (by decide) rfl ?_
  refine z_aload_n 1 dX0_deliverNow_5 rfl ?_
  refine z_callVi (As := []) (st := []) (fun l => c_X0_openToNormal l D cI cZ h a u  nd (by first | (with_reducible assumption) | with_reducible exact vp_in_nI (by omega) (by omega) | with_reducible exact zdev hnd hd (by assumption) | with_reducible exact znot hnn hn (by assumption) | exact hnd | exact hnn | assumption | decide) (by first | (with_reducible assumption) | with_reducible exact vp_in_nI (by omega) (by omega) | with_reducible exact zdev hnd hd (by assumption) | with_reducible exact znot hnn hn (by assumption) | exact hnd | exact hnn | assumption | decide)) zGok_TT (fun _ _ _ => trivial) (fun s args hts => cwV 0 hts gX0_deliverNow_X0_openToNormal rfl rfl rfl (by decide +kernel) ⟨Nat.le_of_ble_eq_true rfl, Nat.le_of_ble_eq_true rfl⟩) (ci := 0) rfl rfl rfl rfl (Nat.le_of_ble_eq_true rfl) ⟨Nat.le_of_ble_eq_true rfl, Nat.le_of_ble_eq_true rfl⟩ dX0_deliverNow_6 rfl (fun r u2 hp => ?_)
  subst hp
  refine z_istore_n (L' := [(2, .int (r_X0_openToNormal u )), (1, .int (u.1 18)), (0, .ref h)]) dX0_deliverNow_9 (by decide) rfl ?_
  refine z_iconst (v := 0) dX0_deliverNow_10 rfl ?_
  refine z_istore_n (L' := [(3, .int 0), (2, .int (r_X0_openToNormal u )), (1, .int (u.1 18)), (0, .ref h)]) dX0_deliverNow_11 (by decide) rfl ?_
  refine z_sub (L' := [(0, .ref h), (1, .int (u.1 18)), (2, .int (r_X0_openToNormal u )), (3, .int 0)]) [3, 2, 1, 0] rfl ?_
  have hloop12 : ∀ r k12 : Nat, k12 + r = nn → ZW E zTT ({ frames := 4, cells := 0, slots := 0, locals := 88 } : Room) cX0_deliverNow RX0 wsX0_deliverNow 5 D [(cI, .int), (cZ, .boolean)] 0 0 (wX0 cI cZ h a (l_X0_deliverNow_12 u k12)) 12 [(0, .ref h), (1, .int (u.1 18)), (2, .int (r_X0_openToNormal u )), (3, .int (nI k12))] [] := by
    intro r
    induction r with
    | zero =>
      intro k12 hk12
      have hkN12 : nn = k12 := by omega
      subst hkN12
      have hbx : ((l_X0_deliverNow_12 u nn).1 16) = nI nn := by first | (rw [hx12, lf16_X0_deliverNow_12]; exact hnn) | (rw [lf16_X0_deliverNow_12]; exact hnn)
      have hbd : ((l_X0_deliverNow_12 u nn).1 10) = nI nd := by first | (rw [hx12, lf10_X0_deliverNow_12]; exact hnd) | (rw [lf10_X0_deliverNow_12]; exact hnd)
      refine z_iload_n 3 dX0_deliverNow_12 rfl ?_
      refine z_aload_n 0 dX0_deliverNow_13 rfl ?_
      refine z_get (C := RX0) (T := TX0) (N := 19) (v := .int ((l_X0_deliverNow_12 u nn).1 16)) inwX0_deliverNow 0 rfl rfl 16 (by decide) (List.mem_of_getElem? (i := 2) rfl) rfl rfl dX0_deliverNow_14 ?_
      refine z_icmp_ge 63 dX0_deliverNow_17 (by decide) (fun c_17_1 => ?_) (fun c_17_1 => ?_)
      ·
        refine z_aload_n 0 dX0_deliverNow_63 rfl ?_
        refine z_get (C := RX0) (T := TX0) (N := 19) (v := .int ((l_X0_deliverNow_12 u nn).1 18)) inwX0_deliverNow 0 rfl rfl 18 (by decide) (List.mem_of_getElem? (i := 1) rfl) rfl rfl dX0_deliverNow_64 ?_
        refine z_iload_n 1 dX0_deliverNow_67 rfl ?_
        refine z_isub dX0_deliverNow_68 ?_
        exact hret _ (l_X0_deliverNow_12 u nn) _ _ _ dX0_deliverNow_69 ⟨(by rw [r_X0_deliverNow, hixnn]), (by rw [s_X0_deliverNow, hixnn])⟩ rfl
      · exact absurd (by rw [hbx]; exact nI_le (Nat.le_refl _) (by omega)) c_17_1
    | succ r ih12 =>
      intro k12 hk12
      obtain ⟨x12, hx12⟩ : ∃ x, x = l_X0_deliverNow_12 u k12 := ⟨_, rfl⟩
      rw [← hx12]
      have hbx : (x12.1 16) = nI nn := by first | (rw [hx12, lf16_X0_deliverNow_12]; exact hnn) | (rw [lf16_X0_deliverNow_12]; exact hnn)
      have hbd : (x12.1 10) = nI nd := by first | (rw [hx12, lf10_X0_deliverNow_12]; exact hnd) | (rw [lf10_X0_deliverNow_12]; exact hnd)
      refine z_iload_n 3 dX0_deliverNow_12 rfl ?_
      refine z_aload_n 0 dX0_deliverNow_13 rfl ?_
      refine z_get (C := RX0) (T := TX0) (N := 19) (v := .int (x12.1 16)) inwX0_deliverNow 0 rfl rfl 16 (by decide) (List.mem_of_getElem? (i := 2) rfl) rfl rfl dX0_deliverNow_14 ?_
      refine z_icmp_ge 63 dX0_deliverNow_17 (by decide) (fun c_17_0 => ?_) (fun c_17_0 => ?_)
      · exact absurd c_17_0 (by rw [hbx]; exact nI_ge (by omega) (by omega))
      ·
        refine z_aload_n 0 dX0_deliverNow_20 rfl ?_
        refine z_iload_n 3 dX0_deliverNow_21 rfl ?_
        refine z_callVi (As := [.int (nI k12)]) (st := []) (fun l => c_X0_waitsNow l D cI cZ h a x12 (nI k12) (by first | (with_reducible assumption) | with_reducible exact vp_in_nI (by omega) (by omega) | with_reducible exact zdev hnd hd (by assumption) | with_reducible exact znot hnn hn (by assumption) | exact hnd | exact hnn | assumption | decide)) zGok_TT (fun _ _ _ => trivial) (fun s args hts => cwV 1 hts gX0_deliverNow_X0_waitsNow rfl rfl rfl (by decide +kernel) ⟨Nat.le_of_ble_eq_true rfl, Nat.le_of_ble_eq_true rfl⟩) (ci := 0) rfl rfl rfl rfl (Nat.le_of_ble_eq_true rfl) ⟨Nat.le_of_ble_eq_true rfl, Nat.le_of_ble_eq_true rfl⟩ dX0_deliverNow_22 rfl (fun r u2 hp => ?_)
        subst hp
        refine z_istore (L' := [(4, .int (r_X0_waitsNow x12 (nI k12))), (0, .ref h), (1, .int (u.1 18)), (2, .int (r_X0_openToNormal u )), (3, .int (nI k12))]) dX0_deliverNow_25 (by decide) rfl ?_
        refine z_iload 0 dX0_deliverNow_27 rfl ?_
        refine z_if_eq 57 dX0_deliverNow_29 (by decide) (fun c_29_2 => ?_) (fun c_29_2 => ?_)
        ·
          refine z_iinc (v := (nI (k12 + 1))) (L' := [(3, .int (nI (k12 + 1))), (4, .int (r_X0_waitsNow x12 (nI k12))), (0, .ref h), (1, .int (u.1 18)), (2, .int (r_X0_openToNormal u ))]) 4 dX0_deliverNow_57 rfl (nI_1 k12) (by decide) rfl ?_
          refine z_goto 12 dX0_deliverNow_60 (by decide) ?_
          have hb12 : l_X0_deliverNow_12 u (k12 + 1) = x12 := by
            show b_X0_deliverNow_12 u k12 (l_X0_deliverNow_12 u k12) = _
            rw [← hx12, b_X0_deliverNow_12, if_pos c_29_2]
          refine z_sub (L' := [(0, .ref h), (1, .int (u.1 18)), (2, .int (r_X0_openToNormal u )), (3, .int (nI (k12 + 1)))]) [2, 3, 4, 0] rfl ?_
          have ih2 := ih12 (k12 + 1) (by omega)
          rw [hb12] at ih2
          exact ih2
        ·
          refine z_aload_n 1 dX0_deliverNow_32 rfl ?_
          refine z_iload_n 4 dX0_deliverNow_33 rfl ?_
          refine z_iload 0 dX0_deliverNow_34 rfl ?_
          refine z_aload_n 1 dX0_deliverNow_36 rfl ?_
          refine z_get (C := RX0) (T := TX0) (N := 19) (v := .ref (a 11)) inwX0_deliverNow 0 rfl rfl 11 (by decide) (List.mem_of_getElem? (i := 3) rfl) rfl rfl dX0_deliverNow_37 ?_
          refine z_iload_n 4 dX0_deliverNow_40 rfl ?_
          refine z_zald (v := (x12.2 11 (ix (nI k12)))) 8 1 rfl rfl (vp_in_nI (by omega) (by omega)) rfl dX0_deliverNow_41 ?_
          refine z_if_eq 52 dX0_deliverNow_42 (by decide) (fun c_42_3 => ?_) (fun c_42_3 => ?_)
          ·
            refine z_iload_n 3 dX0_deliverNow_52 rfl ?_
            refine z_iand dX0_deliverNow_53 ?_
            refine z_callVv (As := [.int (nI k12), .int ((r_X0_waitsNow x12 (nI k12)) &&& (r_X0_openToNormal u ))]) (st := []) (fun l => c_X0_deliver l D cI cZ h a x12 (nI k12) ((r_X0_waitsNow x12 (nI k12)) &&& (r_X0_openToNormal u )) (by first | (with_reducible assumption) | with_reducible exact vp_in_nI (by omega) (by omega) | with_reducible exact zdev hnd hd (by assumption) | with_reducible exact znot hnn hn (by assumption) | exact hnd | exact hnn | assumption | decide) nd (by first | (with_reducible assumption) | with_reducible exact vp_in_nI (by omega) (by omega) | with_reducible exact zdev hnd hd (by assumption) | with_reducible exact znot hnn hn (by assumption) | exact hnd | exact hnn | assumption | decide) (by first | (with_reducible assumption) | with_reducible exact vp_in_nI (by omega) (by omega) | with_reducible exact zdev hnd hd (by assumption) | with_reducible exact znot hnn hn (by assumption) | exact hnd | exact hnn | assumption | decide)) zGok_TT (fun _ _ _ => trivial) (fun s args hts => cwV 2 hts gX0_deliverNow_X0_deliver rfl rfl rfl (by decide +kernel) ⟨Nat.le_of_ble_eq_true rfl, Nat.le_of_ble_eq_true rfl⟩) (ci := 0) rfl rfl rfl rfl (Nat.le_of_ble_eq_true rfl) ⟨Nat.le_of_ble_eq_true rfl, Nat.le_of_ble_eq_true rfl⟩ dX0_deliverNow_54 rfl (fun u2 hp => ?_)
            subst hp
            refine z_iinc (v := (nI (k12 + 1))) (L' := [(3, .int (nI (k12 + 1))), (4, .int (r_X0_waitsNow x12 (nI k12))), (0, .ref h), (1, .int (u.1 18)), (2, .int (r_X0_openToNormal u ))]) 4 dX0_deliverNow_57 rfl (nI_1 k12) (by decide) rfl ?_
            refine z_goto 12 dX0_deliverNow_60 (by decide) ?_
            have hb12 : l_X0_deliverNow_12 u (k12 + 1) = (s_X0_deliver x12 (nI k12) ((r_X0_waitsNow x12 (nI k12)) &&& (r_X0_openToNormal u ))) := by
              show b_X0_deliverNow_12 u k12 (l_X0_deliverNow_12 u k12) = _
              rw [← hx12, b_X0_deliverNow_12, if_neg c_29_2, if_pos c_42_3]
            refine z_sub (L' := [(0, .ref h), (1, .int (u.1 18)), (2, .int (r_X0_openToNormal u )), (3, .int (nI (k12 + 1)))]) [2, 3, 4, 0] rfl ?_
            have ih2 := ih12 (k12 + 1) (by omega)
            rw [hb12] at ih2
            exact ih2
          ·
            refine z_aload_n 1 dX0_deliverNow_45 rfl ?_
            refine z_callVi (As := []) (st := [.int (r_X0_waitsNow x12 (nI k12)), .int (nI k12), .ref h]) (fun l => c_X0_openToHigh l D cI cZ h a x12  nd (by first | (with_reducible assumption) | with_reducible exact vp_in_nI (by omega) (by omega) | with_reducible exact zdev hnd hd (by assumption) | with_reducible exact znot hnn hn (by assumption) | exact hnd | exact hnn | assumption | decide) (by first | (with_reducible assumption) | with_reducible exact vp_in_nI (by omega) (by omega) | with_reducible exact zdev hnd hd (by assumption) | with_reducible exact znot hnn hn (by assumption) | exact hnd | exact hnn | assumption | decide)) zGok_TT (fun _ _ _ => trivial) (fun s args hts => cwV 0 hts gX0_deliverNow_X0_openToHigh rfl rfl rfl (by decide +kernel) ⟨Nat.le_of_ble_eq_true rfl, Nat.le_of_ble_eq_true rfl⟩) (ci := 0) rfl rfl rfl rfl (Nat.le_of_ble_eq_true rfl) ⟨Nat.le_of_ble_eq_true rfl, Nat.le_of_ble_eq_true rfl⟩ dX0_deliverNow_46 rfl (fun r u2 hp => ?_)
            subst hp
            refine z_goto 53 dX0_deliverNow_49 (by decide) ?_
            refine z_iand dX0_deliverNow_53 ?_
            refine z_callVv (As := [.int (nI k12), .int ((r_X0_waitsNow x12 (nI k12)) &&& (r_X0_openToHigh x12 ))]) (st := []) (fun l => c_X0_deliver l D cI cZ h a x12 (nI k12) ((r_X0_waitsNow x12 (nI k12)) &&& (r_X0_openToHigh x12 )) (by first | (with_reducible assumption) | with_reducible exact vp_in_nI (by omega) (by omega) | with_reducible exact zdev hnd hd (by assumption) | with_reducible exact znot hnn hn (by assumption) | exact hnd | exact hnn | assumption | decide) nd (by first | (with_reducible assumption) | with_reducible exact vp_in_nI (by omega) (by omega) | with_reducible exact zdev hnd hd (by assumption) | with_reducible exact znot hnn hn (by assumption) | exact hnd | exact hnn | assumption | decide) (by first | (with_reducible assumption) | with_reducible exact vp_in_nI (by omega) (by omega) | with_reducible exact zdev hnd hd (by assumption) | with_reducible exact znot hnn hn (by assumption) | exact hnd | exact hnn | assumption | decide)) zGok_TT (fun _ _ _ => trivial) (fun s args hts => cwV 2 hts gX0_deliverNow_X0_deliver rfl rfl rfl (by decide +kernel) ⟨Nat.le_of_ble_eq_true rfl, Nat.le_of_ble_eq_true rfl⟩) (ci := 0) rfl rfl rfl rfl (Nat.le_of_ble_eq_true rfl) ⟨Nat.le_of_ble_eq_true rfl, Nat.le_of_ble_eq_true rfl⟩ dX0_deliverNow_54 rfl (fun u2 hp => ?_)
            subst hp
            refine z_iinc (v := (nI (k12 + 1))) (L' := [(3, .int (nI (k12 + 1))), (4, .int (r_X0_waitsNow x12 (nI k12))), (0, .ref h), (1, .int (u.1 18)), (2, .int (r_X0_openToNormal u ))]) 4 dX0_deliverNow_57 rfl (nI_1 k12) (by decide) rfl ?_
            refine z_goto 12 dX0_deliverNow_60 (by decide) ?_
            have hb12 : l_X0_deliverNow_12 u (k12 + 1) = (s_X0_deliver x12 (nI k12) ((r_X0_waitsNow x12 (nI k12)) &&& (r_X0_openToHigh x12 ))) := by
              show b_X0_deliverNow_12 u k12 (l_X0_deliverNow_12 u k12) = _
              rw [← hx12, b_X0_deliverNow_12, if_neg c_29_2, if_neg c_42_3]
            refine z_sub (L' := [(0, .ref h), (1, .int (u.1 18)), (2, .int (r_X0_openToNormal u )), (3, .int (nI (k12 + 1)))]) [2, 3, 4, 0] rfl ?_
            have ih2 := ih12 (k12 + 1) (by omega)
            rw [hb12] at ih2
            exact ih2
  exact hloop12 nn 0 (by omega)
set_option maxHeartbeats 4000000 in
set_option maxRecDepth 100000 in
theorem c_X0_devicesThatFulfil (l : Launch) (D : va_G) (cI cZ : ClassId) (h : Nat) (a : Nat → Nat) (u : SX) (p1 p2 p3 : Int32) (hp2 : vp_in p2 6) (hp3 : vp_in p3 6) : zMi l yX0_devicesThatFulfil wsX0_devicesThatFulfil ({ frames := 0, cells := 0, slots := 0, locals := 0 } : Room) zTT D [(cI, .int), (cZ, .boolean)] (wX0 cI cZ h a u) [.ref h, .int p1, .int p2, .int p3] (fun (r : Int32) (_ : Unit) => r = r_X0_devicesThatFulfil u p1 p2 p3) (fun _ => (wX0 cI cZ h a u)) 0 0 := by
  refine z_startI (cc := cX0_devicesThatFulfil) (n := 4) (own := RX0) (L0 := [(0, .ref h), (1, .int p1), (2, .int p2), (3, .int p3)]) (plainFor_of_name (by decide)) rfl rfl (Nat.le_of_ble_eq_true rfl) rfl (fun E hret => ?_)
  refine z_iload_n 1 dX0_devicesThatFulfil_0 rfl ?_
  refine z_switch01 28 42 56 dX0_devicesThatFulfil_1 (by decide) (by decide) (by decide) (fun c_1_0 => ?_) (fun c_1_0 c_1_0b => ?_) (fun c_1_0 c_1_0b => ?_)
  ·
    refine z_aload_n 0 dX0_devicesThatFulfil_28 rfl ?_
    refine z_get (C := RX0) (T := TX0) (N := 19) (v := .ref (a 1)) inwX0_devicesThatFulfil 0 rfl rfl 1 (by decide) (List.mem_of_getElem? (i := 1) rfl) rfl rfl dX0_devicesThatFulfil_29 ?_
    refine z_iload_n 2 dX0_devicesThatFulfil_32 rfl ?_
    refine z_iald (v := (u.2 1 (ix p2))) 2 0 rfl rfl (by first | (with_reducible assumption) | assumption | decide) rfl dX0_devicesThatFulfil_33 ?_
    refine z_aload_n 0 dX0_devicesThatFulfil_34 rfl ?_
    refine z_get (C := RX0) (T := TX0) (N := 19) (v := .ref (a 1)) inwX0_devicesThatFulfil 0 rfl rfl 1 (by decide) (List.mem_of_getElem? (i := 1) rfl) rfl rfl dX0_devicesThatFulfil_35 ?_
    refine z_iload_n 3 dX0_devicesThatFulfil_38 rfl ?_
    refine z_iald (v := (u.2 1 (ix p3))) 2 0 rfl rfl (by first | (with_reducible assumption) | assumption | decide) rfl dX0_devicesThatFulfil_39 ?_
    refine z_iand dX0_devicesThatFulfil_40 ?_
    exact hret _ () _ _ _ dX0_devicesThatFulfil_41 (by rw [r_X0_devicesThatFulfil, if_pos c_1_0]) rfl
  ·
    refine z_aload_n 0 dX0_devicesThatFulfil_42 rfl ?_
    refine z_get (C := RX0) (T := TX0) (N := 19) (v := .ref (a 1)) inwX0_devicesThatFulfil 0 rfl rfl 1 (by decide) (List.mem_of_getElem? (i := 1) rfl) rfl rfl dX0_devicesThatFulfil_43 ?_
    refine z_iload_n 2 dX0_devicesThatFulfil_46 rfl ?_
    refine z_iald (v := (u.2 1 (ix p2))) 2 0 rfl rfl (by first | (with_reducible assumption) | assumption | decide) rfl dX0_devicesThatFulfil_47 ?_
    refine z_aload_n 0 dX0_devicesThatFulfil_48 rfl ?_
    refine z_get (C := RX0) (T := TX0) (N := 19) (v := .ref (a 1)) inwX0_devicesThatFulfil 0 rfl rfl 1 (by decide) (List.mem_of_getElem? (i := 1) rfl) rfl rfl dX0_devicesThatFulfil_49 ?_
    refine z_iload_n 3 dX0_devicesThatFulfil_52 rfl ?_
    refine z_iald (v := (u.2 1 (ix p3))) 2 0 rfl rfl (by first | (with_reducible assumption) | assumption | decide) rfl dX0_devicesThatFulfil_53 ?_
    refine z_ior dX0_devicesThatFulfil_54 ?_
    exact hret _ () _ _ _ dX0_devicesThatFulfil_55 (by rw [r_X0_devicesThatFulfil, if_neg c_1_0, if_pos c_1_0b]) rfl
  ·
    refine z_aload_n 0 dX0_devicesThatFulfil_56 rfl ?_
    refine z_get (C := RX0) (T := TX0) (N := 19) (v := .ref (a 1)) inwX0_devicesThatFulfil 0 rfl rfl 1 (by decide) (List.mem_of_getElem? (i := 1) rfl) rfl rfl dX0_devicesThatFulfil_57 ?_
    refine z_iload_n 2 dX0_devicesThatFulfil_60 rfl ?_
    refine z_iald (v := (u.2 1 (ix p2))) 2 0 rfl rfl (by first | (with_reducible assumption) | assumption | decide) rfl dX0_devicesThatFulfil_61 ?_
    refine z_aload_n 0 dX0_devicesThatFulfil_62 rfl ?_
    refine z_get (C := RX0) (T := TX0) (N := 19) (v := .ref (a 1)) inwX0_devicesThatFulfil 0 rfl rfl 1 (by decide) (List.mem_of_getElem? (i := 1) rfl) rfl rfl dX0_devicesThatFulfil_63 ?_
    refine z_iload_n 3 dX0_devicesThatFulfil_66 rfl ?_
    refine z_iald (v := (u.2 1 (ix p3))) 2 0 rfl rfl (by first | (with_reducible assumption) | assumption | decide) rfl dX0_devicesThatFulfil_67 ?_
    refine z_iconst (v := (-1)) dX0_devicesThatFulfil_68 rfl ?_
    refine z_ixor dX0_devicesThatFulfil_69 ?_
    refine z_iand dX0_devicesThatFulfil_70 ?_
    exact hret _ () _ _ _ dX0_devicesThatFulfil_71 (by rw [r_X0_devicesThatFulfil, if_neg c_1_0, if_neg c_1_0b]) rfl
set_option maxHeartbeats 4000000 in
set_option maxRecDepth 100000 in
theorem c_X0_replaceKey (l : Launch) (D : va_G) (cI cZ : ClassId) (h : Nat) (a : Nat → Nat) (u : SX) (p1 p2 : Int32) (hpl : vp_in (r_X0_placeOf p1 p2) 80) (hlk : (u.2 15 (ix (r_X0_placeOf p1 p2))) = (-1) ∨ vp_in (u.2 15 (ix (r_X0_placeOf p1 p2))) 120) : zMv l yX0_replaceKey wsX0_replaceKey ({ frames := 1, cells := 0, slots := 0, locals := 21 } : Room) zTT D [(cI, .int), (cZ, .boolean)] (wX0 cI cZ h a u) [.ref h, .int p1, .int p2] (fun u2 : SX => u2 = s_X0_replaceKey u p1 p2) (fun u2 => (wX0 cI cZ h a u2)) 0 0 := by
  refine z_startV (cc := cX0_replaceKey) (n := 5) (own := RX0) (L0 := [(0, .ref h), (1, .int p1), (2, .int p2)]) (plainFor_of_name (by decide)) rfl rfl (Nat.le_of_ble_eq_true rfl) rfl (fun E hret => ?_)
  refine z_iload_n 1 dX0_replaceKey_0 rfl ?_
  refine z_iload_n 2 dX0_replaceKey_1 rfl ?_
  refine z_callSi (As := [.int p1, .int p2]) (st := []) (fun l => c_X0_placeOf l D _ _ p1 p2) zGok_TT (fun _ _ _ => trivial) (fun s args hts => va_cwS 2 hts gX0_replaceKey_X0_placeOf rfl rfl rfl (by decide +kernel) ⟨Nat.le_of_ble_eq_true rfl, Nat.le_of_ble_eq_true rfl⟩) rfl (Nat.le_of_ble_eq_true rfl) ⟨Nat.le_of_ble_eq_true rfl, Nat.le_of_ble_eq_true rfl⟩ dX0_replaceKey_2 rfl (fun r u2 hp => ?_)
  subst hp
  refine z_istore_n (L' := [(3, .int (r_X0_placeOf p1 p2)), (0, .ref h), (1, .int p1), (2, .int p2)]) dX0_replaceKey_5 (by decide) rfl ?_
  refine z_aload_n 1 dX0_replaceKey_6 rfl ?_
  refine z_get (C := RX0) (T := TX0) (N := 19) (v := .ref (a 15)) inwX0_replaceKey 0 rfl rfl 15 (by decide) (List.mem_of_getElem? (i := 1) rfl) rfl rfl dX0_replaceKey_7 ?_
  refine z_iload_n 0 dX0_replaceKey_10 rfl ?_
  refine z_iald (v := (u.2 15 (ix (r_X0_placeOf p1 p2)))) 12 0 rfl rfl (by first | (with_reducible assumption) | with_reducible exact hlk.resolve_left (by assumption) | assumption | decide) rfl dX0_replaceKey_11 ?_
  refine z_istore (L' := [(4, .int (u.2 15 (ix (r_X0_placeOf p1 p2)))), (3, .int (r_X0_placeOf p1 p2)), (0, .ref h), (1, .int p1), (2, .int p2)]) dX0_replaceKey_12 (by decide) rfl ?_
  refine z_iload 0 dX0_replaceKey_14 rfl ?_
  refine z_iconst (v := (-1)) dX0_replaceKey_16 rfl ?_
  refine z_icmp_eq 35 dX0_replaceKey_17 (by decide) (fun c_17_0 => ?_) (fun c_17_0 => ?_)
  ·
    refine z_aload_n 2 dX0_replaceKey_35 rfl ?_
    refine z_get (C := RX0) (T := TX0) (N := 19) (v := .ref (a 15)) inwX0_replaceKey 0 rfl rfl 15 (by decide) (List.mem_of_getElem? (i := 1) rfl) rfl rfl dX0_replaceKey_36 ?_
    refine z_iload_n 1 dX0_replaceKey_39 rfl ?_
    refine z_aload_n 2 dX0_replaceKey_40 rfl ?_
    refine z_get (C := RX0) (T := TX0) (N := 19) (v := .int (u.1 16)) inwX0_replaceKey 0 rfl rfl 16 (by decide) (List.mem_of_getElem? (i := 2) rfl) rfl rfl dX0_replaceKey_41 ?_
    refine z_iast (w' := (wX0 cI cZ h a (pG u 15 (ix (r_X0_placeOf p1 p2)) (u.1 16)))) 12 0 rfl rfl (by first | (with_reducible assumption) | with_reducible exact hlk.resolve_left (by assumption) | assumption | decide) (wX0_g15 _ _ _ _ _ _ _) dX0_replaceKey_44 ?_
    exact hret (pG u 15 (ix (r_X0_placeOf p1 p2)) (u.1 16)) _ _ _ dX0_replaceKey_45 (by rw [s_X0_replaceKey, if_pos c_17_0]) rfl
  ·
    refine z_aload_n 2 dX0_replaceKey_20 rfl ?_
    refine z_iload 0 dX0_replaceKey_21 rfl ?_
    refine z_callVi (As := [.int (u.2 15 (ix (r_X0_placeOf p1 p2)))]) (st := []) (fun l => c_X0_isStanding l D cI cZ h a u (u.2 15 (ix (r_X0_placeOf p1 p2))) (by first | (with_reducible assumption) | with_reducible exact hlk.resolve_left (by assumption) | assumption | decide)) zGok_TT (fun _ _ _ => trivial) (fun s args hts => cwV 1 hts gX0_replaceKey_X0_isStanding rfl rfl rfl (by decide +kernel) ⟨Nat.le_of_ble_eq_true rfl, Nat.le_of_ble_eq_true rfl⟩) (ci := 0) rfl rfl rfl rfl (Nat.le_of_ble_eq_true rfl) ⟨Nat.le_of_ble_eq_true rfl, Nat.le_of_ble_eq_true rfl⟩ dX0_replaceKey_23 rfl (fun r u2 hp => ?_)
    subst hp
    refine z_if_eq 35 dX0_replaceKey_26 (by decide) (fun c_26_1 => ?_) (fun c_26_1 => ?_)
    ·
      refine z_aload_n 2 dX0_replaceKey_35 rfl ?_
      refine z_get (C := RX0) (T := TX0) (N := 19) (v := .ref (a 15)) inwX0_replaceKey 0 rfl rfl 15 (by decide) (List.mem_of_getElem? (i := 1) rfl) rfl rfl dX0_replaceKey_36 ?_
      refine z_iload_n 1 dX0_replaceKey_39 rfl ?_
      refine z_aload_n 2 dX0_replaceKey_40 rfl ?_
      refine z_get (C := RX0) (T := TX0) (N := 19) (v := .int (u.1 16)) inwX0_replaceKey 0 rfl rfl 16 (by decide) (List.mem_of_getElem? (i := 2) rfl) rfl rfl dX0_replaceKey_41 ?_
      refine z_iast (w' := (wX0 cI cZ h a (pG u 15 (ix (r_X0_placeOf p1 p2)) (u.1 16)))) 12 0 rfl rfl (by first | (with_reducible assumption) | with_reducible exact hlk.resolve_left (by assumption) | assumption | decide) (wX0_g15 _ _ _ _ _ _ _) dX0_replaceKey_44 ?_
      exact hret (pG u 15 (ix (r_X0_placeOf p1 p2)) (u.1 16)) _ _ _ dX0_replaceKey_45 (by rw [s_X0_replaceKey, if_neg c_17_0, if_pos c_26_1]) rfl
    ·
      refine z_aload_n 2 dX0_replaceKey_29 rfl ?_
      refine z_iload 0 dX0_replaceKey_30 rfl ?_
      refine z_callVv (As := [.int (u.2 15 (ix (r_X0_placeOf p1 p2)))]) (st := []) (fun l => c_X0_withdraw l D cI cZ h a u (u.2 15 (ix (r_X0_placeOf p1 p2))) (by first | (with_reducible assumption) | with_reducible exact hlk.resolve_left (by assumption) | assumption | decide)) zGok_TT (fun _ _ _ => trivial) (fun s args hts => cwV 1 hts gX0_replaceKey_X0_withdraw rfl rfl rfl (by decide +kernel) ⟨Nat.le_of_ble_eq_true rfl, Nat.le_of_ble_eq_true rfl⟩) (ci := 0) rfl rfl rfl rfl (Nat.le_of_ble_eq_true rfl) ⟨Nat.le_of_ble_eq_true rfl, Nat.le_of_ble_eq_true rfl⟩ dX0_replaceKey_32 rfl (fun u2 hp => ?_)
      subst hp
      refine z_aload_n 2 dX0_replaceKey_35 rfl ?_
      refine z_get (C := RX0) (T := TX0) (N := 19) (v := .ref (a 15)) inwX0_replaceKey 0 rfl rfl 15 (by decide) (List.mem_of_getElem? (i := 1) rfl) rfl rfl dX0_replaceKey_36 ?_
      refine z_iload_n 1 dX0_replaceKey_39 rfl ?_
      refine z_aload_n 2 dX0_replaceKey_40 rfl ?_
      refine z_get (C := RX0) (T := TX0) (N := 19) (v := .int ((s_X0_withdraw u (u.2 15 (ix (r_X0_placeOf p1 p2)))).1 16)) inwX0_replaceKey 0 rfl rfl 16 (by decide) (List.mem_of_getElem? (i := 2) rfl) rfl rfl dX0_replaceKey_41 ?_
      refine z_iast (w' := (wX0 cI cZ h a (pG (s_X0_withdraw u (u.2 15 (ix (r_X0_placeOf p1 p2)))) 15 (ix (r_X0_placeOf p1 p2)) ((s_X0_withdraw u (u.2 15 (ix (r_X0_placeOf p1 p2)))).1 16)))) 12 0 rfl rfl (by first | (with_reducible assumption) | with_reducible exact hlk.resolve_left (by assumption) | assumption | decide) (wX0_g15 _ _ _ _ _ _ _) dX0_replaceKey_44 ?_
      exact hret (pG (s_X0_withdraw u (u.2 15 (ix (r_X0_placeOf p1 p2)))) 15 (ix (r_X0_placeOf p1 p2)) ((s_X0_withdraw u (u.2 15 (ix (r_X0_placeOf p1 p2)))).1 16)) _ _ _ dX0_replaceKey_45 (by rw [s_X0_replaceKey, if_neg c_17_0, if_neg c_26_1]) rfl
