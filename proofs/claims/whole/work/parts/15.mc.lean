set_option maxHeartbeats 4000000 in
set_option maxRecDepth 100000 in
theorem c_X1_look (l : Launch) (D : va_G) (cI cZ : ClassId) (h : Nat) (a : Nat → Nat) (u : SX)  (nd : Nat) (hnd : u.1 2 = nI nd) (hd : nd ≤ 16) (nn : Nat) (hnn : u.1 13 = nI nn) (hn : nn ≤ 120) : zMi l yX1_look wsX1_look ({ frames := 2, cells := 0, slots := 0, locals := 46 } : Room) zTT D [(cI, .int), (cZ, .boolean)] (wX1 cI cZ h a u) [.ref h] (fun (r : Int32) (u2 : SX) => r = r_X1_look u ∧ u2 = s_X1_look u) (fun u2 => (wX1 cI cZ h a u2)) 0 0 := by
  refine z_startI (cc := cX1_look) (n := 4) (own := RX1) (L0 := [(0, .ref h)]) (plainFor_of_name (by decide)) rfl rfl (Nat.le_of_ble_eq_true rfl) rfl (fun E hret => ?_)
  have hixnn : ix (u.1 13) = nn := by rw [hnn]; exact nI_clamp (by omega)
  have hixnd : ix (u.1 2) = nd := by rw [hnd]; exact nI_clamp (by omega)
  refine z_aload_n 0 dX1_look_0 rfl ?_
  refine z_get (C := RX1) (T := TX1) (N := 22) (v := .int (u.1 21)) inwX1_look 0 rfl rfl 21 (by decide) (List.mem_of_getElem? (i := 1) rfl) rfl rfl dX1_look_1 ?_
  refine z_istore_n (L' := [(1, .int (u.1 21)), (0, .ref h)]) dX1_look_4 (by decide) rfl ?_
  refine z_iconst (v := 0) dX1_look_5 rfl ?_
  refine z_istore_n (L' := [(2, .int 0), (1, .int (u.1 21)), (0, .ref h)]) dX1_look_6 (by decide) rfl ?_
  refine z_sub (L' := [(0, .ref h), (1, .int (u.1 21)), (2, .int 0)]) [2, 1, 0] rfl ?_
  have hloop7 : ∀ r k7 : Nat, k7 + r = nd → ZW E zTT ({ frames := 2, cells := 0, slots := 0, locals := 46 } : Room) cX1_look RX1 wsX1_look 4 D [(cI, .int), (cZ, .boolean)] 0 0 (wX1 cI cZ h a (l_X1_look_7 u k7)) 7 [(0, .ref h), (1, .int (u.1 21)), (2, .int (nI k7))] [] := by
    intro r
    induction r with
    | zero =>
      intro k7 hk7
      have hkN7 : nd = k7 := by omega
      subst hkN7
      have hbx : ((l_X1_look_7 u nd).1 2) = nI nd := by first | (rw [hx7, lf2_X1_look_7]; exact hnd) | (rw [lf2_X1_look_7]; exact hnd)
      have hbn : ((l_X1_look_7 u nd).1 13) = nI nn := by first | (rw [hx7, lf13_X1_look_7]; exact hnn) | (rw [lf13_X1_look_7]; exact hnn)
      refine z_iload_n 2 dX1_look_7 rfl ?_
      refine z_aload_n 0 dX1_look_8 rfl ?_
      refine z_get (C := RX1) (T := TX1) (N := 22) (v := .int ((l_X1_look_7 u nd).1 2)) inwX1_look 0 rfl rfl 2 (by decide) (List.mem_of_getElem? (i := 2) rfl) rfl rfl dX1_look_9 ?_
      refine z_icmp_ge 66 dX1_look_12 (by decide) (fun c_12_1 => ?_) (fun c_12_1 => ?_)
      ·
        refine z_aload_n 0 dX1_look_66 rfl ?_
        refine z_get (C := RX1) (T := TX1) (N := 22) (v := .int ((l_X1_look_7 u nd).1 21)) inwX1_look 0 rfl rfl 21 (by decide) (List.mem_of_getElem? (i := 1) rfl) rfl rfl dX1_look_67 ?_
        refine z_iload_n 1 dX1_look_70 rfl ?_
        refine z_isub dX1_look_71 ?_
        exact hret _ (l_X1_look_7 u nd) _ _ _ dX1_look_72 ⟨(by rw [r_X1_look, hixnd]), (by rw [s_X1_look, hixnd])⟩ rfl
      · exact absurd (by rw [hbx]; exact nI_le (Nat.le_refl _) (by omega)) c_12_1
    | succ r ih7 =>
      intro k7 hk7
      obtain ⟨x7, hx7⟩ : ∃ x, x = l_X1_look_7 u k7 := ⟨_, rfl⟩
      rw [← hx7]
      have hbx : (x7.1 2) = nI nd := by first | (rw [hx7, lf2_X1_look_7]; exact hnd) | (rw [lf2_X1_look_7]; exact hnd)
      have hbn : (x7.1 13) = nI nn := by first | (rw [hx7, lf13_X1_look_7]; exact hnn) | (rw [lf13_X1_look_7]; exact hnn)
      refine z_iload_n 2 dX1_look_7 rfl ?_
      refine z_aload_n 0 dX1_look_8 rfl ?_
      refine z_get (C := RX1) (T := TX1) (N := 22) (v := .int (x7.1 2)) inwX1_look 0 rfl rfl 2 (by decide) (List.mem_of_getElem? (i := 2) rfl) rfl rfl dX1_look_9 ?_
      refine z_icmp_ge 66 dX1_look_12 (by decide) (fun c_12_0 => ?_) (fun c_12_0 => ?_)
      · exact absurd c_12_0 (by rw [hbx]; exact nI_ge (by omega) (by omega))
      ·
        refine z_iconst (v := 0) dX1_look_15 rfl ?_
        refine z_istore_n (L' := [(3, .int 0), (0, .ref h), (1, .int (u.1 21)), (2, .int (nI k7))]) dX1_look_16 (by decide) rfl ?_
        refine z_sub (L' := [(0, .ref h), (1, .int (u.1 21)), (2, .int (nI k7)), (3, .int 0)]) [1, 2, 3, 0] rfl ?_
        have hloop17 : ∀ r k17 : Nat, k17 + r = nn → ZW E zTT ({ frames := 2, cells := 0, slots := 0, locals := 46 } : Room) cX1_look RX1 wsX1_look 4 D [(cI, .int), (cZ, .boolean)] 0 0 (wX1 cI cZ h a (l_X1_look_17 u k7 x7 k17)) 17 [(0, .ref h), (1, .int (u.1 21)), (2, .int (nI k7)), (3, .int (nI k17))] [] := by
          intro r
          induction r with
          | zero =>
            intro k17 hk17
            have hkN17 : nn = k17 := by omega
            subst hkN17
            have hbx : ((l_X1_look_17 u k7 x7 nn).1 13) = nI nn := by first | (rw [hx17, lf13_X1_look_17]; exact hbn) | (rw [lf13_X1_look_17]; exact hbn)
            refine z_iload_n 3 dX1_look_17 rfl ?_
            refine z_aload_n 0 dX1_look_18 rfl ?_
            refine z_get (C := RX1) (T := TX1) (N := 22) (v := .int ((l_X1_look_17 u k7 x7 nn).1 13)) inwX1_look 0 rfl rfl 13 (by decide) (List.mem_of_getElem? (i := 3) rfl) rfl rfl dX1_look_19 ?_
            refine z_icmp_ge 60 dX1_look_22 (by decide) (fun c_22_3 => ?_) (fun c_22_3 => ?_)
            ·
              refine z_iinc (v := (nI (k7 + 1))) (L' := [(2, .int (nI (k7 + 1))), (0, .ref h), (1, .int (u.1 21)), (3, .int (nI nn))]) 2 dX1_look_60 rfl (nI_1 k7) (by decide) rfl ?_
              refine z_goto 7 dX1_look_63 (by decide) ?_
              have hb7 : l_X1_look_7 u (k7 + 1) = (l_X1_look_17 u k7 x7 nn) := by
                show b_X1_look_7 u k7 (l_X1_look_7 u k7) = _
                rw [← hx7, b_X1_look_7, hixnn]
              refine z_sub (L' := [(0, .ref h), (1, .int (u.1 21)), (2, .int (nI (k7 + 1)))]) [1, 2, 0] rfl ?_
              have ih2 := ih7 (k7 + 1) (by omega)
              rw [hb7] at ih2
              exact ih2
            · exact absurd (by rw [hbx]; exact nI_le (Nat.le_refl _) (by omega)) c_22_3
          | succ r ih17 =>
            intro k17 hk17
            obtain ⟨x17, hx17⟩ : ∃ x, x = l_X1_look_17 u k7 x7 k17 := ⟨_, rfl⟩
            rw [← hx17]
            have hbx : (x17.1 13) = nI nn := by first | (rw [hx17, lf13_X1_look_17]; exact hbn) | (rw [lf13_X1_look_17]; exact hbn)
            refine z_iload_n 3 dX1_look_17 rfl ?_
            refine z_aload_n 0 dX1_look_18 rfl ?_
            refine z_get (C := RX1) (T := TX1) (N := 22) (v := .int (x17.1 13)) inwX1_look 0 rfl rfl 13 (by decide) (List.mem_of_getElem? (i := 3) rfl) rfl rfl dX1_look_19 ?_
            refine z_icmp_ge 60 dX1_look_22 (by decide) (fun c_22_2 => ?_) (fun c_22_2 => ?_)
            · exact absurd c_22_2 (by rw [hbx]; exact nI_ge (by omega) (by omega))
            ·
              refine z_aload_n 0 dX1_look_25 rfl ?_
              refine z_get (C := RX1) (T := TX1) (N := 22) (v := .ref (a 19)) inwX1_look 0 rfl rfl 19 (by decide) (List.mem_of_getElem? (i := 4) rfl) rfl rfl dX1_look_26 ?_
              refine z_iload_n 3 dX1_look_29 rfl ?_
              refine z_iald (v := (x17.2 19 (ix (nI k17)))) 16 0 rfl rfl (vp_in_nI (by omega) (by omega)) rfl dX1_look_30 ?_
              refine z_iload_n 2 dX1_look_31 rfl ?_
              refine z_ishr dX1_look_32 ?_
              refine z_iconst (v := 1) dX1_look_33 rfl ?_
              refine z_iand dX1_look_34 ?_
              refine z_iconst (v := 1) dX1_look_35 rfl ?_
              refine z_icmp_ne 54 dX1_look_36 (by decide) (fun c_36_4 => ?_) (fun c_36_4 => ?_)
              ·
                refine z_iinc (v := (nI (k17 + 1))) (L' := [(3, .int (nI (k17 + 1))), (0, .ref h), (1, .int (u.1 21)), (2, .int (nI k7))]) 3 dX1_look_54 rfl (nI_1 k17) (by decide) rfl ?_
                refine z_goto 17 dX1_look_57 (by decide) ?_
                have hb17 : l_X1_look_17 u k7 x7 (k17 + 1) = x17 := by
                  show b_X1_look_17 u k7 x7 k17 (l_X1_look_17 u k7 x7 k17) = _
                  rw [← hx17, b_X1_look_17, if_neg c_36_4]
                refine z_sub (L' := [(0, .ref h), (1, .int (u.1 21)), (2, .int (nI k7)), (3, .int (nI (k17 + 1)))]) [1, 2, 3, 0] rfl ?_
                have ih2 := ih17 (k17 + 1) (by omega)
                rw [hb17] at ih2
                exact ih2
              ·
                refine z_aload_n 0 dX1_look_39 rfl ?_
                refine z_iload_n 2 dX1_look_40 rfl ?_
                refine z_iload_n 3 dX1_look_41 rfl ?_
                refine z_callVi (As := [.int (nI k7), .int (nI k17)]) (st := []) (fun l => c_X1_can l D cI cZ h a x17 (nI k7) (nI k17) (by first | (with_reducible assumption) | with_reducible exact vp_in_nI (by omega) (by omega) | with_reducible exact zmdev hnd hd (by assumption) | with_reducible exact zmnot hnn hn (by assumption) | exact hnd | exact hnn | assumption | decide) (by first | (with_reducible assumption) | with_reducible exact vp_in_nI (by omega) (by omega) | with_reducible exact zmdev hnd hd (by assumption) | with_reducible exact zmnot hnn hn (by assumption) | exact hnd | exact hnn | assumption | decide)) zGok_TT (fun _ _ _ => trivial) (fun s args hts => cwV 2 hts gX1_look_X1_can rfl rfl rfl (by decide +kernel) ⟨Nat.le_of_ble_eq_true rfl, Nat.le_of_ble_eq_true rfl⟩) (ci := 1) rfl rfl rfl rfl (Nat.le_of_ble_eq_true rfl) ⟨Nat.le_of_ble_eq_true rfl, Nat.le_of_ble_eq_true rfl⟩ dX1_look_42 rfl (fun r u2 hp => ?_)
                subst hp
                refine z_if_eq 54 dX1_look_45 (by decide) (fun c_45_5 => ?_) (fun c_45_5 => ?_)
                ·
                  refine z_iinc (v := (nI (k17 + 1))) (L' := [(3, .int (nI (k17 + 1))), (0, .ref h), (1, .int (u.1 21)), (2, .int (nI k7))]) 3 dX1_look_54 rfl (nI_1 k17) (by decide) rfl ?_
                  refine z_goto 17 dX1_look_57 (by decide) ?_
                  have hb17 : l_X1_look_17 u k7 x7 (k17 + 1) = x17 := by
                    show b_X1_look_17 u k7 x7 k17 (l_X1_look_17 u k7 x7 k17) = _
                    rw [← hx17, b_X1_look_17, if_pos c_36_4, if_pos c_45_5]
                  refine z_sub (L' := [(0, .ref h), (1, .int (u.1 21)), (2, .int (nI k7)), (3, .int (nI (k17 + 1)))]) [1, 2, 3, 0] rfl ?_
                  have ih2 := ih17 (k17 + 1) (by omega)
                  rw [hb17] at ih2
                  exact ih2
                ·
                  refine z_aload_n 0 dX1_look_48 rfl ?_
                  refine z_iload_n 2 dX1_look_49 rfl ?_
                  refine z_iload_n 3 dX1_look_50 rfl ?_
                  refine z_callVv (As := [.int (nI k7), .int (nI k17)]) (st := []) (fun l => c_X1_deliver l D cI cZ h a x17 (nI k7) (nI k17) (by first | (with_reducible assumption) | with_reducible exact vp_in_nI (by omega) (by omega) | with_reducible exact zmdev hnd hd (by assumption) | with_reducible exact zmnot hnn hn (by assumption) | exact hnd | exact hnn | assumption | decide) (by first | (with_reducible assumption) | with_reducible exact vp_in_nI (by omega) (by omega) | with_reducible exact zmdev hnd hd (by assumption) | with_reducible exact zmnot hnn hn (by assumption) | exact hnd | exact hnn | assumption | decide)) zGok_TT (fun _ _ _ => trivial) (fun s args hts => cwV 2 hts gX1_look_X1_deliver rfl rfl rfl (by decide +kernel) ⟨Nat.le_of_ble_eq_true rfl, Nat.le_of_ble_eq_true rfl⟩) (ci := 1) rfl rfl rfl rfl (Nat.le_of_ble_eq_true rfl) ⟨Nat.le_of_ble_eq_true rfl, Nat.le_of_ble_eq_true rfl⟩ dX1_look_51 rfl (fun u2 hp => ?_)
                  subst hp
                  refine z_iinc (v := (nI (k17 + 1))) (L' := [(3, .int (nI (k17 + 1))), (0, .ref h), (1, .int (u.1 21)), (2, .int (nI k7))]) 3 dX1_look_54 rfl (nI_1 k17) (by decide) rfl ?_
                  refine z_goto 17 dX1_look_57 (by decide) ?_
                  have hb17 : l_X1_look_17 u k7 x7 (k17 + 1) = (s_X1_deliver x17 (nI k7) (nI k17)) := by
                    show b_X1_look_17 u k7 x7 k17 (l_X1_look_17 u k7 x7 k17) = _
                    rw [← hx17, b_X1_look_17, if_pos c_36_4, if_neg c_45_5]
                  refine z_sub (L' := [(0, .ref h), (1, .int (u.1 21)), (2, .int (nI k7)), (3, .int (nI (k17 + 1)))]) [1, 2, 3, 0] rfl ?_
                  have ih2 := ih17 (k17 + 1) (by omega)
                  rw [hb17] at ih2
                  exact ih2
        exact hloop17 nn 0 (by omega)
  exact hloop7 nd 0 (by omega)
set_option maxHeartbeats 4000000 in
set_option maxRecDepth 100000 in
theorem c_X1_end (l : Launch) (D : va_G) (cI cZ : ClassId) (h : Nat) (a : Nat → Nat) (u : SX) (p1 : Int32) (hp1 : vp_in p1 120) : zMv l yX1_end wsX1_end ({ frames := 0, cells := 0, slots := 0, locals := 0 } : Room) zTT D [(cI, .int), (cZ, .boolean)] (wX1 cI cZ h a u) [.ref h, .int p1] (fun u2 : SX => u2 = s_X1_end u p1) (fun u2 => (wX1 cI cZ h a u2)) 0 0 := by
  refine z_startV (cc := cX1_end) (n := 2) (own := RX1) (L0 := [(0, .ref h), (1, .int p1)]) (plainFor_of_name (by decide)) rfl rfl (Nat.le_of_ble_eq_true rfl) rfl (fun E hret => ?_)
  refine z_aload_n 0 dX1_end_0 rfl ?_
  refine z_get (C := RX1) (T := TX1) (N := 22) (v := .ref (a 18)) inwX1_end 0 rfl rfl 18 (by decide) (List.mem_of_getElem? (i := 1) rfl) rfl rfl dX1_end_1 ?_
  refine z_iload_n 1 dX1_end_4 rfl ?_
  refine z_iconst (v := 1) dX1_end_5 rfl ?_
  refine z_zast (w' := (wX1 cI cZ h a (pG u 18 (ix p1) (vp_nar .boolean 1)))) 15 1 rfl rfl (by first | (with_reducible assumption) | assumption | decide) (wX1_g18 _ _ _ _ _ _ _) dX1_end_6 ?_
  refine z_aload_n 0 dX1_end_7 rfl ?_
  refine z_get (C := RX1) (T := TX1) (N := 22) (v := .ref (a 19)) inwX1_end 0 rfl rfl 19 (by decide) (List.mem_of_getElem? (i := 2) rfl) rfl rfl dX1_end_8 ?_
  refine z_iload_n 1 dX1_end_11 rfl ?_
  refine z_iconst (v := 0) dX1_end_12 rfl ?_
  refine z_iast (w' := (wX1 cI cZ h a (pG (pG u 18 (ix p1) (vp_nar .boolean 1)) 19 (ix p1) 0))) 16 0 rfl rfl (by first | (with_reducible assumption) | assumption | decide) (wX1_g19 _ _ _ _ _ _ _) dX1_end_13 ?_
  exact hret (pG (pG u 18 (ix p1) (vp_nar .boolean 1)) 19 (ix p1) 0) _ _ _ dX1_end_14 (by rw [s_X1_end]) rfl
