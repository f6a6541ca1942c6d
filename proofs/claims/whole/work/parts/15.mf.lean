set_option maxHeartbeats 4000000 in
set_option maxRecDepth 100000 in
theorem c_X1_standingNow (l : Launch) (D : va_G) (cI cZ : ClassId) (h : Nat) (a : Nat → Nat) (u : SX) (p1 p2 : Int32) (nn : Nat) (hnn : u.1 13 = nI nn) (hn : nn ≤ 120) : zMi l yX1_standingNow wsX1_standingNow ({ frames := 0, cells := 0, slots := 0, locals := 0 } : Room) zTT D [(cI, .int), (cZ, .boolean)] (wX1 cI cZ h a u) [.ref h, .int p1, .int p2] (fun (r : Int32) (_ : Unit) => r = r_X1_standingNow u p1 p2) (fun _ => (wX1 cI cZ h a u)) 0 0 := by
  refine z_startI (cc := cX1_standingNow) (n := 5) (own := RX1) (L0 := [(0, .ref h), (1, .int p1), (2, .int p2)]) (plainFor_of_name (by decide)) rfl rfl (Nat.le_of_ble_eq_true rfl) rfl (fun E hret => ?_)
  have hixnn : ix (u.1 13) = nn := by rw [hnn]; exact nI_clamp (by omega)
  refine z_iconst (v := (-1)) dX1_standingNow_0 rfl ?_
  refine z_istore_n (L' := [(3, .int (-1)), (0, .ref h), (1, .int p1), (2, .int p2)]) dX1_standingNow_1 (by decide) rfl ?_
  refine z_iconst (v := 0) dX1_standingNow_2 rfl ?_
  refine z_istore (L' := [(4, .int 0), (3, .int (-1)), (0, .ref h), (1, .int p1), (2, .int p2)]) dX1_standingNow_3 (by decide) rfl ?_
  refine z_sub (L' := [(0, .ref h), (1, .int p1), (2, .int p2), (3, .int (-1)), (4, .int 0)]) [2, 3, 4, 1, 0] rfl ?_
  have hloop5 : ∀ r k5 : Nat, k5 + r = nn → ZW E zTT ({ frames := 0, cells := 0, slots := 0, locals := 0 } : Room) cX1_standingNow RX1 wsX1_standingNow 5 D [(cI, .int), (cZ, .boolean)] 0 0 (wX1 cI cZ h a u) 5 [(0, .ref h), (1, .int p1), (2, .int p2), (3, .int (l_X1_standingNow_5 u p1 p2 k5)), (4, .int (nI k5))] [] := by
    intro r
    induction r with
    | zero =>
      intro k5 hk5
      have hkN5 : nn = k5 := by omega
      subst hkN5
      refine z_iload 4 dX1_standingNow_5 rfl ?_
      refine z_aload_n 0 dX1_standingNow_7 rfl ?_
      refine z_get (C := RX1) (T := TX1) (N := 22) (v := .int (u.1 13)) inwX1_standingNow 0 rfl rfl 13 (by decide) (List.mem_of_getElem? (i := 1) rfl) rfl rfl dX1_standingNow_8 ?_
      refine z_icmp_ge 59 dX1_standingNow_11 (by decide) (fun c_11_1 => ?_) (fun c_11_1 => ?_)
      ·
        refine z_iload_n 3 dX1_standingNow_59 rfl ?_
        exact hret _ () _ _ _ dX1_standingNow_60 (by rw [r_X1_standingNow, hixnn]) rfl
      · exact absurd (by rw [hnn]; exact nI_le (Nat.le_refl _) (by omega)) c_11_1
    | succ r ih5 =>
      intro k5 hk5
      obtain ⟨x5, hx5⟩ : ∃ x, x = l_X1_standingNow_5 u p1 p2 k5 := ⟨_, rfl⟩
      rw [← hx5]
      refine z_iload 4 dX1_standingNow_5 rfl ?_
      refine z_aload_n 0 dX1_standingNow_7 rfl ?_
      refine z_get (C := RX1) (T := TX1) (N := 22) (v := .int (u.1 13)) inwX1_standingNow 0 rfl rfl 13 (by decide) (List.mem_of_getElem? (i := 1) rfl) rfl rfl dX1_standingNow_8 ?_
      refine z_icmp_ge 59 dX1_standingNow_11 (by decide) (fun c_11_0 => ?_) (fun c_11_0 => ?_)
      · exact absurd c_11_0 (by rw [hnn]; exact nI_ge (by omega) (by omega))
      ·
        refine z_aload_n 0 dX1_standingNow_14 rfl ?_
        refine z_get (C := RX1) (T := TX1) (N := 22) (v := .ref (a 16)) inwX1_standingNow 0 rfl rfl 16 (by decide) (List.mem_of_getElem? (i := 2) rfl) rfl rfl dX1_standingNow_15 ?_
        refine z_iload 4 dX1_standingNow_18 rfl ?_
        refine z_iald (v := (u.2 16 (ix (nI k5)))) 13 0 rfl rfl (vp_in_nI (by omega) (by omega)) rfl dX1_standingNow_20 ?_
        refine z_iload_n 1 dX1_standingNow_21 rfl ?_
        refine z_icmp_ne 51 dX1_standingNow_22 (by decide) (fun c_22_2 => ?_) (fun c_22_2 => ?_)
        ·
          refine z_iload_n 3 dX1_standingNow_51 rfl ?_
          refine z_istore_n (L' := [(3, .int x5), (0, .ref h), (1, .int p1), (2, .int p2), (4, .int (nI k5))]) dX1_standingNow_52 (by decide) rfl ?_
          refine z_iinc (v := (nI (k5 + 1))) (L' := [(4, .int (nI (k5 + 1))), (3, .int x5), (0, .ref h), (1, .int p1), (2, .int p2)]) 4 dX1_standingNow_53 rfl (nI_1 k5) (by decide) rfl ?_
          refine z_goto 5 dX1_standingNow_56 (by decide) ?_
          have hb5 : l_X1_standingNow_5 u p1 p2 (k5 + 1) = x5 := by
            show b_X1_standingNow_5 u p1 p2 k5 (l_X1_standingNow_5 u p1 p2 k5) = _
            rw [← hx5, b_X1_standingNow_5, if_neg c_22_2]
          refine z_sub (L' := [(0, .ref h), (1, .int p1), (2, .int p2), (3, .int x5), (4, .int (nI (k5 + 1)))]) [2, 3, 4, 1, 0] rfl ?_
          have ih2 := ih5 (k5 + 1) (by omega)
          rw [hb5] at ih2
          exact ih2
        ·
          refine z_aload_n 0 dX1_standingNow_25 rfl ?_
          refine z_get (C := RX1) (T := TX1) (N := 22) (v := .ref (a 17)) inwX1_standingNow 0 rfl rfl 17 (by decide) (List.mem_of_getElem? (i := 3) rfl) rfl rfl dX1_standingNow_26 ?_
          refine z_iload 4 dX1_standingNow_29 rfl ?_
          refine z_iald (v := (u.2 17 (ix (nI k5)))) 14 0 rfl rfl (vp_in_nI (by omega) (by omega)) rfl dX1_standingNow_31 ?_
          refine z_iload_n 2 dX1_standingNow_32 rfl ?_
          refine z_icmp_ne 51 dX1_standingNow_33 (by decide) (fun c_33_3 => ?_) (fun c_33_3 => ?_)
          ·
            refine z_iload_n 3 dX1_standingNow_51 rfl ?_
            refine z_istore_n (L' := [(3, .int x5), (0, .ref h), (1, .int p1), (2, .int p2), (4, .int (nI k5))]) dX1_standingNow_52 (by decide) rfl ?_
            refine z_iinc (v := (nI (k5 + 1))) (L' := [(4, .int (nI (k5 + 1))), (3, .int x5), (0, .ref h), (1, .int p1), (2, .int p2)]) 4 dX1_standingNow_53 rfl (nI_1 k5) (by decide) rfl ?_
            refine z_goto 5 dX1_standingNow_56 (by decide) ?_
            have hb5 : l_X1_standingNow_5 u p1 p2 (k5 + 1) = x5 := by
              show b_X1_standingNow_5 u p1 p2 k5 (l_X1_standingNow_5 u p1 p2 k5) = _
              rw [← hx5, b_X1_standingNow_5, if_pos c_22_2, if_neg c_33_3]
            refine z_sub (L' := [(0, .ref h), (1, .int p1), (2, .int p2), (3, .int x5), (4, .int (nI (k5 + 1)))]) [2, 3, 4, 1, 0] rfl ?_
            have ih2 := ih5 (k5 + 1) (by omega)
            rw [hb5] at ih2
            exact ih2
          ·
            refine z_aload_n 0 dX1_standingNow_36 rfl ?_
            refine z_get (C := RX1) (T := TX1) (N := 22) (v := .ref (a 18)) inwX1_standingNow 0 rfl rfl 18 (by decide) (List.mem_of_getElem? (i := 4) rfl) rfl rfl dX1_standingNow_37 ?_
            refine z_iload 4 dX1_standingNow_40 rfl ?_
            refine z_zald (v := (u.2 18 (ix (nI k5)))) 15 1 rfl rfl (vp_in_nI (by omega) (by omega)) rfl dX1_standingNow_42 ?_
            refine z_if_ne 51 dX1_standingNow_43 (by decide) (fun c_43_4 => ?_) (fun c_43_4 => ?_)
            ·
              refine z_iload_n 3 dX1_standingNow_51 rfl ?_
              refine z_istore_n (L' := [(3, .int x5), (0, .ref h), (1, .int p1), (2, .int p2), (4, .int (nI k5))]) dX1_standingNow_52 (by decide) rfl ?_
              refine z_iinc (v := (nI (k5 + 1))) (L' := [(4, .int (nI (k5 + 1))), (3, .int x5), (0, .ref h), (1, .int p1), (2, .int p2)]) 4 dX1_standingNow_53 rfl (nI_1 k5) (by decide) rfl ?_
              refine z_goto 5 dX1_standingNow_56 (by decide) ?_
              have hb5 : l_X1_standingNow_5 u p1 p2 (k5 + 1) = x5 := by
                show b_X1_standingNow_5 u p1 p2 k5 (l_X1_standingNow_5 u p1 p2 k5) = _
                rw [← hx5, b_X1_standingNow_5, if_pos c_22_2, if_pos c_33_3, if_neg c_43_4]
              refine z_sub (L' := [(0, .ref h), (1, .int p1), (2, .int p2), (3, .int x5), (4, .int (nI (k5 + 1)))]) [2, 3, 4, 1, 0] rfl ?_
              have ih2 := ih5 (k5 + 1) (by omega)
              rw [hb5] at ih2
              exact ih2
            ·
              refine z_iload 4 dX1_standingNow_46 rfl ?_
              refine z_goto 52 dX1_standingNow_48 (by decide) ?_
              refine z_istore_n (L' := [(3, .int (nI k5)), (0, .ref h), (1, .int p1), (2, .int p2), (4, .int (nI k5))]) dX1_standingNow_52 (by decide) rfl ?_
              refine z_iinc (v := (nI (k5 + 1))) (L' := [(4, .int (nI (k5 + 1))), (3, .int (nI k5)), (0, .ref h), (1, .int p1), (2, .int p2)]) 4 dX1_standingNow_53 rfl (nI_1 k5) (by decide) rfl ?_
              refine z_goto 5 dX1_standingNow_56 (by decide) ?_
              have hb5 : l_X1_standingNow_5 u p1 p2 (k5 + 1) = (nI k5) := by
                show b_X1_standingNow_5 u p1 p2 k5 (l_X1_standingNow_5 u p1 p2 k5) = _
                rw [← hx5, b_X1_standingNow_5, if_pos c_22_2, if_pos c_33_3, if_pos c_43_4]
              refine z_sub (L' := [(0, .ref h), (1, .int p1), (2, .int p2), (3, .int (nI k5)), (4, .int (nI (k5 + 1)))]) [2, 3, 4, 1, 0] rfl ?_
              have ih2 := ih5 (k5 + 1) (by omega)
              rw [hb5] at ih2
              exact ih2
  exact hloop5 nn 0 (by omega)
set_option maxHeartbeats 4000000 in
set_option maxRecDepth 100000 in
theorem c_X1_add (l : Launch) (D : va_G) (cI cZ : ClassId) (h : Nat) (a : Nat → Nat) (u : SX) (p1 p2 p3 p4 p5 : Int32) (nd : Nat) (hnd : u.1 2 = nI nd) (hd : nd ≤ 16) (nn : Nat) (hnn : u.1 13 = nI nn) (hn : nn ≤ 120) (hlt : nn < 120) : zMi l yX1_add wsX1_add ({ frames := 3, cells := 0, slots := 0, locals := 69 } : Room) zTT D [(cI, .int), (cZ, .boolean)] (wX1 cI cZ h a u) [.ref h, .int p1, .int p2, .int p3, .int p4, .int p5] (fun (r : Int32) (u2 : SX) => r = r_X1_add u p1 p2 p3 p4 p5 ∧ u2 = s_X1_add u p1 p2 p3 p4 p5) (fun u2 => (wX1 cI cZ h a u2)) 0 0 := by
  refine z_startI (cc := cX1_add) (n := 6) (own := RX1) (L0 := [(0, .ref h), (1, .int p1), (2, .int p2), (3, .int p3), (4, .int p4), (5, .int p5)]) (plainFor_of_name (by decide)) rfl rfl (Nat.le_of_ble_eq_true rfl) rfl (fun E hret => ?_)
  have hixnn : ix (u.1 13) = nn := by rw [hnn]; exact nI_clamp (by omega)
  have hixnd : ix (u.1 2) = nd := by rw [hnd]; exact nI_clamp (by omega)
  refine z_aload_n 0 dX1_add_0 rfl ?_
  refine z_get (C := RX1) (T := TX1) (N := 22) (v := .ref (a 16)) inwX1_add 0 rfl rfl 16 (by decide) (List.mem_of_getElem? (i := 1) rfl) rfl rfl dX1_add_1 ?_
  refine z_aload_n 0 dX1_add_4 rfl ?_
  refine z_get (C := RX1) (T := TX1) (N := 22) (v := .int (u.1 13)) inwX1_add 0 rfl rfl 13 (by decide) (List.mem_of_getElem? (i := 2) rfl) rfl rfl dX1_add_5 ?_
  refine z_iload_n 1 dX1_add_8 rfl ?_
  refine z_iast (w' := (wX1 cI cZ h a (pG u 16 (ix (u.1 13)) p1))) 13 0 rfl rfl (by first | (with_reducible assumption) | with_reducible exact zmdev hnd hd (by assumption) | with_reducible exact zmnot hnn hn (by assumption) | with_reducible exact zroomM hnn hlt | exact hnd | exact hnn | assumption | decide) (wX1_g16 _ _ _ _ _ _ _) dX1_add_9 ?_
  refine z_aload_n 0 dX1_add_10 rfl ?_
  refine z_get (C := RX1) (T := TX1) (N := 22) (v := .ref (a 17)) inwX1_add 0 rfl rfl 17 (by decide) (List.mem_of_getElem? (i := 3) rfl) rfl rfl dX1_add_11 ?_
  refine z_aload_n 0 dX1_add_14 rfl ?_
  refine z_get (C := RX1) (T := TX1) (N := 22) (v := .int (u.1 13)) inwX1_add 0 rfl rfl 13 (by decide) (List.mem_of_getElem? (i := 2) rfl) rfl rfl dX1_add_15 ?_
  refine z_iload_n 2 dX1_add_18 rfl ?_
  refine z_iast (w' := (wX1 cI cZ h a (pG (pG u 16 (ix (u.1 13)) p1) 17 (ix (u.1 13)) p2))) 14 0 rfl rfl (by first | (with_reducible assumption) | with_reducible exact zmdev hnd hd (by assumption) | with_reducible exact zmnot hnn hn (by assumption) | with_reducible exact zroomM hnn hlt | exact hnd | exact hnn | assumption | decide) (wX1_g17 _ _ _ _ _ _ _) dX1_add_19 ?_
  refine z_aload_n 0 dX1_add_20 rfl ?_
  refine z_get (C := RX1) (T := TX1) (N := 22) (v := .ref (a 14)) inwX1_add 0 rfl rfl 14 (by decide) (List.mem_of_getElem? (i := 4) rfl) rfl rfl dX1_add_21 ?_
  refine z_aload_n 0 dX1_add_24 rfl ?_
  refine z_get (C := RX1) (T := TX1) (N := 22) (v := .int (u.1 13)) inwX1_add 0 rfl rfl 13 (by decide) (List.mem_of_getElem? (i := 2) rfl) rfl rfl dX1_add_25 ?_
  refine z_iload_n 3 dX1_add_28 rfl ?_
  refine z_zast (w' := (wX1 cI cZ h a (pG (pG (pG u 16 (ix (u.1 13)) p1) 17 (ix (u.1 13)) p2) 14 (ix (u.1 13)) (vp_nar .boolean p3)))) 11 1 rfl rfl (by first | (with_reducible assumption) | with_reducible exact zmdev hnd hd (by assumption) | with_reducible exact zmnot hnn hn (by assumption) | with_reducible exact zroomM hnn hlt | exact hnd | exact hnn | assumption | decide) (wX1_g14 _ _ _ _ _ _ _) dX1_add_29 ?_
  refine z_aload_n 0 dX1_add_30 rfl ?_
  refine z_get (C := RX1) (T := TX1) (N := 22) (v := .ref (a 15)) inwX1_add 0 rfl rfl 15 (by decide) (List.mem_of_getElem? (i := 5) rfl) rfl rfl dX1_add_31 ?_
  refine z_aload_n 0 dX1_add_34 rfl ?_
  refine z_get (C := RX1) (T := TX1) (N := 22) (v := .int (u.1 13)) inwX1_add 0 rfl rfl 13 (by decide) (List.mem_of_getElem? (i := 2) rfl) rfl rfl dX1_add_35 ?_
  refine z_aload_n 0 dX1_add_38 rfl ?_
  refine z_get (C := RX1) (T := TX1) (N := 22) (v := .int (u.1 1)) inwX1_add 0 rfl rfl 1 (by decide) (List.mem_of_getElem? (i := 6) rfl) rfl rfl dX1_add_39 ?_
  refine z_iload 4 dX1_add_42 rfl ?_
  refine z_iadd dX1_add_44 ?_
  refine z_iast (w' := (wX1 cI cZ h a (pG (pG (pG (pG u 16 (ix (u.1 13)) p1) 17 (ix (u.1 13)) p2) 14 (ix (u.1 13)) (vp_nar .boolean p3)) 15 (ix (u.1 13)) ((u.1 1) + p4)))) 12 0 rfl rfl (by first | (with_reducible assumption) | with_reducible exact zmdev hnd hd (by assumption) | with_reducible exact zmnot hnn hn (by assumption) | with_reducible exact zroomM hnn hlt | exact hnd | exact hnn | assumption | decide) (wX1_g15 _ _ _ _ _ _ _) dX1_add_45 ?_
  refine z_aload_n 0 dX1_add_46 rfl ?_
  refine z_get (C := RX1) (T := TX1) (N := 22) (v := .ref (a 19)) inwX1_add 0 rfl rfl 19 (by decide) (List.mem_of_getElem? (i := 7) rfl) rfl rfl dX1_add_47 ?_
  refine z_aload_n 0 dX1_add_50 rfl ?_
  refine z_get (C := RX1) (T := TX1) (N := 22) (v := .int (u.1 13)) inwX1_add 0 rfl rfl 13 (by decide) (List.mem_of_getElem? (i := 2) rfl) rfl rfl dX1_add_51 ?_
  refine z_iload 5 dX1_add_54 rfl ?_
  refine z_iast (w' := (wX1 cI cZ h a (pG (pG (pG (pG (pG u 16 (ix (u.1 13)) p1) 17 (ix (u.1 13)) p2) 14 (ix (u.1 13)) (vp_nar .boolean p3)) 15 (ix (u.1 13)) ((u.1 1) + p4)) 19 (ix (u.1 13)) p5))) 16 0 rfl rfl (by first | (with_reducible assumption) | with_reducible exact zmdev hnd hd (by assumption) | with_reducible exact zmnot hnn hn (by assumption) | with_reducible exact zroomM hnn hlt | exact hnd | exact hnn | assumption | decide) (wX1_g19 _ _ _ _ _ _ _) dX1_add_56 ?_
  refine z_aload_n 0 dX1_add_57 rfl ?_
  refine z_dup dX1_add_58 rfl ?_
  refine z_get (C := RX1) (T := TX1) (N := 22) (v := .int (u.1 13)) inwX1_add 0 rfl rfl 13 (by decide) (List.mem_of_getElem? (i := 2) rfl) rfl rfl dX1_add_59 ?_
  refine z_iconst (v := 1) dX1_add_62 rfl ?_
  refine z_iadd dX1_add_63 ?_
  refine z_put (C := RX1) (T := TX1) (N := 22) (v := .int ((u.1 13) + 1)) (w' := (wX1 cI cZ h a (pF (pG (pG (pG (pG (pG u 16 (ix (u.1 13)) p1) 17 (ix (u.1 13)) p2) 14 (ix (u.1 13)) (vp_nar .boolean p3)) 15 (ix (u.1 13)) ((u.1 1) + p4)) 19 (ix (u.1 13)) p5) 13 ((u.1 13) + 1)))) inwX1_add 0 rfl rfl 13 (by decide) (List.mem_of_getElem? (i := 2) rfl) rfl tyX1 tyX1_ok nmX1 rfl rfl rfl (Nat.le_of_ble_eq_true rfl) (wX1_p13 _ _ _ _ _ _) dX1_add_64 ?_
  refine z_aload_n 0 dX1_add_67 rfl ?_
  refine z_callVi (As := []) (st := []) (fun l => c_X1_look l D cI cZ h a (pF (pG (pG (pG (pG (pG u 16 (ix (u.1 13)) p1) 17 (ix (u.1 13)) p2) 14 (ix (u.1 13)) (vp_nar .boolean p3)) 15 (ix (u.1 13)) ((u.1 1) + p4)) 19 (ix (u.1 13)) p5) 13 ((u.1 13) + 1))  nd (by first | (with_reducible assumption) | with_reducible exact zmdev hnd hd (by assumption) | with_reducible exact zmnot hnn hn (by assumption) | with_reducible exact zroomM hnn hlt | exact hnd | exact hnn | assumption | decide) (by first | (with_reducible assumption) | with_reducible exact zmdev hnd hd (by assumption) | with_reducible exact zmnot hnn hn (by assumption) | with_reducible exact zroomM hnn hlt | exact hnd | exact hnn | assumption | decide) (nn + 1) (by show u.1 13 + 1 = _; rw [hnn]; exact nI_1 nn) (hlt)) zGok_TT (fun _ _ _ => trivial) (fun s args hts => cwV 0 hts gX1_add_X1_look rfl rfl rfl (by decide +kernel) ⟨Nat.le_of_ble_eq_true rfl, Nat.le_of_ble_eq_true rfl⟩) (ci := 1) rfl rfl rfl rfl (Nat.le_of_ble_eq_true rfl) ⟨Nat.le_of_ble_eq_true rfl, Nat.le_of_ble_eq_true rfl⟩ dX1_add_68 rfl (fun r u2 hp => ?_)
  obtain ⟨rfl, rfl⟩ := hp
  refine z_pop dX1_add_71 rfl ?_
  refine z_aload_n 0 dX1_add_72 rfl ?_
  refine z_get (C := RX1) (T := TX1) (N := 22) (v := .int ((s_X1_look (pF (pG (pG (pG (pG (pG u 16 (ix (u.1 13)) p1) 17 (ix (u.1 13)) p2) 14 (ix (u.1 13)) (vp_nar .boolean p3)) 15 (ix (u.1 13)) ((u.1 1) + p4)) 19 (ix (u.1 13)) p5) 13 ((u.1 13) + 1)) ).1 13)) inwX1_add 0 rfl rfl 13 (by decide) (List.mem_of_getElem? (i := 2) rfl) rfl rfl dX1_add_73 ?_
  refine z_iconst (v := 1) dX1_add_76 rfl ?_
  refine z_isub dX1_add_77 ?_
  exact hret _ (s_X1_look (pF (pG (pG (pG (pG (pG u 16 (ix (u.1 13)) p1) 17 (ix (u.1 13)) p2) 14 (ix (u.1 13)) (vp_nar .boolean p3)) 15 (ix (u.1 13)) ((u.1 1) + p4)) 19 (ix (u.1 13)) p5) 13 ((u.1 13) + 1)) ) _ _ _ dX1_add_78 ⟨(by rw [r_X1_add]), (by rw [s_X1_add])⟩ rfl
