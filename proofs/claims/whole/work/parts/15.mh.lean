set_option maxHeartbeats 4000000 in
set_option maxRecDepth 100000 in
theorem c_X1_pass (l : Launch) (D : va_G) (cI cZ : ClassId) (h : Nat) (a : Nat → Nat) (u : SX) (p1 : Int32) (nd : Nat) (hnd : u.1 2 = nI nd) (hd : nd ≤ 16) (nn : Nat) (hnn : u.1 13 = nI nn) (hn : nn ≤ 120) : zMi l yX1_pass wsX1_pass ({ frames := 3, cells := 0, slots := 0, locals := 69 } : Room) zTT D [(cI, .int), (cZ, .boolean)] (wX1 cI cZ h a u) [.ref h, .int p1] (fun (r : Int32) (u2 : SX) => r = r_X1_pass u p1 ∧ u2 = s_X1_pass u p1) (fun u2 => (wX1 cI cZ h a u2)) 0 0 := by
  refine z_startI (cc := cX1_pass) (n := 5) (own := RX1) (L0 := [(0, .ref h), (1, .int p1)]) (plainFor_of_name (by decide)) rfl rfl (Nat.le_of_ble_eq_true rfl) rfl (fun E hret => ?_)
  have hixnn : ix (u.1 13) = nn := by rw [hnn]; exact nI_clamp (by omega)
  have hixnd : ix (u.1 2) = nd := by rw [hnd]; exact nI_clamp (by omega)
  refine z_aload_n 0 dX1_pass_0 rfl ?_
  refine z_iload_n 1 dX1_pass_1 rfl ?_
  refine z_iconst (v := 1) dX1_pass_2 rfl ?_
  refine z_sipush (v := 3000) dX1_pass_3 rfl ?_
  refine z_callSi (As := [.int p1, .int 1, .int 3000]) (st := [.ref h]) (fun l => c_X1_in l D _ _ p1 1 3000) zGok_TT (fun _ _ _ => trivial) (fun s args hts => va_cwS 3 hts gX1_pass_X1_in rfl rfl rfl (by decide +kernel) ⟨Nat.le_of_ble_eq_true rfl, Nat.le_of_ble_eq_true rfl⟩) rfl (Nat.le_of_ble_eq_true rfl) ⟨Nat.le_of_ble_eq_true rfl, Nat.le_of_ble_eq_true rfl⟩ dX1_pass_6 rfl (fun r u2 hp => ?_)
  subst hp
  refine z_if_ne 16 dX1_pass_9 (by decide) (fun c_9_0 => ?_) (fun c_9_0 => ?_)
  ·
    refine z_aload_n 0 dX1_pass_16 rfl ?_
    refine z_get (C := RX1) (T := TX1) (N := 22) (v := .int (u.1 1)) inwX1_pass 0 rfl rfl 1 (by decide) (List.mem_of_getElem? (i := 1) rfl) rfl rfl dX1_pass_17 ?_
    refine z_iload_n 1 dX1_pass_20 rfl ?_
    refine z_iadd dX1_pass_21 ?_
    refine z_ldc (v := 100000) (List.mem_of_getElem? (i := 2) rfl) dX1_pass_22 ?_
    refine z_icmp_le 31 dX1_pass_24 (by decide) (fun c_24_1 => ?_) (fun c_24_1 => ?_)
    ·
      refine z_iconst (v := 0) dX1_pass_31 rfl ?_
      refine z_callVi (As := [.int 0]) (st := []) (fun l => c_X1_refused l D cI cZ h a u 0) zGok_TT (fun _ _ _ => trivial) (fun s args hts => cwV 1 hts gX1_pass_X1_refused rfl rfl rfl (by decide +kernel) ⟨Nat.le_of_ble_eq_true rfl, Nat.le_of_ble_eq_true rfl⟩) (ci := 1) rfl rfl rfl rfl (Nat.le_of_ble_eq_true rfl) ⟨Nat.le_of_ble_eq_true rfl, Nat.le_of_ble_eq_true rfl⟩ dX1_pass_32 rfl (fun r u2 hp => ?_)
      obtain ⟨hp1, hp2⟩ := hp; have hp4 : r = 0 := hp1.trans (by simp [r_X1_refused]); clear hp1; subst hp4; have hp3 : u2 = (pF u 0 0) := hp2; clear hp2; subst hp3
      refine z_if_eq 40 dX1_pass_35 (by decide) (fun _ => ?_) (fun c_35_2 => absurd c_35_2 (by decide))
      refine z_iconst (v := 0) dX1_pass_40 rfl ?_
      refine z_istore_n (L' := [(2, .int 0), (0, .ref h), (1, .int p1)]) dX1_pass_41 (by decide) rfl ?_
      refine z_iconst (v := 0) dX1_pass_42 rfl ?_
      refine z_istore_n (L' := [(3, .int 0), (2, .int 0), (0, .ref h), (1, .int p1)]) dX1_pass_43 (by decide) rfl ?_
      refine z_sub (L' := [(0, .ref h), (1, .int p1), (2, .int 0), (3, .int 0)]) [2, 3, 1, 0] rfl ?_
      have hmin : p1 = nI (ix p1) := zmin (by assumption)
      have hloop44 : ∀ r k44 : Nat, k44 + r = (ix p1) → ZW E zTT ({ frames := 3, cells := 0, slots := 0, locals := 69 } : Room) cX1_pass RX1 wsX1_pass 5 D [(cI, .int), (cZ, .boolean)] 0 0 (wX1 cI cZ h a (l_X1_pass_44 u p1 k44).1) 44 [(0, .ref h), (1, .int p1), (2, .int (l_X1_pass_44 u p1 k44).2), (3, .int (nI k44))] [] := by
        intro r
        induction r with
        | zero =>
          intro k44 hk44
          have hkN44 : (ix p1) = k44 := by omega
          subst hkN44
          have hbn : ((l_X1_pass_44 u p1 (ix p1)).1.1 13) = nI nn := by first | (rw [hx44, lf13_X1_pass_44]; exact hnn) | (rw [lf13_X1_pass_44]; exact hnn)
          have hbd : ((l_X1_pass_44 u p1 (ix p1)).1.1 2) = nI nd := by first | (rw [hx44, lf2_X1_pass_44]; exact hnd) | (rw [lf2_X1_pass_44]; exact hnd)
          refine z_iload_n 3 dX1_pass_44 rfl ?_
          refine z_iload_n 1 dX1_pass_45 rfl ?_
          refine z_icmp_ge 120 dX1_pass_46 (by decide) (fun c_46_4 => ?_) (fun c_46_4 => ?_)
          ·
            refine z_iload_n 2 dX1_pass_120 rfl ?_
            exact hret _ (l_X1_pass_44 u p1 (ix p1)).1 _ _ _ dX1_pass_121 ⟨(by rw [r_X1_pass, if_neg c_9_0, if_pos c_24_1]), (by rw [s_X1_pass, if_neg c_9_0, if_pos c_24_1])⟩ rfl
          · exact absurd (zmle hmin) c_46_4
        | succ r ih44 =>
          intro k44 hk44
          obtain ⟨x44, hx44⟩ : ∃ x, x = l_X1_pass_44 u p1 k44 := ⟨_, rfl⟩
          rw [← hx44]
          have hbn : (x44.1.1 13) = nI nn := by first | (rw [hx44, lf13_X1_pass_44]; exact hnn) | (rw [lf13_X1_pass_44]; exact hnn)
          have hbd : (x44.1.1 2) = nI nd := by first | (rw [hx44, lf2_X1_pass_44]; exact hnd) | (rw [lf2_X1_pass_44]; exact hnd)
          refine z_iload_n 3 dX1_pass_44 rfl ?_
          refine z_iload_n 1 dX1_pass_45 rfl ?_
          refine z_icmp_ge 120 dX1_pass_46 (by decide) (fun c_46_3 => ?_) (fun c_46_3 => ?_)
          · exact absurd c_46_3 (zmge hmin (by omega))
          ·
            refine z_aload_n 0 dX1_pass_49 rfl ?_
            refine z_dup dX1_pass_50 rfl ?_
            refine z_get (C := RX1) (T := TX1) (N := 22) (v := .int (x44.1.1 1)) inwX1_pass 0 rfl rfl 1 (by decide) (List.mem_of_getElem? (i := 1) rfl) rfl rfl dX1_pass_51 ?_
            refine z_iconst (v := 1) dX1_pass_54 rfl ?_
            refine z_iadd dX1_pass_55 ?_
            refine z_put (C := RX1) (T := TX1) (N := 22) (v := .int ((x44.1.1 1) + 1)) (w' := (wX1 cI cZ h a (pF x44.1 1 ((x44.1.1 1) + 1)))) inwX1_pass 0 rfl rfl 1 (by decide) (List.mem_of_getElem? (i := 1) rfl) rfl tyX1 tyX1_ok nmX1 rfl rfl rfl (Nat.le_of_ble_eq_true rfl) (wX1_p1 _ _ _ _ _ _) dX1_pass_56 ?_
            refine z_iconst (v := 0) dX1_pass_59 rfl ?_
            refine z_istore (L' := [(4, .int 0), (0, .ref h), (1, .int p1), (2, .int x44.2), (3, .int (nI k44))]) dX1_pass_60 (by decide) rfl ?_
            refine z_sub (L' := [(0, .ref h), (1, .int p1), (2, .int x44.2), (3, .int (nI k44)), (4, .int 0)]) [1, 2, 3, 4, 0] rfl ?_
            have hloop62 : ∀ r k62 : Nat, k62 + r = nn → ZW E zTT ({ frames := 3, cells := 0, slots := 0, locals := 69 } : Room) cX1_pass RX1 wsX1_pass 5 D [(cI, .int), (cZ, .boolean)] 0 0 (wX1 cI cZ h a (l_X1_pass_62 u p1 k44 x44 k62)) 62 [(0, .ref h), (1, .int p1), (2, .int x44.2), (3, .int (nI k44)), (4, .int (nI k62))] [] := by
              intro r
              induction r with
              | zero =>
                intro k62 hk62
                have hkN62 : nn = k62 := by omega
                subst hkN62
                have hbx : ((l_X1_pass_62 u p1 k44 x44 nn).1 13) = nI nn := by first | (rw [hx62, lf13_X1_pass_62]; exact hbn) | (rw [lf13_X1_pass_62]; exact hbn)
                refine z_iload 4 dX1_pass_62 rfl ?_
                refine z_aload_n 0 dX1_pass_64 rfl ?_
                refine z_get (C := RX1) (T := TX1) (N := 22) (v := .int ((l_X1_pass_62 u p1 k44 x44 nn).1 13)) inwX1_pass 0 rfl rfl 13 (by decide) (List.mem_of_getElem? (i := 3) rfl) rfl rfl dX1_pass_65 ?_
                refine z_icmp_ge 107 dX1_pass_68 (by decide) (fun c_68_6 => ?_) (fun c_68_6 => ?_)
                ·
                  refine z_iload_n 2 dX1_pass_107 rfl ?_
                  refine z_aload_n 0 dX1_pass_108 rfl ?_
                  refine z_callVi (As := []) (st := [.int x44.2]) (fun l => c_X1_look l D cI cZ h a (l_X1_pass_62 u p1 k44 x44 nn)  nd (by first | (with_reducible assumption) | with_reducible exact vp_in_nI (by omega) (by omega) | with_reducible exact zmdev hnd hd (by assumption) | with_reducible exact zmnot hnn hn (by assumption) | (rw [lf13_X1_pass_62]; exact hbn) | (rw [lf2_X1_pass_62]; exact hbd) | exact hnd | exact hnn | assumption | decide) (by first | (with_reducible assumption) | with_reducible exact vp_in_nI (by omega) (by omega) | with_reducible exact zmdev hnd hd (by assumption) | with_reducible exact zmnot hnn hn (by assumption) | (rw [lf13_X1_pass_62]; exact hbn) | (rw [lf2_X1_pass_62]; exact hbd) | exact hnd | exact hnn | assumption | decide) nn (by first | (with_reducible assumption) | with_reducible exact vp_in_nI (by omega) (by omega) | with_reducible exact zmdev hnd hd (by assumption) | with_reducible exact zmnot hnn hn (by assumption) | (rw [lf13_X1_pass_62]; exact hbn) | (rw [lf2_X1_pass_62]; exact hbd) | exact hnd | exact hnn | assumption | decide) (by first | (with_reducible assumption) | with_reducible exact vp_in_nI (by omega) (by omega) | with_reducible exact zmdev hnd hd (by assumption) | with_reducible exact zmnot hnn hn (by assumption) | (rw [lf13_X1_pass_62]; exact hbn) | (rw [lf2_X1_pass_62]; exact hbd) | exact hnd | exact hnn | assumption | decide)) zGok_TT (fun _ _ _ => trivial) (fun s args hts => cwV 0 hts gX1_pass_X1_look rfl rfl rfl (by decide +kernel) ⟨Nat.le_of_ble_eq_true rfl, Nat.le_of_ble_eq_true rfl⟩) (ci := 1) rfl rfl rfl rfl (Nat.le_of_ble_eq_true rfl) ⟨Nat.le_of_ble_eq_true rfl, Nat.le_of_ble_eq_true rfl⟩ dX1_pass_109 rfl (fun r u2 hp => ?_)
                  obtain ⟨rfl, rfl⟩ := hp
                  refine z_iadd dX1_pass_112 ?_
                  refine z_istore_n (L' := [(2, .int (x44.2 + (r_X1_look (l_X1_pass_62 u p1 k44 x44 nn) ))), (0, .ref h), (1, .int p1), (3, .int (nI k44)), (4, .int (nI nn))]) dX1_pass_113 (by decide) rfl ?_
                  refine z_iinc (v := (nI (k44 + 1))) (L' := [(3, .int (nI (k44 + 1))), (2, .int (x44.2 + (r_X1_look (l_X1_pass_62 u p1 k44 x44 nn) ))), (0, .ref h), (1, .int p1), (4, .int (nI nn))]) 3 dX1_pass_114 rfl (nI_1 k44) (by decide) rfl ?_
                  refine z_goto 44 dX1_pass_117 (by decide) ?_
                  have hb44 : l_X1_pass_44 u p1 (k44 + 1) = ((s_X1_look (l_X1_pass_62 u p1 k44 x44 nn) ), (x44.2 + (r_X1_look (l_X1_pass_62 u p1 k44 x44 nn) ))) := by
                    show b_X1_pass_44 u p1 k44 (l_X1_pass_44 u p1 k44) = _
                    rw [← hx44, b_X1_pass_44, hixnn]
                  refine z_sub (L' := [(0, .ref h), (1, .int p1), (2, .int (x44.2 + (r_X1_look (l_X1_pass_62 u p1 k44 x44 nn) ))), (3, .int (nI (k44 + 1)))]) [2, 3, 1, 0] rfl ?_
                  have ih2 := ih44 (k44 + 1) (by omega)
                  rw [hb44] at ih2
                  exact ih2
                · exact absurd (by rw [hbx]; exact nI_le (Nat.le_refl _) (by omega)) c_68_6
              | succ r ih62 =>
                intro k62 hk62
                obtain ⟨x62, hx62⟩ : ∃ x, x = l_X1_pass_62 u p1 k44 x44 k62 := ⟨_, rfl⟩
                rw [← hx62]
                have hbx : (x62.1 13) = nI nn := by first | (rw [hx62, lf13_X1_pass_62]; exact hbn) | (rw [lf13_X1_pass_62]; exact hbn)
                refine z_iload 4 dX1_pass_62 rfl ?_
                refine z_aload_n 0 dX1_pass_64 rfl ?_
                refine z_get (C := RX1) (T := TX1) (N := 22) (v := .int (x62.1 13)) inwX1_pass 0 rfl rfl 13 (by decide) (List.mem_of_getElem? (i := 3) rfl) rfl rfl dX1_pass_65 ?_
                refine z_icmp_ge 107 dX1_pass_68 (by decide) (fun c_68_5 => ?_) (fun c_68_5 => ?_)
                · exact absurd c_68_5 (by rw [hbx]; exact nI_ge (by omega) (by omega))
                ·
                  refine z_aload_n 0 dX1_pass_71 rfl ?_
                  refine z_get (C := RX1) (T := TX1) (N := 22) (v := .ref (a 18)) inwX1_pass 0 rfl rfl 18 (by decide) (List.mem_of_getElem? (i := 4) rfl) rfl rfl dX1_pass_72 ?_
                  refine z_iload 4 dX1_pass_75 rfl ?_
                  refine z_zald (v := (x62.2 18 (ix (nI k62)))) 15 1 rfl rfl (vp_in_nI (by omega) (by omega)) rfl dX1_pass_77 ?_
                  refine z_if_ne 101 dX1_pass_78 (by decide) (fun c_78_7 => ?_) (fun c_78_7 => ?_)
                  ·
                    refine z_iinc (v := (nI (k62 + 1))) (L' := [(4, .int (nI (k62 + 1))), (0, .ref h), (1, .int p1), (2, .int x44.2), (3, .int (nI k44))]) 4 dX1_pass_101 rfl (nI_1 k62) (by decide) rfl ?_
                    refine z_goto 62 dX1_pass_104 (by decide) ?_
                    have hb62 : l_X1_pass_62 u p1 k44 x44 (k62 + 1) = x62 := by
                      show b_X1_pass_62 u p1 k44 x44 k62 (l_X1_pass_62 u p1 k44 x44 k62) = _
                      rw [← hx62, b_X1_pass_62, if_neg c_78_7]
                    refine z_sub (L' := [(0, .ref h), (1, .int p1), (2, .int x44.2), (3, .int (nI k44)), (4, .int (nI (k62 + 1)))]) [1, 2, 3, 4, 0] rfl ?_
                    have ih2 := ih62 (k62 + 1) (by omega)
                    rw [hb62] at ih2
                    exact ih2
                  ·
                    refine z_aload_n 0 dX1_pass_81 rfl ?_
                    refine z_get (C := RX1) (T := TX1) (N := 22) (v := .ref (a 15)) inwX1_pass 0 rfl rfl 15 (by decide) (List.mem_of_getElem? (i := 5) rfl) rfl rfl dX1_pass_82 ?_
                    refine z_iload 4 dX1_pass_85 rfl ?_
                    refine z_iald (v := (x62.2 15 (ix (nI k62)))) 12 0 rfl rfl (vp_in_nI (by omega) (by omega)) rfl dX1_pass_87 ?_
                    refine z_aload_n 0 dX1_pass_88 rfl ?_
                    refine z_get (C := RX1) (T := TX1) (N := 22) (v := .int (x62.1 1)) inwX1_pass 0 rfl rfl 1 (by decide) (List.mem_of_getElem? (i := 1) rfl) rfl rfl dX1_pass_89 ?_
                    refine z_icmp_gt 101 dX1_pass_92 (by decide) (fun c_92_8 => ?_) (fun c_92_8 => ?_)
                    ·
                      refine z_iinc (v := (nI (k62 + 1))) (L' := [(4, .int (nI (k62 + 1))), (0, .ref h), (1, .int p1), (2, .int x44.2), (3, .int (nI k44))]) 4 dX1_pass_101 rfl (nI_1 k62) (by decide) rfl ?_
                      refine z_goto 62 dX1_pass_104 (by decide) ?_
                      have hb62 : l_X1_pass_62 u p1 k44 x44 (k62 + 1) = x62 := by
                        show b_X1_pass_62 u p1 k44 x44 k62 (l_X1_pass_62 u p1 k44 x44 k62) = _
                        rw [← hx62, b_X1_pass_62, if_pos c_78_7, if_pos c_92_8]
                      refine z_sub (L' := [(0, .ref h), (1, .int p1), (2, .int x44.2), (3, .int (nI k44)), (4, .int (nI (k62 + 1)))]) [1, 2, 3, 4, 0] rfl ?_
                      have ih2 := ih62 (k62 + 1) (by omega)
                      rw [hb62] at ih2
                      exact ih2
                    ·
                      refine z_aload_n 0 dX1_pass_95 rfl ?_
                      refine z_iload 4 dX1_pass_96 rfl ?_
                      refine z_callVv (As := [.int (nI k62)]) (st := []) (fun l => c_X1_end l D cI cZ h a x62 (nI k62) (by first | (with_reducible assumption) | with_reducible exact vp_in_nI (by omega) (by omega) | with_reducible exact zmdev hnd hd (by assumption) | with_reducible exact zmnot hnn hn (by assumption) | (rw [lf13_X1_pass_62]; exact hbn) | (rw [lf2_X1_pass_62]; exact hbd) | exact hnd | exact hnn | assumption | decide)) zGok_TT (fun _ _ _ => trivial) (fun s args hts => cwV 1 hts gX1_pass_X1_end rfl rfl rfl (by decide +kernel) ⟨Nat.le_of_ble_eq_true rfl, Nat.le_of_ble_eq_true rfl⟩) (ci := 1) rfl rfl rfl rfl (Nat.le_of_ble_eq_true rfl) ⟨Nat.le_of_ble_eq_true rfl, Nat.le_of_ble_eq_true rfl⟩ dX1_pass_98 rfl (fun u2 hp => ?_)
                      have hp3 : u2 = (pG (pG x62 18 (ix (nI k62)) (vp_nar .boolean 1)) 19 (ix (nI k62)) 0) := hp; clear hp; subst hp3
                      refine z_iinc (v := (nI (k62 + 1))) (L' := [(4, .int (nI (k62 + 1))), (0, .ref h), (1, .int p1), (2, .int x44.2), (3, .int (nI k44))]) 4 dX1_pass_101 rfl (nI_1 k62) (by decide) rfl ?_
                      refine z_goto 62 dX1_pass_104 (by decide) ?_
                      have hb62 : l_X1_pass_62 u p1 k44 x44 (k62 + 1) = (pG (pG x62 18 (ix (nI k62)) (vp_nar .boolean 1)) 19 (ix (nI k62)) 0) := by
                        show b_X1_pass_62 u p1 k44 x44 k62 (l_X1_pass_62 u p1 k44 x44 k62) = _
                        rw [← hx62, b_X1_pass_62, if_pos c_78_7, if_neg c_92_8]
                      refine z_sub (L' := [(0, .ref h), (1, .int p1), (2, .int x44.2), (3, .int (nI k44)), (4, .int (nI (k62 + 1)))]) [1, 2, 3, 4, 0] rfl ?_
                      have ih2 := ih62 (k62 + 1) (by omega)
                      rw [hb62] at ih2
                      exact ih2
            exact hloop62 nn 0 (by omega)
      exact hloop44 (ix p1) 0 (by omega)
    ·
      refine z_iconst (v := 2) dX1_pass_27 rfl ?_
      refine z_goto 32 dX1_pass_28 (by decide) ?_
      refine z_callVi (As := [.int 2]) (st := []) (fun l => c_X1_refused l D cI cZ h a u 2) zGok_TT (fun _ _ _ => trivial) (fun s args hts => cwV 1 hts gX1_pass_X1_refused rfl rfl rfl (by decide +kernel) ⟨Nat.le_of_ble_eq_true rfl, Nat.le_of_ble_eq_true rfl⟩) (ci := 1) rfl rfl rfl rfl (Nat.le_of_ble_eq_true rfl) ⟨Nat.le_of_ble_eq_true rfl, Nat.le_of_ble_eq_true rfl⟩ dX1_pass_32 rfl (fun r u2 hp => ?_)
      obtain ⟨hp1, hp2⟩ := hp; have hp4 : r = 1 := hp1.trans (by simp [r_X1_refused]); clear hp1; subst hp4; have hp3 : u2 = (pF u 0 2) := hp2; clear hp2; subst hp3
      refine z_if_eq 40 dX1_pass_35 (by decide) (fun c_35_9 => absurd c_35_9 (by decide)) (fun _ => ?_)
      refine z_iconst (v := 0) dX1_pass_38 rfl ?_
      exact hret _ (pF u 0 2) _ _ _ dX1_pass_39 ⟨(by rw [r_X1_pass, if_neg c_9_0, if_neg c_24_1]), (by rw [s_X1_pass, if_neg c_9_0, if_neg c_24_1])⟩ rfl
  ·
    refine z_iconst (v := 1) dX1_pass_12 rfl ?_
    refine z_goto 32 dX1_pass_13 (by decide) ?_
    refine z_callVi (As := [.int 1]) (st := []) (fun l => c_X1_refused l D cI cZ h a u 1) zGok_TT (fun _ _ _ => trivial) (fun s args hts => cwV 1 hts gX1_pass_X1_refused rfl rfl rfl (by decide +kernel) ⟨Nat.le_of_ble_eq_true rfl, Nat.le_of_ble_eq_true rfl⟩) (ci := 1) rfl rfl rfl rfl (Nat.le_of_ble_eq_true rfl) ⟨Nat.le_of_ble_eq_true rfl, Nat.le_of_ble_eq_true rfl⟩ dX1_pass_32 rfl (fun r u2 hp => ?_)
    obtain ⟨hp1, hp2⟩ := hp; have hp4 : r = 1 := hp1.trans (by simp [r_X1_refused]); clear hp1; subst hp4; have hp3 : u2 = (pF u 0 1) := hp2; clear hp2; subst hp3
    refine z_if_eq 40 dX1_pass_35 (by decide) (fun c_35_10 => absurd c_35_10 (by decide)) (fun _ => ?_)
    refine z_iconst (v := 0) dX1_pass_38 rfl ?_
    exact hret _ (pF u 0 1) _ _ _ dX1_pass_39 ⟨(by rw [r_X1_pass, if_pos c_9_0]), (by rw [s_X1_pass, if_pos c_9_0])⟩ rfl
set_option maxHeartbeats 4000000 in
set_option maxRecDepth 100000 in
theorem c_X1_read (l : Launch) (D : va_G) (cI cZ : ClassId) (h : Nat) (a : Nat → Nat) (u : SX) (p1 p2 : Int32) (nd : Nat) (hnd : u.1 2 = nI nd) (hd : nd ≤ 16) (nn : Nat) (hnn : u.1 13 = nI nn) (hn : nn ≤ 120) : zMi l yX1_read wsX1_read ({ frames := 2, cells := 0, slots := 0, locals := 43 } : Room) zTT D [(cI, .int), (cZ, .boolean)] (wX1 cI cZ h a u) [.ref h, .int p1, .int p2] (fun (r : Int32) (u2 : SX) => r = r_X1_read u p1 p2 ∧ u2 = s_X1_read u p1 p2) (fun u2 => (wX1 cI cZ h a u2)) 0 0 := by
  refine z_startI (cc := cX1_read) (n := 6) (own := RX1) (L0 := [(0, .ref h), (1, .int p1), (2, .int p2)]) (plainFor_of_name (by decide)) rfl rfl (Nat.le_of_ble_eq_true rfl) rfl (fun E hret => ?_)
  have hixnn : ix (u.1 13) = nn := by rw [hnn]; exact nI_clamp (by omega)
  have hixnd : ix (u.1 2) = nd := by rw [hnd]; exact nI_clamp (by omega)
  refine z_aload_n 0 dX1_read_0 rfl ?_
  refine z_iload_n 1 dX1_read_1 rfl ?_
  refine z_callVi (As := [.int p1]) (st := []) (fun l => c_X1_isDevice l D cI cZ h a u p1) zGok_TT (fun _ _ _ => trivial) (fun s args hts => cwV 1 hts gX1_read_X1_isDevice rfl rfl rfl (by decide +kernel) ⟨Nat.le_of_ble_eq_true rfl, Nat.le_of_ble_eq_true rfl⟩) (ci := 1) rfl rfl rfl rfl (Nat.le_of_ble_eq_true rfl) ⟨Nat.le_of_ble_eq_true rfl, Nat.le_of_ble_eq_true rfl⟩ dX1_read_2 rfl (fun r u2 hp => ?_)
  subst hp
  refine z_if_eq 20 dX1_read_5 (by decide) (fun c_5_0 => ?_) (fun c_5_0 => ?_)
  ·
    refine z_iconst (v := 0) dX1_read_20 rfl ?_
    refine z_istore_n (L' := [(3, .int 0), (0, .ref h), (1, .int p1), (2, .int p2)]) dX1_read_21 (by decide) rfl ?_
    refine z_iload_n 0 dX1_read_22 rfl ?_
    refine z_if_eq 53 dX1_read_23 (by decide) (fun _ => ?_) (fun c_23_1 => absurd c_23_1 (by decide))
    refine z_iconst (v := 0) dX1_read_53 rfl ?_
    refine z_istore (L' := [(4, .int 0), (3, .int 0), (0, .ref h), (1, .int p1), (2, .int p2)]) dX1_read_54 (by decide) rfl ?_
    refine z_aload_n 2 dX1_read_56 rfl ?_
    refine z_iload_n 1 dX1_read_57 rfl ?_
    refine z_if_ne 65 dX1_read_58 (by decide) (fun c_58_2 => absurd c_58_2 (by decide)) (fun _ => ?_)
    refine z_iconst (v := 1) dX1_read_61 rfl ?_
    refine z_goto 75 dX1_read_62 (by decide) ?_
    refine z_callVi (As := [.int 1]) (st := []) (fun l => c_X1_refused l D cI cZ h a u 1) zGok_TT (fun _ _ _ => trivial) (fun s args hts => cwV 1 hts gX1_read_X1_refused rfl rfl rfl (by decide +kernel) ⟨Nat.le_of_ble_eq_true rfl, Nat.le_of_ble_eq_true rfl⟩) (ci := 1) rfl rfl rfl rfl (Nat.le_of_ble_eq_true rfl) ⟨Nat.le_of_ble_eq_true rfl, Nat.le_of_ble_eq_true rfl⟩ dX1_read_75 rfl (fun r u2 hp => ?_)
    obtain ⟨hp1, hp2⟩ := hp; have hp4 : r = 1 := hp1.trans (by simp [r_X1_refused]); clear hp1; subst hp4; have hp3 : u2 = (pF u 0 1) := hp2; clear hp2; subst hp3
    refine z_if_eq 83 dX1_read_78 (by decide) (fun c_78_3 => absurd c_78_3 (by decide)) (fun _ => ?_)
    refine z_iconst (v := 0) dX1_read_81 rfl ?_
    exact hret _ (pF u 0 1) _ _ _ dX1_read_82 ⟨(by rw [r_X1_read, if_pos c_5_0]), (by rw [s_X1_read, if_pos c_5_0])⟩ rfl
  ·
    refine z_aload_n 0 dX1_read_8 rfl ?_
    refine z_iload_n 2 dX1_read_9 rfl ?_
    refine z_callVi (As := [.int p2]) (st := []) (fun l => c_X1_isNotice l D cI cZ h a u p2) zGok_TT (fun _ _ _ => trivial) (fun s args hts => cwV 1 hts gX1_read_X1_isNotice rfl rfl rfl (by decide +kernel) ⟨Nat.le_of_ble_eq_true rfl, Nat.le_of_ble_eq_true rfl⟩) (ci := 1) rfl rfl rfl rfl (Nat.le_of_ble_eq_true rfl) ⟨Nat.le_of_ble_eq_true rfl, Nat.le_of_ble_eq_true rfl⟩ dX1_read_10 rfl (fun r u2 hp => ?_)
    subst hp
    refine z_if_eq 20 dX1_read_13 (by decide) (fun c_13_4 => ?_) (fun c_13_4 => ?_)
    ·
      refine z_iconst (v := 0) dX1_read_20 rfl ?_
      refine z_istore_n (L' := [(3, .int 0), (0, .ref h), (1, .int p1), (2, .int p2)]) dX1_read_21 (by decide) rfl ?_
      refine z_iload_n 0 dX1_read_22 rfl ?_
      refine z_if_eq 53 dX1_read_23 (by decide) (fun _ => ?_) (fun c_23_5 => absurd c_23_5 (by decide))
      refine z_iconst (v := 0) dX1_read_53 rfl ?_
      refine z_istore (L' := [(4, .int 0), (3, .int 0), (0, .ref h), (1, .int p1), (2, .int p2)]) dX1_read_54 (by decide) rfl ?_
      refine z_aload_n 2 dX1_read_56 rfl ?_
      refine z_iload_n 1 dX1_read_57 rfl ?_
      refine z_if_ne 65 dX1_read_58 (by decide) (fun c_58_6 => absurd c_58_6 (by decide)) (fun _ => ?_)
      refine z_iconst (v := 1) dX1_read_61 rfl ?_
      refine z_goto 75 dX1_read_62 (by decide) ?_
      refine z_callVi (As := [.int 1]) (st := []) (fun l => c_X1_refused l D cI cZ h a u 1) zGok_TT (fun _ _ _ => trivial) (fun s args hts => cwV 1 hts gX1_read_X1_refused rfl rfl rfl (by decide +kernel) ⟨Nat.le_of_ble_eq_true rfl, Nat.le_of_ble_eq_true rfl⟩) (ci := 1) rfl rfl rfl rfl (Nat.le_of_ble_eq_true rfl) ⟨Nat.le_of_ble_eq_true rfl, Nat.le_of_ble_eq_true rfl⟩ dX1_read_75 rfl (fun r u2 hp => ?_)
      obtain ⟨hp1, hp2⟩ := hp; have hp4 : r = 1 := hp1.trans (by simp [r_X1_refused]); clear hp1; subst hp4; have hp3 : u2 = (pF u 0 1) := hp2; clear hp2; subst hp3
      refine z_if_eq 83 dX1_read_78 (by decide) (fun c_78_7 => absurd c_78_7 (by decide)) (fun _ => ?_)
      refine z_iconst (v := 0) dX1_read_81 rfl ?_
      exact hret _ (pF u 0 1) _ _ _ dX1_read_82 ⟨(by rw [r_X1_read, if_neg c_5_0, if_pos c_13_4]), (by rw [s_X1_read, if_neg c_5_0, if_pos c_13_4])⟩ rfl
    ·
      refine z_iconst (v := 1) dX1_read_16 rfl ?_
      refine z_goto 21 dX1_read_17 (by decide) ?_
      refine z_istore_n (L' := [(3, .int 1), (0, .ref h), (1, .int p1), (2, .int p2)]) dX1_read_21 (by decide) rfl ?_
      refine z_iload_n 0 dX1_read_22 rfl ?_
      refine z_if_eq 53 dX1_read_23 (by decide) (fun c_23_8 => absurd c_23_8 (by decide)) (fun _ => ?_)
      refine z_aload_n 1 dX1_read_26 rfl ?_
      refine z_get (C := RX1) (T := TX1) (N := 22) (v := .ref (a 20)) inwX1_read 0 rfl rfl 20 (by decide) (List.mem_of_getElem? (i := 1) rfl) rfl rfl dX1_read_27 ?_
      refine z_iload_n 3 dX1_read_30 rfl ?_
      refine z_iald (v := (u.2 20 (ix p2))) 17 0 rfl rfl (by first | (with_reducible assumption) | with_reducible exact zmdev hnd hd (by assumption) | with_reducible exact zmnot hnn hn (by assumption) | exact hnd | exact hnn | assumption | decide) rfl dX1_read_31 ?_
      refine z_iload_n 2 dX1_read_32 rfl ?_
      refine z_ishr dX1_read_33 ?_
      refine z_iconst (v := 1) dX1_read_34 rfl ?_
      refine z_iand dX1_read_35 ?_
      refine z_iconst (v := 1) dX1_read_36 rfl ?_
      refine z_icmp_ne 53 dX1_read_37 (by decide) (fun c_37_9 => ?_) (fun c_37_9 => ?_)
      ·
        refine z_iconst (v := 0) dX1_read_53 rfl ?_
        refine z_istore (L' := [(4, .int 0), (3, .int 1), (0, .ref h), (1, .int p1), (2, .int p2)]) dX1_read_54 (by decide) rfl ?_
        refine z_aload_n 2 dX1_read_56 rfl ?_
        refine z_iload_n 1 dX1_read_57 rfl ?_
        refine z_if_ne 65 dX1_read_58 (by decide) (fun _ => ?_) (fun c_58_10 => absurd c_58_10 (by decide))
        refine z_iload 0 dX1_read_65 rfl ?_
        refine z_if_eq 74 dX1_read_67 (by decide) (fun _ => ?_) (fun c_67_11 => absurd c_67_11 (by decide))
        refine z_iconst (v := 2) dX1_read_74 rfl ?_
        refine z_callVi (As := [.int 2]) (st := []) (fun l => c_X1_refused l D cI cZ h a u 2) zGok_TT (fun _ _ _ => trivial) (fun s args hts => cwV 1 hts gX1_read_X1_refused rfl rfl rfl (by decide +kernel) ⟨Nat.le_of_ble_eq_true rfl, Nat.le_of_ble_eq_true rfl⟩) (ci := 1) rfl rfl rfl rfl (Nat.le_of_ble_eq_true rfl) ⟨Nat.le_of_ble_eq_true rfl, Nat.le_of_ble_eq_true rfl⟩ dX1_read_75 rfl (fun r u2 hp => ?_)
        obtain ⟨hp1, hp2⟩ := hp; have hp4 : r = 1 := hp1.trans (by simp [r_X1_refused]); clear hp1; subst hp4; have hp3 : u2 = (pF u 0 2) := hp2; clear hp2; subst hp3
        refine z_if_eq 83 dX1_read_78 (by decide) (fun c_78_12 => absurd c_78_12 (by decide)) (fun _ => ?_)
        refine z_iconst (v := 0) dX1_read_81 rfl ?_
        exact hret _ (pF u 0 2) _ _ _ dX1_read_82 ⟨(by rw [r_X1_read, if_neg c_5_0, if_neg c_13_4, if_neg c_37_9]), (by rw [s_X1_read, if_neg c_5_0, if_neg c_13_4, if_neg c_37_9])⟩ rfl
      ·
        refine z_aload_n 1 dX1_read_40 rfl ?_
        refine z_get (C := RX1) (T := TX1) (N := 22) (v := .ref (a 18)) inwX1_read 0 rfl rfl 18 (by decide) (List.mem_of_getElem? (i := 2) rfl) rfl rfl dX1_read_41 ?_
        refine z_iload_n 3 dX1_read_44 rfl ?_
        refine z_zald (v := (u.2 18 (ix p2))) 15 1 rfl rfl (by first | (with_reducible assumption) | with_reducible exact zmdev hnd hd (by assumption) | with_reducible exact zmnot hnn hn (by assumption) | exact hnd | exact hnn | assumption | decide) rfl dX1_read_45 ?_
        refine z_if_ne 53 dX1_read_46 (by decide) (fun c_46_13 => ?_) (fun c_46_13 => ?_)
        ·
          refine z_iconst (v := 0) dX1_read_53 rfl ?_
          refine z_istore (L' := [(4, .int 0), (3, .int 1), (0, .ref h), (1, .int p1), (2, .int p2)]) dX1_read_54 (by decide) rfl ?_
          refine z_aload_n 2 dX1_read_56 rfl ?_
          refine z_iload_n 1 dX1_read_57 rfl ?_
          refine z_if_ne 65 dX1_read_58 (by decide) (fun _ => ?_) (fun c_58_14 => absurd c_58_14 (by decide))
          refine z_iload 0 dX1_read_65 rfl ?_
          refine z_if_eq 74 dX1_read_67 (by decide) (fun _ => ?_) (fun c_67_15 => absurd c_67_15 (by decide))
          refine z_iconst (v := 2) dX1_read_74 rfl ?_
          refine z_callVi (As := [.int 2]) (st := []) (fun l => c_X1_refused l D cI cZ h a u 2) zGok_TT (fun _ _ _ => trivial) (fun s args hts => cwV 1 hts gX1_read_X1_refused rfl rfl rfl (by decide +kernel) ⟨Nat.le_of_ble_eq_true rfl, Nat.le_of_ble_eq_true rfl⟩) (ci := 1) rfl rfl rfl rfl (Nat.le_of_ble_eq_true rfl) ⟨Nat.le_of_ble_eq_true rfl, Nat.le_of_ble_eq_true rfl⟩ dX1_read_75 rfl (fun r u2 hp => ?_)
          obtain ⟨hp1, hp2⟩ := hp; have hp4 : r = 1 := hp1.trans (by simp [r_X1_refused]); clear hp1; subst hp4; have hp3 : u2 = (pF u 0 2) := hp2; clear hp2; subst hp3
          refine z_if_eq 83 dX1_read_78 (by decide) (fun c_78_16 => absurd c_78_16 (by decide)) (fun _ => ?_)
          refine z_iconst (v := 0) dX1_read_81 rfl ?_
          exact hret _ (pF u 0 2) _ _ _ dX1_read_82 ⟨(by rw [r_X1_read, if_neg c_5_0, if_neg c_13_4, if_pos c_37_9, if_neg c_46_13]), (by rw [s_X1_read, if_neg c_5_0, if_neg c_13_4, if_pos c_37_9, if_neg c_46_13])⟩ rfl
        ·
          refine z_iconst (v := 1) dX1_read_49 rfl ?_
          refine z_goto 54 dX1_read_50 (by decide) ?_
          refine z_istore (L' := [(4, .int 1), (3, .int 1), (0, .ref h), (1, .int p1), (2, .int p2)]) dX1_read_54 (by decide) rfl ?_
          refine z_aload_n 2 dX1_read_56 rfl ?_
          refine z_iload_n 1 dX1_read_57 rfl ?_
          refine z_if_ne 65 dX1_read_58 (by decide) (fun _ => ?_) (fun c_58_17 => absurd c_58_17 (by decide))
          refine z_iload 0 dX1_read_65 rfl ?_
          refine z_if_eq 74 dX1_read_67 (by decide) (fun c_67_18 => absurd c_67_18 (by decide)) (fun _ => ?_)
          refine z_iconst (v := 0) dX1_read_70 rfl ?_
          refine z_goto 75 dX1_read_71 (by decide) ?_
          refine z_callVi (As := [.int 0]) (st := []) (fun l => c_X1_refused l D cI cZ h a u 0) zGok_TT (fun _ _ _ => trivial) (fun s args hts => cwV 1 hts gX1_read_X1_refused rfl rfl rfl (by decide +kernel) ⟨Nat.le_of_ble_eq_true rfl, Nat.le_of_ble_eq_true rfl⟩) (ci := 1) rfl rfl rfl rfl (Nat.le_of_ble_eq_true rfl) ⟨Nat.le_of_ble_eq_true rfl, Nat.le_of_ble_eq_true rfl⟩ dX1_read_75 rfl (fun r u2 hp => ?_)
          obtain ⟨hp1, hp2⟩ := hp; have hp4 : r = 0 := hp1.trans (by simp [r_X1_refused]); clear hp1; subst hp4; have hp3 : u2 = (pF u 0 0) := hp2; clear hp2; subst hp3
          refine z_if_eq 83 dX1_read_78 (by decide) (fun _ => ?_) (fun c_78_19 => absurd c_78_19 (by decide))
          refine z_aload_n 2 dX1_read_83 rfl ?_
          refine z_get (C := RX1) (T := TX1) (N := 22) (v := .ref (a 19)) inwX1_read 0 rfl rfl 19 (by decide) (List.mem_of_getElem? (i := 3) rfl) rfl rfl dX1_read_84 ?_
          refine z_iload_n 4 dX1_read_87 rfl ?_
          refine z_iald (v := (u.2 19 (ix p2))) 16 0 rfl rfl (by first | (with_reducible assumption) | with_reducible exact zmdev hnd hd (by assumption) | with_reducible exact zmnot hnn hn (by assumption) | exact hnd | exact hnn | assumption | decide) rfl dX1_read_88 ?_
          refine z_callSi (As := [.int (u.2 19 (ix p2))]) (st := []) (fun l => c_X1_bits l D _ _ (u.2 19 (ix p2))) zGok_TT (fun _ _ _ => trivial) (fun s args hts => va_cwS 1 hts gX1_read_X1_bits rfl rfl rfl (by decide +kernel) ⟨Nat.le_of_ble_eq_true rfl, Nat.le_of_ble_eq_true rfl⟩) rfl (Nat.le_of_ble_eq_true rfl) ⟨Nat.le_of_ble_eq_true rfl, Nat.le_of_ble_eq_true rfl⟩ dX1_read_89 rfl (fun r u2 hp => ?_)
          subst hp
          refine z_istore (L' := [(5, .int (r_X1_bits (u.2 19 (ix p2)))), (4, .int 1), (3, .int 1), (0, .ref h), (1, .int p1), (2, .int p2)]) dX1_read_92 (by decide) rfl ?_
          refine z_aload_n 3 dX1_read_94 rfl ?_
          refine z_iload_n 5 dX1_read_95 rfl ?_
          refine z_callVv (As := [.int p2]) (st := []) (fun l => c_X1_end l D cI cZ h a (pF u 0 0) p2 (by first | (with_reducible assumption) | with_reducible exact zmdev hnd hd (by assumption) | with_reducible exact zmnot hnn hn (by assumption) | exact hnd | exact hnn | assumption | decide)) zGok_TT (fun _ _ _ => trivial) (fun s args hts => cwV 1 hts gX1_read_X1_end rfl rfl rfl (by decide +kernel) ⟨Nat.le_of_ble_eq_true rfl, Nat.le_of_ble_eq_true rfl⟩) (ci := 1) rfl rfl rfl rfl (Nat.le_of_ble_eq_true rfl) ⟨Nat.le_of_ble_eq_true rfl, Nat.le_of_ble_eq_true rfl⟩ dX1_read_96 rfl (fun u2 hp => ?_)
          have hp3 : u2 = (pG (pG (pF u 0 0) 18 (ix p2) (vp_nar .boolean 1)) 19 (ix p2) 0) := hp; clear hp; subst hp3
          refine z_iload 0 dX1_read_99 rfl ?_
          exact hret _ (pG (pG (pF u 0 0) 18 (ix p2) (vp_nar .boolean 1)) 19 (ix p2) 0) _ _ _ dX1_read_101 ⟨(by rw [r_X1_read, if_neg c_5_0, if_neg c_13_4, if_pos c_37_9, if_pos c_46_13]), (by rw [s_X1_read, if_neg c_5_0, if_neg c_13_4, if_pos c_37_9, if_pos c_46_13])⟩ rfl
