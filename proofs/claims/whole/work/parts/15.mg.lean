set_option maxHeartbeats 4000000 in
set_option maxRecDepth 100000 in
theorem c_X1_send (l : Launch) (D : va_G) (cI cZ : ClassId) (h : Nat) (a : Nat → Nat) (u : SX) (p1 p2 p3 p4 : Int32) (nd : Nat) (hnd : u.1 2 = nI nd) (hd : nd ≤ 16) (nn : Nat) (hnn : u.1 13 = nI nn) (hn : nn ≤ 120) : zMi l yX1_send wsX1_send ({ frames := 4, cells := 0, slots := 0, locals := 94 } : Room) zTT D [(cI, .int), (cZ, .boolean)] (wX1 cI cZ h a u) [.ref h, .int p1, .int p2, .int p3, .int p4] (fun (r : Int32) (u2 : SX) => r = r_X1_send u p1 p2 p3 p4 ∧ u2 = s_X1_send u p1 p2 p3 p4) (fun u2 => (wX1 cI cZ h a u2)) 0 0 := by
  refine z_startI (cc := cX1_send) (n := 9) (own := RX1) (L0 := [(0, .ref h), (1, .int p1), (2, .int p2), (3, .int p3), (4, .int p4)]) (plainFor_of_name (by decide)) rfl rfl (Nat.le_of_ble_eq_true rfl) rfl (fun E hret => ?_)
  have hixnn : ix (u.1 13) = nn := by rw [hnn]; exact nI_clamp (by omega)
  have hixnd : ix (u.1 2) = nd := by rw [hnd]; exact nI_clamp (by omega)
  refine z_iload_n 1 dX1_send_0 rfl ?_
  refine z_iconst (v := 0) dX1_send_1 rfl ?_
  refine z_bipush (v := 7) dX1_send_2 rfl ?_
  refine z_callSi (As := [.int p1, .int 0, .int 7]) (st := []) (fun l => c_X1_in l D _ _ p1 0 7) zGok_TT (fun _ _ _ => trivial) (fun s args hts => va_cwS 3 hts gX1_send_X1_in rfl rfl rfl (by decide +kernel) ⟨Nat.le_of_ble_eq_true rfl, Nat.le_of_ble_eq_true rfl⟩) rfl (Nat.le_of_ble_eq_true rfl) ⟨Nat.le_of_ble_eq_true rfl, Nat.le_of_ble_eq_true rfl⟩ dX1_send_4 rfl (fun r u2 hp => ?_)
  subst hp
  refine z_if_eq 36 dX1_send_7 (by decide) (fun c_7_0 => ?_) (fun c_7_0 => ?_)
  ·
    refine z_iconst (v := 0) dX1_send_36 rfl ?_
    refine z_istore (L' := [(5, .int 0), (0, .ref h), (1, .int p1), (2, .int p2), (3, .int p3), (4, .int p4)]) dX1_send_37 (by decide) rfl ?_
    refine z_aload_n 1 dX1_send_39 rfl ?_
    refine z_iload 0 dX1_send_40 rfl ?_
    refine z_if_ne 49 dX1_send_42 (by decide) (fun c_42_1 => absurd c_42_1 (by decide)) (fun _ => ?_)
    refine z_iconst (v := 1) dX1_send_45 rfl ?_
    refine z_goto 63 dX1_send_46 (by decide) ?_
    refine z_callVi (As := [.int 1]) (st := []) (fun l => c_X1_refused l D cI cZ h a u 1) zGok_TT (fun _ _ _ => trivial) (fun s args hts => cwV 1 hts gX1_send_X1_refused rfl rfl rfl (by decide +kernel) ⟨Nat.le_of_ble_eq_true rfl, Nat.le_of_ble_eq_true rfl⟩) (ci := 1) rfl rfl rfl rfl (Nat.le_of_ble_eq_true rfl) ⟨Nat.le_of_ble_eq_true rfl, Nat.le_of_ble_eq_true rfl⟩ dX1_send_63 rfl (fun r u2 hp => ?_)
    obtain ⟨hp1, hp2⟩ := hp; have hp4 : r = 1 := hp1.trans (by simp [r_X1_refused]); clear hp1; subst hp4; have hp3 : u2 = (pF u 0 1) := hp2; clear hp2; subst hp3
    refine z_if_eq 71 dX1_send_66 (by decide) (fun c_66_2 => absurd c_66_2 (by decide)) (fun _ => ?_)
    refine z_iconst (v := 0) dX1_send_69 rfl ?_
    exact hret _ (pF u 0 1) _ _ _ dX1_send_70 ⟨(by rw [r_X1_send, hixnd, if_pos c_7_0]), (by rw [s_X1_send, hixnd, if_pos c_7_0])⟩ rfl
  ·
    refine z_iload_n 2 dX1_send_10 rfl ?_
    refine z_iconst (v := (-1)) dX1_send_11 rfl ?_
    refine z_bipush (v := 9) dX1_send_12 rfl ?_
    refine z_callSi (As := [.int p2, .int (-1), .int 9]) (st := []) (fun l => c_X1_in l D _ _ p2 (-1) 9) zGok_TT (fun _ _ _ => trivial) (fun s args hts => va_cwS 3 hts gX1_send_X1_in rfl rfl rfl (by decide +kernel) ⟨Nat.le_of_ble_eq_true rfl, Nat.le_of_ble_eq_true rfl⟩) rfl (Nat.le_of_ble_eq_true rfl) ⟨Nat.le_of_ble_eq_true rfl, Nat.le_of_ble_eq_true rfl⟩ dX1_send_14 rfl (fun r u2 hp => ?_)
    subst hp
    refine z_if_eq 36 dX1_send_17 (by decide) (fun c_17_3 => ?_) (fun c_17_3 => ?_)
    ·
      refine z_iconst (v := 0) dX1_send_36 rfl ?_
      refine z_istore (L' := [(5, .int 0), (0, .ref h), (1, .int p1), (2, .int p2), (3, .int p3), (4, .int p4)]) dX1_send_37 (by decide) rfl ?_
      refine z_aload_n 1 dX1_send_39 rfl ?_
      refine z_iload 0 dX1_send_40 rfl ?_
      refine z_if_ne 49 dX1_send_42 (by decide) (fun c_42_4 => absurd c_42_4 (by decide)) (fun _ => ?_)
      refine z_iconst (v := 1) dX1_send_45 rfl ?_
      refine z_goto 63 dX1_send_46 (by decide) ?_
      refine z_callVi (As := [.int 1]) (st := []) (fun l => c_X1_refused l D cI cZ h a u 1) zGok_TT (fun _ _ _ => trivial) (fun s args hts => cwV 1 hts gX1_send_X1_refused rfl rfl rfl (by decide +kernel) ⟨Nat.le_of_ble_eq_true rfl, Nat.le_of_ble_eq_true rfl⟩) (ci := 1) rfl rfl rfl rfl (Nat.le_of_ble_eq_true rfl) ⟨Nat.le_of_ble_eq_true rfl, Nat.le_of_ble_eq_true rfl⟩ dX1_send_63 rfl (fun r u2 hp => ?_)
      obtain ⟨hp1, hp2⟩ := hp; have hp4 : r = 1 := hp1.trans (by simp [r_X1_refused]); clear hp1; subst hp4; have hp3 : u2 = (pF u 0 1) := hp2; clear hp2; subst hp3
      refine z_if_eq 71 dX1_send_66 (by decide) (fun c_66_5 => absurd c_66_5 (by decide)) (fun _ => ?_)
      refine z_iconst (v := 0) dX1_send_69 rfl ?_
      exact hret _ (pF u 0 1) _ _ _ dX1_send_70 ⟨(by rw [r_X1_send, hixnd, if_neg c_7_0, if_pos c_17_3]), (by rw [s_X1_send, hixnd, if_neg c_7_0, if_pos c_17_3])⟩ rfl
    ·
      refine z_iload 4 dX1_send_20 rfl ?_
      refine z_iconst (v := 1) dX1_send_22 rfl ?_
      refine z_sipush (v := 10000) dX1_send_23 rfl ?_
      refine z_callSi (As := [.int p4, .int 1, .int 10000]) (st := []) (fun l => c_X1_in l D _ _ p4 1 10000) zGok_TT (fun _ _ _ => trivial) (fun s args hts => va_cwS 3 hts gX1_send_X1_in rfl rfl rfl (by decide +kernel) ⟨Nat.le_of_ble_eq_true rfl, Nat.le_of_ble_eq_true rfl⟩) rfl (Nat.le_of_ble_eq_true rfl) ⟨Nat.le_of_ble_eq_true rfl, Nat.le_of_ble_eq_true rfl⟩ dX1_send_26 rfl (fun r u2 hp => ?_)
      subst hp
      refine z_if_eq 36 dX1_send_29 (by decide) (fun c_29_6 => ?_) (fun c_29_6 => ?_)
      ·
        refine z_iconst (v := 0) dX1_send_36 rfl ?_
        refine z_istore (L' := [(5, .int 0), (0, .ref h), (1, .int p1), (2, .int p2), (3, .int p3), (4, .int p4)]) dX1_send_37 (by decide) rfl ?_
        refine z_aload_n 1 dX1_send_39 rfl ?_
        refine z_iload 0 dX1_send_40 rfl ?_
        refine z_if_ne 49 dX1_send_42 (by decide) (fun c_42_7 => absurd c_42_7 (by decide)) (fun _ => ?_)
        refine z_iconst (v := 1) dX1_send_45 rfl ?_
        refine z_goto 63 dX1_send_46 (by decide) ?_
        refine z_callVi (As := [.int 1]) (st := []) (fun l => c_X1_refused l D cI cZ h a u 1) zGok_TT (fun _ _ _ => trivial) (fun s args hts => cwV 1 hts gX1_send_X1_refused rfl rfl rfl (by decide +kernel) ⟨Nat.le_of_ble_eq_true rfl, Nat.le_of_ble_eq_true rfl⟩) (ci := 1) rfl rfl rfl rfl (Nat.le_of_ble_eq_true rfl) ⟨Nat.le_of_ble_eq_true rfl, Nat.le_of_ble_eq_true rfl⟩ dX1_send_63 rfl (fun r u2 hp => ?_)
        obtain ⟨hp1, hp2⟩ := hp; have hp4 : r = 1 := hp1.trans (by simp [r_X1_refused]); clear hp1; subst hp4; have hp3 : u2 = (pF u 0 1) := hp2; clear hp2; subst hp3
        refine z_if_eq 71 dX1_send_66 (by decide) (fun c_66_8 => absurd c_66_8 (by decide)) (fun _ => ?_)
        refine z_iconst (v := 0) dX1_send_69 rfl ?_
        exact hret _ (pF u 0 1) _ _ _ dX1_send_70 ⟨(by rw [r_X1_send, hixnd, if_neg c_7_0, if_neg c_17_3, if_pos c_29_6]), (by rw [s_X1_send, hixnd, if_neg c_7_0, if_neg c_17_3, if_pos c_29_6])⟩ rfl
      ·
        refine z_iconst (v := 1) dX1_send_32 rfl ?_
        refine z_goto 37 dX1_send_33 (by decide) ?_
        refine z_istore (L' := [(5, .int 1), (0, .ref h), (1, .int p1), (2, .int p2), (3, .int p3), (4, .int p4)]) dX1_send_37 (by decide) rfl ?_
        refine z_aload_n 1 dX1_send_39 rfl ?_
        refine z_iload 0 dX1_send_40 rfl ?_
        refine z_if_ne 49 dX1_send_42 (by decide) (fun _ => ?_) (fun c_42_9 => absurd c_42_9 (by decide))
        refine z_aload_n 1 dX1_send_49 rfl ?_
        refine z_get (C := RX1) (T := TX1) (N := 22) (v := .int (u.1 13)) inwX1_send 0 rfl rfl 13 (by decide) (List.mem_of_getElem? (i := 1) rfl) rfl rfl dX1_send_50 ?_
        refine z_bipush (v := 120) dX1_send_53 rfl ?_
        refine z_icmp_ne 62 dX1_send_55 (by decide) (fun c_55_10 => ?_) (fun c_55_10 => ?_)
        ·
          refine z_iconst (v := 0) dX1_send_62 rfl ?_
          refine z_callVi (As := [.int 0]) (st := []) (fun l => c_X1_refused l D cI cZ h a u 0) zGok_TT (fun _ _ _ => trivial) (fun s args hts => cwV 1 hts gX1_send_X1_refused rfl rfl rfl (by decide +kernel) ⟨Nat.le_of_ble_eq_true rfl, Nat.le_of_ble_eq_true rfl⟩) (ci := 1) rfl rfl rfl rfl (Nat.le_of_ble_eq_true rfl) ⟨Nat.le_of_ble_eq_true rfl, Nat.le_of_ble_eq_true rfl⟩ dX1_send_63 rfl (fun r u2 hp => ?_)
          obtain ⟨hp1, hp2⟩ := hp; have hp4 : r = 0 := hp1.trans (by simp [r_X1_refused]); clear hp1; subst hp4; have hp3 : u2 = (pF u 0 0) := hp2; clear hp2; subst hp3
          refine z_if_eq 71 dX1_send_66 (by decide) (fun _ => ?_) (fun c_66_11 => absurd c_66_11 (by decide))
          refine z_iload_n 3 dX1_send_71 rfl ?_
          refine z_iconst (v := (-1)) dX1_send_72 rfl ?_
          have hJ86 : ZW E zTT ({ frames := 4, cells := 0, slots := 0, locals := 94 } : Room) cX1_send RX1 wsX1_send 9 D [(cI, .int), (cZ, .boolean)] 0 0 (wX1 cI cZ h a (pF u 0 0)) 86 [(0, .ref h), (1, .int p1), (2, .int p2), (3, .int p3), (4, .int p4), (5, .int 1)] [.int (if p2 = (-1) then (-1) else (r_X1_standingNow (pF u 0 0) p1 p2))] := by
            refine z_istore (L' := [(6, .int (if p2 = (-1) then (-1) else (r_X1_standingNow (pF u 0 0) p1 p2))), (0, .ref h), (1, .int p1), (2, .int p2), (3, .int p3), (4, .int p4), (5, .int 1)]) dX1_send_86 (by decide) rfl ?_
            refine z_iload 0 dX1_send_88 rfl ?_
            refine z_iconst (v := (-1)) dX1_send_90 rfl ?_
            refine z_icmp_eq 100 dX1_send_91 (by decide) (fun c_91_13 => ?_) (fun c_91_13 => ?_)
            ·
              refine z_iconst (v := 0) dX1_send_100 rfl ?_
              refine z_istore (L' := [(7, .int 0), (6, .int (if p2 = (-1) then (-1) else (r_X1_standingNow (pF u 0 0) p1 p2))), (0, .ref h), (1, .int p1), (2, .int p2), (3, .int p3), (4, .int p4), (5, .int 1)]) dX1_send_101 (by decide) rfl ?_
              refine z_iconst (v := 0) dX1_send_103 rfl ?_
              refine z_istore (L' := [(8, .int 0), (7, .int 0), (6, .int (if p2 = (-1) then (-1) else (r_X1_standingNow (pF u 0 0) p1 p2))), (0, .ref h), (1, .int p1), (2, .int p2), (3, .int p3), (4, .int p4), (5, .int 1)]) dX1_send_104 (by decide) rfl ?_
              refine z_sub (L' := [(0, .ref h), (1, .int p1), (2, .int p2), (3, .int p3), (4, .int p4), (5, .int 1), (6, .int (if p2 = (-1) then (-1) else (r_X1_standingNow (pF u 0 0) p1 p2))), (7, .int 0), (8, .int 0)]) [3, 4, 5, 6, 7, 8, 2, 1, 0] rfl ?_
              have hloop106 : ∀ r k106 : Nat, k106 + r = nd → ZW E zTT ({ frames := 4, cells := 0, slots := 0, locals := 94 } : Room) cX1_send RX1 wsX1_send 9 D [(cI, .int), (cZ, .boolean)] 0 0 (wX1 cI cZ h a (pF u 0 0)) 106 [(0, .ref h), (1, .int p1), (2, .int p2), (3, .int p3), (4, .int p4), (5, .int 1), (6, .int (if p2 = (-1) then (-1) else (r_X1_standingNow (pF u 0 0) p1 p2))), (7, .int (l_X1_send_106 u p1 p2 p3 p4 k106)), (8, .int (nI k106))] [] := by
                intro r
                induction r with
                | zero =>
                  intro k106 hk106
                  have hkN106 : nd = k106 := by omega
                  subst hkN106
                  refine z_iload 8 dX1_send_106 rfl ?_
                  refine z_aload_n 0 dX1_send_108 rfl ?_
                  refine z_get (C := RX1) (T := TX1) (N := 22) (v := .int (u.1 2)) inwX1_send 0 rfl rfl 2 (by decide) (List.mem_of_getElem? (i := 2) rfl) rfl rfl dX1_send_109 ?_
                  refine z_icmp_ge 155 dX1_send_112 (by decide) (fun c_112_15 => ?_) (fun c_112_15 => ?_)
                  ·
                    refine z_aload_n 0 dX1_send_155 rfl ?_
                    refine z_iload_n 1 dX1_send_156 rfl ?_
                    refine z_iload_n 2 dX1_send_157 rfl ?_
                    refine z_iload_n 3 dX1_send_158 rfl ?_
                    refine z_iload 4 dX1_send_159 rfl ?_
                    refine z_iload 7 dX1_send_161 rfl ?_
                    refine z_callVi (As := [.int p1, .int p2, .int p3, .int p4, .int (l_X1_send_106 u p1 p2 p3 p4 nd)]) (st := []) (fun l => c_X1_add l D cI cZ h a (pF u 0 0) p1 p2 p3 p4 (l_X1_send_106 u p1 p2 p3 p4 nd) nd (by first | (with_reducible assumption) | with_reducible exact vp_in_nI (by omega) (by omega) | with_reducible exact zmdev hnd hd (by assumption) | with_reducible exact zmnot hnn hn (by assumption) | with_reducible exact zroomQ hnn hn (by assumption) | with_reducible exact zold (u := u) (v := pF u 0 0) hnn hn rfl (by assumption) | exact hnd | exact hnn | assumption | decide) (by first | (with_reducible assumption) | with_reducible exact vp_in_nI (by omega) (by omega) | with_reducible exact zmdev hnd hd (by assumption) | with_reducible exact zmnot hnn hn (by assumption) | with_reducible exact zroomQ hnn hn (by assumption) | with_reducible exact zold (u := u) (v := pF u 0 0) hnn hn rfl (by assumption) | exact hnd | exact hnn | assumption | decide) nn (by first | (with_reducible assumption) | with_reducible exact vp_in_nI (by omega) (by omega) | with_reducible exact zmdev hnd hd (by assumption) | with_reducible exact zmnot hnn hn (by assumption) | with_reducible exact zroomQ hnn hn (by assumption) | with_reducible exact zold (u := u) (v := pF u 0 0) hnn hn rfl (by assumption) | exact hnd | exact hnn | assumption | decide) (by first | (with_reducible assumption) | with_reducible exact vp_in_nI (by omega) (by omega) | with_reducible exact zmdev hnd hd (by assumption) | with_reducible exact zmnot hnn hn (by assumption) | with_reducible exact zroomQ hnn hn (by assumption) | with_reducible exact zold (u := u) (v := pF u 0 0) hnn hn rfl (by assumption) | exact hnd | exact hnn | assumption | decide) (by first | (with_reducible assumption) | with_reducible exact vp_in_nI (by omega) (by omega) | with_reducible exact zmdev hnd hd (by assumption) | with_reducible exact zmnot hnn hn (by assumption) | with_reducible exact zroomQ hnn hn (by assumption) | with_reducible exact zold (u := u) (v := pF u 0 0) hnn hn rfl (by assumption) | exact hnd | exact hnn | assumption | decide)) zGok_TT (fun _ _ _ => trivial) (fun s args hts => cwV 5 hts gX1_send_X1_add rfl rfl rfl (by decide +kernel) ⟨Nat.le_of_ble_eq_true rfl, Nat.le_of_ble_eq_true rfl⟩) (ci := 1) rfl rfl rfl rfl (Nat.le_of_ble_eq_true rfl) ⟨Nat.le_of_ble_eq_true rfl, Nat.le_of_ble_eq_true rfl⟩ dX1_send_163 rfl (fun r u2 hp => ?_)
                    obtain ⟨rfl, rfl⟩ := hp
                    exact hret _ (s_X1_add (pF u 0 0) p1 p2 p3 p4 (l_X1_send_106 u p1 p2 p3 p4 nd)) _ _ _ dX1_send_166 ⟨(by rw [r_X1_send, hixnd, if_neg c_7_0, if_neg c_17_3, if_neg c_29_6, if_neg c_55_10, if_pos c_91_13]), (by rw [s_X1_send, hixnd, if_neg c_7_0, if_neg c_17_3, if_neg c_29_6, if_neg c_55_10, if_pos c_91_13])⟩ rfl
                  · exact absurd (by rw [hnd]; exact nI_le (Nat.le_refl _) (by omega)) c_112_15
                | succ r ih106 =>
                  intro k106 hk106
                  obtain ⟨x106, hx106⟩ : ∃ x, x = l_X1_send_106 u p1 p2 p3 p4 k106 := ⟨_, rfl⟩
                  rw [← hx106]
                  refine z_iload 8 dX1_send_106 rfl ?_
                  refine z_aload_n 0 dX1_send_108 rfl ?_
                  refine z_get (C := RX1) (T := TX1) (N := 22) (v := .int (u.1 2)) inwX1_send 0 rfl rfl 2 (by decide) (List.mem_of_getElem? (i := 2) rfl) rfl rfl dX1_send_109 ?_
                  refine z_icmp_ge 155 dX1_send_112 (by decide) (fun c_112_14 => ?_) (fun c_112_14 => ?_)
                  · exact absurd c_112_14 (by rw [hnd]; exact nI_ge (by omega) (by omega))
                  ·
                    refine z_iload 7 dX1_send_115 rfl ?_
                    refine z_aload_n 0 dX1_send_117 rfl ?_
                    refine z_get (C := RX1) (T := TX1) (N := 22) (v := .ref (a 3)) inwX1_send 0 rfl rfl 3 (by decide) (List.mem_of_getElem? (i := 3) rfl) rfl rfl dX1_send_118 ?_
                    refine z_iload 8 dX1_send_121 rfl ?_
                    refine z_iald (v := (u.2 3 (ix (nI k106)))) 1 0 rfl rfl (vp_in_nI (by omega) (by omega)) rfl dX1_send_123 ?_
                    refine z_iload_n 1 dX1_send_124 rfl ?_
                    refine z_icmp_ne 145 dX1_send_125 (by decide) (fun c_125_16 => ?_) (fun c_125_16 => ?_)
                    ·
                      refine z_iconst (v := 0) dX1_send_145 rfl ?_
                      refine z_ior dX1_send_146 ?_
                      refine z_istore (L' := [(7, .int (x106 ||| 0)), (0, .ref h), (1, .int p1), (2, .int p2), (3, .int p3), (4, .int p4), (5, .int 1), (6, .int (if p2 = (-1) then (-1) else (r_X1_standingNow (pF u 0 0) p1 p2))), (8, .int (nI k106))]) dX1_send_147 (by decide) rfl ?_
                      refine z_iinc (v := (nI (k106 + 1))) (L' := [(8, .int (nI (k106 + 1))), (7, .int (x106 ||| 0)), (0, .ref h), (1, .int p1), (2, .int p2), (3, .int p3), (4, .int p4), (5, .int 1), (6, .int (if p2 = (-1) then (-1) else (r_X1_standingNow (pF u 0 0) p1 p2)))]) 8 dX1_send_149 rfl (nI_1 k106) (by decide) rfl ?_
                      refine z_goto 106 dX1_send_152 (by decide) ?_
                      have hb106 : l_X1_send_106 u p1 p2 p3 p4 (k106 + 1) = (x106 ||| 0) := by
                        show b_X1_send_106 u p1 p2 p3 p4 k106 (l_X1_send_106 u p1 p2 p3 p4 k106) = _
                        rw [← hx106, b_X1_send_106, if_neg c_125_16]
                      refine z_sub (L' := [(0, .ref h), (1, .int p1), (2, .int p2), (3, .int p3), (4, .int p4), (5, .int 1), (6, .int (if p2 = (-1) then (-1) else (r_X1_standingNow (pF u 0 0) p1 p2))), (7, .int (x106 ||| 0)), (8, .int (nI (k106 + 1)))]) [2, 3, 4, 5, 6, 7, 8, 1, 0] rfl ?_
                      have ih2 := ih106 (k106 + 1) (by omega)
                      rw [hb106] at ih2
                      exact ih2
                    ·
                      refine z_aload_n 0 dX1_send_128 rfl ?_
                      refine z_get (C := RX1) (T := TX1) (N := 22) (v := .ref (a 7)) inwX1_send 0 rfl rfl 7 (by decide) (List.mem_of_getElem? (i := 4) rfl) rfl rfl dX1_send_129 ?_
                      refine z_iload 8 dX1_send_132 rfl ?_
                      refine z_zald (v := (u.2 7 (ix (nI k106)))) 5 1 rfl rfl (vp_in_nI (by omega) (by omega)) rfl dX1_send_134 ?_
                      refine z_if_ne 145 dX1_send_135 (by decide) (fun c_135_17 => ?_) (fun c_135_17 => ?_)
                      ·
                        refine z_iconst (v := 0) dX1_send_145 rfl ?_
                        refine z_ior dX1_send_146 ?_
                        refine z_istore (L' := [(7, .int (x106 ||| 0)), (0, .ref h), (1, .int p1), (2, .int p2), (3, .int p3), (4, .int p4), (5, .int 1), (6, .int (if p2 = (-1) then (-1) else (r_X1_standingNow (pF u 0 0) p1 p2))), (8, .int (nI k106))]) dX1_send_147 (by decide) rfl ?_
                        refine z_iinc (v := (nI (k106 + 1))) (L' := [(8, .int (nI (k106 + 1))), (7, .int (x106 ||| 0)), (0, .ref h), (1, .int p1), (2, .int p2), (3, .int p3), (4, .int p4), (5, .int 1), (6, .int (if p2 = (-1) then (-1) else (r_X1_standingNow (pF u 0 0) p1 p2)))]) 8 dX1_send_149 rfl (nI_1 k106) (by decide) rfl ?_
                        refine z_goto 106 dX1_send_152 (by decide) ?_
                        have hb106 : l_X1_send_106 u p1 p2 p3 p4 (k106 + 1) = (x106 ||| 0) := by
                          show b_X1_send_106 u p1 p2 p3 p4 k106 (l_X1_send_106 u p1 p2 p3 p4 k106) = _
                          rw [← hx106, b_X1_send_106, if_pos c_125_16, if_neg c_135_17]
                        refine z_sub (L' := [(0, .ref h), (1, .int p1), (2, .int p2), (3, .int p3), (4, .int p4), (5, .int 1), (6, .int (if p2 = (-1) then (-1) else (r_X1_standingNow (pF u 0 0) p1 p2))), (7, .int (x106 ||| 0)), (8, .int (nI (k106 + 1)))]) [2, 3, 4, 5, 6, 7, 8, 1, 0] rfl ?_
                        have ih2 := ih106 (k106 + 1) (by omega)
                        rw [hb106] at ih2
                        exact ih2
                      ·
                        refine z_iconst (v := 1) dX1_send_138 rfl ?_
                        refine z_iload 8 dX1_send_139 rfl ?_
                        refine z_ishl dX1_send_141 ?_
                        refine z_goto 146 dX1_send_142 (by decide) ?_
                        refine z_ior dX1_send_146 ?_
                        refine z_istore (L' := [(7, .int (x106 ||| (1 <<< ((nI k106) &&& 31)))), (0, .ref h), (1, .int p1), (2, .int p2), (3, .int p3), (4, .int p4), (5, .int 1), (6, .int (if p2 = (-1) then (-1) else (r_X1_standingNow (pF u 0 0) p1 p2))), (8, .int (nI k106))]) dX1_send_147 (by decide) rfl ?_
                        refine z_iinc (v := (nI (k106 + 1))) (L' := [(8, .int (nI (k106 + 1))), (7, .int (x106 ||| (1 <<< ((nI k106) &&& 31)))), (0, .ref h), (1, .int p1), (2, .int p2), (3, .int p3), (4, .int p4), (5, .int 1), (6, .int (if p2 = (-1) then (-1) else (r_X1_standingNow (pF u 0 0) p1 p2)))]) 8 dX1_send_149 rfl (nI_1 k106) (by decide) rfl ?_
                        refine z_goto 106 dX1_send_152 (by decide) ?_
                        have hb106 : l_X1_send_106 u p1 p2 p3 p4 (k106 + 1) = (x106 ||| (1 <<< ((nI k106) &&& 31))) := by
                          show b_X1_send_106 u p1 p2 p3 p4 k106 (l_X1_send_106 u p1 p2 p3 p4 k106) = _
                          rw [← hx106, b_X1_send_106, if_pos c_125_16, if_pos c_135_17]
                        refine z_sub (L' := [(0, .ref h), (1, .int p1), (2, .int p2), (3, .int p3), (4, .int p4), (5, .int 1), (6, .int (if p2 = (-1) then (-1) else (r_X1_standingNow (pF u 0 0) p1 p2))), (7, .int (x106 ||| (1 <<< ((nI k106) &&& 31)))), (8, .int (nI (k106 + 1)))]) [2, 3, 4, 5, 6, 7, 8, 1, 0] rfl ?_
                        have ih2 := ih106 (k106 + 1) (by omega)
                        rw [hb106] at ih2
                        exact ih2
              exact hloop106 nd 0 (by omega)
            ·
              refine z_aload_n 1 dX1_send_94 rfl ?_
              refine z_iload 0 dX1_send_95 rfl ?_
              refine z_callVv (As := [.int (if p2 = (-1) then (-1) else (r_X1_standingNow (pF u 0 0) p1 p2))]) (st := []) (fun l => c_X1_end l D cI cZ h a (pF u 0 0) (if p2 = (-1) then (-1) else (r_X1_standingNow (pF u 0 0) p1 p2)) (by first | (with_reducible assumption) | with_reducible exact vp_in_nI (by omega) (by omega) | with_reducible exact zmdev hnd hd (by assumption) | with_reducible exact zmnot hnn hn (by assumption) | with_reducible exact zroomQ hnn hn (by assumption) | with_reducible exact zold (u := u) (v := pF u 0 0) hnn hn rfl (by assumption) | exact hnd | exact hnn | assumption | decide)) zGok_TT (fun _ _ _ => trivial) (fun s args hts => cwV 1 hts gX1_send_X1_end rfl rfl rfl (by decide +kernel) ⟨Nat.le_of_ble_eq_true rfl, Nat.le_of_ble_eq_true rfl⟩) (ci := 1) rfl rfl rfl rfl (Nat.le_of_ble_eq_true rfl) ⟨Nat.le_of_ble_eq_true rfl, Nat.le_of_ble_eq_true rfl⟩ dX1_send_97 rfl (fun u2 hp => ?_)
              have hp3 : u2 = (pG (pG (pF u 0 0) 18 (ix (if p2 = (-1) then (-1) else (r_X1_standingNow (pF u 0 0) p1 p2))) (vp_nar .boolean 1)) 19 (ix (if p2 = (-1) then (-1) else (r_X1_standingNow (pF u 0 0) p1 p2))) 0) := hp; clear hp; subst hp3
              refine z_iconst (v := 0) dX1_send_100 rfl ?_
              refine z_istore (L' := [(7, .int 0), (6, .int (if p2 = (-1) then (-1) else (r_X1_standingNow (pF u 0 0) p1 p2))), (0, .ref h), (1, .int p1), (2, .int p2), (3, .int p3), (4, .int p4), (5, .int 1)]) dX1_send_101 (by decide) rfl ?_
              refine z_iconst (v := 0) dX1_send_103 rfl ?_
              refine z_istore (L' := [(8, .int 0), (7, .int 0), (6, .int (if p2 = (-1) then (-1) else (r_X1_standingNow (pF u 0 0) p1 p2))), (0, .ref h), (1, .int p1), (2, .int p2), (3, .int p3), (4, .int p4), (5, .int 1)]) dX1_send_104 (by decide) rfl ?_
              refine z_sub (L' := [(0, .ref h), (1, .int p1), (2, .int p2), (3, .int p3), (4, .int p4), (5, .int 1), (6, .int (if p2 = (-1) then (-1) else (r_X1_standingNow (pF u 0 0) p1 p2))), (7, .int 0), (8, .int 0)]) [3, 4, 5, 6, 7, 8, 2, 1, 0] rfl ?_
              have hloop106 : ∀ r k106 : Nat, k106 + r = nd → ZW E zTT ({ frames := 4, cells := 0, slots := 0, locals := 94 } : Room) cX1_send RX1 wsX1_send 9 D [(cI, .int), (cZ, .boolean)] 0 0 (wX1 cI cZ h a (pG (pG (pF u 0 0) 18 (ix (if p2 = (-1) then (-1) else (r_X1_standingNow (pF u 0 0) p1 p2))) (vp_nar .boolean 1)) 19 (ix (if p2 = (-1) then (-1) else (r_X1_standingNow (pF u 0 0) p1 p2))) 0)) 106 [(0, .ref h), (1, .int p1), (2, .int p2), (3, .int p3), (4, .int p4), (5, .int 1), (6, .int (if p2 = (-1) then (-1) else (r_X1_standingNow (pF u 0 0) p1 p2))), (7, .int (l_X1_send_106 u p1 p2 p3 p4 k106)), (8, .int (nI k106))] [] := by
                intro r
                induction r with
                | zero =>
                  intro k106 hk106
                  have hkN106 : nd = k106 := by omega
                  subst hkN106
                  refine z_iload 8 dX1_send_106 rfl ?_
                  refine z_aload_n 0 dX1_send_108 rfl ?_
                  refine z_get (C := RX1) (T := TX1) (N := 22) (v := .int (u.1 2)) inwX1_send 0 rfl rfl 2 (by decide) (List.mem_of_getElem? (i := 2) rfl) rfl rfl dX1_send_109 ?_
                  refine z_icmp_ge 155 dX1_send_112 (by decide) (fun c_112_19 => ?_) (fun c_112_19 => ?_)
                  ·
                    refine z_aload_n 0 dX1_send_155 rfl ?_
                    refine z_iload_n 1 dX1_send_156 rfl ?_
                    refine z_iload_n 2 dX1_send_157 rfl ?_
                    refine z_iload_n 3 dX1_send_158 rfl ?_
                    refine z_iload 4 dX1_send_159 rfl ?_
                    refine z_iload 7 dX1_send_161 rfl ?_
                    refine z_callVi (As := [.int p1, .int p2, .int p3, .int p4, .int (l_X1_send_106 u p1 p2 p3 p4 nd)]) (st := []) (fun l => c_X1_add l D cI cZ h a (pG (pG (pF u 0 0) 18 (ix (if p2 = (-1) then (-1) else (r_X1_standingNow (pF u 0 0) p1 p2))) (vp_nar .boolean 1)) 19 (ix (if p2 = (-1) then (-1) else (r_X1_standingNow (pF u 0 0) p1 p2))) 0) p1 p2 p3 p4 (l_X1_send_106 u p1 p2 p3 p4 nd) nd (by first | (with_reducible assumption) | with_reducible exact vp_in_nI (by omega) (by omega) | with_reducible exact zmdev hnd hd (by assumption) | with_reducible exact zmnot hnn hn (by assumption) | with_reducible exact zroomQ hnn hn (by assumption) | with_reducible exact zold (u := u) (v := pF u 0 0) hnn hn rfl (by assumption) | exact hnd | exact hnn | assumption | decide) (by first | (with_reducible assumption) | with_reducible exact vp_in_nI (by omega) (by omega) | with_reducible exact zmdev hnd hd (by assumption) | with_reducible exact zmnot hnn hn (by assumption) | with_reducible exact zroomQ hnn hn (by assumption) | with_reducible exact zold (u := u) (v := pF u 0 0) hnn hn rfl (by assumption) | exact hnd | exact hnn | assumption | decide) nn (by first | (with_reducible assumption) | with_reducible exact vp_in_nI (by omega) (by omega) | with_reducible exact zmdev hnd hd (by assumption) | with_reducible exact zmnot hnn hn (by assumption) | with_reducible exact zroomQ hnn hn (by assumption) | with_reducible exact zold (u := u) (v := pF u 0 0) hnn hn rfl (by assumption) | exact hnd | exact hnn | assumption | decide) (by first | (with_reducible assumption) | with_reducible exact vp_in_nI (by omega) (by omega) | with_reducible exact zmdev hnd hd (by assumption) | with_reducible exact zmnot hnn hn (by assumption) | with_reducible exact zroomQ hnn hn (by assumption) | with_reducible exact zold (u := u) (v := pF u 0 0) hnn hn rfl (by assumption) | exact hnd | exact hnn | assumption | decide) (by first | (with_reducible assumption) | with_reducible exact vp_in_nI (by omega) (by omega) | with_reducible exact zmdev hnd hd (by assumption) | with_reducible exact zmnot hnn hn (by assumption) | with_reducible exact zroomQ hnn hn (by assumption) | with_reducible exact zold (u := u) (v := pF u 0 0) hnn hn rfl (by assumption) | exact hnd | exact hnn | assumption | decide)) zGok_TT (fun _ _ _ => trivial) (fun s args hts => cwV 5 hts gX1_send_X1_add rfl rfl rfl (by decide +kernel) ⟨Nat.le_of_ble_eq_true rfl, Nat.le_of_ble_eq_true rfl⟩) (ci := 1) rfl rfl rfl rfl (Nat.le_of_ble_eq_true rfl) ⟨Nat.le_of_ble_eq_true rfl, Nat.le_of_ble_eq_true rfl⟩ dX1_send_163 rfl (fun r u2 hp => ?_)
                    obtain ⟨rfl, rfl⟩ := hp
                    exact hret _ (s_X1_add (pG (pG (pF u 0 0) 18 (ix (if p2 = (-1) then (-1) else (r_X1_standingNow (pF u 0 0) p1 p2))) (vp_nar .boolean 1)) 19 (ix (if p2 = (-1) then (-1) else (r_X1_standingNow (pF u 0 0) p1 p2))) 0) p1 p2 p3 p4 (l_X1_send_106 u p1 p2 p3 p4 nd)) _ _ _ dX1_send_166 ⟨(by rw [r_X1_send, hixnd, if_neg c_7_0, if_neg c_17_3, if_neg c_29_6, if_neg c_55_10, if_neg c_91_13]), (by rw [s_X1_send, hixnd, if_neg c_7_0, if_neg c_17_3, if_neg c_29_6, if_neg c_55_10, if_neg c_91_13])⟩ rfl
                  · exact absurd (by rw [hnd]; exact nI_le (Nat.le_refl _) (by omega)) c_112_19
                | succ r ih106 =>
                  intro k106 hk106
                  obtain ⟨x106, hx106⟩ : ∃ x, x = l_X1_send_106 u p1 p2 p3 p4 k106 := ⟨_, rfl⟩
                  rw [← hx106]
                  refine z_iload 8 dX1_send_106 rfl ?_
                  refine z_aload_n 0 dX1_send_108 rfl ?_
                  refine z_get (C := RX1) (T := TX1) (N := 22) (v := .int (u.1 2)) inwX1_send 0 rfl rfl 2 (by decide) (List.mem_of_getElem? (i := 2) rfl) rfl rfl dX1_send_109 ?_
                  refine z_icmp_ge 155 dX1_send_112 (by decide) (fun c_112_18 => ?_) (fun c_112_18 => ?_)
                  · exact absurd c_112_18 (by rw [hnd]; exact nI_ge (by omega) (by omega))
                  ·
                    refine z_iload 7 dX1_send_115 rfl ?_
                    refine z_aload_n 0 dX1_send_117 rfl ?_
                    refine z_get (C := RX1) (T := TX1) (N := 22) (v := .ref (a 3)) inwX1_send 0 rfl rfl 3 (by decide) (List.mem_of_getElem? (i := 3) rfl) rfl rfl dX1_send_118 ?_
                    refine z_iload 8 dX1_send_121 rfl ?_
                    refine z_iald (v := (u.2 3 (ix (nI k106)))) 1 0 rfl rfl (vp_in_nI (by omega) (by omega)) rfl dX1_send_123 ?_
                    refine z_iload_n 1 dX1_send_124 rfl ?_
                    refine z_icmp_ne 145 dX1_send_125 (by decide) (fun c_125_20 => ?_) (fun c_125_20 => ?_)
                    ·
                      refine z_iconst (v := 0) dX1_send_145 rfl ?_
                      refine z_ior dX1_send_146 ?_
                      refine z_istore (L' := [(7, .int (x106 ||| 0)), (0, .ref h), (1, .int p1), (2, .int p2), (3, .int p3), (4, .int p4), (5, .int 1), (6, .int (if p2 = (-1) then (-1) else (r_X1_standingNow (pF u 0 0) p1 p2))), (8, .int (nI k106))]) dX1_send_147 (by decide) rfl ?_
                      refine z_iinc (v := (nI (k106 + 1))) (L' := [(8, .int (nI (k106 + 1))), (7, .int (x106 ||| 0)), (0, .ref h), (1, .int p1), (2, .int p2), (3, .int p3), (4, .int p4), (5, .int 1), (6, .int (if p2 = (-1) then (-1) else (r_X1_standingNow (pF u 0 0) p1 p2)))]) 8 dX1_send_149 rfl (nI_1 k106) (by decide) rfl ?_
                      refine z_goto 106 dX1_send_152 (by decide) ?_
                      have hb106 : l_X1_send_106 u p1 p2 p3 p4 (k106 + 1) = (x106 ||| 0) := by
                        show b_X1_send_106 u p1 p2 p3 p4 k106 (l_X1_send_106 u p1 p2 p3 p4 k106) = _
                        rw [← hx106, b_X1_send_106, if_neg c_125_20]
                      refine z_sub (L' := [(0, .ref h), (1, .int p1), (2, .int p2), (3, .int p3), (4, .int p4), (5, .int 1), (6, .int (if p2 = (-1) then (-1) else (r_X1_standingNow (pF u 0 0) p1 p2))), (7, .int (x106 ||| 0)), (8, .int (nI (k106 + 1)))]) [2, 3, 4, 5, 6, 7, 8, 1, 0] rfl ?_
                      have ih2 := ih106 (k106 + 1) (by omega)
                      rw [hb106] at ih2
                      exact ih2
                    ·
                      refine z_aload_n 0 dX1_send_128 rfl ?_
                      refine z_get (C := RX1) (T := TX1) (N := 22) (v := .ref (a 7)) inwX1_send 0 rfl rfl 7 (by decide) (List.mem_of_getElem? (i := 4) rfl) rfl rfl dX1_send_129 ?_
                      refine z_iload 8 dX1_send_132 rfl ?_
                      refine z_zald (v := (u.2 7 (ix (nI k106)))) 5 1 rfl rfl (vp_in_nI (by omega) (by omega)) rfl dX1_send_134 ?_
                      refine z_if_ne 145 dX1_send_135 (by decide) (fun c_135_21 => ?_) (fun c_135_21 => ?_)
                      ·
                        refine z_iconst (v := 0) dX1_send_145 rfl ?_
                        refine z_ior dX1_send_146 ?_
                        refine z_istore (L' := [(7, .int (x106 ||| 0)), (0, .ref h), (1, .int p1), (2, .int p2), (3, .int p3), (4, .int p4), (5, .int 1), (6, .int (if p2 = (-1) then (-1) else (r_X1_standingNow (pF u 0 0) p1 p2))), (8, .int (nI k106))]) dX1_send_147 (by decide) rfl ?_
                        refine z_iinc (v := (nI (k106 + 1))) (L' := [(8, .int (nI (k106 + 1))), (7, .int (x106 ||| 0)), (0, .ref h), (1, .int p1), (2, .int p2), (3, .int p3), (4, .int p4), (5, .int 1), (6, .int (if p2 = (-1) then (-1) else (r_X1_standingNow (pF u 0 0) p1 p2)))]) 8 dX1_send_149 rfl (nI_1 k106) (by decide) rfl ?_
                        refine z_goto 106 dX1_send_152 (by decide) ?_
                        have hb106 : l_X1_send_106 u p1 p2 p3 p4 (k106 + 1) = (x106 ||| 0) := by
                          show b_X1_send_106 u p1 p2 p3 p4 k106 (l_X1_send_106 u p1 p2 p3 p4 k106) = _
                          rw [← hx106, b_X1_send_106, if_pos c_125_20, if_neg c_135_21]
                        refine z_sub (L' := [(0, .ref h), (1, .int p1), (2, .int p2), (3, .int p3), (4, .int p4), (5, .int 1), (6, .int (if p2 = (-1) then (-1) else (r_X1_standingNow (pF u 0 0) p1 p2))), (7, .int (x106 ||| 0)), (8, .int (nI (k106 + 1)))]) [2, 3, 4, 5, 6, 7, 8, 1, 0] rfl ?_
                        have ih2 := ih106 (k106 + 1) (by omega)
                        rw [hb106] at ih2
                        exact ih2
                      ·
                        refine z_iconst (v := 1) dX1_send_138 rfl ?_
                        refine z_iload 8 dX1_send_139 rfl ?_
                        refine z_ishl dX1_send_141 ?_
                        refine z_goto 146 dX1_send_142 (by decide) ?_
                        refine z_ior dX1_send_146 ?_
                        refine z_istore (L' := [(7, .int (x106 ||| (1 <<< ((nI k106) &&& 31)))), (0, .ref h), (1, .int p1), (2, .int p2), (3, .int p3), (4, .int p4), (5, .int 1), (6, .int (if p2 = (-1) then (-1) else (r_X1_standingNow (pF u 0 0) p1 p2))), (8, .int (nI k106))]) dX1_send_147 (by decide) rfl ?_
                        refine z_iinc (v := (nI (k106 + 1))) (L' := [(8, .int (nI (k106 + 1))), (7, .int (x106 ||| (1 <<< ((nI k106) &&& 31)))), (0, .ref h), (1, .int p1), (2, .int p2), (3, .int p3), (4, .int p4), (5, .int 1), (6, .int (if p2 = (-1) then (-1) else (r_X1_standingNow (pF u 0 0) p1 p2)))]) 8 dX1_send_149 rfl (nI_1 k106) (by decide) rfl ?_
                        refine z_goto 106 dX1_send_152 (by decide) ?_
                        have hb106 : l_X1_send_106 u p1 p2 p3 p4 (k106 + 1) = (x106 ||| (1 <<< ((nI k106) &&& 31))) := by
                          show b_X1_send_106 u p1 p2 p3 p4 k106 (l_X1_send_106 u p1 p2 p3 p4 k106) = _
                          rw [← hx106, b_X1_send_106, if_pos c_125_20, if_pos c_135_21]
                        refine z_sub (L' := [(0, .ref h), (1, .int p1), (2, .int p2), (3, .int p3), (4, .int p4), (5, .int 1), (6, .int (if p2 = (-1) then (-1) else (r_X1_standingNow (pF u 0 0) p1 p2))), (7, .int (x106 ||| (1 <<< ((nI k106) &&& 31)))), (8, .int (nI (k106 + 1)))]) [2, 3, 4, 5, 6, 7, 8, 1, 0] rfl ?_
                        have ih2 := ih106 (k106 + 1) (by omega)
                        rw [hb106] at ih2
                        exact ih2
              exact hloop106 nd 0 (by omega)
          refine z_icmp_ne 80 dX1_send_73 (by decide) (fun c_73_12 => ?_) (fun c_73_12 => ?_)
          ·
            refine z_aload_n 1 dX1_send_80 rfl ?_
            refine z_iload_n 2 dX1_send_81 rfl ?_
            refine z_iload_n 3 dX1_send_82 rfl ?_
            refine z_callVi (As := [.int p1, .int p2]) (st := []) (fun l => c_X1_standingNow l D cI cZ h a (pF u 0 0) p1 p2 nn (by first | (with_reducible assumption) | with_reducible exact vp_in_nI (by omega) (by omega) | with_reducible exact zmdev hnd hd (by assumption) | with_reducible exact zmnot hnn hn (by assumption) | with_reducible exact zroomQ hnn hn (by assumption) | with_reducible exact zold (u := u) (v := pF u 0 0) hnn hn rfl (by assumption) | exact hnd | exact hnn | assumption | decide) (by first | (with_reducible assumption) | with_reducible exact vp_in_nI (by omega) (by omega) | with_reducible exact zmdev hnd hd (by assumption) | with_reducible exact zmnot hnn hn (by assumption) | with_reducible exact zroomQ hnn hn (by assumption) | with_reducible exact zold (u := u) (v := pF u 0 0) hnn hn rfl (by assumption) | exact hnd | exact hnn | assumption | decide)) zGok_TT (fun _ _ _ => trivial) (fun s args hts => cwV 2 hts gX1_send_X1_standingNow rfl rfl rfl (by decide +kernel) ⟨Nat.le_of_ble_eq_true rfl, Nat.le_of_ble_eq_true rfl⟩) (ci := 1) rfl rfl rfl rfl (Nat.le_of_ble_eq_true rfl) ⟨Nat.le_of_ble_eq_true rfl, Nat.le_of_ble_eq_true rfl⟩ dX1_send_83 rfl (fun r u2 hp => ?_)
            subst hp
            refine z_sub (L' := [(0, .ref h), (1, .int p1), (2, .int p2), (3, .int p3), (4, .int p4), (5, .int 1)]) [1, 2, 3, 4, 5, 0] rfl ?_
            simp only [if_neg c_73_12] at hJ86
            exact hJ86
          ·
            refine z_iconst (v := (-1)) dX1_send_76 rfl ?_
            refine z_goto 86 dX1_send_77 (by decide) ?_
            refine z_sub (L' := [(0, .ref h), (1, .int p1), (2, .int p2), (3, .int p3), (4, .int p4), (5, .int 1)]) [1, 2, 3, 4, 5, 0] rfl ?_
            simp only [if_pos c_73_12] at hJ86
            exact hJ86
        ·
          refine z_iconst (v := 2) dX1_send_58 rfl ?_
          refine z_goto 63 dX1_send_59 (by decide) ?_
          refine z_callVi (As := [.int 2]) (st := []) (fun l => c_X1_refused l D cI cZ h a u 2) zGok_TT (fun _ _ _ => trivial) (fun s args hts => cwV 1 hts gX1_send_X1_refused rfl rfl rfl (by decide +kernel) ⟨Nat.le_of_ble_eq_true rfl, Nat.le_of_ble_eq_true rfl⟩) (ci := 1) rfl rfl rfl rfl (Nat.le_of_ble_eq_true rfl) ⟨Nat.le_of_ble_eq_true rfl, Nat.le_of_ble_eq_true rfl⟩ dX1_send_63 rfl (fun r u2 hp => ?_)
          obtain ⟨hp1, hp2⟩ := hp; have hp4 : r = 1 := hp1.trans (by simp [r_X1_refused]); clear hp1; subst hp4; have hp3 : u2 = (pF u 0 2) := hp2; clear hp2; subst hp3
          refine z_if_eq 71 dX1_send_66 (by decide) (fun c_66_22 => absurd c_66_22 (by decide)) (fun _ => ?_)
          refine z_iconst (v := 0) dX1_send_69 rfl ?_
          exact hret _ (pF u 0 2) _ _ _ dX1_send_70 ⟨(by rw [r_X1_send, hixnd, if_neg c_7_0, if_neg c_17_3, if_neg c_29_6, if_pos c_55_10]), (by rw [s_X1_send, hixnd, if_neg c_7_0, if_neg c_17_3, if_neg c_29_6, if_pos c_55_10])⟩ rfl
set_option maxHeartbeats 4000000 in
set_option maxRecDepth 100000 in
theorem c_X1_sendBy (l : Launch) (D : va_G) (cI cZ : ClassId) (h : Nat) (a : Nat → Nat) (u : SX) (p1 p2 p3 p4 p5 : Int32) (nd : Nat) (hnd : u.1 2 = nI nd) (hd : nd ≤ 16) (nn : Nat) (hnn : u.1 13 = nI nn) (hn : nn ≤ 120) : zMi l yX1_sendBy wsX1_sendBy ({ frames := 4, cells := 0, slots := 0, locals := 94 } : Room) zTT D [(cI, .int), (cZ, .boolean)] (wX1 cI cZ h a u) [.ref h, .int p1, .int p2, .int p3, .int p4, .int p5] (fun (r : Int32) (u2 : SX) => r = r_X1_sendBy u p1 p2 p3 p4 p5 ∧ u2 = s_X1_sendBy u p1 p2 p3 p4 p5) (fun u2 => (wX1 cI cZ h a u2)) 0 0 := by
  refine z_startI (cc := cX1_sendBy) (n := 12) (own := RX1) (L0 := [(0, .ref h), (1, .int p1), (2, .int p2), (3, .int p3), (4, .int p4), (5, .int p5)]) (plainFor_of_name (by decide)) rfl rfl (Nat.le_of_ble_eq_true rfl) rfl (fun E hret => ?_)
  have hixnn : ix (u.1 13) = nn := by rw [hnn]; exact nI_clamp (by omega)
  have hixnd : ix (u.1 2) = nd := by rw [hnd]; exact nI_clamp (by omega)
  refine z_iload_n 1 dX1_sendBy_0 rfl ?_
  refine z_iconst (v := 0) dX1_sendBy_1 rfl ?_
  refine z_iconst (v := 2) dX1_sendBy_2 rfl ?_
  refine z_callSi (As := [.int p1, .int 0, .int 2]) (st := []) (fun l => c_X1_in l D _ _ p1 0 2) zGok_TT (fun _ _ _ => trivial) (fun s args hts => va_cwS 3 hts gX1_sendBy_X1_in rfl rfl rfl (by decide +kernel) ⟨Nat.le_of_ble_eq_true rfl, Nat.le_of_ble_eq_true rfl⟩) rfl (Nat.le_of_ble_eq_true rfl) ⟨Nat.le_of_ble_eq_true rfl, Nat.le_of_ble_eq_true rfl⟩ dX1_sendBy_3 rfl (fun r u2 hp => ?_)
  subst hp
  refine z_if_eq 43 dX1_sendBy_6 (by decide) (fun c_6_0 => ?_) (fun c_6_0 => ?_)
  ·
    refine z_iconst (v := 0) dX1_sendBy_43 rfl ?_
    refine z_istore (L' := [(6, .int 0), (0, .ref h), (1, .int p1), (2, .int p2), (3, .int p3), (4, .int p4), (5, .int p5)]) dX1_sendBy_44 (by decide) rfl ?_
    refine z_aload_n 1 dX1_sendBy_46 rfl ?_
    refine z_iload 0 dX1_sendBy_47 rfl ?_
    refine z_if_ne 56 dX1_sendBy_49 (by decide) (fun c_49_1 => absurd c_49_1 (by decide)) (fun _ => ?_)
    refine z_iconst (v := 1) dX1_sendBy_52 rfl ?_
    refine z_goto 70 dX1_sendBy_53 (by decide) ?_
    refine z_callVi (As := [.int 1]) (st := []) (fun l => c_X1_refused l D cI cZ h a u 1) zGok_TT (fun _ _ _ => trivial) (fun s args hts => cwV 1 hts gX1_sendBy_X1_refused rfl rfl rfl (by decide +kernel) ⟨Nat.le_of_ble_eq_true rfl, Nat.le_of_ble_eq_true rfl⟩) (ci := 1) rfl rfl rfl rfl (Nat.le_of_ble_eq_true rfl) ⟨Nat.le_of_ble_eq_true rfl, Nat.le_of_ble_eq_true rfl⟩ dX1_sendBy_70 rfl (fun r u2 hp => ?_)
    obtain ⟨hp1, hp2⟩ := hp; have hp4 : r = 1 := hp1.trans (by simp [r_X1_refused]); clear hp1; subst hp4; have hp3 : u2 = (pF u 0 1) := hp2; clear hp2; subst hp3
    refine z_if_eq 78 dX1_sendBy_73 (by decide) (fun c_73_2 => absurd c_73_2 (by decide)) (fun _ => ?_)
    refine z_iconst (v := 0) dX1_sendBy_76 rfl ?_
    exact hret _ (pF u 0 1) _ _ _ dX1_sendBy_77 ⟨(by rw [r_X1_sendBy, hixnd, if_pos c_6_0]), (by rw [s_X1_sendBy, hixnd, if_pos c_6_0])⟩ rfl
  ·
    refine z_iload_n 2 dX1_sendBy_9 rfl ?_
    refine z_iconst (v := 0) dX1_sendBy_10 rfl ?_
    refine z_iconst (v := 5) dX1_sendBy_11 rfl ?_
    refine z_callSi (As := [.int p2, .int 0, .int 5]) (st := []) (fun l => c_X1_in l D _ _ p2 0 5) zGok_TT (fun _ _ _ => trivial) (fun s args hts => va_cwS 3 hts gX1_sendBy_X1_in rfl rfl rfl (by decide +kernel) ⟨Nat.le_of_ble_eq_true rfl, Nat.le_of_ble_eq_true rfl⟩) rfl (Nat.le_of_ble_eq_true rfl) ⟨Nat.le_of_ble_eq_true rfl, Nat.le_of_ble_eq_true rfl⟩ dX1_sendBy_12 rfl (fun r u2 hp => ?_)
    subst hp
    refine z_if_eq 43 dX1_sendBy_15 (by decide) (fun c_15_3 => ?_) (fun c_15_3 => ?_)
    ·
      refine z_iconst (v := 0) dX1_sendBy_43 rfl ?_
      refine z_istore (L' := [(6, .int 0), (0, .ref h), (1, .int p1), (2, .int p2), (3, .int p3), (4, .int p4), (5, .int p5)]) dX1_sendBy_44 (by decide) rfl ?_
      refine z_aload_n 1 dX1_sendBy_46 rfl ?_
      refine z_iload 0 dX1_sendBy_47 rfl ?_
      refine z_if_ne 56 dX1_sendBy_49 (by decide) (fun c_49_4 => absurd c_49_4 (by decide)) (fun _ => ?_)
      refine z_iconst (v := 1) dX1_sendBy_52 rfl ?_
      refine z_goto 70 dX1_sendBy_53 (by decide) ?_
      refine z_callVi (As := [.int 1]) (st := []) (fun l => c_X1_refused l D cI cZ h a u 1) zGok_TT (fun _ _ _ => trivial) (fun s args hts => cwV 1 hts gX1_sendBy_X1_refused rfl rfl rfl (by decide +kernel) ⟨Nat.le_of_ble_eq_true rfl, Nat.le_of_ble_eq_true rfl⟩) (ci := 1) rfl rfl rfl rfl (Nat.le_of_ble_eq_true rfl) ⟨Nat.le_of_ble_eq_true rfl, Nat.le_of_ble_eq_true rfl⟩ dX1_sendBy_70 rfl (fun r u2 hp => ?_)
      obtain ⟨hp1, hp2⟩ := hp; have hp4 : r = 1 := hp1.trans (by simp [r_X1_refused]); clear hp1; subst hp4; have hp3 : u2 = (pF u 0 1) := hp2; clear hp2; subst hp3
      refine z_if_eq 78 dX1_sendBy_73 (by decide) (fun c_73_5 => absurd c_73_5 (by decide)) (fun _ => ?_)
      refine z_iconst (v := 0) dX1_sendBy_76 rfl ?_
      exact hret _ (pF u 0 1) _ _ _ dX1_sendBy_77 ⟨(by rw [r_X1_sendBy, hixnd, if_neg c_6_0, if_pos c_15_3]), (by rw [s_X1_sendBy, hixnd, if_neg c_6_0, if_pos c_15_3])⟩ rfl
    ·
      refine z_iload_n 3 dX1_sendBy_18 rfl ?_
      refine z_iconst (v := 0) dX1_sendBy_19 rfl ?_
      refine z_iconst (v := 5) dX1_sendBy_20 rfl ?_
      refine z_callSi (As := [.int p3, .int 0, .int 5]) (st := []) (fun l => c_X1_in l D _ _ p3 0 5) zGok_TT (fun _ _ _ => trivial) (fun s args hts => va_cwS 3 hts gX1_sendBy_X1_in rfl rfl rfl (by decide +kernel) ⟨Nat.le_of_ble_eq_true rfl, Nat.le_of_ble_eq_true rfl⟩) rfl (Nat.le_of_ble_eq_true rfl) ⟨Nat.le_of_ble_eq_true rfl, Nat.le_of_ble_eq_true rfl⟩ dX1_sendBy_21 rfl (fun r u2 hp => ?_)
      subst hp
      refine z_if_eq 43 dX1_sendBy_24 (by decide) (fun c_24_6 => ?_) (fun c_24_6 => ?_)
      ·
        refine z_iconst (v := 0) dX1_sendBy_43 rfl ?_
        refine z_istore (L' := [(6, .int 0), (0, .ref h), (1, .int p1), (2, .int p2), (3, .int p3), (4, .int p4), (5, .int p5)]) dX1_sendBy_44 (by decide) rfl ?_
        refine z_aload_n 1 dX1_sendBy_46 rfl ?_
        refine z_iload 0 dX1_sendBy_47 rfl ?_
        refine z_if_ne 56 dX1_sendBy_49 (by decide) (fun c_49_7 => absurd c_49_7 (by decide)) (fun _ => ?_)
        refine z_iconst (v := 1) dX1_sendBy_52 rfl ?_
        refine z_goto 70 dX1_sendBy_53 (by decide) ?_
        refine z_callVi (As := [.int 1]) (st := []) (fun l => c_X1_refused l D cI cZ h a u 1) zGok_TT (fun _ _ _ => trivial) (fun s args hts => cwV 1 hts gX1_sendBy_X1_refused rfl rfl rfl (by decide +kernel) ⟨Nat.le_of_ble_eq_true rfl, Nat.le_of_ble_eq_true rfl⟩) (ci := 1) rfl rfl rfl rfl (Nat.le_of_ble_eq_true rfl) ⟨Nat.le_of_ble_eq_true rfl, Nat.le_of_ble_eq_true rfl⟩ dX1_sendBy_70 rfl (fun r u2 hp => ?_)
        obtain ⟨hp1, hp2⟩ := hp; have hp4 : r = 1 := hp1.trans (by simp [r_X1_refused]); clear hp1; subst hp4; have hp3 : u2 = (pF u 0 1) := hp2; clear hp2; subst hp3
        refine z_if_eq 78 dX1_sendBy_73 (by decide) (fun c_73_8 => absurd c_73_8 (by decide)) (fun _ => ?_)
        refine z_iconst (v := 0) dX1_sendBy_76 rfl ?_
        exact hret _ (pF u 0 1) _ _ _ dX1_sendBy_77 ⟨(by rw [r_X1_sendBy, hixnd, if_neg c_6_0, if_neg c_15_3, if_pos c_24_6]), (by rw [s_X1_sendBy, hixnd, if_neg c_6_0, if_neg c_15_3, if_pos c_24_6])⟩ rfl
      ·
        refine z_iload 5 dX1_sendBy_27 rfl ?_
        refine z_iconst (v := 1) dX1_sendBy_29 rfl ?_
        refine z_sipush (v := 10000) dX1_sendBy_30 rfl ?_
        refine z_callSi (As := [.int p5, .int 1, .int 10000]) (st := []) (fun l => c_X1_in l D _ _ p5 1 10000) zGok_TT (fun _ _ _ => trivial) (fun s args hts => va_cwS 3 hts gX1_sendBy_X1_in rfl rfl rfl (by decide +kernel) ⟨Nat.le_of_ble_eq_true rfl, Nat.le_of_ble_eq_true rfl⟩) rfl (Nat.le_of_ble_eq_true rfl) ⟨Nat.le_of_ble_eq_true rfl, Nat.le_of_ble_eq_true rfl⟩ dX1_sendBy_33 rfl (fun r u2 hp => ?_)
        subst hp
        refine z_if_eq 43 dX1_sendBy_36 (by decide) (fun c_36_9 => ?_) (fun c_36_9 => ?_)
        ·
          refine z_iconst (v := 0) dX1_sendBy_43 rfl ?_
          refine z_istore (L' := [(6, .int 0), (0, .ref h), (1, .int p1), (2, .int p2), (3, .int p3), (4, .int p4), (5, .int p5)]) dX1_sendBy_44 (by decide) rfl ?_
          refine z_aload_n 1 dX1_sendBy_46 rfl ?_
          refine z_iload 0 dX1_sendBy_47 rfl ?_
          refine z_if_ne 56 dX1_sendBy_49 (by decide) (fun c_49_10 => absurd c_49_10 (by decide)) (fun _ => ?_)
          refine z_iconst (v := 1) dX1_sendBy_52 rfl ?_
          refine z_goto 70 dX1_sendBy_53 (by decide) ?_
          refine z_callVi (As := [.int 1]) (st := []) (fun l => c_X1_refused l D cI cZ h a u 1) zGok_TT (fun _ _ _ => trivial) (fun s args hts => cwV 1 hts gX1_sendBy_X1_refused rfl rfl rfl (by decide +kernel) ⟨Nat.le_of_ble_eq_true rfl, Nat.le_of_ble_eq_true rfl⟩) (ci := 1) rfl rfl rfl rfl (Nat.le_of_ble_eq_true rfl) ⟨Nat.le_of_ble_eq_true rfl, Nat.le_of_ble_eq_true rfl⟩ dX1_sendBy_70 rfl (fun r u2 hp => ?_)
          obtain ⟨hp1, hp2⟩ := hp; have hp4 : r = 1 := hp1.trans (by simp [r_X1_refused]); clear hp1; subst hp4; have hp3 : u2 = (pF u 0 1) := hp2; clear hp2; subst hp3
          refine z_if_eq 78 dX1_sendBy_73 (by decide) (fun c_73_11 => absurd c_73_11 (by decide)) (fun _ => ?_)
          refine z_iconst (v := 0) dX1_sendBy_76 rfl ?_
          exact hret _ (pF u 0 1) _ _ _ dX1_sendBy_77 ⟨(by rw [r_X1_sendBy, hixnd, if_neg c_6_0, if_neg c_15_3, if_neg c_24_6, if_pos c_36_9]), (by rw [s_X1_sendBy, hixnd, if_neg c_6_0, if_neg c_15_3, if_neg c_24_6, if_pos c_36_9])⟩ rfl
        ·
          refine z_iconst (v := 1) dX1_sendBy_39 rfl ?_
          refine z_goto 44 dX1_sendBy_40 (by decide) ?_
          refine z_istore (L' := [(6, .int 1), (0, .ref h), (1, .int p1), (2, .int p2), (3, .int p3), (4, .int p4), (5, .int p5)]) dX1_sendBy_44 (by decide) rfl ?_
          refine z_aload_n 1 dX1_sendBy_46 rfl ?_
          refine z_iload 0 dX1_sendBy_47 rfl ?_
          refine z_if_ne 56 dX1_sendBy_49 (by decide) (fun _ => ?_) (fun c_49_12 => absurd c_49_12 (by decide))
          refine z_aload_n 1 dX1_sendBy_56 rfl ?_
          refine z_get (C := RX1) (T := TX1) (N := 22) (v := .int (u.1 13)) inwX1_sendBy 0 rfl rfl 13 (by decide) (List.mem_of_getElem? (i := 1) rfl) rfl rfl dX1_sendBy_57 ?_
          refine z_bipush (v := 120) dX1_sendBy_60 rfl ?_
          refine z_icmp_ne 69 dX1_sendBy_62 (by decide) (fun c_62_13 => ?_) (fun c_62_13 => ?_)
          ·
            refine z_iconst (v := 0) dX1_sendBy_69 rfl ?_
            refine z_callVi (As := [.int 0]) (st := []) (fun l => c_X1_refused l D cI cZ h a u 0) zGok_TT (fun _ _ _ => trivial) (fun s args hts => cwV 1 hts gX1_sendBy_X1_refused rfl rfl rfl (by decide +kernel) ⟨Nat.le_of_ble_eq_true rfl, Nat.le_of_ble_eq_true rfl⟩) (ci := 1) rfl rfl rfl rfl (Nat.le_of_ble_eq_true rfl) ⟨Nat.le_of_ble_eq_true rfl, Nat.le_of_ble_eq_true rfl⟩ dX1_sendBy_70 rfl (fun r u2 hp => ?_)
            obtain ⟨hp1, hp2⟩ := hp; have hp4 : r = 0 := hp1.trans (by simp [r_X1_refused]); clear hp1; subst hp4; have hp3 : u2 = (pF u 0 0) := hp2; clear hp2; subst hp3
            refine z_if_eq 78 dX1_sendBy_73 (by decide) (fun _ => ?_) (fun c_73_14 => absurd c_73_14 (by decide))
            refine z_iconst (v := 0) dX1_sendBy_78 rfl ?_
            refine z_istore (L' := [(7, .int 0), (6, .int 1), (0, .ref h), (1, .int p1), (2, .int p2), (3, .int p3), (4, .int p4), (5, .int p5)]) dX1_sendBy_79 (by decide) rfl ?_
            refine z_iconst (v := 0) dX1_sendBy_81 rfl ?_
            refine z_istore (L' := [(8, .int 0), (7, .int 0), (6, .int 1), (0, .ref h), (1, .int p1), (2, .int p2), (3, .int p3), (4, .int p4), (5, .int p5)]) dX1_sendBy_82 (by decide) rfl ?_
            refine z_sub (L' := [(0, .ref h), (1, .int p1), (2, .int p2), (3, .int p3), (4, .int p4), (5, .int p5), (6, .int 1), (7, .int 0), (8, .int 0)]) [3, 4, 5, 6, 7, 8, 2, 1, 0] rfl ?_
            have hloop84 : ∀ r k84 : Nat, k84 + r = nd → ZW E zTT ({ frames := 4, cells := 0, slots := 0, locals := 94 } : Room) cX1_sendBy RX1 wsX1_sendBy 12 D [(cI, .int), (cZ, .boolean)] 0 0 (wX1 cI cZ h a (pF u 0 0)) 84 [(0, .ref h), (1, .int p1), (2, .int p2), (3, .int p3), (4, .int p4), (5, .int p5), (6, .int 1), (7, .int (l_X1_sendBy_84 u p1 p2 p3 p4 p5 k84)), (8, .int (nI k84))] [] := by
              intro r
              induction r with
              | zero =>
                intro k84 hk84
                have hkN84 : nd = k84 := by omega
                subst hkN84
                refine z_iload 8 dX1_sendBy_84 rfl ?_
                refine z_aload_n 0 dX1_sendBy_86 rfl ?_
                refine z_get (C := RX1) (T := TX1) (N := 22) (v := .int (u.1 2)) inwX1_sendBy 0 rfl rfl 2 (by decide) (List.mem_of_getElem? (i := 2) rfl) rfl rfl dX1_sendBy_87 ?_
                refine z_icmp_ge 233 dX1_sendBy_90 (by decide) (fun c_90_16 => ?_) (fun c_90_16 => ?_)
                ·
                  refine z_aload_n 0 dX1_sendBy_233 rfl ?_
                  refine z_iconst (v := (-1)) dX1_sendBy_234 rfl ?_
                  refine z_iconst (v := (-1)) dX1_sendBy_235 rfl ?_
                  refine z_iload 4 dX1_sendBy_236 rfl ?_
                  refine z_iload 5 dX1_sendBy_238 rfl ?_
                  refine z_iload 7 dX1_sendBy_240 rfl ?_
                  refine z_callVi (As := [.int (-1), .int (-1), .int p4, .int p5, .int (l_X1_sendBy_84 u p1 p2 p3 p4 p5 nd)]) (st := []) (fun l => c_X1_add l D cI cZ h a (pF u 0 0) (-1) (-1) p4 p5 (l_X1_sendBy_84 u p1 p2 p3 p4 p5 nd) nd (by first | (with_reducible assumption) | with_reducible exact vp_in_nI (by omega) (by omega) | with_reducible exact zmdev hnd hd (by assumption) | with_reducible exact zmnot hnn hn (by assumption) | with_reducible exact zroomQ hnn hn (by assumption) | exact hnd | exact hnn | assumption | decide) (by first | (with_reducible assumption) | with_reducible exact vp_in_nI (by omega) (by omega) | with_reducible exact zmdev hnd hd (by assumption) | with_reducible exact zmnot hnn hn (by assumption) | with_reducible exact zroomQ hnn hn (by assumption) | exact hnd | exact hnn | assumption | decide) nn (by first | (with_reducible assumption) | with_reducible exact vp_in_nI (by omega) (by omega) | with_reducible exact zmdev hnd hd (by assumption) | with_reducible exact zmnot hnn hn (by assumption) | with_reducible exact zroomQ hnn hn (by assumption) | exact hnd | exact hnn | assumption | decide) (by first | (with_reducible assumption) | with_reducible exact vp_in_nI (by omega) (by omega) | with_reducible exact zmdev hnd hd (by assumption) | with_reducible exact zmnot hnn hn (by assumption) | with_reducible exact zroomQ hnn hn (by assumption) | exact hnd | exact hnn | assumption | decide) (by first | (with_reducible assumption) | with_reducible exact vp_in_nI (by omega) (by omega) | with_reducible exact zmdev hnd hd (by assumption) | with_reducible exact zmnot hnn hn (by assumption) | with_reducible exact zroomQ hnn hn (by assumption) | exact hnd | exact hnn | assumption | decide)) zGok_TT (fun _ _ _ => trivial) (fun s args hts => cwV 5 hts gX1_sendBy_X1_add rfl rfl rfl (by decide +kernel) ⟨Nat.le_of_ble_eq_true rfl, Nat.le_of_ble_eq_true rfl⟩) (ci := 1) rfl rfl rfl rfl (Nat.le_of_ble_eq_true rfl) ⟨Nat.le_of_ble_eq_true rfl, Nat.le_of_ble_eq_true rfl⟩ dX1_sendBy_242 rfl (fun r u2 hp => ?_)
                  obtain ⟨rfl, rfl⟩ := hp
                  exact hret _ (s_X1_add (pF u 0 0) (-1) (-1) p4 p5 (l_X1_sendBy_84 u p1 p2 p3 p4 p5 nd)) _ _ _ dX1_sendBy_245 ⟨(by rw [r_X1_sendBy, hixnd, if_neg c_6_0, if_neg c_15_3, if_neg c_24_6, if_neg c_36_9, if_neg c_62_13]), (by rw [s_X1_sendBy, hixnd, if_neg c_6_0, if_neg c_15_3, if_neg c_24_6, if_neg c_36_9, if_neg c_62_13])⟩ rfl
                · exact absurd (by rw [hnd]; exact nI_le (Nat.le_refl _) (by omega)) c_90_16
              | succ r ih84 =>
                intro k84 hk84
                obtain ⟨x84, hx84⟩ : ∃ x, x = l_X1_sendBy_84 u p1 p2 p3 p4 p5 k84 := ⟨_, rfl⟩
                rw [← hx84]
                refine z_iload 8 dX1_sendBy_84 rfl ?_
                refine z_aload_n 0 dX1_sendBy_86 rfl ?_
                refine z_get (C := RX1) (T := TX1) (N := 22) (v := .int (u.1 2)) inwX1_sendBy 0 rfl rfl 2 (by decide) (List.mem_of_getElem? (i := 2) rfl) rfl rfl dX1_sendBy_87 ?_
                refine z_icmp_ge 233 dX1_sendBy_90 (by decide) (fun c_90_15 => ?_) (fun c_90_15 => ?_)
                · exact absurd c_90_15 (by rw [hnd]; exact nI_ge (by omega) (by omega))
                ·
                  refine z_aload_n 0 dX1_sendBy_93 rfl ?_
                  refine z_get (C := RX1) (T := TX1) (N := 22) (v := .ref (a 10)) inwX1_sendBy 0 rfl rfl 10 (by decide) (List.mem_of_getElem? (i := 3) rfl) rfl rfl dX1_sendBy_94 ?_
                  refine z_iload 8 dX1_sendBy_97 rfl ?_
                  refine z_iald (v := (u.2 10 (ix (nI k84)))) 8 0 rfl rfl (vp_in_nI (by omega) (by omega)) rfl dX1_sendBy_99 ?_
                  refine z_iload_n 2 dX1_sendBy_100 rfl ?_
                  refine z_ishr dX1_sendBy_101 ?_
                  refine z_iconst (v := 1) dX1_sendBy_102 rfl ?_
                  refine z_iand dX1_sendBy_103 ?_
                  refine z_iconst (v := 1) dX1_sendBy_104 rfl ?_
                  refine z_icmp_ne 112 dX1_sendBy_105 (by decide) (fun c_105_17 => ?_) (fun c_105_17 => ?_)
                  ·
                    refine z_iconst (v := 0) dX1_sendBy_112 rfl ?_
                    refine z_istore (L' := [(9, .int 0), (0, .ref h), (1, .int p1), (2, .int p2), (3, .int p3), (4, .int p4), (5, .int p5), (6, .int 1), (7, .int x84), (8, .int (nI k84))]) dX1_sendBy_113 (by decide) rfl ?_
                    refine z_aload_n 1 dX1_sendBy_115 rfl ?_
                    refine z_get (C := RX1) (T := TX1) (N := 22) (v := .ref (a 10)) inwX1_sendBy 0 rfl rfl 10 (by decide) (List.mem_of_getElem? (i := 3) rfl) rfl rfl dX1_sendBy_116 ?_
                    refine z_iload 9 dX1_sendBy_119 rfl ?_
                    refine z_iald (v := (u.2 10 (ix (nI k84)))) 8 0 rfl rfl (vp_in_nI (by omega) (by omega)) rfl dX1_sendBy_121 ?_
                    refine z_iload_n 4 dX1_sendBy_122 rfl ?_
                    refine z_ishr dX1_sendBy_123 ?_
                    refine z_iconst (v := 1) dX1_sendBy_124 rfl ?_
                    refine z_iand dX1_sendBy_125 ?_
                    refine z_iconst (v := 1) dX1_sendBy_126 rfl ?_
                    refine z_icmp_ne 134 dX1_sendBy_127 (by decide) (fun c_127_18 => ?_) (fun c_127_18 => ?_)
                    ·
                      refine z_iconst (v := 0) dX1_sendBy_134 rfl ?_
                      refine z_istore (L' := [(10, .int 0), (9, .int 0), (0, .ref h), (1, .int p1), (2, .int p2), (3, .int p3), (4, .int p4), (5, .int p5), (6, .int 1), (7, .int x84), (8, .int (nI k84))]) dX1_sendBy_135 (by decide) rfl ?_
                      refine z_iload_n 3 dX1_sendBy_137 rfl ?_
                      refine z_if_ne 159 dX1_sendBy_138 (by decide) (fun c_138_19 => ?_) (fun c_138_19 => ?_)
                      ·
                        refine z_iload_n 3 dX1_sendBy_159 rfl ?_
                        refine z_iconst (v := 1) dX1_sendBy_160 rfl ?_
                        refine z_icmp_ne 182 dX1_sendBy_161 (by decide) (fun c_161_20 => ?_) (fun c_161_20 => ?_)
                        ·
                          refine z_iload 1 dX1_sendBy_182 rfl ?_
                          refine z_if_eq 196 dX1_sendBy_184 (by decide) (fun _ => ?_) (fun c_184_21 => absurd c_184_21 (by decide))
                          refine z_iconst (v := 0) dX1_sendBy_196 rfl ?_
                          refine z_istore (L' := [(11, .int 0), (10, .int 0), (9, .int 0), (0, .ref h), (1, .int p1), (2, .int p2), (3, .int p3), (4, .int p4), (5, .int p5), (6, .int 1), (7, .int x84), (8, .int (nI k84))]) dX1_sendBy_197 (by decide) rfl ?_
                          refine z_iload 10 dX1_sendBy_199 rfl ?_
                          refine z_iload 0 dX1_sendBy_201 rfl ?_
                          refine z_if_eq 223 dX1_sendBy_203 (by decide) (fun _ => ?_) (fun c_203_22 => absurd c_203_22 (by decide))
                          refine z_iconst (v := 0) dX1_sendBy_223 rfl ?_
                          refine z_ior dX1_sendBy_224 ?_
                          refine z_istore (L' := [(7, .int (x84 ||| 0)), (11, .int 0), (10, .int 0), (9, .int 0), (0, .ref h), (1, .int p1), (2, .int p2), (3, .int p3), (4, .int p4), (5, .int p5), (6, .int 1), (8, .int (nI k84))]) dX1_sendBy_225 (by decide) rfl ?_
                          refine z_iinc (v := (nI (k84 + 1))) (L' := [(8, .int (nI (k84 + 1))), (7, .int (x84 ||| 0)), (11, .int 0), (10, .int 0), (9, .int 0), (0, .ref h), (1, .int p1), (2, .int p2), (3, .int p3), (4, .int p4), (5, .int p5), (6, .int 1)]) 11 dX1_sendBy_227 rfl (nI_1 k84) (by decide) rfl ?_
                          refine z_goto 84 dX1_sendBy_230 (by decide) ?_
                          have hb84 : l_X1_sendBy_84 u p1 p2 p3 p4 p5 (k84 + 1) = (x84 ||| 0) := by
                            show b_X1_sendBy_84 u p1 p2 p3 p4 p5 k84 (l_X1_sendBy_84 u p1 p2 p3 p4 p5 k84) = _
                            rw [← hx84, b_X1_sendBy_84, if_neg c_105_17, if_neg c_127_18]
                          refine z_sub (L' := [(0, .ref h), (1, .int p1), (2, .int p2), (3, .int p3), (4, .int p4), (5, .int p5), (6, .int 1), (7, .int (x84 ||| 0)), (8, .int (nI (k84 + 1)))]) [5, 6, 7, 8, 9, 10, 11, 1, 0] rfl ?_
                          have ih2 := ih84 (k84 + 1) (by omega)
                          rw [hb84] at ih2
                          exact ih2
                        ·
                          refine z_iload 1 dX1_sendBy_164 rfl ?_
                          refine z_if_ne 174 dX1_sendBy_166 (by decide) (fun c_166_23 => absurd c_166_23 (by decide)) (fun _ => ?_)
                          refine z_iload 0 dX1_sendBy_169 rfl ?_
                          refine z_if_eq 178 dX1_sendBy_171 (by decide) (fun _ => ?_) (fun c_171_24 => absurd c_171_24 (by decide))
                          refine z_iconst (v := 0) dX1_sendBy_178 rfl ?_
                          refine z_goto 197 dX1_sendBy_179 (by decide) ?_
                          refine z_istore (L' := [(11, .int 0), (10, .int 0), (9, .int 0), (0, .ref h), (1, .int p1), (2, .int p2), (3, .int p3), (4, .int p4), (5, .int p5), (6, .int 1), (7, .int x84), (8, .int (nI k84))]) dX1_sendBy_197 (by decide) rfl ?_
                          refine z_iload 10 dX1_sendBy_199 rfl ?_
                          refine z_iload 0 dX1_sendBy_201 rfl ?_
                          refine z_if_eq 223 dX1_sendBy_203 (by decide) (fun _ => ?_) (fun c_203_25 => absurd c_203_25 (by decide))
                          refine z_iconst (v := 0) dX1_sendBy_223 rfl ?_
                          refine z_ior dX1_sendBy_224 ?_
                          refine z_istore (L' := [(7, .int (x84 ||| 0)), (11, .int 0), (10, .int 0), (9, .int 0), (0, .ref h), (1, .int p1), (2, .int p2), (3, .int p3), (4, .int p4), (5, .int p5), (6, .int 1), (8, .int (nI k84))]) dX1_sendBy_225 (by decide) rfl ?_
                          refine z_iinc (v := (nI (k84 + 1))) (L' := [(8, .int (nI (k84 + 1))), (7, .int (x84 ||| 0)), (11, .int 0), (10, .int 0), (9, .int 0), (0, .ref h), (1, .int p1), (2, .int p2), (3, .int p3), (4, .int p4), (5, .int p5), (6, .int 1)]) 11 dX1_sendBy_227 rfl (nI_1 k84) (by decide) rfl ?_
                          refine z_goto 84 dX1_sendBy_230 (by decide) ?_
                          have hb84 : l_X1_sendBy_84 u p1 p2 p3 p4 p5 (k84 + 1) = (x84 ||| 0) := by
                            show b_X1_sendBy_84 u p1 p2 p3 p4 p5 k84 (l_X1_sendBy_84 u p1 p2 p3 p4 p5 k84) = _
                            rw [← hx84, b_X1_sendBy_84, if_neg c_105_17, if_neg c_127_18]
                          refine z_sub (L' := [(0, .ref h), (1, .int p1), (2, .int p2), (3, .int p3), (4, .int p4), (5, .int p5), (6, .int 1), (7, .int (x84 ||| 0)), (8, .int (nI (k84 + 1)))]) [5, 6, 7, 8, 9, 10, 11, 1, 0] rfl ?_
                          have ih2 := ih84 (k84 + 1) (by omega)
                          rw [hb84] at ih2
                          exact ih2
                      ·
                        refine z_iload 1 dX1_sendBy_141 rfl ?_
                        refine z_if_eq 155 dX1_sendBy_143 (by decide) (fun _ => ?_) (fun c_143_26 => absurd c_143_26 (by decide))
                        refine z_iconst (v := 0) dX1_sendBy_155 rfl ?_
                        refine z_goto 197 dX1_sendBy_156 (by decide) ?_
                        refine z_istore (L' := [(11, .int 0), (10, .int 0), (9, .int 0), (0, .ref h), (1, .int p1), (2, .int p2), (3, .int p3), (4, .int p4), (5, .int p5), (6, .int 1), (7, .int x84), (8, .int (nI k84))]) dX1_sendBy_197 (by decide) rfl ?_
                        refine z_iload 10 dX1_sendBy_199 rfl ?_
                        refine z_iload 0 dX1_sendBy_201 rfl ?_
                        refine z_if_eq 223 dX1_sendBy_203 (by decide) (fun _ => ?_) (fun c_203_27 => absurd c_203_27 (by decide))
                        refine z_iconst (v := 0) dX1_sendBy_223 rfl ?_
                        refine z_ior dX1_sendBy_224 ?_
                        refine z_istore (L' := [(7, .int (x84 ||| 0)), (11, .int 0), (10, .int 0), (9, .int 0), (0, .ref h), (1, .int p1), (2, .int p2), (3, .int p3), (4, .int p4), (5, .int p5), (6, .int 1), (8, .int (nI k84))]) dX1_sendBy_225 (by decide) rfl ?_
                        refine z_iinc (v := (nI (k84 + 1))) (L' := [(8, .int (nI (k84 + 1))), (7, .int (x84 ||| 0)), (11, .int 0), (10, .int 0), (9, .int 0), (0, .ref h), (1, .int p1), (2, .int p2), (3, .int p3), (4, .int p4), (5, .int p5), (6, .int 1)]) 11 dX1_sendBy_227 rfl (nI_1 k84) (by decide) rfl ?_
                        refine z_goto 84 dX1_sendBy_230 (by decide) ?_
                        have hb84 : l_X1_sendBy_84 u p1 p2 p3 p4 p5 (k84 + 1) = (x84 ||| 0) := by
                          show b_X1_sendBy_84 u p1 p2 p3 p4 p5 k84 (l_X1_sendBy_84 u p1 p2 p3 p4 p5 k84) = _
                          rw [← hx84, b_X1_sendBy_84, if_neg c_105_17, if_neg c_127_18]
                        refine z_sub (L' := [(0, .ref h), (1, .int p1), (2, .int p2), (3, .int p3), (4, .int p4), (5, .int p5), (6, .int 1), (7, .int (x84 ||| 0)), (8, .int (nI (k84 + 1)))]) [5, 6, 7, 8, 9, 10, 11, 1, 0] rfl ?_
                        have ih2 := ih84 (k84 + 1) (by omega)
                        rw [hb84] at ih2
                        exact ih2
                    ·
                      refine z_iconst (v := 1) dX1_sendBy_130 rfl ?_
                      refine z_goto 135 dX1_sendBy_131 (by decide) ?_
                      refine z_istore (L' := [(10, .int 1), (9, .int 0), (0, .ref h), (1, .int p1), (2, .int p2), (3, .int p3), (4, .int p4), (5, .int p5), (6, .int 1), (7, .int x84), (8, .int (nI k84))]) dX1_sendBy_135 (by decide) rfl ?_
                      refine z_iload_n 3 dX1_sendBy_137 rfl ?_
                      refine z_if_ne 159 dX1_sendBy_138 (by decide) (fun c_138_28 => ?_) (fun c_138_28 => ?_)
                      ·
                        refine z_iload_n 3 dX1_sendBy_159 rfl ?_
                        refine z_iconst (v := 1) dX1_sendBy_160 rfl ?_
                        refine z_icmp_ne 182 dX1_sendBy_161 (by decide) (fun c_161_29 => ?_) (fun c_161_29 => ?_)
                        ·
                          refine z_iload 1 dX1_sendBy_182 rfl ?_
                          refine z_if_eq 196 dX1_sendBy_184 (by decide) (fun _ => ?_) (fun c_184_30 => absurd c_184_30 (by decide))
                          refine z_iconst (v := 0) dX1_sendBy_196 rfl ?_
                          refine z_istore (L' := [(11, .int 0), (10, .int 1), (9, .int 0), (0, .ref h), (1, .int p1), (2, .int p2), (3, .int p3), (4, .int p4), (5, .int p5), (6, .int 1), (7, .int x84), (8, .int (nI k84))]) dX1_sendBy_197 (by decide) rfl ?_
                          refine z_iload 10 dX1_sendBy_199 rfl ?_
                          refine z_iload 0 dX1_sendBy_201 rfl ?_
                          refine z_if_eq 223 dX1_sendBy_203 (by decide) (fun _ => ?_) (fun c_203_31 => absurd c_203_31 (by decide))
                          refine z_iconst (v := 0) dX1_sendBy_223 rfl ?_
                          refine z_ior dX1_sendBy_224 ?_
                          refine z_istore (L' := [(7, .int (x84 ||| 0)), (11, .int 0), (10, .int 1), (9, .int 0), (0, .ref h), (1, .int p1), (2, .int p2), (3, .int p3), (4, .int p4), (5, .int p5), (6, .int 1), (8, .int (nI k84))]) dX1_sendBy_225 (by decide) rfl ?_
                          refine z_iinc (v := (nI (k84 + 1))) (L' := [(8, .int (nI (k84 + 1))), (7, .int (x84 ||| 0)), (11, .int 0), (10, .int 1), (9, .int 0), (0, .ref h), (1, .int p1), (2, .int p2), (3, .int p3), (4, .int p4), (5, .int p5), (6, .int 1)]) 11 dX1_sendBy_227 rfl (nI_1 k84) (by decide) rfl ?_
                          refine z_goto 84 dX1_sendBy_230 (by decide) ?_
                          have hb84 : l_X1_sendBy_84 u p1 p2 p3 p4 p5 (k84 + 1) = (x84 ||| 0) := by
                            show b_X1_sendBy_84 u p1 p2 p3 p4 p5 k84 (l_X1_sendBy_84 u p1 p2 p3 p4 p5 k84) = _
                            rw [← hx84, b_X1_sendBy_84, if_neg c_105_17, if_pos c_127_18, if_neg c_138_28, if_neg c_161_29]
                          refine z_sub (L' := [(0, .ref h), (1, .int p1), (2, .int p2), (3, .int p3), (4, .int p4), (5, .int p5), (6, .int 1), (7, .int (x84 ||| 0)), (8, .int (nI (k84 + 1)))]) [5, 6, 7, 8, 9, 10, 11, 1, 0] rfl ?_
                          have ih2 := ih84 (k84 + 1) (by omega)
                          rw [hb84] at ih2
                          exact ih2
                        ·
                          refine z_iload 1 dX1_sendBy_164 rfl ?_
                          refine z_if_ne 174 dX1_sendBy_166 (by decide) (fun c_166_32 => absurd c_166_32 (by decide)) (fun _ => ?_)
                          refine z_iload 0 dX1_sendBy_169 rfl ?_
                          refine z_if_eq 178 dX1_sendBy_171 (by decide) (fun c_171_33 => absurd c_171_33 (by decide)) (fun _ => ?_)
                          refine z_iconst (v := 1) dX1_sendBy_174 rfl ?_
                          refine z_goto 197 dX1_sendBy_175 (by decide) ?_
                          refine z_istore (L' := [(11, .int 1), (10, .int 1), (9, .int 0), (0, .ref h), (1, .int p1), (2, .int p2), (3, .int p3), (4, .int p4), (5, .int p5), (6, .int 1), (7, .int x84), (8, .int (nI k84))]) dX1_sendBy_197 (by decide) rfl ?_
                          refine z_iload 10 dX1_sendBy_199 rfl ?_
                          refine z_iload 0 dX1_sendBy_201 rfl ?_
                          refine z_if_eq 223 dX1_sendBy_203 (by decide) (fun c_203_34 => absurd c_203_34 (by decide)) (fun _ => ?_)
                          refine z_aload_n 3 dX1_sendBy_206 rfl ?_
                          refine z_get (C := RX1) (T := TX1) (N := 22) (v := .ref (a 7)) inwX1_sendBy 0 rfl rfl 7 (by decide) (List.mem_of_getElem? (i := 4) rfl) rfl rfl dX1_sendBy_207 ?_
                          refine z_iload 11 dX1_sendBy_210 rfl ?_
                          refine z_zald (v := (u.2 7 (ix (nI k84)))) 5 1 rfl rfl (vp_in_nI (by omega) (by omega)) rfl dX1_sendBy_212 ?_
                          refine z_if_ne 223 dX1_sendBy_213 (by decide) (fun c_213_35 => ?_) (fun c_213_35 => ?_)
                          ·
                            refine z_iconst (v := 0) dX1_sendBy_223 rfl ?_
                            refine z_ior dX1_sendBy_224 ?_
                            refine z_istore (L' := [(7, .int (x84 ||| 0)), (11, .int 1), (10, .int 1), (9, .int 0), (0, .ref h), (1, .int p1), (2, .int p2), (3, .int p3), (4, .int p4), (5, .int p5), (6, .int 1), (8, .int (nI k84))]) dX1_sendBy_225 (by decide) rfl ?_
                            refine z_iinc (v := (nI (k84 + 1))) (L' := [(8, .int (nI (k84 + 1))), (7, .int (x84 ||| 0)), (11, .int 1), (10, .int 1), (9, .int 0), (0, .ref h), (1, .int p1), (2, .int p2), (3, .int p3), (4, .int p4), (5, .int p5), (6, .int 1)]) 11 dX1_sendBy_227 rfl (nI_1 k84) (by decide) rfl ?_
                            refine z_goto 84 dX1_sendBy_230 (by decide) ?_
                            have hb84 : l_X1_sendBy_84 u p1 p2 p3 p4 p5 (k84 + 1) = (x84 ||| 0) := by
                              show b_X1_sendBy_84 u p1 p2 p3 p4 p5 k84 (l_X1_sendBy_84 u p1 p2 p3 p4 p5 k84) = _
                              rw [← hx84, b_X1_sendBy_84, if_neg c_105_17, if_pos c_127_18, if_neg c_138_28, if_pos c_161_29, if_neg c_213_35]
                            refine z_sub (L' := [(0, .ref h), (1, .int p1), (2, .int p2), (3, .int p3), (4, .int p4), (5, .int p5), (6, .int 1), (7, .int (x84 ||| 0)), (8, .int (nI (k84 + 1)))]) [5, 6, 7, 8, 9, 10, 11, 1, 0] rfl ?_
                            have ih2 := ih84 (k84 + 1) (by omega)
                            rw [hb84] at ih2
                            exact ih2
                          ·
                            refine z_iconst (v := 1) dX1_sendBy_216 rfl ?_
                            refine z_iload 11 dX1_sendBy_217 rfl ?_
                            refine z_ishl dX1_sendBy_219 ?_
                            refine z_goto 224 dX1_sendBy_220 (by decide) ?_
                            refine z_ior dX1_sendBy_224 ?_
                            refine z_istore (L' := [(7, .int (x84 ||| (1 <<< ((nI k84) &&& 31)))), (11, .int 1), (10, .int 1), (9, .int 0), (0, .ref h), (1, .int p1), (2, .int p2), (3, .int p3), (4, .int p4), (5, .int p5), (6, .int 1), (8, .int (nI k84))]) dX1_sendBy_225 (by decide) rfl ?_
                            refine z_iinc (v := (nI (k84 + 1))) (L' := [(8, .int (nI (k84 + 1))), (7, .int (x84 ||| (1 <<< ((nI k84) &&& 31)))), (11, .int 1), (10, .int 1), (9, .int 0), (0, .ref h), (1, .int p1), (2, .int p2), (3, .int p3), (4, .int p4), (5, .int p5), (6, .int 1)]) 11 dX1_sendBy_227 rfl (nI_1 k84) (by decide) rfl ?_
                            refine z_goto 84 dX1_sendBy_230 (by decide) ?_
                            have hb84 : l_X1_sendBy_84 u p1 p2 p3 p4 p5 (k84 + 1) = (x84 ||| (1 <<< ((nI k84) &&& 31))) := by
                              show b_X1_sendBy_84 u p1 p2 p3 p4 p5 k84 (l_X1_sendBy_84 u p1 p2 p3 p4 p5 k84) = _
                              rw [← hx84, b_X1_sendBy_84, if_neg c_105_17, if_pos c_127_18, if_neg c_138_28, if_pos c_161_29, if_pos c_213_35]
                            refine z_sub (L' := [(0, .ref h), (1, .int p1), (2, .int p2), (3, .int p3), (4, .int p4), (5, .int p5), (6, .int 1), (7, .int (x84 ||| (1 <<< ((nI k84) &&& 31)))), (8, .int (nI (k84 + 1)))]) [5, 6, 7, 8, 9, 10, 11, 1, 0] rfl ?_
                            have ih2 := ih84 (k84 + 1) (by omega)
                            rw [hb84] at ih2
                            exact ih2
                      ·
                        refine z_iload 1 dX1_sendBy_141 rfl ?_
                        refine z_if_eq 155 dX1_sendBy_143 (by decide) (fun _ => ?_) (fun c_143_36 => absurd c_143_36 (by decide))
                        refine z_iconst (v := 0) dX1_sendBy_155 rfl ?_
                        refine z_goto 197 dX1_sendBy_156 (by decide) ?_
                        refine z_istore (L' := [(11, .int 0), (10, .int 1), (9, .int 0), (0, .ref h), (1, .int p1), (2, .int p2), (3, .int p3), (4, .int p4), (5, .int p5), (6, .int 1), (7, .int x84), (8, .int (nI k84))]) dX1_sendBy_197 (by decide) rfl ?_
                        refine z_iload 10 dX1_sendBy_199 rfl ?_
                        refine z_iload 0 dX1_sendBy_201 rfl ?_
                        refine z_if_eq 223 dX1_sendBy_203 (by decide) (fun _ => ?_) (fun c_203_37 => absurd c_203_37 (by decide))
                        refine z_iconst (v := 0) dX1_sendBy_223 rfl ?_
                        refine z_ior dX1_sendBy_224 ?_
                        refine z_istore (L' := [(7, .int (x84 ||| 0)), (11, .int 0), (10, .int 1), (9, .int 0), (0, .ref h), (1, .int p1), (2, .int p2), (3, .int p3), (4, .int p4), (5, .int p5), (6, .int 1), (8, .int (nI k84))]) dX1_sendBy_225 (by decide) rfl ?_
                        refine z_iinc (v := (nI (k84 + 1))) (L' := [(8, .int (nI (k84 + 1))), (7, .int (x84 ||| 0)), (11, .int 0), (10, .int 1), (9, .int 0), (0, .ref h), (1, .int p1), (2, .int p2), (3, .int p3), (4, .int p4), (5, .int p5), (6, .int 1)]) 11 dX1_sendBy_227 rfl (nI_1 k84) (by decide) rfl ?_
                        refine z_goto 84 dX1_sendBy_230 (by decide) ?_
                        have hb84 : l_X1_sendBy_84 u p1 p2 p3 p4 p5 (k84 + 1) = (x84 ||| 0) := by
                          show b_X1_sendBy_84 u p1 p2 p3 p4 p5 k84 (l_X1_sendBy_84 u p1 p2 p3 p4 p5 k84) = _
                          rw [← hx84, b_X1_sendBy_84, if_neg c_105_17, if_pos c_127_18, if_pos c_138_28]
                        refine z_sub (L' := [(0, .ref h), (1, .int p1), (2, .int p2), (3, .int p3), (4, .int p4), (5, .int p5), (6, .int 1), (7, .int (x84 ||| 0)), (8, .int (nI (k84 + 1)))]) [5, 6, 7, 8, 9, 10, 11, 1, 0] rfl ?_
                        have ih2 := ih84 (k84 + 1) (by omega)
                        rw [hb84] at ih2
                        exact ih2
                  ·
                    refine z_iconst (v := 1) dX1_sendBy_108 rfl ?_
                    refine z_goto 113 dX1_sendBy_109 (by decide) ?_
                    refine z_istore (L' := [(9, .int 1), (0, .ref h), (1, .int p1), (2, .int p2), (3, .int p3), (4, .int p4), (5, .int p5), (6, .int 1), (7, .int x84), (8, .int (nI k84))]) dX1_sendBy_113 (by decide) rfl ?_
                    refine z_aload_n 1 dX1_sendBy_115 rfl ?_
                    refine z_get (C := RX1) (T := TX1) (N := 22) (v := .ref (a 10)) inwX1_sendBy 0 rfl rfl 10 (by decide) (List.mem_of_getElem? (i := 3) rfl) rfl rfl dX1_sendBy_116 ?_
                    refine z_iload 9 dX1_sendBy_119 rfl ?_
                    refine z_iald (v := (u.2 10 (ix (nI k84)))) 8 0 rfl rfl (vp_in_nI (by omega) (by omega)) rfl dX1_sendBy_121 ?_
                    refine z_iload_n 4 dX1_sendBy_122 rfl ?_
                    refine z_ishr dX1_sendBy_123 ?_
                    refine z_iconst (v := 1) dX1_sendBy_124 rfl ?_
                    refine z_iand dX1_sendBy_125 ?_
                    refine z_iconst (v := 1) dX1_sendBy_126 rfl ?_
                    refine z_icmp_ne 134 dX1_sendBy_127 (by decide) (fun c_127_38 => ?_) (fun c_127_38 => ?_)
                    ·
                      refine z_iconst (v := 0) dX1_sendBy_134 rfl ?_
                      refine z_istore (L' := [(10, .int 0), (9, .int 1), (0, .ref h), (1, .int p1), (2, .int p2), (3, .int p3), (4, .int p4), (5, .int p5), (6, .int 1), (7, .int x84), (8, .int (nI k84))]) dX1_sendBy_135 (by decide) rfl ?_
                      refine z_iload_n 3 dX1_sendBy_137 rfl ?_
                      refine z_if_ne 159 dX1_sendBy_138 (by decide) (fun c_138_39 => ?_) (fun c_138_39 => ?_)
                      ·
                        refine z_iload_n 3 dX1_sendBy_159 rfl ?_
                        refine z_iconst (v := 1) dX1_sendBy_160 rfl ?_
                        refine z_icmp_ne 182 dX1_sendBy_161 (by decide) (fun c_161_40 => ?_) (fun c_161_40 => ?_)
                        ·
                          refine z_iload 1 dX1_sendBy_182 rfl ?_
                          refine z_if_eq 196 dX1_sendBy_184 (by decide) (fun c_184_41 => absurd c_184_41 (by decide)) (fun _ => ?_)
                          refine z_iload 0 dX1_sendBy_187 rfl ?_
                          refine z_if_ne 196 dX1_sendBy_189 (by decide) (fun c_189_42 => absurd c_189_42 (by decide)) (fun _ => ?_)
                          refine z_iconst (v := 1) dX1_sendBy_192 rfl ?_
                          refine z_goto 197 dX1_sendBy_193 (by decide) ?_
                          refine z_istore (L' := [(11, .int 1), (10, .int 0), (9, .int 1), (0, .ref h), (1, .int p1), (2, .int p2), (3, .int p3), (4, .int p4), (5, .int p5), (6, .int 1), (7, .int x84), (8, .int (nI k84))]) dX1_sendBy_197 (by decide) rfl ?_
                          refine z_iload 10 dX1_sendBy_199 rfl ?_
                          refine z_iload 0 dX1_sendBy_201 rfl ?_
                          refine z_if_eq 223 dX1_sendBy_203 (by decide) (fun c_203_43 => absurd c_203_43 (by decide)) (fun _ => ?_)
                          refine z_aload_n 3 dX1_sendBy_206 rfl ?_
                          refine z_get (C := RX1) (T := TX1) (N := 22) (v := .ref (a 7)) inwX1_sendBy 0 rfl rfl 7 (by decide) (List.mem_of_getElem? (i := 4) rfl) rfl rfl dX1_sendBy_207 ?_
                          refine z_iload 11 dX1_sendBy_210 rfl ?_
                          refine z_zald (v := (u.2 7 (ix (nI k84)))) 5 1 rfl rfl (vp_in_nI (by omega) (by omega)) rfl dX1_sendBy_212 ?_
                          refine z_if_ne 223 dX1_sendBy_213 (by decide) (fun c_213_44 => ?_) (fun c_213_44 => ?_)
                          ·
                            refine z_iconst (v := 0) dX1_sendBy_223 rfl ?_
                            refine z_ior dX1_sendBy_224 ?_
                            refine z_istore (L' := [(7, .int (x84 ||| 0)), (11, .int 1), (10, .int 0), (9, .int 1), (0, .ref h), (1, .int p1), (2, .int p2), (3, .int p3), (4, .int p4), (5, .int p5), (6, .int 1), (8, .int (nI k84))]) dX1_sendBy_225 (by decide) rfl ?_
                            refine z_iinc (v := (nI (k84 + 1))) (L' := [(8, .int (nI (k84 + 1))), (7, .int (x84 ||| 0)), (11, .int 1), (10, .int 0), (9, .int 1), (0, .ref h), (1, .int p1), (2, .int p2), (3, .int p3), (4, .int p4), (5, .int p5), (6, .int 1)]) 11 dX1_sendBy_227 rfl (nI_1 k84) (by decide) rfl ?_
                            refine z_goto 84 dX1_sendBy_230 (by decide) ?_
                            have hb84 : l_X1_sendBy_84 u p1 p2 p3 p4 p5 (k84 + 1) = (x84 ||| 0) := by
                              show b_X1_sendBy_84 u p1 p2 p3 p4 p5 k84 (l_X1_sendBy_84 u p1 p2 p3 p4 p5 k84) = _
                              rw [← hx84, b_X1_sendBy_84, if_pos c_105_17, if_neg c_127_38, if_neg c_138_39, if_neg c_213_44]
                            refine z_sub (L' := [(0, .ref h), (1, .int p1), (2, .int p2), (3, .int p3), (4, .int p4), (5, .int p5), (6, .int 1), (7, .int (x84 ||| 0)), (8, .int (nI (k84 + 1)))]) [5, 6, 7, 8, 9, 10, 11, 1, 0] rfl ?_
                            have ih2 := ih84 (k84 + 1) (by omega)
                            rw [hb84] at ih2
                            exact ih2
                          ·
                            refine z_iconst (v := 1) dX1_sendBy_216 rfl ?_
                            refine z_iload 11 dX1_sendBy_217 rfl ?_
                            refine z_ishl dX1_sendBy_219 ?_
                            refine z_goto 224 dX1_sendBy_220 (by decide) ?_
                            refine z_ior dX1_sendBy_224 ?_
                            refine z_istore (L' := [(7, .int (x84 ||| (1 <<< ((nI k84) &&& 31)))), (11, .int 1), (10, .int 0), (9, .int 1), (0, .ref h), (1, .int p1), (2, .int p2), (3, .int p3), (4, .int p4), (5, .int p5), (6, .int 1), (8, .int (nI k84))]) dX1_sendBy_225 (by decide) rfl ?_
                            refine z_iinc (v := (nI (k84 + 1))) (L' := [(8, .int (nI (k84 + 1))), (7, .int (x84 ||| (1 <<< ((nI k84) &&& 31)))), (11, .int 1), (10, .int 0), (9, .int 1), (0, .ref h), (1, .int p1), (2, .int p2), (3, .int p3), (4, .int p4), (5, .int p5), (6, .int 1)]) 11 dX1_sendBy_227 rfl (nI_1 k84) (by decide) rfl ?_
                            refine z_goto 84 dX1_sendBy_230 (by decide) ?_
                            have hb84 : l_X1_sendBy_84 u p1 p2 p3 p4 p5 (k84 + 1) = (x84 ||| (1 <<< ((nI k84) &&& 31))) := by
                              show b_X1_sendBy_84 u p1 p2 p3 p4 p5 k84 (l_X1_sendBy_84 u p1 p2 p3 p4 p5 k84) = _
                              rw [← hx84, b_X1_sendBy_84, if_pos c_105_17, if_neg c_127_38, if_neg c_138_39, if_pos c_213_44]
                            refine z_sub (L' := [(0, .ref h), (1, .int p1), (2, .int p2), (3, .int p3), (4, .int p4), (5, .int p5), (6, .int 1), (7, .int (x84 ||| (1 <<< ((nI k84) &&& 31)))), (8, .int (nI (k84 + 1)))]) [5, 6, 7, 8, 9, 10, 11, 1, 0] rfl ?_
                            have ih2 := ih84 (k84 + 1) (by omega)
                            rw [hb84] at ih2
                            exact ih2
                        ·
                          refine z_iload 1 dX1_sendBy_164 rfl ?_
                          refine z_if_ne 174 dX1_sendBy_166 (by decide) (fun _ => ?_) (fun c_166_45 => absurd c_166_45 (by decide))
                          refine z_iconst (v := 1) dX1_sendBy_174 rfl ?_
                          refine z_goto 197 dX1_sendBy_175 (by decide) ?_
                          refine z_istore (L' := [(11, .int 1), (10, .int 0), (9, .int 1), (0, .ref h), (1, .int p1), (2, .int p2), (3, .int p3), (4, .int p4), (5, .int p5), (6, .int 1), (7, .int x84), (8, .int (nI k84))]) dX1_sendBy_197 (by decide) rfl ?_
                          refine z_iload 10 dX1_sendBy_199 rfl ?_
                          refine z_iload 0 dX1_sendBy_201 rfl ?_
                          refine z_if_eq 223 dX1_sendBy_203 (by decide) (fun c_203_46 => absurd c_203_46 (by decide)) (fun _ => ?_)
                          refine z_aload_n 3 dX1_sendBy_206 rfl ?_
                          refine z_get (C := RX1) (T := TX1) (N := 22) (v := .ref (a 7)) inwX1_sendBy 0 rfl rfl 7 (by decide) (List.mem_of_getElem? (i := 4) rfl) rfl rfl dX1_sendBy_207 ?_
                          refine z_iload 11 dX1_sendBy_210 rfl ?_
                          refine z_zald (v := (u.2 7 (ix (nI k84)))) 5 1 rfl rfl (vp_in_nI (by omega) (by omega)) rfl dX1_sendBy_212 ?_
                          refine z_if_ne 223 dX1_sendBy_213 (by decide) (fun c_213_47 => ?_) (fun c_213_47 => ?_)
                          ·
                            refine z_iconst (v := 0) dX1_sendBy_223 rfl ?_
                            refine z_ior dX1_sendBy_224 ?_
                            refine z_istore (L' := [(7, .int (x84 ||| 0)), (11, .int 1), (10, .int 0), (9, .int 1), (0, .ref h), (1, .int p1), (2, .int p2), (3, .int p3), (4, .int p4), (5, .int p5), (6, .int 1), (8, .int (nI k84))]) dX1_sendBy_225 (by decide) rfl ?_
                            refine z_iinc (v := (nI (k84 + 1))) (L' := [(8, .int (nI (k84 + 1))), (7, .int (x84 ||| 0)), (11, .int 1), (10, .int 0), (9, .int 1), (0, .ref h), (1, .int p1), (2, .int p2), (3, .int p3), (4, .int p4), (5, .int p5), (6, .int 1)]) 11 dX1_sendBy_227 rfl (nI_1 k84) (by decide) rfl ?_
                            refine z_goto 84 dX1_sendBy_230 (by decide) ?_
                            have hb84 : l_X1_sendBy_84 u p1 p2 p3 p4 p5 (k84 + 1) = (x84 ||| 0) := by
                              show b_X1_sendBy_84 u p1 p2 p3 p4 p5 k84 (l_X1_sendBy_84 u p1 p2 p3 p4 p5 k84) = _
                              rw [← hx84, b_X1_sendBy_84, if_pos c_105_17, if_neg c_127_38, if_neg c_138_39, if_neg c_213_47]
                            refine z_sub (L' := [(0, .ref h), (1, .int p1), (2, .int p2), (3, .int p3), (4, .int p4), (5, .int p5), (6, .int 1), (7, .int (x84 ||| 0)), (8, .int (nI (k84 + 1)))]) [5, 6, 7, 8, 9, 10, 11, 1, 0] rfl ?_
                            have ih2 := ih84 (k84 + 1) (by omega)
                            rw [hb84] at ih2
                            exact ih2
                          ·
                            refine z_iconst (v := 1) dX1_sendBy_216 rfl ?_
                            refine z_iload 11 dX1_sendBy_217 rfl ?_
                            refine z_ishl dX1_sendBy_219 ?_
                            refine z_goto 224 dX1_sendBy_220 (by decide) ?_
                            refine z_ior dX1_sendBy_224 ?_
                            refine z_istore (L' := [(7, .int (x84 ||| (1 <<< ((nI k84) &&& 31)))), (11, .int 1), (10, .int 0), (9, .int 1), (0, .ref h), (1, .int p1), (2, .int p2), (3, .int p3), (4, .int p4), (5, .int p5), (6, .int 1), (8, .int (nI k84))]) dX1_sendBy_225 (by decide) rfl ?_
                            refine z_iinc (v := (nI (k84 + 1))) (L' := [(8, .int (nI (k84 + 1))), (7, .int (x84 ||| (1 <<< ((nI k84) &&& 31)))), (11, .int 1), (10, .int 0), (9, .int 1), (0, .ref h), (1, .int p1), (2, .int p2), (3, .int p3), (4, .int p4), (5, .int p5), (6, .int 1)]) 11 dX1_sendBy_227 rfl (nI_1 k84) (by decide) rfl ?_
                            refine z_goto 84 dX1_sendBy_230 (by decide) ?_
                            have hb84 : l_X1_sendBy_84 u p1 p2 p3 p4 p5 (k84 + 1) = (x84 ||| (1 <<< ((nI k84) &&& 31))) := by
                              show b_X1_sendBy_84 u p1 p2 p3 p4 p5 k84 (l_X1_sendBy_84 u p1 p2 p3 p4 p5 k84) = _
                              rw [← hx84, b_X1_sendBy_84, if_pos c_105_17, if_neg c_127_38, if_neg c_138_39, if_pos c_213_47]
                            refine z_sub (L' := [(0, .ref h), (1, .int p1), (2, .int p2), (3, .int p3), (4, .int p4), (5, .int p5), (6, .int 1), (7, .int (x84 ||| (1 <<< ((nI k84) &&& 31)))), (8, .int (nI (k84 + 1)))]) [5, 6, 7, 8, 9, 10, 11, 1, 0] rfl ?_
                            have ih2 := ih84 (k84 + 1) (by omega)
                            rw [hb84] at ih2
                            exact ih2
                      ·
                        refine z_iload 1 dX1_sendBy_141 rfl ?_
                        refine z_if_eq 155 dX1_sendBy_143 (by decide) (fun c_143_48 => absurd c_143_48 (by decide)) (fun _ => ?_)
                        refine z_iload 0 dX1_sendBy_146 rfl ?_
                        refine z_if_eq 155 dX1_sendBy_148 (by decide) (fun _ => ?_) (fun c_148_49 => absurd c_148_49 (by decide))
                        refine z_iconst (v := 0) dX1_sendBy_155 rfl ?_
                        refine z_goto 197 dX1_sendBy_156 (by decide) ?_
                        refine z_istore (L' := [(11, .int 0), (10, .int 0), (9, .int 1), (0, .ref h), (1, .int p1), (2, .int p2), (3, .int p3), (4, .int p4), (5, .int p5), (6, .int 1), (7, .int x84), (8, .int (nI k84))]) dX1_sendBy_197 (by decide) rfl ?_
                        refine z_iload 10 dX1_sendBy_199 rfl ?_
                        refine z_iload 0 dX1_sendBy_201 rfl ?_
                        refine z_if_eq 223 dX1_sendBy_203 (by decide) (fun _ => ?_) (fun c_203_50 => absurd c_203_50 (by decide))
                        refine z_iconst (v := 0) dX1_sendBy_223 rfl ?_
                        refine z_ior dX1_sendBy_224 ?_
                        refine z_istore (L' := [(7, .int (x84 ||| 0)), (11, .int 0), (10, .int 0), (9, .int 1), (0, .ref h), (1, .int p1), (2, .int p2), (3, .int p3), (4, .int p4), (5, .int p5), (6, .int 1), (8, .int (nI k84))]) dX1_sendBy_225 (by decide) rfl ?_
                        refine z_iinc (v := (nI (k84 + 1))) (L' := [(8, .int (nI (k84 + 1))), (7, .int (x84 ||| 0)), (11, .int 0), (10, .int 0), (9, .int 1), (0, .ref h), (1, .int p1), (2, .int p2), (3, .int p3), (4, .int p4), (5, .int p5), (6, .int 1)]) 11 dX1_sendBy_227 rfl (nI_1 k84) (by decide) rfl ?_
                        refine z_goto 84 dX1_sendBy_230 (by decide) ?_
                        have hb84 : l_X1_sendBy_84 u p1 p2 p3 p4 p5 (k84 + 1) = (x84 ||| 0) := by
                          show b_X1_sendBy_84 u p1 p2 p3 p4 p5 k84 (l_X1_sendBy_84 u p1 p2 p3 p4 p5 k84) = _
                          rw [← hx84, b_X1_sendBy_84, if_pos c_105_17, if_neg c_127_38, if_pos c_138_39]
                        refine z_sub (L' := [(0, .ref h), (1, .int p1), (2, .int p2), (3, .int p3), (4, .int p4), (5, .int p5), (6, .int 1), (7, .int (x84 ||| 0)), (8, .int (nI (k84 + 1)))]) [5, 6, 7, 8, 9, 10, 11, 1, 0] rfl ?_
                        have ih2 := ih84 (k84 + 1) (by omega)
                        rw [hb84] at ih2
                        exact ih2
                    ·
                      refine z_iconst (v := 1) dX1_sendBy_130 rfl ?_
                      refine z_goto 135 dX1_sendBy_131 (by decide) ?_
                      refine z_istore (L' := [(10, .int 1), (9, .int 1), (0, .ref h), (1, .int p1), (2, .int p2), (3, .int p3), (4, .int p4), (5, .int p5), (6, .int 1), (7, .int x84), (8, .int (nI k84))]) dX1_sendBy_135 (by decide) rfl ?_
                      refine z_iload_n 3 dX1_sendBy_137 rfl ?_
                      refine z_if_ne 159 dX1_sendBy_138 (by decide) (fun c_138_51 => ?_) (fun c_138_51 => ?_)
                      ·
                        refine z_iload_n 3 dX1_sendBy_159 rfl ?_
                        refine z_iconst (v := 1) dX1_sendBy_160 rfl ?_
                        refine z_icmp_ne 182 dX1_sendBy_161 (by decide) (fun c_161_52 => ?_) (fun c_161_52 => ?_)
                        ·
                          refine z_iload 1 dX1_sendBy_182 rfl ?_
                          refine z_if_eq 196 dX1_sendBy_184 (by decide) (fun c_184_53 => absurd c_184_53 (by decide)) (fun _ => ?_)
                          refine z_iload 0 dX1_sendBy_187 rfl ?_
                          refine z_if_ne 196 dX1_sendBy_189 (by decide) (fun _ => ?_) (fun c_189_54 => absurd c_189_54 (by decide))
                          refine z_iconst (v := 0) dX1_sendBy_196 rfl ?_
                          refine z_istore (L' := [(11, .int 0), (10, .int 1), (9, .int 1), (0, .ref h), (1, .int p1), (2, .int p2), (3, .int p3), (4, .int p4), (5, .int p5), (6, .int 1), (7, .int x84), (8, .int (nI k84))]) dX1_sendBy_197 (by decide) rfl ?_
                          refine z_iload 10 dX1_sendBy_199 rfl ?_
                          refine z_iload 0 dX1_sendBy_201 rfl ?_
                          refine z_if_eq 223 dX1_sendBy_203 (by decide) (fun _ => ?_) (fun c_203_55 => absurd c_203_55 (by decide))
                          refine z_iconst (v := 0) dX1_sendBy_223 rfl ?_
                          refine z_ior dX1_sendBy_224 ?_
                          refine z_istore (L' := [(7, .int (x84 ||| 0)), (11, .int 0), (10, .int 1), (9, .int 1), (0, .ref h), (1, .int p1), (2, .int p2), (3, .int p3), (4, .int p4), (5, .int p5), (6, .int 1), (8, .int (nI k84))]) dX1_sendBy_225 (by decide) rfl ?_
                          refine z_iinc (v := (nI (k84 + 1))) (L' := [(8, .int (nI (k84 + 1))), (7, .int (x84 ||| 0)), (11, .int 0), (10, .int 1), (9, .int 1), (0, .ref h), (1, .int p1), (2, .int p2), (3, .int p3), (4, .int p4), (5, .int p5), (6, .int 1)]) 11 dX1_sendBy_227 rfl (nI_1 k84) (by decide) rfl ?_
                          refine z_goto 84 dX1_sendBy_230 (by decide) ?_
                          have hb84 : l_X1_sendBy_84 u p1 p2 p3 p4 p5 (k84 + 1) = (x84 ||| 0) := by
                            show b_X1_sendBy_84 u p1 p2 p3 p4 p5 k84 (l_X1_sendBy_84 u p1 p2 p3 p4 p5 k84) = _
                            rw [← hx84, b_X1_sendBy_84, if_pos c_105_17, if_pos c_127_38, if_neg c_138_51, if_neg c_161_52]
                          refine z_sub (L' := [(0, .ref h), (1, .int p1), (2, .int p2), (3, .int p3), (4, .int p4), (5, .int p5), (6, .int 1), (7, .int (x84 ||| 0)), (8, .int (nI (k84 + 1)))]) [5, 6, 7, 8, 9, 10, 11, 1, 0] rfl ?_
                          have ih2 := ih84 (k84 + 1) (by omega)
                          rw [hb84] at ih2
                          exact ih2
                        ·
                          refine z_iload 1 dX1_sendBy_164 rfl ?_
                          refine z_if_ne 174 dX1_sendBy_166 (by decide) (fun _ => ?_) (fun c_166_56 => absurd c_166_56 (by decide))
                          refine z_iconst (v := 1) dX1_sendBy_174 rfl ?_
                          refine z_goto 197 dX1_sendBy_175 (by decide) ?_
                          refine z_istore (L' := [(11, .int 1), (10, .int 1), (9, .int 1), (0, .ref h), (1, .int p1), (2, .int p2), (3, .int p3), (4, .int p4), (5, .int p5), (6, .int 1), (7, .int x84), (8, .int (nI k84))]) dX1_sendBy_197 (by decide) rfl ?_
                          refine z_iload 10 dX1_sendBy_199 rfl ?_
                          refine z_iload 0 dX1_sendBy_201 rfl ?_
                          refine z_if_eq 223 dX1_sendBy_203 (by decide) (fun c_203_57 => absurd c_203_57 (by decide)) (fun _ => ?_)
                          refine z_aload_n 3 dX1_sendBy_206 rfl ?_
                          refine z_get (C := RX1) (T := TX1) (N := 22) (v := .ref (a 7)) inwX1_sendBy 0 rfl rfl 7 (by decide) (List.mem_of_getElem? (i := 4) rfl) rfl rfl dX1_sendBy_207 ?_
                          refine z_iload 11 dX1_sendBy_210 rfl ?_
                          refine z_zald (v := (u.2 7 (ix (nI k84)))) 5 1 rfl rfl (vp_in_nI (by omega) (by omega)) rfl dX1_sendBy_212 ?_
                          refine z_if_ne 223 dX1_sendBy_213 (by decide) (fun c_213_58 => ?_) (fun c_213_58 => ?_)
                          ·
                            refine z_iconst (v := 0) dX1_sendBy_223 rfl ?_
                            refine z_ior dX1_sendBy_224 ?_
                            refine z_istore (L' := [(7, .int (x84 ||| 0)), (11, .int 1), (10, .int 1), (9, .int 1), (0, .ref h), (1, .int p1), (2, .int p2), (3, .int p3), (4, .int p4), (5, .int p5), (6, .int 1), (8, .int (nI k84))]) dX1_sendBy_225 (by decide) rfl ?_
                            refine z_iinc (v := (nI (k84 + 1))) (L' := [(8, .int (nI (k84 + 1))), (7, .int (x84 ||| 0)), (11, .int 1), (10, .int 1), (9, .int 1), (0, .ref h), (1, .int p1), (2, .int p2), (3, .int p3), (4, .int p4), (5, .int p5), (6, .int 1)]) 11 dX1_sendBy_227 rfl (nI_1 k84) (by decide) rfl ?_
                            refine z_goto 84 dX1_sendBy_230 (by decide) ?_
                            have hb84 : l_X1_sendBy_84 u p1 p2 p3 p4 p5 (k84 + 1) = (x84 ||| 0) := by
                              show b_X1_sendBy_84 u p1 p2 p3 p4 p5 k84 (l_X1_sendBy_84 u p1 p2 p3 p4 p5 k84) = _
                              rw [← hx84, b_X1_sendBy_84, if_pos c_105_17, if_pos c_127_38, if_neg c_138_51, if_pos c_161_52, if_neg c_213_58]
                            refine z_sub (L' := [(0, .ref h), (1, .int p1), (2, .int p2), (3, .int p3), (4, .int p4), (5, .int p5), (6, .int 1), (7, .int (x84 ||| 0)), (8, .int (nI (k84 + 1)))]) [5, 6, 7, 8, 9, 10, 11, 1, 0] rfl ?_
                            have ih2 := ih84 (k84 + 1) (by omega)
                            rw [hb84] at ih2
                            exact ih2
                          ·
                            refine z_iconst (v := 1) dX1_sendBy_216 rfl ?_
                            refine z_iload 11 dX1_sendBy_217 rfl ?_
                            refine z_ishl dX1_sendBy_219 ?_
                            refine z_goto 224 dX1_sendBy_220 (by decide) ?_
                            refine z_ior dX1_sendBy_224 ?_
                            refine z_istore (L' := [(7, .int (x84 ||| (1 <<< ((nI k84) &&& 31)))), (11, .int 1), (10, .int 1), (9, .int 1), (0, .ref h), (1, .int p1), (2, .int p2), (3, .int p3), (4, .int p4), (5, .int p5), (6, .int 1), (8, .int (nI k84))]) dX1_sendBy_225 (by decide) rfl ?_
                            refine z_iinc (v := (nI (k84 + 1))) (L' := [(8, .int (nI (k84 + 1))), (7, .int (x84 ||| (1 <<< ((nI k84) &&& 31)))), (11, .int 1), (10, .int 1), (9, .int 1), (0, .ref h), (1, .int p1), (2, .int p2), (3, .int p3), (4, .int p4), (5, .int p5), (6, .int 1)]) 11 dX1_sendBy_227 rfl (nI_1 k84) (by decide) rfl ?_
                            refine z_goto 84 dX1_sendBy_230 (by decide) ?_
                            have hb84 : l_X1_sendBy_84 u p1 p2 p3 p4 p5 (k84 + 1) = (x84 ||| (1 <<< ((nI k84) &&& 31))) := by
                              show b_X1_sendBy_84 u p1 p2 p3 p4 p5 k84 (l_X1_sendBy_84 u p1 p2 p3 p4 p5 k84) = _
                              rw [← hx84, b_X1_sendBy_84, if_pos c_105_17, if_pos c_127_38, if_neg c_138_51, if_pos c_161_52, if_pos c_213_58]
                            refine z_sub (L' := [(0, .ref h), (1, .int p1), (2, .int p2), (3, .int p3), (4, .int p4), (5, .int p5), (6, .int 1), (7, .int (x84 ||| (1 <<< ((nI k84) &&& 31)))), (8, .int (nI (k84 + 1)))]) [5, 6, 7, 8, 9, 10, 11, 1, 0] rfl ?_
                            have ih2 := ih84 (k84 + 1) (by omega)
                            rw [hb84] at ih2
                            exact ih2
                      ·
                        refine z_iload 1 dX1_sendBy_141 rfl ?_
                        refine z_if_eq 155 dX1_sendBy_143 (by decide) (fun c_143_59 => absurd c_143_59 (by decide)) (fun _ => ?_)
                        refine z_iload 0 dX1_sendBy_146 rfl ?_
                        refine z_if_eq 155 dX1_sendBy_148 (by decide) (fun c_148_60 => absurd c_148_60 (by decide)) (fun _ => ?_)
                        refine z_iconst (v := 1) dX1_sendBy_151 rfl ?_
                        refine z_goto 197 dX1_sendBy_152 (by decide) ?_
                        refine z_istore (L' := [(11, .int 1), (10, .int 1), (9, .int 1), (0, .ref h), (1, .int p1), (2, .int p2), (3, .int p3), (4, .int p4), (5, .int p5), (6, .int 1), (7, .int x84), (8, .int (nI k84))]) dX1_sendBy_197 (by decide) rfl ?_
                        refine z_iload 10 dX1_sendBy_199 rfl ?_
                        refine z_iload 0 dX1_sendBy_201 rfl ?_
                        refine z_if_eq 223 dX1_sendBy_203 (by decide) (fun c_203_61 => absurd c_203_61 (by decide)) (fun _ => ?_)
                        refine z_aload_n 3 dX1_sendBy_206 rfl ?_
                        refine z_get (C := RX1) (T := TX1) (N := 22) (v := .ref (a 7)) inwX1_sendBy 0 rfl rfl 7 (by decide) (List.mem_of_getElem? (i := 4) rfl) rfl rfl dX1_sendBy_207 ?_
                        refine z_iload 11 dX1_sendBy_210 rfl ?_
                        refine z_zald (v := (u.2 7 (ix (nI k84)))) 5 1 rfl rfl (vp_in_nI (by omega) (by omega)) rfl dX1_sendBy_212 ?_
                        refine z_if_ne 223 dX1_sendBy_213 (by decide) (fun c_213_62 => ?_) (fun c_213_62 => ?_)
                        ·
                          refine z_iconst (v := 0) dX1_sendBy_223 rfl ?_
                          refine z_ior dX1_sendBy_224 ?_
                          refine z_istore (L' := [(7, .int (x84 ||| 0)), (11, .int 1), (10, .int 1), (9, .int 1), (0, .ref h), (1, .int p1), (2, .int p2), (3, .int p3), (4, .int p4), (5, .int p5), (6, .int 1), (8, .int (nI k84))]) dX1_sendBy_225 (by decide) rfl ?_
                          refine z_iinc (v := (nI (k84 + 1))) (L' := [(8, .int (nI (k84 + 1))), (7, .int (x84 ||| 0)), (11, .int 1), (10, .int 1), (9, .int 1), (0, .ref h), (1, .int p1), (2, .int p2), (3, .int p3), (4, .int p4), (5, .int p5), (6, .int 1)]) 11 dX1_sendBy_227 rfl (nI_1 k84) (by decide) rfl ?_
                          refine z_goto 84 dX1_sendBy_230 (by decide) ?_
                          have hb84 : l_X1_sendBy_84 u p1 p2 p3 p4 p5 (k84 + 1) = (x84 ||| 0) := by
                            show b_X1_sendBy_84 u p1 p2 p3 p4 p5 k84 (l_X1_sendBy_84 u p1 p2 p3 p4 p5 k84) = _
                            rw [← hx84, b_X1_sendBy_84, if_pos c_105_17, if_pos c_127_38, if_pos c_138_51, if_neg c_213_62]
                          refine z_sub (L' := [(0, .ref h), (1, .int p1), (2, .int p2), (3, .int p3), (4, .int p4), (5, .int p5), (6, .int 1), (7, .int (x84 ||| 0)), (8, .int (nI (k84 + 1)))]) [5, 6, 7, 8, 9, 10, 11, 1, 0] rfl ?_
                          have ih2 := ih84 (k84 + 1) (by omega)
                          rw [hb84] at ih2
                          exact ih2
                        ·
                          refine z_iconst (v := 1) dX1_sendBy_216 rfl ?_
                          refine z_iload 11 dX1_sendBy_217 rfl ?_
                          refine z_ishl dX1_sendBy_219 ?_
                          refine z_goto 224 dX1_sendBy_220 (by decide) ?_
                          refine z_ior dX1_sendBy_224 ?_
                          refine z_istore (L' := [(7, .int (x84 ||| (1 <<< ((nI k84) &&& 31)))), (11, .int 1), (10, .int 1), (9, .int 1), (0, .ref h), (1, .int p1), (2, .int p2), (3, .int p3), (4, .int p4), (5, .int p5), (6, .int 1), (8, .int (nI k84))]) dX1_sendBy_225 (by decide) rfl ?_
                          refine z_iinc (v := (nI (k84 + 1))) (L' := [(8, .int (nI (k84 + 1))), (7, .int (x84 ||| (1 <<< ((nI k84) &&& 31)))), (11, .int 1), (10, .int 1), (9, .int 1), (0, .ref h), (1, .int p1), (2, .int p2), (3, .int p3), (4, .int p4), (5, .int p5), (6, .int 1)]) 11 dX1_sendBy_227 rfl (nI_1 k84) (by decide) rfl ?_
                          refine z_goto 84 dX1_sendBy_230 (by decide) ?_
                          have hb84 : l_X1_sendBy_84 u p1 p2 p3 p4 p5 (k84 + 1) = (x84 ||| (1 <<< ((nI k84) &&& 31))) := by
                            show b_X1_sendBy_84 u p1 p2 p3 p4 p5 k84 (l_X1_sendBy_84 u p1 p2 p3 p4 p5 k84) = _
                            rw [← hx84, b_X1_sendBy_84, if_pos c_105_17, if_pos c_127_38, if_pos c_138_51, if_pos c_213_62]
                          refine z_sub (L' := [(0, .ref h), (1, .int p1), (2, .int p2), (3, .int p3), (4, .int p4), (5, .int p5), (6, .int 1), (7, .int (x84 ||| (1 <<< ((nI k84) &&& 31)))), (8, .int (nI (k84 + 1)))]) [5, 6, 7, 8, 9, 10, 11, 1, 0] rfl ?_
                          have ih2 := ih84 (k84 + 1) (by omega)
                          rw [hb84] at ih2
                          exact ih2
            exact hloop84 nd 0 (by omega)
          ·
            refine z_iconst (v := 2) dX1_sendBy_65 rfl ?_
            refine z_goto 70 dX1_sendBy_66 (by decide) ?_
            refine z_callVi (As := [.int 2]) (st := []) (fun l => c_X1_refused l D cI cZ h a u 2) zGok_TT (fun _ _ _ => trivial) (fun s args hts => cwV 1 hts gX1_sendBy_X1_refused rfl rfl rfl (by decide +kernel) ⟨Nat.le_of_ble_eq_true rfl, Nat.le_of_ble_eq_true rfl⟩) (ci := 1) rfl rfl rfl rfl (Nat.le_of_ble_eq_true rfl) ⟨Nat.le_of_ble_eq_true rfl, Nat.le_of_ble_eq_true rfl⟩ dX1_sendBy_70 rfl (fun r u2 hp => ?_)
            obtain ⟨hp1, hp2⟩ := hp; have hp4 : r = 1 := hp1.trans (by simp [r_X1_refused]); clear hp1; subst hp4; have hp3 : u2 = (pF u 0 2) := hp2; clear hp2; subst hp3
            refine z_if_eq 78 dX1_sendBy_73 (by decide) (fun c_73_63 => absurd c_73_63 (by decide)) (fun _ => ?_)
            refine z_iconst (v := 0) dX1_sendBy_76 rfl ?_
            exact hret _ (pF u 0 2) _ _ _ dX1_sendBy_77 ⟨(by rw [r_X1_sendBy, hixnd, if_neg c_6_0, if_neg c_15_3, if_neg c_24_6, if_neg c_36_9, if_pos c_62_13]), (by rw [s_X1_sendBy, hixnd, if_neg c_6_0, if_neg c_15_3, if_neg c_24_6, if_neg c_36_9, if_pos c_62_13])⟩ rfl
