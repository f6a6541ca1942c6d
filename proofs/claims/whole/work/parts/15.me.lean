set_option maxHeartbeats 4000000 in
set_option maxRecDepth 100000 in
theorem c_X1_countWaiting (l : Launch) (D : va_G) (cI cZ : ClassId) (h : Nat) (a : Nat → Nat) (u : SX) (p1 : Int32) (nn : Nat) (hnn : u.1 13 = nI nn) (hn : nn ≤ 120) : zMi l yX1_countWaiting wsX1_countWaiting ({ frames := 0, cells := 0, slots := 0, locals := 0 } : Room) zTT D [(cI, .int), (cZ, .boolean)] (wX1 cI cZ h a u) [.ref h, .int p1] (fun (r : Int32) (_ : Unit) => r = r_X1_countWaiting u p1) (fun _ => (wX1 cI cZ h a u)) 0 0 := by
  refine z_startI (cc := cX1_countWaiting) (n := 4) (own := RX1) (L0 := [(0, .ref h), (1, .int p1)]) (plainFor_of_name (by decide)) rfl rfl (Nat.le_of_ble_eq_true rfl) rfl (fun E hret => ?_)
  have hixnn : ix (u.1 13) = nn := by rw [hnn]; exact nI_clamp (by omega)
  refine z_iconst (v := 0) dX1_countWaiting_0 rfl ?_
  refine z_istore_n (L' := [(2, .int 0), (0, .ref h), (1, .int p1)]) dX1_countWaiting_1 (by decide) rfl ?_
  refine z_iconst (v := 0) dX1_countWaiting_2 rfl ?_
  refine z_istore_n (L' := [(3, .int 0), (2, .int 0), (0, .ref h), (1, .int p1)]) dX1_countWaiting_3 (by decide) rfl ?_
  refine z_sub (L' := [(0, .ref h), (1, .int p1), (2, .int 0), (3, .int 0)]) [2, 3, 1, 0] rfl ?_
  have hloop4 : ∀ r k4 : Nat, k4 + r = nn → ZW E zTT ({ frames := 0, cells := 0, slots := 0, locals := 0 } : Room) cX1_countWaiting RX1 wsX1_countWaiting 4 D [(cI, .int), (cZ, .boolean)] 0 0 (wX1 cI cZ h a u) 4 [(0, .ref h), (1, .int p1), (2, .int (l_X1_countWaiting_4 u p1 k4)), (3, .int (nI k4))] [] := by
    intro r
    induction r with
    | zero =>
      intro k4 hk4
      have hkN4 : nn = k4 := by omega
      subst hkN4
      refine z_iload_n 3 dX1_countWaiting_4 rfl ?_
      refine z_aload_n 0 dX1_countWaiting_5 rfl ?_
      refine z_get (C := RX1) (T := TX1) (N := 22) (v := .int (u.1 13)) inwX1_countWaiting 0 rfl rfl 13 (by decide) (List.mem_of_getElem? (i := 1) rfl) rfl rfl dX1_countWaiting_6 ?_
      refine z_icmp_ge 31 dX1_countWaiting_9 (by decide) (fun c_9_1 => ?_) (fun c_9_1 => ?_)
      ·
        refine z_iload_n 2 dX1_countWaiting_31 rfl ?_
        exact hret _ () _ _ _ dX1_countWaiting_32 (by rw [r_X1_countWaiting, hixnn]) rfl
      · exact absurd (by rw [hnn]; exact nI_le (Nat.le_refl _) (by omega)) c_9_1
    | succ r ih4 =>
      intro k4 hk4
      obtain ⟨x4, hx4⟩ : ∃ x, x = l_X1_countWaiting_4 u p1 k4 := ⟨_, rfl⟩
      rw [← hx4]
      refine z_iload_n 3 dX1_countWaiting_4 rfl ?_
      refine z_aload_n 0 dX1_countWaiting_5 rfl ?_
      refine z_get (C := RX1) (T := TX1) (N := 22) (v := .int (u.1 13)) inwX1_countWaiting 0 rfl rfl 13 (by decide) (List.mem_of_getElem? (i := 1) rfl) rfl rfl dX1_countWaiting_6 ?_
      refine z_icmp_ge 31 dX1_countWaiting_9 (by decide) (fun c_9_0 => ?_) (fun c_9_0 => ?_)
      · exact absurd c_9_0 (by rw [hnn]; exact nI_ge (by omega) (by omega))
      ·
        refine z_iload_n 2 dX1_countWaiting_12 rfl ?_
        refine z_aload_n 0 dX1_countWaiting_13 rfl ?_
        refine z_get (C := RX1) (T := TX1) (N := 22) (v := .ref (a 19)) inwX1_countWaiting 0 rfl rfl 19 (by decide) (List.mem_of_getElem? (i := 2) rfl) rfl rfl dX1_countWaiting_14 ?_
        refine z_iload_n 3 dX1_countWaiting_17 rfl ?_
        refine z_iald (v := (u.2 19 (ix (nI k4)))) 16 0 rfl rfl (vp_in_nI (by omega) (by omega)) rfl dX1_countWaiting_18 ?_
        refine z_iload_n 1 dX1_countWaiting_19 rfl ?_
        refine z_ishr dX1_countWaiting_20 ?_
        refine z_iconst (v := 1) dX1_countWaiting_21 rfl ?_
        refine z_iand dX1_countWaiting_22 ?_
        refine z_iadd dX1_countWaiting_23 ?_
        refine z_istore_n (L' := [(2, .int (x4 + (((u.2 19 (ix (nI k4))) >>> (p1 &&& 31)) &&& 1))), (0, .ref h), (1, .int p1), (3, .int (nI k4))]) dX1_countWaiting_24 (by decide) rfl ?_
        refine z_iinc (v := (nI (k4 + 1))) (L' := [(3, .int (nI (k4 + 1))), (2, .int (x4 + (((u.2 19 (ix (nI k4))) >>> (p1 &&& 31)) &&& 1))), (0, .ref h), (1, .int p1)]) 3 dX1_countWaiting_25 rfl (nI_1 k4) (by decide) rfl ?_
        refine z_goto 4 dX1_countWaiting_28 (by decide) ?_
        have hb4 : l_X1_countWaiting_4 u p1 (k4 + 1) = (x4 + (((u.2 19 (ix (nI k4))) >>> (p1 &&& 31)) &&& 1)) := by
          show b_X1_countWaiting_4 u p1 k4 (l_X1_countWaiting_4 u p1 k4) = _
          rw [← hx4, b_X1_countWaiting_4]
        refine z_sub (L' := [(0, .ref h), (1, .int p1), (2, .int (x4 + (((u.2 19 (ix (nI k4))) >>> (p1 &&& 31)) &&& 1))), (3, .int (nI (k4 + 1)))]) [2, 3, 1, 0] rfl ?_
        have ih2 := ih4 (k4 + 1) (by omega)
        rw [hb4] at ih2
        exact ih2
  exact hloop4 nn 0 (by omega)
set_option maxHeartbeats 4000000 in
set_option maxRecDepth 100000 in
theorem c_X1_kill (l : Launch) (D : va_G) (cI cZ : ClassId) (h : Nat) (a : Nat → Nat) (u : SX) (p1 : Int32) (nd : Nat) (hnd : u.1 2 = nI nd) (hd : nd ≤ 16) (nn : Nat) (hnn : u.1 13 = nI nn) (hn : nn ≤ 120) : zMi l yX1_kill wsX1_kill ({ frames := 2, cells := 0, slots := 0, locals := 43 } : Room) zTT D [(cI, .int), (cZ, .boolean)] (wX1 cI cZ h a u) [.ref h, .int p1] (fun (r : Int32) (u2 : SX) => r = r_X1_kill u p1 ∧ u2 = s_X1_kill u p1) (fun u2 => (wX1 cI cZ h a u2)) 0 0 := by
  refine z_startI (cc := cX1_kill) (n := 4) (own := RX1) (L0 := [(0, .ref h), (1, .int p1)]) (plainFor_of_name (by decide)) rfl rfl (Nat.le_of_ble_eq_true rfl) rfl (fun E hret => ?_)
  have hixnn : ix (u.1 13) = nn := by rw [hnn]; exact nI_clamp (by omega)
  have hixnd : ix (u.1 2) = nd := by rw [hnd]; exact nI_clamp (by omega)
  refine z_aload_n 0 dX1_kill_0 rfl ?_
  refine z_aload_n 0 dX1_kill_1 rfl ?_
  refine z_iload_n 1 dX1_kill_2 rfl ?_
  refine z_callVi (As := [.int p1]) (st := [.ref h]) (fun l => c_X1_isDevice l D cI cZ h a u p1) zGok_TT (fun _ _ _ => trivial) (fun s args hts => cwV 1 hts gX1_kill_X1_isDevice rfl rfl rfl (by decide +kernel) ⟨Nat.le_of_ble_eq_true rfl, Nat.le_of_ble_eq_true rfl⟩) (ci := 1) rfl rfl rfl rfl (Nat.le_of_ble_eq_true rfl) ⟨Nat.le_of_ble_eq_true rfl, Nat.le_of_ble_eq_true rfl⟩ dX1_kill_3 rfl (fun r u2 hp => ?_)
  subst hp
  refine z_if_ne 13 dX1_kill_6 (by decide) (fun c_6_0 => ?_) (fun c_6_0 => ?_)
  ·
    refine z_aload_n 0 dX1_kill_13 rfl ?_
    refine z_get (C := RX1) (T := TX1) (N := 22) (v := .ref (a 7)) inwX1_kill 0 rfl rfl 7 (by decide) (List.mem_of_getElem? (i := 1) rfl) rfl rfl dX1_kill_14 ?_
    refine z_iload_n 1 dX1_kill_17 rfl ?_
    refine z_zald (v := (u.2 7 (ix p1))) 5 1 rfl rfl (by first | (with_reducible assumption) | with_reducible exact vp_in_nI (by omega) (by omega) | with_reducible exact zmdev hnd hd (by assumption) | with_reducible exact zmnot hnn hn (by assumption) | exact hnd | exact hnn | assumption | decide) rfl dX1_kill_18 ?_
    refine z_if_eq 26 dX1_kill_19 (by decide) (fun c_19_1 => ?_) (fun c_19_1 => ?_)
    ·
      refine z_iconst (v := 0) dX1_kill_26 rfl ?_
      refine z_callVi (As := [.int 0]) (st := []) (fun l => c_X1_refused l D cI cZ h a u 0) zGok_TT (fun _ _ _ => trivial) (fun s args hts => cwV 1 hts gX1_kill_X1_refused rfl rfl rfl (by decide +kernel) ⟨Nat.le_of_ble_eq_true rfl, Nat.le_of_ble_eq_true rfl⟩) (ci := 1) rfl rfl rfl rfl (Nat.le_of_ble_eq_true rfl) ⟨Nat.le_of_ble_eq_true rfl, Nat.le_of_ble_eq_true rfl⟩ dX1_kill_27 rfl (fun r u2 hp => ?_)
      obtain ⟨hp1, hp2⟩ := hp; have hp4 : r = 0 := hp1.trans (by simp [r_X1_refused]); clear hp1; subst hp4; have hp3 : u2 = (pF u 0 0) := hp2; clear hp2; subst hp3
      refine z_if_eq 35 dX1_kill_30 (by decide) (fun _ => ?_) (fun c_30_2 => absurd c_30_2 (by decide))
      refine z_aload_n 0 dX1_kill_35 rfl ?_
      refine z_iload_n 1 dX1_kill_36 rfl ?_
      refine z_callVi (As := [.int p1]) (st := []) (fun l => c_X1_countWaiting l D cI cZ h a (pF u 0 0) p1 nn (by first | (with_reducible assumption) | with_reducible exact vp_in_nI (by omega) (by omega) | with_reducible exact zmdev hnd hd (by assumption) | with_reducible exact zmnot hnn hn (by assumption) | exact hnd | exact hnn | assumption | decide) (by first | (with_reducible assumption) | with_reducible exact vp_in_nI (by omega) (by omega) | with_reducible exact zmdev hnd hd (by assumption) | with_reducible exact zmnot hnn hn (by assumption) | exact hnd | exact hnn | assumption | decide)) zGok_TT (fun _ _ _ => trivial) (fun s args hts => cwV 1 hts gX1_kill_X1_countWaiting rfl rfl rfl (by decide +kernel) ⟨Nat.le_of_ble_eq_true rfl, Nat.le_of_ble_eq_true rfl⟩) (ci := 1) rfl rfl rfl rfl (Nat.le_of_ble_eq_true rfl) ⟨Nat.le_of_ble_eq_true rfl, Nat.le_of_ble_eq_true rfl⟩ dX1_kill_37 rfl (fun r u2 hp => ?_)
      subst hp
      refine z_istore_n (L' := [(2, .int (r_X1_countWaiting (pF u 0 0) p1)), (0, .ref h), (1, .int p1)]) dX1_kill_40 (by decide) rfl ?_
      refine z_aload_n 1 dX1_kill_41 rfl ?_
      refine z_get (C := RX1) (T := TX1) (N := 22) (v := .ref (a 7)) inwX1_kill 0 rfl rfl 7 (by decide) (List.mem_of_getElem? (i := 1) rfl) rfl rfl dX1_kill_42 ?_
      refine z_iload_n 2 dX1_kill_45 rfl ?_
      refine z_iconst (v := 1) dX1_kill_46 rfl ?_
      refine z_zast (w' := (wX1 cI cZ h a (pG (pF u 0 0) 7 (ix p1) (vp_nar .boolean 1)))) 5 1 rfl rfl (by first | (with_reducible assumption) | with_reducible exact vp_in_nI (by omega) (by omega) | with_reducible exact zmdev hnd hd (by assumption) | with_reducible exact zmnot hnn hn (by assumption) | exact hnd | exact hnn | assumption | decide) (wX1_g7 _ _ _ _ _ _ _) dX1_kill_47 ?_
      refine z_iconst (v := 0) dX1_kill_48 rfl ?_
      refine z_istore_n (L' := [(3, .int 0), (2, .int (r_X1_countWaiting (pF u 0 0) p1)), (0, .ref h), (1, .int p1)]) dX1_kill_49 (by decide) rfl ?_
      refine z_sub (L' := [(0, .ref h), (1, .int p1), (2, .int (r_X1_countWaiting (pF u 0 0) p1)), (3, .int 0)]) [2, 3, 1, 0] rfl ?_
      have hloop50 : ∀ r k50 : Nat, k50 + r = nn → ZW E zTT ({ frames := 2, cells := 0, slots := 0, locals := 43 } : Room) cX1_kill RX1 wsX1_kill 4 D [(cI, .int), (cZ, .boolean)] 0 0 (wX1 cI cZ h a (l_X1_kill_50 u p1 k50)) 50 [(0, .ref h), (1, .int p1), (2, .int (r_X1_countWaiting (pF u 0 0) p1)), (3, .int (nI k50))] [] := by
        intro r
        induction r with
        | zero =>
          intro k50 hk50
          have hkN50 : nn = k50 := by omega
          subst hkN50
          have hbx : ((l_X1_kill_50 u p1 nn).1 13) = nI nn := by first | (rw [hx50, lf_X1_kill_50]; exact hnn) | (rw [lf_X1_kill_50]; exact hnn)
          refine z_iload_n 3 dX1_kill_50 rfl ?_
          refine z_aload_n 0 dX1_kill_51 rfl ?_
          refine z_get (C := RX1) (T := TX1) (N := 22) (v := .int ((l_X1_kill_50 u p1 nn).1 13)) inwX1_kill 0 rfl rfl 13 (by decide) (List.mem_of_getElem? (i := 2) rfl) rfl rfl dX1_kill_52 ?_
          refine z_icmp_ge 78 dX1_kill_55 (by decide) (fun c_55_4 => ?_) (fun c_55_4 => ?_)
          ·
            refine z_iload_n 2 dX1_kill_78 rfl ?_
            exact hret _ (l_X1_kill_50 u p1 nn) _ _ _ dX1_kill_79 ⟨(by rw [r_X1_kill, if_neg c_6_0, if_pos c_19_1]), (by rw [s_X1_kill, hixnn, if_neg c_6_0, if_pos c_19_1])⟩ rfl
          · exact absurd (by rw [hbx]; exact nI_le (Nat.le_refl _) (by omega)) c_55_4
        | succ r ih50 =>
          intro k50 hk50
          obtain ⟨x50, hx50⟩ : ∃ x, x = l_X1_kill_50 u p1 k50 := ⟨_, rfl⟩
          rw [← hx50]
          have hbx : (x50.1 13) = nI nn := by first | (rw [hx50, lf_X1_kill_50]; exact hnn) | (rw [lf_X1_kill_50]; exact hnn)
          refine z_iload_n 3 dX1_kill_50 rfl ?_
          refine z_aload_n 0 dX1_kill_51 rfl ?_
          refine z_get (C := RX1) (T := TX1) (N := 22) (v := .int (x50.1 13)) inwX1_kill 0 rfl rfl 13 (by decide) (List.mem_of_getElem? (i := 2) rfl) rfl rfl dX1_kill_52 ?_
          refine z_icmp_ge 78 dX1_kill_55 (by decide) (fun c_55_3 => ?_) (fun c_55_3 => ?_)
          · exact absurd c_55_3 (by rw [hbx]; exact nI_ge (by omega) (by omega))
          ·
            refine z_aload_n 0 dX1_kill_58 rfl ?_
            refine z_get (C := RX1) (T := TX1) (N := 22) (v := .ref (a 19)) inwX1_kill 0 rfl rfl 19 (by decide) (List.mem_of_getElem? (i := 3) rfl) rfl rfl dX1_kill_59 ?_
            refine z_iload_n 3 dX1_kill_62 rfl ?_
            refine z_dup2 dX1_kill_63 rfl rfl ?_
            refine z_iald (v := (x50.2 19 (ix (nI k50)))) 16 0 rfl rfl (vp_in_nI (by omega) (by omega)) rfl dX1_kill_64 ?_
            refine z_iconst (v := 1) dX1_kill_65 rfl ?_
            refine z_iload_n 1 dX1_kill_66 rfl ?_
            refine z_ishl dX1_kill_67 ?_
            refine z_iconst (v := (-1)) dX1_kill_68 rfl ?_
            refine z_ixor dX1_kill_69 ?_
            refine z_iand dX1_kill_70 ?_
            refine z_iast (w' := (wX1 cI cZ h a (pG x50 19 (ix (nI k50)) ((x50.2 19 (ix (nI k50))) &&& ((1 <<< (p1 &&& 31)) ^^^ (-1)))))) 16 0 rfl rfl (vp_in_nI (by omega) (by omega)) (wX1_g19 _ _ _ _ _ _ _) dX1_kill_71 ?_
            refine z_iinc (v := (nI (k50 + 1))) (L' := [(3, .int (nI (k50 + 1))), (0, .ref h), (1, .int p1), (2, .int (r_X1_countWaiting (pF u 0 0) p1))]) 3 dX1_kill_72 rfl (nI_1 k50) (by decide) rfl ?_
            refine z_goto 50 dX1_kill_75 (by decide) ?_
            have hb50 : l_X1_kill_50 u p1 (k50 + 1) = (pG x50 19 (ix (nI k50)) ((x50.2 19 (ix (nI k50))) &&& ((1 <<< (p1 &&& 31)) ^^^ (-1)))) := by
              show b_X1_kill_50 u p1 k50 (l_X1_kill_50 u p1 k50) = _
              rw [← hx50, b_X1_kill_50]
            refine z_sub (L' := [(0, .ref h), (1, .int p1), (2, .int (r_X1_countWaiting (pF u 0 0) p1)), (3, .int (nI (k50 + 1)))]) [1, 2, 3, 0] rfl ?_
            have ih2 := ih50 (k50 + 1) (by omega)
            rw [hb50] at ih2
            exact ih2
      exact hloop50 nn 0 (by omega)
    ·
      refine z_iconst (v := 2) dX1_kill_22 rfl ?_
      refine z_goto 27 dX1_kill_23 (by decide) ?_
      refine z_callVi (As := [.int 2]) (st := []) (fun l => c_X1_refused l D cI cZ h a u 2) zGok_TT (fun _ _ _ => trivial) (fun s args hts => cwV 1 hts gX1_kill_X1_refused rfl rfl rfl (by decide +kernel) ⟨Nat.le_of_ble_eq_true rfl, Nat.le_of_ble_eq_true rfl⟩) (ci := 1) rfl rfl rfl rfl (Nat.le_of_ble_eq_true rfl) ⟨Nat.le_of_ble_eq_true rfl, Nat.le_of_ble_eq_true rfl⟩ dX1_kill_27 rfl (fun r u2 hp => ?_)
      obtain ⟨hp1, hp2⟩ := hp; have hp4 : r = 1 := hp1.trans (by simp [r_X1_refused]); clear hp1; subst hp4; have hp3 : u2 = (pF u 0 2) := hp2; clear hp2; subst hp3
      refine z_if_eq 35 dX1_kill_30 (by decide) (fun c_30_5 => absurd c_30_5 (by decide)) (fun _ => ?_)
      refine z_iconst (v := 0) dX1_kill_33 rfl ?_
      exact hret _ (pF u 0 2) _ _ _ dX1_kill_34 ⟨(by rw [r_X1_kill, if_neg c_6_0, if_neg c_19_1]), (by rw [s_X1_kill, hixnn, if_neg c_6_0, if_neg c_19_1])⟩ rfl
  ·
    refine z_iconst (v := 1) dX1_kill_9 rfl ?_
    refine z_goto 27 dX1_kill_10 (by decide) ?_
    refine z_callVi (As := [.int 1]) (st := []) (fun l => c_X1_refused l D cI cZ h a u 1) zGok_TT (fun _ _ _ => trivial) (fun s args hts => cwV 1 hts gX1_kill_X1_refused rfl rfl rfl (by decide +kernel) ⟨Nat.le_of_ble_eq_true rfl, Nat.le_of_ble_eq_true rfl⟩) (ci := 1) rfl rfl rfl rfl (Nat.le_of_ble_eq_true rfl) ⟨Nat.le_of_ble_eq_true rfl, Nat.le_of_ble_eq_true rfl⟩ dX1_kill_27 rfl (fun r u2 hp => ?_)
    obtain ⟨hp1, hp2⟩ := hp; have hp4 : r = 1 := hp1.trans (by simp [r_X1_refused]); clear hp1; subst hp4; have hp3 : u2 = (pF u 0 1) := hp2; clear hp2; subst hp3
    refine z_if_eq 35 dX1_kill_30 (by decide) (fun c_30_6 => absurd c_30_6 (by decide)) (fun _ => ?_)
    refine z_iconst (v := 0) dX1_kill_33 rfl ?_
    exact hret _ (pF u 0 1) _ _ _ dX1_kill_34 ⟨(by rw [r_X1_kill, if_pos c_6_0]), (by rw [s_X1_kill, hixnn, if_pos c_6_0])⟩ rfl
set_option maxHeartbeats 4000000 in
set_option maxRecDepth 100000 in
theorem c_X1_devices (l : Launch) (D : va_G) (cI cZ : ClassId) (h : Nat) (a : Nat → Nat) (u : SX)   : zMi l yX1_devices wsX1_devices ({ frames := 1, cells := 0, slots := 0, locals := 21 } : Room) zTT D [(cI, .int), (cZ, .boolean)] (wX1 cI cZ h a u) [.ref h] (fun (r : Int32) (u2 : SX) => r = r_X1_devices u ∧ u2 = s_X1_devices u) (fun u2 => (wX1 cI cZ h a u2)) 0 0 := by
  refine z_startI (cc := cX1_devices) (n := 1) (own := RX1) (L0 := [(0, .ref h)]) (plainFor_of_name (by decide)) rfl rfl (Nat.le_of_ble_eq_true rfl) rfl (fun E hret => ?_)
  refine z_aload_n 0 dX1_devices_0 rfl ?_
  refine z_aload_n 0 dX1_devices_1 rfl ?_
  refine z_get (C := RX1) (T := TX1) (N := 22) (v := .int (u.1 2)) inwX1_devices 0 rfl rfl 2 (by decide) (List.mem_of_getElem? (i := 1) rfl) rfl rfl dX1_devices_2 ?_
  refine z_callVi (As := [.int (u.1 2)]) (st := []) (fun l => c_X1_fine l D cI cZ h a u (u.1 2)) zGok_TT (fun _ _ _ => trivial) (fun s args hts => cwV 1 hts gX1_devices_X1_fine rfl rfl rfl (by decide +kernel) ⟨Nat.le_of_ble_eq_true rfl, Nat.le_of_ble_eq_true rfl⟩) (ci := 1) rfl rfl rfl rfl (Nat.le_of_ble_eq_true rfl) ⟨Nat.le_of_ble_eq_true rfl, Nat.le_of_ble_eq_true rfl⟩ dX1_devices_5 rfl (fun r u2 hp => ?_)
  obtain ⟨rfl, hp2⟩ := hp; have hp3 : u2 = (pF u 0 0) := hp2; clear hp2; subst hp3
  exact hret _ (pF u 0 0) _ _ _ dX1_devices_8 ⟨(by rw [r_X1_devices]), (by rw [s_X1_devices])⟩ rfl
set_option maxHeartbeats 4000000 in
set_option maxRecDepth 100000 in
theorem c_X1_isQuiet (l : Launch) (D : va_G) (cI cZ : ClassId) (h : Nat) (a : Nat → Nat) (u : SX) (p1 : Int32) (nd : Nat) (hnd : u.1 2 = nI nd) (hd : nd ≤ 16) : zMi l yX1_isQuiet wsX1_isQuiet ({ frames := 2, cells := 0, slots := 0, locals := 43 } : Room) zTT D [(cI, .int), (cZ, .boolean)] (wX1 cI cZ h a u) [.ref h, .int p1] (fun (r : Int32) (u2 : SX) => r = r_X1_isQuiet u p1 ∧ u2 = s_X1_isQuiet u p1) (fun u2 => (wX1 cI cZ h a u2)) 0 0 := by
  refine z_startZ (cc := cX1_isQuiet) (n := 2) (own := RX1) (L0 := [(0, .ref h), (1, .int p1)]) (plainFor_of_name (by decide)) rfl rfl (Nat.le_of_ble_eq_true rfl) rfl (fun E hret => ?_)
  have hixnd : ix (u.1 2) = nd := by rw [hnd]; exact nI_clamp (by omega)
  refine z_aload_n 0 dX1_isQuiet_0 rfl ?_
  refine z_aload_n 0 dX1_isQuiet_1 rfl ?_
  refine z_iload_n 1 dX1_isQuiet_2 rfl ?_
  refine z_callVi (As := [.int p1]) (st := [.ref h]) (fun l => c_X1_isDevice l D cI cZ h a u p1) zGok_TT (fun _ _ _ => trivial) (fun s args hts => cwV 1 hts gX1_isQuiet_X1_isDevice rfl rfl rfl (by decide +kernel) ⟨Nat.le_of_ble_eq_true rfl, Nat.le_of_ble_eq_true rfl⟩) (ci := 1) rfl rfl rfl rfl (Nat.le_of_ble_eq_true rfl) ⟨Nat.le_of_ble_eq_true rfl, Nat.le_of_ble_eq_true rfl⟩ dX1_isQuiet_3 rfl (fun r u2 hp => ?_)
  subst hp
  refine z_if_eq 13 dX1_isQuiet_6 (by decide) (fun c_6_0 => ?_) (fun c_6_0 => ?_)
  ·
    refine z_iconst (v := 1) dX1_isQuiet_13 rfl ?_
    refine z_callVi (As := [.int 1]) (st := []) (fun l => c_X1_refused l D cI cZ h a u 1) zGok_TT (fun _ _ _ => trivial) (fun s args hts => cwV 1 hts gX1_isQuiet_X1_refused rfl rfl rfl (by decide +kernel) ⟨Nat.le_of_ble_eq_true rfl, Nat.le_of_ble_eq_true rfl⟩) (ci := 1) rfl rfl rfl rfl (Nat.le_of_ble_eq_true rfl) ⟨Nat.le_of_ble_eq_true rfl, Nat.le_of_ble_eq_true rfl⟩ dX1_isQuiet_14 rfl (fun r u2 hp => ?_)
    obtain ⟨hp1, hp2⟩ := hp; have hp4 : r = 1 := hp1.trans (by simp [r_X1_refused]); clear hp1; subst hp4; have hp3 : u2 = (pF u 0 1) := hp2; clear hp2; subst hp3
    refine z_if_ne 32 dX1_isQuiet_17 (by decide) (fun _ => ?_) (fun c_17_1 => absurd c_17_1 (by decide))
    refine z_iconst (v := 0) dX1_isQuiet_32 rfl ?_
    exact hret _ (pF u 0 1) _ _ _ dX1_isQuiet_33 ⟨(by rw [r_X1_isQuiet, if_pos c_6_0]), (by rw [s_X1_isQuiet, if_pos c_6_0])⟩ rfl rfl
  ·
    refine z_iconst (v := 0) dX1_isQuiet_9 rfl ?_
    refine z_goto 14 dX1_isQuiet_10 (by decide) ?_
    refine z_callVi (As := [.int 0]) (st := []) (fun l => c_X1_refused l D cI cZ h a u 0) zGok_TT (fun _ _ _ => trivial) (fun s args hts => cwV 1 hts gX1_isQuiet_X1_refused rfl rfl rfl (by decide +kernel) ⟨Nat.le_of_ble_eq_true rfl, Nat.le_of_ble_eq_true rfl⟩) (ci := 1) rfl rfl rfl rfl (Nat.le_of_ble_eq_true rfl) ⟨Nat.le_of_ble_eq_true rfl, Nat.le_of_ble_eq_true rfl⟩ dX1_isQuiet_14 rfl (fun r u2 hp => ?_)
    obtain ⟨hp1, hp2⟩ := hp; have hp4 : r = 0 := hp1.trans (by simp [r_X1_refused]); clear hp1; subst hp4; have hp3 : u2 = (pF u 0 0) := hp2; clear hp2; subst hp3
    refine z_if_ne 32 dX1_isQuiet_17 (by decide) (fun c_17_2 => absurd c_17_2 (by decide)) (fun _ => ?_)
    refine z_aload_n 0 dX1_isQuiet_20 rfl ?_
    refine z_iload_n 1 dX1_isQuiet_21 rfl ?_
    refine z_callVi (As := [.int p1]) (st := []) (fun l => c_X1_isQuietNow l D cI cZ h a (pF u 0 0) p1 (by first | (with_reducible assumption) | with_reducible exact zmdev hnd hd (by assumption) | exact hnd | assumption | decide)) zGok_TT (fun _ _ _ => trivial) (fun s args hts => cwV 1 hts gX1_isQuiet_X1_isQuietNow rfl rfl rfl (by decide +kernel) ⟨Nat.le_of_ble_eq_true rfl, Nat.le_of_ble_eq_true rfl⟩) (ci := 1) rfl rfl rfl rfl (Nat.le_of_ble_eq_true rfl) ⟨Nat.le_of_ble_eq_true rfl, Nat.le_of_ble_eq_true rfl⟩ dX1_isQuiet_22 rfl (fun r u2 hp => ?_)
    subst hp
    refine z_if_eq 32 dX1_isQuiet_25 (by decide) (fun c_25_3 => ?_) (fun c_25_3 => ?_)
    ·
      refine z_iconst (v := 0) dX1_isQuiet_32 rfl ?_
      exact hret _ (pF u 0 0) _ _ _ dX1_isQuiet_33 ⟨(by rw [r_X1_isQuiet, if_neg c_6_0, if_pos c_25_3]), (by rw [s_X1_isQuiet, if_neg c_6_0])⟩ rfl rfl
    ·
      refine z_iconst (v := 1) dX1_isQuiet_28 rfl ?_
      refine z_goto 33 dX1_isQuiet_29 (by decide) ?_
      exact hret _ (pF u 0 0) _ _ _ dX1_isQuiet_33 ⟨(by rw [r_X1_isQuiet, if_neg c_6_0, if_neg c_25_3]), (by rw [s_X1_isQuiet, if_neg c_6_0])⟩ rfl rfl
