set_option maxHeartbeats 4000000 in
set_option maxRecDepth 100000 in
theorem c_X0_kill (l : Launch) (D : va_G) (cI cZ : ClassId) (h : Nat) (a : Nat → Nat) (u : SX) (p1 : Int32) (he : e_X0_kill u p1 = 0) (nd : Nat) (hnd : u.1 10 = nI nd) (hd : nd ≤ 16) (nn : Nat) (hnn : u.1 16 = nI nn) (hn : nn ≤ 120) : zMi l yX0_kill wsX0_kill ({ frames := 3, cells := 0, slots := 0, locals := 65 } : Room) zTT D [(cI, .int), (cZ, .boolean)] (wX0 cI cZ h a u) [.ref h, .int p1] (fun (r : Int32) (u2 : SX) => r = r_X0_kill u p1 ∧ u2 = s_X0_kill u p1) (fun u2 => (wX0 cI cZ h a u2)) 0 0 := by
  refine z_startI (cc := cX0_kill) (n := 4) (own := RX0) (L0 := [(0, .ref h), (1, .int p1)]) (plainFor_of_name (by decide)) rfl rfl (Nat.le_of_ble_eq_true rfl) rfl (fun E hret => ?_)
  have hixnn : ix (u.1 16) = nn := by rw [hnn]; exact nI_clamp (by omega)
  have hixnd : ix (u.1 10) = nd := by rw [hnd]; exact nI_clamp (by omega)
  refine z_aload_n 0 dX0_kill_0 rfl ?_
  refine z_iload_n 1 dX0_kill_1 rfl ?_
  have e_2_0 : (e_X0_requireDevice u p1) = 0 := Decidable.byContradiction (fun hq => by rw [e_X0_kill, if_neg hq] at he; exact hq he)
  refine z_callVv (As := [.int p1]) (st := []) (fun l => c_X0_requireDevice l D cI cZ h a u p1 (by assumption)) zGok_TT (fun _ _ _ => trivial) (fun s args hts => cwV 1 hts gX0_kill_X0_requireDevice rfl rfl rfl (by decide +kernel) ⟨Nat.le_of_ble_eq_true rfl, Nat.le_of_ble_eq_true rfl⟩) (ci := 0) rfl rfl rfl rfl (Nat.le_of_ble_eq_true rfl) ⟨Nat.le_of_ble_eq_true rfl, Nat.le_of_ble_eq_true rfl⟩ dX0_kill_2 rfl (fun u2 hp => ?_)
  clear hp
  refine z_aload_n 0 dX0_kill_5 rfl ?_
  refine z_get (C := RX0) (T := TX0) (N := 19) (v := .int (u.1 2)) inwX0_kill 0 rfl rfl 2 (by decide) (List.mem_of_getElem? (i := 3) rfl) rfl rfl dX0_kill_6 ?_
  refine z_iload_n 1 dX0_kill_9 rfl ?_
  refine z_callSi (As := [.int (u.1 2), .int p1]) (st := []) (fun l => c_X0_has l D _ _ (u.1 2) p1) zGok_TT (fun _ _ _ => trivial) (fun s args hts => va_cwS 2 hts gX0_kill_X0_has rfl rfl rfl (by decide +kernel) ⟨Nat.le_of_ble_eq_true rfl, Nat.le_of_ble_eq_true rfl⟩) rfl (Nat.le_of_ble_eq_true rfl) ⟨Nat.le_of_ble_eq_true rfl, Nat.le_of_ble_eq_true rfl⟩ dX0_kill_10 rfl (fun r u2 hp => ?_)
  subst hp
  refine z_if_ne 26 dX0_kill_13 (by decide) (fun c_13_1 => ?_) (fun c_13_1 => ?_)
  ·
    refine z_aload_n 0 dX0_kill_26 rfl ?_
    refine z_iload_n 1 dX0_kill_27 rfl ?_
    refine z_callVi (As := [.int p1]) (st := []) (fun l => c_X0_countWaiting l D cI cZ h a u p1 nn (by first | (with_reducible assumption) | with_reducible exact vp_in_nI (by omega) (by omega) | with_reducible exact zdev hnd hd (by assumption) | with_reducible exact znot hnn hn (by assumption) | exact hnd | exact hnn | assumption | decide) (by first | (with_reducible assumption) | with_reducible exact vp_in_nI (by omega) (by omega) | with_reducible exact zdev hnd hd (by assumption) | with_reducible exact znot hnn hn (by assumption) | exact hnd | exact hnn | assumption | decide)) zGok_TT (fun _ _ _ => trivial) (fun s args hts => cwV 1 hts gX0_kill_X0_countWaiting rfl rfl rfl (by decide +kernel) ⟨Nat.le_of_ble_eq_true rfl, Nat.le_of_ble_eq_true rfl⟩) (ci := 0) rfl rfl rfl rfl (Nat.le_of_ble_eq_true rfl) ⟨Nat.le_of_ble_eq_true rfl, Nat.le_of_ble_eq_true rfl⟩ dX0_kill_28 rfl (fun r u2 hp => ?_)
    subst hp
    refine z_istore_n (L' := [(2, .int (r_X0_countWaiting u p1)), (0, .ref h), (1, .int p1)]) dX0_kill_31 (by decide) rfl ?_
    refine z_aload_n 1 dX0_kill_32 rfl ?_
    refine z_aload_n 1 dX0_kill_33 rfl ?_
    refine z_get (C := RX0) (T := TX0) (N := 19) (v := .int (u.1 2)) inwX0_kill 0 rfl rfl 2 (by decide) (List.mem_of_getElem? (i := 3) rfl) rfl rfl dX0_kill_34 ?_
    refine z_iload_n 2 dX0_kill_37 rfl ?_
    refine z_iconst (v := 0) dX0_kill_38 rfl ?_
    refine z_callSi (As := [.int (u.1 2), .int p1, .int 0]) (st := [.ref h]) (fun l => c_X0_changed l D _ _ (u.1 2) p1 0) zGok_TT (fun _ _ _ => trivial) (fun s args hts => va_cwS 3 hts gX0_kill_X0_changed rfl rfl rfl (by decide +kernel) ⟨Nat.le_of_ble_eq_true rfl, Nat.le_of_ble_eq_true rfl⟩) rfl (Nat.le_of_ble_eq_true rfl) ⟨Nat.le_of_ble_eq_true rfl, Nat.le_of_ble_eq_true rfl⟩ dX0_kill_39 rfl (fun r u2 hp => ?_)
    subst hp
    refine z_put (C := RX0) (T := TX0) (N := 19) (v := .int (r_X0_changed (u.1 2) p1 0)) (w' := (wX0 cI cZ h a (pF u 2 (r_X0_changed (u.1 2) p1 0)))) inwX0_kill 0 rfl rfl 2 (by decide) (List.mem_of_getElem? (i := 3) rfl) rfl tyX0 tyX0_ok nmX0 rfl rfl rfl (Nat.le_of_ble_eq_true rfl) (wX0_p2 _ _ _ _ _ _) dX0_kill_42 ?_
    refine z_iconst (v := 0) dX0_kill_45 rfl ?_
    refine z_istore_n (L' := [(3, .int 0), (2, .int (r_X0_countWaiting u p1)), (0, .ref h), (1, .int p1)]) dX0_kill_46 (by decide) rfl ?_
    refine z_sub (L' := [(0, .ref h), (1, .int p1), (2, .int (r_X0_countWaiting u p1)), (3, .int 0)]) [2, 3, 1, 0] rfl ?_
    have hloop47 : ∀ r k47 : Nat, k47 + r = nn → ZW E zTT ({ frames := 3, cells := 0, slots := 0, locals := 65 } : Room) cX0_kill RX0 wsX0_kill 4 D [(cI, .int), (cZ, .boolean)] 0 0 (wX0 cI cZ h a (l_X0_kill_47 u p1 k47)) 47 [(0, .ref h), (1, .int p1), (2, .int (r_X0_countWaiting u p1)), (3, .int (nI k47))] [] := by
      intro r
      induction r with
      | zero =>
        intro k47 hk47
        have hkN47 : nn = k47 := by omega
        subst hkN47
        have hbx : ((l_X0_kill_47 u p1 nn).1 16) = nI nn := by first | (rw [hx47, lf_X0_kill_47]; exact hnn) | (rw [lf_X0_kill_47]; exact hnn)
        refine z_iload_n 3 dX0_kill_47 rfl ?_
        refine z_aload_n 0 dX0_kill_48 rfl ?_
        refine z_get (C := RX0) (T := TX0) (N := 19) (v := .int ((l_X0_kill_47 u p1 nn).1 16)) inwX0_kill 0 rfl rfl 16 (by decide) (List.mem_of_getElem? (i := 4) rfl) rfl rfl dX0_kill_49 ?_
        refine z_icmp_ge 78 dX0_kill_52 (by decide) (fun c_52_3 => ?_) (fun c_52_3 => ?_)
        ·
          refine z_iload_n 2 dX0_kill_78 rfl ?_
          exact hret _ (l_X0_kill_47 u p1 nn) _ _ _ dX0_kill_79 ⟨(by rw [r_X0_kill]), (by rw [s_X0_kill, hixnn])⟩ rfl
        · exact absurd (by rw [hbx]; exact nI_le (Nat.le_refl _) (by omega)) c_52_3
      | succ r ih47 =>
        intro k47 hk47
        obtain ⟨x47, hx47⟩ : ∃ x, x = l_X0_kill_47 u p1 k47 := ⟨_, rfl⟩
        rw [← hx47]
        have hbx : (x47.1 16) = nI nn := by first | (rw [hx47, lf_X0_kill_47]; exact hnn) | (rw [lf_X0_kill_47]; exact hnn)
        refine z_iload_n 3 dX0_kill_47 rfl ?_
        refine z_aload_n 0 dX0_kill_48 rfl ?_
        refine z_get (C := RX0) (T := TX0) (N := 19) (v := .int (x47.1 16)) inwX0_kill 0 rfl rfl 16 (by decide) (List.mem_of_getElem? (i := 4) rfl) rfl rfl dX0_kill_49 ?_
        refine z_icmp_ge 78 dX0_kill_52 (by decide) (fun c_52_2 => ?_) (fun c_52_2 => ?_)
        · exact absurd c_52_2 (by rw [hbx]; exact nI_ge (by omega) (by omega))
        ·
          refine z_aload_n 0 dX0_kill_55 rfl ?_
          refine z_get (C := RX0) (T := TX0) (N := 19) (v := .ref (a 13)) inwX0_kill 0 rfl rfl 13 (by decide) (List.mem_of_getElem? (i := 5) rfl) rfl rfl dX0_kill_56 ?_
          refine z_iload_n 3 dX0_kill_59 rfl ?_
          refine z_aload_n 0 dX0_kill_60 rfl ?_
          refine z_get (C := RX0) (T := TX0) (N := 19) (v := .ref (a 13)) inwX0_kill 0 rfl rfl 13 (by decide) (List.mem_of_getElem? (i := 5) rfl) rfl rfl dX0_kill_61 ?_
          refine z_iload_n 3 dX0_kill_64 rfl ?_
          refine z_iald (v := (x47.2 13 (ix (nI k47)))) 10 0 rfl rfl (vp_in_nI (by omega) (by omega)) rfl dX0_kill_65 ?_
          refine z_iload_n 1 dX0_kill_66 rfl ?_
          refine z_iconst (v := 0) dX0_kill_67 rfl ?_
          refine z_callSi (As := [.int (x47.2 13 (ix (nI k47))), .int p1, .int 0]) (st := [.int (nI k47), .ref (a 13)]) (fun l => c_X0_changed l D _ _ (x47.2 13 (ix (nI k47))) p1 0) zGok_TT (fun _ _ _ => trivial) (fun s args hts => va_cwS 3 hts gX0_kill_X0_changed rfl rfl rfl (by decide +kernel) ⟨Nat.le_of_ble_eq_true rfl, Nat.le_of_ble_eq_true rfl⟩) rfl (Nat.le_of_ble_eq_true rfl) ⟨Nat.le_of_ble_eq_true rfl, Nat.le_of_ble_eq_true rfl⟩ dX0_kill_68 rfl (fun r u2 hp => ?_)
          subst hp
          refine z_iast (w' := (wX0 cI cZ h a (pG x47 13 (ix (nI k47)) (r_X0_changed (x47.2 13 (ix (nI k47))) p1 0)))) 10 0 rfl rfl (vp_in_nI (by omega) (by omega)) (wX0_g13 _ _ _ _ _ _ _) dX0_kill_71 ?_
          refine z_iinc (v := (nI (k47 + 1))) (L' := [(3, .int (nI (k47 + 1))), (0, .ref h), (1, .int p1), (2, .int (r_X0_countWaiting u p1))]) 3 dX0_kill_72 rfl (nI_1 k47) (by decide) rfl ?_
          refine z_goto 47 dX0_kill_75 (by decide) ?_
          have hb47 : l_X0_kill_47 u p1 (k47 + 1) = (pG x47 13 (ix (nI k47)) (r_X0_changed (x47.2 13 (ix (nI k47))) p1 0)) := by
            show b_X0_kill_47 u p1 k47 (l_X0_kill_47 u p1 k47) = _
            rw [← hx47, b_X0_kill_47]
          refine z_sub (L' := [(0, .ref h), (1, .int p1), (2, .int (r_X0_countWaiting u p1)), (3, .int (nI (k47 + 1)))]) [1, 2, 3, 0] rfl ?_
          have ih2 := ih47 (k47 + 1) (by omega)
          rw [hb47] at ih2
          exact ih2
    exact hloop47 nn 0 (by omega)
  ·
    exact absurd he (by rw [e_X0_kill, if_pos e_2_0, if_pos c_13_1]; decide)
set_option maxHeartbeats 4000000 in
set_option maxRecDepth 100000 in
theorem t_X0_kill (l : Launch) (hlt : l.stackTraces = false) (D : va_G) (cI cZ : ClassId) (h : Nat) (a : Nat → Nat) (u : SX) (p1 : Int32) (he : e_X0_kill u p1 ≠ 0) (nd : Nat) (hnd : u.1 10 = nI nd) (hd : nd ≤ 16) (nn : Nat) (hnn : u.1 16 = nI nn) (hn : nn ≤ 120) : zMx l yX0_kill wsX0_kill ({ frames := 7, cells := 1, slots := 6, locals := 103 } : Room) D [(cI, .int), (cZ, .boolean)] (wX0 cI cZ h a u) [.ref h, .int p1] (fun E' => E' = zEx (e_X0_kill u p1)) := by
  refine z_startX (cc := cX0_kill) (n := 4) (own := RX0) (L0 := [(0, .ref h), (1, .int p1)]) hlt (by decide) rfl rfl (Nat.le_of_ble_eq_true rfl) rfl ⟨Nat.le_of_ble_eq_true rfl, Nat.le_of_ble_eq_true rfl⟩ (fun E hlt hthr hthrow => ?_)
  refine z_aload_n 0 dX0_kill_0 rfl ?_
  refine z_iload_n 1 dX0_kill_1 rfl ?_
  by_cases e_2_0 : (e_X0_requireDevice u p1) = 0
  ·
    refine z_callVv (As := [.int p1]) (st := []) (fun l => c_X0_requireDevice l D cI cZ h a u p1 (by assumption)) zGok_TT (fun _ _ _ => trivial) (fun s args hts => cwV 1 hts gX0_kill_X0_requireDevice rfl rfl rfl (by decide +kernel) ⟨Nat.le_of_ble_eq_true rfl, Nat.le_of_ble_eq_true rfl⟩) (ci := 0) rfl rfl rfl rfl (Nat.le_of_ble_eq_true rfl) ⟨Nat.le_of_ble_eq_true rfl, Nat.le_of_ble_eq_true rfl⟩ dX0_kill_2 rfl (fun u2 hp => ?_)
    clear hp
    refine z_aload_n 0 dX0_kill_5 rfl ?_
    refine z_get (C := RX0) (T := TX0) (N := 19) (v := .int (u.1 2)) inwX0_kill 0 rfl rfl 2 (by decide) (List.mem_of_getElem? (i := 3) rfl) rfl rfl dX0_kill_6 ?_
    refine z_iload_n 1 dX0_kill_9 rfl ?_
    refine z_callSi (As := [.int (u.1 2), .int p1]) (st := []) (fun l => c_X0_has l D _ _ (u.1 2) p1) zGok_TT (fun _ _ _ => trivial) (fun s args hts => va_cwS 2 hts gX0_kill_X0_has rfl rfl rfl (by decide +kernel) ⟨Nat.le_of_ble_eq_true rfl, Nat.le_of_ble_eq_true rfl⟩) rfl (Nat.le_of_ble_eq_true rfl) ⟨Nat.le_of_ble_eq_true rfl, Nat.le_of_ble_eq_true rfl⟩ dX0_kill_10 rfl (fun r u2 hp => ?_)
    subst hp
    refine z_if_ne 26 dX0_kill_13 (by decide) (fun c_13_1 => ?_) (fun c_13_1 => ?_)
    ·
      exact absurd (by rw [e_X0_kill, if_pos e_2_0, if_neg c_13_1]) he
    ·
      exact hthrow 16 _ "java/lang/IllegalStateException" "the token is dead" 73 100 77 (by decide) (by decide) (by decide +kernel) (List.mem_of_getElem? (i := 1) rfl) (List.mem_of_getElem? (i := 2) rfl) rfl (by decide) (fun w h => List.mem_cons_of_mem _ (by first | exact List.mem_append_right _ h | exact List.mem_append_left _ (List.mem_append_right _ h) | exact List.mem_append_left _ (List.mem_append_left _ (List.mem_append_right _ h)))) (by decide +kernel) (by decide +kernel) dX0_kill_16 dX0_kill_19 dX0_kill_20 dX0_kill_22 dX0_kill_25 (by show _ = zEx _; rw [e_X0_kill, if_pos e_2_0, if_pos c_13_1]; rfl)
  ·
    refine z_callVx (As := [.int p1]) (st := []) hlt (fun l hl => t_X0_requireDevice l hl D cI cZ h a u p1 (by assumption)) (fun s args hts => cwV 1 hts gX0_kill_X0_requireDevice rfl rfl rfl (by decide +kernel) ⟨Nat.le_of_ble_eq_true rfl, Nat.le_of_ble_eq_true rfl⟩) (ci := 0) rfl rfl rfl rfl (Nat.le_of_ble_eq_true rfl) ⟨Nat.le_of_ble_eq_true rfl, Nat.le_of_ble_eq_true rfl⟩ dX0_kill_2 rfl ?_
    exact hthr _ _ _ (fun E' hE => by rw [e_X0_kill, if_neg e_2_0]; exact hE)
set_option maxHeartbeats 4000000 in
set_option maxRecDepth 100000 in
theorem c_X0_devices (l : Launch) (D : va_G) (cI cZ : ClassId) (h : Nat) (a : Nat → Nat) (u : SX)   : zMi l yX0_devices wsX0_devices ({ frames := 0, cells := 0, slots := 0, locals := 0 } : Room) zTT D [(cI, .int), (cZ, .boolean)] (wX0 cI cZ h a u) [.ref h] (fun (r : Int32) (_ : Unit) => r = r_X0_devices u) (fun _ => (wX0 cI cZ h a u)) 0 0 := by
  refine z_startI (cc := cX0_devices) (n := 1) (own := RX0) (L0 := [(0, .ref h)]) (plainFor_of_name (by decide)) rfl rfl (Nat.le_of_ble_eq_true rfl) rfl (fun E hret => ?_)
  refine z_aload_n 0 dX0_devices_0 rfl ?_
  refine z_get (C := RX0) (T := TX0) (N := 19) (v := .int (u.1 10)) inwX0_devices 0 rfl rfl 10 (by decide) (List.mem_of_getElem? (i := 1) rfl) rfl rfl dX0_devices_1 ?_
  exact hret _ () _ _ _ dX0_devices_4 (by rw [r_X0_devices]) rfl
set_option maxHeartbeats 4000000 in
set_option maxRecDepth 100000 in
theorem c_X0_isQuiet (l : Launch) (D : va_G) (cI cZ : ClassId) (h : Nat) (a : Nat → Nat) (u : SX) (p1 : Int32) (he : e_X0_isQuiet u p1 = 0) (nd : Nat) (hnd : u.1 10 = nI nd) (hd : nd ≤ 16) : zMi l yX0_isQuiet wsX0_isQuiet ({ frames := 3, cells := 0, slots := 0, locals := 66 } : Room) zTT D [(cI, .int), (cZ, .boolean)] (wX0 cI cZ h a u) [.ref h, .int p1] (fun (r : Int32) (_ : Unit) => r = r_X0_isQuiet u p1) (fun _ => (wX0 cI cZ h a u)) 0 0 := by
  refine z_startZ (cc := cX0_isQuiet) (n := 2) (own := RX0) (L0 := [(0, .ref h), (1, .int p1)]) (plainFor_of_name (by decide)) rfl rfl (Nat.le_of_ble_eq_true rfl) rfl (fun E hret => ?_)
  have hixnd : ix (u.1 10) = nd := by rw [hnd]; exact nI_clamp (by omega)
  refine z_aload_n 0 dX0_isQuiet_0 rfl ?_
  refine z_iload_n 1 dX0_isQuiet_1 rfl ?_
  have e_2_0 : (e_X0_requireDevice u p1) = 0 := Decidable.byContradiction (fun hq => by rw [e_X0_isQuiet, if_neg hq] at he; exact hq he)
  refine z_callVv (As := [.int p1]) (st := []) (fun l => c_X0_requireDevice l D cI cZ h a u p1 (by assumption)) zGok_TT (fun _ _ _ => trivial) (fun s args hts => cwV 1 hts gX0_isQuiet_X0_requireDevice rfl rfl rfl (by decide +kernel) ⟨Nat.le_of_ble_eq_true rfl, Nat.le_of_ble_eq_true rfl⟩) (ci := 0) rfl rfl rfl rfl (Nat.le_of_ble_eq_true rfl) ⟨Nat.le_of_ble_eq_true rfl, Nat.le_of_ble_eq_true rfl⟩ dX0_isQuiet_2 rfl (fun u2 hp => ?_)
  clear hp
  refine z_aload_n 0 dX0_isQuiet_5 rfl ?_
  refine z_iload_n 1 dX0_isQuiet_6 rfl ?_
  refine z_callVi (As := [.int p1]) (st := []) (fun l => c_X0_isInQuietHours l D cI cZ h a u p1 (by first | (with_reducible assumption) | with_reducible exact zdev hnd hd (by assumption) | exact hnd | assumption | decide)) zGok_TT (fun _ _ _ => trivial) (fun s args hts => cwV 1 hts gX0_isQuiet_X0_isInQuietHours rfl rfl rfl (by decide +kernel) ⟨Nat.le_of_ble_eq_true rfl, Nat.le_of_ble_eq_true rfl⟩) (ci := 0) rfl rfl rfl rfl (Nat.le_of_ble_eq_true rfl) ⟨Nat.le_of_ble_eq_true rfl, Nat.le_of_ble_eq_true rfl⟩ dX0_isQuiet_7 rfl (fun r u2 hp => ?_)
  subst hp
  exact hret _ () _ _ _ dX0_isQuiet_10 (by rw [r_X0_isQuiet]) rfl (znar01 (z01_X0_isInQuietHours _ _))
set_option maxHeartbeats 4000000 in
set_option maxRecDepth 100000 in
theorem t_X0_isQuiet (l : Launch) (hlt : l.stackTraces = false) (D : va_G) (cI cZ : ClassId) (h : Nat) (a : Nat → Nat) (u : SX) (p1 : Int32) (he : e_X0_isQuiet u p1 ≠ 0) (nd : Nat) (hnd : u.1 10 = nI nd) (hd : nd ≤ 16) : zMx l yX0_isQuiet wsX0_isQuiet ({ frames := 7, cells := 1, slots := 6, locals := 103 } : Room) D [(cI, .int), (cZ, .boolean)] (wX0 cI cZ h a u) [.ref h, .int p1] (fun E' => E' = zEx (e_X0_isQuiet u p1)) := by
  refine z_startX (cc := cX0_isQuiet) (n := 2) (own := RX0) (L0 := [(0, .ref h), (1, .int p1)]) hlt (by decide) rfl rfl (Nat.le_of_ble_eq_true rfl) rfl ⟨Nat.le_of_ble_eq_true rfl, Nat.le_of_ble_eq_true rfl⟩ (fun E hlt hthr hthrow => ?_)
  refine z_aload_n 0 dX0_isQuiet_0 rfl ?_
  refine z_iload_n 1 dX0_isQuiet_1 rfl ?_
  by_cases e_2_0 : (e_X0_requireDevice u p1) = 0
  ·
    refine z_callVv (As := [.int p1]) (st := []) (fun l => c_X0_requireDevice l D cI cZ h a u p1 (by assumption)) zGok_TT (fun _ _ _ => trivial) (fun s args hts => cwV 1 hts gX0_isQuiet_X0_requireDevice rfl rfl rfl (by decide +kernel) ⟨Nat.le_of_ble_eq_true rfl, Nat.le_of_ble_eq_true rfl⟩) (ci := 0) rfl rfl rfl rfl (Nat.le_of_ble_eq_true rfl) ⟨Nat.le_of_ble_eq_true rfl, Nat.le_of_ble_eq_true rfl⟩ dX0_isQuiet_2 rfl (fun u2 hp => ?_)
    clear hp
    exact absurd (by rw [e_X0_isQuiet, if_pos e_2_0]) he
  ·
    refine z_callVx (As := [.int p1]) (st := []) hlt (fun l hl => t_X0_requireDevice l hl D cI cZ h a u p1 (by assumption)) (fun s args hts => cwV 1 hts gX0_isQuiet_X0_requireDevice rfl rfl rfl (by decide +kernel) ⟨Nat.le_of_ble_eq_true rfl, Nat.le_of_ble_eq_true rfl⟩) (ci := 0) rfl rfl rfl rfl (Nat.le_of_ble_eq_true rfl) ⟨Nat.le_of_ble_eq_true rfl, Nat.le_of_ble_eq_true rfl⟩ dX0_isQuiet_2 rfl ?_
    exact hthr _ _ _ (fun E' hE => by rw [e_X0_isQuiet, if_neg e_2_0]; exact hE)
