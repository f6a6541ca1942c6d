set_option maxHeartbeats 4000000 in
set_option maxRecDepth 100000 in
theorem c_X0_badge (l : Launch) (D : va_G) (cI cZ : ClassId) (h : Nat) (a : Nat → Nat) (u : SX) (p1 : Int32) (he : e_X0_badge u p1 = 0) (nd : Nat) (hnd : u.1 10 = nI nd) (hd : nd ≤ 16) (nn : Nat) (hnn : u.1 16 = nI nn) (hn : nn ≤ 120) : zMi l yX0_badge wsX0_badge ({ frames := 2, cells := 0, slots := 0, locals := 41 } : Room) zTT D [(cI, .int), (cZ, .boolean)] (wX0 cI cZ h a u) [.ref h, .int p1] (fun (r : Int32) (_ : Unit) => r = r_X0_badge u p1) (fun _ => (wX0 cI cZ h a u)) 0 0 := by
  refine z_startI (cc := cX0_badge) (n := 4) (own := RX0) (L0 := [(0, .ref h), (1, .int p1)]) (plainFor_of_name (by decide)) rfl rfl (Nat.le_of_ble_eq_true rfl) rfl (fun E hret => ?_)
  have hixnn : ix (u.1 16) = nn := by rw [hnn]; exact nI_clamp (by omega)
  have hixnd : ix (u.1 10) = nd := by rw [hnd]; exact nI_clamp (by omega)
  refine z_aload_n 0 dX0_badge_0 rfl ?_
  refine z_iload_n 1 dX0_badge_1 rfl ?_
  have e_2_0 : (e_X0_requireDevice u p1) = 0 := Decidable.byContradiction (fun hq => by rw [e_X0_badge, if_neg hq] at he; exact hq he)
  refine z_callVv (As := [.int p1]) (st := []) (fun l => c_X0_requireDevice l D cI cZ h a u p1 (by assumption)) zGok_TT (fun _ _ _ => trivial) (fun s args hts => cwV 1 hts gX0_badge_X0_requireDevice rfl rfl rfl (by decide +kernel) ⟨Nat.le_of_ble_eq_true rfl, Nat.le_of_ble_eq_true rfl⟩) (ci := 0) rfl rfl rfl rfl (Nat.le_of_ble_eq_true rfl) ⟨Nat.le_of_ble_eq_true rfl, Nat.le_of_ble_eq_true rfl⟩ dX0_badge_2 rfl (fun u2 hp => ?_)
  clear hp
  refine z_iconst (v := 0) dX0_badge_5 rfl ?_
  refine z_istore_n (L' := [(2, .int 0), (0, .ref h), (1, .int p1)]) dX0_badge_6 (by decide) rfl ?_
  refine z_iconst (v := 0) dX0_badge_7 rfl ?_
  refine z_istore_n (L' := [(3, .int 0), (2, .int 0), (0, .ref h), (1, .int p1)]) dX0_badge_8 (by decide) rfl ?_
  refine z_sub (L' := [(0, .ref h), (1, .int p1), (2, .int 0), (3, .int 0)]) [2, 3, 1, 0] rfl ?_
  have hloop9 : ∀ r k9 : Nat, k9 + r = nn → ZW E zTT ({ frames := 2, cells := 0, slots := 0, locals := 41 } : Room) cX0_badge RX0 wsX0_badge 4 D [(cI, .int), (cZ, .boolean)] 0 0 (wX0 cI cZ h a u) 9 [(0, .ref h), (1, .int p1), (2, .int (l_X0_badge_9 u p1 k9)), (3, .int (nI k9))] [] := by
    intro r
    induction r with
    | zero =>
      intro k9 hk9
      have hkN9 : nn = k9 := by omega
      subst hkN9
      refine z_iload_n 3 dX0_badge_9 rfl ?_
      refine z_aload_n 0 dX0_badge_10 rfl ?_
      refine z_get (C := RX0) (T := TX0) (N := 19) (v := .int (u.1 16)) inwX0_badge 0 rfl rfl 16 (by decide) (List.mem_of_getElem? (i := 1) rfl) rfl rfl dX0_badge_11 ?_
      refine z_icmp_ge 47 dX0_badge_14 (by decide) (fun c_14_2 => ?_) (fun c_14_2 => ?_)
      ·
        refine z_iload_n 2 dX0_badge_47 rfl ?_
        exact hret _ () _ _ _ dX0_badge_48 (by rw [r_X0_badge, hixnn]) rfl
      · exact absurd (by rw [hnn]; exact nI_le (Nat.le_refl _) (by omega)) c_14_2
    | succ r ih9 =>
      intro k9 hk9
      obtain ⟨x9, hx9⟩ : ∃ x, x = l_X0_badge_9 u p1 k9 := ⟨_, rfl⟩
      rw [← hx9]
      refine z_iload_n 3 dX0_badge_9 rfl ?_
      refine z_aload_n 0 dX0_badge_10 rfl ?_
      refine z_get (C := RX0) (T := TX0) (N := 19) (v := .int (u.1 16)) inwX0_badge 0 rfl rfl 16 (by decide) (List.mem_of_getElem? (i := 1) rfl) rfl rfl dX0_badge_11 ?_
      refine z_icmp_ge 47 dX0_badge_14 (by decide) (fun c_14_1 => ?_) (fun c_14_1 => ?_)
      · exact absurd c_14_1 (by rw [hnn]; exact nI_ge (by omega) (by omega))
      ·
        refine z_aload_n 0 dX0_badge_17 rfl ?_
        refine z_get (C := RX0) (T := TX0) (N := 19) (v := .ref (a 14)) inwX0_badge 0 rfl rfl 14 (by decide) (List.mem_of_getElem? (i := 2) rfl) rfl rfl dX0_badge_18 ?_
        refine z_iload_n 3 dX0_badge_21 rfl ?_
        refine z_iald (v := (u.2 14 (ix (nI k9)))) 11 0 rfl rfl (vp_in_nI (by omega) (by omega)) rfl dX0_badge_22 ?_
        refine z_iload_n 1 dX0_badge_23 rfl ?_
        refine z_callSi (As := [.int (u.2 14 (ix (nI k9))), .int p1]) (st := []) (fun l => c_X0_has l D _ _ (u.2 14 (ix (nI k9))) p1) zGok_TT (fun _ _ _ => trivial) (fun s args hts => va_cwS 2 hts gX0_badge_X0_has rfl rfl rfl (by decide +kernel) ⟨Nat.le_of_ble_eq_true rfl, Nat.le_of_ble_eq_true rfl⟩) rfl (Nat.le_of_ble_eq_true rfl) ⟨Nat.le_of_ble_eq_true rfl, Nat.le_of_ble_eq_true rfl⟩ dX0_badge_24 rfl (fun r u2 hp => ?_)
        subst hp
        refine z_if_eq 41 dX0_badge_27 (by decide) (fun c_27_3 => ?_) (fun c_27_3 => ?_)
        ·
          refine z_iinc (v := (nI (k9 + 1))) (L' := [(3, .int (nI (k9 + 1))), (0, .ref h), (1, .int p1), (2, .int x9)]) 3 dX0_badge_41 rfl (nI_1 k9) (by decide) rfl ?_
          refine z_goto 9 dX0_badge_44 (by decide) ?_
          have hb9 : l_X0_badge_9 u p1 (k9 + 1) = x9 := by
            show b_X0_badge_9 u p1 k9 (l_X0_badge_9 u p1 k9) = _
            rw [← hx9, b_X0_badge_9, if_pos c_27_3]
          refine z_sub (L' := [(0, .ref h), (1, .int p1), (2, .int x9), (3, .int (nI (k9 + 1)))]) [1, 2, 3, 0] rfl ?_
          have ih2 := ih9 (k9 + 1) (by omega)
          rw [hb9] at ih2
          exact ih2
        ·
          refine z_aload_n 0 dX0_badge_30 rfl ?_
          refine z_iload_n 3 dX0_badge_31 rfl ?_
          refine z_callVi (As := [.int (nI k9)]) (st := []) (fun l => c_X0_isStanding l D cI cZ h a u (nI k9) (by first | (with_reducible assumption) | with_reducible exact vp_in_nI (by omega) (by omega) | with_reducible exact zdev hnd hd (by assumption) | with_reducible exact znot hnn hn (by assumption) | exact hnd | exact hnn | assumption | decide)) zGok_TT (fun _ _ _ => trivial) (fun s args hts => cwV 1 hts gX0_badge_X0_isStanding rfl rfl rfl (by decide +kernel) ⟨Nat.le_of_ble_eq_true rfl, Nat.le_of_ble_eq_true rfl⟩) (ci := 0) rfl rfl rfl rfl (Nat.le_of_ble_eq_true rfl) ⟨Nat.le_of_ble_eq_true rfl, Nat.le_of_ble_eq_true rfl⟩ dX0_badge_32 rfl (fun r u2 hp => ?_)
          subst hp
          refine z_if_eq 41 dX0_badge_35 (by decide) (fun c_35_4 => ?_) (fun c_35_4 => ?_)
          ·
            refine z_iinc (v := (nI (k9 + 1))) (L' := [(3, .int (nI (k9 + 1))), (0, .ref h), (1, .int p1), (2, .int x9)]) 3 dX0_badge_41 rfl (nI_1 k9) (by decide) rfl ?_
            refine z_goto 9 dX0_badge_44 (by decide) ?_
            have hb9 : l_X0_badge_9 u p1 (k9 + 1) = x9 := by
              show b_X0_badge_9 u p1 k9 (l_X0_badge_9 u p1 k9) = _
              rw [← hx9, b_X0_badge_9, if_neg c_27_3, if_pos c_35_4]
            refine z_sub (L' := [(0, .ref h), (1, .int p1), (2, .int x9), (3, .int (nI (k9 + 1)))]) [1, 2, 3, 0] rfl ?_
            have ih2 := ih9 (k9 + 1) (by omega)
            rw [hb9] at ih2
            exact ih2
          ·
            refine z_iinc (v := (x9 + 1)) (L' := [(2, .int (x9 + 1)), (0, .ref h), (1, .int p1), (3, .int (nI k9))]) 2 dX0_badge_38 rfl rfl (by decide) rfl ?_
            refine z_iinc (v := (nI (k9 + 1))) (L' := [(3, .int (nI (k9 + 1))), (2, .int (x9 + 1)), (0, .ref h), (1, .int p1)]) 3 dX0_badge_41 rfl (nI_1 k9) (by decide) rfl ?_
            refine z_goto 9 dX0_badge_44 (by decide) ?_
            have hb9 : l_X0_badge_9 u p1 (k9 + 1) = (x9 + 1) := by
              show b_X0_badge_9 u p1 k9 (l_X0_badge_9 u p1 k9) = _
              rw [← hx9, b_X0_badge_9, if_neg c_27_3, if_neg c_35_4]
            refine z_sub (L' := [(0, .ref h), (1, .int p1), (2, .int (x9 + 1)), (3, .int (nI (k9 + 1)))]) [2, 3, 1, 0] rfl ?_
            have ih2 := ih9 (k9 + 1) (by omega)
            rw [hb9] at ih2
            exact ih2
  exact hloop9 nn 0 (by omega)
set_option maxHeartbeats 4000000 in
set_option maxRecDepth 100000 in
theorem t_X0_badge (l : Launch) (hlt : l.stackTraces = false) (D : va_G) (cI cZ : ClassId) (h : Nat) (a : Nat → Nat) (u : SX) (p1 : Int32) (he : e_X0_badge u p1 ≠ 0) (nd : Nat) (hnd : u.1 10 = nI nd) (hd : nd ≤ 16) (nn : Nat) (hnn : u.1 16 = nI nn) (hn : nn ≤ 120) : zMx l yX0_badge wsX0_badge ({ frames := 7, cells := 1, slots := 6, locals := 103 } : Room) D [(cI, .int), (cZ, .boolean)] (wX0 cI cZ h a u) [.ref h, .int p1] (fun E' => E' = zEx (e_X0_badge u p1)) := by
  refine z_startX (cc := cX0_badge) (n := 4) (own := RX0) (L0 := [(0, .ref h), (1, .int p1)]) hlt (by decide) rfl rfl (Nat.le_of_ble_eq_true rfl) rfl ⟨Nat.le_of_ble_eq_true rfl, Nat.le_of_ble_eq_true rfl⟩ (fun E hlt hthr hthrow => ?_)
  refine z_aload_n 0 dX0_badge_0 rfl ?_
  refine z_iload_n 1 dX0_badge_1 rfl ?_
  by_cases e_2_0 : (e_X0_requireDevice u p1) = 0
  ·
    refine z_callVv (As := [.int p1]) (st := []) (fun l => c_X0_requireDevice l D cI cZ h a u p1 (by assumption)) zGok_TT (fun _ _ _ => trivial) (fun s args hts => cwV 1 hts gX0_badge_X0_requireDevice rfl rfl rfl (by decide +kernel) ⟨Nat.le_of_ble_eq_true rfl, Nat.le_of_ble_eq_true rfl⟩) (ci := 0) rfl rfl rfl rfl (Nat.le_of_ble_eq_true rfl) ⟨Nat.le_of_ble_eq_true rfl, Nat.le_of_ble_eq_true rfl⟩ dX0_badge_2 rfl (fun u2 hp => ?_)
    clear hp
    exact absurd (by rw [e_X0_badge, if_pos e_2_0]) he
  ·
    refine z_callVx (As := [.int p1]) (st := []) hlt (fun l hl => t_X0_requireDevice l hl D cI cZ h a u p1 (by assumption)) (fun s args hts => cwV 1 hts gX0_badge_X0_requireDevice rfl rfl rfl (by decide +kernel) ⟨Nat.le_of_ble_eq_true rfl, Nat.le_of_ble_eq_true rfl⟩) (ci := 0) rfl rfl rfl rfl (Nat.le_of_ble_eq_true rfl) ⟨Nat.le_of_ble_eq_true rfl, Nat.le_of_ble_eq_true rfl⟩ dX0_badge_2 rfl ?_
    exact hthr _ _ _ (fun E' hE => by rw [e_X0_badge, if_neg e_2_0]; exact hE)
set_option maxHeartbeats 4000000 in
set_option maxRecDepth 100000 in
theorem c_X0_waiting (l : Launch) (D : va_G) (cI cZ : ClassId) (h : Nat) (a : Nat → Nat) (u : SX) (p1 : Int32) (he : e_X0_waiting u p1 = 0) (nd : Nat) (hnd : u.1 10 = nI nd) (hd : nd ≤ 16) (nn : Nat) (hnn : u.1 16 = nI nn) (hn : nn ≤ 120) : zMi l yX0_waiting wsX0_waiting ({ frames := 3, cells := 0, slots := 0, locals := 65 } : Room) zTT D [(cI, .int), (cZ, .boolean)] (wX0 cI cZ h a u) [.ref h, .int p1] (fun (r : Int32) (_ : Unit) => r = r_X0_waiting u p1) (fun _ => (wX0 cI cZ h a u)) 0 0 := by
  refine z_startI (cc := cX0_waiting) (n := 2) (own := RX0) (L0 := [(0, .ref h), (1, .int p1)]) (plainFor_of_name (by decide)) rfl rfl (Nat.le_of_ble_eq_true rfl) rfl (fun E hret => ?_)
  have hixnn : ix (u.1 16) = nn := by rw [hnn]; exact nI_clamp (by omega)
  have hixnd : ix (u.1 10) = nd := by rw [hnd]; exact nI_clamp (by omega)
  refine z_aload_n 0 dX0_waiting_0 rfl ?_
  refine z_iload_n 1 dX0_waiting_1 rfl ?_
  have e_2_0 : (e_X0_requireDevice u p1) = 0 := Decidable.byContradiction (fun hq => by rw [e_X0_waiting, if_neg hq] at he; exact hq he)
  refine z_callVv (As := [.int p1]) (st := []) (fun l => c_X0_requireDevice l D cI cZ h a u p1 (by assumption)) zGok_TT (fun _ _ _ => trivial) (fun s args hts => cwV 1 hts gX0_waiting_X0_requireDevice rfl rfl rfl (by decide +kernel) ⟨Nat.le_of_ble_eq_true rfl, Nat.le_of_ble_eq_true rfl⟩) (ci := 0) rfl rfl rfl rfl (Nat.le_of_ble_eq_true rfl) ⟨Nat.le_of_ble_eq_true rfl, Nat.le_of_ble_eq_true rfl⟩ dX0_waiting_2 rfl (fun u2 hp => ?_)
  clear hp
  refine z_aload_n 0 dX0_waiting_5 rfl ?_
  refine z_iload_n 1 dX0_waiting_6 rfl ?_
  refine z_callVi (As := [.int p1]) (st := []) (fun l => c_X0_countWaiting l D cI cZ h a u p1 nn (by first | (with_reducible assumption) | with_reducible exact zdev hnd hd (by assumption) | with_reducible exact znot hnn hn (by assumption) | exact hnd | exact hnn | assumption | decide) (by first | (with_reducible assumption) | with_reducible exact zdev hnd hd (by assumption) | with_reducible exact znot hnn hn (by assumption) | exact hnd | exact hnn | assumption | decide)) zGok_TT (fun _ _ _ => trivial) (fun s args hts => cwV 1 hts gX0_waiting_X0_countWaiting rfl rfl rfl (by decide +kernel) ⟨Nat.le_of_ble_eq_true rfl, Nat.le_of_ble_eq_true rfl⟩) (ci := 0) rfl rfl rfl rfl (Nat.le_of_ble_eq_true rfl) ⟨Nat.le_of_ble_eq_true rfl, Nat.le_of_ble_eq_true rfl⟩ dX0_waiting_7 rfl (fun r u2 hp => ?_)
  subst hp
  exact hret _ () _ _ _ dX0_waiting_10 (by rw [r_X0_waiting]) rfl
set_option maxHeartbeats 4000000 in
set_option maxRecDepth 100000 in
theorem t_X0_waiting (l : Launch) (hlt : l.stackTraces = false) (D : va_G) (cI cZ : ClassId) (h : Nat) (a : Nat → Nat) (u : SX) (p1 : Int32) (he : e_X0_waiting u p1 ≠ 0) (nd : Nat) (hnd : u.1 10 = nI nd) (hd : nd ≤ 16) (nn : Nat) (hnn : u.1 16 = nI nn) (hn : nn ≤ 120) : zMx l yX0_waiting wsX0_waiting ({ frames := 7, cells := 1, slots := 6, locals := 103 } : Room) D [(cI, .int), (cZ, .boolean)] (wX0 cI cZ h a u) [.ref h, .int p1] (fun E' => E' = zEx (e_X0_waiting u p1)) := by
  refine z_startX (cc := cX0_waiting) (n := 2) (own := RX0) (L0 := [(0, .ref h), (1, .int p1)]) hlt (by decide) rfl rfl (Nat.le_of_ble_eq_true rfl) rfl ⟨Nat.le_of_ble_eq_true rfl, Nat.le_of_ble_eq_true rfl⟩ (fun E hlt hthr hthrow => ?_)
  refine z_aload_n 0 dX0_waiting_0 rfl ?_
  refine z_iload_n 1 dX0_waiting_1 rfl ?_
  by_cases e_2_0 : (e_X0_requireDevice u p1) = 0
  ·
    refine z_callVv (As := [.int p1]) (st := []) (fun l => c_X0_requireDevice l D cI cZ h a u p1 (by assumption)) zGok_TT (fun _ _ _ => trivial) (fun s args hts => cwV 1 hts gX0_waiting_X0_requireDevice rfl rfl rfl (by decide +kernel) ⟨Nat.le_of_ble_eq_true rfl, Nat.le_of_ble_eq_true rfl⟩) (ci := 0) rfl rfl rfl rfl (Nat.le_of_ble_eq_true rfl) ⟨Nat.le_of_ble_eq_true rfl, Nat.le_of_ble_eq_true rfl⟩ dX0_waiting_2 rfl (fun u2 hp => ?_)
    clear hp
    exact absurd (by rw [e_X0_waiting, if_pos e_2_0]) he
  ·
    refine z_callVx (As := [.int p1]) (st := []) hlt (fun l hl => t_X0_requireDevice l hl D cI cZ h a u p1 (by assumption)) (fun s args hts => cwV 1 hts gX0_waiting_X0_requireDevice rfl rfl rfl (by decide +kernel) ⟨Nat.le_of_ble_eq_true rfl, Nat.le_of_ble_eq_true rfl⟩) (ci := 0) rfl rfl rfl rfl (Nat.le_of_ble_eq_true rfl) ⟨Nat.le_of_ble_eq_true rfl, Nat.le_of_ble_eq_true rfl⟩ dX0_waiting_2 rfl ?_
    exact hthr _ _ _ (fun E' hE => by rw [e_X0_waiting, if_neg e_2_0]; exact hE)
set_option maxHeartbeats 4000000 in
set_option maxRecDepth 100000 in
theorem c_X0_quota (l : Launch) (D : va_G) (cI cZ : ClassId) (h : Nat) (a : Nat → Nat) (u : SX) (p1 : Int32) (he : e_X0_quota u p1 = 0) (nd : Nat) (hnd : u.1 10 = nI nd) (hd : nd ≤ 16) : zMi l yX0_quota wsX0_quota ({ frames := 1, cells := 0, slots := 0, locals := 21 } : Room) zTT D [(cI, .int), (cZ, .boolean)] (wX0 cI cZ h a u) [.ref h, .int p1] (fun (r : Int32) (_ : Unit) => r = r_X0_quota u p1) (fun _ => (wX0 cI cZ h a u)) 0 0 := by
  refine z_startI (cc := cX0_quota) (n := 2) (own := RX0) (L0 := [(0, .ref h), (1, .int p1)]) (plainFor_of_name (by decide)) rfl rfl (Nat.le_of_ble_eq_true rfl) rfl (fun E hret => ?_)
  have hixnd : ix (u.1 10) = nd := by rw [hnd]; exact nI_clamp (by omega)
  refine z_aload_n 0 dX0_quota_0 rfl ?_
  refine z_iload_n 1 dX0_quota_1 rfl ?_
  have e_2_0 : (e_X0_requireDevice u p1) = 0 := Decidable.byContradiction (fun hq => by rw [e_X0_quota, if_neg hq] at he; exact hq he)
  refine z_callVv (As := [.int p1]) (st := []) (fun l => c_X0_requireDevice l D cI cZ h a u p1 (by assumption)) zGok_TT (fun _ _ _ => trivial) (fun s args hts => cwV 1 hts gX0_quota_X0_requireDevice rfl rfl rfl (by decide +kernel) ⟨Nat.le_of_ble_eq_true rfl, Nat.le_of_ble_eq_true rfl⟩) (ci := 0) rfl rfl rfl rfl (Nat.le_of_ble_eq_true rfl) ⟨Nat.le_of_ble_eq_true rfl, Nat.le_of_ble_eq_true rfl⟩ dX0_quota_2 rfl (fun u2 hp => ?_)
  clear hp
  refine z_iconst (v := 3) dX0_quota_5 rfl ?_
  refine z_aload_n 0 dX0_quota_6 rfl ?_
  refine z_iload_n 1 dX0_quota_7 rfl ?_
  refine z_callVi (As := [.int p1]) (st := [.int 3]) (fun l => c_X0_spentToday l D cI cZ h a u p1 (by first | (with_reducible assumption) | with_reducible exact zdev hnd hd (by assumption) | exact hnd | assumption | decide)) zGok_TT (fun _ _ _ => trivial) (fun s args hts => cwV 1 hts gX0_quota_X0_spentToday rfl rfl rfl (by decide +kernel) ⟨Nat.le_of_ble_eq_true rfl, Nat.le_of_ble_eq_true rfl⟩) (ci := 0) rfl rfl rfl rfl (Nat.le_of_ble_eq_true rfl) ⟨Nat.le_of_ble_eq_true rfl, Nat.le_of_ble_eq_true rfl⟩ dX0_quota_8 rfl (fun r u2 hp => ?_)
  subst hp
  refine z_isub dX0_quota_11 ?_
  exact hret _ () _ _ _ dX0_quota_12 (by rw [r_X0_quota]) rfl
set_option maxHeartbeats 4000000 in
set_option maxRecDepth 100000 in
theorem t_X0_quota (l : Launch) (hlt : l.stackTraces = false) (D : va_G) (cI cZ : ClassId) (h : Nat) (a : Nat → Nat) (u : SX) (p1 : Int32) (he : e_X0_quota u p1 ≠ 0) (nd : Nat) (hnd : u.1 10 = nI nd) (hd : nd ≤ 16) : zMx l yX0_quota wsX0_quota ({ frames := 7, cells := 1, slots := 6, locals := 103 } : Room) D [(cI, .int), (cZ, .boolean)] (wX0 cI cZ h a u) [.ref h, .int p1] (fun E' => E' = zEx (e_X0_quota u p1)) := by
  refine z_startX (cc := cX0_quota) (n := 2) (own := RX0) (L0 := [(0, .ref h), (1, .int p1)]) hlt (by decide) rfl rfl (Nat.le_of_ble_eq_true rfl) rfl ⟨Nat.le_of_ble_eq_true rfl, Nat.le_of_ble_eq_true rfl⟩ (fun E hlt hthr hthrow => ?_)
  refine z_aload_n 0 dX0_quota_0 rfl ?_
  refine z_iload_n 1 dX0_quota_1 rfl ?_
  by_cases e_2_0 : (e_X0_requireDevice u p1) = 0
  ·
    refine z_callVv (As := [.int p1]) (st := []) (fun l => c_X0_requireDevice l D cI cZ h a u p1 (by assumption)) zGok_TT (fun _ _ _ => trivial) (fun s args hts => cwV 1 hts gX0_quota_X0_requireDevice rfl rfl rfl (by decide +kernel) ⟨Nat.le_of_ble_eq_true rfl, Nat.le_of_ble_eq_true rfl⟩) (ci := 0) rfl rfl rfl rfl (Nat.le_of_ble_eq_true rfl) ⟨Nat.le_of_ble_eq_true rfl, Nat.le_of_ble_eq_true rfl⟩ dX0_quota_2 rfl (fun u2 hp => ?_)
    clear hp
    exact absurd (by rw [e_X0_quota, if_pos e_2_0]) he
  ·
    refine z_callVx (As := [.int p1]) (st := []) hlt (fun l hl => t_X0_requireDevice l hl D cI cZ h a u p1 (by assumption)) (fun s args hts => cwV 1 hts gX0_quota_X0_requireDevice rfl rfl rfl (by decide +kernel) ⟨Nat.le_of_ble_eq_true rfl, Nat.le_of_ble_eq_true rfl⟩) (ci := 0) rfl rfl rfl rfl (Nat.le_of_ble_eq_true rfl) ⟨Nat.le_of_ble_eq_true rfl, Nat.le_of_ble_eq_true rfl⟩ dX0_quota_2 rfl ?_
    exact hthr _ _ _ (fun E' hE => by rw [e_X0_quota, if_neg e_2_0]; exact hE)
set_option maxHeartbeats 4000000 in
set_option maxRecDepth 100000 in
theorem c_X0_clock (l : Launch) (D : va_G) (cI cZ : ClassId) (h : Nat) (a : Nat → Nat) (u : SX)   : zMi l yX0_clock wsX0_clock ({ frames := 0, cells := 0, slots := 0, locals := 0 } : Room) zTT D [(cI, .int), (cZ, .boolean)] (wX0 cI cZ h a u) [.ref h] (fun (r : Int32) (_ : Unit) => r = r_X0_clock u) (fun _ => (wX0 cI cZ h a u)) 0 0 := by
  refine z_startI (cc := cX0_clock) (n := 1) (own := RX0) (L0 := [(0, .ref h)]) (plainFor_of_name (by decide)) rfl rfl (Nat.le_of_ble_eq_true rfl) rfl (fun E hret => ?_)
  refine z_aload_n 0 dX0_clock_0 rfl ?_
  refine z_get (C := RX0) (T := TX0) (N := 19) (v := .int (u.1 17)) inwX0_clock 0 rfl rfl 17 (by decide) (List.mem_of_getElem? (i := 1) rfl) rfl rfl dX0_clock_1 ?_
  exact hret _ () _ _ _ dX0_clock_4 (by rw [r_X0_clock]) rfl
set_option maxHeartbeats 4000000 in
set_option maxRecDepth 100000 in
theorem c_X0_deliveries (l : Launch) (D : va_G) (cI cZ : ClassId) (h : Nat) (a : Nat → Nat) (u : SX)   : zMi l yX0_deliveries wsX0_deliveries ({ frames := 0, cells := 0, slots := 0, locals := 0 } : Room) zTT D [(cI, .int), (cZ, .boolean)] (wX0 cI cZ h a u) [.ref h] (fun (r : Int32) (_ : Unit) => r = r_X0_deliveries u) (fun _ => (wX0 cI cZ h a u)) 0 0 := by
  refine z_startI (cc := cX0_deliveries) (n := 1) (own := RX0) (L0 := [(0, .ref h)]) (plainFor_of_name (by decide)) rfl rfl (Nat.le_of_ble_eq_true rfl) rfl (fun E hret => ?_)
  refine z_aload_n 0 dX0_deliveries_0 rfl ?_
  refine z_get (C := RX0) (T := TX0) (N := 19) (v := .int (u.1 18)) inwX0_deliveries 0 rfl rfl 18 (by decide) (List.mem_of_getElem? (i := 1) rfl) rfl rfl dX0_deliveries_1 ?_
  exact hret _ () _ _ _ dX0_deliveries_4 (by rw [r_X0_deliveries]) rfl
