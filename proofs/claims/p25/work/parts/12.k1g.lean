set_option maxHeartbeats 4000000 in
set_option maxRecDepth 100000 in
theorem c_X0_send (l : Launch) (D : va_G) (cI cZ : ClassId) (h : Nat) (a : Nat → Nat) (u : SX) (p1 p2 p3 p4 : Int32) (he : e_X0_send u p1 p2 p3 p4 = 0) (nd : Nat) (hnd : u.1 10 = nI nd) (hd : nd ≤ 16) (nn : Nat) (hnn : u.1 16 = nI nn) (hn : nn ≤ 120) (hlk : ∀ i : Nat, i < 80 → (u.2 15 i) = (-1) ∨ vp_in (u.2 15 i) 120) : zMi l yX0_send wsX0_send ({ frames := 6, cells := 0, slots := 0, locals := 136 } : Room) zTT D [(cI, .int), (cZ, .boolean)] (wX0 cI cZ h a u) [.ref h, .int p1, .int p2, .int p3, .int p4] (fun (r : Int32) (u2 : SX) => r = r_X0_send u p1 p2 p3 p4 ∧ u2 = s_X0_send u p1 p2 p3 p4) (fun u2 => (wX0 cI cZ h a u2)) 0 0 := by
  refine z_startI (cc := cX0_send) (n := 5) (own := RX0) (L0 := [(0, .ref h), (1, .int p1), (2, .int p2), (3, .int p3), (4, .int p4)]) (plainFor_of_name (by decide)) rfl rfl (Nat.le_of_ble_eq_true rfl) rfl (fun E hret => ?_)
  have hixnn : ix (u.1 16) = nn := by rw [hnn]; exact nI_clamp (by omega)
  have hixnd : ix (u.1 10) = nd := by rw [hnd]; exact nI_clamp (by omega)
  refine z_iload_n 1 dX0_send_0 rfl ?_
  refine z_iconst (v := 0) dX0_send_1 rfl ?_
  refine z_bipush (v := 7) dX0_send_2 rfl ?_
  have e_4_0 : (e_X0_requireWithin p1 0 7) = 0 := Decidable.byContradiction (fun hq => by rw [e_X0_send, if_neg hq] at he; exact hq he)
  refine z_callSv (As := [.int p1, .int 0, .int 7]) (st := []) (fun l => c_X0_requireWithin l D _ _ p1 0 7 (by assumption)) zGok_TT (fun _ _ _ => trivial) (fun s args hts => va_cwS 3 hts gX0_send_X0_requireWithin rfl rfl rfl (by decide +kernel) ⟨Nat.le_of_ble_eq_true rfl, Nat.le_of_ble_eq_true rfl⟩) rfl (Nat.le_of_ble_eq_true rfl) ⟨Nat.le_of_ble_eq_true rfl, Nat.le_of_ble_eq_true rfl⟩ dX0_send_4 rfl (fun u2 hp => ?_)
  clear hp
  refine z_iload_n 2 dX0_send_7 rfl ?_
  refine z_iconst (v := (-1)) dX0_send_8 rfl ?_
  refine z_icmp_eq 19 dX0_send_9 (by decide) (fun c_9_1 => ?_) (fun c_9_1 => ?_)
  ·
    refine z_iload 4 dX0_send_19 rfl ?_
    refine z_iconst (v := 1) dX0_send_21 rfl ?_
    refine z_sipush (v := 10000) dX0_send_22 rfl ?_
    have e_25_2 : (e_X0_requireWithin p4 1 10000) = 0 := Decidable.byContradiction (fun hq => by rw [e_X0_send, if_pos e_4_0, if_pos c_9_1, if_neg hq] at he; exact hq he)
    refine z_callSv (As := [.int p4, .int 1, .int 10000]) (st := []) (fun l => c_X0_requireWithin l D _ _ p4 1 10000 (by assumption)) zGok_TT (fun _ _ _ => trivial) (fun s args hts => va_cwS 3 hts gX0_send_X0_requireWithin rfl rfl rfl (by decide +kernel) ⟨Nat.le_of_ble_eq_true rfl, Nat.le_of_ble_eq_true rfl⟩) rfl (Nat.le_of_ble_eq_true rfl) ⟨Nat.le_of_ble_eq_true rfl, Nat.le_of_ble_eq_true rfl⟩ dX0_send_25 rfl (fun u2 hp => ?_)
    clear hp
    refine z_aload_n 0 dX0_send_28 rfl ?_
    have e_29_3 : (e_X0_requireRoomForNotice u ) = 0 := Decidable.byContradiction (fun hq => by rw [e_X0_send, if_pos e_4_0, if_pos c_9_1, if_pos e_25_2, if_neg hq] at he; exact hq he)
    refine z_callVv (As := []) (st := []) (fun l => c_X0_requireRoomForNotice l D cI cZ h a u  (by assumption)) zGok_TT (fun _ _ _ => trivial) (fun s args hts => cwV 0 hts gX0_send_X0_requireRoomForNotice rfl rfl rfl (by decide +kernel) ⟨Nat.le_of_ble_eq_true rfl, Nat.le_of_ble_eq_true rfl⟩) (ci := 0) rfl rfl rfl rfl (Nat.le_of_ble_eq_true rfl) ⟨Nat.le_of_ble_eq_true rfl, Nat.le_of_ble_eq_true rfl⟩ dX0_send_29 rfl (fun u2 hp => ?_)
    clear hp
    refine z_iload_n 2 dX0_send_32 rfl ?_
    refine z_iconst (v := (-1)) dX0_send_33 rfl ?_
    refine z_icmp_eq 43 dX0_send_34 (by decide) (fun _ => ?_) (fun c_34_4 => absurd c_9_1 c_34_4)
    refine z_aload_n 0 dX0_send_43 rfl ?_
    refine z_aload_n 0 dX0_send_44 rfl ?_
    refine z_get (C := RX0) (T := TX0) (N := 19) (v := .ref (a 0)) inwX0_send 0 rfl rfl 0 (by decide) (List.mem_of_getElem? (i := 1) rfl) rfl rfl dX0_send_45 ?_
    refine z_iload_n 1 dX0_send_48 rfl ?_
    refine z_iald (v := (u.2 0 (ix p1))) 1 0 rfl rfl (by first | (with_reducible assumption) | with_reducible exact zdev hnd hd (by assumption) | with_reducible exact znot hnn hn (by assumption) | with_reducible exact zwithin (by assumption) (by decide) (by decide) | with_reducible exact zplaceW (by assumption) (by assumption) | with_reducible exact zlk hlk (zplaceW (by assumption) (by assumption)) | with_reducible exact zroom0 hnn hn (by assumption) | (rw [s_X0_replaceKey_1]; exact hnn) | (rw [s_X0_replaceKey_1]; exact hnd) | exact hnd | exact hnn | assumption | decide) rfl dX0_send_49 ?_
    refine z_iload_n 3 dX0_send_50 rfl ?_
    refine z_iload 4 dX0_send_51 rfl ?_
    refine z_callVi (As := [.int (u.2 0 (ix p1)), .int p3, .int p4]) (st := []) (fun l => c_X0_sendTo l D cI cZ h a u (u.2 0 (ix p1)) p3 p4 nd (by first | (with_reducible assumption) | with_reducible exact zdev hnd hd (by assumption) | with_reducible exact znot hnn hn (by assumption) | with_reducible exact zwithin (by assumption) (by decide) (by decide) | with_reducible exact zplaceW (by assumption) (by assumption) | with_reducible exact zlk hlk (zplaceW (by assumption) (by assumption)) | with_reducible exact zroom0 hnn hn (by assumption) | (rw [s_X0_replaceKey_1]; exact hnn) | (rw [s_X0_replaceKey_1]; exact hnd) | exact hnd | exact hnn | assumption | decide) (by first | (with_reducible assumption) | with_reducible exact zdev hnd hd (by assumption) | with_reducible exact znot hnn hn (by assumption) | with_reducible exact zwithin (by assumption) (by decide) (by decide) | with_reducible exact zplaceW (by assumption) (by assumption) | with_reducible exact zlk hlk (zplaceW (by assumption) (by assumption)) | with_reducible exact zroom0 hnn hn (by assumption) | (rw [s_X0_replaceKey_1]; exact hnn) | (rw [s_X0_replaceKey_1]; exact hnd) | exact hnd | exact hnn | assumption | decide) nn (by first | (with_reducible assumption) | with_reducible exact zdev hnd hd (by assumption) | with_reducible exact znot hnn hn (by assumption) | with_reducible exact zwithin (by assumption) (by decide) (by decide) | with_reducible exact zplaceW (by assumption) (by assumption) | with_reducible exact zlk hlk (zplaceW (by assumption) (by assumption)) | with_reducible exact zroom0 hnn hn (by assumption) | (rw [s_X0_replaceKey_1]; exact hnn) | (rw [s_X0_replaceKey_1]; exact hnd) | exact hnd | exact hnn | assumption | decide) (by first | (with_reducible assumption) | with_reducible exact zdev hnd hd (by assumption) | with_reducible exact znot hnn hn (by assumption) | with_reducible exact zwithin (by assumption) (by decide) (by decide) | with_reducible exact zplaceW (by assumption) (by assumption) | with_reducible exact zlk hlk (zplaceW (by assumption) (by assumption)) | with_reducible exact zroom0 hnn hn (by assumption) | (rw [s_X0_replaceKey_1]; exact hnn) | (rw [s_X0_replaceKey_1]; exact hnd) | exact hnd | exact hnn | assumption | decide) (by first | (with_reducible assumption) | with_reducible exact zdev hnd hd (by assumption) | with_reducible exact znot hnn hn (by assumption) | with_reducible exact zwithin (by assumption) (by decide) (by decide) | with_reducible exact zplaceW (by assumption) (by assumption) | with_reducible exact zlk hlk (zplaceW (by assumption) (by assumption)) | with_reducible exact zroom0 hnn hn (by assumption) | (rw [s_X0_replaceKey_1]; exact hnn) | (rw [s_X0_replaceKey_1]; exact hnd) | exact hnd | exact hnn | assumption | decide)) zGok_TT (fun _ _ _ => trivial) (fun s args hts => cwV 3 hts gX0_send_X0_sendTo rfl rfl rfl (by decide +kernel) ⟨Nat.le_of_ble_eq_true rfl, Nat.le_of_ble_eq_true rfl⟩) (ci := 0) rfl rfl rfl rfl (Nat.le_of_ble_eq_true rfl) ⟨Nat.le_of_ble_eq_true rfl, Nat.le_of_ble_eq_true rfl⟩ dX0_send_53 rfl (fun r u2 hp => ?_)
    obtain ⟨rfl, rfl⟩ := hp
    exact hret _ (s_X0_sendTo u (u.2 0 (ix p1)) p3 p4) _ _ _ dX0_send_56 ⟨(by rw [r_X0_send, if_pos c_9_1]), (by rw [s_X0_send, if_pos c_9_1])⟩ rfl
  ·
    refine z_iload_n 2 dX0_send_12 rfl ?_
    refine z_iconst (v := 0) dX0_send_13 rfl ?_
    refine z_bipush (v := 9) dX0_send_14 rfl ?_
    have e_16_5 : (e_X0_requireWithin p2 0 9) = 0 := Decidable.byContradiction (fun hq => by rw [e_X0_send, if_pos e_4_0, if_neg c_9_1, if_neg hq] at he; exact hq he)
    refine z_callSv (As := [.int p2, .int 0, .int 9]) (st := []) (fun l => c_X0_requireWithin l D _ _ p2 0 9 (by assumption)) zGok_TT (fun _ _ _ => trivial) (fun s args hts => va_cwS 3 hts gX0_send_X0_requireWithin rfl rfl rfl (by decide +kernel) ⟨Nat.le_of_ble_eq_true rfl, Nat.le_of_ble_eq_true rfl⟩) rfl (Nat.le_of_ble_eq_true rfl) ⟨Nat.le_of_ble_eq_true rfl, Nat.le_of_ble_eq_true rfl⟩ dX0_send_16 rfl (fun u2 hp => ?_)
    clear hp
    refine z_iload 4 dX0_send_19 rfl ?_
    refine z_iconst (v := 1) dX0_send_21 rfl ?_
    refine z_sipush (v := 10000) dX0_send_22 rfl ?_
    have e_25_6 : (e_X0_requireWithin p4 1 10000) = 0 := Decidable.byContradiction (fun hq => by rw [e_X0_send, if_pos e_4_0, if_neg c_9_1, if_pos e_16_5, if_neg hq] at he; exact hq he)
    refine z_callSv (As := [.int p4, .int 1, .int 10000]) (st := []) (fun l => c_X0_requireWithin l D _ _ p4 1 10000 (by assumption)) zGok_TT (fun _ _ _ => trivial) (fun s args hts => va_cwS 3 hts gX0_send_X0_requireWithin rfl rfl rfl (by decide +kernel) ⟨Nat.le_of_ble_eq_true rfl, Nat.le_of_ble_eq_true rfl⟩) rfl (Nat.le_of_ble_eq_true rfl) ⟨Nat.le_of_ble_eq_true rfl, Nat.le_of_ble_eq_true rfl⟩ dX0_send_25 rfl (fun u2 hp => ?_)
    clear hp
    refine z_aload_n 0 dX0_send_28 rfl ?_
    have e_29_7 : (e_X0_requireRoomForNotice u ) = 0 := Decidable.byContradiction (fun hq => by rw [e_X0_send, if_pos e_4_0, if_neg c_9_1, if_pos e_16_5, if_pos e_25_6, if_neg hq] at he; exact hq he)
    refine z_callVv (As := []) (st := []) (fun l => c_X0_requireRoomForNotice l D cI cZ h a u  (by assumption)) zGok_TT (fun _ _ _ => trivial) (fun s args hts => cwV 0 hts gX0_send_X0_requireRoomForNotice rfl rfl rfl (by decide +kernel) ⟨Nat.le_of_ble_eq_true rfl, Nat.le_of_ble_eq_true rfl⟩) (ci := 0) rfl rfl rfl rfl (Nat.le_of_ble_eq_true rfl) ⟨Nat.le_of_ble_eq_true rfl, Nat.le_of_ble_eq_true rfl⟩ dX0_send_29 rfl (fun u2 hp => ?_)
    clear hp
    refine z_iload_n 2 dX0_send_32 rfl ?_
    refine z_iconst (v := (-1)) dX0_send_33 rfl ?_
    refine z_icmp_eq 43 dX0_send_34 (by decide) (fun c_34_8 => absurd c_34_8 c_9_1) (fun _ => ?_)
    refine z_aload_n 0 dX0_send_37 rfl ?_
    refine z_iload_n 1 dX0_send_38 rfl ?_
    refine z_iload_n 2 dX0_send_39 rfl ?_
    refine z_callVv (As := [.int p1, .int p2]) (st := []) (fun l => c_X0_replaceKey l D cI cZ h a u p1 p2 (by first | (with_reducible assumption) | with_reducible exact zdev hnd hd (by assumption) | with_reducible exact znot hnn hn (by assumption) | with_reducible exact zwithin (by assumption) (by decide) (by decide) | with_reducible exact zplaceW (by assumption) (by assumption) | with_reducible exact zlk hlk (zplaceW (by assumption) (by assumption)) | with_reducible exact zroom0 hnn hn (by assumption) | (rw [s_X0_replaceKey_1]; exact hnn) | (rw [s_X0_replaceKey_1]; exact hnd) | exact hnd | exact hnn | assumption | decide) (by first | (with_reducible assumption) | with_reducible exact zdev hnd hd (by assumption) | with_reducible exact znot hnn hn (by assumption) | with_reducible exact zwithin (by assumption) (by decide) (by decide) | with_reducible exact zplaceW (by assumption) (by assumption) | with_reducible exact zlk hlk (zplaceW (by assumption) (by assumption)) | with_reducible exact zroom0 hnn hn (by assumption) | (rw [s_X0_replaceKey_1]; exact hnn) | (rw [s_X0_replaceKey_1]; exact hnd) | exact hnd | exact hnn | assumption | decide)) zGok_TT (fun _ _ _ => trivial) (fun s args hts => cwV 2 hts gX0_send_X0_replaceKey rfl rfl rfl (by decide +kernel) ⟨Nat.le_of_ble_eq_true rfl, Nat.le_of_ble_eq_true rfl⟩) (ci := 0) rfl rfl rfl rfl (Nat.le_of_ble_eq_true rfl) ⟨Nat.le_of_ble_eq_true rfl, Nat.le_of_ble_eq_true rfl⟩ dX0_send_40 rfl (fun u2 hp => ?_)
    subst hp
    refine z_aload_n 0 dX0_send_43 rfl ?_
    refine z_aload_n 0 dX0_send_44 rfl ?_
    refine z_get (C := RX0) (T := TX0) (N := 19) (v := .ref (a 0)) inwX0_send 0 rfl rfl 0 (by decide) (List.mem_of_getElem? (i := 1) rfl) rfl rfl dX0_send_45 ?_
    refine z_iload_n 1 dX0_send_48 rfl ?_
    refine z_iald (v := ((s_X0_replaceKey u p1 p2).2 0 (ix p1))) 1 0 rfl rfl (by first | (with_reducible assumption) | with_reducible exact zdev hnd hd (by assumption) | with_reducible exact znot hnn hn (by assumption) | with_reducible exact zwithin (by assumption) (by decide) (by decide) | with_reducible exact zplaceW (by assumption) (by assumption) | with_reducible exact zlk hlk (zplaceW (by assumption) (by assumption)) | with_reducible exact zroom0 hnn hn (by assumption) | (rw [s_X0_replaceKey_1]; exact hnn) | (rw [s_X0_replaceKey_1]; exact hnd) | exact hnd | exact hnn | assumption | decide) rfl dX0_send_49 ?_
    refine z_iload_n 3 dX0_send_50 rfl ?_
    refine z_iload 4 dX0_send_51 rfl ?_
    refine z_callVi (As := [.int ((s_X0_replaceKey u p1 p2).2 0 (ix p1)), .int p3, .int p4]) (st := []) (fun l => c_X0_sendTo l D cI cZ h a (s_X0_replaceKey u p1 p2) ((s_X0_replaceKey u p1 p2).2 0 (ix p1)) p3 p4 nd (by first | (with_reducible assumption) | with_reducible exact zdev hnd hd (by assumption) | with_reducible exact znot hnn hn (by assumption) | with_reducible exact zwithin (by assumption) (by decide) (by decide) | with_reducible exact zplaceW (by assumption) (by assumption) | with_reducible exact zlk hlk (zplaceW (by assumption) (by assumption)) | with_reducible exact zroom0 hnn hn (by assumption) | (rw [s_X0_replaceKey_1]; exact hnn) | (rw [s_X0_replaceKey_1]; exact hnd) | exact hnd | exact hnn | assumption | decide) (by first | (with_reducible assumption) | with_reducible exact zdev hnd hd (by assumption) | with_reducible exact znot hnn hn (by assumption) | with_reducible exact zwithin (by assumption) (by decide) (by decide) | with_reducible exact zplaceW (by assumption) (by assumption) | with_reducible exact zlk hlk (zplaceW (by assumption) (by assumption)) | with_reducible exact zroom0 hnn hn (by assumption) | (rw [s_X0_replaceKey_1]; exact hnn) | (rw [s_X0_replaceKey_1]; exact hnd) | exact hnd | exact hnn | assumption | decide) nn (by first | (with_reducible assumption) | with_reducible exact zdev hnd hd (by assumption) | with_reducible exact znot hnn hn (by assumption) | with_reducible exact zwithin (by assumption) (by decide) (by decide) | with_reducible exact zplaceW (by assumption) (by assumption) | with_reducible exact zlk hlk (zplaceW (by assumption) (by assumption)) | with_reducible exact zroom0 hnn hn (by assumption) | (rw [s_X0_replaceKey_1]; exact hnn) | (rw [s_X0_replaceKey_1]; exact hnd) | exact hnd | exact hnn | assumption | decide) (by first | (with_reducible assumption) | with_reducible exact zdev hnd hd (by assumption) | with_reducible exact znot hnn hn (by assumption) | with_reducible exact zwithin (by assumption) (by decide) (by decide) | with_reducible exact zplaceW (by assumption) (by assumption) | with_reducible exact zlk hlk (zplaceW (by assumption) (by assumption)) | with_reducible exact zroom0 hnn hn (by assumption) | (rw [s_X0_replaceKey_1]; exact hnn) | (rw [s_X0_replaceKey_1]; exact hnd) | exact hnd | exact hnn | assumption | decide) (by first | (with_reducible assumption) | with_reducible exact zdev hnd hd (by assumption) | with_reducible exact znot hnn hn (by assumption) | with_reducible exact zwithin (by assumption) (by decide) (by decide) | with_reducible exact zplaceW (by assumption) (by assumption) | with_reducible exact zlk hlk (zplaceW (by assumption) (by assumption)) | with_reducible exact zroom0 hnn hn (by assumption) | (rw [s_X0_replaceKey_1]; exact hnn) | (rw [s_X0_replaceKey_1]; exact hnd) | exact hnd | exact hnn | assumption | decide)) zGok_TT (fun _ _ _ => trivial) (fun s args hts => cwV 3 hts gX0_send_X0_sendTo rfl rfl rfl (by decide +kernel) ⟨Nat.le_of_ble_eq_true rfl, Nat.le_of_ble_eq_true rfl⟩) (ci := 0) rfl rfl rfl rfl (Nat.le_of_ble_eq_true rfl) ⟨Nat.le_of_ble_eq_true rfl, Nat.le_of_ble_eq_true rfl⟩ dX0_send_53 rfl (fun r u2 hp => ?_)
    obtain ⟨rfl, rfl⟩ := hp
    exact hret _ (s_X0_sendTo (s_X0_replaceKey u p1 p2) ((s_X0_replaceKey u p1 p2).2 0 (ix p1)) p3 p4) _ _ _ dX0_send_56 ⟨(by rw [r_X0_send, if_neg c_9_1]), (by rw [s_X0_send, if_neg c_9_1])⟩ rfl
set_option maxHeartbeats 4000000 in
set_option maxRecDepth 100000 in
theorem t_X0_send (l : Launch) (hlt : l.stackTraces = false) (D : va_G) (cI cZ : ClassId) (h : Nat) (a : Nat → Nat) (u : SX) (p1 p2 p3 p4 : Int32) (he : e_X0_send u p1 p2 p3 p4 ≠ 0) (nd : Nat) (hnd : u.1 10 = nI nd) (hd : nd ≤ 16) (nn : Nat) (hnn : u.1 16 = nI nn) (hn : nn ≤ 120) (hlk : ∀ i : Nat, i < 80 → (u.2 15 i) = (-1) ∨ vp_in (u.2 15 i) 120) : zMx l yX0_send wsX0_send ({ frames := 7, cells := 1, slots := 6, locals := 136 } : Room) D [(cI, .int), (cZ, .boolean)] (wX0 cI cZ h a u) [.ref h, .int p1, .int p2, .int p3, .int p4] (fun E' => E' = zEx (e_X0_send u p1 p2 p3 p4)) := by
  refine z_startX (cc := cX0_send) (n := 5) (own := RX0) (L0 := [(0, .ref h), (1, .int p1), (2, .int p2), (3, .int p3), (4, .int p4)]) hlt (by decide) rfl rfl (Nat.le_of_ble_eq_true rfl) rfl ⟨Nat.le_of_ble_eq_true rfl, Nat.le_of_ble_eq_true rfl⟩ (fun E hlt hthr hthrow => ?_)
  refine z_iload_n 1 dX0_send_0 rfl ?_
  refine z_iconst (v := 0) dX0_send_1 rfl ?_
  refine z_bipush (v := 7) dX0_send_2 rfl ?_
  by_cases e_4_0 : (e_X0_requireWithin p1 0 7) = 0
  ·
    refine z_callSv (As := [.int p1, .int 0, .int 7]) (st := []) (fun l => c_X0_requireWithin l D _ _ p1 0 7 (by assumption)) zGok_TT (fun _ _ _ => trivial) (fun s args hts => va_cwS 3 hts gX0_send_X0_requireWithin rfl rfl rfl (by decide +kernel) ⟨Nat.le_of_ble_eq_true rfl, Nat.le_of_ble_eq_true rfl⟩) rfl (Nat.le_of_ble_eq_true rfl) ⟨Nat.le_of_ble_eq_true rfl, Nat.le_of_ble_eq_true rfl⟩ dX0_send_4 rfl (fun u2 hp => ?_)
    clear hp
    refine z_iload_n 2 dX0_send_7 rfl ?_
    refine z_iconst (v := (-1)) dX0_send_8 rfl ?_
    refine z_icmp_eq 19 dX0_send_9 (by decide) (fun c_9_1 => ?_) (fun c_9_1 => ?_)
    ·
      refine z_iload 4 dX0_send_19 rfl ?_
      refine z_iconst (v := 1) dX0_send_21 rfl ?_
      refine z_sipush (v := 10000) dX0_send_22 rfl ?_
      by_cases e_25_2 : (e_X0_requireWithin p4 1 10000) = 0
      ·
        refine z_callSv (As := [.int p4, .int 1, .int 10000]) (st := []) (fun l => c_X0_requireWithin l D _ _ p4 1 10000 (by assumption)) zGok_TT (fun _ _ _ => trivial) (fun s args hts => va_cwS 3 hts gX0_send_X0_requireWithin rfl rfl rfl (by decide +kernel) ⟨Nat.le_of_ble_eq_true rfl, Nat.le_of_ble_eq_true rfl⟩) rfl (Nat.le_of_ble_eq_true rfl) ⟨Nat.le_of_ble_eq_true rfl, Nat.le_of_ble_eq_true rfl⟩ dX0_send_25 rfl (fun u2 hp => ?_)
        clear hp
        refine z_aload_n 0 dX0_send_28 rfl ?_
        by_cases e_29_3 : (e_X0_requireRoomForNotice u ) = 0
        ·
          refine z_callVv (As := []) (st := []) (fun l => c_X0_requireRoomForNotice l D cI cZ h a u  (by assumption)) zGok_TT (fun _ _ _ => trivial) (fun s args hts => cwV 0 hts gX0_send_X0_requireRoomForNotice rfl rfl rfl (by decide +kernel) ⟨Nat.le_of_ble_eq_true rfl, Nat.le_of_ble_eq_true rfl⟩) (ci := 0) rfl rfl rfl rfl (Nat.le_of_ble_eq_true rfl) ⟨Nat.le_of_ble_eq_true rfl, Nat.le_of_ble_eq_true rfl⟩ dX0_send_29 rfl (fun u2 hp => ?_)
          clear hp
          exact absurd (by rw [e_X0_send, if_pos e_4_0, if_pos c_9_1, if_pos e_25_2, if_pos e_29_3]) he
        ·
          refine z_callVx (As := []) (st := []) hlt (fun l hl => t_X0_requireRoomForNotice l hl D cI cZ h a u  (by assumption)) (fun s args hts => cwV 0 hts gX0_send_X0_requireRoomForNotice rfl rfl rfl (by decide +kernel) ⟨Nat.le_of_ble_eq_true rfl, Nat.le_of_ble_eq_true rfl⟩) (ci := 0) rfl rfl rfl rfl (Nat.le_of_ble_eq_true rfl) ⟨Nat.le_of_ble_eq_true rfl, Nat.le_of_ble_eq_true rfl⟩ dX0_send_29 rfl ?_
          exact hthr _ _ _ (fun E' hE => by rw [e_X0_send, if_pos e_4_0, if_pos c_9_1, if_pos e_25_2, if_neg e_29_3]; exact hE)
      ·
        refine z_callSx (As := [.int p4, .int 1, .int 10000]) (st := []) hlt (fun l hl => t_X0_requireWithin l hl D _ _ p4 1 10000 (by assumption)) (fun s args hts => va_cwS 3 hts gX0_send_X0_requireWithin rfl rfl rfl (by decide +kernel) ⟨Nat.le_of_ble_eq_true rfl, Nat.le_of_ble_eq_true rfl⟩) rfl (Nat.le_of_ble_eq_true rfl) ⟨Nat.le_of_ble_eq_true rfl, Nat.le_of_ble_eq_true rfl⟩ dX0_send_25 rfl ?_
        exact hthr _ _ _ (fun E' hE => by rw [e_X0_send, if_pos e_4_0, if_pos c_9_1, if_neg e_25_2]; exact hE)
    ·
      refine z_iload_n 2 dX0_send_12 rfl ?_
      refine z_iconst (v := 0) dX0_send_13 rfl ?_
      refine z_bipush (v := 9) dX0_send_14 rfl ?_
      by_cases e_16_5 : (e_X0_requireWithin p2 0 9) = 0
      ·
        refine z_callSv (As := [.int p2, .int 0, .int 9]) (st := []) (fun l => c_X0_requireWithin l D _ _ p2 0 9 (by assumption)) zGok_TT (fun _ _ _ => trivial) (fun s args hts => va_cwS 3 hts gX0_send_X0_requireWithin rfl rfl rfl (by decide +kernel) ⟨Nat.le_of_ble_eq_true rfl, Nat.le_of_ble_eq_true rfl⟩) rfl (Nat.le_of_ble_eq_true rfl) ⟨Nat.le_of_ble_eq_true rfl, Nat.le_of_ble_eq_true rfl⟩ dX0_send_16 rfl (fun u2 hp => ?_)
        clear hp
        refine z_iload 4 dX0_send_19 rfl ?_
        refine z_iconst (v := 1) dX0_send_21 rfl ?_
        refine z_sipush (v := 10000) dX0_send_22 rfl ?_
        by_cases e_25_6 : (e_X0_requireWithin p4 1 10000) = 0
        ·
          refine z_callSv (As := [.int p4, .int 1, .int 10000]) (st := []) (fun l => c_X0_requireWithin l D _ _ p4 1 10000 (by assumption)) zGok_TT (fun _ _ _ => trivial) (fun s args hts => va_cwS 3 hts gX0_send_X0_requireWithin rfl rfl rfl (by decide +kernel) ⟨Nat.le_of_ble_eq_true rfl, Nat.le_of_ble_eq_true rfl⟩) rfl (Nat.le_of_ble_eq_true rfl) ⟨Nat.le_of_ble_eq_true rfl, Nat.le_of_ble_eq_true rfl⟩ dX0_send_25 rfl (fun u2 hp => ?_)
          clear hp
          refine z_aload_n 0 dX0_send_28 rfl ?_
          by_cases e_29_7 : (e_X0_requireRoomForNotice u ) = 0
          ·
            refine z_callVv (As := []) (st := []) (fun l => c_X0_requireRoomForNotice l D cI cZ h a u  (by assumption)) zGok_TT (fun _ _ _ => trivial) (fun s args hts => cwV 0 hts gX0_send_X0_requireRoomForNotice rfl rfl rfl (by decide +kernel) ⟨Nat.le_of_ble_eq_true rfl, Nat.le_of_ble_eq_true rfl⟩) (ci := 0) rfl rfl rfl rfl (Nat.le_of_ble_eq_true rfl) ⟨Nat.le_of_ble_eq_true rfl, Nat.le_of_ble_eq_true rfl⟩ dX0_send_29 rfl (fun u2 hp => ?_)
            clear hp
            exact absurd (by rw [e_X0_send, if_pos e_4_0, if_neg c_9_1, if_pos e_16_5, if_pos e_25_6, if_pos e_29_7]) he
          ·
            refine z_callVx (As := []) (st := []) hlt (fun l hl => t_X0_requireRoomForNotice l hl D cI cZ h a u  (by assumption)) (fun s args hts => cwV 0 hts gX0_send_X0_requireRoomForNotice rfl rfl rfl (by decide +kernel) ⟨Nat.le_of_ble_eq_true rfl, Nat.le_of_ble_eq_true rfl⟩) (ci := 0) rfl rfl rfl rfl (Nat.le_of_ble_eq_true rfl) ⟨Nat.le_of_ble_eq_true rfl, Nat.le_of_ble_eq_true rfl⟩ dX0_send_29 rfl ?_
            exact hthr _ _ _ (fun E' hE => by rw [e_X0_send, if_pos e_4_0, if_neg c_9_1, if_pos e_16_5, if_pos e_25_6, if_neg e_29_7]; exact hE)
        ·
          refine z_callSx (As := [.int p4, .int 1, .int 10000]) (st := []) hlt (fun l hl => t_X0_requireWithin l hl D _ _ p4 1 10000 (by assumption)) (fun s args hts => va_cwS 3 hts gX0_send_X0_requireWithin rfl rfl rfl (by decide +kernel) ⟨Nat.le_of_ble_eq_true rfl, Nat.le_of_ble_eq_true rfl⟩) rfl (Nat.le_of_ble_eq_true rfl) ⟨Nat.le_of_ble_eq_true rfl, Nat.le_of_ble_eq_true rfl⟩ dX0_send_25 rfl ?_
          exact hthr _ _ _ (fun E' hE => by rw [e_X0_send, if_pos e_4_0, if_neg c_9_1, if_pos e_16_5, if_neg e_25_6]; exact hE)
      ·
        refine z_callSx (As := [.int p2, .int 0, .int 9]) (st := []) hlt (fun l hl => t_X0_requireWithin l hl D _ _ p2 0 9 (by assumption)) (fun s args hts => va_cwS 3 hts gX0_send_X0_requireWithin rfl rfl rfl (by decide +kernel) ⟨Nat.le_of_ble_eq_true rfl, Nat.le_of_ble_eq_true rfl⟩) rfl (Nat.le_of_ble_eq_true rfl) ⟨Nat.le_of_ble_eq_true rfl, Nat.le_of_ble_eq_true rfl⟩ dX0_send_16 rfl ?_
        exact hthr _ _ _ (fun E' hE => by rw [e_X0_send, if_pos e_4_0, if_neg c_9_1, if_neg e_16_5]; exact hE)
  ·
    refine z_callSx (As := [.int p1, .int 0, .int 7]) (st := []) hlt (fun l hl => t_X0_requireWithin l hl D _ _ p1 0 7 (by assumption)) (fun s args hts => va_cwS 3 hts gX0_send_X0_requireWithin rfl rfl rfl (by decide +kernel) ⟨Nat.le_of_ble_eq_true rfl, Nat.le_of_ble_eq_true rfl⟩) rfl (Nat.le_of_ble_eq_true rfl) ⟨Nat.le_of_ble_eq_true rfl, Nat.le_of_ble_eq_true rfl⟩ dX0_send_4 rfl ?_
    exact hthr _ _ _ (fun E' hE => by rw [e_X0_send, if_neg e_4_0]; exact hE)
