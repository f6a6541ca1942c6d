theorem zin01 : vp_in 0 1 := by
  show vp_in (nI 0) 1
  exact vp_in_nI (by omega) (by omega)
theorem ecW (p lo hi : Int32) : e_X0_requireWithin p lo hi = 0 ∨ e_X0_requireWithin p lo hi = 1 := by
  unfold e_X0_requireWithin; (repeat' split) <;> simp
theorem ecD (u : SX) (p : Int32) : e_X0_requireDevice u p = 0 ∨ e_X0_requireDevice u p = 3 := by
  unfold e_X0_requireDevice; (repeat' split) <;> simp
theorem ecN (u : SX) (p : Int32) : e_X0_requireNotice u p = 0 ∨ e_X0_requireNotice u p = 3 := by
  unfold e_X0_requireNotice; (repeat' split) <;> simp
theorem ecR (u : SX) : e_X0_requireRoomForNotice u = 0 ∨ e_X0_requireRoomForNotice u = 2 := by
  unfold e_X0_requireRoomForNotice; split <;> simp
theorem ec_X0_addDevice (u : SX) (p1 p2 : Int32) : e_X0_addDevice u p1 p2 = 0 ∨ e_X0_addDevice u p1 p2 = 1 ∨ e_X0_addDevice u p1 p2 = 2 := by
  have h0 := ecW p1 0 7
  have h1 := ecW p2 (-720) 840
  unfold e_X0_addDevice
  (repeat' split) <;> omega
set_option maxHeartbeats 4000000 in
set_option maxRecDepth 100000 in
theorem kn_addDevice (l : Launch) (D : va_G) (cI cZ cJ : ClassId) (h : Nat) (a : Nat → Nat) (o : Nat) (u : SX) (f : Nat → Int64) (p1 p2 : Int32) (he : e_X0_addDevice u p1 p2 = 0) (nd : Nat) (hnd : u.1 10 = nI nd) (hd : nd ≤ 16) : zMi l yL_addDevice wsL_addDevice ({ frames := 2, cells := 0, slots := 0, locals := 45 } : Room) zTT D [(cI, .int), (cZ, .boolean), (cJ, .long)] (wX0 cI cZ h a u ++ wO cJ o f) [.ref h, .int p1, .int p2, .ref o] (fun (r : Int32) (u2 : SX × (Nat → Int64)) => r = 0 ∧ u2.1 = (s_X0_addDevice u p1 p2) ∧ u2.2 0 = (r_X0_addDevice u p1 p2).toInt64) (fun u2 => (wX0 cI cZ h a u2.1 ++ wO cJ o u2.2)) 0 0 := by
  refine z_startH (cc := cL_addDevice) (n := 5) (own := RL) (L0 := [(0, .ref h), (1, .int p1), (2, .int p2), (3, .ref o)]) (hh := [(0, 10, 13, 13), (0, 10, 17, 15)]) (plainFor_of_name (by decide)) rfl rfl (Nat.le_of_ble_eq_true rfl) rfl (fun E hEl htab hret => ?_)
  refine z_aload_n 3 dL_addDevice_0 rfl ?_
  refine z_iconst (v := 0) dL_addDevice_1 rfl ?_
  refine z_aload_n 0 dL_addDevice_2 rfl ?_
  refine z_iload_n 1 dL_addDevice_3 rfl ?_
  refine z_iload_n 2 dL_addDevice_4 rfl ?_
  refine z_callVi_fr (As := [.int p1, .int p2]) (st := [.int 0, .ref o]) [] (wO cJ o f) (fun l => c_X0_addDevice l D cI cZ h a u p1 p2 he nd hnd hd) zGok_TT (fun _ _ _ => trivial) (fun s args hts => cwV 2 hts gL_addDevice_X0_addDevice rfl rfl rfl (by decide +kernel) ⟨Nat.le_of_ble_eq_true rfl, Nat.le_of_ble_eq_true rfl⟩) (ci := 0) rfl rfl rfl [0, 1] rfl rfl rfl (Nat.le_of_ble_eq_true rfl) ⟨Nat.le_of_ble_eq_true rfl, Nat.le_of_ble_eq_true rfl⟩ dL_addDevice_5 rfl (fun r u2 hp => ?_)
  obtain ⟨rfl, rfl⟩ := hp
  refine z_i2l (v := ((r_X0_addDevice u p1 p2)).toInt64) dL_addDevice_8 rfl ?_
  refine z_last (w' := (wX0 cI cZ h a (s_X0_addDevice u p1 p2) ++ wO cJ o (vp_updL f 0 ((r_X0_addDevice u p1 p2)).toInt64))) 13 2 rfl rfl zin01 rfl dL_addDevice_9 ?_
  refine z_goto 21 dL_addDevice_10 (by decide) ?_
  refine z_iconst (v := 0) dL_addDevice_21 rfl ?_
  exact hret _ ((s_X0_addDevice u p1 p2), (vp_updL f 0 ((r_X0_addDevice u p1 p2)).toInt64)) _ _ _ dL_addDevice_22 ⟨rfl, rfl, rfl⟩ rfl
set_option maxHeartbeats 4000000 in
set_option maxRecDepth 100000 in
theorem kx_addDevice (l : Launch) (hlt : l.stackTraces = false) (D : va_G) (cI cZ cJ : ClassId) (h : Nat) (a : Nat → Nat) (o : Nat) (u : SX) (f : Nat → Int64) (p1 p2 : Int32) (he : e_X0_addDevice u p1 p2 ≠ 0) (nd : Nat) (hnd : u.1 10 = nI nd) (hd : nd ≤ 16) : zMi l yL_addDevice wsL_addDevice ({ frames := 8, cells := 1, slots := 6, locals := 127 } : Room) zU D [(cI, .int), (cZ, .boolean), (cJ, .long)] (wX0 cI cZ h a u ++ wO cJ o f) [.ref h, .int p1, .int p2, .ref o] (fun (r : Int32) (_ : Unit) => r = (if e_X0_addDevice u p1 p2 = 1 then 1 else 2)) (fun _ => (wX0 cI cZ h a u ++ wO cJ o f)) 1 6 := by
  refine z_startH (cc := cL_addDevice) (n := 5) (own := RL) (L0 := [(0, .ref h), (1, .int p1), (2, .int p2), (3, .ref o)]) (hh := [(0, 10, 13, 13), (0, 10, 17, 15)]) (plainFor_of_name (by decide)) rfl rfl (Nat.le_of_ble_eq_true rfl) rfl (fun E hEl htab hret => ?_)
  refine z_aload_n 3 dL_addDevice_0 rfl ?_
  refine z_iconst (v := 0) dL_addDevice_1 rfl ?_
  refine z_aload_n 0 dL_addDevice_2 rfl ?_
  refine z_iload_n 1 dL_addDevice_3 rfl ?_
  refine z_iload_n 2 dL_addDevice_4 rfl ?_
  refine z_callVx_fr (As := [.int p1, .int p2]) (st := [.int 0, .ref o]) [] (wO cJ o f) (by rw [hEl]; exact hlt) (fun l hl => t_X0_addDevice l hl D cI cZ h a u p1 p2 he nd hnd hd) (fun s args hts => cwV 2 hts gL_addDevice_X0_addDevice rfl rfl rfl (by decide +kernel) ⟨Nat.le_of_ble_eq_true rfl, Nat.le_of_ble_eq_true rfl⟩) (ci := 0) rfl rfl rfl [0, 1] rfl rfl rfl (Nat.le_of_ble_eq_true rfl) ⟨Nat.le_of_ble_eq_true rfl, Nat.le_of_ble_eq_true rfl⟩ dL_addDevice_5 rfl ?_
  rcases (ec_X0_addDevice u p1 p2).resolve_left he with hc | hc
  ·
    refine z_catch htab "java/lang/IllegalArgumentException" [] ⟨0, 10, 13, 13⟩ [⟨0, 10, 17, 15⟩] rfl (fun z hz => nomatch hz) (by decide) (by decide) (List.mem_of_getElem? (i := 1) rfl) (by decide) (fun E' hE => by rw [hE, hc]; rfl) (fun q9 => ?_)
    refine z_astore (L' := [(4, .ref q9), (0, .ref h), (1, .int p1), (2, .int p2), (3, .ref o)]) dL_addDevice_13 (by decide) rfl ?_
    refine z_iconst (v := 1) dL_addDevice_15 rfl ?_
    exact hret _ () _ _ _ dL_addDevice_16 (if_pos hc).symm rfl
  ·
    refine z_catch htab "java/lang/IllegalStateException" [⟨0, 10, 13, 13⟩] ⟨0, 10, 17, 15⟩ [] rfl (fun z hz => by obtain rfl := List.mem_singleton.mp hz; exact ⟨by decide, "java/lang/IllegalArgumentException", List.mem_of_getElem? (i := 1) rfl, by decide⟩) (by decide) (by decide) (List.mem_of_getElem? (i := 2) rfl) (by decide) (fun E' hE => by rw [hE, hc]; rfl) (fun q9 => ?_)
    refine z_astore (L' := [(4, .ref q9), (0, .ref h), (1, .int p1), (2, .int p2), (3, .ref o)]) dL_addDevice_17 (by decide) rfl ?_
    refine z_iconst (v := 2) dL_addDevice_19 rfl ?_
    exact hret _ () _ _ _ dL_addDevice_20 (if_neg (by rw [hc]; decide)).symm rfl
theorem ec_X0_setOnline (u : SX) (p1 p2 : Int32) : e_X0_setOnline u p1 p2 = 0 ∨ e_X0_setOnline u p1 p2 = 3 := by
  have h0 := ecD u p1
  unfold e_X0_setOnline
  (repeat' split) <;> omega
set_option maxHeartbeats 4000000 in
set_option maxRecDepth 100000 in
theorem kn_setOnline (l : Launch) (D : va_G) (cI cZ cJ : ClassId) (h : Nat) (a : Nat → Nat) (o : Nat) (u : SX) (f : Nat → Int64) (p1 p2 : Int32) (he : e_X0_setOnline u p1 p2 = 0) (nd : Nat) (hnd : u.1 10 = nI nd) (hd : nd ≤ 16) (nn : Nat) (hnn : u.1 16 = nI nn) (hn : nn ≤ 120) : zMi l yL_setOnline wsL_setOnline ({ frames := 6, cells := 0, slots := 0, locals := 134 } : Room) zTT D [(cI, .int), (cZ, .boolean), (cJ, .long)] (wX0 cI cZ h a u ++ wO cJ o f) [.ref h, .int p1, .int p2, .ref o] (fun (r : Int32) (u2 : SX × (Nat → Int64)) => r = 0 ∧ u2.1 = (s_X0_setOnline u p1 p2) ∧ u2.2 0 = (r_X0_setOnline u p1 p2).toInt64) (fun u2 => (wX0 cI cZ h a u2.1 ++ wO cJ o u2.2)) 0 0 := by
  refine z_startH (cc := cL_setOnline) (n := 5) (own := RL) (L0 := [(0, .ref h), (1, .int p1), (2, .int p2), (3, .ref o)]) (hh := [(0, 10, 13, 21)]) (plainFor_of_name (by decide)) rfl rfl (Nat.le_of_ble_eq_true rfl) rfl (fun E hEl htab hret => ?_)
  refine z_aload_n 3 dL_setOnline_0 rfl ?_
  refine z_iconst (v := 0) dL_setOnline_1 rfl ?_
  refine z_aload_n 0 dL_setOnline_2 rfl ?_
  refine z_iload_n 1 dL_setOnline_3 rfl ?_
  refine z_iload_n 2 dL_setOnline_4 rfl ?_
  refine z_callVi_fr (As := [.int p1, .int p2]) (st := [.int 0, .ref o]) [] (wO cJ o f) (fun l => c_X0_setOnline l D cI cZ h a u p1 p2 he nd hnd hd nn hnn hn) zGok_TT (fun _ _ _ => trivial) (fun s args hts => cwV 2 hts gL_setOnline_X0_setOnline rfl rfl rfl (by decide +kernel) ⟨Nat.le_of_ble_eq_true rfl, Nat.le_of_ble_eq_true rfl⟩) (ci := 0) rfl rfl rfl [0, 1] rfl rfl rfl (Nat.le_of_ble_eq_true rfl) ⟨Nat.le_of_ble_eq_true rfl, Nat.le_of_ble_eq_true rfl⟩ dL_setOnline_5 rfl (fun r u2 hp => ?_)
  obtain ⟨rfl, rfl⟩ := hp
  refine z_i2l (v := ((r_X0_setOnline u p1 p2)).toInt64) dL_setOnline_8 rfl ?_
  refine z_last (w' := (wX0 cI cZ h a (s_X0_setOnline u p1 p2) ++ wO cJ o (vp_updL f 0 ((r_X0_setOnline u p1 p2)).toInt64))) 13 2 rfl rfl zin01 rfl dL_setOnline_9 ?_
  refine z_goto 17 dL_setOnline_10 (by decide) ?_
  refine z_iconst (v := 0) dL_setOnline_17 rfl ?_
  exact hret _ ((s_X0_setOnline u p1 p2), (vp_updL f 0 ((r_X0_setOnline u p1 p2)).toInt64)) _ _ _ dL_setOnline_18 ⟨rfl, rfl, rfl⟩ rfl
set_option maxHeartbeats 4000000 in
set_option maxRecDepth 100000 in
theorem kx_setOnline (l : Launch) (hlt : l.stackTraces = false) (D : va_G) (cI cZ cJ : ClassId) (h : Nat) (a : Nat → Nat) (o : Nat) (u : SX) (f : Nat → Int64) (p1 p2 : Int32) (he : e_X0_setOnline u p1 p2 ≠ 0) (nd : Nat) (hnd : u.1 10 = nI nd) (hd : nd ≤ 16) (nn : Nat) (hnn : u.1 16 = nI nn) (hn : nn ≤ 120) : zMi l yL_setOnline wsL_setOnline ({ frames := 8, cells := 1, slots := 6, locals := 134 } : Room) zU D [(cI, .int), (cZ, .boolean), (cJ, .long)] (wX0 cI cZ h a u ++ wO cJ o f) [.ref h, .int p1, .int p2, .ref o] (fun (r : Int32) (_ : Unit) => r = 1) (fun _ => (wX0 cI cZ h a u ++ wO cJ o f)) 1 6 := by
  refine z_startH (cc := cL_setOnline) (n := 5) (own := RL) (L0 := [(0, .ref h), (1, .int p1), (2, .int p2), (3, .ref o)]) (hh := [(0, 10, 13, 21)]) (plainFor_of_name (by decide)) rfl rfl (Nat.le_of_ble_eq_true rfl) rfl (fun E hEl htab hret => ?_)
  refine z_aload_n 3 dL_setOnline_0 rfl ?_
  refine z_iconst (v := 0) dL_setOnline_1 rfl ?_
  refine z_aload_n 0 dL_setOnline_2 rfl ?_
  refine z_iload_n 1 dL_setOnline_3 rfl ?_
  refine z_iload_n 2 dL_setOnline_4 rfl ?_
  refine z_callVx_fr (As := [.int p1, .int p2]) (st := [.int 0, .ref o]) [] (wO cJ o f) (by rw [hEl]; exact hlt) (fun l hl => t_X0_setOnline l hl D cI cZ h a u p1 p2 he nd hnd hd nn hnn hn) (fun s args hts => cwV 2 hts gL_setOnline_X0_setOnline rfl rfl rfl (by decide +kernel) ⟨Nat.le_of_ble_eq_true rfl, Nat.le_of_ble_eq_true rfl⟩) (ci := 0) rfl rfl rfl [0, 1] rfl rfl rfl (Nat.le_of_ble_eq_true rfl) ⟨Nat.le_of_ble_eq_true rfl, Nat.le_of_ble_eq_true rfl⟩ dL_setOnline_5 rfl ?_
  have hc := (ec_X0_setOnline u p1 p2).resolve_left he
  refine z_catch htab "java/lang/IndexOutOfBoundsException" [] ⟨0, 10, 13, 21⟩ [] rfl (fun z hz => nomatch hz) (by decide) (by decide) (List.mem_of_getElem? (i := 1) rfl) (by decide) (fun E' hE => by rw [hE, hc]; rfl) (fun q9 => ?_)
  refine z_astore (L' := [(4, .ref q9), (0, .ref h), (1, .int p1), (2, .int p2), (3, .ref o)]) dL_setOnline_13 (by decide) rfl ?_
  refine z_iconst (v := 1) dL_setOnline_15 rfl ?_
  exact hret _ () _ _ _ dL_setOnline_16 rfl rfl
theorem ec_X0_setDozing (u : SX) (p1 p2 : Int32) : e_X0_setDozing u p1 p2 = 0 ∨ e_X0_setDozing u p1 p2 = 3 := by
  have h0 := ecD u p1
  unfold e_X0_setDozing
  (repeat' split) <;> omega
set_option maxHeartbeats 4000000 in
set_option maxRecDepth 100000 in
theorem kn_setDozing (l : Launch) (D : va_G) (cI cZ cJ : ClassId) (h : Nat) (a : Nat → Nat) (o : Nat) (u : SX) (f : Nat → Int64) (p1 p2 : Int32) (he : e_X0_setDozing u p1 p2 = 0) (nd : Nat) (hnd : u.1 10 = nI nd) (hd : nd ≤ 16) (nn : Nat) (hnn : u.1 16 = nI nn) (hn : nn ≤ 120) : zMi l yL_setDozing wsL_setDozing ({ frames := 6, cells := 0, slots := 0, locals := 134 } : Room) zTT D [(cI, .int), (cZ, .boolean), (cJ, .long)] (wX0 cI cZ h a u ++ wO cJ o f) [.ref h, .int p1, .int p2, .ref o] (fun (r : Int32) (u2 : SX × (Nat → Int64)) => r = 0 ∧ u2.1 = (s_X0_setDozing u p1 p2) ∧ u2.2 0 = (r_X0_setDozing u p1 p2).toInt64) (fun u2 => (wX0 cI cZ h a u2.1 ++ wO cJ o u2.2)) 0 0 := by
  refine z_startH (cc := cL_setDozing) (n := 5) (own := RL) (L0 := [(0, .ref h), (1, .int p1), (2, .int p2), (3, .ref o)]) (hh := [(0, 10, 13, 21)]) (plainFor_of_name (by decide)) rfl rfl (Nat.le_of_ble_eq_true rfl) rfl (fun E hEl htab hret => ?_)
  refine z_aload_n 3 dL_setDozing_0 rfl ?_
  refine z_iconst (v := 0) dL_setDozing_1 rfl ?_
  refine z_aload_n 0 dL_setDozing_2 rfl ?_
  refine z_iload_n 1 dL_setDozing_3 rfl ?_
  refine z_iload_n 2 dL_setDozing_4 rfl ?_
  refine z_callVi_fr (As := [.int p1, .int p2]) (st := [.int 0, .ref o]) [] (wO cJ o f) (fun l => c_X0_setDozing l D cI cZ h a u p1 p2 he nd hnd hd nn hnn hn) zGok_TT (fun _ _ _ => trivial) (fun s args hts => cwV 2 hts gL_setDozing_X0_setDozing rfl rfl rfl (by decide +kernel) ⟨Nat.le_of_ble_eq_true rfl, Nat.le_of_ble_eq_true rfl⟩) (ci := 0) rfl rfl rfl [0, 1] rfl rfl rfl (Nat.le_of_ble_eq_true rfl) ⟨Nat.le_of_ble_eq_true rfl, Nat.le_of_ble_eq_true rfl⟩ dL_setDozing_5 rfl (fun r u2 hp => ?_)
  obtain ⟨rfl, rfl⟩ := hp
  refine z_i2l (v := ((r_X0_setDozing u p1 p2)).toInt64) dL_setDozing_8 rfl ?_
  refine z_last (w' := (wX0 cI cZ h a (s_X0_setDozing u p1 p2) ++ wO cJ o (vp_updL f 0 ((r_X0_setDozing u p1 p2)).toInt64))) 13 2 rfl rfl zin01 rfl dL_setDozing_9 ?_
  refine z_goto 17 dL_setDozing_10 (by decide) ?_
  refine z_iconst (v := 0) dL_setDozing_17 rfl ?_
  exact hret _ ((s_X0_setDozing u p1 p2), (vp_updL f 0 ((r_X0_setDozing u p1 p2)).toInt64)) _ _ _ dL_setDozing_18 ⟨rfl, rfl, rfl⟩ rfl
set_option maxHeartbeats 4000000 in
set_option maxRecDepth 100000 in
theorem kx_setDozing (l : Launch) (hlt : l.stackTraces = false) (D : va_G) (cI cZ cJ : ClassId) (h : Nat) (a : Nat → Nat) (o : Nat) (u : SX) (f : Nat → Int64) (p1 p2 : Int32) (he : e_X0_setDozing u p1 p2 ≠ 0) (nd : Nat) (hnd : u.1 10 = nI nd) (hd : nd ≤ 16) (nn : Nat) (hnn : u.1 16 = nI nn) (hn : nn ≤ 120) : zMi l yL_setDozing wsL_setDozing ({ frames := 8, cells := 1, slots := 6, locals := 134 } : Room) zU D [(cI, .int), (cZ, .boolean), (cJ, .long)] (wX0 cI cZ h a u ++ wO cJ o f) [.ref h, .int p1, .int p2, .ref o] (fun (r : Int32) (_ : Unit) => r = 1) (fun _ => (wX0 cI cZ h a u ++ wO cJ o f)) 1 6 := by
  refine z_startH (cc := cL_setDozing) (n := 5) (own := RL) (L0 := [(0, .ref h), (1, .int p1), (2, .int p2), (3, .ref o)]) (hh := [(0, 10, 13, 21)]) (plainFor_of_name (by decide)) rfl rfl (Nat.le_of_ble_eq_true rfl) rfl (fun E hEl htab hret => ?_)
  refine z_aload_n 3 dL_setDozing_0 rfl ?_
  refine z_iconst (v := 0) dL_setDozing_1 rfl ?_
  refine z_aload_n 0 dL_setDozing_2 rfl ?_
  refine z_iload_n 1 dL_setDozing_3 rfl ?_
  refine z_iload_n 2 dL_setDozing_4 rfl ?_
  refine z_callVx_fr (As := [.int p1, .int p2]) (st := [.int 0, .ref o]) [] (wO cJ o f) (by rw [hEl]; exact hlt) (fun l hl => t_X0_setDozing l hl D cI cZ h a u p1 p2 he nd hnd hd nn hnn hn) (fun s args hts => cwV 2 hts gL_setDozing_X0_setDozing rfl rfl rfl (by decide +kernel) ⟨Nat.le_of_ble_eq_true rfl, Nat.le_of_ble_eq_true rfl⟩) (ci := 0) rfl rfl rfl [0, 1] rfl rfl rfl (Nat.le_of_ble_eq_true rfl) ⟨Nat.le_of_ble_eq_true rfl, Nat.le_of_ble_eq_true rfl⟩ dL_setDozing_5 rfl ?_
  have hc := (ec_X0_setDozing u p1 p2).resolve_left he
  refine z_catch htab "java/lang/IndexOutOfBoundsException" [] ⟨0, 10, 13, 21⟩ [] rfl (fun z hz => nomatch hz) (by decide) (by decide) (List.mem_of_getElem? (i := 1) rfl) (by decide) (fun E' hE => by rw [hE, hc]; rfl) (fun q9 => ?_)
  refine z_astore (L' := [(4, .ref q9), (0, .ref h), (1, .int p1), (2, .int p2), (3, .ref o)]) dL_setDozing_13 (by decide) rfl ?_
  refine z_iconst (v := 1) dL_setDozing_15 rfl ?_
  exact hret _ () _ _ _ dL_setDozing_16 rfl rfl
theorem ec_X0_setQuiet (u : SX) (p1 p2 p3 : Int32) : e_X0_setQuiet u p1 p2 p3 = 0 ∨ e_X0_setQuiet u p1 p2 p3 = 3 ∨ e_X0_setQuiet u p1 p2 p3 = 1 := by
  have h0 := ecD u p1
  have h1 := ecW p2 0 1439
  have h2 := ecW p3 0 1439
  unfold e_X0_setQuiet
  (repeat' split) <;> omega
set_option maxHeartbeats 4000000 in
set_option maxRecDepth 100000 in
theorem kn_setQuiet (l : Launch) (D : va_G) (cI cZ cJ : ClassId) (h : Nat) (a : Nat → Nat) (o : Nat) (u : SX) (f : Nat → Int64) (p1 p2 p3 : Int32) (he : e_X0_setQuiet u p1 p2 p3 = 0) (nd : Nat) (hnd : u.1 10 = nI nd) (hd : nd ≤ 16) (nn : Nat) (hnn : u.1 16 = nI nn) (hn : nn ≤ 120) : zMi l yL_setQuiet wsL_setQuiet ({ frames := 6, cells := 0, slots := 0, locals := 135 } : Room) zTT D [(cI, .int), (cZ, .boolean), (cJ, .long)] (wX0 cI cZ h a u ++ wO cJ o f) [.ref h, .int p1, .int p2, .int p3, .ref o] (fun (r : Int32) (u2 : SX × (Nat → Int64)) => r = 0 ∧ u2.1 = (s_X0_setQuiet u p1 p2 p3) ∧ u2.2 0 = (r_X0_setQuiet u p1 p2 p3).toInt64) (fun u2 => (wX0 cI cZ h a u2.1 ++ wO cJ o u2.2)) 0 0 := by
  refine z_startH (cc := cL_setQuiet) (n := 6) (own := RL) (L0 := [(0, .ref h), (1, .int p1), (2, .int p2), (3, .int p3), (4, .ref o)]) (hh := [(0, 12, 15, 21), (0, 12, 19, 13)]) (plainFor_of_name (by decide)) rfl rfl (Nat.le_of_ble_eq_true rfl) rfl (fun E hEl htab hret => ?_)
  refine z_aload 4 dL_setQuiet_0 rfl ?_
  refine z_iconst (v := 0) dL_setQuiet_2 rfl ?_
  refine z_aload_n 0 dL_setQuiet_3 rfl ?_
  refine z_iload_n 1 dL_setQuiet_4 rfl ?_
  refine z_iload_n 2 dL_setQuiet_5 rfl ?_
  refine z_iload_n 3 dL_setQuiet_6 rfl ?_
  refine z_callVi_fr (As := [.int p1, .int p2, .int p3]) (st := [.int 0, .ref o]) [] (wO cJ o f) (fun l => c_X0_setQuiet l D cI cZ h a u p1 p2 p3 he nd hnd hd nn hnn hn) zGok_TT (fun _ _ _ => trivial) (fun s args hts => cwV 3 hts gL_setQuiet_X0_setQuiet rfl rfl rfl (by decide +kernel) ⟨Nat.le_of_ble_eq_true rfl, Nat.le_of_ble_eq_true rfl⟩) (ci := 0) rfl rfl rfl [0, 1] rfl rfl rfl (Nat.le_of_ble_eq_true rfl) ⟨Nat.le_of_ble_eq_true rfl, Nat.le_of_ble_eq_true rfl⟩ dL_setQuiet_7 rfl (fun r u2 hp => ?_)
  obtain ⟨rfl, rfl⟩ := hp
  refine z_i2l (v := ((r_X0_setQuiet u p1 p2 p3)).toInt64) dL_setQuiet_10 rfl ?_
  refine z_last (w' := (wX0 cI cZ h a (s_X0_setQuiet u p1 p2 p3) ++ wO cJ o (vp_updL f 0 ((r_X0_setQuiet u p1 p2 p3)).toInt64))) 13 2 rfl rfl zin01 rfl dL_setQuiet_11 ?_
  refine z_goto 23 dL_setQuiet_12 (by decide) ?_
  refine z_iconst (v := 0) dL_setQuiet_23 rfl ?_
  exact hret _ ((s_X0_setQuiet u p1 p2 p3), (vp_updL f 0 ((r_X0_setQuiet u p1 p2 p3)).toInt64)) _ _ _ dL_setQuiet_24 ⟨rfl, rfl, rfl⟩ rfl
set_option maxHeartbeats 4000000 in
set_option maxRecDepth 100000 in
theorem kx_setQuiet (l : Launch) (hlt : l.stackTraces = false) (D : va_G) (cI cZ cJ : ClassId) (h : Nat) (a : Nat → Nat) (o : Nat) (u : SX) (f : Nat → Int64) (p1 p2 p3 : Int32) (he : e_X0_setQuiet u p1 p2 p3 ≠ 0) (nd : Nat) (hnd : u.1 10 = nI nd) (hd : nd ≤ 16) (nn : Nat) (hnn : u.1 16 = nI nn) (hn : nn ≤ 120) : zMi l yL_setQuiet wsL_setQuiet ({ frames := 8, cells := 1, slots := 6, locals := 135 } : Room) zU D [(cI, .int), (cZ, .boolean), (cJ, .long)] (wX0 cI cZ h a u ++ wO cJ o f) [.ref h, .int p1, .int p2, .int p3, .ref o] (fun (r : Int32) (_ : Unit) => r = (if e_X0_setQuiet u p1 p2 p3 = 3 then 1 else 2)) (fun _ => (wX0 cI cZ h a u ++ wO cJ o f)) 1 6 := by
  refine z_startH (cc := cL_setQuiet) (n := 6) (own := RL) (L0 := [(0, .ref h), (1, .int p1), (2, .int p2), (3, .int p3), (4, .ref o)]) (hh := [(0, 12, 15, 21), (0, 12, 19, 13)]) (plainFor_of_name (by decide)) rfl rfl (Nat.le_of_ble_eq_true rfl) rfl (fun E hEl htab hret => ?_)
  refine z_aload 4 dL_setQuiet_0 rfl ?_
  refine z_iconst (v := 0) dL_setQuiet_2 rfl ?_
  refine z_aload_n 0 dL_setQuiet_3 rfl ?_
  refine z_iload_n 1 dL_setQuiet_4 rfl ?_
  refine z_iload_n 2 dL_setQuiet_5 rfl ?_
  refine z_iload_n 3 dL_setQuiet_6 rfl ?_
  refine z_callVx_fr (As := [.int p1, .int p2, .int p3]) (st := [.int 0, .ref o]) [] (wO cJ o f) (by rw [hEl]; exact hlt) (fun l hl => t_X0_setQuiet l hl D cI cZ h a u p1 p2 p3 he nd hnd hd nn hnn hn) (fun s args hts => cwV 3 hts gL_setQuiet_X0_setQuiet rfl rfl rfl (by decide +kernel) ⟨Nat.le_of_ble_eq_true rfl, Nat.le_of_ble_eq_true rfl⟩) (ci := 0) rfl rfl rfl [0, 1] rfl rfl rfl (Nat.le_of_ble_eq_true rfl) ⟨Nat.le_of_ble_eq_true rfl, Nat.le_of_ble_eq_true rfl⟩ dL_setQuiet_7 rfl ?_
  rcases (ec_X0_setQuiet u p1 p2 p3).resolve_left he with hc | hc
  ·
    refine z_catch htab "java/lang/IndexOutOfBoundsException" [] ⟨0, 12, 15, 21⟩ [⟨0, 12, 19, 13⟩] rfl (fun z hz => nomatch hz) (by decide) (by decide) (List.mem_of_getElem? (i := 1) rfl) (by decide) (fun E' hE => by rw [hE, hc]; rfl) (fun q9 => ?_)
    refine z_astore (L' := [(5, .ref q9), (0, .ref h), (1, .int p1), (2, .int p2), (3, .int p3), (4, .ref o)]) dL_setQuiet_15 (by decide) rfl ?_
    refine z_iconst (v := 1) dL_setQuiet_17 rfl ?_
    exact hret _ () _ _ _ dL_setQuiet_18 (if_pos hc).symm rfl
  ·
    refine z_catch htab "java/lang/IllegalArgumentException" [⟨0, 12, 15, 21⟩] ⟨0, 12, 19, 13⟩ [] rfl (fun z hz => by obtain rfl := List.mem_singleton.mp hz; exact ⟨by decide, "java/lang/IndexOutOfBoundsException", List.mem_of_getElem? (i := 1) rfl, by decide⟩) (by decide) (by decide) (List.mem_of_getElem? (i := 2) rfl) (by decide) (fun E' hE => by rw [hE, hc]; rfl) (fun q9 => ?_)
    refine z_astore (L' := [(5, .ref q9), (0, .ref h), (1, .int p1), (2, .int p2), (3, .int p3), (4, .ref o)]) dL_setQuiet_19 (by decide) rfl ?_
    refine z_iconst (v := 2) dL_setQuiet_21 rfl ?_
    exact hret _ () _ _ _ dL_setQuiet_22 (if_neg (by rw [hc]; decide)).symm rfl
theorem ec_X0_join (u : SX) (p1 p2 p3 : Int32) : e_X0_join u p1 p2 p3 = 0 ∨ e_X0_join u p1 p2 p3 = 3 ∨ e_X0_join u p1 p2 p3 = 1 := by
  have h0 := ecD u p1
  have h1 := ecW p2 0 5
  unfold e_X0_join
  (repeat' split) <;> omega
set_option maxHeartbeats 4000000 in
set_option maxRecDepth 100000 in
theorem kn_join (l : Launch) (D : va_G) (cI cZ cJ : ClassId) (h : Nat) (a : Nat → Nat) (o : Nat) (u : SX) (f : Nat → Int64) (p1 p2 p3 : Int32) (he : e_X0_join u p1 p2 p3 = 0) (nd : Nat) (hnd : u.1 10 = nI nd) (hd : nd ≤ 16) : zMi l yL_join wsL_join ({ frames := 3, cells := 0, slots := 0, locals := 66 } : Room) zTT D [(cI, .int), (cZ, .boolean), (cJ, .long)] (wX0 cI cZ h a u ++ wO cJ o f) [.ref h, .int p1, .int p2, .int p3, .ref o] (fun (r : Int32) (u2 : SX × (Nat → Int64)) => r = 0 ∧ u2.1 = (s_X0_join u p1 p2 p3) ∧ u2.2 0 = (if r_X0_join u p1 p2 p3 = 0 then 0 else 1)) (fun u2 => (wX0 cI cZ h a u2.1 ++ wO cJ o u2.2)) 0 0 := by
  refine z_startH (cc := cL_join) (n := 6) (own := RL) (L0 := [(0, .ref h), (1, .int p1), (2, .int p2), (3, .int p3), (4, .ref o)]) (hh := [(0, 19, 22, 21), (0, 19, 26, 13)]) (plainFor_of_name (by decide)) rfl rfl (Nat.le_of_ble_eq_true rfl) rfl (fun E hEl htab hret => ?_)
  refine z_aload 4 dL_join_0 rfl ?_
  refine z_iconst (v := 0) dL_join_2 rfl ?_
  refine z_aload_n 0 dL_join_3 rfl ?_
  refine z_iload_n 1 dL_join_4 rfl ?_
  refine z_iload_n 2 dL_join_5 rfl ?_
  refine z_iload_n 3 dL_join_6 rfl ?_
  refine z_callVi_fr (As := [.int p1, .int p2, .int p3]) (st := [.int 0, .ref o]) [] (wO cJ o f) (fun l => c_X0_join l D cI cZ h a u p1 p2 p3 he nd hnd hd) zGok_TT (fun _ _ _ => trivial) (fun s args hts => cwV 3 hts gL_join_X0_join rfl rfl rfl (by decide +kernel) ⟨Nat.le_of_ble_eq_true rfl, Nat.le_of_ble_eq_true rfl⟩) (ci := 0) rfl rfl rfl [0, 1] rfl rfl rfl (Nat.le_of_ble_eq_true rfl) ⟨Nat.le_of_ble_eq_true rfl, Nat.le_of_ble_eq_true rfl⟩ dL_join_7 rfl (fun r u2 hp => ?_)
  obtain ⟨rfl, rfl⟩ := hp
  refine z_if_eq 17 dL_join_10 (by decide) (fun c => ?_) (fun c => ?_)
  ·
    refine z_lconst (v := 0) dL_join_17 rfl ?_
    refine z_last (w' := (wX0 cI cZ h a (s_X0_join u p1 p2 p3) ++ wO cJ o (vp_updL f 0 0))) 13 2 rfl rfl zin01 rfl dL_join_18 ?_
    refine z_goto 30 dL_join_19 (by decide) ?_
    refine z_iconst (v := 0) dL_join_30 rfl ?_
    exact hret _ ((s_X0_join u p1 p2 p3), (vp_updL f 0 0)) _ _ _ dL_join_31 ⟨rfl, rfl, (if_pos c).symm⟩ rfl
  ·
    refine z_lconst (v := 1) dL_join_13 rfl ?_
    refine z_goto 18 dL_join_14 (by decide) ?_
    refine z_last (w' := (wX0 cI cZ h a (s_X0_join u p1 p2 p3) ++ wO cJ o (vp_updL f 0 1))) 13 2 rfl rfl zin01 rfl dL_join_18 ?_
    refine z_goto 30 dL_join_19 (by decide) ?_
    refine z_iconst (v := 0) dL_join_30 rfl ?_
    exact hret _ ((s_X0_join u p1 p2 p3), (vp_updL f 0 1)) _ _ _ dL_join_31 ⟨rfl, rfl, (if_neg c).symm⟩ rfl
set_option maxHeartbeats 4000000 in
set_option maxRecDepth 100000 in
theorem kx_join (l : Launch) (hlt : l.stackTraces = false) (D : va_G) (cI cZ cJ : ClassId) (h : Nat) (a : Nat → Nat) (o : Nat) (u : SX) (f : Nat → Int64) (p1 p2 p3 : Int32) (he : e_X0_join u p1 p2 p3 ≠ 0) (nd : Nat) (hnd : u.1 10 = nI nd) (hd : nd ≤ 16) : zMi l yL_join wsL_join ({ frames := 8, cells := 1, slots := 6, locals := 128 } : Room) zU D [(cI, .int), (cZ, .boolean), (cJ, .long)] (wX0 cI cZ h a u ++ wO cJ o f) [.ref h, .int p1, .int p2, .int p3, .ref o] (fun (r : Int32) (_ : Unit) => r = (if e_X0_join u p1 p2 p3 = 3 then 1 else 2)) (fun _ => (wX0 cI cZ h a u ++ wO cJ o f)) 1 6 := by
  refine z_startH (cc := cL_join) (n := 6) (own := RL) (L0 := [(0, .ref h), (1, .int p1), (2, .int p2), (3, .int p3), (4, .ref o)]) (hh := [(0, 19, 22, 21), (0, 19, 26, 13)]) (plainFor_of_name (by decide)) rfl rfl (Nat.le_of_ble_eq_true rfl) rfl (fun E hEl htab hret => ?_)
  refine z_aload 4 dL_join_0 rfl ?_
  refine z_iconst (v := 0) dL_join_2 rfl ?_
  refine z_aload_n 0 dL_join_3 rfl ?_
  refine z_iload_n 1 dL_join_4 rfl ?_
  refine z_iload_n 2 dL_join_5 rfl ?_
  refine z_iload_n 3 dL_join_6 rfl ?_
  refine z_callVx_fr (As := [.int p1, .int p2, .int p3]) (st := [.int 0, .ref o]) [] (wO cJ o f) (by rw [hEl]; exact hlt) (fun l hl => t_X0_join l hl D cI cZ h a u p1 p2 p3 he nd hnd hd) (fun s args hts => cwV 3 hts gL_join_X0_join rfl rfl rfl (by decide +kernel) ⟨Nat.le_of_ble_eq_true rfl, Nat.le_of_ble_eq_true rfl⟩) (ci := 0) rfl rfl rfl [0, 1] rfl rfl rfl (Nat.le_of_ble_eq_true rfl) ⟨Nat.le_of_ble_eq_true rfl, Nat.le_of_ble_eq_true rfl⟩ dL_join_7 rfl ?_
  rcases (ec_X0_join u p1 p2 p3).resolve_left he with hc | hc
  ·
    refine z_catch htab "java/lang/IndexOutOfBoundsException" [] ⟨0, 19, 22, 21⟩ [⟨0, 19, 26, 13⟩] rfl (fun z hz => nomatch hz) (by decide) (by decide) (List.mem_of_getElem? (i := 1) rfl) (by decide) (fun E' hE => by rw [hE, hc]; rfl) (fun q9 => ?_)
    refine z_astore (L' := [(5, .ref q9), (0, .ref h), (1, .int p1), (2, .int p2), (3, .int p3), (4, .ref o)]) dL_join_22 (by decide) rfl ?_
    refine z_iconst (v := 1) dL_join_24 rfl ?_
    exact hret _ () _ _ _ dL_join_25 (if_pos hc).symm rfl
  ·
    refine z_catch htab "java/lang/IllegalArgumentException" [⟨0, 19, 22, 21⟩] ⟨0, 19, 26, 13⟩ [] rfl (fun z hz => by obtain rfl := List.mem_singleton.mp hz; exact ⟨by decide, "java/lang/IndexOutOfBoundsException", List.mem_of_getElem? (i := 1) rfl, by decide⟩) (by decide) (by decide) (List.mem_of_getElem? (i := 2) rfl) (by decide) (fun E' hE => by rw [hE, hc]; rfl) (fun q9 => ?_)
    refine z_astore (L' := [(5, .ref q9), (0, .ref h), (1, .int p1), (2, .int p2), (3, .int p3), (4, .ref o)]) dL_join_26 (by decide) rfl ?_
    refine z_iconst (v := 2) dL_join_28 rfl ?_
    exact hret _ () _ _ _ dL_join_29 (if_neg (by rw [hc]; decide)).symm rfl
theorem ec_X0_kill (u : SX) (p1 : Int32) : e_X0_kill u p1 = 0 ∨ e_X0_kill u p1 = 3 ∨ e_X0_kill u p1 = 2 := by
  have h0 := ecD u p1
  unfold e_X0_kill
  (repeat' split) <;> omega
set_option maxHeartbeats 4000000 in
set_option maxRecDepth 100000 in
theorem kn_kill (l : Launch) (D : va_G) (cI cZ cJ : ClassId) (h : Nat) (a : Nat → Nat) (o : Nat) (u : SX) (f : Nat → Int64) (p1 : Int32) (he : e_X0_kill u p1 = 0) (nd : Nat) (hnd : u.1 10 = nI nd) (hd : nd ≤ 16) (nn : Nat) (hnn : u.1 16 = nI nn) (hn : nn ≤ 120) : zMi l yL_kill wsL_kill ({ frames := 4, cells := 0, slots := 0, locals := 88 } : Room) zTT D [(cI, .int), (cZ, .boolean), (cJ, .long)] (wX0 cI cZ h a u ++ wO cJ o f) [.ref h, .int p1, .ref o] (fun (r : Int32) (u2 : SX × (Nat → Int64)) => r = 0 ∧ u2.1 = (s_X0_kill u p1) ∧ u2.2 0 = (r_X0_kill u p1).toInt64) (fun u2 => (wX0 cI cZ h a u2.1 ++ wO cJ o u2.2)) 0 0 := by
  refine z_startH (cc := cL_kill) (n := 4) (own := RL) (L0 := [(0, .ref h), (1, .int p1), (2, .ref o)]) (hh := [(0, 9, 12, 21), (0, 9, 15, 15)]) (plainFor_of_name (by decide)) rfl rfl (Nat.le_of_ble_eq_true rfl) rfl (fun E hEl htab hret => ?_)
  refine z_aload_n 2 dL_kill_0 rfl ?_
  refine z_iconst (v := 0) dL_kill_1 rfl ?_
  refine z_aload_n 0 dL_kill_2 rfl ?_
  refine z_iload_n 1 dL_kill_3 rfl ?_
  refine z_callVi_fr (As := [.int p1]) (st := [.int 0, .ref o]) [] (wO cJ o f) (fun l => c_X0_kill l D cI cZ h a u p1 he nd hnd hd nn hnn hn) zGok_TT (fun _ _ _ => trivial) (fun s args hts => cwV 1 hts gL_kill_X0_kill rfl rfl rfl (by decide +kernel) ⟨Nat.le_of_ble_eq_true rfl, Nat.le_of_ble_eq_true rfl⟩) (ci := 0) rfl rfl rfl [0, 1] rfl rfl rfl (Nat.le_of_ble_eq_true rfl) ⟨Nat.le_of_ble_eq_true rfl, Nat.le_of_ble_eq_true rfl⟩ dL_kill_4 rfl (fun r u2 hp => ?_)
  obtain ⟨rfl, rfl⟩ := hp
  refine z_i2l (v := ((r_X0_kill u p1)).toInt64) dL_kill_7 rfl ?_
  refine z_last (w' := (wX0 cI cZ h a (s_X0_kill u p1) ++ wO cJ o (vp_updL f 0 ((r_X0_kill u p1)).toInt64))) 13 2 rfl rfl zin01 rfl dL_kill_8 ?_
  refine z_goto 18 dL_kill_9 (by decide) ?_
  refine z_iconst (v := 0) dL_kill_18 rfl ?_
  exact hret _ ((s_X0_kill u p1), (vp_updL f 0 ((r_X0_kill u p1)).toInt64)) _ _ _ dL_kill_19 ⟨rfl, rfl, rfl⟩ rfl
set_option maxHeartbeats 4000000 in
set_option maxRecDepth 100000 in
theorem kx_kill (l : Launch) (hlt : l.stackTraces = false) (D : va_G) (cI cZ cJ : ClassId) (h : Nat) (a : Nat → Nat) (o : Nat) (u : SX) (f : Nat → Int64) (p1 : Int32) (he : e_X0_kill u p1 ≠ 0) (nd : Nat) (hnd : u.1 10 = nI nd) (hd : nd ≤ 16) (nn : Nat) (hnn : u.1 16 = nI nn) (hn : nn ≤ 120) : zMi l yL_kill wsL_kill ({ frames := 8, cells := 1, slots := 6, locals := 126 } : Room) zU D [(cI, .int), (cZ, .boolean), (cJ, .long)] (wX0 cI cZ h a u ++ wO cJ o f) [.ref h, .int p1, .ref o] (fun (r : Int32) (_ : Unit) => r = (if e_X0_kill u p1 = 3 then 1 else 2)) (fun _ => (wX0 cI cZ h a u ++ wO cJ o f)) 1 6 := by
  refine z_startH (cc := cL_kill) (n := 4) (own := RL) (L0 := [(0, .ref h), (1, .int p1), (2, .ref o)]) (hh := [(0, 9, 12, 21), (0, 9, 15, 15)]) (plainFor_of_name (by decide)) rfl rfl (Nat.le_of_ble_eq_true rfl) rfl (fun E hEl htab hret => ?_)
  refine z_aload_n 2 dL_kill_0 rfl ?_
  refine z_iconst (v := 0) dL_kill_1 rfl ?_
  refine z_aload_n 0 dL_kill_2 rfl ?_
  refine z_iload_n 1 dL_kill_3 rfl ?_
  refine z_callVx_fr (As := [.int p1]) (st := [.int 0, .ref o]) [] (wO cJ o f) (by rw [hEl]; exact hlt) (fun l hl => t_X0_kill l hl D cI cZ h a u p1 he nd hnd hd nn hnn hn) (fun s args hts => cwV 1 hts gL_kill_X0_kill rfl rfl rfl (by decide +kernel) ⟨Nat.le_of_ble_eq_true rfl, Nat.le_of_ble_eq_true rfl⟩) (ci := 0) rfl rfl rfl [0, 1] rfl rfl rfl (Nat.le_of_ble_eq_true rfl) ⟨Nat.le_of_ble_eq_true rfl, Nat.le_of_ble_eq_true rfl⟩ dL_kill_4 rfl ?_
  rcases (ec_X0_kill u p1).resolve_left he with hc | hc
  ·
    refine z_catch htab "java/lang/IndexOutOfBoundsException" [] ⟨0, 9, 12, 21⟩ [⟨0, 9, 15, 15⟩] rfl (fun z hz => nomatch hz) (by decide) (by decide) (List.mem_of_getElem? (i := 1) rfl) (by decide) (fun E' hE => by rw [hE, hc]; rfl) (fun q9 => ?_)
    refine z_astore_n (L' := [(3, .ref q9), (0, .ref h), (1, .int p1), (2, .ref o)]) dL_kill_12 (by decide) rfl ?_
    refine z_iconst (v := 1) dL_kill_13 rfl ?_
    exact hret _ () _ _ _ dL_kill_14 (if_pos hc).symm rfl
  ·
    refine z_catch htab "java/lang/IllegalStateException" [⟨0, 9, 12, 21⟩] ⟨0, 9, 15, 15⟩ [] rfl (fun z hz => by obtain rfl := List.mem_singleton.mp hz; exact ⟨by decide, "java/lang/IndexOutOfBoundsException", List.mem_of_getElem? (i := 1) rfl, by decide⟩) (by decide) (by decide) (List.mem_of_getElem? (i := 2) rfl) (by decide) (fun E' hE => by rw [hE, hc]; rfl) (fun q9 => ?_)
    refine z_astore_n (L' := [(3, .ref q9), (0, .ref h), (1, .int p1), (2, .ref o)]) dL_kill_15 (by decide) rfl ?_
    refine z_iconst (v := 2) dL_kill_16 rfl ?_
    exact hret _ () _ _ _ dL_kill_17 (if_neg (by rw [hc]; decide)).symm rfl
theorem ec_X0_isQuiet (u : SX) (p1 : Int32) : e_X0_isQuiet u p1 = 0 ∨ e_X0_isQuiet u p1 = 3 := by
  have h0 := ecD u p1
  unfold e_X0_isQuiet
  (repeat' split) <;> omega
set_option maxHeartbeats 4000000 in
set_option maxRecDepth 100000 in
theorem kn_isQuiet (l : Launch) (D : va_G) (cI cZ cJ : ClassId) (h : Nat) (a : Nat → Nat) (o : Nat) (u : SX) (f : Nat → Int64) (p1 : Int32) (he : e_X0_isQuiet u p1 = 0) (nd : Nat) (hnd : u.1 10 = nI nd) (hd : nd ≤ 16) : zMi l yL_isQuiet wsL_isQuiet ({ frames := 4, cells := 0, slots := 0, locals := 87 } : Room) zTT D [(cI, .int), (cZ, .boolean), (cJ, .long)] (wX0 cI cZ h a u ++ wO cJ o f) [.ref h, .int p1, .ref o] (fun (r : Int32) (u2 : SX × (Nat → Int64)) => r = 0 ∧ u2.1 = u ∧ u2.2 0 = (if r_X0_isQuiet u p1 = 0 then 0 else 1)) (fun u2 => (wX0 cI cZ h a u2.1 ++ wO cJ o u2.2)) 0 0 := by
  refine z_startH (cc := cL_isQuiet) (n := 4) (own := RL) (L0 := [(0, .ref h), (1, .int p1), (2, .ref o)]) (hh := [(0, 16, 19, 21)]) (plainFor_of_name (by decide)) rfl rfl (Nat.le_of_ble_eq_true rfl) rfl (fun E hEl htab hret => ?_)
  refine z_aload_n 2 dL_isQuiet_0 rfl ?_
  refine z_iconst (v := 0) dL_isQuiet_1 rfl ?_
  refine z_aload_n 0 dL_isQuiet_2 rfl ?_
  refine z_iload_n 1 dL_isQuiet_3 rfl ?_
  refine z_callVi_fr (As := [.int p1]) (st := [.int 0, .ref o]) [] (wO cJ o f) (fun l => c_X0_isQuiet l D cI cZ h a u p1 he nd hnd hd) zGok_TT (fun _ _ _ => trivial) (fun s args hts => cwV 1 hts gL_isQuiet_X0_isQuiet rfl rfl rfl (by decide +kernel) ⟨Nat.le_of_ble_eq_true rfl, Nat.le_of_ble_eq_true rfl⟩) (ci := 0) rfl rfl rfl [0, 1] rfl rfl rfl (Nat.le_of_ble_eq_true rfl) ⟨Nat.le_of_ble_eq_true rfl, Nat.le_of_ble_eq_true rfl⟩ dL_isQuiet_4 rfl (fun r u2 hp => ?_)
  subst hp
  refine z_if_eq 14 dL_isQuiet_7 (by decide) (fun c => ?_) (fun c => ?_)
  ·
    refine z_lconst (v := 0) dL_isQuiet_14 rfl ?_
    refine z_last (w' := (wX0 cI cZ h a u ++ wO cJ o (vp_updL f 0 0))) 13 2 rfl rfl zin01 rfl dL_isQuiet_15 ?_
    refine z_goto 22 dL_isQuiet_16 (by decide) ?_
    refine z_iconst (v := 0) dL_isQuiet_22 rfl ?_
    exact hret _ (u, (vp_updL f 0 0)) _ _ _ dL_isQuiet_23 ⟨rfl, rfl, (if_pos c).symm⟩ rfl
  ·
    refine z_lconst (v := 1) dL_isQuiet_10 rfl ?_
    refine z_goto 15 dL_isQuiet_11 (by decide) ?_
    refine z_last (w' := (wX0 cI cZ h a u ++ wO cJ o (vp_updL f 0 1))) 13 2 rfl rfl zin01 rfl dL_isQuiet_15 ?_
    refine z_goto 22 dL_isQuiet_16 (by decide) ?_
    refine z_iconst (v := 0) dL_isQuiet_22 rfl ?_
    exact hret _ (u, (vp_updL f 0 1)) _ _ _ dL_isQuiet_23 ⟨rfl, rfl, (if_neg c).symm⟩ rfl
set_option maxHeartbeats 4000000 in
set_option maxRecDepth 100000 in
theorem kx_isQuiet (l : Launch) (hlt : l.stackTraces = false) (D : va_G) (cI cZ cJ : ClassId) (h : Nat) (a : Nat → Nat) (o : Nat) (u : SX) (f : Nat → Int64) (p1 : Int32) (he : e_X0_isQuiet u p1 ≠ 0) (nd : Nat) (hnd : u.1 10 = nI nd) (hd : nd ≤ 16) : zMi l yL_isQuiet wsL_isQuiet ({ frames := 8, cells := 1, slots := 6, locals := 124 } : Room) zU D [(cI, .int), (cZ, .boolean), (cJ, .long)] (wX0 cI cZ h a u ++ wO cJ o f) [.ref h, .int p1, .ref o] (fun (r : Int32) (_ : Unit) => r = 1) (fun _ => (wX0 cI cZ h a u ++ wO cJ o f)) 1 6 := by
  refine z_startH (cc := cL_isQuiet) (n := 4) (own := RL) (L0 := [(0, .ref h), (1, .int p1), (2, .ref o)]) (hh := [(0, 16, 19, 21)]) (plainFor_of_name (by decide)) rfl rfl (Nat.le_of_ble_eq_true rfl) rfl (fun E hEl htab hret => ?_)
  refine z_aload_n 2 dL_isQuiet_0 rfl ?_
  refine z_iconst (v := 0) dL_isQuiet_1 rfl ?_
  refine z_aload_n 0 dL_isQuiet_2 rfl ?_
  refine z_iload_n 1 dL_isQuiet_3 rfl ?_
  refine z_callVx_fr (As := [.int p1]) (st := [.int 0, .ref o]) [] (wO cJ o f) (by rw [hEl]; exact hlt) (fun l hl => t_X0_isQuiet l hl D cI cZ h a u p1 he nd hnd hd) (fun s args hts => cwV 1 hts gL_isQuiet_X0_isQuiet rfl rfl rfl (by decide +kernel) ⟨Nat.le_of_ble_eq_true rfl, Nat.le_of_ble_eq_true rfl⟩) (ci := 0) rfl rfl rfl [0, 1] rfl rfl rfl (Nat.le_of_ble_eq_true rfl) ⟨Nat.le_of_ble_eq_true rfl, Nat.le_of_ble_eq_true rfl⟩ dL_isQuiet_4 rfl ?_
  have hc := (ec_X0_isQuiet u p1).resolve_left he
  refine z_catch htab "java/lang/IndexOutOfBoundsException" [] ⟨0, 16, 19, 21⟩ [] rfl (fun z hz => nomatch hz) (by decide) (by decide) (List.mem_of_getElem? (i := 1) rfl) (by decide) (fun E' hE => by rw [hE, hc]; rfl) (fun q9 => ?_)
  refine z_astore_n (L' := [(3, .ref q9), (0, .ref h), (1, .int p1), (2, .ref o)]) dL_isQuiet_19 (by decide) rfl ?_
  refine z_iconst (v := 1) dL_isQuiet_20 rfl ?_
  exact hret _ () _ _ _ dL_isQuiet_21 rfl rfl
theorem ec_X0_send (u : SX) (p1 p2 p3 p4 : Int32) : e_X0_send u p1 p2 p3 p4 = 0 ∨ e_X0_send u p1 p2 p3 p4 = 1 ∨ e_X0_send u p1 p2 p3 p4 = 2 := by
  have h0 := ecW p1 0 7
  have h1 := ecW p4 1 10000
  have h2 := ecR u
  have h3 := ecW p2 0 9
  unfold e_X0_send
  (repeat' split) <;> omega
set_option maxHeartbeats 4000000 in
set_option maxRecDepth 100000 in
theorem kn_send (l : Launch) (D : va_G) (cI cZ cJ : ClassId) (h : Nat) (a : Nat → Nat) (o : Nat) (u : SX) (f : Nat → Int64) (p1 p2 p3 p4 : Int32) (he : e_X0_send u p1 p2 p3 p4 = 0) (nd : Nat) (hnd : u.1 10 = nI nd) (hd : nd ≤ 16) (nn : Nat) (hnn : u.1 16 = nI nn) (hn : nn ≤ 120) (hlk : ∀ i : Nat, i < 80 → (u.2 15 i) = (-1) ∨ vp_in (u.2 15 i) 120) : zMi l yL_send wsL_send ({ frames := 7, cells := 0, slots := 0, locals := 160 } : Room) zTT D [(cI, .int), (cZ, .boolean), (cJ, .long)] (wX0 cI cZ h a u ++ wO cJ o f) [.ref h, .int p1, .int p2, .int p3, .int p4, .ref o] (fun (r : Int32) (u2 : SX × (Nat → Int64)) => r = 0 ∧ u2.1 = (s_X0_send u p1 p2 p3 p4) ∧ u2.2 0 = (r_X0_send u p1 p2 p3 p4).toInt64) (fun u2 => (wX0 cI cZ h a u2.1 ++ wO cJ o u2.2)) 0 0 := by
  refine z_startH (cc := cL_send) (n := 7) (own := RL) (L0 := [(0, .ref h), (1, .int p1), (2, .int p2), (3, .int p3), (4, .int p4), (5, .ref o)]) (hh := [(0, 14, 17, 13), (0, 14, 21, 15)]) (plainFor_of_name (by decide)) rfl rfl (Nat.le_of_ble_eq_true rfl) rfl (fun E hEl htab hret => ?_)
  refine z_aload 5 dL_send_0 rfl ?_
  refine z_iconst (v := 0) dL_send_2 rfl ?_
  refine z_aload_n 0 dL_send_3 rfl ?_
  refine z_iload_n 1 dL_send_4 rfl ?_
  refine z_iload_n 2 dL_send_5 rfl ?_
  refine z_iload_n 3 dL_send_6 rfl ?_
  refine z_iload 4 dL_send_7 rfl ?_
  refine z_callVi_fr (As := [.int p1, .int p2, .int p3, .int p4]) (st := [.int 0, .ref o]) [] (wO cJ o f) (fun l => c_X0_send l D cI cZ h a u p1 p2 p3 p4 he nd hnd hd nn hnn hn hlk) zGok_TT (fun _ _ _ => trivial) (fun s args hts => cwV 4 hts gL_send_X0_send rfl rfl rfl (by decide +kernel) ⟨Nat.le_of_ble_eq_true rfl, Nat.le_of_ble_eq_true rfl⟩) (ci := 0) rfl rfl rfl [0, 1] rfl rfl rfl (Nat.le_of_ble_eq_true rfl) ⟨Nat.le_of_ble_eq_true rfl, Nat.le_of_ble_eq_true rfl⟩ dL_send_9 rfl (fun r u2 hp => ?_)
  obtain ⟨rfl, rfl⟩ := hp
  refine z_i2l (v := ((r_X0_send u p1 p2 p3 p4)).toInt64) dL_send_12 rfl ?_
  refine z_last (w' := (wX0 cI cZ h a (s_X0_send u p1 p2 p3 p4) ++ wO cJ o (vp_updL f 0 ((r_X0_send u p1 p2 p3 p4)).toInt64))) 13 2 rfl rfl zin01 rfl dL_send_13 ?_
  refine z_goto 25 dL_send_14 (by decide) ?_
  refine z_iconst (v := 0) dL_send_25 rfl ?_
  exact hret _ ((s_X0_send u p1 p2 p3 p4), (vp_updL f 0 ((r_X0_send u p1 p2 p3 p4)).toInt64)) _ _ _ dL_send_26 ⟨rfl, rfl, rfl⟩ rfl
set_option maxHeartbeats 4000000 in
set_option maxRecDepth 100000 in
theorem kx_send (l : Launch) (hlt : l.stackTraces = false) (D : va_G) (cI cZ cJ : ClassId) (h : Nat) (a : Nat → Nat) (o : Nat) (u : SX) (f : Nat → Int64) (p1 p2 p3 p4 : Int32) (he : e_X0_send u p1 p2 p3 p4 ≠ 0) (nd : Nat) (hnd : u.1 10 = nI nd) (hd : nd ≤ 16) (nn : Nat) (hnn : u.1 16 = nI nn) (hn : nn ≤ 120) (hlk : ∀ i : Nat, i < 80 → (u.2 15 i) = (-1) ∨ vp_in (u.2 15 i) 120) : zMi l yL_send wsL_send ({ frames := 8, cells := 1, slots := 6, locals := 160 } : Room) zU D [(cI, .int), (cZ, .boolean), (cJ, .long)] (wX0 cI cZ h a u ++ wO cJ o f) [.ref h, .int p1, .int p2, .int p3, .int p4, .ref o] (fun (r : Int32) (_ : Unit) => r = (if e_X0_send u p1 p2 p3 p4 = 1 then 1 else 2)) (fun _ => (wX0 cI cZ h a u ++ wO cJ o f)) 1 6 := by
  refine z_startH (cc := cL_send) (n := 7) (own := RL) (L0 := [(0, .ref h), (1, .int p1), (2, .int p2), (3, .int p3), (4, .int p4), (5, .ref o)]) (hh := [(0, 14, 17, 13), (0, 14, 21, 15)]) (plainFor_of_name (by decide)) rfl rfl (Nat.le_of_ble_eq_true rfl) rfl (fun E hEl htab hret => ?_)
  refine z_aload 5 dL_send_0 rfl ?_
  refine z_iconst (v := 0) dL_send_2 rfl ?_
  refine z_aload_n 0 dL_send_3 rfl ?_
  refine z_iload_n 1 dL_send_4 rfl ?_
  refine z_iload_n 2 dL_send_5 rfl ?_
  refine z_iload_n 3 dL_send_6 rfl ?_
  refine z_iload 4 dL_send_7 rfl ?_
  refine z_callVx_fr (As := [.int p1, .int p2, .int p3, .int p4]) (st := [.int 0, .ref o]) [] (wO cJ o f) (by rw [hEl]; exact hlt) (fun l hl => t_X0_send l hl D cI cZ h a u p1 p2 p3 p4 he nd hnd hd nn hnn hn hlk) (fun s args hts => cwV 4 hts gL_send_X0_send rfl rfl rfl (by decide +kernel) ⟨Nat.le_of_ble_eq_true rfl, Nat.le_of_ble_eq_true rfl⟩) (ci := 0) rfl rfl rfl [0, 1] rfl rfl rfl (Nat.le_of_ble_eq_true rfl) ⟨Nat.le_of_ble_eq_true rfl, Nat.le_of_ble_eq_true rfl⟩ dL_send_9 rfl ?_
  rcases (ec_X0_send u p1 p2 p3 p4).resolve_left he with hc | hc
  ·
    refine z_catch htab "java/lang/IllegalArgumentException" [] ⟨0, 14, 17, 13⟩ [⟨0, 14, 21, 15⟩] rfl (fun z hz => nomatch hz) (by decide) (by decide) (List.mem_of_getElem? (i := 1) rfl) (by decide) (fun E' hE => by rw [hE, hc]; rfl) (fun q9 => ?_)
    refine z_astore (L' := [(6, .ref q9), (0, .ref h), (1, .int p1), (2, .int p2), (3, .int p3), (4, .int p4), (5, .ref o)]) dL_send_17 (by decide) rfl ?_
    refine z_iconst (v := 1) dL_send_19 rfl ?_
    exact hret _ () _ _ _ dL_send_20 (if_pos hc).symm rfl
  ·
    refine z_catch htab "java/lang/IllegalStateException" [⟨0, 14, 17, 13⟩] ⟨0, 14, 21, 15⟩ [] rfl (fun z hz => by obtain rfl := List.mem_singleton.mp hz; exact ⟨by decide, "java/lang/IllegalArgumentException", List.mem_of_getElem? (i := 1) rfl, by decide⟩) (by decide) (by decide) (List.mem_of_getElem? (i := 2) rfl) (by decide) (fun E' hE => by rw [hE, hc]; rfl) (fun q9 => ?_)
    refine z_astore (L' := [(6, .ref q9), (0, .ref h), (1, .int p1), (2, .int p2), (3, .int p3), (4, .int p4), (5, .ref o)]) dL_send_21 (by decide) rfl ?_
    refine z_iconst (v := 2) dL_send_23 rfl ?_
    exact hret _ () _ _ _ dL_send_24 (if_neg (by rw [hc]; decide)).symm rfl
theorem ec_X0_sendBy (u : SX) (p1 p2 p3 p4 p5 : Int32) : e_X0_sendBy u p1 p2 p3 p4 p5 = 0 ∨ e_X0_sendBy u p1 p2 p3 p4 p5 = 1 ∨ e_X0_sendBy u p1 p2 p3 p4 p5 = 2 := by
  have h0 := ecW p1 0 2
  have h1 := ecW p2 0 5
  have h2 := ecW p3 0 5
  have h3 := ecW p5 1 10000
  have h4 := ecR u
  unfold e_X0_sendBy
  (repeat' split) <;> omega
set_option maxHeartbeats 4000000 in
set_option maxRecDepth 100000 in
theorem kn_sendBy (l : Launch) (D : va_G) (cI cZ cJ : ClassId) (h : Nat) (a : Nat → Nat) (o : Nat) (u : SX) (f : Nat → Int64) (p1 p2 p3 p4 p5 : Int32) (he : e_X0_sendBy u p1 p2 p3 p4 p5 = 0) (nd : Nat) (hnd : u.1 10 = nI nd) (hd : nd ≤ 16) (nn : Nat) (hnn : u.1 16 = nI nn) (hn : nn ≤ 120) : zMi l yL_sendBy wsL_sendBy ({ frames := 7, cells := 0, slots := 0, locals := 161 } : Room) zTT D [(cI, .int), (cZ, .boolean), (cJ, .long)] (wX0 cI cZ h a u ++ wO cJ o f) [.ref h, .int p1, .int p2, .int p3, .int p4, .int p5, .ref o] (fun (r : Int32) (u2 : SX × (Nat → Int64)) => r = 0 ∧ u2.1 = (s_X0_sendBy u p1 p2 p3 p4 p5) ∧ u2.2 0 = (r_X0_sendBy u p1 p2 p3 p4 p5).toInt64) (fun u2 => (wX0 cI cZ h a u2.1 ++ wO cJ o u2.2)) 0 0 := by
  refine z_startH (cc := cL_sendBy) (n := 8) (own := RL) (L0 := [(0, .ref h), (1, .int p1), (2, .int p2), (3, .int p3), (4, .int p4), (5, .int p5), (6, .ref o)]) (hh := [(0, 16, 19, 13), (0, 16, 23, 15)]) (plainFor_of_name (by decide)) rfl rfl (Nat.le_of_ble_eq_true rfl) rfl (fun E hEl htab hret => ?_)
  refine z_aload 6 dL_sendBy_0 rfl ?_
  refine z_iconst (v := 0) dL_sendBy_2 rfl ?_
  refine z_aload_n 0 dL_sendBy_3 rfl ?_
  refine z_iload_n 1 dL_sendBy_4 rfl ?_
  refine z_iload_n 2 dL_sendBy_5 rfl ?_
  refine z_iload_n 3 dL_sendBy_6 rfl ?_
  refine z_iload 4 dL_sendBy_7 rfl ?_
  refine z_iload 5 dL_sendBy_9 rfl ?_
  refine z_callVi_fr (As := [.int p1, .int p2, .int p3, .int p4, .int p5]) (st := [.int 0, .ref o]) [] (wO cJ o f) (fun l => c_X0_sendBy l D cI cZ h a u p1 p2 p3 p4 p5 he nd hnd hd nn hnn hn) zGok_TT (fun _ _ _ => trivial) (fun s args hts => cwV 5 hts gL_sendBy_X0_sendBy rfl rfl rfl (by decide +kernel) ⟨Nat.le_of_ble_eq_true rfl, Nat.le_of_ble_eq_true rfl⟩) (ci := 0) rfl rfl rfl [0, 1] rfl rfl rfl (Nat.le_of_ble_eq_true rfl) ⟨Nat.le_of_ble_eq_true rfl, Nat.le_of_ble_eq_true rfl⟩ dL_sendBy_11 rfl (fun r u2 hp => ?_)
  obtain ⟨rfl, rfl⟩ := hp
  refine z_i2l (v := ((r_X0_sendBy u p1 p2 p3 p4 p5)).toInt64) dL_sendBy_14 rfl ?_
  refine z_last (w' := (wX0 cI cZ h a (s_X0_sendBy u p1 p2 p3 p4 p5) ++ wO cJ o (vp_updL f 0 ((r_X0_sendBy u p1 p2 p3 p4 p5)).toInt64))) 13 2 rfl rfl zin01 rfl dL_sendBy_15 ?_
  refine z_goto 27 dL_sendBy_16 (by decide) ?_
  refine z_iconst (v := 0) dL_sendBy_27 rfl ?_
  exact hret _ ((s_X0_sendBy u p1 p2 p3 p4 p5), (vp_updL f 0 ((r_X0_sendBy u p1 p2 p3 p4 p5)).toInt64)) _ _ _ dL_sendBy_28 ⟨rfl, rfl, rfl⟩ rfl
set_option maxHeartbeats 4000000 in
set_option maxRecDepth 100000 in
theorem kx_sendBy (l : Launch) (hlt : l.stackTraces = false) (D : va_G) (cI cZ cJ : ClassId) (h : Nat) (a : Nat → Nat) (o : Nat) (u : SX) (f : Nat → Int64) (p1 p2 p3 p4 p5 : Int32) (he : e_X0_sendBy u p1 p2 p3 p4 p5 ≠ 0) (nd : Nat) (hnd : u.1 10 = nI nd) (hd : nd ≤ 16) (nn : Nat) (hnn : u.1 16 = nI nn) (hn : nn ≤ 120) : zMi l yL_sendBy wsL_sendBy ({ frames := 8, cells := 1, slots := 6, locals := 161 } : Room) zU D [(cI, .int), (cZ, .boolean), (cJ, .long)] (wX0 cI cZ h a u ++ wO cJ o f) [.ref h, .int p1, .int p2, .int p3, .int p4, .int p5, .ref o] (fun (r : Int32) (_ : Unit) => r = (if e_X0_sendBy u p1 p2 p3 p4 p5 = 1 then 1 else 2)) (fun _ => (wX0 cI cZ h a u ++ wO cJ o f)) 1 6 := by
  refine z_startH (cc := cL_sendBy) (n := 8) (own := RL) (L0 := [(0, .ref h), (1, .int p1), (2, .int p2), (3, .int p3), (4, .int p4), (5, .int p5), (6, .ref o)]) (hh := [(0, 16, 19, 13), (0, 16, 23, 15)]) (plainFor_of_name (by decide)) rfl rfl (Nat.le_of_ble_eq_true rfl) rfl (fun E hEl htab hret => ?_)
  refine z_aload 6 dL_sendBy_0 rfl ?_
  refine z_iconst (v := 0) dL_sendBy_2 rfl ?_
  refine z_aload_n 0 dL_sendBy_3 rfl ?_
  refine z_iload_n 1 dL_sendBy_4 rfl ?_
  refine z_iload_n 2 dL_sendBy_5 rfl ?_
  refine z_iload_n 3 dL_sendBy_6 rfl ?_
  refine z_iload 4 dL_sendBy_7 rfl ?_
  refine z_iload 5 dL_sendBy_9 rfl ?_
  refine z_callVx_fr (As := [.int p1, .int p2, .int p3, .int p4, .int p5]) (st := [.int 0, .ref o]) [] (wO cJ o f) (by rw [hEl]; exact hlt) (fun l hl => t_X0_sendBy l hl D cI cZ h a u p1 p2 p3 p4 p5 he nd hnd hd nn hnn hn) (fun s args hts => cwV 5 hts gL_sendBy_X0_sendBy rfl rfl rfl (by decide +kernel) ⟨Nat.le_of_ble_eq_true rfl, Nat.le_of_ble_eq_true rfl⟩) (ci := 0) rfl rfl rfl [0, 1] rfl rfl rfl (Nat.le_of_ble_eq_true rfl) ⟨Nat.le_of_ble_eq_true rfl, Nat.le_of_ble_eq_true rfl⟩ dL_sendBy_11 rfl ?_
  rcases (ec_X0_sendBy u p1 p2 p3 p4 p5).resolve_left he with hc | hc
  ·
    refine z_catch htab "java/lang/IllegalArgumentException" [] ⟨0, 16, 19, 13⟩ [⟨0, 16, 23, 15⟩] rfl (fun z hz => nomatch hz) (by decide) (by decide) (List.mem_of_getElem? (i := 1) rfl) (by decide) (fun E' hE => by rw [hE, hc]; rfl) (fun q9 => ?_)
    refine z_astore (L' := [(7, .ref q9), (0, .ref h), (1, .int p1), (2, .int p2), (3, .int p3), (4, .int p4), (5, .int p5), (6, .ref o)]) dL_sendBy_19 (by decide) rfl ?_
    refine z_iconst (v := 1) dL_sendBy_21 rfl ?_
    exact hret _ () _ _ _ dL_sendBy_22 (if_pos hc).symm rfl
  ·
    refine z_catch htab "java/lang/IllegalStateException" [⟨0, 16, 19, 13⟩] ⟨0, 16, 23, 15⟩ [] rfl (fun z hz => by obtain rfl := List.mem_singleton.mp hz; exact ⟨by decide, "java/lang/IllegalArgumentException", List.mem_of_getElem? (i := 1) rfl, by decide⟩) (by decide) (by decide) (List.mem_of_getElem? (i := 2) rfl) (by decide) (fun E' hE => by rw [hE, hc]; rfl) (fun q9 => ?_)
    refine z_astore (L' := [(7, .ref q9), (0, .ref h), (1, .int p1), (2, .int p2), (3, .int p3), (4, .int p4), (5, .int p5), (6, .ref o)]) dL_sendBy_23 (by decide) rfl ?_
    refine z_iconst (v := 2) dL_sendBy_25 rfl ?_
    exact hret _ () _ _ _ dL_sendBy_26 (if_neg (by rw [hc]; decide)).symm rfl
theorem ec_X0_read (u : SX) (p1 p2 : Int32) : e_X0_read u p1 p2 = 0 ∨ e_X0_read u p1 p2 = 3 ∨ e_X0_read u p1 p2 = 2 := by
  have h0 := ecD u p1
  have h1 := ecN u p2
  unfold e_X0_read
  (repeat' split) <;> omega
set_option maxHeartbeats 4000000 in
set_option maxRecDepth 100000 in
theorem kn_read (l : Launch) (D : va_G) (cI cZ cJ : ClassId) (h : Nat) (a : Nat → Nat) (o : Nat) (u : SX) (f : Nat → Int64) (p1 p2 : Int32) (he : e_X0_read u p1 p2 = 0) (nd : Nat) (hnd : u.1 10 = nI nd) (hd : nd ≤ 16) (nn : Nat) (hnn : u.1 16 = nI nn) (hn : nn ≤ 120) : zMi l yL_read wsL_read ({ frames := 3, cells := 0, slots := 0, locals := 65 } : Room) zTT D [(cI, .int), (cZ, .boolean), (cJ, .long)] (wX0 cI cZ h a u ++ wO cJ o f) [.ref h, .int p1, .int p2, .ref o] (fun (r : Int32) (u2 : SX × (Nat → Int64)) => r = 0 ∧ u2.1 = (s_X0_read u p1 p2) ∧ u2.2 0 = (r_X0_read u p1 p2).toInt64) (fun u2 => (wX0 cI cZ h a u2.1 ++ wO cJ o u2.2)) 0 0 := by
  refine z_startH (cc := cL_read) (n := 5) (own := RL) (L0 := [(0, .ref h), (1, .int p1), (2, .int p2), (3, .ref o)]) (hh := [(0, 10, 13, 21), (0, 10, 17, 15)]) (plainFor_of_name (by decide)) rfl rfl (Nat.le_of_ble_eq_true rfl) rfl (fun E hEl htab hret => ?_)
  refine z_aload_n 3 dL_read_0 rfl ?_
  refine z_iconst (v := 0) dL_read_1 rfl ?_
  refine z_aload_n 0 dL_read_2 rfl ?_
  refine z_iload_n 1 dL_read_3 rfl ?_
  refine z_iload_n 2 dL_read_4 rfl ?_
  refine z_callVi_fr (As := [.int p1, .int p2]) (st := [.int 0, .ref o]) [] (wO cJ o f) (fun l => c_X0_read l D cI cZ h a u p1 p2 he nd hnd hd nn hnn hn) zGok_TT (fun _ _ _ => trivial) (fun s args hts => cwV 2 hts gL_read_X0_read rfl rfl rfl (by decide +kernel) ⟨Nat.le_of_ble_eq_true rfl, Nat.le_of_ble_eq_true rfl⟩) (ci := 0) rfl rfl rfl [0, 1] rfl rfl rfl (Nat.le_of_ble_eq_true rfl) ⟨Nat.le_of_ble_eq_true rfl, Nat.le_of_ble_eq_true rfl⟩ dL_read_5 rfl (fun r u2 hp => ?_)
  obtain ⟨rfl, rfl⟩ := hp
  refine z_i2l (v := ((r_X0_read u p1 p2)).toInt64) dL_read_8 rfl ?_
  refine z_last (w' := (wX0 cI cZ h a (s_X0_read u p1 p2) ++ wO cJ o (vp_updL f 0 ((r_X0_read u p1 p2)).toInt64))) 13 2 rfl rfl zin01 rfl dL_read_9 ?_
  refine z_goto 21 dL_read_10 (by decide) ?_
  refine z_iconst (v := 0) dL_read_21 rfl ?_
  exact hret _ ((s_X0_read u p1 p2), (vp_updL f 0 ((r_X0_read u p1 p2)).toInt64)) _ _ _ dL_read_22 ⟨rfl, rfl, rfl⟩ rfl
set_option maxHeartbeats 4000000 in
set_option maxRecDepth 100000 in
theorem kx_read (l : Launch) (hlt : l.stackTraces = false) (D : va_G) (cI cZ cJ : ClassId) (h : Nat) (a : Nat → Nat) (o : Nat) (u : SX) (f : Nat → Int64) (p1 p2 : Int32) (he : e_X0_read u p1 p2 ≠ 0) (nd : Nat) (hnd : u.1 10 = nI nd) (hd : nd ≤ 16) (nn : Nat) (hnn : u.1 16 = nI nn) (hn : nn ≤ 120) : zMi l yL_read wsL_read ({ frames := 8, cells := 1, slots := 6, locals := 126 } : Room) zU D [(cI, .int), (cZ, .boolean), (cJ, .long)] (wX0 cI cZ h a u ++ wO cJ o f) [.ref h, .int p1, .int p2, .ref o] (fun (r : Int32) (_ : Unit) => r = (if e_X0_read u p1 p2 = 3 then 1 else 2)) (fun _ => (wX0 cI cZ h a u ++ wO cJ o f)) 1 6 := by
  refine z_startH (cc := cL_read) (n := 5) (own := RL) (L0 := [(0, .ref h), (1, .int p1), (2, .int p2), (3, .ref o)]) (hh := [(0, 10, 13, 21), (0, 10, 17, 15)]) (plainFor_of_name (by decide)) rfl rfl (Nat.le_of_ble_eq_true rfl) rfl (fun E hEl htab hret => ?_)
  refine z_aload_n 3 dL_read_0 rfl ?_
  refine z_iconst (v := 0) dL_read_1 rfl ?_
  refine z_aload_n 0 dL_read_2 rfl ?_
  refine z_iload_n 1 dL_read_3 rfl ?_
  refine z_iload_n 2 dL_read_4 rfl ?_
  refine z_callVx_fr (As := [.int p1, .int p2]) (st := [.int 0, .ref o]) [] (wO cJ o f) (by rw [hEl]; exact hlt) (fun l hl => t_X0_read l hl D cI cZ h a u p1 p2 he nd hnd hd nn hnn hn) (fun s args hts => cwV 2 hts gL_read_X0_read rfl rfl rfl (by decide +kernel) ⟨Nat.le_of_ble_eq_true rfl, Nat.le_of_ble_eq_true rfl⟩) (ci := 0) rfl rfl rfl [0, 1] rfl rfl rfl (Nat.le_of_ble_eq_true rfl) ⟨Nat.le_of_ble_eq_true rfl, Nat.le_of_ble_eq_true rfl⟩ dL_read_5 rfl ?_
  rcases (ec_X0_read u p1 p2).resolve_left he with hc | hc
  ·
    refine z_catch htab "java/lang/IndexOutOfBoundsException" [] ⟨0, 10, 13, 21⟩ [⟨0, 10, 17, 15⟩] rfl (fun z hz => nomatch hz) (by decide) (by decide) (List.mem_of_getElem? (i := 1) rfl) (by decide) (fun E' hE => by rw [hE, hc]; rfl) (fun q9 => ?_)
    refine z_astore (L' := [(4, .ref q9), (0, .ref h), (1, .int p1), (2, .int p2), (3, .ref o)]) dL_read_13 (by decide) rfl ?_
    refine z_iconst (v := 1) dL_read_15 rfl ?_
    exact hret _ () _ _ _ dL_read_16 (if_pos hc).symm rfl
  ·
    refine z_catch htab "java/lang/IllegalStateException" [⟨0, 10, 13, 21⟩] ⟨0, 10, 17, 15⟩ [] rfl (fun z hz => by obtain rfl := List.mem_singleton.mp hz; exact ⟨by decide, "java/lang/IndexOutOfBoundsException", List.mem_of_getElem? (i := 1) rfl, by decide⟩) (by decide) (by decide) (List.mem_of_getElem? (i := 2) rfl) (by decide) (fun E' hE => by rw [hE, hc]; rfl) (fun q9 => ?_)
    refine z_astore (L' := [(4, .ref q9), (0, .ref h), (1, .int p1), (2, .int p2), (3, .ref o)]) dL_read_17 (by decide) rfl ?_
    refine z_iconst (v := 2) dL_read_19 rfl ?_
    exact hret _ () _ _ _ dL_read_20 (if_neg (by rw [hc]; decide)).symm rfl
theorem ec_X0_stands (u : SX) (p1 : Int32) : e_X0_stands u p1 = 0 ∨ e_X0_stands u p1 = 3 := by
  have h0 := ecN u p1
  unfold e_X0_stands
  (repeat' split) <;> omega
set_option maxHeartbeats 4000000 in
set_option maxRecDepth 100000 in
theorem kn_stands (l : Launch) (D : va_G) (cI cZ cJ : ClassId) (h : Nat) (a : Nat → Nat) (o : Nat) (u : SX) (f : Nat → Int64) (p1 : Int32) (he : e_X0_stands u p1 = 0) (nn : Nat) (hnn : u.1 16 = nI nn) (hn : nn ≤ 120) : zMi l yL_stands wsL_stands ({ frames := 2, cells := 0, slots := 0, locals := 42 } : Room) zTT D [(cI, .int), (cZ, .boolean), (cJ, .long)] (wX0 cI cZ h a u ++ wO cJ o f) [.ref h, .int p1, .ref o] (fun (r : Int32) (u2 : SX × (Nat → Int64)) => r = 0 ∧ u2.1 = u ∧ u2.2 0 = (if r_X0_stands u p1 = 0 then 0 else 1)) (fun u2 => (wX0 cI cZ h a u2.1 ++ wO cJ o u2.2)) 0 0 := by
  refine z_startH (cc := cL_stands) (n := 4) (own := RL) (L0 := [(0, .ref h), (1, .int p1), (2, .ref o)]) (hh := [(0, 16, 19, 21)]) (plainFor_of_name (by decide)) rfl rfl (Nat.le_of_ble_eq_true rfl) rfl (fun E hEl htab hret => ?_)
  refine z_aload_n 2 dL_stands_0 rfl ?_
  refine z_iconst (v := 0) dL_stands_1 rfl ?_
  refine z_aload_n 0 dL_stands_2 rfl ?_
  refine z_iload_n 1 dL_stands_3 rfl ?_
  refine z_callVi_fr (As := [.int p1]) (st := [.int 0, .ref o]) [] (wO cJ o f) (fun l => c_X0_stands l D cI cZ h a u p1 he nn hnn hn) zGok_TT (fun _ _ _ => trivial) (fun s args hts => cwV 1 hts gL_stands_X0_stands rfl rfl rfl (by decide +kernel) ⟨Nat.le_of_ble_eq_true rfl, Nat.le_of_ble_eq_true rfl⟩) (ci := 0) rfl rfl rfl [0, 1] rfl rfl rfl (Nat.le_of_ble_eq_true rfl) ⟨Nat.le_of_ble_eq_true rfl, Nat.le_of_ble_eq_true rfl⟩ dL_stands_4 rfl (fun r u2 hp => ?_)
  subst hp
  refine z_if_eq 14 dL_stands_7 (by decide) (fun c => ?_) (fun c => ?_)
  ·
    refine z_lconst (v := 0) dL_stands_14 rfl ?_
    refine z_last (w' := (wX0 cI cZ h a u ++ wO cJ o (vp_updL f 0 0))) 13 2 rfl rfl zin01 rfl dL_stands_15 ?_
    refine z_goto 22 dL_stands_16 (by decide) ?_
    refine z_iconst (v := 0) dL_stands_22 rfl ?_
    exact hret _ (u, (vp_updL f 0 0)) _ _ _ dL_stands_23 ⟨rfl, rfl, (if_pos c).symm⟩ rfl
  ·
    refine z_lconst (v := 1) dL_stands_10 rfl ?_
    refine z_goto 15 dL_stands_11 (by decide) ?_
    refine z_last (w' := (wX0 cI cZ h a u ++ wO cJ o (vp_updL f 0 1))) 13 2 rfl rfl zin01 rfl dL_stands_15 ?_
    refine z_goto 22 dL_stands_16 (by decide) ?_
    refine z_iconst (v := 0) dL_stands_22 rfl ?_
    exact hret _ (u, (vp_updL f 0 1)) _ _ _ dL_stands_23 ⟨rfl, rfl, (if_neg c).symm⟩ rfl
set_option maxHeartbeats 4000000 in
set_option maxRecDepth 100000 in
theorem kx_stands (l : Launch) (hlt : l.stackTraces = false) (D : va_G) (cI cZ cJ : ClassId) (h : Nat) (a : Nat → Nat) (o : Nat) (u : SX) (f : Nat → Int64) (p1 : Int32) (he : e_X0_stands u p1 ≠ 0) (nn : Nat) (hnn : u.1 16 = nI nn) (hn : nn ≤ 120) : zMi l yL_stands wsL_stands ({ frames := 8, cells := 1, slots := 6, locals := 124 } : Room) zU D [(cI, .int), (cZ, .boolean), (cJ, .long)] (wX0 cI cZ h a u ++ wO cJ o f) [.ref h, .int p1, .ref o] (fun (r : Int32) (_ : Unit) => r = 1) (fun _ => (wX0 cI cZ h a u ++ wO cJ o f)) 1 6 := by
  refine z_startH (cc := cL_stands) (n := 4) (own := RL) (L0 := [(0, .ref h), (1, .int p1), (2, .ref o)]) (hh := [(0, 16, 19, 21)]) (plainFor_of_name (by decide)) rfl rfl (Nat.le_of_ble_eq_true rfl) rfl (fun E hEl htab hret => ?_)
  refine z_aload_n 2 dL_stands_0 rfl ?_
  refine z_iconst (v := 0) dL_stands_1 rfl ?_
  refine z_aload_n 0 dL_stands_2 rfl ?_
  refine z_iload_n 1 dL_stands_3 rfl ?_
  refine z_callVx_fr (As := [.int p1]) (st := [.int 0, .ref o]) [] (wO cJ o f) (by rw [hEl]; exact hlt) (fun l hl => t_X0_stands l hl D cI cZ h a u p1 he nn hnn hn) (fun s args hts => cwV 1 hts gL_stands_X0_stands rfl rfl rfl (by decide +kernel) ⟨Nat.le_of_ble_eq_true rfl, Nat.le_of_ble_eq_true rfl⟩) (ci := 0) rfl rfl rfl [0, 1] rfl rfl rfl (Nat.le_of_ble_eq_true rfl) ⟨Nat.le_of_ble_eq_true rfl, Nat.le_of_ble_eq_true rfl⟩ dL_stands_4 rfl ?_
  have hc := (ec_X0_stands u p1).resolve_left he
  refine z_catch htab "java/lang/IndexOutOfBoundsException" [] ⟨0, 16, 19, 21⟩ [] rfl (fun z hz => nomatch hz) (by decide) (by decide) (List.mem_of_getElem? (i := 1) rfl) (by decide) (fun E' hE => by rw [hE, hc]; rfl) (fun q9 => ?_)
  refine z_astore_n (L' := [(3, .ref q9), (0, .ref h), (1, .int p1), (2, .ref o)]) dL_stands_19 (by decide) rfl ?_
  refine z_iconst (v := 1) dL_stands_20 rfl ?_
  exact hret _ () _ _ _ dL_stands_21 rfl rfl
theorem ec_X0_waitsFor (u : SX) (p1 : Int32) : e_X0_waitsFor u p1 = 0 ∨ e_X0_waitsFor u p1 = 3 := by
  have h0 := ecN u p1
  unfold e_X0_waitsFor
  (repeat' split) <;> omega
set_option maxHeartbeats 4000000 in
set_option maxRecDepth 100000 in
theorem kn_waitsFor (l : Launch) (D : va_G) (cI cZ cJ : ClassId) (h : Nat) (a : Nat → Nat) (o : Nat) (u : SX) (f : Nat → Int64) (p1 : Int32) (he : e_X0_waitsFor u p1 = 0) (nn : Nat) (hnn : u.1 16 = nI nn) (hn : nn ≤ 120) : zMi l yL_waitsFor wsL_waitsFor ({ frames := 3, cells := 0, slots := 0, locals := 63 } : Room) zTT D [(cI, .int), (cZ, .boolean), (cJ, .long)] (wX0 cI cZ h a u ++ wO cJ o f) [.ref h, .int p1, .ref o] (fun (r : Int32) (u2 : SX × (Nat → Int64)) => r = 0 ∧ u2.1 = u ∧ u2.2 0 = (r_X0_waitsFor u p1).toInt64) (fun u2 => (wX0 cI cZ h a u2.1 ++ wO cJ o u2.2)) 0 0 := by
  refine z_startH (cc := cL_waitsFor) (n := 4) (own := RL) (L0 := [(0, .ref h), (1, .int p1), (2, .ref o)]) (hh := [(0, 9, 12, 21)]) (plainFor_of_name (by decide)) rfl rfl (Nat.le_of_ble_eq_true rfl) rfl (fun E hEl htab hret => ?_)
  refine z_aload_n 2 dL_waitsFor_0 rfl ?_
  refine z_iconst (v := 0) dL_waitsFor_1 rfl ?_
  refine z_aload_n 0 dL_waitsFor_2 rfl ?_
  refine z_iload_n 1 dL_waitsFor_3 rfl ?_
  refine z_callVi_fr (As := [.int p1]) (st := [.int 0, .ref o]) [] (wO cJ o f) (fun l => c_X0_waitsFor l D cI cZ h a u p1 he nn hnn hn) zGok_TT (fun _ _ _ => trivial) (fun s args hts => cwV 1 hts gL_waitsFor_X0_waitsFor rfl rfl rfl (by decide +kernel) ⟨Nat.le_of_ble_eq_true rfl, Nat.le_of_ble_eq_true rfl⟩) (ci := 0) rfl rfl rfl [0, 1] rfl rfl rfl (Nat.le_of_ble_eq_true rfl) ⟨Nat.le_of_ble_eq_true rfl, Nat.le_of_ble_eq_true rfl⟩ dL_waitsFor_4 rfl (fun r u2 hp => ?_)
  subst hp
  refine z_i2l (v := ((r_X0_waitsFor u p1)).toInt64) dL_waitsFor_7 rfl ?_
  refine z_last (w' := (wX0 cI cZ h a u ++ wO cJ o (vp_updL f 0 ((r_X0_waitsFor u p1)).toInt64))) 13 2 rfl rfl zin01 rfl dL_waitsFor_8 ?_
  refine z_goto 15 dL_waitsFor_9 (by decide) ?_
  refine z_iconst (v := 0) dL_waitsFor_15 rfl ?_
  exact hret _ (u, (vp_updL f 0 ((r_X0_waitsFor u p1)).toInt64)) _ _ _ dL_waitsFor_16 ⟨rfl, rfl, rfl⟩ rfl
set_option maxHeartbeats 4000000 in
set_option maxRecDepth 100000 in
theorem kx_waitsFor (l : Launch) (hlt : l.stackTraces = false) (D : va_G) (cI cZ cJ : ClassId) (h : Nat) (a : Nat → Nat) (o : Nat) (u : SX) (f : Nat → Int64) (p1 : Int32) (he : e_X0_waitsFor u p1 ≠ 0) (nn : Nat) (hnn : u.1 16 = nI nn) (hn : nn ≤ 120) : zMi l yL_waitsFor wsL_waitsFor ({ frames := 8, cells := 1, slots := 6, locals := 124 } : Room) zU D [(cI, .int), (cZ, .boolean), (cJ, .long)] (wX0 cI cZ h a u ++ wO cJ o f) [.ref h, .int p1, .ref o] (fun (r : Int32) (_ : Unit) => r = 1) (fun _ => (wX0 cI cZ h a u ++ wO cJ o f)) 1 6 := by
  refine z_startH (cc := cL_waitsFor) (n := 4) (own := RL) (L0 := [(0, .ref h), (1, .int p1), (2, .ref o)]) (hh := [(0, 9, 12, 21)]) (plainFor_of_name (by decide)) rfl rfl (Nat.le_of_ble_eq_true rfl) rfl (fun E hEl htab hret => ?_)
  refine z_aload_n 2 dL_waitsFor_0 rfl ?_
  refine z_iconst (v := 0) dL_waitsFor_1 rfl ?_
  refine z_aload_n 0 dL_waitsFor_2 rfl ?_
  refine z_iload_n 1 dL_waitsFor_3 rfl ?_
  refine z_callVx_fr (As := [.int p1]) (st := [.int 0, .ref o]) [] (wO cJ o f) (by rw [hEl]; exact hlt) (fun l hl => t_X0_waitsFor l hl D cI cZ h a u p1 he nn hnn hn) (fun s args hts => cwV 1 hts gL_waitsFor_X0_waitsFor rfl rfl rfl (by decide +kernel) ⟨Nat.le_of_ble_eq_true rfl, Nat.le_of_ble_eq_true rfl⟩) (ci := 0) rfl rfl rfl [0, 1] rfl rfl rfl (Nat.le_of_ble_eq_true rfl) ⟨Nat.le_of_ble_eq_true rfl, Nat.le_of_ble_eq_true rfl⟩ dL_waitsFor_4 rfl ?_
  have hc := (ec_X0_waitsFor u p1).resolve_left he
  refine z_catch htab "java/lang/IndexOutOfBoundsException" [] ⟨0, 9, 12, 21⟩ [] rfl (fun z hz => nomatch hz) (by decide) (by decide) (List.mem_of_getElem? (i := 1) rfl) (by decide) (fun E' hE => by rw [hE, hc]; rfl) (fun q9 => ?_)
  refine z_astore_n (L' := [(3, .ref q9), (0, .ref h), (1, .int p1), (2, .ref o)]) dL_waitsFor_12 (by decide) rfl ?_
  refine z_iconst (v := 1) dL_waitsFor_13 rfl ?_
  exact hret _ () _ _ _ dL_waitsFor_14 rfl rfl
theorem ec_X0_deliveredTo (u : SX) (p1 : Int32) : e_X0_deliveredTo u p1 = 0 ∨ e_X0_deliveredTo u p1 = 3 := by
  have h0 := ecN u p1
  unfold e_X0_deliveredTo
  (repeat' split) <;> omega
set_option maxHeartbeats 4000000 in
set_option maxRecDepth 100000 in
theorem kn_deliveredTo (l : Launch) (D : va_G) (cI cZ cJ : ClassId) (h : Nat) (a : Nat → Nat) (o : Nat) (u : SX) (f : Nat → Int64) (p1 : Int32) (he : e_X0_deliveredTo u p1 = 0) (nn : Nat) (hnn : u.1 16 = nI nn) (hn : nn ≤ 120) : zMi l yL_deliveredTo wsL_deliveredTo ({ frames := 2, cells := 0, slots := 0, locals := 42 } : Room) zTT D [(cI, .int), (cZ, .boolean), (cJ, .long)] (wX0 cI cZ h a u ++ wO cJ o f) [.ref h, .int p1, .ref o] (fun (r : Int32) (u2 : SX × (Nat → Int64)) => r = 0 ∧ u2.1 = u ∧ u2.2 0 = (r_X0_deliveredTo u p1).toInt64) (fun u2 => (wX0 cI cZ h a u2.1 ++ wO cJ o u2.2)) 0 0 := by
  refine z_startH (cc := cL_deliveredTo) (n := 4) (own := RL) (L0 := [(0, .ref h), (1, .int p1), (2, .ref o)]) (hh := [(0, 9, 12, 21)]) (plainFor_of_name (by decide)) rfl rfl (Nat.le_of_ble_eq_true rfl) rfl (fun E hEl htab hret => ?_)
  refine z_aload_n 2 dL_deliveredTo_0 rfl ?_
  refine z_iconst (v := 0) dL_deliveredTo_1 rfl ?_
  refine z_aload_n 0 dL_deliveredTo_2 rfl ?_
  refine z_iload_n 1 dL_deliveredTo_3 rfl ?_
  refine z_callVi_fr (As := [.int p1]) (st := [.int 0, .ref o]) [] (wO cJ o f) (fun l => c_X0_deliveredTo l D cI cZ h a u p1 he nn hnn hn) zGok_TT (fun _ _ _ => trivial) (fun s args hts => cwV 1 hts gL_deliveredTo_X0_deliveredTo rfl rfl rfl (by decide +kernel) ⟨Nat.le_of_ble_eq_true rfl, Nat.le_of_ble_eq_true rfl⟩) (ci := 0) rfl rfl rfl [0, 1] rfl rfl rfl (Nat.le_of_ble_eq_true rfl) ⟨Nat.le_of_ble_eq_true rfl, Nat.le_of_ble_eq_true rfl⟩ dL_deliveredTo_4 rfl (fun r u2 hp => ?_)
  subst hp
  refine z_i2l (v := ((r_X0_deliveredTo u p1)).toInt64) dL_deliveredTo_7 rfl ?_
  refine z_last (w' := (wX0 cI cZ h a u ++ wO cJ o (vp_updL f 0 ((r_X0_deliveredTo u p1)).toInt64))) 13 2 rfl rfl zin01 rfl dL_deliveredTo_8 ?_
  refine z_goto 15 dL_deliveredTo_9 (by decide) ?_
  refine z_iconst (v := 0) dL_deliveredTo_15 rfl ?_
  exact hret _ (u, (vp_updL f 0 ((r_X0_deliveredTo u p1)).toInt64)) _ _ _ dL_deliveredTo_16 ⟨rfl, rfl, rfl⟩ rfl
set_option maxHeartbeats 4000000 in
set_option maxRecDepth 100000 in
theorem kx_deliveredTo (l : Launch) (hlt : l.stackTraces = false) (D : va_G) (cI cZ cJ : ClassId) (h : Nat) (a : Nat → Nat) (o : Nat) (u : SX) (f : Nat → Int64) (p1 : Int32) (he : e_X0_deliveredTo u p1 ≠ 0) (nn : Nat) (hnn : u.1 16 = nI nn) (hn : nn ≤ 120) : zMi l yL_deliveredTo wsL_deliveredTo ({ frames := 8, cells := 1, slots := 6, locals := 124 } : Room) zU D [(cI, .int), (cZ, .boolean), (cJ, .long)] (wX0 cI cZ h a u ++ wO cJ o f) [.ref h, .int p1, .ref o] (fun (r : Int32) (_ : Unit) => r = 1) (fun _ => (wX0 cI cZ h a u ++ wO cJ o f)) 1 6 := by
  refine z_startH (cc := cL_deliveredTo) (n := 4) (own := RL) (L0 := [(0, .ref h), (1, .int p1), (2, .ref o)]) (hh := [(0, 9, 12, 21)]) (plainFor_of_name (by decide)) rfl rfl (Nat.le_of_ble_eq_true rfl) rfl (fun E hEl htab hret => ?_)
  refine z_aload_n 2 dL_deliveredTo_0 rfl ?_
  refine z_iconst (v := 0) dL_deliveredTo_1 rfl ?_
  refine z_aload_n 0 dL_deliveredTo_2 rfl ?_
  refine z_iload_n 1 dL_deliveredTo_3 rfl ?_
  refine z_callVx_fr (As := [.int p1]) (st := [.int 0, .ref o]) [] (wO cJ o f) (by rw [hEl]; exact hlt) (fun l hl => t_X0_deliveredTo l hl D cI cZ h a u p1 he nn hnn hn) (fun s args hts => cwV 1 hts gL_deliveredTo_X0_deliveredTo rfl rfl rfl (by decide +kernel) ⟨Nat.le_of_ble_eq_true rfl, Nat.le_of_ble_eq_true rfl⟩) (ci := 0) rfl rfl rfl [0, 1] rfl rfl rfl (Nat.le_of_ble_eq_true rfl) ⟨Nat.le_of_ble_eq_true rfl, Nat.le_of_ble_eq_true rfl⟩ dL_deliveredTo_4 rfl ?_
  have hc := (ec_X0_deliveredTo u p1).resolve_left he
  refine z_catch htab "java/lang/IndexOutOfBoundsException" [] ⟨0, 9, 12, 21⟩ [] rfl (fun z hz => nomatch hz) (by decide) (by decide) (List.mem_of_getElem? (i := 1) rfl) (by decide) (fun E' hE => by rw [hE, hc]; rfl) (fun q9 => ?_)
  refine z_astore_n (L' := [(3, .ref q9), (0, .ref h), (1, .int p1), (2, .ref o)]) dL_deliveredTo_12 (by decide) rfl ?_
  refine z_iconst (v := 1) dL_deliveredTo_13 rfl ?_
  exact hret _ () _ _ _ dL_deliveredTo_14 rfl rfl
theorem ec_X0_standing (u : SX) (p1 p2 : Int32) : e_X0_standing u p1 p2 = 0 ∨ e_X0_standing u p1 p2 = 1 := by
  have h0 := ecW p1 0 7
  have h1 := ecW p2 0 9
  unfold e_X0_standing
  (repeat' split) <;> omega
set_option maxHeartbeats 4000000 in
set_option maxRecDepth 100000 in
theorem kn_standing (l : Launch) (D : va_G) (cI cZ cJ : ClassId) (h : Nat) (a : Nat → Nat) (o : Nat) (u : SX) (f : Nat → Int64) (p1 p2 : Int32) (he : e_X0_standing u p1 p2 = 0) (hlk : ∀ i : Nat, i < 80 → (u.2 15 i) = (-1) ∨ vp_in (u.2 15 i) 120) : zMi l yL_standing wsL_standing ({ frames := 2, cells := 0, slots := 0, locals := 45 } : Room) zTT D [(cI, .int), (cZ, .boolean), (cJ, .long)] (wX0 cI cZ h a u ++ wO cJ o f) [.ref h, .int p1, .int p2, .ref o] (fun (r : Int32) (u2 : SX × (Nat → Int64)) => r = 0 ∧ u2.1 = u ∧ u2.2 0 = (r_X0_standing u p1 p2).toInt64) (fun u2 => (wX0 cI cZ h a u2.1 ++ wO cJ o u2.2)) 0 0 := by
  refine z_startH (cc := cL_standing) (n := 5) (own := RL) (L0 := [(0, .ref h), (1, .int p1), (2, .int p2), (3, .ref o)]) (hh := [(0, 10, 13, 13)]) (plainFor_of_name (by decide)) rfl rfl (Nat.le_of_ble_eq_true rfl) rfl (fun E hEl htab hret => ?_)
  refine z_aload_n 3 dL_standing_0 rfl ?_
  refine z_iconst (v := 0) dL_standing_1 rfl ?_
  refine z_aload_n 0 dL_standing_2 rfl ?_
  refine z_iload_n 1 dL_standing_3 rfl ?_
  refine z_iload_n 2 dL_standing_4 rfl ?_
  refine z_callVi_fr (As := [.int p1, .int p2]) (st := [.int 0, .ref o]) [] (wO cJ o f) (fun l => c_X0_standing l D cI cZ h a u p1 p2 he hlk) zGok_TT (fun _ _ _ => trivial) (fun s args hts => cwV 2 hts gL_standing_X0_standing rfl rfl rfl (by decide +kernel) ⟨Nat.le_of_ble_eq_true rfl, Nat.le_of_ble_eq_true rfl⟩) (ci := 0) rfl rfl rfl [0, 1] rfl rfl rfl (Nat.le_of_ble_eq_true rfl) ⟨Nat.le_of_ble_eq_true rfl, Nat.le_of_ble_eq_true rfl⟩ dL_standing_5 rfl (fun r u2 hp => ?_)
  subst hp
  refine z_i2l (v := ((r_X0_standing u p1 p2)).toInt64) dL_standing_8 rfl ?_
  refine z_last (w' := (wX0 cI cZ h a u ++ wO cJ o (vp_updL f 0 ((r_X0_standing u p1 p2)).toInt64))) 13 2 rfl rfl zin01 rfl dL_standing_9 ?_
  refine z_goto 17 dL_standing_10 (by decide) ?_
  refine z_iconst (v := 0) dL_standing_17 rfl ?_
  exact hret _ (u, (vp_updL f 0 ((r_X0_standing u p1 p2)).toInt64)) _ _ _ dL_standing_18 ⟨rfl, rfl, rfl⟩ rfl
set_option maxHeartbeats 4000000 in
set_option maxRecDepth 100000 in
theorem kx_standing (l : Launch) (hlt : l.stackTraces = false) (D : va_G) (cI cZ cJ : ClassId) (h : Nat) (a : Nat → Nat) (o : Nat) (u : SX) (f : Nat → Int64) (p1 p2 : Int32) (he : e_X0_standing u p1 p2 ≠ 0) (hlk : ∀ i : Nat, i < 80 → (u.2 15 i) = (-1) ∨ vp_in (u.2 15 i) 120) : zMi l yL_standing wsL_standing ({ frames := 8, cells := 1, slots := 6, locals := 127 } : Room) zU D [(cI, .int), (cZ, .boolean), (cJ, .long)] (wX0 cI cZ h a u ++ wO cJ o f) [.ref h, .int p1, .int p2, .ref o] (fun (r : Int32) (_ : Unit) => r = 1) (fun _ => (wX0 cI cZ h a u ++ wO cJ o f)) 1 6 := by
  refine z_startH (cc := cL_standing) (n := 5) (own := RL) (L0 := [(0, .ref h), (1, .int p1), (2, .int p2), (3, .ref o)]) (hh := [(0, 10, 13, 13)]) (plainFor_of_name (by decide)) rfl rfl (Nat.le_of_ble_eq_true rfl) rfl (fun E hEl htab hret => ?_)
  refine z_aload_n 3 dL_standing_0 rfl ?_
  refine z_iconst (v := 0) dL_standing_1 rfl ?_
  refine z_aload_n 0 dL_standing_2 rfl ?_
  refine z_iload_n 1 dL_standing_3 rfl ?_
  refine z_iload_n 2 dL_standing_4 rfl ?_
  refine z_callVx_fr (As := [.int p1, .int p2]) (st := [.int 0, .ref o]) [] (wO cJ o f) (by rw [hEl]; exact hlt) (fun l hl => t_X0_standing l hl D cI cZ h a u p1 p2 he hlk) (fun s args hts => cwV 2 hts gL_standing_X0_standing rfl rfl rfl (by decide +kernel) ⟨Nat.le_of_ble_eq_true rfl, Nat.le_of_ble_eq_true rfl⟩) (ci := 0) rfl rfl rfl [0, 1] rfl rfl rfl (Nat.le_of_ble_eq_true rfl) ⟨Nat.le_of_ble_eq_true rfl, Nat.le_of_ble_eq_true rfl⟩ dL_standing_5 rfl ?_
  have hc := (ec_X0_standing u p1 p2).resolve_left he
  refine z_catch htab "java/lang/IllegalArgumentException" [] ⟨0, 10, 13, 13⟩ [] rfl (fun z hz => nomatch hz) (by decide) (by decide) (List.mem_of_getElem? (i := 1) rfl) (by decide) (fun E' hE => by rw [hE, hc]; rfl) (fun q9 => ?_)
  refine z_astore (L' := [(4, .ref q9), (0, .ref h), (1, .int p1), (2, .int p2), (3, .ref o)]) dL_standing_13 (by decide) rfl ?_
  refine z_iconst (v := 1) dL_standing_15 rfl ?_
  exact hret _ () _ _ _ dL_standing_16 rfl rfl
theorem ec_X0_badge (u : SX) (p1 : Int32) : e_X0_badge u p1 = 0 ∨ e_X0_badge u p1 = 3 := by
  have h0 := ecD u p1
  unfold e_X0_badge
  (repeat' split) <;> omega
set_option maxHeartbeats 4000000 in
set_option maxRecDepth 100000 in
theorem kn_badge (l : Launch) (D : va_G) (cI cZ cJ : ClassId) (h : Nat) (a : Nat → Nat) (o : Nat) (u : SX) (f : Nat → Int64) (p1 : Int32) (he : e_X0_badge u p1 = 0) (nd : Nat) (hnd : u.1 10 = nI nd) (hd : nd ≤ 16) (nn : Nat) (hnn : u.1 16 = nI nn) (hn : nn ≤ 120) : zMi l yL_badge wsL_badge ({ frames := 3, cells := 0, slots := 0, locals := 64 } : Room) zTT D [(cI, .int), (cZ, .boolean), (cJ, .long)] (wX0 cI cZ h a u ++ wO cJ o f) [.ref h, .int p1, .ref o] (fun (r : Int32) (u2 : SX × (Nat → Int64)) => r = 0 ∧ u2.1 = u ∧ u2.2 0 = (r_X0_badge u p1).toInt64) (fun u2 => (wX0 cI cZ h a u2.1 ++ wO cJ o u2.2)) 0 0 := by
  refine z_startH (cc := cL_badge) (n := 4) (own := RL) (L0 := [(0, .ref h), (1, .int p1), (2, .ref o)]) (hh := [(0, 9, 12, 21)]) (plainFor_of_name (by decide)) rfl rfl (Nat.le_of_ble_eq_true rfl) rfl (fun E hEl htab hret => ?_)
  refine z_aload_n 2 dL_badge_0 rfl ?_
  refine z_iconst (v := 0) dL_badge_1 rfl ?_
  refine z_aload_n 0 dL_badge_2 rfl ?_
  refine z_iload_n 1 dL_badge_3 rfl ?_
  refine z_callVi_fr (As := [.int p1]) (st := [.int 0, .ref o]) [] (wO cJ o f) (fun l => c_X0_badge l D cI cZ h a u p1 he nd hnd hd nn hnn hn) zGok_TT (fun _ _ _ => trivial) (fun s args hts => cwV 1 hts gL_badge_X0_badge rfl rfl rfl (by decide +kernel) ⟨Nat.le_of_ble_eq_true rfl, Nat.le_of_ble_eq_true rfl⟩) (ci := 0) rfl rfl rfl [0, 1] rfl rfl rfl (Nat.le_of_ble_eq_true rfl) ⟨Nat.le_of_ble_eq_true rfl, Nat.le_of_ble_eq_true rfl⟩ dL_badge_4 rfl (fun r u2 hp => ?_)
  subst hp
  refine z_i2l (v := ((r_X0_badge u p1)).toInt64) dL_badge_7 rfl ?_
  refine z_last (w' := (wX0 cI cZ h a u ++ wO cJ o (vp_updL f 0 ((r_X0_badge u p1)).toInt64))) 13 2 rfl rfl zin01 rfl dL_badge_8 ?_
  refine z_goto 15 dL_badge_9 (by decide) ?_
  refine z_iconst (v := 0) dL_badge_15 rfl ?_
  exact hret _ (u, (vp_updL f 0 ((r_X0_badge u p1)).toInt64)) _ _ _ dL_badge_16 ⟨rfl, rfl, rfl⟩ rfl
set_option maxHeartbeats 4000000 in
set_option maxRecDepth 100000 in
theorem kx_badge (l : Launch) (hlt : l.stackTraces = false) (D : va_G) (cI cZ cJ : ClassId) (h : Nat) (a : Nat → Nat) (o : Nat) (u : SX) (f : Nat → Int64) (p1 : Int32) (he : e_X0_badge u p1 ≠ 0) (nd : Nat) (hnd : u.1 10 = nI nd) (hd : nd ≤ 16) (nn : Nat) (hnn : u.1 16 = nI nn) (hn : nn ≤ 120) : zMi l yL_badge wsL_badge ({ frames := 8, cells := 1, slots := 6, locals := 126 } : Room) zU D [(cI, .int), (cZ, .boolean), (cJ, .long)] (wX0 cI cZ h a u ++ wO cJ o f) [.ref h, .int p1, .ref o] (fun (r : Int32) (_ : Unit) => r = 1) (fun _ => (wX0 cI cZ h a u ++ wO cJ o f)) 1 6 := by
  refine z_startH (cc := cL_badge) (n := 4) (own := RL) (L0 := [(0, .ref h), (1, .int p1), (2, .ref o)]) (hh := [(0, 9, 12, 21)]) (plainFor_of_name (by decide)) rfl rfl (Nat.le_of_ble_eq_true rfl) rfl (fun E hEl htab hret => ?_)
  refine z_aload_n 2 dL_badge_0 rfl ?_
  refine z_iconst (v := 0) dL_badge_1 rfl ?_
  refine z_aload_n 0 dL_badge_2 rfl ?_
  refine z_iload_n 1 dL_badge_3 rfl ?_
  refine z_callVx_fr (As := [.int p1]) (st := [.int 0, .ref o]) [] (wO cJ o f) (by rw [hEl]; exact hlt) (fun l hl => t_X0_badge l hl D cI cZ h a u p1 he nd hnd hd nn hnn hn) (fun s args hts => cwV 1 hts gL_badge_X0_badge rfl rfl rfl (by decide +kernel) ⟨Nat.le_of_ble_eq_true rfl, Nat.le_of_ble_eq_true rfl⟩) (ci := 0) rfl rfl rfl [0, 1] rfl rfl rfl (Nat.le_of_ble_eq_true rfl) ⟨Nat.le_of_ble_eq_true rfl, Nat.le_of_ble_eq_true rfl⟩ dL_badge_4 rfl ?_
  have hc := (ec_X0_badge u p1).resolve_left he
  refine z_catch htab "java/lang/IndexOutOfBoundsException" [] ⟨0, 9, 12, 21⟩ [] rfl (fun z hz => nomatch hz) (by decide) (by decide) (List.mem_of_getElem? (i := 1) rfl) (by decide) (fun E' hE => by rw [hE, hc]; rfl) (fun q9 => ?_)
  refine z_astore_n (L' := [(3, .ref q9), (0, .ref h), (1, .int p1), (2, .ref o)]) dL_badge_12 (by decide) rfl ?_
  refine z_iconst (v := 1) dL_badge_13 rfl ?_
  exact hret _ () _ _ _ dL_badge_14 rfl rfl
theorem ec_X0_waiting (u : SX) (p1 : Int32) : e_X0_waiting u p1 = 0 ∨ e_X0_waiting u p1 = 3 := by
  have h0 := ecD u p1
  unfold e_X0_waiting
  (repeat' split) <;> omega
set_option maxHeartbeats 4000000 in
set_option maxRecDepth 100000 in
theorem kn_waiting (l : Launch) (D : va_G) (cI cZ cJ : ClassId) (h : Nat) (a : Nat → Nat) (o : Nat) (u : SX) (f : Nat → Int64) (p1 : Int32) (he : e_X0_waiting u p1 = 0) (nd : Nat) (hnd : u.1 10 = nI nd) (hd : nd ≤ 16) (nn : Nat) (hnn : u.1 16 = nI nn) (hn : nn ≤ 120) : zMi l yL_waiting wsL_waiting ({ frames := 4, cells := 0, slots := 0, locals := 86 } : Room) zTT D [(cI, .int), (cZ, .boolean), (cJ, .long)] (wX0 cI cZ h a u ++ wO cJ o f) [.ref h, .int p1, .ref o] (fun (r : Int32) (u2 : SX × (Nat → Int64)) => r = 0 ∧ u2.1 = u ∧ u2.2 0 = (r_X0_waiting u p1).toInt64) (fun u2 => (wX0 cI cZ h a u2.1 ++ wO cJ o u2.2)) 0 0 := by
  refine z_startH (cc := cL_waiting) (n := 4) (own := RL) (L0 := [(0, .ref h), (1, .int p1), (2, .ref o)]) (hh := [(0, 9, 12, 21)]) (plainFor_of_name (by decide)) rfl rfl (Nat.le_of_ble_eq_true rfl) rfl (fun E hEl htab hret => ?_)
  refine z_aload_n 2 dL_waiting_0 rfl ?_
  refine z_iconst (v := 0) dL_waiting_1 rfl ?_
  refine z_aload_n 0 dL_waiting_2 rfl ?_
  refine z_iload_n 1 dL_waiting_3 rfl ?_
  refine z_callVi_fr (As := [.int p1]) (st := [.int 0, .ref o]) [] (wO cJ o f) (fun l => c_X0_waiting l D cI cZ h a u p1 he nd hnd hd nn hnn hn) zGok_TT (fun _ _ _ => trivial) (fun s args hts => cwV 1 hts gL_waiting_X0_waiting rfl rfl rfl (by decide +kernel) ⟨Nat.le_of_ble_eq_true rfl, Nat.le_of_ble_eq_true rfl⟩) (ci := 0) rfl rfl rfl [0, 1] rfl rfl rfl (Nat.le_of_ble_eq_true rfl) ⟨Nat.le_of_ble_eq_true rfl, Nat.le_of_ble_eq_true rfl⟩ dL_waiting_4 rfl (fun r u2 hp => ?_)
  subst hp
  refine z_i2l (v := ((r_X0_waiting u p1)).toInt64) dL_waiting_7 rfl ?_
  refine z_last (w' := (wX0 cI cZ h a u ++ wO cJ o (vp_updL f 0 ((r_X0_waiting u p1)).toInt64))) 13 2 rfl rfl zin01 rfl dL_waiting_8 ?_
  refine z_goto 15 dL_waiting_9 (by decide) ?_
  refine z_iconst (v := 0) dL_waiting_15 rfl ?_
  exact hret _ (u, (vp_updL f 0 ((r_X0_waiting u p1)).toInt64)) _ _ _ dL_waiting_16 ⟨rfl, rfl, rfl⟩ rfl
set_option maxHeartbeats 4000000 in
set_option maxRecDepth 100000 in
theorem kx_waiting (l : Launch) (hlt : l.stackTraces = false) (D : va_G) (cI cZ cJ : ClassId) (h : Nat) (a : Nat → Nat) (o : Nat) (u : SX) (f : Nat → Int64) (p1 : Int32) (he : e_X0_waiting u p1 ≠ 0) (nd : Nat) (hnd : u.1 10 = nI nd) (hd : nd ≤ 16) (nn : Nat) (hnn : u.1 16 = nI nn) (hn : nn ≤ 120) : zMi l yL_waiting wsL_waiting ({ frames := 8, cells := 1, slots := 6, locals := 124 } : Room) zU D [(cI, .int), (cZ, .boolean), (cJ, .long)] (wX0 cI cZ h a u ++ wO cJ o f) [.ref h, .int p1, .ref o] (fun (r : Int32) (_ : Unit) => r = 1) (fun _ => (wX0 cI cZ h a u ++ wO cJ o f)) 1 6 := by
  refine z_startH (cc := cL_waiting) (n := 4) (own := RL) (L0 := [(0, .ref h), (1, .int p1), (2, .ref o)]) (hh := [(0, 9, 12, 21)]) (plainFor_of_name (by decide)) rfl rfl (Nat.le_of_ble_eq_true rfl) rfl (fun E hEl htab hret => ?_)
  refine z_aload_n 2 dL_waiting_0 rfl ?_
  refine z_iconst (v := 0) dL_waiting_1 rfl ?_
  refine z_aload_n 0 dL_waiting_2 rfl ?_
  refine z_iload_n 1 dL_waiting_3 rfl ?_
  refine z_callVx_fr (As := [.int p1]) (st := [.int 0, .ref o]) [] (wO cJ o f) (by rw [hEl]; exact hlt) (fun l hl => t_X0_waiting l hl D cI cZ h a u p1 he nd hnd hd nn hnn hn) (fun s args hts => cwV 1 hts gL_waiting_X0_waiting rfl rfl rfl (by decide +kernel) ⟨Nat.le_of_ble_eq_true rfl, Nat.le_of_ble_eq_true rfl⟩) (ci := 0) rfl rfl rfl [0, 1] rfl rfl rfl (Nat.le_of_ble_eq_true rfl) ⟨Nat.le_of_ble_eq_true rfl, Nat.le_of_ble_eq_true rfl⟩ dL_waiting_4 rfl ?_
  have hc := (ec_X0_waiting u p1).resolve_left he
  refine z_catch htab "java/lang/IndexOutOfBoundsException" [] ⟨0, 9, 12, 21⟩ [] rfl (fun z hz => nomatch hz) (by decide) (by decide) (List.mem_of_getElem? (i := 1) rfl) (by decide) (fun E' hE => by rw [hE, hc]; rfl) (fun q9 => ?_)
  refine z_astore_n (L' := [(3, .ref q9), (0, .ref h), (1, .int p1), (2, .ref o)]) dL_waiting_12 (by decide) rfl ?_
  refine z_iconst (v := 1) dL_waiting_13 rfl ?_
  exact hret _ () _ _ _ dL_waiting_14 rfl rfl
theorem ec_X0_quota (u : SX) (p1 : Int32) : e_X0_quota u p1 = 0 ∨ e_X0_quota u p1 = 3 := by
  have h0 := ecD u p1
  unfold e_X0_quota
  (repeat' split) <;> omega
set_option maxHeartbeats 4000000 in
set_option maxRecDepth 100000 in
theorem kn_quota (l : Launch) (D : va_G) (cI cZ cJ : ClassId) (h : Nat) (a : Nat → Nat) (o : Nat) (u : SX) (f : Nat → Int64) (p1 : Int32) (he : e_X0_quota u p1 = 0) (nd : Nat) (hnd : u.1 10 = nI nd) (hd : nd ≤ 16) : zMi l yL_quota wsL_quota ({ frames := 2, cells := 0, slots := 0, locals := 42 } : Room) zTT D [(cI, .int), (cZ, .boolean), (cJ, .long)] (wX0 cI cZ h a u ++ wO cJ o f) [.ref h, .int p1, .ref o] (fun (r : Int32) (u2 : SX × (Nat → Int64)) => r = 0 ∧ u2.1 = u ∧ u2.2 0 = (r_X0_quota u p1).toInt64) (fun u2 => (wX0 cI cZ h a u2.1 ++ wO cJ o u2.2)) 0 0 := by
  refine z_startH (cc := cL_quota) (n := 4) (own := RL) (L0 := [(0, .ref h), (1, .int p1), (2, .ref o)]) (hh := [(0, 9, 12, 21)]) (plainFor_of_name (by decide)) rfl rfl (Nat.le_of_ble_eq_true rfl) rfl (fun E hEl htab hret => ?_)
  refine z_aload_n 2 dL_quota_0 rfl ?_
  refine z_iconst (v := 0) dL_quota_1 rfl ?_
  refine z_aload_n 0 dL_quota_2 rfl ?_
  refine z_iload_n 1 dL_quota_3 rfl ?_
  refine z_callVi_fr (As := [.int p1]) (st := [.int 0, .ref o]) [] (wO cJ o f) (fun l => c_X0_quota l D cI cZ h a u p1 he nd hnd hd) zGok_TT (fun _ _ _ => trivial) (fun s args hts => cwV 1 hts gL_quota_X0_quota rfl rfl rfl (by decide +kernel) ⟨Nat.le_of_ble_eq_true rfl, Nat.le_of_ble_eq_true rfl⟩) (ci := 0) rfl rfl rfl [0, 1] rfl rfl rfl (Nat.le_of_ble_eq_true rfl) ⟨Nat.le_of_ble_eq_true rfl, Nat.le_of_ble_eq_true rfl⟩ dL_quota_4 rfl (fun r u2 hp => ?_)
  subst hp
  refine z_i2l (v := ((r_X0_quota u p1)).toInt64) dL_quota_7 rfl ?_
  refine z_last (w' := (wX0 cI cZ h a u ++ wO cJ o (vp_updL f 0 ((r_X0_quota u p1)).toInt64))) 13 2 rfl rfl zin01 rfl dL_quota_8 ?_
  refine z_goto 15 dL_quota_9 (by decide) ?_
  refine z_iconst (v := 0) dL_quota_15 rfl ?_
  exact hret _ (u, (vp_updL f 0 ((r_X0_quota u p1)).toInt64)) _ _ _ dL_quota_16 ⟨rfl, rfl, rfl⟩ rfl
set_option maxHeartbeats 4000000 in
set_option maxRecDepth 100000 in
theorem kx_quota (l : Launch) (hlt : l.stackTraces = false) (D : va_G) (cI cZ cJ : ClassId) (h : Nat) (a : Nat → Nat) (o : Nat) (u : SX) (f : Nat → Int64) (p1 : Int32) (he : e_X0_quota u p1 ≠ 0) (nd : Nat) (hnd : u.1 10 = nI nd) (hd : nd ≤ 16) : zMi l yL_quota wsL_quota ({ frames := 8, cells := 1, slots := 6, locals := 124 } : Room) zU D [(cI, .int), (cZ, .boolean), (cJ, .long)] (wX0 cI cZ h a u ++ wO cJ o f) [.ref h, .int p1, .ref o] (fun (r : Int32) (_ : Unit) => r = 1) (fun _ => (wX0 cI cZ h a u ++ wO cJ o f)) 1 6 := by
  refine z_startH (cc := cL_quota) (n := 4) (own := RL) (L0 := [(0, .ref h), (1, .int p1), (2, .ref o)]) (hh := [(0, 9, 12, 21)]) (plainFor_of_name (by decide)) rfl rfl (Nat.le_of_ble_eq_true rfl) rfl (fun E hEl htab hret => ?_)
  refine z_aload_n 2 dL_quota_0 rfl ?_
  refine z_iconst (v := 0) dL_quota_1 rfl ?_
  refine z_aload_n 0 dL_quota_2 rfl ?_
  refine z_iload_n 1 dL_quota_3 rfl ?_
  refine z_callVx_fr (As := [.int p1]) (st := [.int 0, .ref o]) [] (wO cJ o f) (by rw [hEl]; exact hlt) (fun l hl => t_X0_quota l hl D cI cZ h a u p1 he nd hnd hd) (fun s args hts => cwV 1 hts gL_quota_X0_quota rfl rfl rfl (by decide +kernel) ⟨Nat.le_of_ble_eq_true rfl, Nat.le_of_ble_eq_true rfl⟩) (ci := 0) rfl rfl rfl [0, 1] rfl rfl rfl (Nat.le_of_ble_eq_true rfl) ⟨Nat.le_of_ble_eq_true rfl, Nat.le_of_ble_eq_true rfl⟩ dL_quota_4 rfl ?_
  have hc := (ec_X0_quota u p1).resolve_left he
  refine z_catch htab "java/lang/IndexOutOfBoundsException" [] ⟨0, 9, 12, 21⟩ [] rfl (fun z hz => nomatch hz) (by decide) (by decide) (List.mem_of_getElem? (i := 1) rfl) (by decide) (fun E' hE => by rw [hE, hc]; rfl) (fun q9 => ?_)
  refine z_astore_n (L' := [(3, .ref q9), (0, .ref h), (1, .int p1), (2, .ref o)]) dL_quota_12 (by decide) rfl ?_
  refine z_iconst (v := 1) dL_quota_13 rfl ?_
  exact hret _ () _ _ _ dL_quota_14 rfl rfl
theorem ec_X0_pass (u : SX) (p1 : Int32) : e_X0_pass u p1 = 0 ∨ e_X0_pass u p1 = 1 ∨ e_X0_pass u p1 = 2 := by
  have h0 := ecW p1 1 3000
  unfold e_X0_pass
  (repeat' split) <;> omega
set_option maxHeartbeats 4000000 in
set_option maxRecDepth 100000 in
theorem kn_pass (l : Launch) (D : va_G) (cI cZ cJ : ClassId) (h : Nat) (a : Nat → Nat) (o : Nat) (u : SX) (f : Nat → Int64) (p1 : Int32) (he : e_X0_pass u p1 = 0) (nd : Nat) (hnd : u.1 10 = nI nd) (hd : nd ≤ 16) (nn : Nat) (hnn : u.1 16 = nI nn) (hn : nn ≤ 120) : zMi l yL_pass wsL_pass ({ frames := 6, cells := 0, slots := 0, locals := 136 } : Room) zTT D [(cI, .int), (cZ, .boolean), (cJ, .long)] (wX0 cI cZ h a u ++ wO cJ o f) [.ref h, .int p1, .ref o] (fun (r : Int32) (u2 : SX × (Nat → Int64)) => r = 0 ∧ u2.1 = (s_X0_pass u p1) ∧ u2.2 0 = (r_X0_pass u p1).toInt64) (fun u2 => (wX0 cI cZ h a u2.1 ++ wO cJ o u2.2)) 0 0 := by
  refine z_startH (cc := cL_pass) (n := 4) (own := RL) (L0 := [(0, .ref h), (1, .int p1), (2, .ref o)]) (hh := [(0, 9, 12, 13), (0, 9, 15, 15)]) (plainFor_of_name (by decide)) rfl rfl (Nat.le_of_ble_eq_true rfl) rfl (fun E hEl htab hret => ?_)
  refine z_aload_n 2 dL_pass_0 rfl ?_
  refine z_iconst (v := 0) dL_pass_1 rfl ?_
  refine z_aload_n 0 dL_pass_2 rfl ?_
  refine z_iload_n 1 dL_pass_3 rfl ?_
  refine z_callVi_fr (As := [.int p1]) (st := [.int 0, .ref o]) [] (wO cJ o f) (fun l => c_X0_pass l D cI cZ h a u p1 he nd hnd hd nn hnn hn) zGok_TT (fun _ _ _ => trivial) (fun s args hts => cwV 1 hts gL_pass_X0_pass rfl rfl rfl (by decide +kernel) ⟨Nat.le_of_ble_eq_true rfl, Nat.le_of_ble_eq_true rfl⟩) (ci := 0) rfl rfl rfl [0, 1] rfl rfl rfl (Nat.le_of_ble_eq_true rfl) ⟨Nat.le_of_ble_eq_true rfl, Nat.le_of_ble_eq_true rfl⟩ dL_pass_4 rfl (fun r u2 hp => ?_)
  obtain ⟨rfl, rfl⟩ := hp
  refine z_i2l (v := ((r_X0_pass u p1)).toInt64) dL_pass_7 rfl ?_
  refine z_last (w' := (wX0 cI cZ h a (s_X0_pass u p1) ++ wO cJ o (vp_updL f 0 ((r_X0_pass u p1)).toInt64))) 13 2 rfl rfl zin01 rfl dL_pass_8 ?_
  refine z_goto 18 dL_pass_9 (by decide) ?_
  refine z_iconst (v := 0) dL_pass_18 rfl ?_
  exact hret _ ((s_X0_pass u p1), (vp_updL f 0 ((r_X0_pass u p1)).toInt64)) _ _ _ dL_pass_19 ⟨rfl, rfl, rfl⟩ rfl
set_option maxHeartbeats 4000000 in
set_option maxRecDepth 100000 in
theorem kx_pass (l : Launch) (hlt : l.stackTraces = false) (D : va_G) (cI cZ cJ : ClassId) (h : Nat) (a : Nat → Nat) (o : Nat) (u : SX) (f : Nat → Int64) (p1 : Int32) (he : e_X0_pass u p1 ≠ 0) (nd : Nat) (hnd : u.1 10 = nI nd) (hd : nd ≤ 16) (nn : Nat) (hnn : u.1 16 = nI nn) (hn : nn ≤ 120) : zMi l yL_pass wsL_pass ({ frames := 8, cells := 1, slots := 6, locals := 136 } : Room) zU D [(cI, .int), (cZ, .boolean), (cJ, .long)] (wX0 cI cZ h a u ++ wO cJ o f) [.ref h, .int p1, .ref o] (fun (r : Int32) (_ : Unit) => r = (if e_X0_pass u p1 = 1 then 1 else 2)) (fun _ => (wX0 cI cZ h a u ++ wO cJ o f)) 1 6 := by
  refine z_startH (cc := cL_pass) (n := 4) (own := RL) (L0 := [(0, .ref h), (1, .int p1), (2, .ref o)]) (hh := [(0, 9, 12, 13), (0, 9, 15, 15)]) (plainFor_of_name (by decide)) rfl rfl (Nat.le_of_ble_eq_true rfl) rfl (fun E hEl htab hret => ?_)
  refine z_aload_n 2 dL_pass_0 rfl ?_
  refine z_iconst (v := 0) dL_pass_1 rfl ?_
  refine z_aload_n 0 dL_pass_2 rfl ?_
  refine z_iload_n 1 dL_pass_3 rfl ?_
  refine z_callVx_fr (As := [.int p1]) (st := [.int 0, .ref o]) [] (wO cJ o f) (by rw [hEl]; exact hlt) (fun l hl => t_X0_pass l hl D cI cZ h a u p1 he nd hnd hd nn hnn hn) (fun s args hts => cwV 1 hts gL_pass_X0_pass rfl rfl rfl (by decide +kernel) ⟨Nat.le_of_ble_eq_true rfl, Nat.le_of_ble_eq_true rfl⟩) (ci := 0) rfl rfl rfl [0, 1] rfl rfl rfl (Nat.le_of_ble_eq_true rfl) ⟨Nat.le_of_ble_eq_true rfl, Nat.le_of_ble_eq_true rfl⟩ dL_pass_4 rfl ?_
  rcases (ec_X0_pass u p1).resolve_left he with hc | hc
  ·
    refine z_catch htab "java/lang/IllegalArgumentException" [] ⟨0, 9, 12, 13⟩ [⟨0, 9, 15, 15⟩] rfl (fun z hz => nomatch hz) (by decide) (by decide) (List.mem_of_getElem? (i := 1) rfl) (by decide) (fun E' hE => by rw [hE, hc]; rfl) (fun q9 => ?_)
    refine z_astore_n (L' := [(3, .ref q9), (0, .ref h), (1, .int p1), (2, .ref o)]) dL_pass_12 (by decide) rfl ?_
    refine z_iconst (v := 1) dL_pass_13 rfl ?_
    exact hret _ () _ _ _ dL_pass_14 (if_pos hc).symm rfl
  ·
    refine z_catch htab "java/lang/IllegalStateException" [⟨0, 9, 12, 13⟩] ⟨0, 9, 15, 15⟩ [] rfl (fun z hz => by obtain rfl := List.mem_singleton.mp hz; exact ⟨by decide, "java/lang/IllegalArgumentException", List.mem_of_getElem? (i := 1) rfl, by decide⟩) (by decide) (by decide) (List.mem_of_getElem? (i := 2) rfl) (by decide) (fun E' hE => by rw [hE, hc]; rfl) (fun q9 => ?_)
    refine z_astore_n (L' := [(3, .ref q9), (0, .ref h), (1, .int p1), (2, .ref o)]) dL_pass_15 (by decide) rfl ?_
    refine z_iconst (v := 2) dL_pass_16 rfl ?_
    exact hret _ () _ _ _ dL_pass_17 (if_neg (by rw [hc]; decide)).symm rfl
