set_option maxHeartbeats 4000000 in
set_option maxRecDepth 100000 in
theorem kn_adds (l : Launch) (D : va_G) (cI cZ : ClassId) (h : Nat) (a : Nat → Nat) (u : SX) (p1 p2 : Int32) (he : e_X0_addDevice u p1 p2 = 0) (nd : Nat) (hnd : u.1 10 = nI nd) (hd : nd ≤ 16) : zMi l yL_adds wsL_adds ({ frames := 2, cells := 0, slots := 0, locals := 45 } : Room) zTT D [(cI, .int), (cZ, .boolean)] (wX0 cI cZ h a u) [.ref h, .int p1, .int p2] (fun (r : Int32) (_ : Unit) => r = (r_X0_addDevice u p1 p2)) (fun _ => (wX0 cI cZ h a (s_X0_addDevice u p1 p2))) 0 0 := by
  refine z_startH (cc := cL_adds) (n := 4) (own := RL) (L0 := [(0, .ref h), (1, .int p1), (2, .int p2)]) (hh := [(0, 6, 7, 13), (0, 6, 11, 16)]) (plainFor_of_name (by decide)) rfl rfl (Nat.le_of_ble_eq_true rfl) rfl (fun E hEl htab hret => ?_)
  refine z_aload_n 0 dL_adds_0 rfl ?_
  refine z_iload_n 1 dL_adds_1 rfl ?_
  refine z_iload_n 2 dL_adds_2 rfl ?_
  refine z_callVi (As := [.int p1, .int p2]) (st := []) (fun l => c_X0_addDevice l D cI cZ h a u p1 p2 he nd hnd hd) zGok_TT (fun _ _ _ => trivial) (fun s args hts => cwV 2 hts gL_adds_X0_addDevice rfl rfl rfl (by decide +kernel) ⟨Nat.le_of_ble_eq_true rfl, Nat.le_of_ble_eq_true rfl⟩) (ci := 0) rfl rfl rfl rfl (Nat.le_of_ble_eq_true rfl) ⟨Nat.le_of_ble_eq_true rfl, Nat.le_of_ble_eq_true rfl⟩ dL_adds_3 rfl (fun r u2 hp => ?_)
  obtain ⟨rfl, rfl⟩ := hp
  exact hret _ () _ _ _ dL_adds_6 rfl rfl
set_option maxHeartbeats 4000000 in
set_option maxRecDepth 100000 in
theorem kx_adds_1 (l : Launch) (hlt : l.stackTraces = false) (D : va_G) (cI cZ : ClassId) (h : Nat) (a : Nat → Nat) (u : SX) (p1 p2 : Int32) (he : e_X0_addDevice u p1 p2 = 1) (nd : Nat) (hnd : u.1 10 = nI nd) (hd : nd ≤ 16) : zMi l yL_adds wsL_adds ({ frames := 8, cells := 1, slots := 6, locals := 127 } : Room) zU D [(cI, .int), (cZ, .boolean)] (wX0 cI cZ h a u) [.ref h, .int p1, .int p2] (fun (r : Int32) (_ : Unit) => r = (-2000000002)) (fun _ => (wX0 cI cZ h a u)) 1 6 := by
  refine z_startH (cc := cL_adds) (n := 4) (own := RL) (L0 := [(0, .ref h), (1, .int p1), (2, .int p2)]) (hh := [(0, 6, 7, 13), (0, 6, 11, 16)]) (plainFor_of_name (by decide)) rfl rfl (Nat.le_of_ble_eq_true rfl) rfl (fun E hEl htab hret => ?_)
  refine z_aload_n 0 dL_adds_0 rfl ?_
  refine z_iload_n 1 dL_adds_1 rfl ?_
  refine z_iload_n 2 dL_adds_2 rfl ?_
  refine z_callVx (As := [.int p1, .int p2]) (st := []) (by rw [hEl]; exact hlt) (fun l hl => t_X0_addDevice l hl D cI cZ h a u p1 p2 (by rw [he]; decide) nd hnd hd) (fun s args hts => cwV 2 hts gL_adds_X0_addDevice rfl rfl rfl (by decide +kernel) ⟨Nat.le_of_ble_eq_true rfl, Nat.le_of_ble_eq_true rfl⟩) (ci := 0) rfl rfl rfl rfl (Nat.le_of_ble_eq_true rfl) ⟨Nat.le_of_ble_eq_true rfl, Nat.le_of_ble_eq_true rfl⟩ dL_adds_3 rfl ?_
  refine z_catch htab "java/lang/IllegalArgumentException" [] ⟨0, 6, 7, 13⟩ [⟨0, 6, 11, 16⟩] rfl (fun z hz => nomatch hz) (by decide) (by decide) (List.mem_of_getElem? (i := 1) rfl) (by decide) (fun E' hE => by rw [hE, he]; rfl) (fun q9 => ?_)
  refine z_astore_n (L' := [(3, .ref q9), (0, .ref h), (1, .int p1), (2, .int p2)]) dL_adds_7 (by decide) rfl ?_
  refine z_ldc (v := (-2000000002)) (List.mem_of_getElem? (i := 3) rfl) dL_adds_8 ?_
  exact hret _ () _ _ _ dL_adds_10 rfl rfl
set_option maxHeartbeats 4000000 in
set_option maxRecDepth 100000 in
theorem kx_adds_2 (l : Launch) (hlt : l.stackTraces = false) (D : va_G) (cI cZ : ClassId) (h : Nat) (a : Nat → Nat) (u : SX) (p1 p2 : Int32) (he : e_X0_addDevice u p1 p2 = 2) (nd : Nat) (hnd : u.1 10 = nI nd) (hd : nd ≤ 16) : zMi l yL_adds wsL_adds ({ frames := 8, cells := 1, slots := 6, locals := 127 } : Room) zU D [(cI, .int), (cZ, .boolean)] (wX0 cI cZ h a u) [.ref h, .int p1, .int p2] (fun (r : Int32) (_ : Unit) => r = (-2000000003)) (fun _ => (wX0 cI cZ h a u)) 1 6 := by
  refine z_startH (cc := cL_adds) (n := 4) (own := RL) (L0 := [(0, .ref h), (1, .int p1), (2, .int p2)]) (hh := [(0, 6, 7, 13), (0, 6, 11, 16)]) (plainFor_of_name (by decide)) rfl rfl (Nat.le_of_ble_eq_true rfl) rfl (fun E hEl htab hret => ?_)
  refine z_aload_n 0 dL_adds_0 rfl ?_
  refine z_iload_n 1 dL_adds_1 rfl ?_
  refine z_iload_n 2 dL_adds_2 rfl ?_
  refine z_callVx (As := [.int p1, .int p2]) (st := []) (by rw [hEl]; exact hlt) (fun l hl => t_X0_addDevice l hl D cI cZ h a u p1 p2 (by rw [he]; decide) nd hnd hd) (fun s args hts => cwV 2 hts gL_adds_X0_addDevice rfl rfl rfl (by decide +kernel) ⟨Nat.le_of_ble_eq_true rfl, Nat.le_of_ble_eq_true rfl⟩) (ci := 0) rfl rfl rfl rfl (Nat.le_of_ble_eq_true rfl) ⟨Nat.le_of_ble_eq_true rfl, Nat.le_of_ble_eq_true rfl⟩ dL_adds_3 rfl ?_
  refine z_catch htab "java/lang/IllegalStateException" [⟨0, 6, 7, 13⟩] ⟨0, 6, 11, 16⟩ [] rfl (fun z hz => by obtain rfl := List.mem_singleton.mp hz; exact ⟨by decide, "java/lang/IllegalArgumentException", List.mem_of_getElem? (i := 1) rfl, by decide⟩) (by decide) (by decide) (List.mem_of_getElem? (i := 2) rfl) (by decide) (fun E' hE => by rw [hE, he]; rfl) (fun q9 => ?_)
  refine z_astore_n (L' := [(3, .ref q9), (0, .ref h), (1, .int p1), (2, .int p2)]) dL_adds_11 (by decide) rfl ?_
  refine z_ldc (v := (-2000000003)) (List.mem_of_getElem? (i := 4) rfl) dL_adds_12 ?_
  exact hret _ () _ _ _ dL_adds_14 rfl rfl
set_option maxHeartbeats 4000000 in
set_option maxRecDepth 100000 in
theorem kn_online (l : Launch) (D : va_G) (cI cZ : ClassId) (h : Nat) (a : Nat → Nat) (u : SX) (p1 p2 : Int32) (he : e_X0_setOnline u p1 p2 = 0) (nd : Nat) (hnd : u.1 10 = nI nd) (hd : nd ≤ 16) (nn : Nat) (hnn : u.1 16 = nI nn) (hn : nn ≤ 120) : zMi l yL_online wsL_online ({ frames := 6, cells := 0, slots := 0, locals := 134 } : Room) zTT D [(cI, .int), (cZ, .boolean)] (wX0 cI cZ h a u) [.ref h, .int p1, .int p2] (fun (r : Int32) (_ : Unit) => r = (r_X0_setOnline u p1 p2)) (fun _ => (wX0 cI cZ h a (s_X0_setOnline u p1 p2))) 0 0 := by
  refine z_startH (cc := cL_online) (n := 4) (own := RL) (L0 := [(0, .ref h), (1, .int p1), (2, .int p2)]) (hh := [(0, 6, 7, 23)]) (plainFor_of_name (by decide)) rfl rfl (Nat.le_of_ble_eq_true rfl) rfl (fun E hEl htab hret => ?_)
  refine z_aload_n 0 dL_online_0 rfl ?_
  refine z_iload_n 1 dL_online_1 rfl ?_
  refine z_iload_n 2 dL_online_2 rfl ?_
  refine z_callVi (As := [.int p1, .int p2]) (st := []) (fun l => c_X0_setOnline l D cI cZ h a u p1 p2 he nd hnd hd nn hnn hn) zGok_TT (fun _ _ _ => trivial) (fun s args hts => cwV 2 hts gL_online_X0_setOnline rfl rfl rfl (by decide +kernel) ⟨Nat.le_of_ble_eq_true rfl, Nat.le_of_ble_eq_true rfl⟩) (ci := 0) rfl rfl rfl rfl (Nat.le_of_ble_eq_true rfl) ⟨Nat.le_of_ble_eq_true rfl, Nat.le_of_ble_eq_true rfl⟩ dL_online_3 rfl (fun r u2 hp => ?_)
  obtain ⟨rfl, rfl⟩ := hp
  exact hret _ () _ _ _ dL_online_6 rfl rfl
set_option maxHeartbeats 4000000 in
set_option maxRecDepth 100000 in
theorem kx_online_3 (l : Launch) (hlt : l.stackTraces = false) (D : va_G) (cI cZ : ClassId) (h : Nat) (a : Nat → Nat) (u : SX) (p1 p2 : Int32) (he : e_X0_setOnline u p1 p2 = 3) (nd : Nat) (hnd : u.1 10 = nI nd) (hd : nd ≤ 16) (nn : Nat) (hnn : u.1 16 = nI nn) (hn : nn ≤ 120) : zMi l yL_online wsL_online ({ frames := 8, cells := 1, slots := 6, locals := 134 } : Room) zU D [(cI, .int), (cZ, .boolean)] (wX0 cI cZ h a u) [.ref h, .int p1, .int p2] (fun (r : Int32) (_ : Unit) => r = (-2000000001)) (fun _ => (wX0 cI cZ h a u)) 1 6 := by
  refine z_startH (cc := cL_online) (n := 4) (own := RL) (L0 := [(0, .ref h), (1, .int p1), (2, .int p2)]) (hh := [(0, 6, 7, 23)]) (plainFor_of_name (by decide)) rfl rfl (Nat.le_of_ble_eq_true rfl) rfl (fun E hEl htab hret => ?_)
  refine z_aload_n 0 dL_online_0 rfl ?_
  refine z_iload_n 1 dL_online_1 rfl ?_
  refine z_iload_n 2 dL_online_2 rfl ?_
  refine z_callVx (As := [.int p1, .int p2]) (st := []) (by rw [hEl]; exact hlt) (fun l hl => t_X0_setOnline l hl D cI cZ h a u p1 p2 (by rw [he]; decide) nd hnd hd nn hnn hn) (fun s args hts => cwV 2 hts gL_online_X0_setOnline rfl rfl rfl (by decide +kernel) ⟨Nat.le_of_ble_eq_true rfl, Nat.le_of_ble_eq_true rfl⟩) (ci := 0) rfl rfl rfl rfl (Nat.le_of_ble_eq_true rfl) ⟨Nat.le_of_ble_eq_true rfl, Nat.le_of_ble_eq_true rfl⟩ dL_online_3 rfl ?_
  refine z_catch htab "java/lang/IndexOutOfBoundsException" [] ⟨0, 6, 7, 23⟩ [] rfl (fun z hz => nomatch hz) (by decide) (by decide) (List.mem_of_getElem? (i := 1) rfl) (by decide) (fun E' hE => by rw [hE, he]; rfl) (fun q9 => ?_)
  refine z_astore_n (L' := [(3, .ref q9), (0, .ref h), (1, .int p1), (2, .int p2)]) dL_online_7 (by decide) rfl ?_
  refine z_ldc (v := (-2000000001)) (List.mem_of_getElem? (i := 2) rfl) dL_online_8 ?_
  exact hret _ () _ _ _ dL_online_10 rfl rfl
set_option maxHeartbeats 4000000 in
set_option maxRecDepth 100000 in
theorem kn_dozes (l : Launch) (D : va_G) (cI cZ : ClassId) (h : Nat) (a : Nat → Nat) (u : SX) (p1 p2 : Int32) (he : e_X0_setDozing u p1 p2 = 0) (nd : Nat) (hnd : u.1 10 = nI nd) (hd : nd ≤ 16) (nn : Nat) (hnn : u.1 16 = nI nn) (hn : nn ≤ 120) : zMi l yL_dozes wsL_dozes ({ frames := 6, cells := 0, slots := 0, locals := 134 } : Room) zTT D [(cI, .int), (cZ, .boolean)] (wX0 cI cZ h a u) [.ref h, .int p1, .int p2] (fun (r : Int32) (_ : Unit) => r = (r_X0_setDozing u p1 p2)) (fun _ => (wX0 cI cZ h a (s_X0_setDozing u p1 p2))) 0 0 := by
  refine z_startH (cc := cL_dozes) (n := 4) (own := RL) (L0 := [(0, .ref h), (1, .int p1), (2, .int p2)]) (hh := [(0, 6, 7, 23)]) (plainFor_of_name (by decide)) rfl rfl (Nat.le_of_ble_eq_true rfl) rfl (fun E hEl htab hret => ?_)
  refine z_aload_n 0 dL_dozes_0 rfl ?_
  refine z_iload_n 1 dL_dozes_1 rfl ?_
  refine z_iload_n 2 dL_dozes_2 rfl ?_
  refine z_callVi (As := [.int p1, .int p2]) (st := []) (fun l => c_X0_setDozing l D cI cZ h a u p1 p2 he nd hnd hd nn hnn hn) zGok_TT (fun _ _ _ => trivial) (fun s args hts => cwV 2 hts gL_dozes_X0_setDozing rfl rfl rfl (by decide +kernel) ⟨Nat.le_of_ble_eq_true rfl, Nat.le_of_ble_eq_true rfl⟩) (ci := 0) rfl rfl rfl rfl (Nat.le_of_ble_eq_true rfl) ⟨Nat.le_of_ble_eq_true rfl, Nat.le_of_ble_eq_true rfl⟩ dL_dozes_3 rfl (fun r u2 hp => ?_)
  obtain ⟨rfl, rfl⟩ := hp
  exact hret _ () _ _ _ dL_dozes_6 rfl rfl
set_option maxHeartbeats 4000000 in
set_option maxRecDepth 100000 in
theorem kx_dozes_3 (l : Launch) (hlt : l.stackTraces = false) (D : va_G) (cI cZ : ClassId) (h : Nat) (a : Nat → Nat) (u : SX) (p1 p2 : Int32) (he : e_X0_setDozing u p1 p2 = 3) (nd : Nat) (hnd : u.1 10 = nI nd) (hd : nd ≤ 16) (nn : Nat) (hnn : u.1 16 = nI nn) (hn : nn ≤ 120) : zMi l yL_dozes wsL_dozes ({ frames := 8, cells := 1, slots := 6, locals := 134 } : Room) zU D [(cI, .int), (cZ, .boolean)] (wX0 cI cZ h a u) [.ref h, .int p1, .int p2] (fun (r : Int32) (_ : Unit) => r = (-2000000001)) (fun _ => (wX0 cI cZ h a u)) 1 6 := by
  refine z_startH (cc := cL_dozes) (n := 4) (own := RL) (L0 := [(0, .ref h), (1, .int p1), (2, .int p2)]) (hh := [(0, 6, 7, 23)]) (plainFor_of_name (by decide)) rfl rfl (Nat.le_of_ble_eq_true rfl) rfl (fun E hEl htab hret => ?_)
  refine z_aload_n 0 dL_dozes_0 rfl ?_
  refine z_iload_n 1 dL_dozes_1 rfl ?_
  refine z_iload_n 2 dL_dozes_2 rfl ?_
  refine z_callVx (As := [.int p1, .int p2]) (st := []) (by rw [hEl]; exact hlt) (fun l hl => t_X0_setDozing l hl D cI cZ h a u p1 p2 (by rw [he]; decide) nd hnd hd nn hnn hn) (fun s args hts => cwV 2 hts gL_dozes_X0_setDozing rfl rfl rfl (by decide +kernel) ⟨Nat.le_of_ble_eq_true rfl, Nat.le_of_ble_eq_true rfl⟩) (ci := 0) rfl rfl rfl rfl (Nat.le_of_ble_eq_true rfl) ⟨Nat.le_of_ble_eq_true rfl, Nat.le_of_ble_eq_true rfl⟩ dL_dozes_3 rfl ?_
  refine z_catch htab "java/lang/IndexOutOfBoundsException" [] ⟨0, 6, 7, 23⟩ [] rfl (fun z hz => nomatch hz) (by decide) (by decide) (List.mem_of_getElem? (i := 1) rfl) (by decide) (fun E' hE => by rw [hE, he]; rfl) (fun q9 => ?_)
  refine z_astore_n (L' := [(3, .ref q9), (0, .ref h), (1, .int p1), (2, .int p2)]) dL_dozes_7 (by decide) rfl ?_
  refine z_ldc (v := (-2000000001)) (List.mem_of_getElem? (i := 2) rfl) dL_dozes_8 ?_
  exact hret _ () _ _ _ dL_dozes_10 rfl rfl
set_option maxHeartbeats 4000000 in
set_option maxRecDepth 100000 in
theorem kn_quiets (l : Launch) (D : va_G) (cI cZ : ClassId) (h : Nat) (a : Nat → Nat) (u : SX) (p1 p2 p3 : Int32) (he : e_X0_setQuiet u p1 p2 p3 = 0) (nd : Nat) (hnd : u.1 10 = nI nd) (hd : nd ≤ 16) (nn : Nat) (hnn : u.1 16 = nI nn) (hn : nn ≤ 120) : zMi l yL_quiets wsL_quiets ({ frames := 6, cells := 0, slots := 0, locals := 135 } : Room) zTT D [(cI, .int), (cZ, .boolean)] (wX0 cI cZ h a u) [.ref h, .int p1, .int p2, .int p3] (fun (r : Int32) (_ : Unit) => r = (r_X0_setQuiet u p1 p2 p3)) (fun _ => (wX0 cI cZ h a (s_X0_setQuiet u p1 p2 p3))) 0 0 := by
  refine z_startH (cc := cL_quiets) (n := 5) (own := RL) (L0 := [(0, .ref h), (1, .int p1), (2, .int p2), (3, .int p3)]) (hh := [(0, 7, 8, 23), (0, 7, 13, 13)]) (plainFor_of_name (by decide)) rfl rfl (Nat.le_of_ble_eq_true rfl) rfl (fun E hEl htab hret => ?_)
  refine z_aload_n 0 dL_quiets_0 rfl ?_
  refine z_iload_n 1 dL_quiets_1 rfl ?_
  refine z_iload_n 2 dL_quiets_2 rfl ?_
  refine z_iload_n 3 dL_quiets_3 rfl ?_
  refine z_callVi (As := [.int p1, .int p2, .int p3]) (st := []) (fun l => c_X0_setQuiet l D cI cZ h a u p1 p2 p3 he nd hnd hd nn hnn hn) zGok_TT (fun _ _ _ => trivial) (fun s args hts => cwV 3 hts gL_quiets_X0_setQuiet rfl rfl rfl (by decide +kernel) ⟨Nat.le_of_ble_eq_true rfl, Nat.le_of_ble_eq_true rfl⟩) (ci := 0) rfl rfl rfl rfl (Nat.le_of_ble_eq_true rfl) ⟨Nat.le_of_ble_eq_true rfl, Nat.le_of_ble_eq_true rfl⟩ dL_quiets_4 rfl (fun r u2 hp => ?_)
  obtain ⟨rfl, rfl⟩ := hp
  exact hret _ () _ _ _ dL_quiets_7 rfl rfl
set_option maxHeartbeats 4000000 in
set_option maxRecDepth 100000 in
theorem kx_quiets_3 (l : Launch) (hlt : l.stackTraces = false) (D : va_G) (cI cZ : ClassId) (h : Nat) (a : Nat → Nat) (u : SX) (p1 p2 p3 : Int32) (he : e_X0_setQuiet u p1 p2 p3 = 3) (nd : Nat) (hnd : u.1 10 = nI nd) (hd : nd ≤ 16) (nn : Nat) (hnn : u.1 16 = nI nn) (hn : nn ≤ 120) : zMi l yL_quiets wsL_quiets ({ frames := 8, cells := 1, slots := 6, locals := 135 } : Room) zU D [(cI, .int), (cZ, .boolean)] (wX0 cI cZ h a u) [.ref h, .int p1, .int p2, .int p3] (fun (r : Int32) (_ : Unit) => r = (-2000000001)) (fun _ => (wX0 cI cZ h a u)) 1 6 := by
  refine z_startH (cc := cL_quiets) (n := 5) (own := RL) (L0 := [(0, .ref h), (1, .int p1), (2, .int p2), (3, .int p3)]) (hh := [(0, 7, 8, 23), (0, 7, 13, 13)]) (plainFor_of_name (by decide)) rfl rfl (Nat.le_of_ble_eq_true rfl) rfl (fun E hEl htab hret => ?_)
  refine z_aload_n 0 dL_quiets_0 rfl ?_
  refine z_iload_n 1 dL_quiets_1 rfl ?_
  refine z_iload_n 2 dL_quiets_2 rfl ?_
  refine z_iload_n 3 dL_quiets_3 rfl ?_
  refine z_callVx (As := [.int p1, .int p2, .int p3]) (st := []) (by rw [hEl]; exact hlt) (fun l hl => t_X0_setQuiet l hl D cI cZ h a u p1 p2 p3 (by rw [he]; decide) nd hnd hd nn hnn hn) (fun s args hts => cwV 3 hts gL_quiets_X0_setQuiet rfl rfl rfl (by decide +kernel) ⟨Nat.le_of_ble_eq_true rfl, Nat.le_of_ble_eq_true rfl⟩) (ci := 0) rfl rfl rfl rfl (Nat.le_of_ble_eq_true rfl) ⟨Nat.le_of_ble_eq_true rfl, Nat.le_of_ble_eq_true rfl⟩ dL_quiets_4 rfl ?_
  refine z_catch htab "java/lang/IndexOutOfBoundsException" [] ⟨0, 7, 8, 23⟩ [⟨0, 7, 13, 13⟩] rfl (fun z hz => nomatch hz) (by decide) (by decide) (List.mem_of_getElem? (i := 1) rfl) (by decide) (fun E' hE => by rw [hE, he]; rfl) (fun q9 => ?_)
  refine z_astore (L' := [(4, .ref q9), (0, .ref h), (1, .int p1), (2, .int p2), (3, .int p3)]) dL_quiets_8 (by decide) rfl ?_
  refine z_ldc (v := (-2000000001)) (List.mem_of_getElem? (i := 3) rfl) dL_quiets_10 ?_
  exact hret _ () _ _ _ dL_quiets_12 rfl rfl
set_option maxHeartbeats 4000000 in
set_option maxRecDepth 100000 in
theorem kx_quiets_1 (l : Launch) (hlt : l.stackTraces = false) (D : va_G) (cI cZ : ClassId) (h : Nat) (a : Nat → Nat) (u : SX) (p1 p2 p3 : Int32) (he : e_X0_setQuiet u p1 p2 p3 = 1) (nd : Nat) (hnd : u.1 10 = nI nd) (hd : nd ≤ 16) (nn : Nat) (hnn : u.1 16 = nI nn) (hn : nn ≤ 120) : zMi l yL_quiets wsL_quiets ({ frames := 8, cells := 1, slots := 6, locals := 135 } : Room) zU D [(cI, .int), (cZ, .boolean)] (wX0 cI cZ h a u) [.ref h, .int p1, .int p2, .int p3] (fun (r : Int32) (_ : Unit) => r = (-2000000002)) (fun _ => (wX0 cI cZ h a u)) 1 6 := by
  refine z_startH (cc := cL_quiets) (n := 5) (own := RL) (L0 := [(0, .ref h), (1, .int p1), (2, .int p2), (3, .int p3)]) (hh := [(0, 7, 8, 23), (0, 7, 13, 13)]) (plainFor_of_name (by decide)) rfl rfl (Nat.le_of_ble_eq_true rfl) rfl (fun E hEl htab hret => ?_)
  refine z_aload_n 0 dL_quiets_0 rfl ?_
  refine z_iload_n 1 dL_quiets_1 rfl ?_
  refine z_iload_n 2 dL_quiets_2 rfl ?_
  refine z_iload_n 3 dL_quiets_3 rfl ?_
  refine z_callVx (As := [.int p1, .int p2, .int p3]) (st := []) (by rw [hEl]; exact hlt) (fun l hl => t_X0_setQuiet l hl D cI cZ h a u p1 p2 p3 (by rw [he]; decide) nd hnd hd nn hnn hn) (fun s args hts => cwV 3 hts gL_quiets_X0_setQuiet rfl rfl rfl (by decide +kernel) ⟨Nat.le_of_ble_eq_true rfl, Nat.le_of_ble_eq_true rfl⟩) (ci := 0) rfl rfl rfl rfl (Nat.le_of_ble_eq_true rfl) ⟨Nat.le_of_ble_eq_true rfl, Nat.le_of_ble_eq_true rfl⟩ dL_quiets_4 rfl ?_
  refine z_catch htab "java/lang/IllegalArgumentException" [⟨0, 7, 8, 23⟩] ⟨0, 7, 13, 13⟩ [] rfl (fun z hz => by obtain rfl := List.mem_singleton.mp hz; exact ⟨by decide, "java/lang/IndexOutOfBoundsException", List.mem_of_getElem? (i := 1) rfl, by decide⟩) (by decide) (by decide) (List.mem_of_getElem? (i := 2) rfl) (by decide) (fun E' hE => by rw [hE, he]; rfl) (fun q9 => ?_)
  refine z_astore (L' := [(4, .ref q9), (0, .ref h), (1, .int p1), (2, .int p2), (3, .int p3)]) dL_quiets_13 (by decide) rfl ?_
  refine z_ldc (v := (-2000000002)) (List.mem_of_getElem? (i := 4) rfl) dL_quiets_15 ?_
  exact hret _ () _ _ _ dL_quiets_17 rfl rfl
set_option maxHeartbeats 4000000 in
set_option maxRecDepth 100000 in
theorem kn_joins (l : Launch) (D : va_G) (cI cZ : ClassId) (h : Nat) (a : Nat → Nat) (u : SX) (p1 p2 p3 : Int32) (he : e_X0_join u p1 p2 p3 = 0) (nd : Nat) (hnd : u.1 10 = nI nd) (hd : nd ≤ 16) : zMi l yL_joins wsL_joins ({ frames := 3, cells := 0, slots := 0, locals := 66 } : Room) zTT D [(cI, .int), (cZ, .boolean)] (wX0 cI cZ h a u) [.ref h, .int p1, .int p2, .int p3] (fun (r : Int32) (_ : Unit) => r = (if r_X0_join u p1 p2 p3 = 0 then 0 else 1)) (fun _ => (wX0 cI cZ h a (s_X0_join u p1 p2 p3))) 0 0 := by
  refine z_startH (cc := cL_joins) (n := 5) (own := RL) (L0 := [(0, .ref h), (1, .int p1), (2, .int p2), (3, .int p3)]) (hh := [(0, 15, 16, 23), (0, 15, 21, 13)]) (plainFor_of_name (by decide)) rfl rfl (Nat.le_of_ble_eq_true rfl) rfl (fun E hEl htab hret => ?_)
  refine z_aload_n 0 dL_joins_0 rfl ?_
  refine z_iload_n 1 dL_joins_1 rfl ?_
  refine z_iload_n 2 dL_joins_2 rfl ?_
  refine z_iload_n 3 dL_joins_3 rfl ?_
  refine z_callVi (As := [.int p1, .int p2, .int p3]) (st := []) (fun l => c_X0_join l D cI cZ h a u p1 p2 p3 he nd hnd hd) zGok_TT (fun _ _ _ => trivial) (fun s args hts => cwV 3 hts gL_joins_X0_join rfl rfl rfl (by decide +kernel) ⟨Nat.le_of_ble_eq_true rfl, Nat.le_of_ble_eq_true rfl⟩) (ci := 0) rfl rfl rfl rfl (Nat.le_of_ble_eq_true rfl) ⟨Nat.le_of_ble_eq_true rfl, Nat.le_of_ble_eq_true rfl⟩ dL_joins_4 rfl (fun r u2 hp => ?_)
  obtain ⟨rfl, rfl⟩ := hp
  refine z_if_eq 14 dL_joins_7 (by decide) (fun c => ?_) (fun c => ?_)
  ·
    refine z_iconst (v := 0) dL_joins_14 rfl ?_
    exact hret _ () _ _ _ dL_joins_15 (if_pos c).symm rfl
  ·
    refine z_iconst (v := 1) dL_joins_10 rfl ?_
    refine z_goto 15 dL_joins_11 (by decide) ?_
    exact hret _ () _ _ _ dL_joins_15 (if_neg c).symm rfl
set_option maxHeartbeats 4000000 in
set_option maxRecDepth 100000 in
theorem kx_joins_3 (l : Launch) (hlt : l.stackTraces = false) (D : va_G) (cI cZ : ClassId) (h : Nat) (a : Nat → Nat) (u : SX) (p1 p2 p3 : Int32) (he : e_X0_join u p1 p2 p3 = 3) (nd : Nat) (hnd : u.1 10 = nI nd) (hd : nd ≤ 16) : zMi l yL_joins wsL_joins ({ frames := 8, cells := 1, slots := 6, locals := 128 } : Room) zU D [(cI, .int), (cZ, .boolean)] (wX0 cI cZ h a u) [.ref h, .int p1, .int p2, .int p3] (fun (r : Int32) (_ : Unit) => r = (-2000000001)) (fun _ => (wX0 cI cZ h a u)) 1 6 := by
  refine z_startH (cc := cL_joins) (n := 5) (own := RL) (L0 := [(0, .ref h), (1, .int p1), (2, .int p2), (3, .int p3)]) (hh := [(0, 15, 16, 23), (0, 15, 21, 13)]) (plainFor_of_name (by decide)) rfl rfl (Nat.le_of_ble_eq_true rfl) rfl (fun E hEl htab hret => ?_)
  refine z_aload_n 0 dL_joins_0 rfl ?_
  refine z_iload_n 1 dL_joins_1 rfl ?_
  refine z_iload_n 2 dL_joins_2 rfl ?_
  refine z_iload_n 3 dL_joins_3 rfl ?_
  refine z_callVx (As := [.int p1, .int p2, .int p3]) (st := []) (by rw [hEl]; exact hlt) (fun l hl => t_X0_join l hl D cI cZ h a u p1 p2 p3 (by rw [he]; decide) nd hnd hd) (fun s args hts => cwV 3 hts gL_joins_X0_join rfl rfl rfl (by decide +kernel) ⟨Nat.le_of_ble_eq_true rfl, Nat.le_of_ble_eq_true rfl⟩) (ci := 0) rfl rfl rfl rfl (Nat.le_of_ble_eq_true rfl) ⟨Nat.le_of_ble_eq_true rfl, Nat.le_of_ble_eq_true rfl⟩ dL_joins_4 rfl ?_
  refine z_catch htab "java/lang/IndexOutOfBoundsException" [] ⟨0, 15, 16, 23⟩ [⟨0, 15, 21, 13⟩] rfl (fun z hz => nomatch hz) (by decide) (by decide) (List.mem_of_getElem? (i := 1) rfl) (by decide) (fun E' hE => by rw [hE, he]; rfl) (fun q9 => ?_)
  refine z_astore (L' := [(4, .ref q9), (0, .ref h), (1, .int p1), (2, .int p2), (3, .int p3)]) dL_joins_16 (by decide) rfl ?_
  refine z_ldc (v := (-2000000001)) (List.mem_of_getElem? (i := 3) rfl) dL_joins_18 ?_
  exact hret _ () _ _ _ dL_joins_20 rfl rfl
set_option maxHeartbeats 4000000 in
set_option maxRecDepth 100000 in
theorem kx_joins_1 (l : Launch) (hlt : l.stackTraces = false) (D : va_G) (cI cZ : ClassId) (h : Nat) (a : Nat → Nat) (u : SX) (p1 p2 p3 : Int32) (he : e_X0_join u p1 p2 p3 = 1) (nd : Nat) (hnd : u.1 10 = nI nd) (hd : nd ≤ 16) : zMi l yL_joins wsL_joins ({ frames := 8, cells := 1, slots := 6, locals := 128 } : Room) zU D [(cI, .int), (cZ, .boolean)] (wX0 cI cZ h a u) [.ref h, .int p1, .int p2, .int p3] (fun (r : Int32) (_ : Unit) => r = (-2000000002)) (fun _ => (wX0 cI cZ h a u)) 1 6 := by
  refine z_startH (cc := cL_joins) (n := 5) (own := RL) (L0 := [(0, .ref h), (1, .int p1), (2, .int p2), (3, .int p3)]) (hh := [(0, 15, 16, 23), (0, 15, 21, 13)]) (plainFor_of_name (by decide)) rfl rfl (Nat.le_of_ble_eq_true rfl) rfl (fun E hEl htab hret => ?_)
  refine z_aload_n 0 dL_joins_0 rfl ?_
  refine z_iload_n 1 dL_joins_1 rfl ?_
  refine z_iload_n 2 dL_joins_2 rfl ?_
  refine z_iload_n 3 dL_joins_3 rfl ?_
  refine z_callVx (As := [.int p1, .int p2, .int p3]) (st := []) (by rw [hEl]; exact hlt) (fun l hl => t_X0_join l hl D cI cZ h a u p1 p2 p3 (by rw [he]; decide) nd hnd hd) (fun s args hts => cwV 3 hts gL_joins_X0_join rfl rfl rfl (by decide +kernel) ⟨Nat.le_of_ble_eq_true rfl, Nat.le_of_ble_eq_true rfl⟩) (ci := 0) rfl rfl rfl rfl (Nat.le_of_ble_eq_true rfl) ⟨Nat.le_of_ble_eq_true rfl, Nat.le_of_ble_eq_true rfl⟩ dL_joins_4 rfl ?_
  refine z_catch htab "java/lang/IllegalArgumentException" [⟨0, 15, 16, 23⟩] ⟨0, 15, 21, 13⟩ [] rfl (fun z hz => by obtain rfl := List.mem_singleton.mp hz; exact ⟨by decide, "java/lang/IndexOutOfBoundsException", List.mem_of_getElem? (i := 1) rfl, by decide⟩) (by decide) (by decide) (List.mem_of_getElem? (i := 2) rfl) (by decide) (fun E' hE => by rw [hE, he]; rfl) (fun q9 => ?_)
  refine z_astore (L' := [(4, .ref q9), (0, .ref h), (1, .int p1), (2, .int p2), (3, .int p3)]) dL_joins_21 (by decide) rfl ?_
  refine z_ldc (v := (-2000000002)) (List.mem_of_getElem? (i := 4) rfl) dL_joins_23 ?_
  exact hret _ () _ _ _ dL_joins_25 rfl rfl
set_option maxHeartbeats 4000000 in
set_option maxRecDepth 100000 in
theorem kn_kills (l : Launch) (D : va_G) (cI cZ : ClassId) (h : Nat) (a : Nat → Nat) (u : SX) (p1 : Int32) (he : e_X0_kill u p1 = 0) (nd : Nat) (hnd : u.1 10 = nI nd) (hd : nd ≤ 16) (nn : Nat) (hnn : u.1 16 = nI nn) (hn : nn ≤ 120) : zMi l yL_kills wsL_kills ({ frames := 4, cells := 0, slots := 0, locals := 88 } : Room) zTT D [(cI, .int), (cZ, .boolean)] (wX0 cI cZ h a u) [.ref h, .int p1] (fun (r : Int32) (_ : Unit) => r = (r_X0_kill u p1)) (fun _ => (wX0 cI cZ h a (s_X0_kill u p1))) 0 0 := by
  refine z_startH (cc := cL_kills) (n := 3) (own := RL) (L0 := [(0, .ref h), (1, .int p1)]) (hh := [(0, 5, 6, 23), (0, 5, 10, 16)]) (plainFor_of_name (by decide)) rfl rfl (Nat.le_of_ble_eq_true rfl) rfl (fun E hEl htab hret => ?_)
  refine z_aload_n 0 dL_kills_0 rfl ?_
  refine z_iload_n 1 dL_kills_1 rfl ?_
  refine z_callVi (As := [.int p1]) (st := []) (fun l => c_X0_kill l D cI cZ h a u p1 he nd hnd hd nn hnn hn) zGok_TT (fun _ _ _ => trivial) (fun s args hts => cwV 1 hts gL_kills_X0_kill rfl rfl rfl (by decide +kernel) ⟨Nat.le_of_ble_eq_true rfl, Nat.le_of_ble_eq_true rfl⟩) (ci := 0) rfl rfl rfl rfl (Nat.le_of_ble_eq_true rfl) ⟨Nat.le_of_ble_eq_true rfl, Nat.le_of_ble_eq_true rfl⟩ dL_kills_2 rfl (fun r u2 hp => ?_)
  obtain ⟨rfl, rfl⟩ := hp
  exact hret _ () _ _ _ dL_kills_5 rfl rfl
set_option maxHeartbeats 4000000 in
set_option maxRecDepth 100000 in
theorem kx_kills_3 (l : Launch) (hlt : l.stackTraces = false) (D : va_G) (cI cZ : ClassId) (h : Nat) (a : Nat → Nat) (u : SX) (p1 : Int32) (he : e_X0_kill u p1 = 3) (nd : Nat) (hnd : u.1 10 = nI nd) (hd : nd ≤ 16) (nn : Nat) (hnn : u.1 16 = nI nn) (hn : nn ≤ 120) : zMi l yL_kills wsL_kills ({ frames := 8, cells := 1, slots := 6, locals := 126 } : Room) zU D [(cI, .int), (cZ, .boolean)] (wX0 cI cZ h a u) [.ref h, .int p1] (fun (r : Int32) (_ : Unit) => r = (-2000000001)) (fun _ => (wX0 cI cZ h a u)) 1 6 := by
  refine z_startH (cc := cL_kills) (n := 3) (own := RL) (L0 := [(0, .ref h), (1, .int p1)]) (hh := [(0, 5, 6, 23), (0, 5, 10, 16)]) (plainFor_of_name (by decide)) rfl rfl (Nat.le_of_ble_eq_true rfl) rfl (fun E hEl htab hret => ?_)
  refine z_aload_n 0 dL_kills_0 rfl ?_
  refine z_iload_n 1 dL_kills_1 rfl ?_
  refine z_callVx (As := [.int p1]) (st := []) (by rw [hEl]; exact hlt) (fun l hl => t_X0_kill l hl D cI cZ h a u p1 (by rw [he]; decide) nd hnd hd nn hnn hn) (fun s args hts => cwV 1 hts gL_kills_X0_kill rfl rfl rfl (by decide +kernel) ⟨Nat.le_of_ble_eq_true rfl, Nat.le_of_ble_eq_true rfl⟩) (ci := 0) rfl rfl rfl rfl (Nat.le_of_ble_eq_true rfl) ⟨Nat.le_of_ble_eq_true rfl, Nat.le_of_ble_eq_true rfl⟩ dL_kills_2 rfl ?_
  refine z_catch htab "java/lang/IndexOutOfBoundsException" [] ⟨0, 5, 6, 23⟩ [⟨0, 5, 10, 16⟩] rfl (fun z hz => nomatch hz) (by decide) (by decide) (List.mem_of_getElem? (i := 1) rfl) (by decide) (fun E' hE => by rw [hE, he]; rfl) (fun q9 => ?_)
  refine z_astore_n (L' := [(2, .ref q9), (0, .ref h), (1, .int p1)]) dL_kills_6 (by decide) rfl ?_
  refine z_ldc (v := (-2000000001)) (List.mem_of_getElem? (i := 3) rfl) dL_kills_7 ?_
  exact hret _ () _ _ _ dL_kills_9 rfl rfl
set_option maxHeartbeats 4000000 in
set_option maxRecDepth 100000 in
theorem kx_kills_2 (l : Launch) (hlt : l.stackTraces = false) (D : va_G) (cI cZ : ClassId) (h : Nat) (a : Nat → Nat) (u : SX) (p1 : Int32) (he : e_X0_kill u p1 = 2) (nd : Nat) (hnd : u.1 10 = nI nd) (hd : nd ≤ 16) (nn : Nat) (hnn : u.1 16 = nI nn) (hn : nn ≤ 120) : zMi l yL_kills wsL_kills ({ frames := 8, cells := 1, slots := 6, locals := 126 } : Room) zU D [(cI, .int), (cZ, .boolean)] (wX0 cI cZ h a u) [.ref h, .int p1] (fun (r : Int32) (_ : Unit) => r = (-2000000003)) (fun _ => (wX0 cI cZ h a u)) 1 6 := by
  refine z_startH (cc := cL_kills) (n := 3) (own := RL) (L0 := [(0, .ref h), (1, .int p1)]) (hh := [(0, 5, 6, 23), (0, 5, 10, 16)]) (plainFor_of_name (by decide)) rfl rfl (Nat.le_of_ble_eq_true rfl) rfl (fun E hEl htab hret => ?_)
  refine z_aload_n 0 dL_kills_0 rfl ?_
  refine z_iload_n 1 dL_kills_1 rfl ?_
  refine z_callVx (As := [.int p1]) (st := []) (by rw [hEl]; exact hlt) (fun l hl => t_X0_kill l hl D cI cZ h a u p1 (by rw [he]; decide) nd hnd hd nn hnn hn) (fun s args hts => cwV 1 hts gL_kills_X0_kill rfl rfl rfl (by decide +kernel) ⟨Nat.le_of_ble_eq_true rfl, Nat.le_of_ble_eq_true rfl⟩) (ci := 0) rfl rfl rfl rfl (Nat.le_of_ble_eq_true rfl) ⟨Nat.le_of_ble_eq_true rfl, Nat.le_of_ble_eq_true rfl⟩ dL_kills_2 rfl ?_
  refine z_catch htab "java/lang/IllegalStateException" [⟨0, 5, 6, 23⟩] ⟨0, 5, 10, 16⟩ [] rfl (fun z hz => by obtain rfl := List.mem_singleton.mp hz; exact ⟨by decide, "java/lang/IndexOutOfBoundsException", List.mem_of_getElem? (i := 1) rfl, by decide⟩) (by decide) (by decide) (List.mem_of_getElem? (i := 2) rfl) (by decide) (fun E' hE => by rw [hE, he]; rfl) (fun q9 => ?_)
  refine z_astore_n (L' := [(2, .ref q9), (0, .ref h), (1, .int p1)]) dL_kills_10 (by decide) rfl ?_
  refine z_ldc (v := (-2000000003)) (List.mem_of_getElem? (i := 4) rfl) dL_kills_11 ?_
  exact hret _ () _ _ _ dL_kills_13 rfl rfl
set_option maxHeartbeats 4000000 in
set_option maxRecDepth 100000 in
theorem kn_quiet (l : Launch) (D : va_G) (cI cZ : ClassId) (h : Nat) (a : Nat → Nat) (u : SX) (p1 : Int32) (he : e_X0_isQuiet u p1 = 0) (nd : Nat) (hnd : u.1 10 = nI nd) (hd : nd ≤ 16) : zMi l yL_quiet wsL_quiet ({ frames := 4, cells := 0, slots := 0, locals := 87 } : Room) zTT D [(cI, .int), (cZ, .boolean)] (wX0 cI cZ h a u) [.ref h, .int p1] (fun (r : Int32) (_ : Unit) => r = (if r_X0_isQuiet u p1 = 0 then 0 else 1)) (fun _ => (wX0 cI cZ h a u)) 0 0 := by
  refine z_startH (cc := cL_quiet) (n := 3) (own := RL) (L0 := [(0, .ref h), (1, .int p1)]) (hh := [(0, 13, 14, 23)]) (plainFor_of_name (by decide)) rfl rfl (Nat.le_of_ble_eq_true rfl) rfl (fun E hEl htab hret => ?_)
  refine z_aload_n 0 dL_quiet_0 rfl ?_
  refine z_iload_n 1 dL_quiet_1 rfl ?_
  refine z_callVi (As := [.int p1]) (st := []) (fun l => c_X0_isQuiet l D cI cZ h a u p1 he nd hnd hd) zGok_TT (fun _ _ _ => trivial) (fun s args hts => cwV 1 hts gL_quiet_X0_isQuiet rfl rfl rfl (by decide +kernel) ⟨Nat.le_of_ble_eq_true rfl, Nat.le_of_ble_eq_true rfl⟩) (ci := 0) rfl rfl rfl rfl (Nat.le_of_ble_eq_true rfl) ⟨Nat.le_of_ble_eq_true rfl, Nat.le_of_ble_eq_true rfl⟩ dL_quiet_2 rfl (fun r u2 hp => ?_)
  subst hp
  refine z_if_eq 12 dL_quiet_5 (by decide) (fun c => ?_) (fun c => ?_)
  ·
    refine z_iconst (v := 0) dL_quiet_12 rfl ?_
    exact hret _ () _ _ _ dL_quiet_13 (if_pos c).symm rfl
  ·
    refine z_iconst (v := 1) dL_quiet_8 rfl ?_
    refine z_goto 13 dL_quiet_9 (by decide) ?_
    exact hret _ () _ _ _ dL_quiet_13 (if_neg c).symm rfl
set_option maxHeartbeats 4000000 in
set_option maxRecDepth 100000 in
theorem kx_quiet_3 (l : Launch) (hlt : l.stackTraces = false) (D : va_G) (cI cZ : ClassId) (h : Nat) (a : Nat → Nat) (u : SX) (p1 : Int32) (he : e_X0_isQuiet u p1 = 3) (nd : Nat) (hnd : u.1 10 = nI nd) (hd : nd ≤ 16) : zMi l yL_quiet wsL_quiet ({ frames := 8, cells := 1, slots := 6, locals := 124 } : Room) zU D [(cI, .int), (cZ, .boolean)] (wX0 cI cZ h a u) [.ref h, .int p1] (fun (r : Int32) (_ : Unit) => r = (-2000000001)) (fun _ => (wX0 cI cZ h a u)) 1 6 := by
  refine z_startH (cc := cL_quiet) (n := 3) (own := RL) (L0 := [(0, .ref h), (1, .int p1)]) (hh := [(0, 13, 14, 23)]) (plainFor_of_name (by decide)) rfl rfl (Nat.le_of_ble_eq_true rfl) rfl (fun E hEl htab hret => ?_)
  refine z_aload_n 0 dL_quiet_0 rfl ?_
  refine z_iload_n 1 dL_quiet_1 rfl ?_
  refine z_callVx (As := [.int p1]) (st := []) (by rw [hEl]; exact hlt) (fun l hl => t_X0_isQuiet l hl D cI cZ h a u p1 (by rw [he]; decide) nd hnd hd) (fun s args hts => cwV 1 hts gL_quiet_X0_isQuiet rfl rfl rfl (by decide +kernel) ⟨Nat.le_of_ble_eq_true rfl, Nat.le_of_ble_eq_true rfl⟩) (ci := 0) rfl rfl rfl rfl (Nat.le_of_ble_eq_true rfl) ⟨Nat.le_of_ble_eq_true rfl, Nat.le_of_ble_eq_true rfl⟩ dL_quiet_2 rfl ?_
  refine z_catch htab "java/lang/IndexOutOfBoundsException" [] ⟨0, 13, 14, 23⟩ [] rfl (fun z hz => nomatch hz) (by decide) (by decide) (List.mem_of_getElem? (i := 1) rfl) (by decide) (fun E' hE => by rw [hE, he]; rfl) (fun q9 => ?_)
  refine z_astore_n (L' := [(2, .ref q9), (0, .ref h), (1, .int p1)]) dL_quiet_14 (by decide) rfl ?_
  refine z_ldc (v := (-2000000001)) (List.mem_of_getElem? (i := 2) rfl) dL_quiet_15 ?_
  exact hret _ () _ _ _ dL_quiet_17 rfl rfl
set_option maxHeartbeats 4000000 in
set_option maxRecDepth 100000 in
theorem kn_sends (l : Launch) (D : va_G) (cI cZ : ClassId) (h : Nat) (a : Nat → Nat) (u : SX) (p1 p2 p3 p4 : Int32) (he : e_X0_send u p1 p2 p3 p4 = 0) (nd : Nat) (hnd : u.1 10 = nI nd) (hd : nd ≤ 16) (nn : Nat) (hnn : u.1 16 = nI nn) (hn : nn ≤ 120) (hlk : ∀ i : Nat, i < 80 → (u.2 15 i) = (-1) ∨ vp_in (u.2 15 i) 120) : zMi l yL_sends wsL_sends ({ frames := 7, cells := 0, slots := 0, locals := 160 } : Room) zTT D [(cI, .int), (cZ, .boolean)] (wX0 cI cZ h a u) [.ref h, .int p1, .int p2, .int p3, .int p4] (fun (r : Int32) (_ : Unit) => r = (r_X0_send u p1 p2 p3 p4)) (fun _ => (wX0 cI cZ h a (s_X0_send u p1 p2 p3 p4))) 0 0 := by
  refine z_startH (cc := cL_sends) (n := 6) (own := RL) (L0 := [(0, .ref h), (1, .int p1), (2, .int p2), (3, .int p3), (4, .int p4)]) (hh := [(0, 9, 10, 13), (0, 9, 15, 16)]) (plainFor_of_name (by decide)) rfl rfl (Nat.le_of_ble_eq_true rfl) rfl (fun E hEl htab hret => ?_)
  refine z_aload_n 0 dL_sends_0 rfl ?_
  refine z_iload_n 1 dL_sends_1 rfl ?_
  refine z_iload_n 2 dL_sends_2 rfl ?_
  refine z_iload_n 3 dL_sends_3 rfl ?_
  refine z_iload 4 dL_sends_4 rfl ?_
  refine z_callVi (As := [.int p1, .int p2, .int p3, .int p4]) (st := []) (fun l => c_X0_send l D cI cZ h a u p1 p2 p3 p4 he nd hnd hd nn hnn hn hlk) zGok_TT (fun _ _ _ => trivial) (fun s args hts => cwV 4 hts gL_sends_X0_send rfl rfl rfl (by decide +kernel) ⟨Nat.le_of_ble_eq_true rfl, Nat.le_of_ble_eq_true rfl⟩) (ci := 0) rfl rfl rfl rfl (Nat.le_of_ble_eq_true rfl) ⟨Nat.le_of_ble_eq_true rfl, Nat.le_of_ble_eq_true rfl⟩ dL_sends_6 rfl (fun r u2 hp => ?_)
  obtain ⟨rfl, rfl⟩ := hp
  exact hret _ () _ _ _ dL_sends_9 rfl rfl
set_option maxHeartbeats 4000000 in
set_option maxRecDepth 100000 in
theorem kx_sends_1 (l : Launch) (hlt : l.stackTraces = false) (D : va_G) (cI cZ : ClassId) (h : Nat) (a : Nat → Nat) (u : SX) (p1 p2 p3 p4 : Int32) (he : e_X0_send u p1 p2 p3 p4 = 1) (nd : Nat) (hnd : u.1 10 = nI nd) (hd : nd ≤ 16) (nn : Nat) (hnn : u.1 16 = nI nn) (hn : nn ≤ 120) (hlk : ∀ i : Nat, i < 80 → (u.2 15 i) = (-1) ∨ vp_in (u.2 15 i) 120) : zMi l yL_sends wsL_sends ({ frames := 8, cells := 1, slots := 6, locals := 160 } : Room) zU D [(cI, .int), (cZ, .boolean)] (wX0 cI cZ h a u) [.ref h, .int p1, .int p2, .int p3, .int p4] (fun (r : Int32) (_ : Unit) => r = (-2000000002)) (fun _ => (wX0 cI cZ h a u)) 1 6 := by
  refine z_startH (cc := cL_sends) (n := 6) (own := RL) (L0 := [(0, .ref h), (1, .int p1), (2, .int p2), (3, .int p3), (4, .int p4)]) (hh := [(0, 9, 10, 13), (0, 9, 15, 16)]) (plainFor_of_name (by decide)) rfl rfl (Nat.le_of_ble_eq_true rfl) rfl (fun E hEl htab hret => ?_)
  refine z_aload_n 0 dL_sends_0 rfl ?_
  refine z_iload_n 1 dL_sends_1 rfl ?_
  refine z_iload_n 2 dL_sends_2 rfl ?_
  refine z_iload_n 3 dL_sends_3 rfl ?_
  refine z_iload 4 dL_sends_4 rfl ?_
  refine z_callVx (As := [.int p1, .int p2, .int p3, .int p4]) (st := []) (by rw [hEl]; exact hlt) (fun l hl => t_X0_send l hl D cI cZ h a u p1 p2 p3 p4 (by rw [he]; decide) nd hnd hd nn hnn hn hlk) (fun s args hts => cwV 4 hts gL_sends_X0_send rfl rfl rfl (by decide +kernel) ⟨Nat.le_of_ble_eq_true rfl, Nat.le_of_ble_eq_true rfl⟩) (ci := 0) rfl rfl rfl rfl (Nat.le_of_ble_eq_true rfl) ⟨Nat.le_of_ble_eq_true rfl, Nat.le_of_ble_eq_true rfl⟩ dL_sends_6 rfl ?_
  refine z_catch htab "java/lang/IllegalArgumentException" [] ⟨0, 9, 10, 13⟩ [⟨0, 9, 15, 16⟩] rfl (fun z hz => nomatch hz) (by decide) (by decide) (List.mem_of_getElem? (i := 1) rfl) (by decide) (fun E' hE => by rw [hE, he]; rfl) (fun q9 => ?_)
  refine z_astore (L' := [(5, .ref q9), (0, .ref h), (1, .int p1), (2, .int p2), (3, .int p3), (4, .int p4)]) dL_sends_10 (by decide) rfl ?_
  refine z_ldc (v := (-2000000002)) (List.mem_of_getElem? (i := 3) rfl) dL_sends_12 ?_
  exact hret _ () _ _ _ dL_sends_14 rfl rfl
set_option maxHeartbeats 4000000 in
set_option maxRecDepth 100000 in
theorem kx_sends_2 (l : Launch) (hlt : l.stackTraces = false) (D : va_G) (cI cZ : ClassId) (h : Nat) (a : Nat → Nat) (u : SX) (p1 p2 p3 p4 : Int32) (he : e_X0_send u p1 p2 p3 p4 = 2) (nd : Nat) (hnd : u.1 10 = nI nd) (hd : nd ≤ 16) (nn : Nat) (hnn : u.1 16 = nI nn) (hn : nn ≤ 120) (hlk : ∀ i : Nat, i < 80 → (u.2 15 i) = (-1) ∨ vp_in (u.2 15 i) 120) : zMi l yL_sends wsL_sends ({ frames := 8, cells := 1, slots := 6, locals := 160 } : Room) zU D [(cI, .int), (cZ, .boolean)] (wX0 cI cZ h a u) [.ref h, .int p1, .int p2, .int p3, .int p4] (fun (r : Int32) (_ : Unit) => r = (-2000000003)) (fun _ => (wX0 cI cZ h a u)) 1 6 := by
  refine z_startH (cc := cL_sends) (n := 6) (own := RL) (L0 := [(0, .ref h), (1, .int p1), (2, .int p2), (3, .int p3), (4, .int p4)]) (hh := [(0, 9, 10, 13), (0, 9, 15, 16)]) (plainFor_of_name (by decide)) rfl rfl (Nat.le_of_ble_eq_true rfl) rfl (fun E hEl htab hret => ?_)
  refine z_aload_n 0 dL_sends_0 rfl ?_
  refine z_iload_n 1 dL_sends_1 rfl ?_
  refine z_iload_n 2 dL_sends_2 rfl ?_
  refine z_iload_n 3 dL_sends_3 rfl ?_
  refine z_iload 4 dL_sends_4 rfl ?_
  refine z_callVx (As := [.int p1, .int p2, .int p3, .int p4]) (st := []) (by rw [hEl]; exact hlt) (fun l hl => t_X0_send l hl D cI cZ h a u p1 p2 p3 p4 (by rw [he]; decide) nd hnd hd nn hnn hn hlk) (fun s args hts => cwV 4 hts gL_sends_X0_send rfl rfl rfl (by decide +kernel) ⟨Nat.le_of_ble_eq_true rfl, Nat.le_of_ble_eq_true rfl⟩) (ci := 0) rfl rfl rfl rfl (Nat.le_of_ble_eq_true rfl) ⟨Nat.le_of_ble_eq_true rfl, Nat.le_of_ble_eq_true rfl⟩ dL_sends_6 rfl ?_
  refine z_catch htab "java/lang/IllegalStateException" [⟨0, 9, 10, 13⟩] ⟨0, 9, 15, 16⟩ [] rfl (fun z hz => by obtain rfl := List.mem_singleton.mp hz; exact ⟨by decide, "java/lang/IllegalArgumentException", List.mem_of_getElem? (i := 1) rfl, by decide⟩) (by decide) (by decide) (List.mem_of_getElem? (i := 2) rfl) (by decide) (fun E' hE => by rw [hE, he]; rfl) (fun q9 => ?_)
  refine z_astore (L' := [(5, .ref q9), (0, .ref h), (1, .int p1), (2, .int p2), (3, .int p3), (4, .int p4)]) dL_sends_15 (by decide) rfl ?_
  refine z_ldc (v := (-2000000003)) (List.mem_of_getElem? (i := 4) rfl) dL_sends_17 ?_
  exact hret _ () _ _ _ dL_sends_19 rfl rfl
set_option maxHeartbeats 4000000 in
set_option maxRecDepth 100000 in
theorem kn_sendsBy (l : Launch) (D : va_G) (cI cZ : ClassId) (h : Nat) (a : Nat → Nat) (u : SX) (p1 p2 p3 p4 p5 : Int32) (he : e_X0_sendBy u p1 p2 p3 p4 p5 = 0) (nd : Nat) (hnd : u.1 10 = nI nd) (hd : nd ≤ 16) (nn : Nat) (hnn : u.1 16 = nI nn) (hn : nn ≤ 120) : zMi l yL_sendsBy wsL_sendsBy ({ frames := 7, cells := 0, slots := 0, locals := 161 } : Room) zTT D [(cI, .int), (cZ, .boolean)] (wX0 cI cZ h a u) [.ref h, .int p1, .int p2, .int p3, .int p4, .int p5] (fun (r : Int32) (_ : Unit) => r = (r_X0_sendBy u p1 p2 p3 p4 p5)) (fun _ => (wX0 cI cZ h a (s_X0_sendBy u p1 p2 p3 p4 p5))) 0 0 := by
  refine z_startH (cc := cL_sendsBy) (n := 7) (own := RL) (L0 := [(0, .ref h), (1, .int p1), (2, .int p2), (3, .int p3), (4, .int p4), (5, .int p5)]) (hh := [(0, 11, 12, 13), (0, 11, 17, 16)]) (plainFor_of_name (by decide)) rfl rfl (Nat.le_of_ble_eq_true rfl) rfl (fun E hEl htab hret => ?_)
  refine z_aload_n 0 dL_sendsBy_0 rfl ?_
  refine z_iload_n 1 dL_sendsBy_1 rfl ?_
  refine z_iload_n 2 dL_sendsBy_2 rfl ?_
  refine z_iload_n 3 dL_sendsBy_3 rfl ?_
  refine z_iload 4 dL_sendsBy_4 rfl ?_
  refine z_iload 5 dL_sendsBy_6 rfl ?_
  refine z_callVi (As := [.int p1, .int p2, .int p3, .int p4, .int p5]) (st := []) (fun l => c_X0_sendBy l D cI cZ h a u p1 p2 p3 p4 p5 he nd hnd hd nn hnn hn) zGok_TT (fun _ _ _ => trivial) (fun s args hts => cwV 5 hts gL_sendsBy_X0_sendBy rfl rfl rfl (by decide +kernel) ⟨Nat.le_of_ble_eq_true rfl, Nat.le_of_ble_eq_true rfl⟩) (ci := 0) rfl rfl rfl rfl (Nat.le_of_ble_eq_true rfl) ⟨Nat.le_of_ble_eq_true rfl, Nat.le_of_ble_eq_true rfl⟩ dL_sendsBy_8 rfl (fun r u2 hp => ?_)
  obtain ⟨rfl, rfl⟩ := hp
  exact hret _ () _ _ _ dL_sendsBy_11 rfl rfl
set_option maxHeartbeats 4000000 in
set_option maxRecDepth 100000 in
theorem kx_sendsBy_1 (l : Launch) (hlt : l.stackTraces = false) (D : va_G) (cI cZ : ClassId) (h : Nat) (a : Nat → Nat) (u : SX) (p1 p2 p3 p4 p5 : Int32) (he : e_X0_sendBy u p1 p2 p3 p4 p5 = 1) (nd : Nat) (hnd : u.1 10 = nI nd) (hd : nd ≤ 16) (nn : Nat) (hnn : u.1 16 = nI nn) (hn : nn ≤ 120) : zMi l yL_sendsBy wsL_sendsBy ({ frames := 8, cells := 1, slots := 6, locals := 161 } : Room) zU D [(cI, .int), (cZ, .boolean)] (wX0 cI cZ h a u) [.ref h, .int p1, .int p2, .int p3, .int p4, .int p5] (fun (r : Int32) (_ : Unit) => r = (-2000000002)) (fun _ => (wX0 cI cZ h a u)) 1 6 := by
  refine z_startH (cc := cL_sendsBy) (n := 7) (own := RL) (L0 := [(0, .ref h), (1, .int p1), (2, .int p2), (3, .int p3), (4, .int p4), (5, .int p5)]) (hh := [(0, 11, 12, 13), (0, 11, 17, 16)]) (plainFor_of_name (by decide)) rfl rfl (Nat.le_of_ble_eq_true rfl) rfl (fun E hEl htab hret => ?_)
  refine z_aload_n 0 dL_sendsBy_0 rfl ?_
  refine z_iload_n 1 dL_sendsBy_1 rfl ?_
  refine z_iload_n 2 dL_sendsBy_2 rfl ?_
  refine z_iload_n 3 dL_sendsBy_3 rfl ?_
  refine z_iload 4 dL_sendsBy_4 rfl ?_
  refine z_iload 5 dL_sendsBy_6 rfl ?_
  refine z_callVx (As := [.int p1, .int p2, .int p3, .int p4, .int p5]) (st := []) (by rw [hEl]; exact hlt) (fun l hl => t_X0_sendBy l hl D cI cZ h a u p1 p2 p3 p4 p5 (by rw [he]; decide) nd hnd hd nn hnn hn) (fun s args hts => cwV 5 hts gL_sendsBy_X0_sendBy rfl rfl rfl (by decide +kernel) ⟨Nat.le_of_ble_eq_true rfl, Nat.le_of_ble_eq_true rfl⟩) (ci := 0) rfl rfl rfl rfl (Nat.le_of_ble_eq_true rfl) ⟨Nat.le_of_ble_eq_true rfl, Nat.le_of_ble_eq_true rfl⟩ dL_sendsBy_8 rfl ?_
  refine z_catch htab "java/lang/IllegalArgumentException" [] ⟨0, 11, 12, 13⟩ [⟨0, 11, 17, 16⟩] rfl (fun z hz => nomatch hz) (by decide) (by decide) (List.mem_of_getElem? (i := 1) rfl) (by decide) (fun E' hE => by rw [hE, he]; rfl) (fun q9 => ?_)
  refine z_astore (L' := [(6, .ref q9), (0, .ref h), (1, .int p1), (2, .int p2), (3, .int p3), (4, .int p4), (5, .int p5)]) dL_sendsBy_12 (by decide) rfl ?_
  refine z_ldc (v := (-2000000002)) (List.mem_of_getElem? (i := 3) rfl) dL_sendsBy_14 ?_
  exact hret _ () _ _ _ dL_sendsBy_16 rfl rfl
set_option maxHeartbeats 4000000 in
set_option maxRecDepth 100000 in
theorem kx_sendsBy_2 (l : Launch) (hlt : l.stackTraces = false) (D : va_G) (cI cZ : ClassId) (h : Nat) (a : Nat → Nat) (u : SX) (p1 p2 p3 p4 p5 : Int32) (he : e_X0_sendBy u p1 p2 p3 p4 p5 = 2) (nd : Nat) (hnd : u.1 10 = nI nd) (hd : nd ≤ 16) (nn : Nat) (hnn : u.1 16 = nI nn) (hn : nn ≤ 120) : zMi l yL_sendsBy wsL_sendsBy ({ frames := 8, cells := 1, slots := 6, locals := 161 } : Room) zU D [(cI, .int), (cZ, .boolean)] (wX0 cI cZ h a u) [.ref h, .int p1, .int p2, .int p3, .int p4, .int p5] (fun (r : Int32) (_ : Unit) => r = (-2000000003)) (fun _ => (wX0 cI cZ h a u)) 1 6 := by
  refine z_startH (cc := cL_sendsBy) (n := 7) (own := RL) (L0 := [(0, .ref h), (1, .int p1), (2, .int p2), (3, .int p3), (4, .int p4), (5, .int p5)]) (hh := [(0, 11, 12, 13), (0, 11, 17, 16)]) (plainFor_of_name (by decide)) rfl rfl (Nat.le_of_ble_eq_true rfl) rfl (fun E hEl htab hret => ?_)
  refine z_aload_n 0 dL_sendsBy_0 rfl ?_
  refine z_iload_n 1 dL_sendsBy_1 rfl ?_
  refine z_iload_n 2 dL_sendsBy_2 rfl ?_
  refine z_iload_n 3 dL_sendsBy_3 rfl ?_
  refine z_iload 4 dL_sendsBy_4 rfl ?_
  refine z_iload 5 dL_sendsBy_6 rfl ?_
  refine z_callVx (As := [.int p1, .int p2, .int p3, .int p4, .int p5]) (st := []) (by rw [hEl]; exact hlt) (fun l hl => t_X0_sendBy l hl D cI cZ h a u p1 p2 p3 p4 p5 (by rw [he]; decide) nd hnd hd nn hnn hn) (fun s args hts => cwV 5 hts gL_sendsBy_X0_sendBy rfl rfl rfl (by decide +kernel) ⟨Nat.le_of_ble_eq_true rfl, Nat.le_of_ble_eq_true rfl⟩) (ci := 0) rfl rfl rfl rfl (Nat.le_of_ble_eq_true rfl) ⟨Nat.le_of_ble_eq_true rfl, Nat.le_of_ble_eq_true rfl⟩ dL_sendsBy_8 rfl ?_
  refine z_catch htab "java/lang/IllegalStateException" [⟨0, 11, 12, 13⟩] ⟨0, 11, 17, 16⟩ [] rfl (fun z hz => by obtain rfl := List.mem_singleton.mp hz; exact ⟨by decide, "java/lang/IllegalArgumentException", List.mem_of_getElem? (i := 1) rfl, by decide⟩) (by decide) (by decide) (List.mem_of_getElem? (i := 2) rfl) (by decide) (fun E' hE => by rw [hE, he]; rfl) (fun q9 => ?_)
  refine z_astore (L' := [(6, .ref q9), (0, .ref h), (1, .int p1), (2, .int p2), (3, .int p3), (4, .int p4), (5, .int p5)]) dL_sendsBy_17 (by decide) rfl ?_
  refine z_ldc (v := (-2000000003)) (List.mem_of_getElem? (i := 4) rfl) dL_sendsBy_19 ?_
  exact hret _ () _ _ _ dL_sendsBy_21 rfl rfl
set_option maxHeartbeats 4000000 in
set_option maxRecDepth 100000 in
theorem kn_reads (l : Launch) (D : va_G) (cI cZ : ClassId) (h : Nat) (a : Nat → Nat) (u : SX) (p1 p2 : Int32) (he : e_X0_read u p1 p2 = 0) (nd : Nat) (hnd : u.1 10 = nI nd) (hd : nd ≤ 16) (nn : Nat) (hnn : u.1 16 = nI nn) (hn : nn ≤ 120) : zMi l yL_reads wsL_reads ({ frames := 3, cells := 0, slots := 0, locals := 65 } : Room) zTT D [(cI, .int), (cZ, .boolean)] (wX0 cI cZ h a u) [.ref h, .int p1, .int p2] (fun (r : Int32) (_ : Unit) => r = (r_X0_read u p1 p2)) (fun _ => (wX0 cI cZ h a (s_X0_read u p1 p2))) 0 0 := by
  refine z_startH (cc := cL_reads) (n := 4) (own := RL) (L0 := [(0, .ref h), (1, .int p1), (2, .int p2)]) (hh := [(0, 6, 7, 23), (0, 6, 11, 16)]) (plainFor_of_name (by decide)) rfl rfl (Nat.le_of_ble_eq_true rfl) rfl (fun E hEl htab hret => ?_)
  refine z_aload_n 0 dL_reads_0 rfl ?_
  refine z_iload_n 1 dL_reads_1 rfl ?_
  refine z_iload_n 2 dL_reads_2 rfl ?_
  refine z_callVi (As := [.int p1, .int p2]) (st := []) (fun l => c_X0_read l D cI cZ h a u p1 p2 he nd hnd hd nn hnn hn) zGok_TT (fun _ _ _ => trivial) (fun s args hts => cwV 2 hts gL_reads_X0_read rfl rfl rfl (by decide +kernel) ⟨Nat.le_of_ble_eq_true rfl, Nat.le_of_ble_eq_true rfl⟩) (ci := 0) rfl rfl rfl rfl (Nat.le_of_ble_eq_true rfl) ⟨Nat.le_of_ble_eq_true rfl, Nat.le_of_ble_eq_true rfl⟩ dL_reads_3 rfl (fun r u2 hp => ?_)
  obtain ⟨rfl, rfl⟩ := hp
  exact hret _ () _ _ _ dL_reads_6 rfl rfl
set_option maxHeartbeats 4000000 in
set_option maxRecDepth 100000 in
theorem kx_reads_3 (l : Launch) (hlt : l.stackTraces = false) (D : va_G) (cI cZ : ClassId) (h : Nat) (a : Nat → Nat) (u : SX) (p1 p2 : Int32) (he : e_X0_read u p1 p2 = 3) (nd : Nat) (hnd : u.1 10 = nI nd) (hd : nd ≤ 16) (nn : Nat) (hnn : u.1 16 = nI nn) (hn : nn ≤ 120) : zMi l yL_reads wsL_reads ({ frames := 8, cells := 1, slots := 6, locals := 126 } : Room) zU D [(cI, .int), (cZ, .boolean)] (wX0 cI cZ h a u) [.ref h, .int p1, .int p2] (fun (r : Int32) (_ : Unit) => r = (-2000000001)) (fun _ => (wX0 cI cZ h a u)) 1 6 := by
  refine z_startH (cc := cL_reads) (n := 4) (own := RL) (L0 := [(0, .ref h), (1, .int p1), (2, .int p2)]) (hh := [(0, 6, 7, 23), (0, 6, 11, 16)]) (plainFor_of_name (by decide)) rfl rfl (Nat.le_of_ble_eq_true rfl) rfl (fun E hEl htab hret => ?_)
  refine z_aload_n 0 dL_reads_0 rfl ?_
  refine z_iload_n 1 dL_reads_1 rfl ?_
  refine z_iload_n 2 dL_reads_2 rfl ?_
  refine z_callVx (As := [.int p1, .int p2]) (st := []) (by rw [hEl]; exact hlt) (fun l hl => t_X0_read l hl D cI cZ h a u p1 p2 (by rw [he]; decide) nd hnd hd nn hnn hn) (fun s args hts => cwV 2 hts gL_reads_X0_read rfl rfl rfl (by decide +kernel) ⟨Nat.le_of_ble_eq_true rfl, Nat.le_of_ble_eq_true rfl⟩) (ci := 0) rfl rfl rfl rfl (Nat.le_of_ble_eq_true rfl) ⟨Nat.le_of_ble_eq_true rfl, Nat.le_of_ble_eq_true rfl⟩ dL_reads_3 rfl ?_
  refine z_catch htab "java/lang/IndexOutOfBoundsException" [] ⟨0, 6, 7, 23⟩ [⟨0, 6, 11, 16⟩] rfl (fun z hz => nomatch hz) (by decide) (by decide) (List.mem_of_getElem? (i := 1) rfl) (by decide) (fun E' hE => by rw [hE, he]; rfl) (fun q9 => ?_)
  refine z_astore_n (L' := [(3, .ref q9), (0, .ref h), (1, .int p1), (2, .int p2)]) dL_reads_7 (by decide) rfl ?_
  refine z_ldc (v := (-2000000001)) (List.mem_of_getElem? (i := 3) rfl) dL_reads_8 ?_
  exact hret _ () _ _ _ dL_reads_10 rfl rfl
set_option maxHeartbeats 4000000 in
set_option maxRecDepth 100000 in
theorem kx_reads_2 (l : Launch) (hlt : l.stackTraces = false) (D : va_G) (cI cZ : ClassId) (h : Nat) (a : Nat → Nat) (u : SX) (p1 p2 : Int32) (he : e_X0_read u p1 p2 = 2) (nd : Nat) (hnd : u.1 10 = nI nd) (hd : nd ≤ 16) (nn : Nat) (hnn : u.1 16 = nI nn) (hn : nn ≤ 120) : zMi l yL_reads wsL_reads ({ frames := 8, cells := 1, slots := 6, locals := 126 } : Room) zU D [(cI, .int), (cZ, .boolean)] (wX0 cI cZ h a u) [.ref h, .int p1, .int p2] (fun (r : Int32) (_ : Unit) => r = (-2000000003)) (fun _ => (wX0 cI cZ h a u)) 1 6 := by
  refine z_startH (cc := cL_reads) (n := 4) (own := RL) (L0 := [(0, .ref h), (1, .int p1), (2, .int p2)]) (hh := [(0, 6, 7, 23), (0, 6, 11, 16)]) (plainFor_of_name (by decide)) rfl rfl (Nat.le_of_ble_eq_true rfl) rfl (fun E hEl htab hret => ?_)
  refine z_aload_n 0 dL_reads_0 rfl ?_
  refine z_iload_n 1 dL_reads_1 rfl ?_
  refine z_iload_n 2 dL_reads_2 rfl ?_
  refine z_callVx (As := [.int p1, .int p2]) (st := []) (by rw [hEl]; exact hlt) (fun l hl => t_X0_read l hl D cI cZ h a u p1 p2 (by rw [he]; decide) nd hnd hd nn hnn hn) (fun s args hts => cwV 2 hts gL_reads_X0_read rfl rfl rfl (by decide +kernel) ⟨Nat.le_of_ble_eq_true rfl, Nat.le_of_ble_eq_true rfl⟩) (ci := 0) rfl rfl rfl rfl (Nat.le_of_ble_eq_true rfl) ⟨Nat.le_of_ble_eq_true rfl, Nat.le_of_ble_eq_true rfl⟩ dL_reads_3 rfl ?_
  refine z_catch htab "java/lang/IllegalStateException" [⟨0, 6, 7, 23⟩] ⟨0, 6, 11, 16⟩ [] rfl (fun z hz => by obtain rfl := List.mem_singleton.mp hz; exact ⟨by decide, "java/lang/IndexOutOfBoundsException", List.mem_of_getElem? (i := 1) rfl, by decide⟩) (by decide) (by decide) (List.mem_of_getElem? (i := 2) rfl) (by decide) (fun E' hE => by rw [hE, he]; rfl) (fun q9 => ?_)
  refine z_astore_n (L' := [(3, .ref q9), (0, .ref h), (1, .int p1), (2, .int p2)]) dL_reads_11 (by decide) rfl ?_
  refine z_ldc (v := (-2000000003)) (List.mem_of_getElem? (i := 4) rfl) dL_reads_12 ?_
  exact hret _ () _ _ _ dL_reads_14 rfl rfl
set_option maxHeartbeats 4000000 in
set_option maxRecDepth 100000 in
theorem kn_stands (l : Launch) (D : va_G) (cI cZ : ClassId) (h : Nat) (a : Nat → Nat) (u : SX) (p1 : Int32) (he : e_X0_stands u p1 = 0) (nn : Nat) (hnn : u.1 16 = nI nn) (hn : nn ≤ 120) : zMi l yL_stands wsL_stands ({ frames := 2, cells := 0, slots := 0, locals := 42 } : Room) zTT D [(cI, .int), (cZ, .boolean)] (wX0 cI cZ h a u) [.ref h, .int p1] (fun (r : Int32) (_ : Unit) => r = (if r_X0_stands u p1 = 0 then 0 else 1)) (fun _ => (wX0 cI cZ h a u)) 0 0 := by
  refine z_startH (cc := cL_stands) (n := 3) (own := RL) (L0 := [(0, .ref h), (1, .int p1)]) (hh := [(0, 13, 14, 23)]) (plainFor_of_name (by decide)) rfl rfl (Nat.le_of_ble_eq_true rfl) rfl (fun E hEl htab hret => ?_)
  refine z_aload_n 0 dL_stands_0 rfl ?_
  refine z_iload_n 1 dL_stands_1 rfl ?_
  refine z_callVi (As := [.int p1]) (st := []) (fun l => c_X0_stands l D cI cZ h a u p1 he nn hnn hn) zGok_TT (fun _ _ _ => trivial) (fun s args hts => cwV 1 hts gL_stands_X0_stands rfl rfl rfl (by decide +kernel) ⟨Nat.le_of_ble_eq_true rfl, Nat.le_of_ble_eq_true rfl⟩) (ci := 0) rfl rfl rfl rfl (Nat.le_of_ble_eq_true rfl) ⟨Nat.le_of_ble_eq_true rfl, Nat.le_of_ble_eq_true rfl⟩ dL_stands_2 rfl (fun r u2 hp => ?_)
  subst hp
  refine z_if_eq 12 dL_stands_5 (by decide) (fun c => ?_) (fun c => ?_)
  ·
    refine z_iconst (v := 0) dL_stands_12 rfl ?_
    exact hret _ () _ _ _ dL_stands_13 (if_pos c).symm rfl
  ·
    refine z_iconst (v := 1) dL_stands_8 rfl ?_
    refine z_goto 13 dL_stands_9 (by decide) ?_
    exact hret _ () _ _ _ dL_stands_13 (if_neg c).symm rfl
set_option maxHeartbeats 4000000 in
set_option maxRecDepth 100000 in
theorem kx_stands_3 (l : Launch) (hlt : l.stackTraces = false) (D : va_G) (cI cZ : ClassId) (h : Nat) (a : Nat → Nat) (u : SX) (p1 : Int32) (he : e_X0_stands u p1 = 3) (nn : Nat) (hnn : u.1 16 = nI nn) (hn : nn ≤ 120) : zMi l yL_stands wsL_stands ({ frames := 8, cells := 1, slots := 6, locals := 124 } : Room) zU D [(cI, .int), (cZ, .boolean)] (wX0 cI cZ h a u) [.ref h, .int p1] (fun (r : Int32) (_ : Unit) => r = (-2000000001)) (fun _ => (wX0 cI cZ h a u)) 1 6 := by
  refine z_startH (cc := cL_stands) (n := 3) (own := RL) (L0 := [(0, .ref h), (1, .int p1)]) (hh := [(0, 13, 14, 23)]) (plainFor_of_name (by decide)) rfl rfl (Nat.le_of_ble_eq_true rfl) rfl (fun E hEl htab hret => ?_)
  refine z_aload_n 0 dL_stands_0 rfl ?_
  refine z_iload_n 1 dL_stands_1 rfl ?_
  refine z_callVx (As := [.int p1]) (st := []) (by rw [hEl]; exact hlt) (fun l hl => t_X0_stands l hl D cI cZ h a u p1 (by rw [he]; decide) nn hnn hn) (fun s args hts => cwV 1 hts gL_stands_X0_stands rfl rfl rfl (by decide +kernel) ⟨Nat.le_of_ble_eq_true rfl, Nat.le_of_ble_eq_true rfl⟩) (ci := 0) rfl rfl rfl rfl (Nat.le_of_ble_eq_true rfl) ⟨Nat.le_of_ble_eq_true rfl, Nat.le_of_ble_eq_true rfl⟩ dL_stands_2 rfl ?_
  refine z_catch htab "java/lang/IndexOutOfBoundsException" [] ⟨0, 13, 14, 23⟩ [] rfl (fun z hz => nomatch hz) (by decide) (by decide) (List.mem_of_getElem? (i := 1) rfl) (by decide) (fun E' hE => by rw [hE, he]; rfl) (fun q9 => ?_)
  refine z_astore_n (L' := [(2, .ref q9), (0, .ref h), (1, .int p1)]) dL_stands_14 (by decide) rfl ?_
  refine z_ldc (v := (-2000000001)) (List.mem_of_getElem? (i := 2) rfl) dL_stands_15 ?_
  exact hret _ () _ _ _ dL_stands_17 rfl rfl
set_option maxHeartbeats 4000000 in
set_option maxRecDepth 100000 in
theorem kn_waits (l : Launch) (D : va_G) (cI cZ : ClassId) (h : Nat) (a : Nat → Nat) (u : SX) (p1 : Int32) (he : e_X0_waitsFor u p1 = 0) (nn : Nat) (hnn : u.1 16 = nI nn) (hn : nn ≤ 120) : zMi l yL_waits wsL_waits ({ frames := 3, cells := 0, slots := 0, locals := 63 } : Room) zTT D [(cI, .int), (cZ, .boolean)] (wX0 cI cZ h a u) [.ref h, .int p1] (fun (r : Int32) (_ : Unit) => r = (r_X0_waitsFor u p1)) (fun _ => (wX0 cI cZ h a u)) 0 0 := by
  refine z_startH (cc := cL_waits) (n := 3) (own := RL) (L0 := [(0, .ref h), (1, .int p1)]) (hh := [(0, 5, 6, 23)]) (plainFor_of_name (by decide)) rfl rfl (Nat.le_of_ble_eq_true rfl) rfl (fun E hEl htab hret => ?_)
  refine z_aload_n 0 dL_waits_0 rfl ?_
  refine z_iload_n 1 dL_waits_1 rfl ?_
  refine z_callVi (As := [.int p1]) (st := []) (fun l => c_X0_waitsFor l D cI cZ h a u p1 he nn hnn hn) zGok_TT (fun _ _ _ => trivial) (fun s args hts => cwV 1 hts gL_waits_X0_waitsFor rfl rfl rfl (by decide +kernel) ⟨Nat.le_of_ble_eq_true rfl, Nat.le_of_ble_eq_true rfl⟩) (ci := 0) rfl rfl rfl rfl (Nat.le_of_ble_eq_true rfl) ⟨Nat.le_of_ble_eq_true rfl, Nat.le_of_ble_eq_true rfl⟩ dL_waits_2 rfl (fun r u2 hp => ?_)
  subst hp
  exact hret _ () _ _ _ dL_waits_5 rfl rfl
set_option maxHeartbeats 4000000 in
set_option maxRecDepth 100000 in
theorem kx_waits_3 (l : Launch) (hlt : l.stackTraces = false) (D : va_G) (cI cZ : ClassId) (h : Nat) (a : Nat → Nat) (u : SX) (p1 : Int32) (he : e_X0_waitsFor u p1 = 3) (nn : Nat) (hnn : u.1 16 = nI nn) (hn : nn ≤ 120) : zMi l yL_waits wsL_waits ({ frames := 8, cells := 1, slots := 6, locals := 124 } : Room) zU D [(cI, .int), (cZ, .boolean)] (wX0 cI cZ h a u) [.ref h, .int p1] (fun (r : Int32) (_ : Unit) => r = (-2000000001)) (fun _ => (wX0 cI cZ h a u)) 1 6 := by
  refine z_startH (cc := cL_waits) (n := 3) (own := RL) (L0 := [(0, .ref h), (1, .int p1)]) (hh := [(0, 5, 6, 23)]) (plainFor_of_name (by decide)) rfl rfl (Nat.le_of_ble_eq_true rfl) rfl (fun E hEl htab hret => ?_)
  refine z_aload_n 0 dL_waits_0 rfl ?_
  refine z_iload_n 1 dL_waits_1 rfl ?_
  refine z_callVx (As := [.int p1]) (st := []) (by rw [hEl]; exact hlt) (fun l hl => t_X0_waitsFor l hl D cI cZ h a u p1 (by rw [he]; decide) nn hnn hn) (fun s args hts => cwV 1 hts gL_waits_X0_waitsFor rfl rfl rfl (by decide +kernel) ⟨Nat.le_of_ble_eq_true rfl, Nat.le_of_ble_eq_true rfl⟩) (ci := 0) rfl rfl rfl rfl (Nat.le_of_ble_eq_true rfl) ⟨Nat.le_of_ble_eq_true rfl, Nat.le_of_ble_eq_true rfl⟩ dL_waits_2 rfl ?_
  refine z_catch htab "java/lang/IndexOutOfBoundsException" [] ⟨0, 5, 6, 23⟩ [] rfl (fun z hz => nomatch hz) (by decide) (by decide) (List.mem_of_getElem? (i := 1) rfl) (by decide) (fun E' hE => by rw [hE, he]; rfl) (fun q9 => ?_)
  refine z_astore_n (L' := [(2, .ref q9), (0, .ref h), (1, .int p1)]) dL_waits_6 (by decide) rfl ?_
  refine z_ldc (v := (-2000000001)) (List.mem_of_getElem? (i := 2) rfl) dL_waits_7 ?_
  exact hret _ () _ _ _ dL_waits_9 rfl rfl
set_option maxHeartbeats 4000000 in
set_option maxRecDepth 100000 in
theorem kn_delivered (l : Launch) (D : va_G) (cI cZ : ClassId) (h : Nat) (a : Nat → Nat) (u : SX) (p1 : Int32) (he : e_X0_deliveredTo u p1 = 0) (nn : Nat) (hnn : u.1 16 = nI nn) (hn : nn ≤ 120) : zMi l yL_delivered wsL_delivered ({ frames := 2, cells := 0, slots := 0, locals := 42 } : Room) zTT D [(cI, .int), (cZ, .boolean)] (wX0 cI cZ h a u) [.ref h, .int p1] (fun (r : Int32) (_ : Unit) => r = (r_X0_deliveredTo u p1)) (fun _ => (wX0 cI cZ h a u)) 0 0 := by
  refine z_startH (cc := cL_delivered) (n := 3) (own := RL) (L0 := [(0, .ref h), (1, .int p1)]) (hh := [(0, 5, 6, 23)]) (plainFor_of_name (by decide)) rfl rfl (Nat.le_of_ble_eq_true rfl) rfl (fun E hEl htab hret => ?_)
  refine z_aload_n 0 dL_delivered_0 rfl ?_
  refine z_iload_n 1 dL_delivered_1 rfl ?_
  refine z_callVi (As := [.int p1]) (st := []) (fun l => c_X0_deliveredTo l D cI cZ h a u p1 he nn hnn hn) zGok_TT (fun _ _ _ => trivial) (fun s args hts => cwV 1 hts gL_delivered_X0_deliveredTo rfl rfl rfl (by decide +kernel) ⟨Nat.le_of_ble_eq_true rfl, Nat.le_of_ble_eq_true rfl⟩) (ci := 0) rfl rfl rfl rfl (Nat.le_of_ble_eq_true rfl) ⟨Nat.le_of_ble_eq_true rfl, Nat.le_of_ble_eq_true rfl⟩ dL_delivered_2 rfl (fun r u2 hp => ?_)
  subst hp
  exact hret _ () _ _ _ dL_delivered_5 rfl rfl
set_option maxHeartbeats 4000000 in
set_option maxRecDepth 100000 in
theorem kx_delivered_3 (l : Launch) (hlt : l.stackTraces = false) (D : va_G) (cI cZ : ClassId) (h : Nat) (a : Nat → Nat) (u : SX) (p1 : Int32) (he : e_X0_deliveredTo u p1 = 3) (nn : Nat) (hnn : u.1 16 = nI nn) (hn : nn ≤ 120) : zMi l yL_delivered wsL_delivered ({ frames := 8, cells := 1, slots := 6, locals := 124 } : Room) zU D [(cI, .int), (cZ, .boolean)] (wX0 cI cZ h a u) [.ref h, .int p1] (fun (r : Int32) (_ : Unit) => r = (-2000000001)) (fun _ => (wX0 cI cZ h a u)) 1 6 := by
  refine z_startH (cc := cL_delivered) (n := 3) (own := RL) (L0 := [(0, .ref h), (1, .int p1)]) (hh := [(0, 5, 6, 23)]) (plainFor_of_name (by decide)) rfl rfl (Nat.le_of_ble_eq_true rfl) rfl (fun E hEl htab hret => ?_)
  refine z_aload_n 0 dL_delivered_0 rfl ?_
  refine z_iload_n 1 dL_delivered_1 rfl ?_
  refine z_callVx (As := [.int p1]) (st := []) (by rw [hEl]; exact hlt) (fun l hl => t_X0_deliveredTo l hl D cI cZ h a u p1 (by rw [he]; decide) nn hnn hn) (fun s args hts => cwV 1 hts gL_delivered_X0_deliveredTo rfl rfl rfl (by decide +kernel) ⟨Nat.le_of_ble_eq_true rfl, Nat.le_of_ble_eq_true rfl⟩) (ci := 0) rfl rfl rfl rfl (Nat.le_of_ble_eq_true rfl) ⟨Nat.le_of_ble_eq_true rfl, Nat.le_of_ble_eq_true rfl⟩ dL_delivered_2 rfl ?_
  refine z_catch htab "java/lang/IndexOutOfBoundsException" [] ⟨0, 5, 6, 23⟩ [] rfl (fun z hz => nomatch hz) (by decide) (by decide) (List.mem_of_getElem? (i := 1) rfl) (by decide) (fun E' hE => by rw [hE, he]; rfl) (fun q9 => ?_)
  refine z_astore_n (L' := [(2, .ref q9), (0, .ref h), (1, .int p1)]) dL_delivered_6 (by decide) rfl ?_
  refine z_ldc (v := (-2000000001)) (List.mem_of_getElem? (i := 2) rfl) dL_delivered_7 ?_
  exact hret _ () _ _ _ dL_delivered_9 rfl rfl
set_option maxHeartbeats 4000000 in
set_option maxRecDepth 100000 in
theorem kn_standing (l : Launch) (D : va_G) (cI cZ : ClassId) (h : Nat) (a : Nat → Nat) (u : SX) (p1 p2 : Int32) (he : e_X0_standing u p1 p2 = 0) (hlk : ∀ i : Nat, i < 80 → (u.2 15 i) = (-1) ∨ vp_in (u.2 15 i) 120) : zMi l yL_standing wsL_standing ({ frames := 2, cells := 0, slots := 0, locals := 45 } : Room) zTT D [(cI, .int), (cZ, .boolean)] (wX0 cI cZ h a u) [.ref h, .int p1, .int p2] (fun (r : Int32) (_ : Unit) => r = (r_X0_standing u p1 p2)) (fun _ => (wX0 cI cZ h a u)) 0 0 := by
  refine z_startH (cc := cL_standing) (n := 4) (own := RL) (L0 := [(0, .ref h), (1, .int p1), (2, .int p2)]) (hh := [(0, 6, 7, 13)]) (plainFor_of_name (by decide)) rfl rfl (Nat.le_of_ble_eq_true rfl) rfl (fun E hEl htab hret => ?_)
  refine z_aload_n 0 dL_standing_0 rfl ?_
  refine z_iload_n 1 dL_standing_1 rfl ?_
  refine z_iload_n 2 dL_standing_2 rfl ?_
  refine z_callVi (As := [.int p1, .int p2]) (st := []) (fun l => c_X0_standing l D cI cZ h a u p1 p2 he hlk) zGok_TT (fun _ _ _ => trivial) (fun s args hts => cwV 2 hts gL_standing_X0_standing rfl rfl rfl (by decide +kernel) ⟨Nat.le_of_ble_eq_true rfl, Nat.le_of_ble_eq_true rfl⟩) (ci := 0) rfl rfl rfl rfl (Nat.le_of_ble_eq_true rfl) ⟨Nat.le_of_ble_eq_true rfl, Nat.le_of_ble_eq_true rfl⟩ dL_standing_3 rfl (fun r u2 hp => ?_)
  subst hp
  exact hret _ () _ _ _ dL_standing_6 rfl rfl
set_option maxHeartbeats 4000000 in
set_option maxRecDepth 100000 in
theorem kx_standing_1 (l : Launch) (hlt : l.stackTraces = false) (D : va_G) (cI cZ : ClassId) (h : Nat) (a : Nat → Nat) (u : SX) (p1 p2 : Int32) (he : e_X0_standing u p1 p2 = 1) (hlk : ∀ i : Nat, i < 80 → (u.2 15 i) = (-1) ∨ vp_in (u.2 15 i) 120) : zMi l yL_standing wsL_standing ({ frames := 8, cells := 1, slots := 6, locals := 127 } : Room) zU D [(cI, .int), (cZ, .boolean)] (wX0 cI cZ h a u) [.ref h, .int p1, .int p2] (fun (r : Int32) (_ : Unit) => r = (-2000000002)) (fun _ => (wX0 cI cZ h a u)) 1 6 := by
  refine z_startH (cc := cL_standing) (n := 4) (own := RL) (L0 := [(0, .ref h), (1, .int p1), (2, .int p2)]) (hh := [(0, 6, 7, 13)]) (plainFor_of_name (by decide)) rfl rfl (Nat.le_of_ble_eq_true rfl) rfl (fun E hEl htab hret => ?_)
  refine z_aload_n 0 dL_standing_0 rfl ?_
  refine z_iload_n 1 dL_standing_1 rfl ?_
  refine z_iload_n 2 dL_standing_2 rfl ?_
  refine z_callVx (As := [.int p1, .int p2]) (st := []) (by rw [hEl]; exact hlt) (fun l hl => t_X0_standing l hl D cI cZ h a u p1 p2 (by rw [he]; decide) hlk) (fun s args hts => cwV 2 hts gL_standing_X0_standing rfl rfl rfl (by decide +kernel) ⟨Nat.le_of_ble_eq_true rfl, Nat.le_of_ble_eq_true rfl⟩) (ci := 0) rfl rfl rfl rfl (Nat.le_of_ble_eq_true rfl) ⟨Nat.le_of_ble_eq_true rfl, Nat.le_of_ble_eq_true rfl⟩ dL_standing_3 rfl ?_
  refine z_catch htab "java/lang/IllegalArgumentException" [] ⟨0, 6, 7, 13⟩ [] rfl (fun z hz => nomatch hz) (by decide) (by decide) (List.mem_of_getElem? (i := 1) rfl) (by decide) (fun E' hE => by rw [hE, he]; rfl) (fun q9 => ?_)
  refine z_astore_n (L' := [(3, .ref q9), (0, .ref h), (1, .int p1), (2, .int p2)]) dL_standing_7 (by decide) rfl ?_
  refine z_ldc (v := (-2000000002)) (List.mem_of_getElem? (i := 2) rfl) dL_standing_8 ?_
  exact hret _ () _ _ _ dL_standing_10 rfl rfl
set_option maxHeartbeats 4000000 in
set_option maxRecDepth 100000 in
theorem kn_badge (l : Launch) (D : va_G) (cI cZ : ClassId) (h : Nat) (a : Nat → Nat) (u : SX) (p1 : Int32) (he : e_X0_badge u p1 = 0) (nd : Nat) (hnd : u.1 10 = nI nd) (hd : nd ≤ 16) (nn : Nat) (hnn : u.1 16 = nI nn) (hn : nn ≤ 120) : zMi l yL_badge wsL_badge ({ frames := 3, cells := 0, slots := 0, locals := 64 } : Room) zTT D [(cI, .int), (cZ, .boolean)] (wX0 cI cZ h a u) [.ref h, .int p1] (fun (r : Int32) (_ : Unit) => r = (r_X0_badge u p1)) (fun _ => (wX0 cI cZ h a u)) 0 0 := by
  refine z_startH (cc := cL_badge) (n := 3) (own := RL) (L0 := [(0, .ref h), (1, .int p1)]) (hh := [(0, 5, 6, 23)]) (plainFor_of_name (by decide)) rfl rfl (Nat.le_of_ble_eq_true rfl) rfl (fun E hEl htab hret => ?_)
  refine z_aload_n 0 dL_badge_0 rfl ?_
  refine z_iload_n 1 dL_badge_1 rfl ?_
  refine z_callVi (As := [.int p1]) (st := []) (fun l => c_X0_badge l D cI cZ h a u p1 he nd hnd hd nn hnn hn) zGok_TT (fun _ _ _ => trivial) (fun s args hts => cwV 1 hts gL_badge_X0_badge rfl rfl rfl (by decide +kernel) ⟨Nat.le_of_ble_eq_true rfl, Nat.le_of_ble_eq_true rfl⟩) (ci := 0) rfl rfl rfl rfl (Nat.le_of_ble_eq_true rfl) ⟨Nat.le_of_ble_eq_true rfl, Nat.le_of_ble_eq_true rfl⟩ dL_badge_2 rfl (fun r u2 hp => ?_)
  subst hp
  exact hret _ () _ _ _ dL_badge_5 rfl rfl
set_option maxHeartbeats 4000000 in
set_option maxRecDepth 100000 in
theorem kx_badge_3 (l : Launch) (hlt : l.stackTraces = false) (D : va_G) (cI cZ : ClassId) (h : Nat) (a : Nat → Nat) (u : SX) (p1 : Int32) (he : e_X0_badge u p1 = 3) (nd : Nat) (hnd : u.1 10 = nI nd) (hd : nd ≤ 16) (nn : Nat) (hnn : u.1 16 = nI nn) (hn : nn ≤ 120) : zMi l yL_badge wsL_badge ({ frames := 8, cells := 1, slots := 6, locals := 126 } : Room) zU D [(cI, .int), (cZ, .boolean)] (wX0 cI cZ h a u) [.ref h, .int p1] (fun (r : Int32) (_ : Unit) => r = (-2000000001)) (fun _ => (wX0 cI cZ h a u)) 1 6 := by
  refine z_startH (cc := cL_badge) (n := 3) (own := RL) (L0 := [(0, .ref h), (1, .int p1)]) (hh := [(0, 5, 6, 23)]) (plainFor_of_name (by decide)) rfl rfl (Nat.le_of_ble_eq_true rfl) rfl (fun E hEl htab hret => ?_)
  refine z_aload_n 0 dL_badge_0 rfl ?_
  refine z_iload_n 1 dL_badge_1 rfl ?_
  refine z_callVx (As := [.int p1]) (st := []) (by rw [hEl]; exact hlt) (fun l hl => t_X0_badge l hl D cI cZ h a u p1 (by rw [he]; decide) nd hnd hd nn hnn hn) (fun s args hts => cwV 1 hts gL_badge_X0_badge rfl rfl rfl (by decide +kernel) ⟨Nat.le_of_ble_eq_true rfl, Nat.le_of_ble_eq_true rfl⟩) (ci := 0) rfl rfl rfl rfl (Nat.le_of_ble_eq_true rfl) ⟨Nat.le_of_ble_eq_true rfl, Nat.le_of_ble_eq_true rfl⟩ dL_badge_2 rfl ?_
  refine z_catch htab "java/lang/IndexOutOfBoundsException" [] ⟨0, 5, 6, 23⟩ [] rfl (fun z hz => nomatch hz) (by decide) (by decide) (List.mem_of_getElem? (i := 1) rfl) (by decide) (fun E' hE => by rw [hE, he]; rfl) (fun q9 => ?_)
  refine z_astore_n (L' := [(2, .ref q9), (0, .ref h), (1, .int p1)]) dL_badge_6 (by decide) rfl ?_
  refine z_ldc (v := (-2000000001)) (List.mem_of_getElem? (i := 2) rfl) dL_badge_7 ?_
  exact hret _ () _ _ _ dL_badge_9 rfl rfl
set_option maxHeartbeats 4000000 in
set_option maxRecDepth 100000 in
theorem kn_waiting (l : Launch) (D : va_G) (cI cZ : ClassId) (h : Nat) (a : Nat → Nat) (u : SX) (p1 : Int32) (he : e_X0_waiting u p1 = 0) (nd : Nat) (hnd : u.1 10 = nI nd) (hd : nd ≤ 16) (nn : Nat) (hnn : u.1 16 = nI nn) (hn : nn ≤ 120) : zMi l yL_waiting wsL_waiting ({ frames := 4, cells := 0, slots := 0, locals := 86 } : Room) zTT D [(cI, .int), (cZ, .boolean)] (wX0 cI cZ h a u) [.ref h, .int p1] (fun (r : Int32) (_ : Unit) => r = (r_X0_waiting u p1)) (fun _ => (wX0 cI cZ h a u)) 0 0 := by
  refine z_startH (cc := cL_waiting) (n := 3) (own := RL) (L0 := [(0, .ref h), (1, .int p1)]) (hh := [(0, 5, 6, 23)]) (plainFor_of_name (by decide)) rfl rfl (Nat.le_of_ble_eq_true rfl) rfl (fun E hEl htab hret => ?_)
  refine z_aload_n 0 dL_waiting_0 rfl ?_
  refine z_iload_n 1 dL_waiting_1 rfl ?_
  refine z_callVi (As := [.int p1]) (st := []) (fun l => c_X0_waiting l D cI cZ h a u p1 he nd hnd hd nn hnn hn) zGok_TT (fun _ _ _ => trivial) (fun s args hts => cwV 1 hts gL_waiting_X0_waiting rfl rfl rfl (by decide +kernel) ⟨Nat.le_of_ble_eq_true rfl, Nat.le_of_ble_eq_true rfl⟩) (ci := 0) rfl rfl rfl rfl (Nat.le_of_ble_eq_true rfl) ⟨Nat.le_of_ble_eq_true rfl, Nat.le_of_ble_eq_true rfl⟩ dL_waiting_2 rfl (fun r u2 hp => ?_)
  subst hp
  exact hret _ () _ _ _ dL_waiting_5 rfl rfl
set_option maxHeartbeats 4000000 in
set_option maxRecDepth 100000 in
theorem kx_waiting_3 (l : Launch) (hlt : l.stackTraces = false) (D : va_G) (cI cZ : ClassId) (h : Nat) (a : Nat → Nat) (u : SX) (p1 : Int32) (he : e_X0_waiting u p1 = 3) (nd : Nat) (hnd : u.1 10 = nI nd) (hd : nd ≤ 16) (nn : Nat) (hnn : u.1 16 = nI nn) (hn : nn ≤ 120) : zMi l yL_waiting wsL_waiting ({ frames := 8, cells := 1, slots := 6, locals := 124 } : Room) zU D [(cI, .int), (cZ, .boolean)] (wX0 cI cZ h a u) [.ref h, .int p1] (fun (r : Int32) (_ : Unit) => r = (-2000000001)) (fun _ => (wX0 cI cZ h a u)) 1 6 := by
  refine z_startH (cc := cL_waiting) (n := 3) (own := RL) (L0 := [(0, .ref h), (1, .int p1)]) (hh := [(0, 5, 6, 23)]) (plainFor_of_name (by decide)) rfl rfl (Nat.le_of_ble_eq_true rfl) rfl (fun E hEl htab hret => ?_)
  refine z_aload_n 0 dL_waiting_0 rfl ?_
  refine z_iload_n 1 dL_waiting_1 rfl ?_
  refine z_callVx (As := [.int p1]) (st := []) (by rw [hEl]; exact hlt) (fun l hl => t_X0_waiting l hl D cI cZ h a u p1 (by rw [he]; decide) nd hnd hd nn hnn hn) (fun s args hts => cwV 1 hts gL_waiting_X0_waiting rfl rfl rfl (by decide +kernel) ⟨Nat.le_of_ble_eq_true rfl, Nat.le_of_ble_eq_true rfl⟩) (ci := 0) rfl rfl rfl rfl (Nat.le_of_ble_eq_true rfl) ⟨Nat.le_of_ble_eq_true rfl, Nat.le_of_ble_eq_true rfl⟩ dL_waiting_2 rfl ?_
  refine z_catch htab "java/lang/IndexOutOfBoundsException" [] ⟨0, 5, 6, 23⟩ [] rfl (fun z hz => nomatch hz) (by decide) (by decide) (List.mem_of_getElem? (i := 1) rfl) (by decide) (fun E' hE => by rw [hE, he]; rfl) (fun q9 => ?_)
  refine z_astore_n (L' := [(2, .ref q9), (0, .ref h), (1, .int p1)]) dL_waiting_6 (by decide) rfl ?_
  refine z_ldc (v := (-2000000001)) (List.mem_of_getElem? (i := 2) rfl) dL_waiting_7 ?_
  exact hret _ () _ _ _ dL_waiting_9 rfl rfl
set_option maxHeartbeats 4000000 in
set_option maxRecDepth 100000 in
theorem kn_quota (l : Launch) (D : va_G) (cI cZ : ClassId) (h : Nat) (a : Nat → Nat) (u : SX) (p1 : Int32) (he : e_X0_quota u p1 = 0) (nd : Nat) (hnd : u.1 10 = nI nd) (hd : nd ≤ 16) : zMi l yL_quota wsL_quota ({ frames := 2, cells := 0, slots := 0, locals := 42 } : Room) zTT D [(cI, .int), (cZ, .boolean)] (wX0 cI cZ h a u) [.ref h, .int p1] (fun (r : Int32) (_ : Unit) => r = (r_X0_quota u p1)) (fun _ => (wX0 cI cZ h a u)) 0 0 := by
  refine z_startH (cc := cL_quota) (n := 3) (own := RL) (L0 := [(0, .ref h), (1, .int p1)]) (hh := [(0, 5, 6, 23)]) (plainFor_of_name (by decide)) rfl rfl (Nat.le_of_ble_eq_true rfl) rfl (fun E hEl htab hret => ?_)
  refine z_aload_n 0 dL_quota_0 rfl ?_
  refine z_iload_n 1 dL_quota_1 rfl ?_
  refine z_callVi (As := [.int p1]) (st := []) (fun l => c_X0_quota l D cI cZ h a u p1 he nd hnd hd) zGok_TT (fun _ _ _ => trivial) (fun s args hts => cwV 1 hts gL_quota_X0_quota rfl rfl rfl (by decide +kernel) ⟨Nat.le_of_ble_eq_true rfl, Nat.le_of_ble_eq_true rfl⟩) (ci := 0) rfl rfl rfl rfl (Nat.le_of_ble_eq_true rfl) ⟨Nat.le_of_ble_eq_true rfl, Nat.le_of_ble_eq_true rfl⟩ dL_quota_2 rfl (fun r u2 hp => ?_)
  subst hp
  exact hret _ () _ _ _ dL_quota_5 rfl rfl
set_option maxHeartbeats 4000000 in
set_option maxRecDepth 100000 in
theorem kx_quota_3 (l : Launch) (hlt : l.stackTraces = false) (D : va_G) (cI cZ : ClassId) (h : Nat) (a : Nat → Nat) (u : SX) (p1 : Int32) (he : e_X0_quota u p1 = 3) (nd : Nat) (hnd : u.1 10 = nI nd) (hd : nd ≤ 16) : zMi l yL_quota wsL_quota ({ frames := 8, cells := 1, slots := 6, locals := 124 } : Room) zU D [(cI, .int), (cZ, .boolean)] (wX0 cI cZ h a u) [.ref h, .int p1] (fun (r : Int32) (_ : Unit) => r = (-2000000001)) (fun _ => (wX0 cI cZ h a u)) 1 6 := by
  refine z_startH (cc := cL_quota) (n := 3) (own := RL) (L0 := [(0, .ref h), (1, .int p1)]) (hh := [(0, 5, 6, 23)]) (plainFor_of_name (by decide)) rfl rfl (Nat.le_of_ble_eq_true rfl) rfl (fun E hEl htab hret => ?_)
  refine z_aload_n 0 dL_quota_0 rfl ?_
  refine z_iload_n 1 dL_quota_1 rfl ?_
  refine z_callVx (As := [.int p1]) (st := []) (by rw [hEl]; exact hlt) (fun l hl => t_X0_quota l hl D cI cZ h a u p1 (by rw [he]; decide) nd hnd hd) (fun s args hts => cwV 1 hts gL_quota_X0_quota rfl rfl rfl (by decide +kernel) ⟨Nat.le_of_ble_eq_true rfl, Nat.le_of_ble_eq_true rfl⟩) (ci := 0) rfl rfl rfl rfl (Nat.le_of_ble_eq_true rfl) ⟨Nat.le_of_ble_eq_true rfl, Nat.le_of_ble_eq_true rfl⟩ dL_quota_2 rfl ?_
  refine z_catch htab "java/lang/IndexOutOfBoundsException" [] ⟨0, 5, 6, 23⟩ [] rfl (fun z hz => nomatch hz) (by decide) (by decide) (List.mem_of_getElem? (i := 1) rfl) (by decide) (fun E' hE => by rw [hE, he]; rfl) (fun q9 => ?_)
  refine z_astore_n (L' := [(2, .ref q9), (0, .ref h), (1, .int p1)]) dL_quota_6 (by decide) rfl ?_
  refine z_ldc (v := (-2000000001)) (List.mem_of_getElem? (i := 2) rfl) dL_quota_7 ?_
  exact hret _ () _ _ _ dL_quota_9 rfl rfl
set_option maxHeartbeats 4000000 in
set_option maxRecDepth 100000 in
theorem kn_passes (l : Launch) (D : va_G) (cI cZ : ClassId) (h : Nat) (a : Nat → Nat) (u : SX) (p1 : Int32) (he : e_X0_pass u p1 = 0) (nd : Nat) (hnd : u.1 10 = nI nd) (hd : nd ≤ 16) (nn : Nat) (hnn : u.1 16 = nI nn) (hn : nn ≤ 120) : zMi l yL_passes wsL_passes ({ frames := 6, cells := 0, slots := 0, locals := 136 } : Room) zTT D [(cI, .int), (cZ, .boolean)] (wX0 cI cZ h a u) [.ref h, .int p1] (fun (r : Int32) (_ : Unit) => r = (r_X0_pass u p1)) (fun _ => (wX0 cI cZ h a (s_X0_pass u p1))) 0 0 := by
  refine z_startH (cc := cL_passes) (n := 3) (own := RL) (L0 := [(0, .ref h), (1, .int p1)]) (hh := [(0, 5, 6, 13), (0, 5, 10, 16)]) (plainFor_of_name (by decide)) rfl rfl (Nat.le_of_ble_eq_true rfl) rfl (fun E hEl htab hret => ?_)
  refine z_aload_n 0 dL_passes_0 rfl ?_
  refine z_iload_n 1 dL_passes_1 rfl ?_
  refine z_callVi (As := [.int p1]) (st := []) (fun l => c_X0_pass l D cI cZ h a u p1 he nd hnd hd nn hnn hn) zGok_TT (fun _ _ _ => trivial) (fun s args hts => cwV 1 hts gL_passes_X0_pass rfl rfl rfl (by decide +kernel) ⟨Nat.le_of_ble_eq_true rfl, Nat.le_of_ble_eq_true rfl⟩) (ci := 0) rfl rfl rfl rfl (Nat.le_of_ble_eq_true rfl) ⟨Nat.le_of_ble_eq_true rfl, Nat.le_of_ble_eq_true rfl⟩ dL_passes_2 rfl (fun r u2 hp => ?_)
  obtain ⟨rfl, rfl⟩ := hp
  exact hret _ () _ _ _ dL_passes_5 rfl rfl
set_option maxHeartbeats 4000000 in
set_option maxRecDepth 100000 in
theorem kx_passes_1 (l : Launch) (hlt : l.stackTraces = false) (D : va_G) (cI cZ : ClassId) (h : Nat) (a : Nat → Nat) (u : SX) (p1 : Int32) (he : e_X0_pass u p1 = 1) (nd : Nat) (hnd : u.1 10 = nI nd) (hd : nd ≤ 16) (nn : Nat) (hnn : u.1 16 = nI nn) (hn : nn ≤ 120) : zMi l yL_passes wsL_passes ({ frames := 8, cells := 1, slots := 6, locals := 136 } : Room) zU D [(cI, .int), (cZ, .boolean)] (wX0 cI cZ h a u) [.ref h, .int p1] (fun (r : Int32) (_ : Unit) => r = (-2000000002)) (fun _ => (wX0 cI cZ h a u)) 1 6 := by
  refine z_startH (cc := cL_passes) (n := 3) (own := RL) (L0 := [(0, .ref h), (1, .int p1)]) (hh := [(0, 5, 6, 13), (0, 5, 10, 16)]) (plainFor_of_name (by decide)) rfl rfl (Nat.le_of_ble_eq_true rfl) rfl (fun E hEl htab hret => ?_)
  refine z_aload_n 0 dL_passes_0 rfl ?_
  refine z_iload_n 1 dL_passes_1 rfl ?_
  refine z_callVx (As := [.int p1]) (st := []) (by rw [hEl]; exact hlt) (fun l hl => t_X0_pass l hl D cI cZ h a u p1 (by rw [he]; decide) nd hnd hd nn hnn hn) (fun s args hts => cwV 1 hts gL_passes_X0_pass rfl rfl rfl (by decide +kernel) ⟨Nat.le_of_ble_eq_true rfl, Nat.le_of_ble_eq_true rfl⟩) (ci := 0) rfl rfl rfl rfl (Nat.le_of_ble_eq_true rfl) ⟨Nat.le_of_ble_eq_true rfl, Nat.le_of_ble_eq_true rfl⟩ dL_passes_2 rfl ?_
  refine z_catch htab "java/lang/IllegalArgumentException" [] ⟨0, 5, 6, 13⟩ [⟨0, 5, 10, 16⟩] rfl (fun z hz => nomatch hz) (by decide) (by decide) (List.mem_of_getElem? (i := 1) rfl) (by decide) (fun E' hE => by rw [hE, he]; rfl) (fun q9 => ?_)
  refine z_astore_n (L' := [(2, .ref q9), (0, .ref h), (1, .int p1)]) dL_passes_6 (by decide) rfl ?_
  refine z_ldc (v := (-2000000002)) (List.mem_of_getElem? (i := 3) rfl) dL_passes_7 ?_
  exact hret _ () _ _ _ dL_passes_9 rfl rfl
set_option maxHeartbeats 4000000 in
set_option maxRecDepth 100000 in
theorem kx_passes_2 (l : Launch) (hlt : l.stackTraces = false) (D : va_G) (cI cZ : ClassId) (h : Nat) (a : Nat → Nat) (u : SX) (p1 : Int32) (he : e_X0_pass u p1 = 2) (nd : Nat) (hnd : u.1 10 = nI nd) (hd : nd ≤ 16) (nn : Nat) (hnn : u.1 16 = nI nn) (hn : nn ≤ 120) : zMi l yL_passes wsL_passes ({ frames := 8, cells := 1, slots := 6, locals := 136 } : Room) zU D [(cI, .int), (cZ, .boolean)] (wX0 cI cZ h a u) [.ref h, .int p1] (fun (r : Int32) (_ : Unit) => r = (-2000000003)) (fun _ => (wX0 cI cZ h a u)) 1 6 := by
  refine z_startH (cc := cL_passes) (n := 3) (own := RL) (L0 := [(0, .ref h), (1, .int p1)]) (hh := [(0, 5, 6, 13), (0, 5, 10, 16)]) (plainFor_of_name (by decide)) rfl rfl (Nat.le_of_ble_eq_true rfl) rfl (fun E hEl htab hret => ?_)
  refine z_aload_n 0 dL_passes_0 rfl ?_
  refine z_iload_n 1 dL_passes_1 rfl ?_
  refine z_callVx (As := [.int p1]) (st := []) (by rw [hEl]; exact hlt) (fun l hl => t_X0_pass l hl D cI cZ h a u p1 (by rw [he]; decide) nd hnd hd nn hnn hn) (fun s args hts => cwV 1 hts gL_passes_X0_pass rfl rfl rfl (by decide +kernel) ⟨Nat.le_of_ble_eq_true rfl, Nat.le_of_ble_eq_true rfl⟩) (ci := 0) rfl rfl rfl rfl (Nat.le_of_ble_eq_true rfl) ⟨Nat.le_of_ble_eq_true rfl, Nat.le_of_ble_eq_true rfl⟩ dL_passes_2 rfl ?_
  refine z_catch htab "java/lang/IllegalStateException" [⟨0, 5, 6, 13⟩] ⟨0, 5, 10, 16⟩ [] rfl (fun z hz => by obtain rfl := List.mem_singleton.mp hz; exact ⟨by decide, "java/lang/IllegalArgumentException", List.mem_of_getElem? (i := 1) rfl, by decide⟩) (by decide) (by decide) (List.mem_of_getElem? (i := 2) rfl) (by decide) (fun E' hE => by rw [hE, he]; rfl) (fun q9 => ?_)
  refine z_astore_n (L' := [(2, .ref q9), (0, .ref h), (1, .int p1)]) dL_passes_10 (by decide) rfl ?_
  refine z_ldc (v := (-2000000003)) (List.mem_of_getElem? (i := 4) rfl) dL_passes_11 ?_
  exact hret _ () _ _ _ dL_passes_13 rfl rfl
