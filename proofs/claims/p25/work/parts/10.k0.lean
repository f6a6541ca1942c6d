set_option maxHeartbeats 4000000 in
set_option maxRecDepth 100000 in
theorem c_J9_floorMod_7cf53 (l : Launch) (D : va_G) (tys : List (ClassId × FieldType)) (w0 : va_W) (p1 p2 : Int32) (h0 : ¬ p2 = 0) : zMi l yJ9_floorMod_7cf53 wsJ9_floorMod_7cf53 ({ frames := 0, cells := 0, slots := 0, locals := 0 } : Room) zTT D tys w0 [.int p1, .int p2] (fun (r : Int32) (_ : Unit) => r = r_J9_floorMod_7cf53 p1 p2) (fun _ => w0) 0 0 := by
  refine z_startI (cc := cJ9_floorMod_7cf53) (n := 3) (own := RJ9) (L0 := [(0, .int p1), (1, .int p2)]) (by decide +kernel) rfl rfl (Nat.le_of_ble_eq_true rfl) rfl (fun E hret => ?_)
  refine z_iload_n 0 dJ9_floorMod_7cf53_0 rfl ?_
  refine z_iload_n 1 dJ9_floorMod_7cf53_1 rfl ?_
  refine z_irem dJ9_floorMod_7cf53_2 (by assumption) ?_
  refine z_istore_n (L' := [(2, .int (p1 - p1 / p2 * p2)), (0, .int p1), (1, .int p2)]) dJ9_floorMod_7cf53_3 (by decide) rfl ?_
  refine z_iload_n 1 dJ9_floorMod_7cf53_4 rfl ?_
  refine z_iload_n 2 dJ9_floorMod_7cf53_5 rfl ?_
  refine z_ixor dJ9_floorMod_7cf53_6 ?_
  refine z_if_ge 18 dJ9_floorMod_7cf53_7 (by decide) (fun c_7_0 => ?_) (fun c_7_0 => ?_)
  ·
    refine z_iload_n 0 dJ9_floorMod_7cf53_18 rfl ?_
    exact hret _ () _ _ _ dJ9_floorMod_7cf53_19 (by rw [r_J9_floorMod_7cf53, if_pos c_7_0]) rfl
  ·
    refine z_iload_n 0 dJ9_floorMod_7cf53_10 rfl ?_
    refine z_if_eq 18 dJ9_floorMod_7cf53_11 (by decide) (fun c_11_1 => ?_) (fun c_11_1 => ?_)
    ·
      refine z_iload_n 0 dJ9_floorMod_7cf53_18 rfl ?_
      exact hret _ () _ _ _ dJ9_floorMod_7cf53_19 (by rw [r_J9_floorMod_7cf53, if_neg c_7_0, if_pos c_11_1]) rfl
    ·
      refine z_iload_n 0 dJ9_floorMod_7cf53_14 rfl ?_
      refine z_iload_n 2 dJ9_floorMod_7cf53_15 rfl ?_
      refine z_iadd dJ9_floorMod_7cf53_16 ?_
      exact hret _ () _ _ _ dJ9_floorMod_7cf53_17 (by rw [r_J9_floorMod_7cf53, if_neg c_7_0, if_neg c_11_1]) rfl
set_option maxHeartbeats 4000000 in
set_option maxRecDepth 100000 in
theorem c_J9_min_7cf53 (l : Launch) (D : va_G) (tys : List (ClassId × FieldType)) (w0 : va_W) (p1 p2 : Int32)  : zMi l yJ9_min_7cf53 wsJ9_min_7cf53 ({ frames := 0, cells := 0, slots := 0, locals := 0 } : Room) zTT D tys w0 [.int p1, .int p2] (fun (r : Int32) (_ : Unit) => r = r_J9_min_7cf53 p1 p2) (fun _ => w0) 0 0 := by
  refine z_startI (cc := cJ9_min_7cf53) (n := 2) (own := RJ9) (L0 := [(0, .int p1), (1, .int p2)]) (by decide +kernel) rfl rfl (Nat.le_of_ble_eq_true rfl) rfl (fun E hret => ?_)
  refine z_iload_n 0 dJ9_min_7cf53_0 rfl ?_
  refine z_iload_n 1 dJ9_min_7cf53_1 rfl ?_
  refine z_icmp_gt 9 dJ9_min_7cf53_2 (by decide) (fun c_2_0 => ?_) (fun c_2_0 => ?_)
  ·
    refine z_iload_n 1 dJ9_min_7cf53_9 rfl ?_
    exact hret _ () _ _ _ dJ9_min_7cf53_10 (by rw [r_J9_min_7cf53, if_pos c_2_0]) rfl
  ·
    refine z_iload_n 0 dJ9_min_7cf53_5 rfl ?_
    refine z_goto 10 dJ9_min_7cf53_6 (by decide) ?_
    exact hret _ () _ _ _ dJ9_min_7cf53_10 (by rw [r_J9_min_7cf53, if_neg c_2_0]) rfl
set_option maxHeartbeats 4000000 in
set_option maxRecDepth 100000 in
theorem c_X0_requireWithin (l : Launch) (D : va_G) (tys : List (ClassId × FieldType)) (w0 : va_W) (p1 p2 p3 : Int32) (he : e_X0_requireWithin p1 p2 p3 = 0)  : zMv l yX0_requireWithin wsX0_requireWithin ({ frames := 0, cells := 0, slots := 0, locals := 0 } : Room) zTT D tys w0 [.int p1, .int p2, .int p3] (fun _ : Unit => True) (fun _ => w0) 0 0 := by
  refine z_startV (cc := cX0_requireWithin) (n := 3) (own := RX0) (L0 := [(0, .int p1), (1, .int p2), (2, .int p3)]) (plainFor_of_name (by decide)) rfl rfl (Nat.le_of_ble_eq_true rfl) rfl (fun E hret => ?_)
  refine z_iload_n 0 dX0_requireWithin_0 rfl ?_
  refine z_iload_n 1 dX0_requireWithin_1 rfl ?_
  refine z_icmp_lt 10 dX0_requireWithin_2 (by decide) (fun c_2_0 => ?_) (fun c_2_0 => ?_)
  ·
    exact absurd he (by rw [e_X0_requireWithin, if_pos c_2_0]; decide)
  ·
    refine z_iload_n 0 dX0_requireWithin_5 rfl ?_
    refine z_iload_n 2 dX0_requireWithin_6 rfl ?_
    refine z_icmp_le 20 dX0_requireWithin_7 (by decide) (fun c_7_1 => ?_) (fun c_7_1 => ?_)
    ·
      exact hret () _ _ _ dX0_requireWithin_20 trivial rfl
    ·
      exact absurd he (by rw [e_X0_requireWithin, if_neg c_2_0, if_neg c_7_1]; decide)
set_option maxHeartbeats 4000000 in
set_option maxRecDepth 100000 in
theorem t_X0_requireWithin (l : Launch) (hlt : l.stackTraces = false) (D : va_G) (tys : List (ClassId × FieldType)) (w0 : va_W) (p1 p2 p3 : Int32) (he : e_X0_requireWithin p1 p2 p3 ≠ 0)  : zMx l yX0_requireWithin wsX0_requireWithin ({ frames := 6, cells := 1, slots := 6, locals := 82 } : Room) D tys w0 [.int p1, .int p2, .int p3] (fun E' => E' = zEx (e_X0_requireWithin p1 p2 p3)) := by
  refine z_startX (cc := cX0_requireWithin) (n := 3) (own := RX0) (L0 := [(0, .int p1), (1, .int p2), (2, .int p3)]) hlt (by decide) rfl rfl (Nat.le_of_ble_eq_true rfl) rfl ⟨Nat.le_of_ble_eq_true rfl, Nat.le_of_ble_eq_true rfl⟩ (fun E hlt hthr hthrow => ?_)
  refine z_iload_n 0 dX0_requireWithin_0 rfl ?_
  refine z_iload_n 1 dX0_requireWithin_1 rfl ?_
  refine z_icmp_lt 10 dX0_requireWithin_2 (by decide) (fun c_2_0 => ?_) (fun c_2_0 => ?_)
  ·
    exact hthrow 10 _ "java/lang/IllegalArgumentException" "an argument is out of range" 161 163 165 (by decide) (by decide) (by decide +kernel) (List.mem_of_getElem? (i := 1) rfl) (List.mem_of_getElem? (i := 2) rfl) rfl (by decide) (fun w h => List.mem_cons_of_mem _ (by first | exact List.mem_append_right _ h | exact List.mem_append_left _ (List.mem_append_right _ h) | exact List.mem_append_left _ (List.mem_append_left _ (List.mem_append_right _ h)))) (by decide +kernel) (by decide +kernel) dX0_requireWithin_10 dX0_requireWithin_13 dX0_requireWithin_14 dX0_requireWithin_16 dX0_requireWithin_19 (by show _ = zEx _; rw [e_X0_requireWithin, if_pos c_2_0]; rfl)
  ·
    refine z_iload_n 0 dX0_requireWithin_5 rfl ?_
    refine z_iload_n 2 dX0_requireWithin_6 rfl ?_
    refine z_icmp_le 20 dX0_requireWithin_7 (by decide) (fun c_7_1 => ?_) (fun c_7_1 => ?_)
    ·
      exact absurd (by rw [e_X0_requireWithin, if_neg c_2_0, if_pos c_7_1]) he
    ·
      exact hthrow 10 _ "java/lang/IllegalArgumentException" "an argument is out of range" 161 163 165 (by decide) (by decide) (by decide +kernel) (List.mem_of_getElem? (i := 1) rfl) (List.mem_of_getElem? (i := 2) rfl) rfl (by decide) (fun w h => List.mem_cons_of_mem _ (by first | exact List.mem_append_right _ h | exact List.mem_append_left _ (List.mem_append_right _ h) | exact List.mem_append_left _ (List.mem_append_left _ (List.mem_append_right _ h)))) (by decide +kernel) (by decide +kernel) dX0_requireWithin_10 dX0_requireWithin_13 dX0_requireWithin_14 dX0_requireWithin_16 dX0_requireWithin_19 (by show _ = zEx _; rw [e_X0_requireWithin, if_neg c_2_0, if_neg c_7_1]; rfl)
set_option maxHeartbeats 4000000 in
set_option maxRecDepth 100000 in
theorem c_X0_bitOf (l : Launch) (D : va_G) (tys : List (ClassId × FieldType)) (w0 : va_W) (p1 : Int32)  : zMi l yX0_bitOf wsX0_bitOf ({ frames := 0, cells := 0, slots := 0, locals := 0 } : Room) zTT D tys w0 [.int p1] (fun (r : Int32) (_ : Unit) => r = r_X0_bitOf p1) (fun _ => w0) 0 0 := by
  refine z_startI (cc := cX0_bitOf) (n := 1) (own := RX0) (L0 := [(0, .int p1)]) (plainFor_of_name (by decide)) rfl rfl (Nat.le_of_ble_eq_true rfl) rfl (fun E hret => ?_)
  refine z_iconst (v := 1) dX0_bitOf_0 rfl ?_
  refine z_iload_n 0 dX0_bitOf_1 rfl ?_
  refine z_ishl dX0_bitOf_2 ?_
  exact hret _ () _ _ _ dX0_bitOf_3 (by rw [r_X0_bitOf]) rfl
set_option maxHeartbeats 4000000 in
set_option maxRecDepth 100000 in
theorem c_X0_has (l : Launch) (D : va_G) (tys : List (ClassId × FieldType)) (w0 : va_W) (p1 p2 : Int32)  : zMi l yX0_has wsX0_has ({ frames := 1, cells := 0, slots := 0, locals := 20 } : Room) zTT D tys w0 [.int p1, .int p2] (fun (r : Int32) (_ : Unit) => r = r_X0_has p1 p2) (fun _ => w0) 0 0 := by
  refine z_startZ (cc := cX0_has) (n := 2) (own := RX0) (L0 := [(0, .int p1), (1, .int p2)]) (plainFor_of_name (by decide)) rfl rfl (Nat.le_of_ble_eq_true rfl) rfl (fun E hret => ?_)
  refine z_iload_n 0 dX0_has_0 rfl ?_
  refine z_iload_n 1 dX0_has_1 rfl ?_
  refine z_callSi (As := [.int p2]) (st := [.int p1]) (fun l => c_X0_bitOf l D _ _ p2) zGok_TT (fun _ _ _ => trivial) (fun s args hts => va_cwS 1 hts gX0_has_X0_bitOf rfl rfl rfl (by decide +kernel) ⟨Nat.le_of_ble_eq_true rfl, Nat.le_of_ble_eq_true rfl⟩) rfl (Nat.le_of_ble_eq_true rfl) ⟨Nat.le_of_ble_eq_true rfl, Nat.le_of_ble_eq_true rfl⟩ dX0_has_2 rfl (fun r u2 hp => ?_)
  subst hp
  refine z_iand dX0_has_5 ?_
  refine z_if_eq 13 dX0_has_6 (by decide) (fun c_6_0 => ?_) (fun c_6_0 => ?_)
  ·
    refine z_iconst (v := 0) dX0_has_13 rfl ?_
    exact hret _ () _ _ _ dX0_has_14 (by rw [r_X0_has, if_pos c_6_0]) rfl rfl
  ·
    refine z_iconst (v := 1) dX0_has_9 rfl ?_
    refine z_goto 14 dX0_has_10 (by decide) ?_
    exact hret _ () _ _ _ dX0_has_14 (by rw [r_X0_has, if_neg c_6_0]) rfl rfl
set_option maxHeartbeats 4000000 in
set_option maxRecDepth 100000 in
theorem c_X0_changed (l : Launch) (D : va_G) (tys : List (ClassId × FieldType)) (w0 : va_W) (p1 p2 p3 : Int32)  : zMi l yX0_changed wsX0_changed ({ frames := 1, cells := 0, slots := 0, locals := 20 } : Room) zTT D tys w0 [.int p1, .int p2, .int p3] (fun (r : Int32) (_ : Unit) => r = r_X0_changed p1 p2 p3) (fun _ => w0) 0 0 := by
  refine z_startI (cc := cX0_changed) (n := 3) (own := RX0) (L0 := [(0, .int p1), (1, .int p2), (2, .int p3)]) (plainFor_of_name (by decide)) rfl rfl (Nat.le_of_ble_eq_true rfl) rfl (fun E hret => ?_)
  refine z_iload_n 2 dX0_changed_0 rfl ?_
  refine z_if_eq 13 dX0_changed_1 (by decide) (fun c_1_0 => ?_) (fun c_1_0 => ?_)
  ·
    refine z_iload_n 0 dX0_changed_13 rfl ?_
    refine z_iload_n 1 dX0_changed_14 rfl ?_
    refine z_callSi (As := [.int p2]) (st := [.int p1]) (fun l => c_X0_bitOf l D _ _ p2) zGok_TT (fun _ _ _ => trivial) (fun s args hts => va_cwS 1 hts gX0_changed_X0_bitOf rfl rfl rfl (by decide +kernel) ⟨Nat.le_of_ble_eq_true rfl, Nat.le_of_ble_eq_true rfl⟩) rfl (Nat.le_of_ble_eq_true rfl) ⟨Nat.le_of_ble_eq_true rfl, Nat.le_of_ble_eq_true rfl⟩ dX0_changed_15 rfl (fun r u2 hp => ?_)
    subst hp
    refine z_iconst (v := (-1)) dX0_changed_18 rfl ?_
    refine z_ixor dX0_changed_19 ?_
    refine z_iand dX0_changed_20 ?_
    exact hret _ () _ _ _ dX0_changed_21 (by rw [r_X0_changed, if_pos c_1_0]) rfl
  ·
    refine z_iload_n 0 dX0_changed_4 rfl ?_
    refine z_iload_n 1 dX0_changed_5 rfl ?_
    refine z_callSi (As := [.int p2]) (st := [.int p1]) (fun l => c_X0_bitOf l D _ _ p2) zGok_TT (fun _ _ _ => trivial) (fun s args hts => va_cwS 1 hts gX0_changed_X0_bitOf rfl rfl rfl (by decide +kernel) ⟨Nat.le_of_ble_eq_true rfl, Nat.le_of_ble_eq_true rfl⟩) rfl (Nat.le_of_ble_eq_true rfl) ⟨Nat.le_of_ble_eq_true rfl, Nat.le_of_ble_eq_true rfl⟩ dX0_changed_6 rfl (fun r u2 hp => ?_)
    subst hp
    refine z_ior dX0_changed_9 ?_
    refine z_goto 21 dX0_changed_10 (by decide) ?_
    exact hret _ () _ _ _ dX0_changed_21 (by rw [r_X0_changed, if_neg c_1_0]) rfl
set_option maxHeartbeats 4000000 in
set_option maxRecDepth 100000 in
theorem c_X0_placeOf (l : Launch) (D : va_G) (tys : List (ClassId × FieldType)) (w0 : va_W) (p1 p2 : Int32)  : zMi l yX0_placeOf wsX0_placeOf ({ frames := 0, cells := 0, slots := 0, locals := 0 } : Room) zTT D tys w0 [.int p1, .int p2] (fun (r : Int32) (_ : Unit) => r = r_X0_placeOf p1 p2) (fun _ => w0) 0 0 := by
  refine z_startI (cc := cX0_placeOf) (n := 2) (own := RX0) (L0 := [(0, .int p1), (1, .int p2)]) (plainFor_of_name (by decide)) rfl rfl (Nat.le_of_ble_eq_true rfl) rfl (fun E hret => ?_)
  refine z_iload_n 0 dX0_placeOf_0 rfl ?_
  refine z_bipush (v := 10) dX0_placeOf_1 rfl ?_
  refine z_imul dX0_placeOf_3 ?_
  refine z_iload_n 1 dX0_placeOf_4 rfl ?_
  refine z_iadd dX0_placeOf_5 ?_
  exact hret _ () _ _ _ dX0_placeOf_6 (by rw [r_X0_placeOf]) rfl
set_option maxHeartbeats 4000000 in
set_option maxRecDepth 100000 in
theorem c_X0_requireDevice (l : Launch) (D : va_G) (cI cZ : ClassId) (h : Nat) (a : Nat → Nat) (u : SX) (p1 : Int32) (he : e_X0_requireDevice u p1 = 0)  : zMv l yX0_requireDevice wsX0_requireDevice ({ frames := 0, cells := 0, slots := 0, locals := 0 } : Room) zTT D [(cI, .int), (cZ, .boolean)] (wX0 cI cZ h a u) [.ref h, .int p1] (fun _ : Unit => True) (fun _ => (wX0 cI cZ h a u)) 0 0 := by
  refine z_startV (cc := cX0_requireDevice) (n := 2) (own := RX0) (L0 := [(0, .ref h), (1, .int p1)]) (plainFor_of_name (by decide)) rfl rfl (Nat.le_of_ble_eq_true rfl) rfl (fun E hret => ?_)
  refine z_iload_n 1 dX0_requireDevice_0 rfl ?_
  refine z_if_lt 12 dX0_requireDevice_1 (by decide) (fun c_1_0 => ?_) (fun c_1_0 => ?_)
  ·
    exact absurd he (by rw [e_X0_requireDevice, if_pos c_1_0]; decide)
  ·
    refine z_iload_n 1 dX0_requireDevice_4 rfl ?_
    refine z_aload_n 0 dX0_requireDevice_5 rfl ?_
    refine z_get (C := RX0) (T := TX0) (N := 19) (v := .int (u.1 10)) inwX0_requireDevice 0 rfl rfl 10 (by decide) (List.mem_of_getElem? (i := 3) rfl) rfl rfl dX0_requireDevice_6 ?_
    refine z_icmp_lt 22 dX0_requireDevice_9 (by decide) (fun c_9_1 => ?_) (fun c_9_1 => ?_)
    ·
      exact hret () _ _ _ dX0_requireDevice_22 trivial rfl
    ·
      exact absurd he (by rw [e_X0_requireDevice, if_neg c_1_0, if_neg c_9_1]; decide)
set_option maxHeartbeats 4000000 in
set_option maxRecDepth 100000 in
theorem t_X0_requireDevice (l : Launch) (hlt : l.stackTraces = false) (D : va_G) (cI cZ : ClassId) (h : Nat) (a : Nat → Nat) (u : SX) (p1 : Int32) (he : e_X0_requireDevice u p1 ≠ 0)  : zMx l yX0_requireDevice wsX0_requireDevice ({ frames := 6, cells := 1, slots := 6, locals := 82 } : Room) D [(cI, .int), (cZ, .boolean)] (wX0 cI cZ h a u) [.ref h, .int p1] (fun E' => E' = zEx (e_X0_requireDevice u p1)) := by
  refine z_startX (cc := cX0_requireDevice) (n := 2) (own := RX0) (L0 := [(0, .ref h), (1, .int p1)]) hlt (by decide) rfl rfl (Nat.le_of_ble_eq_true rfl) rfl ⟨Nat.le_of_ble_eq_true rfl, Nat.le_of_ble_eq_true rfl⟩ (fun E hlt hthr hthrow => ?_)
  refine z_iload_n 1 dX0_requireDevice_0 rfl ?_
  refine z_if_lt 12 dX0_requireDevice_1 (by decide) (fun c_1_0 => ?_) (fun c_1_0 => ?_)
  ·
    exact hthrow 12 _ "java/lang/IndexOutOfBoundsException" "there is no such device" 166 168 170 (by decide) (by decide) (by decide +kernel) (List.mem_of_getElem? (i := 1) rfl) (List.mem_of_getElem? (i := 2) rfl) rfl (by decide) (fun w h => List.mem_cons_of_mem _ (by first | exact List.mem_append_right _ h | exact List.mem_append_left _ (List.mem_append_right _ h) | exact List.mem_append_left _ (List.mem_append_left _ (List.mem_append_right _ h)))) (by decide +kernel) (by decide +kernel) dX0_requireDevice_12 dX0_requireDevice_15 dX0_requireDevice_16 dX0_requireDevice_18 dX0_requireDevice_21 (by show _ = zEx _; rw [e_X0_requireDevice, if_pos c_1_0]; rfl)
  ·
    refine z_iload_n 1 dX0_requireDevice_4 rfl ?_
    refine z_aload_n 0 dX0_requireDevice_5 rfl ?_
    refine z_get (C := RX0) (T := TX0) (N := 19) (v := .int (u.1 10)) inwX0_requireDevice 0 rfl rfl 10 (by decide) (List.mem_of_getElem? (i := 3) rfl) rfl rfl dX0_requireDevice_6 ?_
    refine z_icmp_lt 22 dX0_requireDevice_9 (by decide) (fun c_9_1 => ?_) (fun c_9_1 => ?_)
    ·
      exact absurd (by rw [e_X0_requireDevice, if_neg c_1_0, if_pos c_9_1]) he
    ·
      exact hthrow 12 _ "java/lang/IndexOutOfBoundsException" "there is no such device" 166 168 170 (by decide) (by decide) (by decide +kernel) (List.mem_of_getElem? (i := 1) rfl) (List.mem_of_getElem? (i := 2) rfl) rfl (by decide) (fun w h => List.mem_cons_of_mem _ (by first | exact List.mem_append_right _ h | exact List.mem_append_left _ (List.mem_append_right _ h) | exact List.mem_append_left _ (List.mem_append_left _ (List.mem_append_right _ h)))) (by decide +kernel) (by decide +kernel) dX0_requireDevice_12 dX0_requireDevice_15 dX0_requireDevice_16 dX0_requireDevice_18 dX0_requireDevice_21 (by show _ = zEx _; rw [e_X0_requireDevice, if_neg c_1_0, if_neg c_9_1]; rfl)
set_option maxHeartbeats 4000000 in
set_option maxRecDepth 100000 in
theorem c_X0_requireNotice (l : Launch) (D : va_G) (cI cZ : ClassId) (h : Nat) (a : Nat → Nat) (u : SX) (p1 : Int32) (he : e_X0_requireNotice u p1 = 0)  : zMv l yX0_requireNotice wsX0_requireNotice ({ frames := 0, cells := 0, slots := 0, locals := 0 } : Room) zTT D [(cI, .int), (cZ, .boolean)] (wX0 cI cZ h a u) [.ref h, .int p1] (fun _ : Unit => True) (fun _ => (wX0 cI cZ h a u)) 0 0 := by
  refine z_startV (cc := cX0_requireNotice) (n := 2) (own := RX0) (L0 := [(0, .ref h), (1, .int p1)]) (plainFor_of_name (by decide)) rfl rfl (Nat.le_of_ble_eq_true rfl) rfl (fun E hret => ?_)
  refine z_iload_n 1 dX0_requireNotice_0 rfl ?_
  refine z_if_lt 12 dX0_requireNotice_1 (by decide) (fun c_1_0 => ?_) (fun c_1_0 => ?_)
  ·
    exact absurd he (by rw [e_X0_requireNotice, if_pos c_1_0]; decide)
  ·
    refine z_iload_n 1 dX0_requireNotice_4 rfl ?_
    refine z_aload_n 0 dX0_requireNotice_5 rfl ?_
    refine z_get (C := RX0) (T := TX0) (N := 19) (v := .int (u.1 16)) inwX0_requireNotice 0 rfl rfl 16 (by decide) (List.mem_of_getElem? (i := 3) rfl) rfl rfl dX0_requireNotice_6 ?_
    refine z_icmp_lt 22 dX0_requireNotice_9 (by decide) (fun c_9_1 => ?_) (fun c_9_1 => ?_)
    ·
      exact hret () _ _ _ dX0_requireNotice_22 trivial rfl
    ·
      exact absurd he (by rw [e_X0_requireNotice, if_neg c_1_0, if_neg c_9_1]; decide)
set_option maxHeartbeats 4000000 in
set_option maxRecDepth 100000 in
theorem t_X0_requireNotice (l : Launch) (hlt : l.stackTraces = false) (D : va_G) (cI cZ : ClassId) (h : Nat) (a : Nat → Nat) (u : SX) (p1 : Int32) (he : e_X0_requireNotice u p1 ≠ 0)  : zMx l yX0_requireNotice wsX0_requireNotice ({ frames := 6, cells := 1, slots := 6, locals := 82 } : Room) D [(cI, .int), (cZ, .boolean)] (wX0 cI cZ h a u) [.ref h, .int p1] (fun E' => E' = zEx (e_X0_requireNotice u p1)) := by
  refine z_startX (cc := cX0_requireNotice) (n := 2) (own := RX0) (L0 := [(0, .ref h), (1, .int p1)]) hlt (by decide) rfl rfl (Nat.le_of_ble_eq_true rfl) rfl ⟨Nat.le_of_ble_eq_true rfl, Nat.le_of_ble_eq_true rfl⟩ (fun E hlt hthr hthrow => ?_)
  refine z_iload_n 1 dX0_requireNotice_0 rfl ?_
  refine z_if_lt 12 dX0_requireNotice_1 (by decide) (fun c_1_0 => ?_) (fun c_1_0 => ?_)
  ·
    exact hthrow 12 _ "java/lang/IndexOutOfBoundsException" "there is no such notice" 166 171 170 (by decide) (by decide) (by decide +kernel) (List.mem_of_getElem? (i := 1) rfl) (List.mem_of_getElem? (i := 2) rfl) rfl (by decide) (fun w h => List.mem_cons_of_mem _ (by first | exact List.mem_append_right _ h | exact List.mem_append_left _ (List.mem_append_right _ h) | exact List.mem_append_left _ (List.mem_append_left _ (List.mem_append_right _ h)))) (by decide +kernel) (by decide +kernel) dX0_requireNotice_12 dX0_requireNotice_15 dX0_requireNotice_16 dX0_requireNotice_18 dX0_requireNotice_21 (by show _ = zEx _; rw [e_X0_requireNotice, if_pos c_1_0]; rfl)
  ·
    refine z_iload_n 1 dX0_requireNotice_4 rfl ?_
    refine z_aload_n 0 dX0_requireNotice_5 rfl ?_
    refine z_get (C := RX0) (T := TX0) (N := 19) (v := .int (u.1 16)) inwX0_requireNotice 0 rfl rfl 16 (by decide) (List.mem_of_getElem? (i := 3) rfl) rfl rfl dX0_requireNotice_6 ?_
    refine z_icmp_lt 22 dX0_requireNotice_9 (by decide) (fun c_9_1 => ?_) (fun c_9_1 => ?_)
    ·
      exact absurd (by rw [e_X0_requireNotice, if_neg c_1_0, if_pos c_9_1]) he
    ·
      exact hthrow 12 _ "java/lang/IndexOutOfBoundsException" "there is no such notice" 166 171 170 (by decide) (by decide) (by decide +kernel) (List.mem_of_getElem? (i := 1) rfl) (List.mem_of_getElem? (i := 2) rfl) rfl (by decide) (fun w h => List.mem_cons_of_mem _ (by first | exact List.mem_append_right _ h | exact List.mem_append_left _ (List.mem_append_right _ h) | exact List.mem_append_left _ (List.mem_append_left _ (List.mem_append_right _ h)))) (by decide +kernel) (by decide +kernel) dX0_requireNotice_12 dX0_requireNotice_15 dX0_requireNotice_16 dX0_requireNotice_18 dX0_requireNotice_21 (by show _ = zEx _; rw [e_X0_requireNotice, if_neg c_1_0, if_neg c_9_1]; rfl)
set_option maxHeartbeats 4000000 in
set_option maxRecDepth 100000 in
theorem c_X0_requireRoomForNotice (l : Launch) (D : va_G) (cI cZ : ClassId) (h : Nat) (a : Nat → Nat) (u : SX)  (he : e_X0_requireRoomForNotice u = 0)  : zMv l yX0_requireRoomForNotice wsX0_requireRoomForNotice ({ frames := 0, cells := 0, slots := 0, locals := 0 } : Room) zTT D [(cI, .int), (cZ, .boolean)] (wX0 cI cZ h a u) [.ref h] (fun _ : Unit => True) (fun _ => (wX0 cI cZ h a u)) 0 0 := by
  refine z_startV (cc := cX0_requireRoomForNotice) (n := 1) (own := RX0) (L0 := [(0, .ref h)]) (plainFor_of_name (by decide)) rfl rfl (Nat.le_of_ble_eq_true rfl) rfl (fun E hret => ?_)
  refine z_aload_n 0 dX0_requireRoomForNotice_0 rfl ?_
  refine z_get (C := RX0) (T := TX0) (N := 19) (v := .int (u.1 16)) inwX0_requireRoomForNotice 0 rfl rfl 16 (by decide) (List.mem_of_getElem? (i := 3) rfl) rfl rfl dX0_requireRoomForNotice_1 ?_
  refine z_bipush (v := 120) dX0_requireRoomForNotice_4 rfl ?_
  refine z_icmp_lt 19 dX0_requireRoomForNotice_6 (by decide) (fun c_6_0 => ?_) (fun c_6_0 => ?_)
  ·
    exact hret () _ _ _ dX0_requireRoomForNotice_19 trivial rfl
  ·
    exact absurd he (by rw [e_X0_requireRoomForNotice, if_neg c_6_0]; decide)
set_option maxHeartbeats 4000000 in
set_option maxRecDepth 100000 in
theorem t_X0_requireRoomForNotice (l : Launch) (hlt : l.stackTraces = false) (D : va_G) (cI cZ : ClassId) (h : Nat) (a : Nat → Nat) (u : SX)  (he : e_X0_requireRoomForNotice u ≠ 0)  : zMx l yX0_requireRoomForNotice wsX0_requireRoomForNotice ({ frames := 6, cells := 1, slots := 6, locals := 82 } : Room) D [(cI, .int), (cZ, .boolean)] (wX0 cI cZ h a u) [.ref h] (fun E' => E' = zEx (e_X0_requireRoomForNotice u)) := by
  refine z_startX (cc := cX0_requireRoomForNotice) (n := 1) (own := RX0) (L0 := [(0, .ref h)]) hlt (by decide) rfl rfl (Nat.le_of_ble_eq_true rfl) rfl ⟨Nat.le_of_ble_eq_true rfl, Nat.le_of_ble_eq_true rfl⟩ (fun E hlt hthr hthrow => ?_)
  refine z_aload_n 0 dX0_requireRoomForNotice_0 rfl ?_
  refine z_get (C := RX0) (T := TX0) (N := 19) (v := .int (u.1 16)) inwX0_requireRoomForNotice 0 rfl rfl 16 (by decide) (List.mem_of_getElem? (i := 3) rfl) rfl rfl dX0_requireRoomForNotice_1 ?_
  refine z_bipush (v := 120) dX0_requireRoomForNotice_4 rfl ?_
  refine z_icmp_lt 19 dX0_requireRoomForNotice_6 (by decide) (fun c_6_0 => ?_) (fun c_6_0 => ?_)
  ·
    exact absurd (by rw [e_X0_requireRoomForNotice, if_pos c_6_0]) he
  ·
    exact hthrow 9 _ "java/lang/IllegalStateException" "120 notices have been sent" 73 173 77 (by decide) (by decide) (by decide +kernel) (List.mem_of_getElem? (i := 1) rfl) (List.mem_of_getElem? (i := 2) rfl) rfl (by decide) (fun w h => List.mem_cons_of_mem _ (by first | exact List.mem_append_right _ h | exact List.mem_append_left _ (List.mem_append_right _ h) | exact List.mem_append_left _ (List.mem_append_left _ (List.mem_append_right _ h)))) (by decide +kernel) (by decide +kernel) dX0_requireRoomForNotice_9 dX0_requireRoomForNotice_12 dX0_requireRoomForNotice_13 dX0_requireRoomForNotice_15 dX0_requireRoomForNotice_18 (by show _ = zEx _; rw [e_X0_requireRoomForNotice, if_neg c_6_0]; rfl)
set_option maxHeartbeats 4000000 in
set_option maxRecDepth 100000 in
theorem c_X0_localTime (l : Launch) (D : va_G) (cI cZ : ClassId) (h : Nat) (a : Nat → Nat) (u : SX) (p1 : Int32) (hp1 : vp_in p1 16) : zMi l yX0_localTime wsX0_localTime ({ frames := 1, cells := 0, slots := 0, locals := 22 } : Room) zTT D [(cI, .int), (cZ, .boolean)] (wX0 cI cZ h a u) [.ref h, .int p1] (fun (r : Int32) (_ : Unit) => r = r_X0_localTime u p1) (fun _ => (wX0 cI cZ h a u)) 0 0 := by
  refine z_startI (cc := cX0_localTime) (n := 2) (own := RX0) (L0 := [(0, .ref h), (1, .int p1)]) (plainFor_of_name (by decide)) rfl rfl (Nat.le_of_ble_eq_true rfl) rfl (fun E hret => ?_)
  refine z_aload_n 0 dX0_localTime_0 rfl ?_
  refine z_get (C := RX0) (T := TX0) (N := 19) (v := .int (u.1 17)) inwX0_localTime 0 rfl rfl 17 (by decide) (List.mem_of_getElem? (i := 1) rfl) rfl rfl dX0_localTime_1 ?_
  refine z_aload_n 0 dX0_localTime_4 rfl ?_
  refine z_get (C := RX0) (T := TX0) (N := 19) (v := .ref (a 5)) inwX0_localTime 0 rfl rfl 5 (by decide) (List.mem_of_getElem? (i := 2) rfl) rfl rfl dX0_localTime_5 ?_
  refine z_iload_n 1 dX0_localTime_8 rfl ?_
  refine z_iald (v := (u.2 5 (ix p1))) 3 0 rfl rfl (by first | (with_reducible assumption) | assumption | decide) rfl dX0_localTime_9 ?_
  refine z_iadd dX0_localTime_10 ?_
  refine z_sipush (v := 1440) dX0_localTime_11 rfl ?_
  refine z_callSi (As := [.int ((u.1 17) + (u.2 5 (ix p1))), .int 1440]) (st := []) (fun l => c_J9_floorMod_7cf53 l D _ _ ((u.1 17) + (u.2 5 (ix p1))) 1440 (by first | (with_reducible assumption) | assumption | decide)) zGok_TT (fun _ _ _ => trivial) (fun s args hts => va_cwS 2 hts gX0_localTime_J9_floorMod_7cf53 rfl rfl rfl (by decide +kernel) ⟨Nat.le_of_ble_eq_true rfl, Nat.le_of_ble_eq_true rfl⟩) rfl (Nat.le_of_ble_eq_true rfl) ⟨Nat.le_of_ble_eq_true rfl, Nat.le_of_ble_eq_true rfl⟩ dX0_localTime_14 rfl (fun r u2 hp => ?_)
  subst hp
  exact hret _ () _ _ _ dX0_localTime_17 (by rw [r_X0_localTime]) rfl
set_option maxHeartbeats 4000000 in
set_option maxRecDepth 100000 in
theorem c_X0_isInQuietHours (l : Launch) (D : va_G) (cI cZ : ClassId) (h : Nat) (a : Nat → Nat) (u : SX) (p1 : Int32) (hp1 : vp_in p1 16) : zMi l yX0_isInQuietHours wsX0_isInQuietHours ({ frames := 2, cells := 0, slots := 0, locals := 43 } : Room) zTT D [(cI, .int), (cZ, .boolean)] (wX0 cI cZ h a u) [.ref h, .int p1] (fun (r : Int32) (_ : Unit) => r = r_X0_isInQuietHours u p1) (fun _ => (wX0 cI cZ h a u)) 0 0 := by
  refine z_startZ (cc := cX0_isInQuietHours) (n := 4) (own := RX0) (L0 := [(0, .ref h), (1, .int p1)]) (plainFor_of_name (by decide)) rfl rfl (Nat.le_of_ble_eq_true rfl) rfl (fun E hret => ?_)
  refine z_aload_n 0 dX0_isInQuietHours_0 rfl ?_
  refine z_iload_n 1 dX0_isInQuietHours_1 rfl ?_
  refine z_callVi (As := [.int p1]) (st := []) (fun l => c_X0_localTime l D cI cZ h a u p1 (by first | (with_reducible assumption) | assumption | decide)) zGok_TT (fun _ _ _ => trivial) (fun s args hts => cwV 1 hts gX0_isInQuietHours_X0_localTime rfl rfl rfl (by decide +kernel) ⟨Nat.le_of_ble_eq_true rfl, Nat.le_of_ble_eq_true rfl⟩) (ci := 0) rfl rfl rfl rfl (Nat.le_of_ble_eq_true rfl) ⟨Nat.le_of_ble_eq_true rfl, Nat.le_of_ble_eq_true rfl⟩ dX0_isInQuietHours_2 rfl (fun r u2 hp => ?_)
  subst hp
  refine z_aload_n 0 dX0_isInQuietHours_5 rfl ?_
  refine z_get (C := RX0) (T := TX0) (N := 19) (v := .ref (a 6)) inwX0_isInQuietHours 0 rfl rfl 6 (by decide) (List.mem_of_getElem? (i := 1) rfl) rfl rfl dX0_isInQuietHours_6 ?_
  refine z_iload_n 1 dX0_isInQuietHours_9 rfl ?_
  refine z_iald (v := (u.2 6 (ix p1))) 4 0 rfl rfl (by first | (with_reducible assumption) | assumption | decide) rfl dX0_isInQuietHours_10 ?_
  refine z_isub dX0_isInQuietHours_11 ?_
  refine z_sipush (v := 1440) dX0_isInQuietHours_12 rfl ?_
  refine z_callSi (As := [.int ((r_X0_localTime u p1) - (u.2 6 (ix p1))), .int 1440]) (st := []) (fun l => c_J9_floorMod_7cf53 l D _ _ ((r_X0_localTime u p1) - (u.2 6 (ix p1))) 1440 (by first | (with_reducible assumption) | assumption | decide)) zGok_TT (fun _ _ _ => trivial) (fun s args hts => va_cwS 2 hts gX0_isInQuietHours_J9_floorMod_7cf53 rfl rfl rfl (by decide +kernel) ⟨Nat.le_of_ble_eq_true rfl, Nat.le_of_ble_eq_true rfl⟩) rfl (Nat.le_of_ble_eq_true rfl) ⟨Nat.le_of_ble_eq_true rfl, Nat.le_of_ble_eq_true rfl⟩ dX0_isInQuietHours_15 rfl (fun r u2 hp => ?_)
  subst hp
  refine z_istore_n (L' := [(2, .int (r_J9_floorMod_7cf53 ((r_X0_localTime u p1) - (u.2 6 (ix p1))) 1440)), (0, .ref h), (1, .int p1)]) dX0_isInQuietHours_18 (by decide) rfl ?_
  refine z_aload_n 1 dX0_isInQuietHours_19 rfl ?_
  refine z_get (C := RX0) (T := TX0) (N := 19) (v := .ref (a 7)) inwX0_isInQuietHours 0 rfl rfl 7 (by decide) (List.mem_of_getElem? (i := 2) rfl) rfl rfl dX0_isInQuietHours_20 ?_
  refine z_iload_n 2 dX0_isInQuietHours_23 rfl ?_
  refine z_iald (v := (u.2 7 (ix p1))) 5 0 rfl rfl (by first | (with_reducible assumption) | assumption | decide) rfl dX0_isInQuietHours_24 ?_
  refine z_aload_n 1 dX0_isInQuietHours_25 rfl ?_
  refine z_get (C := RX0) (T := TX0) (N := 19) (v := .ref (a 6)) inwX0_isInQuietHours 0 rfl rfl 6 (by decide) (List.mem_of_getElem? (i := 1) rfl) rfl rfl dX0_isInQuietHours_26 ?_
  refine z_iload_n 2 dX0_isInQuietHours_29 rfl ?_
  refine z_iald (v := (u.2 6 (ix p1))) 4 0 rfl rfl (by first | (with_reducible assumption) | assumption | decide) rfl dX0_isInQuietHours_30 ?_
  refine z_isub dX0_isInQuietHours_31 ?_
  refine z_sipush (v := 1440) dX0_isInQuietHours_32 rfl ?_
  refine z_callSi (As := [.int ((u.2 7 (ix p1)) - (u.2 6 (ix p1))), .int 1440]) (st := []) (fun l => c_J9_floorMod_7cf53 l D _ _ ((u.2 7 (ix p1)) - (u.2 6 (ix p1))) 1440 (by first | (with_reducible assumption) | assumption | decide)) zGok_TT (fun _ _ _ => trivial) (fun s args hts => va_cwS 2 hts gX0_isInQuietHours_J9_floorMod_7cf53 rfl rfl rfl (by decide +kernel) ⟨Nat.le_of_ble_eq_true rfl, Nat.le_of_ble_eq_true rfl⟩) rfl (Nat.le_of_ble_eq_true rfl) ⟨Nat.le_of_ble_eq_true rfl, Nat.le_of_ble_eq_true rfl⟩ dX0_isInQuietHours_35 rfl (fun r u2 hp => ?_)
  subst hp
  refine z_istore_n (L' := [(3, .int (r_J9_floorMod_7cf53 ((u.2 7 (ix p1)) - (u.2 6 (ix p1))) 1440)), (2, .int (r_J9_floorMod_7cf53 ((r_X0_localTime u p1) - (u.2 6 (ix p1))) 1440)), (0, .ref h), (1, .int p1)]) dX0_isInQuietHours_38 (by decide) rfl ?_
  refine z_iload_n 1 dX0_isInQuietHours_39 rfl ?_
  refine z_iload_n 0 dX0_isInQuietHours_40 rfl ?_
  refine z_icmp_ge 48 dX0_isInQuietHours_41 (by decide) (fun c_41_0 => ?_) (fun c_41_0 => ?_)
  ·
    refine z_iconst (v := 0) dX0_isInQuietHours_48 rfl ?_
    exact hret _ () _ _ _ dX0_isInQuietHours_49 (by rw [r_X0_isInQuietHours, if_pos c_41_0]) rfl rfl
  ·
    refine z_iconst (v := 1) dX0_isInQuietHours_44 rfl ?_
    refine z_goto 49 dX0_isInQuietHours_45 (by decide) ?_
    exact hret _ () _ _ _ dX0_isInQuietHours_49 (by rw [r_X0_isInQuietHours, if_neg c_41_0]) rfl rfl
set_option maxHeartbeats 4000000 in
set_option maxRecDepth 100000 in
theorem c_X0_spentToday (l : Launch) (D : va_G) (cI cZ : ClassId) (h : Nat) (a : Nat → Nat) (u : SX) (p1 : Int32) (hp1 : vp_in p1 16) : zMi l yX0_spentToday wsX0_spentToday ({ frames := 0, cells := 0, slots := 0, locals := 0 } : Room) zTT D [(cI, .int), (cZ, .boolean)] (wX0 cI cZ h a u) [.ref h, .int p1] (fun (r : Int32) (_ : Unit) => r = r_X0_spentToday u p1) (fun _ => (wX0 cI cZ h a u)) 0 0 := by
  refine z_startI (cc := cX0_spentToday) (n := 2) (own := RX0) (L0 := [(0, .ref h), (1, .int p1)]) (plainFor_of_name (by decide)) rfl rfl (Nat.le_of_ble_eq_true rfl) rfl (fun E hret => ?_)
  refine z_aload_n 0 dX0_spentToday_0 rfl ?_
  refine z_get (C := RX0) (T := TX0) (N := 19) (v := .ref (a 8)) inwX0_spentToday 0 rfl rfl 8 (by decide) (List.mem_of_getElem? (i := 1) rfl) rfl rfl dX0_spentToday_1 ?_
  refine z_iload_n 1 dX0_spentToday_4 rfl ?_
  refine z_iald (v := (u.2 8 (ix p1))) 6 0 rfl rfl (by first | (with_reducible assumption) | assumption | decide) rfl dX0_spentToday_5 ?_
  refine z_aload_n 0 dX0_spentToday_6 rfl ?_
  refine z_get (C := RX0) (T := TX0) (N := 19) (v := .int (u.1 17)) inwX0_spentToday 0 rfl rfl 17 (by decide) (List.mem_of_getElem? (i := 2) rfl) rfl rfl dX0_spentToday_7 ?_
  refine z_sipush (v := 1440) dX0_spentToday_10 rfl ?_
  refine z_idiv dX0_spentToday_13 (by decide) ?_
  refine z_icmp_ne 26 dX0_spentToday_14 (by decide) (fun c_14_0 => ?_) (fun c_14_0 => ?_)
  ·
    refine z_iconst (v := 0) dX0_spentToday_26 rfl ?_
    exact hret _ () _ _ _ dX0_spentToday_27 (by rw [r_X0_spentToday, if_neg c_14_0]) rfl
  ·
    refine z_aload_n 0 dX0_spentToday_17 rfl ?_
    refine z_get (C := RX0) (T := TX0) (N := 19) (v := .ref (a 9)) inwX0_spentToday 0 rfl rfl 9 (by decide) (List.mem_of_getElem? (i := 3) rfl) rfl rfl dX0_spentToday_18 ?_
    refine z_iload_n 1 dX0_spentToday_21 rfl ?_
    refine z_iald (v := (u.2 9 (ix p1))) 7 0 rfl rfl (by first | (with_reducible assumption) | assumption | decide) rfl dX0_spentToday_22 ?_
    refine z_goto 27 dX0_spentToday_23 (by decide) ?_
    exact hret _ () _ _ _ dX0_spentToday_27 (by rw [r_X0_spentToday, if_pos c_14_0]) rfl
set_option maxHeartbeats 4000000 in
set_option maxRecDepth 100000 in
theorem c_X0_isStanding (l : Launch) (D : va_G) (cI cZ : ClassId) (h : Nat) (a : Nat → Nat) (u : SX) (p1 : Int32) (hp1 : vp_in p1 120) : zMi l yX0_isStanding wsX0_isStanding ({ frames := 0, cells := 0, slots := 0, locals := 0 } : Room) zTT D [(cI, .int), (cZ, .boolean)] (wX0 cI cZ h a u) [.ref h, .int p1] (fun (r : Int32) (_ : Unit) => r = r_X0_isStanding u p1) (fun _ => (wX0 cI cZ h a u)) 0 0 := by
  refine z_startZ (cc := cX0_isStanding) (n := 2) (own := RX0) (L0 := [(0, .ref h), (1, .int p1)]) (plainFor_of_name (by decide)) rfl rfl (Nat.le_of_ble_eq_true rfl) rfl (fun E hret => ?_)
  refine z_aload_n 0 dX0_isStanding_0 rfl ?_
  refine z_get (C := RX0) (T := TX0) (N := 19) (v := .int (u.1 17)) inwX0_isStanding 0 rfl rfl 17 (by decide) (List.mem_of_getElem? (i := 1) rfl) rfl rfl dX0_isStanding_1 ?_
  refine z_aload_n 0 dX0_isStanding_4 rfl ?_
  refine z_get (C := RX0) (T := TX0) (N := 19) (v := .ref (a 12)) inwX0_isStanding 0 rfl rfl 12 (by decide) (List.mem_of_getElem? (i := 2) rfl) rfl rfl dX0_isStanding_5 ?_
  refine z_iload_n 1 dX0_isStanding_8 rfl ?_
  refine z_iald (v := (u.2 12 (ix p1))) 9 0 rfl rfl (by first | (with_reducible assumption) | assumption | decide) rfl dX0_isStanding_9 ?_
  refine z_icmp_ge 17 dX0_isStanding_10 (by decide) (fun c_10_0 => ?_) (fun c_10_0 => ?_)
  ·
    refine z_iconst (v := 0) dX0_isStanding_17 rfl ?_
    exact hret _ () _ _ _ dX0_isStanding_18 (by rw [r_X0_isStanding, if_pos c_10_0]) rfl rfl
  ·
    refine z_iconst (v := 1) dX0_isStanding_13 rfl ?_
    refine z_goto 18 dX0_isStanding_14 (by decide) ?_
    exact hret _ () _ _ _ dX0_isStanding_18 (by rw [r_X0_isStanding, if_neg c_10_0]) rfl rfl
set_option maxHeartbeats 4000000 in
set_option maxRecDepth 100000 in
theorem c_X0_waitsNow (l : Launch) (D : va_G) (cI cZ : ClassId) (h : Nat) (a : Nat → Nat) (u : SX) (p1 : Int32) (hp1 : vp_in p1 120) : zMi l yX0_waitsNow wsX0_waitsNow ({ frames := 1, cells := 0, slots := 0, locals := 21 } : Room) zTT D [(cI, .int), (cZ, .boolean)] (wX0 cI cZ h a u) [.ref h, .int p1] (fun (r : Int32) (_ : Unit) => r = r_X0_waitsNow u p1) (fun _ => (wX0 cI cZ h a u)) 0 0 := by
  refine z_startI (cc := cX0_waitsNow) (n := 2) (own := RX0) (L0 := [(0, .ref h), (1, .int p1)]) (plainFor_of_name (by decide)) rfl rfl (Nat.le_of_ble_eq_true rfl) rfl (fun E hret => ?_)
  refine z_aload_n 0 dX0_waitsNow_0 rfl ?_
  refine z_iload_n 1 dX0_waitsNow_1 rfl ?_
  refine z_callVi (As := [.int p1]) (st := []) (fun l => c_X0_isStanding l D cI cZ h a u p1 (by first | (with_reducible assumption) | assumption | decide)) zGok_TT (fun _ _ _ => trivial) (fun s args hts => cwV 1 hts gX0_waitsNow_X0_isStanding rfl rfl rfl (by decide +kernel) ⟨Nat.le_of_ble_eq_true rfl, Nat.le_of_ble_eq_true rfl⟩) (ci := 0) rfl rfl rfl rfl (Nat.le_of_ble_eq_true rfl) ⟨Nat.le_of_ble_eq_true rfl, Nat.le_of_ble_eq_true rfl⟩ dX0_waitsNow_2 rfl (fun r u2 hp => ?_)
  subst hp
  refine z_if_eq 17 dX0_waitsNow_5 (by decide) (fun c_5_0 => ?_) (fun c_5_0 => ?_)
  ·
    refine z_iconst (v := 0) dX0_waitsNow_17 rfl ?_
    exact hret _ () _ _ _ dX0_waitsNow_18 (by rw [r_X0_waitsNow, if_pos c_5_0]) rfl
  ·
    refine z_aload_n 0 dX0_waitsNow_8 rfl ?_
    refine z_get (C := RX0) (T := TX0) (N := 19) (v := .ref (a 13)) inwX0_waitsNow 0 rfl rfl 13 (by decide) (List.mem_of_getElem? (i := 1) rfl) rfl rfl dX0_waitsNow_9 ?_
    refine z_iload_n 1 dX0_waitsNow_12 rfl ?_
    refine z_iald (v := (u.2 13 (ix p1))) 10 0 rfl rfl (by first | (with_reducible assumption) | assumption | decide) rfl dX0_waitsNow_13 ?_
    refine z_goto 18 dX0_waitsNow_14 (by decide) ?_
    exact hret _ () _ _ _ dX0_waitsNow_18 (by rw [r_X0_waitsNow, if_neg c_5_0]) rfl
set_option maxHeartbeats 4000000 in
set_option maxRecDepth 100000 in
theorem c_X0_withdraw (l : Launch) (D : va_G) (cI cZ : ClassId) (h : Nat) (a : Nat → Nat) (u : SX) (p1 : Int32) (hp1 : vp_in p1 120) : zMv l yX0_withdraw wsX0_withdraw ({ frames := 0, cells := 0, slots := 0, locals := 0 } : Room) zTT D [(cI, .int), (cZ, .boolean)] (wX0 cI cZ h a u) [.ref h, .int p1] (fun u2 : SX => u2 = s_X0_withdraw u p1) (fun u2 => (wX0 cI cZ h a u2)) 0 0 := by
  refine z_startV (cc := cX0_withdraw) (n := 2) (own := RX0) (L0 := [(0, .ref h), (1, .int p1)]) (plainFor_of_name (by decide)) rfl rfl (Nat.le_of_ble_eq_true rfl) rfl (fun E hret => ?_)
  refine z_aload_n 0 dX0_withdraw_0 rfl ?_
  refine z_get (C := RX0) (T := TX0) (N := 19) (v := .ref (a 12)) inwX0_withdraw 0 rfl rfl 12 (by decide) (List.mem_of_getElem? (i := 1) rfl) rfl rfl dX0_withdraw_1 ?_
  refine z_iload_n 1 dX0_withdraw_4 rfl ?_
  refine z_aload_n 0 dX0_withdraw_5 rfl ?_
  refine z_get (C := RX0) (T := TX0) (N := 19) (v := .int (u.1 17)) inwX0_withdraw 0 rfl rfl 17 (by decide) (List.mem_of_getElem? (i := 2) rfl) rfl rfl dX0_withdraw_6 ?_
  refine z_iast (w' := (wX0 cI cZ h a (pG u 12 (ix p1) (u.1 17)))) 9 0 rfl rfl (by first | (with_reducible assumption) | assumption | decide) (wX0_g12 _ _ _ _ _ _ _) dX0_withdraw_9 ?_
  exact hret (pG u 12 (ix p1) (u.1 17)) _ _ _ dX0_withdraw_10 (by rw [s_X0_withdraw]) rfl
set_option maxHeartbeats 4000000 in
set_option maxRecDepth 100000 in
theorem c_X0_countWaiting (l : Launch) (D : va_G) (cI cZ : ClassId) (h : Nat) (a : Nat → Nat) (u : SX) (p1 : Int32) (nn : Nat) (hnn : u.1 16 = nI nn) (hn : nn ≤ 120) : zMi l yX0_countWaiting wsX0_countWaiting ({ frames := 2, cells := 0, slots := 0, locals := 42 } : Room) zTT D [(cI, .int), (cZ, .boolean)] (wX0 cI cZ h a u) [.ref h, .int p1] (fun (r : Int32) (_ : Unit) => r = r_X0_countWaiting u p1) (fun _ => (wX0 cI cZ h a u)) 0 0 := by
  refine z_startI (cc := cX0_countWaiting) (n := 4) (own := RX0) (L0 := [(0, .ref h), (1, .int p1)]) (plainFor_of_name (by decide)) rfl rfl (Nat.le_of_ble_eq_true rfl) rfl (fun E hret => ?_)
  have hixnn : ix (u.1 16) = nn := by rw [hnn]; exact nI_clamp (by omega)
  refine z_iconst (v := 0) dX0_countWaiting_0 rfl ?_
  refine z_istore_n (L' := [(2, .int 0), (0, .ref h), (1, .int p1)]) dX0_countWaiting_1 (by decide) rfl ?_
  refine z_iconst (v := 0) dX0_countWaiting_2 rfl ?_
  refine z_istore_n (L' := [(3, .int 0), (2, .int 0), (0, .ref h), (1, .int p1)]) dX0_countWaiting_3 (by decide) rfl ?_
  refine z_sub (L' := [(0, .ref h), (1, .int p1), (2, .int 0), (3, .int 0)]) [2, 3, 1, 0] rfl ?_
  have hloop4 : ∀ r k4 : Nat, k4 + r = nn → ZW E zTT ({ frames := 2, cells := 0, slots := 0, locals := 42 } : Room) cX0_countWaiting RX0 wsX0_countWaiting 4 D [(cI, .int), (cZ, .boolean)] 0 0 (wX0 cI cZ h a u) 4 [(0, .ref h), (1, .int p1), (2, .int (l_X0_countWaiting_4 u p1 k4)), (3, .int (nI k4))] [] := by
    intro r
    induction r with
    | zero =>
      intro k4 hk4
      have hkN4 : nn = k4 := by omega
      subst hkN4
      refine z_iload_n 3 dX0_countWaiting_4 rfl ?_
      refine z_aload_n 0 dX0_countWaiting_5 rfl ?_
      refine z_get (C := RX0) (T := TX0) (N := 19) (v := .int (u.1 16)) inwX0_countWaiting 0 rfl rfl 16 (by decide) (List.mem_of_getElem? (i := 1) rfl) rfl rfl dX0_countWaiting_6 ?_
      refine z_icmp_ge 33 dX0_countWaiting_9 (by decide) (fun c_9_1 => ?_) (fun c_9_1 => ?_)
      ·
        refine z_iload_n 2 dX0_countWaiting_33 rfl ?_
        exact hret _ () _ _ _ dX0_countWaiting_34 (by rw [r_X0_countWaiting, hixnn]) rfl
      · exact absurd (by rw [hnn]; exact nI_le (Nat.le_refl _) (by omega)) c_9_1
    | succ r ih4 =>
      intro k4 hk4
      obtain ⟨x4, hx4⟩ : ∃ x, x = l_X0_countWaiting_4 u p1 k4 := ⟨_, rfl⟩
      rw [← hx4]
      refine z_iload_n 3 dX0_countWaiting_4 rfl ?_
      refine z_aload_n 0 dX0_countWaiting_5 rfl ?_
      refine z_get (C := RX0) (T := TX0) (N := 19) (v := .int (u.1 16)) inwX0_countWaiting 0 rfl rfl 16 (by decide) (List.mem_of_getElem? (i := 1) rfl) rfl rfl dX0_countWaiting_6 ?_
      refine z_icmp_ge 33 dX0_countWaiting_9 (by decide) (fun c_9_0 => ?_) (fun c_9_0 => ?_)
      · exact absurd c_9_0 (by rw [hnn]; exact nI_ge (by omega) (by omega))
      ·
        refine z_aload_n 0 dX0_countWaiting_12 rfl ?_
        refine z_iload_n 3 dX0_countWaiting_13 rfl ?_
        refine z_callVi (As := [.int (nI k4)]) (st := []) (fun l => c_X0_waitsNow l D cI cZ h a u (nI k4) (by first | (with_reducible assumption) | with_reducible exact vp_in_nI (by omega) (by omega) | with_reducible exact znot hnn hn (by assumption) | exact hnn | assumption | decide)) zGok_TT (fun _ _ _ => trivial) (fun s args hts => cwV 1 hts gX0_countWaiting_X0_waitsNow rfl rfl rfl (by decide +kernel) ⟨Nat.le_of_ble_eq_true rfl, Nat.le_of_ble_eq_true rfl⟩) (ci := 0) rfl rfl rfl rfl (Nat.le_of_ble_eq_true rfl) ⟨Nat.le_of_ble_eq_true rfl, Nat.le_of_ble_eq_true rfl⟩ dX0_countWaiting_14 rfl (fun r u2 hp => ?_)
        subst hp
        refine z_iload_n 1 dX0_countWaiting_17 rfl ?_
        refine z_callSi (As := [.int (r_X0_waitsNow u (nI k4)), .int p1]) (st := []) (fun l => c_X0_has l D _ _ (r_X0_waitsNow u (nI k4)) p1) zGok_TT (fun _ _ _ => trivial) (fun s args hts => va_cwS 2 hts gX0_countWaiting_X0_has rfl rfl rfl (by decide +kernel) ⟨Nat.le_of_ble_eq_true rfl, Nat.le_of_ble_eq_true rfl⟩) rfl (Nat.le_of_ble_eq_true rfl) ⟨Nat.le_of_ble_eq_true rfl, Nat.le_of_ble_eq_true rfl⟩ dX0_countWaiting_18 rfl (fun r u2 hp => ?_)
        subst hp
        refine z_if_eq 27 dX0_countWaiting_21 (by decide) (fun c_21_2 => ?_) (fun c_21_2 => ?_)
        ·
          refine z_iinc (v := (nI (k4 + 1))) (L' := [(3, .int (nI (k4 + 1))), (0, .ref h), (1, .int p1), (2, .int x4)]) 3 dX0_countWaiting_27 rfl (nI_1 k4) (by decide) rfl ?_
          refine z_goto 4 dX0_countWaiting_30 (by decide) ?_
          have hb4 : l_X0_countWaiting_4 u p1 (k4 + 1) = x4 := by
            show b_X0_countWaiting_4 u p1 k4 (l_X0_countWaiting_4 u p1 k4) = _
            rw [← hx4, b_X0_countWaiting_4, if_pos c_21_2]
          refine z_sub (L' := [(0, .ref h), (1, .int p1), (2, .int x4), (3, .int (nI (k4 + 1)))]) [1, 2, 3, 0] rfl ?_
          have ih2 := ih4 (k4 + 1) (by omega)
          rw [hb4] at ih2
          exact ih2
        ·
          refine z_iinc (v := (x4 + 1)) (L' := [(2, .int (x4 + 1)), (0, .ref h), (1, .int p1), (3, .int (nI k4))]) 2 dX0_countWaiting_24 rfl rfl (by decide) rfl ?_
          refine z_iinc (v := (nI (k4 + 1))) (L' := [(3, .int (nI (k4 + 1))), (2, .int (x4 + 1)), (0, .ref h), (1, .int p1)]) 3 dX0_countWaiting_27 rfl (nI_1 k4) (by decide) rfl ?_
          refine z_goto 4 dX0_countWaiting_30 (by decide) ?_
          have hb4 : l_X0_countWaiting_4 u p1 (k4 + 1) = (x4 + 1) := by
            show b_X0_countWaiting_4 u p1 k4 (l_X0_countWaiting_4 u p1 k4) = _
            rw [← hx4, b_X0_countWaiting_4, if_neg c_21_2]
          refine z_sub (L' := [(0, .ref h), (1, .int p1), (2, .int (x4 + 1)), (3, .int (nI (k4 + 1)))]) [2, 3, 1, 0] rfl ?_
          have ih2 := ih4 (k4 + 1) (by omega)
          rw [hb4] at ih2
          exact ih2
  exact hloop4 nn 0 (by omega)
set_option maxHeartbeats 4000000 in
set_option maxRecDepth 100000 in
theorem c_X0_spendQuota (l : Launch) (D : va_G) (cI cZ : ClassId) (h : Nat) (a : Nat → Nat) (u : SX) (p1 : Int32) (nd : Nat) (hnd : u.1 10 = nI nd) (hd : nd ≤ 16) : zMv l yX0_spendQuota wsX0_spendQuota ({ frames := 2, cells := 0, slots := 0, locals := 41 } : Room) zTT D [(cI, .int), (cZ, .boolean)] (wX0 cI cZ h a u) [.ref h, .int p1] (fun u2 : SX => u2 = s_X0_spendQuota u p1) (fun u2 => (wX0 cI cZ h a u2)) 0 0 := by
  refine z_startV (cc := cX0_spendQuota) (n := 3) (own := RX0) (L0 := [(0, .ref h), (1, .int p1)]) (plainFor_of_name (by decide)) rfl rfl (Nat.le_of_ble_eq_true rfl) rfl (fun E hret => ?_)
  have hixnd : ix (u.1 10) = nd := by rw [hnd]; exact nI_clamp (by omega)
  refine z_iconst (v := 0) dX0_spendQuota_0 rfl ?_
  refine z_istore_n (L' := [(2, .int 0), (0, .ref h), (1, .int p1)]) dX0_spendQuota_1 (by decide) rfl ?_
  refine z_sub (L' := [(0, .ref h), (1, .int p1), (2, .int 0)]) [1, 2, 0] rfl ?_
  have hloop2 : ∀ r k2 : Nat, k2 + r = nd → ZW E zTT ({ frames := 2, cells := 0, slots := 0, locals := 41 } : Room) cX0_spendQuota RX0 wsX0_spendQuota 3 D [(cI, .int), (cZ, .boolean)] 0 0 (wX0 cI cZ h a (l_X0_spendQuota_2 u p1 k2)) 2 [(0, .ref h), (1, .int p1), (2, .int (nI k2))] [] := by
    intro r
    induction r with
    | zero =>
      intro k2 hk2
      have hkN2 : nd = k2 := by omega
      subst hkN2
      have hbx : ((l_X0_spendQuota_2 u p1 nd).1 10) = nI nd := by first | (rw [hx2, lf_X0_spendQuota_2]; exact hnd) | (rw [lf_X0_spendQuota_2]; exact hnd)
      refine z_iload_n 2 dX0_spendQuota_2 rfl ?_
      refine z_aload_n 0 dX0_spendQuota_3 rfl ?_
      refine z_get (C := RX0) (T := TX0) (N := 19) (v := .int ((l_X0_spendQuota_2 u p1 nd).1 10)) inwX0_spendQuota 0 rfl rfl 10 (by decide) (List.mem_of_getElem? (i := 1) rfl) rfl rfl dX0_spendQuota_4 ?_
      refine z_icmp_ge 51 dX0_spendQuota_7 (by decide) (fun c_7_1 => ?_) (fun c_7_1 => ?_)
      ·
        exact hret (l_X0_spendQuota_2 u p1 nd) _ _ _ dX0_spendQuota_51 (by rw [s_X0_spendQuota, hixnd]) rfl
      · exact absurd (by rw [hbx]; exact nI_le (Nat.le_refl _) (by omega)) c_7_1
    | succ r ih2 =>
      intro k2 hk2
      obtain ⟨x2, hx2⟩ : ∃ x, x = l_X0_spendQuota_2 u p1 k2 := ⟨_, rfl⟩
      rw [← hx2]
      have hbx : (x2.1 10) = nI nd := by first | (rw [hx2, lf_X0_spendQuota_2]; exact hnd) | (rw [lf_X0_spendQuota_2]; exact hnd)
      refine z_iload_n 2 dX0_spendQuota_2 rfl ?_
      refine z_aload_n 0 dX0_spendQuota_3 rfl ?_
      refine z_get (C := RX0) (T := TX0) (N := 19) (v := .int (x2.1 10)) inwX0_spendQuota 0 rfl rfl 10 (by decide) (List.mem_of_getElem? (i := 1) rfl) rfl rfl dX0_spendQuota_4 ?_
      refine z_icmp_ge 51 dX0_spendQuota_7 (by decide) (fun c_7_0 => ?_) (fun c_7_0 => ?_)
      · exact absurd c_7_0 (by rw [hbx]; exact nI_ge (by omega) (by omega))
      ·
        refine z_iload_n 1 dX0_spendQuota_10 rfl ?_
        refine z_iload_n 2 dX0_spendQuota_11 rfl ?_
        refine z_callSi (As := [.int p1, .int (nI k2)]) (st := []) (fun l => c_X0_has l D _ _ p1 (nI k2)) zGok_TT (fun _ _ _ => trivial) (fun s args hts => va_cwS 2 hts gX0_spendQuota_X0_has rfl rfl rfl (by decide +kernel) ⟨Nat.le_of_ble_eq_true rfl, Nat.le_of_ble_eq_true rfl⟩) rfl (Nat.le_of_ble_eq_true rfl) ⟨Nat.le_of_ble_eq_true rfl, Nat.le_of_ble_eq_true rfl⟩ dX0_spendQuota_12 rfl (fun r u2 hp => ?_)
        subst hp
        refine z_if_eq 45 dX0_spendQuota_15 (by decide) (fun c_15_2 => ?_) (fun c_15_2 => ?_)
        ·
          refine z_iinc (v := (nI (k2 + 1))) (L' := [(2, .int (nI (k2 + 1))), (0, .ref h), (1, .int p1)]) 2 dX0_spendQuota_45 rfl (nI_1 k2) (by decide) rfl ?_
          refine z_goto 2 dX0_spendQuota_48 (by decide) ?_
          have hb2 : l_X0_spendQuota_2 u p1 (k2 + 1) = x2 := by
            show b_X0_spendQuota_2 u p1 k2 (l_X0_spendQuota_2 u p1 k2) = _
            rw [← hx2, b_X0_spendQuota_2, if_pos c_15_2]
          refine z_sub (L' := [(0, .ref h), (1, .int p1), (2, .int (nI (k2 + 1)))]) [1, 2, 0] rfl ?_
          have ih2 := ih2 (k2 + 1) (by omega)
          rw [hb2] at ih2
          exact ih2
        ·
          refine z_aload_n 0 dX0_spendQuota_18 rfl ?_
          refine z_get (C := RX0) (T := TX0) (N := 19) (v := .ref (a 9)) inwX0_spendQuota 0 rfl rfl 9 (by decide) (List.mem_of_getElem? (i := 2) rfl) rfl rfl dX0_spendQuota_19 ?_
          refine z_iload_n 2 dX0_spendQuota_22 rfl ?_
          refine z_aload_n 0 dX0_spendQuota_23 rfl ?_
          refine z_iload_n 2 dX0_spendQuota_24 rfl ?_
          refine z_callVi (As := [.int (nI k2)]) (st := [.int (nI k2), .ref (a 9)]) (fun l => c_X0_spentToday l D cI cZ h a x2 (nI k2) (by first | (with_reducible assumption) | with_reducible exact vp_in_nI (by omega) (by omega) | with_reducible exact zdev hnd hd (by assumption) | exact hnd | assumption | decide)) zGok_TT (fun _ _ _ => trivial) (fun s args hts => cwV 1 hts gX0_spendQuota_X0_spentToday rfl rfl rfl (by decide +kernel) ⟨Nat.le_of_ble_eq_true rfl, Nat.le_of_ble_eq_true rfl⟩) (ci := 0) rfl rfl rfl rfl (Nat.le_of_ble_eq_true rfl) ⟨Nat.le_of_ble_eq_true rfl, Nat.le_of_ble_eq_true rfl⟩ dX0_spendQuota_25 rfl (fun r u2 hp => ?_)
          subst hp
          refine z_iconst (v := 1) dX0_spendQuota_28 rfl ?_
          refine z_iadd dX0_spendQuota_29 ?_
          refine z_iast (w' := (wX0 cI cZ h a (pG x2 9 (ix (nI k2)) ((r_X0_spentToday x2 (nI k2)) + 1)))) 7 0 rfl rfl (vp_in_nI (by omega) (by omega)) (wX0_g9 _ _ _ _ _ _ _) dX0_spendQuota_30 ?_
          refine z_aload_n 0 dX0_spendQuota_31 rfl ?_
          refine z_get (C := RX0) (T := TX0) (N := 19) (v := .ref (a 8)) inwX0_spendQuota 0 rfl rfl 8 (by decide) (List.mem_of_getElem? (i := 3) rfl) rfl rfl dX0_spendQuota_32 ?_
          refine z_iload_n 2 dX0_spendQuota_35 rfl ?_
          refine z_aload_n 0 dX0_spendQuota_36 rfl ?_
          refine z_get (C := RX0) (T := TX0) (N := 19) (v := .int (x2.1 17)) inwX0_spendQuota 0 rfl rfl 17 (by decide) (List.mem_of_getElem? (i := 4) rfl) rfl rfl dX0_spendQuota_37 ?_
          refine z_sipush (v := 1440) dX0_spendQuota_40 rfl ?_
          refine z_idiv dX0_spendQuota_43 (by decide) ?_
          refine z_iast (w' := (wX0 cI cZ h a (pG (pG x2 9 (ix (nI k2)) ((r_X0_spentToday x2 (nI k2)) + 1)) 8 (ix (nI k2)) ((x2.1 17) / 1440)))) 6 0 rfl rfl (vp_in_nI (by omega) (by omega)) (wX0_g8 _ _ _ _ _ _ _) dX0_spendQuota_44 ?_
          refine z_iinc (v := (nI (k2 + 1))) (L' := [(2, .int (nI (k2 + 1))), (0, .ref h), (1, .int p1)]) 2 dX0_spendQuota_45 rfl (nI_1 k2) (by decide) rfl ?_
          refine z_goto 2 dX0_spendQuota_48 (by decide) ?_
          have hb2 : l_X0_spendQuota_2 u p1 (k2 + 1) = (pG (pG x2 9 (ix (nI k2)) ((r_X0_spentToday x2 (nI k2)) + 1)) 8 (ix (nI k2)) ((x2.1 17) / 1440)) := by
            show b_X0_spendQuota_2 u p1 k2 (l_X0_spendQuota_2 u p1 k2) = _
            rw [← hx2, b_X0_spendQuota_2, if_neg c_15_2]
          refine z_sub (L' := [(0, .ref h), (1, .int p1), (2, .int (nI (k2 + 1)))]) [1, 2, 0] rfl ?_
          have ih2 := ih2 (k2 + 1) (by omega)
          rw [hb2] at ih2
          exact ih2
  exact hloop2 nd 0 (by omega)
