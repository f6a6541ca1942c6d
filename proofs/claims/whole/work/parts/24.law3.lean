theorem zlen {i L : Nat} (hL : L ≤ 3072) (hi : i ≤ L) (h : ¬ (nI L - 6 < nI i)) : i + 6 ≤ L := by
  have e := pk_sub_toInt (a := L) (b := 6) (by omega) (by omega)
  have e2 : (nI L - 6).toInt = (L : Int) - 6 := e
  rcases Nat.lt_or_ge L (i + 6) with q | q
  · refine absurd (Int32.lt_iff_toInt_lt.mpr ?_) h
    rw [e2, nI_toInt (by omega)]
    omega
  · exact q
theorem z_tableIn {E : ZE} {G : State → (Nat → Prop) → Prop} {R : Room} {cc : ByteArray} {own : String} {Ts : List Cond} {n : Nat} {D : va_G} {tys : List (ClassId × FieldType)} {cells slots : Nat} {w : va_W} {pc : Nat} {L : List (Nat × Value)} {st : List Value} {dflt lo hi : Int} {offs : Array Int} {len : Nat} {x : Int32} {off : Int} (tgt : Nat) (d : decode cc pc = .ok (.tableswitch dflt lo hi offs, len)) (h1 : ¬ x.toInt < lo) (h2 : ¬ hi < x.toInt) (ho : offs[(x.toInt - lo).toNat]? = some off) (ht : (pc : Int) + off = (tgt : Int)) (kk : ZW E G R cc own Ts n D tys cells slots w tgt L st) : ZW E G R cc own Ts n D tys cells slots w pc L (.int x :: st) := by
  obtain ⟨p, l, e, s, m, args, below, meth, c, A, Q⟩ := E
  intro hx hb hml hown hts hA hG hK H locs ls hP hD hS hl
  exact lv_tableIn hx hb d h1 h2 ho ht (kk hx hb hml hown hts hA hG hK H locs ls hP hD hS hl)
theorem z_tableOut {E : ZE} {G : State → (Nat → Prop) → Prop} {R : Room} {cc : ByteArray} {own : String} {Ts : List Cond} {n : Nat} {D : va_G} {tys : List (ClassId × FieldType)} {cells slots : Nat} {w : va_W} {pc : Nat} {L : List (Nat × Value)} {st : List Value} {dflt lo hi : Int} {offs : Array Int} {len : Nat} {x : Int32} (tgt : Nat) (d : decode cc pc = .ok (.tableswitch dflt lo hi offs, len)) (h : x.toInt < lo ∨ hi < x.toInt) (ht : (pc : Int) + dflt = (tgt : Int)) (kk : ZW E G R cc own Ts n D tys cells slots w tgt L st) : ZW E G R cc own Ts n D tys cells slots w pc L (.int x :: st) := by
  obtain ⟨p, l, e, s, m, args, below, meth, c, A, Q⟩ := E
  intro hx hb hml hown hts hA hG hK H locs ls hP hD hS hl
  exact lv_tableOut hx hb d h ht (kk hx hb hml hown hts hA hG hK H locs ls hP hD hS hl)
/-- every call keeps the relation, with the same answers -/
def zDall (RR : SX → SX → Prop) : Prop := zD_addDevice RR ∧ zD_setOnline RR ∧ zD_setDozing RR ∧ zD_setQuiet RR ∧ zD_join RR ∧ zD_kill RR ∧ zD_devices RR ∧ zD_isQuiet RR ∧ zD_send RR ∧ zD_sendBy RR ∧ zD_read RR ∧ zD_sent RR ∧ zD_stands RR ∧ zD_waitsFor RR ∧ zD_deliveredTo RR ∧ zD_standing RR ∧ zD_badge RR ∧ zD_waiting RR ∧ zD_quota RR ∧ zD_pass RR ∧ zD_clock RR ∧ zD_deliveries RR
set_option maxHeartbeats 8000000 in
set_option maxRecDepth 100000 in
theorem law_loop (E : ZE) (hlt : E.2.1.stackTraces = false) (b L : Nat) (xs : Nat → Int32) (D : va_G) (cI cZ cI2 cZ2 cJ : ClassId) (h h2 o : Nat) (a a2 : Nat → Nat) (hL : L ≤ 3072) (RR : SX → SX → Prop) (hWF : ∀ u v, RR u v → zWF u v) (hDD : zDall RR)
    (hend : ∀ (pc : Nat) (Lx : List (Nat × Value)) (w : va_W) (c s : Nat), decode cL_law pc = .ok (.ireturn, 1) → c ≤ 1064 → s ≤ 9936 → ZW E (zGL b L xs) room_1 cL_law RL wsL_law 7 D [(cI, .int), (cZ, .boolean), (cI2, .int), (cZ2, .boolean), (cJ, .long)] c s w pc Lx [.int 1]) :
    ∀ (r j : Nat), j + r = 513 → 6 * j ≤ L → ∀ (u v : SX) (f : Nat → Int64), RR u v → ZW E (zGL b L xs) room_1 cL_law RL wsL_law 7 D [(cI, .int), (cZ, .boolean), (cI2, .int), (cZ2, .boolean), (cJ, .long)] (32 + j) (1696 + 6 * j) (wX1 cI2 cZ2 h2 a2 v ++ (wX0 cI cZ h a u ++ wO cJ o f)) 23 [(0, .ref b), (1, .ref h), (2, .ref h2), (3, .ref o), (4, .int (nI (6 * j)))] [] := by
  obtain ⟨d_addDevice, d_setOnline, d_setDozing, d_setQuiet, d_join, d_kill, d_devices, d_isQuiet, d_send, d_sendBy, d_read, d_sent, d_stands, d_waitsFor, d_deliveredTo, d_standing, d_badge, d_waiting, d_quota, d_pass, d_clock, d_deliveries⟩ := hDD
  intro r
  induction r with
  | zero => intro j hj hjl; omega
  | succ r ih =>
    intro j hj hjl u v f hR
    refine z_iload 4 dL_law_23 rfl ?_
    refine z_aload_n 0 dL_law_25 rfl ?_
    refine z_slen dL_law_26 ?_
    refine z_bipush (v := 6) dL_law_27 rfl ?_
    refine z_isub dL_law_29 ?_
    refine z_icmp_gt 1503 dL_law_30 (by decide) (fun c => ?_) (fun c => ?_)
    · refine z_iconst (v := 1) dL_law_1503 rfl ?_
      exact hend 1504 _ _ _ _ dL_law_1504 (by omega) (by omega)
    · have hi := zlen hL hjl c
      have K : ∀ (u v : SX) (f : Nat → Int64), RR u v → ZW E (zGL b L xs) room_1 cL_law RL wsL_law 7 D [(cI, .int), (cZ, .boolean), (cI2, .int), (cZ2, .boolean), (cJ, .long)] (32 + j + 1) (1696 + 6 * j + 6) (wX1 cI2 cZ2 h2 a2 v ++ (wX0 cI cZ h a u ++ wO cJ o f)) 1497 [(0, .ref b), (1, .ref h), (2, .ref h2), (3, .ref o), (4, .int (nI (6 * j)))] [] := by
        intro u v f hR
        refine z_iinc (v := nI (6 * (j + 1))) (L' := [(4, .int (nI (6 * (j + 1)))), (0, .ref b), (1, .ref h), (2, .ref h2), (3, .ref o)]) 4 dL_law_1497 rfl (nI_add (6 * j) 6) (by decide) rfl ?_
        refine z_goto 23 dL_law_1500 (by decide) ?_
        refine z_sub (L' := [(0, .ref b), (1, .ref h), (2, .ref h2), (3, .ref o), (4, .int (nI (6 * (j + 1))))]) [1, 2, 3, 4, 0] rfl ?_
        exact ih (j + 1) (by omega) (by omega) u v f hR
      refine z_aload_n 0 dL_law_33 rfl ?_
      refine z_iload 4 dL_law_34 rfl ?_
      refine z_sld (v := xs (6 * j)) (vp_in_nI (by omega) (by omega)) (by rw [nI_clamp (by omega)]) dL_law_36 ?_
      refine z_bipush (v := 31) dL_law_37 rfl ?_
      refine z_iand dL_law_39 ?_
      obtain ⟨t, ht, het⟩ : ∃ t : Nat, t < 32 ∧ xs (6 * j) &&& 31 = nI t := pk_andE (xs (6 * j)) 5 rfl
      rw [het]
      clear het
      rcases (show t = 0 ∨ t = 1 ∨ t = 2 ∨ t = 3 ∨ t = 4 ∨ t = 5 ∨ t = 6 ∨ t = 7 ∨ t = 8 ∨ t = 9 ∨ t = 10 ∨ t = 11 ∨ t = 12 ∨ t = 13 ∨ t = 14 ∨ t = 15 ∨ t = 16 ∨ t = 17 ∨ t = 18 ∨ t = 19 ∨ t = 20 ∨ t = 21 ∨ 22 ≤ t from by omega) with rfl | rfl | rfl | rfl | rfl | rfl | rfl | rfl | rfl | rfl | rfl | rfl | rfl | rfl | rfl | rfl | rfl | rfl | rfl | rfl | rfl | rfl | hq
      · refine z_tableIn 144 dL_law_40 (by decide) (by decide) (off := 104) rfl (by decide) ?_
        exact law_addDevice E hlt b L xs D cI cZ cI2 cZ2 cJ h h2 o a a2 hL RR hWF d_addDevice (6 * j) hi u v f (32 + j) (1696 + 6 * j) (by omega) (by omega) hR K
      · refine z_tableIn 212 dL_law_40 (by decide) (by decide) (off := 172) rfl (by decide) ?_
        exact law_setOnline E hlt b L xs D cI cZ cI2 cZ2 cJ h h2 o a a2 hL RR hWF d_setOnline (6 * j) hi u v f (32 + j) (1696 + 6 * j) (by omega) (by omega) hR K
      · refine z_tableIn 296 dL_law_40 (by decide) (by decide) (off := 256) rfl (by decide) ?_
        exact law_setDozing E hlt b L xs D cI cZ cI2 cZ2 cJ h h2 o a a2 hL RR hWF d_setDozing (6 * j) hi u v f (32 + j) (1696 + 6 * j) (by omega) (by omega) hR K
      · refine z_tableIn 380 dL_law_40 (by decide) (by decide) (off := 340) rfl (by decide) ?_
        exact law_setQuiet E hlt b L xs D cI cZ cI2 cZ2 cJ h h2 o a a2 hL RR hWF d_setQuiet (6 * j) hi u v f (32 + j) (1696 + 6 * j) (by omega) (by omega) hR K
      · refine z_tableIn 460 dL_law_40 (by decide) (by decide) (off := 420) rfl (by decide) ?_
        exact law_join E hlt b L xs D cI cZ cI2 cZ2 cJ h h2 o a a2 hL RR hWF d_join (6 * j) hi u v f (32 + j) (1696 + 6 * j) (by omega) (by omega) hR K
      · refine z_tableIn 563 dL_law_40 (by decide) (by decide) (off := 523) rfl (by decide) ?_
        exact law_kill E hlt b L xs D cI cZ cI2 cZ2 cJ h h2 o a a2 hL RR hWF d_kill (6 * j) hi u v f (32 + j) (1696 + 6 * j) (by omega) (by omega) hR K
      · refine z_tableIn 619 dL_law_40 (by decide) (by decide) (off := 579) rfl (by decide) ?_
        exact law_devices E hlt b L xs D cI cZ cI2 cZ2 cJ h h2 o a a2 hL RR hWF d_devices (6 * j) hi u v f (32 + j) (1696 + 6 * j) (by omega) (by omega) hR K
      · refine z_tableIn 632 dL_law_40 (by decide) (by decide) (off := 592) rfl (by decide) ?_
        exact law_isQuiet E hlt b L xs D cI cZ cI2 cZ2 cJ h h2 o a a2 hL RR hWF d_isQuiet (6 * j) hi u v f (32 + j) (1696 + 6 * j) (by omega) (by omega) hR K
      · refine z_tableIn 695 dL_law_40 (by decide) (by decide) (off := 655) rfl (by decide) ?_
        exact law_send E hlt b L xs D cI cZ cI2 cZ2 cJ h h2 o a a2 hL RR hWF d_send (6 * j) hi u v f (32 + j) (1696 + 6 * j) (by omega) (by omega) hR K
      · refine z_tableIn 803 dL_law_40 (by decide) (by decide) (off := 763) rfl (by decide) ?_
        exact law_sendBy E hlt b L xs D cI cZ cI2 cZ2 cJ h h2 o a a2 hL RR hWF d_sendBy (6 * j) hi u v f (32 + j) (1696 + 6 * j) (by omega) (by omega) hR K
      · refine z_tableIn 923 dL_law_40 (by decide) (by decide) (off := 883) rfl (by decide) ?_
        exact law_read E hlt b L xs D cI cZ cI2 cZ2 cJ h h2 o a a2 hL RR hWF d_read (6 * j) hi u v f (32 + j) (1696 + 6 * j) (by omega) (by omega) hR K
      · refine z_tableIn 991 dL_law_40 (by decide) (by decide) (off := 951) rfl (by decide) ?_
        exact law_sent E hlt b L xs D cI cZ cI2 cZ2 cJ h h2 o a a2 hL RR hWF d_sent (6 * j) hi u v f (32 + j) (1696 + 6 * j) (by omega) (by omega) hR K
      · refine z_tableIn 1004 dL_law_40 (by decide) (by decide) (off := 964) rfl (by decide) ?_
        exact law_stands E hlt b L xs D cI cZ cI2 cZ2 cJ h h2 o a a2 hL RR hWF d_stands (6 * j) hi u v f (32 + j) (1696 + 6 * j) (by omega) (by omega) hR K
      · refine z_tableIn 1067 dL_law_40 (by decide) (by decide) (off := 1027) rfl (by decide) ?_
        exact law_waitsFor E hlt b L xs D cI cZ cI2 cZ2 cJ h h2 o a a2 hL RR hWF d_waitsFor (6 * j) hi u v f (32 + j) (1696 + 6 * j) (by omega) (by omega) hR K
      · refine z_tableIn 1123 dL_law_40 (by decide) (by decide) (off := 1083) rfl (by decide) ?_
        exact law_deliveredTo E hlt b L xs D cI cZ cI2 cZ2 cJ h h2 o a a2 hL RR hWF d_deliveredTo (6 * j) hi u v f (32 + j) (1696 + 6 * j) (by omega) (by omega) hR K
      · refine z_tableIn 1179 dL_law_40 (by decide) (by decide) (off := 1139) rfl (by decide) ?_
        exact law_standing E hlt b L xs D cI cZ cI2 cZ2 cJ h h2 o a a2 hL RR hWF d_standing (6 * j) hi u v f (32 + j) (1696 + 6 * j) (by omega) (by omega) hR K
      · refine z_tableIn 1247 dL_law_40 (by decide) (by decide) (off := 1207) rfl (by decide) ?_
        exact law_badge E hlt b L xs D cI cZ cI2 cZ2 cJ h h2 o a a2 hL RR hWF d_badge (6 * j) hi u v f (32 + j) (1696 + 6 * j) (by omega) (by omega) hR K
      · refine z_tableIn 1303 dL_law_40 (by decide) (by decide) (off := 1263) rfl (by decide) ?_
        exact law_waiting E hlt b L xs D cI cZ cI2 cZ2 cJ h h2 o a a2 hL RR hWF d_waiting (6 * j) hi u v f (32 + j) (1696 + 6 * j) (by omega) (by omega) hR K
      · refine z_tableIn 1359 dL_law_40 (by decide) (by decide) (off := 1319) rfl (by decide) ?_
        exact law_quota E hlt b L xs D cI cZ cI2 cZ2 cJ h h2 o a a2 hL RR hWF d_quota (6 * j) hi u v f (32 + j) (1696 + 6 * j) (by omega) (by omega) hR K
      · refine z_tableIn 1415 dL_law_40 (by decide) (by decide) (off := 1375) rfl (by decide) ?_
        exact law_pass E hlt b L xs D cI cZ cI2 cZ2 cJ h h2 o a a2 hL RR hWF d_pass (6 * j) hi u v f (32 + j) (1696 + 6 * j) (by omega) (by omega) hR K
      · refine z_tableIn 1471 dL_law_40 (by decide) (by decide) (off := 1431) rfl (by decide) ?_
        exact law_clock E hlt b L xs D cI cZ cI2 cZ2 cJ h h2 o a a2 hL RR hWF d_clock (6 * j) hi u v f (32 + j) (1696 + 6 * j) (by omega) (by omega) hR K
      · refine z_tableIn 1484 dL_law_40 (by decide) (by decide) (off := 1444) rfl (by decide) ?_
        exact law_deliveries E hlt b L xs D cI cZ cI2 cZ2 cJ h h2 o a a2 hL RR hWF d_deliveries (6 * j) hi u v f (32 + j) (1696 + 6 * j) (by omega) (by omega) hR K
      · refine z_tableOut 1497 dL_law_40 (Or.inr (by rw [nI_toInt (by omega)]; omega)) (by decide) ?_
        exact z_widen (by omega) (by omega) (K u v f hR)
