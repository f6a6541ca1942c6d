set_option maxHeartbeats 4000000 in
set_option maxRecDepth 100000 in
theorem c_X0_pass (l : Launch) (D : va_G) (cI cZ : ClassId) (h : Nat) (a : Nat → Nat) (u : SX) (p1 : Int32) (he : e_X0_pass u p1 = 0) (nd : Nat) (hnd : u.1 10 = nI nd) (hd : nd ≤ 16) (nn : Nat) (hnn : u.1 16 = nI nn) (hn : nn ≤ 120) : zMi l yX0_pass wsX0_pass ({ frames := 5, cells := 0, slots := 0, locals := 112 } : Room) zTT D [(cI, .int), (cZ, .boolean)] (wX0 cI cZ h a u) [.ref h, .int p1] (fun (r : Int32) (u2 : SX) => r = r_X0_pass u p1 ∧ u2 = s_X0_pass u p1) (fun u2 => (wX0 cI cZ h a u2)) 0 0 := by
  refine z_startI (cc := cX0_pass) (n := 5) (own := RX0) (L0 := [(0, .ref h), (1, .int p1)]) (plainFor_of_name (by decide)) rfl rfl (Nat.le_of_ble_eq_true rfl) rfl (fun E hret => ?_)
  have hixnn : ix (u.1 16) = nn := by rw [hnn]; exact nI_clamp (by omega)
  have hixnd : ix (u.1 10) = nd := by rw [hnd]; exact nI_clamp (by omega)
  refine z_iload_n 1 dX0_pass_0 rfl ?_
  refine z_iconst (v := 1) dX0_pass_1 rfl ?_
  refine z_sipush (v := 3000) dX0_pass_2 rfl ?_
  have e_5_0 : (e_X0_requireWithin p1 1 3000) = 0 := Decidable.byContradiction (fun hq => by rw [e_X0_pass, if_neg hq] at he; exact hq he)
  refine z_callSv (As := [.int p1, .int 1, .int 3000]) (st := []) (fun l => c_X0_requireWithin l D _ _ p1 1 3000 (by assumption)) zGok_TT (fun _ _ _ => trivial) (fun s args hts => va_cwS 3 hts gX0_pass_X0_requireWithin rfl rfl rfl (by decide +kernel) ⟨Nat.le_of_ble_eq_true rfl, Nat.le_of_ble_eq_true rfl⟩) rfl (Nat.le_of_ble_eq_true rfl) ⟨Nat.le_of_ble_eq_true rfl, Nat.le_of_ble_eq_true rfl⟩ dX0_pass_5 rfl (fun u2 hp => ?_)
  clear hp
  refine z_aload_n 0 dX0_pass_8 rfl ?_
  refine z_get (C := RX0) (T := TX0) (N := 19) (v := .int (u.1 17)) inwX0_pass 0 rfl rfl 17 (by decide) (List.mem_of_getElem? (i := 3) rfl) rfl rfl dX0_pass_9 ?_
  refine z_iload_n 1 dX0_pass_12 rfl ?_
  refine z_iadd dX0_pass_13 ?_
  refine z_ldc (v := 100000) (List.mem_of_getElem? (i := 4) rfl) dX0_pass_14 ?_
  refine z_icmp_le 29 dX0_pass_16 (by decide) (fun c_16_1 => ?_) (fun c_16_1 => ?_)
  ·
    refine z_aload_n 0 dX0_pass_29 rfl ?_
    refine z_get (C := RX0) (T := TX0) (N := 19) (v := .int (u.1 17)) inwX0_pass 0 rfl rfl 17 (by decide) (List.mem_of_getElem? (i := 3) rfl) rfl rfl dX0_pass_30 ?_
    refine z_iload_n 1 dX0_pass_33 rfl ?_
    refine z_iadd dX0_pass_34 ?_
    refine z_istore_n (L' := [(2, .int ((u.1 17) + p1)), (0, .ref h), (1, .int p1)]) dX0_pass_35 (by decide) rfl ?_
    refine z_iconst (v := 0) dX0_pass_36 rfl ?_
    refine z_istore_n (L' := [(3, .int 0), (2, .int ((u.1 17) + p1)), (0, .ref h), (1, .int p1)]) dX0_pass_37 (by decide) rfl ?_
    refine z_iconst (v := 0) dX0_pass_38 rfl ?_
    refine z_istore (L' := [(4, .int 0), (3, .int 0), (2, .int ((u.1 17) + p1)), (0, .ref h), (1, .int p1)]) dX0_pass_39 (by decide) rfl ?_
    refine z_sub (L' := [(0, .ref h), (1, .int p1), (2, .int ((u.1 17) + p1)), (3, .int 0), (4, .int 0)]) [3, 4, 2, 1, 0] rfl ?_
    have hmin : p1 = nI (ix p1) := zminX (by assumption)
    have hloop41 : ∀ r k41 : Nat, k41 + r = (ix p1) → ZW E zTT ({ frames := 5, cells := 0, slots := 0, locals := 112 } : Room) cX0_pass RX0 wsX0_pass 5 D [(cI, .int), (cZ, .boolean)] 0 0 (wX0 cI cZ h a (l_X0_pass_41 u p1 k41).1) 41 [(0, .ref h), (1, .int p1), (2, .int ((u.1 17) + p1)), (3, .int (l_X0_pass_41 u p1 k41).2), (4, .int (nI k41))] [] := by
      intro r
      induction r with
      | zero =>
        intro k41 hk41
        have hkN41 : (ix p1) = k41 := by omega
        subst hkN41
        have hbn : ((l_X0_pass_41 u p1 (ix p1)).1.1 16) = nI nn := by first | (rw [hx41, lf16_X0_pass_41]; exact hnn) | (rw [lf16_X0_pass_41]; exact hnn)
        have hbd : ((l_X0_pass_41 u p1 (ix p1)).1.1 10) = nI nd := by first | (rw [hx41, lf10_X0_pass_41]; exact hnd) | (rw [lf10_X0_pass_41]; exact hnd)
        refine z_iload 4 dX0_pass_41 rfl ?_
        refine z_iload_n 1 dX0_pass_43 rfl ?_
        refine z_icmp_ge 80 dX0_pass_44 (by decide) (fun c_44_3 => ?_) (fun c_44_3 => ?_)
        ·
          refine z_iload_n 3 dX0_pass_80 rfl ?_
          exact hret _ (l_X0_pass_41 u p1 (ix p1)).1 _ _ _ dX0_pass_81 ⟨(by rw [r_X0_pass]), (by rw [s_X0_pass])⟩ rfl
        · exact absurd (zmle hmin) c_44_3
      | succ r ih41 =>
        intro k41 hk41
        obtain ⟨x41, hx41⟩ : ∃ x, x = l_X0_pass_41 u p1 k41 := ⟨_, rfl⟩
        rw [← hx41]
        have hbn : (x41.1.1 16) = nI nn := by first | (rw [hx41, lf16_X0_pass_41]; exact hnn) | (rw [lf16_X0_pass_41]; exact hnn)
        have hbd : (x41.1.1 10) = nI nd := by first | (rw [hx41, lf10_X0_pass_41]; exact hnd) | (rw [lf10_X0_pass_41]; exact hnd)
        refine z_iload 4 dX0_pass_41 rfl ?_
        refine z_iload_n 1 dX0_pass_43 rfl ?_
        refine z_icmp_ge 80 dX0_pass_44 (by decide) (fun c_44_2 => ?_) (fun c_44_2 => ?_)
        · exact absurd c_44_2 (zmge hmin (by omega))
        ·
          refine z_aload_n 0 dX0_pass_47 rfl ?_
          refine z_get (C := RX0) (T := TX0) (N := 19) (v := .int (x41.1.1 17)) inwX0_pass 0 rfl rfl 17 (by decide) (List.mem_of_getElem? (i := 3) rfl) rfl rfl dX0_pass_48 ?_
          refine z_iload_n 2 dX0_pass_51 rfl ?_
          refine z_icmp_ge 80 dX0_pass_52 (by decide) (fun c_52_4 => ?_) (fun c_52_4 => ?_)
          ·
            refine z_iload_n 3 dX0_pass_80 rfl ?_
            exact hret _ x41.1 _ _ _ dX0_pass_81 ⟨(by rw [r_X0_pass, st_X0_pass_41 u p1 k41 (ix p1) (by omega) (by rw [← hx41]; assumption), ← hx41]), (by rw [s_X0_pass, st_X0_pass_41 u p1 k41 (ix p1) (by omega) (by rw [← hx41]; assumption), ← hx41])⟩ rfl
          ·
            refine z_aload_n 0 dX0_pass_55 rfl ?_
            refine z_iload_n 2 dX0_pass_56 rfl ?_
            refine z_aload_n 0 dX0_pass_57 rfl ?_
            refine z_callVi (As := []) (st := [.int ((u.1 17) + p1), .ref h]) (fun l => c_X0_nextChance l D cI cZ h a x41.1  nd (by first | (with_reducible assumption) | with_reducible exact vp_in_nI (by omega) (by omega) | with_reducible exact zdev hnd hd (by assumption) | with_reducible exact znot hnn hn (by assumption) | with_reducible exact zwithin (by assumption) (by decide) (by decide) | exact hbd | exact hbn | exact hnd | exact hnn | assumption | decide) (by first | (with_reducible assumption) | with_reducible exact vp_in_nI (by omega) (by omega) | with_reducible exact zdev hnd hd (by assumption) | with_reducible exact znot hnn hn (by assumption) | with_reducible exact zwithin (by assumption) (by decide) (by decide) | exact hbd | exact hbn | exact hnd | exact hnn | assumption | decide)) zGok_TT (fun _ _ _ => trivial) (fun s args hts => cwV 0 hts gX0_pass_X0_nextChance rfl rfl rfl (by decide +kernel) ⟨Nat.le_of_ble_eq_true rfl, Nat.le_of_ble_eq_true rfl⟩) (ci := 0) rfl rfl rfl rfl (Nat.le_of_ble_eq_true rfl) ⟨Nat.le_of_ble_eq_true rfl, Nat.le_of_ble_eq_true rfl⟩ dX0_pass_58 rfl (fun r u2 hp => ?_)
            subst hp
            refine z_mmin (List.mem_of_getElem? (i := 5) rfl) (List.mem_of_getElem? (i := 6) rfl) (List.mem_of_getElem? (i := 7) rfl) (List.mem_of_getElem? (i := 8) rfl) ⟨Nat.le_of_ble_eq_true rfl, Nat.le_of_ble_eq_true rfl, Nat.le_of_ble_eq_true rfl, Nat.le_of_ble_eq_true rfl⟩ (Nat.le_of_ble_eq_true rfl) dX0_pass_61 ?_
            refine z_put (C := RX0) (T := TX0) (N := 19) (v := .int (mnI ((u.1 17) + p1) (r_X0_nextChance x41.1 ))) (w' := (wX0 cI cZ h a (pF x41.1 17 (mnI ((u.1 17) + p1) (r_X0_nextChance x41.1 ))))) inwX0_pass 0 rfl rfl 17 (by decide) (List.mem_of_getElem? (i := 3) rfl) rfl tyX0 tyX0_ok nmX0 rfl rfl rfl (Nat.le_of_ble_eq_true rfl) (wX0_p17 _ _ _ _ _ _) dX0_pass_64 ?_
            refine z_iload_n 3 dX0_pass_67 rfl ?_
            refine z_aload_n 0 dX0_pass_68 rfl ?_
            refine z_callVi (As := []) (st := [.int x41.2]) (fun l => c_X0_deliverNow l D cI cZ h a (pF x41.1 17 (mnI ((u.1 17) + p1) (r_X0_nextChance x41.1 )))  nd (by first | (with_reducible assumption) | with_reducible exact vp_in_nI (by omega) (by omega) | with_reducible exact zdev hnd hd (by assumption) | with_reducible exact znot hnn hn (by assumption) | with_reducible exact zwithin (by assumption) (by decide) (by decide) | exact hbd | exact hbn | exact hnd | exact hnn | assumption | decide) (by first | (with_reducible assumption) | with_reducible exact vp_in_nI (by omega) (by omega) | with_reducible exact zdev hnd hd (by assumption) | with_reducible exact znot hnn hn (by assumption) | with_reducible exact zwithin (by assumption) (by decide) (by decide) | exact hbd | exact hbn | exact hnd | exact hnn | assumption | decide) nn (by first | (with_reducible assumption) | with_reducible exact vp_in_nI (by omega) (by omega) | with_reducible exact zdev hnd hd (by assumption) | with_reducible exact znot hnn hn (by assumption) | with_reducible exact zwithin (by assumption) (by decide) (by decide) | exact hbd | exact hbn | exact hnd | exact hnn | assumption | decide) (by first | (with_reducible assumption) | with_reducible exact vp_in_nI (by omega) (by omega) | with_reducible exact zdev hnd hd (by assumption) | with_reducible exact znot hnn hn (by assumption) | with_reducible exact zwithin (by assumption) (by decide) (by decide) | exact hbd | exact hbn | exact hnd | exact hnn | assumption | decide)) zGok_TT (fun _ _ _ => trivial) (fun s args hts => cwV 0 hts gX0_pass_X0_deliverNow rfl rfl rfl (by decide +kernel) ⟨Nat.le_of_ble_eq_true rfl, Nat.le_of_ble_eq_true rfl⟩) (ci := 0) rfl rfl rfl rfl (Nat.le_of_ble_eq_true rfl) ⟨Nat.le_of_ble_eq_true rfl, Nat.le_of_ble_eq_true rfl⟩ dX0_pass_69 rfl (fun r u2 hp => ?_)
            obtain ⟨rfl, rfl⟩ := hp
            refine z_iadd dX0_pass_72 ?_
            refine z_istore_n (L' := [(3, .int (x41.2 + (r_X0_deliverNow (pF x41.1 17 (mnI ((u.1 17) + p1) (r_X0_nextChance x41.1 ))) ))), (0, .ref h), (1, .int p1), (2, .int ((u.1 17) + p1)), (4, .int (nI k41))]) dX0_pass_73 (by decide) rfl ?_
            refine z_iinc (v := (nI (k41 + 1))) (L' := [(4, .int (nI (k41 + 1))), (3, .int (x41.2 + (r_X0_deliverNow (pF x41.1 17 (mnI ((u.1 17) + p1) (r_X0_nextChance x41.1 ))) ))), (0, .ref h), (1, .int p1), (2, .int ((u.1 17) + p1))]) 4 dX0_pass_74 rfl (nI_1 k41) (by decide) rfl ?_
            refine z_goto 41 dX0_pass_77 (by decide) ?_
            have hb41 : l_X0_pass_41 u p1 (k41 + 1) = ((s_X0_deliverNow (pF x41.1 17 (mnI ((u.1 17) + p1) (r_X0_nextChance x41.1 ))) ), (x41.2 + (r_X0_deliverNow (pF x41.1 17 (mnI ((u.1 17) + p1) (r_X0_nextChance x41.1 ))) ))) := by
              show b_X0_pass_41 u p1 k41 (l_X0_pass_41 u p1 k41) = _
              rw [← hx41, b_X0_pass_41, if_neg c_52_4]
            refine z_sub (L' := [(0, .ref h), (1, .int p1), (2, .int ((u.1 17) + p1)), (3, .int (x41.2 + (r_X0_deliverNow (pF x41.1 17 (mnI ((u.1 17) + p1) (r_X0_nextChance x41.1 ))) ))), (4, .int (nI (k41 + 1)))]) [2, 3, 4, 1, 0] rfl ?_
            have ih2 := ih41 (k41 + 1) (by omega)
            rw [hb41] at ih2
            exact ih2
    exact hloop41 (ix p1) 0 (by omega)
  ·
    exact absurd he (by rw [e_X0_pass, if_pos e_5_0, if_neg c_16_1]; decide)
set_option maxHeartbeats 4000000 in
set_option maxRecDepth 100000 in
theorem t_X0_pass (l : Launch) (hlt : l.stackTraces = false) (D : va_G) (cI cZ : ClassId) (h : Nat) (a : Nat → Nat) (u : SX) (p1 : Int32) (he : e_X0_pass u p1 ≠ 0) (nd : Nat) (hnd : u.1 10 = nI nd) (hd : nd ≤ 16) (nn : Nat) (hnn : u.1 16 = nI nn) (hn : nn ≤ 120) : zMx l yX0_pass wsX0_pass ({ frames := 7, cells := 1, slots := 6, locals := 112 } : Room) D [(cI, .int), (cZ, .boolean)] (wX0 cI cZ h a u) [.ref h, .int p1] (fun E' => E' = zEx (e_X0_pass u p1)) := by
  refine z_startX (cc := cX0_pass) (n := 5) (own := RX0) (L0 := [(0, .ref h), (1, .int p1)]) hlt (by decide) rfl rfl (Nat.le_of_ble_eq_true rfl) rfl ⟨Nat.le_of_ble_eq_true rfl, Nat.le_of_ble_eq_true rfl⟩ (fun E hlt hthr hthrow => ?_)
  refine z_iload_n 1 dX0_pass_0 rfl ?_
  refine z_iconst (v := 1) dX0_pass_1 rfl ?_
  refine z_sipush (v := 3000) dX0_pass_2 rfl ?_
  by_cases e_5_0 : (e_X0_requireWithin p1 1 3000) = 0
  ·
    refine z_callSv (As := [.int p1, .int 1, .int 3000]) (st := []) (fun l => c_X0_requireWithin l D _ _ p1 1 3000 (by assumption)) zGok_TT (fun _ _ _ => trivial) (fun s args hts => va_cwS 3 hts gX0_pass_X0_requireWithin rfl rfl rfl (by decide +kernel) ⟨Nat.le_of_ble_eq_true rfl, Nat.le_of_ble_eq_true rfl⟩) rfl (Nat.le_of_ble_eq_true rfl) ⟨Nat.le_of_ble_eq_true rfl, Nat.le_of_ble_eq_true rfl⟩ dX0_pass_5 rfl (fun u2 hp => ?_)
    clear hp
    refine z_aload_n 0 dX0_pass_8 rfl ?_
    refine z_get (C := RX0) (T := TX0) (N := 19) (v := .int (u.1 17)) inwX0_pass 0 rfl rfl 17 (by decide) (List.mem_of_getElem? (i := 3) rfl) rfl rfl dX0_pass_9 ?_
    refine z_iload_n 1 dX0_pass_12 rfl ?_
    refine z_iadd dX0_pass_13 ?_
    refine z_ldc (v := 100000) (List.mem_of_getElem? (i := 4) rfl) dX0_pass_14 ?_
    refine z_icmp_le 29 dX0_pass_16 (by decide) (fun c_16_1 => ?_) (fun c_16_1 => ?_)
    ·
      exact absurd (by rw [e_X0_pass, if_pos e_5_0, if_pos c_16_1]) he
    ·
      exact hthrow 19 _ "java/lang/IllegalStateException" "the clock would be above 100000" 73 151 77 (by decide) (by decide) (by decide +kernel) (List.mem_of_getElem? (i := 1) rfl) (List.mem_of_getElem? (i := 2) rfl) rfl (by decide) (fun w h => List.mem_cons_of_mem _ (by first | exact List.mem_append_right _ h | exact List.mem_append_left _ (List.mem_append_right _ h) | exact List.mem_append_left _ (List.mem_append_left _ (List.mem_append_right _ h)))) (by decide +kernel) (by decide +kernel) dX0_pass_19 dX0_pass_22 dX0_pass_23 dX0_pass_25 dX0_pass_28 (by show _ = zEx _; rw [e_X0_pass, if_pos e_5_0, if_neg c_16_1]; rfl)
  ·
    refine z_callSx (As := [.int p1, .int 1, .int 3000]) (st := []) hlt (fun l hl => t_X0_requireWithin l hl D _ _ p1 1 3000 (by assumption)) (fun s args hts => va_cwS 3 hts gX0_pass_X0_requireWithin rfl rfl rfl (by decide +kernel) ⟨Nat.le_of_ble_eq_true rfl, Nat.le_of_ble_eq_true rfl⟩) rfl (Nat.le_of_ble_eq_true rfl) ⟨Nat.le_of_ble_eq_true rfl, Nat.le_of_ble_eq_true rfl⟩ dX0_pass_5 rfl ?_
    exact hthr _ _ _ (fun E' hE => by rw [e_X0_pass, if_neg e_5_0]; exact hE)
