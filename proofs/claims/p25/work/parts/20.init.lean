def u0SX : SX := (fun _ => 0, fun _ _ => 0)
def l_X0_init : Nat → SX
  | 0 => u0SX
  | k + 1 => pG (l_X0_init k) 15 (ix (nI k)) (-1)
def s_X0_init : SX := l_X0_init 80
set_option maxHeartbeats 4000000 in
set_option maxRecDepth 100000 in
theorem c_X0_init (l : Launch) (D : va_G) (h : Nat) : zMc l yX0_init wsX0_init ({ frames := 1, cells := 12, slots := 654, locals := 12 } : Room) D [(h, .inr (0, [.null, .null, .int 0, .int 0, .int 0, .null, .null, .null, .null, .null, .int 0, .null, .null, .null, .null, .null, .int 0, .int 0, .int 0]))] [.ref h] (fun _ : (Nat → Nat) × ClassId × ClassId => True) (fun z => wX0 z.2.1 z.2.2 h z.1 s_X0_init) (fun z => [(z.2.1, .int), (z.2.2, .boolean)]) 12 654 := by
  refine z_startC (cc := cX0_init) (n := 2) (own := RX0) (L0 := [(0, .ref h)]) (plainFor_of_name (by decide)) rfl rfl rfl (Nat.le_of_ble_eq_true rfl) rfl (fun E hnm9 hret => ?_)
  refine z_aload_n 0 dX0_init_0 rfl ?_
  refine z_objInit (List.mem_of_getElem? (i := 1) rfl) (List.mem_of_getElem? (i := 2) rfl) (List.mem_of_getElem? (i := 3) rfl) ⟨Nat.le_of_ble_eq_true rfl, Nat.le_of_ble_eq_true rfl⟩ dX0_init_1 ?_
  refine z_aload_n 0 dX0_init_4 rfl ?_
  refine z_bipush (v := 8) dX0_init_5 rfl ?_
  refine z_newa0 (ty := .int) (8, .inl (fun _ => 0)) 8 (List.mem_of_getElem? (i := 4) rfl) rfl (fun _ => rfl) (by decide) rfl (Nat.le_of_ble_eq_true rfl) (Nat.le_of_ble_eq_true rfl) (Nat.le_of_ble_eq_true rfl) dX0_init_7 (fun q0 cI => ?_)
  refine z_putF (C := RX0) (T := TX0) (N := 19) (v := .ref q0) (w' := [(h, .inr (0, [.ref q0, .null, .int 0, .int 0, .int 0, .null, .null, .null, .null, .null, .int 0, .null, .null, .null, .null, .null, .int 0, .int 0, .int 0])), (q0, .inl (cI, 8, .inl (fun _ => 0)))]) hnm9 inwX0_init 0 rfl rfl 0 (by decide) (List.mem_of_getElem? (i := 5) rfl) rfl tyX0 tyX0_ok nmX0 rfl rfl rfl rfl (Nat.le_of_ble_eq_true rfl) rfl dX0_init_9 ?_
  refine z_aload_n 0 dX0_init_12 rfl ?_
  refine z_bipush (v := 6) dX0_init_13 rfl ?_
  refine z_newa1 (ty := .int) (cI := cI) (6, .inl (fun _ => 0)) 6 0 rfl (fun _ _ => rfl) (List.mem_of_getElem? (i := 4) rfl) rfl (fun _ => rfl) (by decide) rfl (Nat.le_of_ble_eq_true rfl) (Nat.le_of_ble_eq_true rfl) (Nat.le_of_ble_eq_true rfl) dX0_init_15 (fun q1 => ?_)
  refine z_putF (C := RX0) (T := TX0) (N := 19) (v := .ref q1) (w' := [(h, .inr (0, [.ref q0, .ref q1, .int 0, .int 0, .int 0, .null, .null, .null, .null, .null, .int 0, .null, .null, .null, .null, .null, .int 0, .int 0, .int 0])), (q0, .inl (cI, 8, .inl (fun _ => 0))), (q1, .inl (cI, 6, .inl (fun _ => 0)))]) hnm9 inwX0_init 0 rfl rfl 1 (by decide) (List.mem_of_getElem? (i := 6) rfl) rfl tyX0 tyX0_ok nmX0 rfl rfl rfl rfl (Nat.le_of_ble_eq_true rfl) rfl dX0_init_17 ?_
  refine z_aload_n 0 dX0_init_20 rfl ?_
  refine z_iconst (v := 0) dX0_init_21 rfl ?_
  refine z_put (C := RX0) (T := TX0) (N := 19) (v := .int 0) (w' := [(h, .inr (0, [.ref q0, .ref q1, .int 0, .int 0, .int 0, .null, .null, .null, .null, .null, .int 0, .null, .null, .null, .null, .null, .int 0, .int 0, .int 0])), (q0, .inl (cI, 8, .inl (fun _ => 0))), (q1, .inl (cI, 6, .inl (fun _ => 0)))]) inwX0_init 0 rfl rfl 2 (by decide) (List.mem_of_getElem? (i := 7) rfl) rfl tyX0 tyX0_ok nmX0 rfl rfl rfl (Nat.le_of_ble_eq_true rfl) rfl dX0_init_22 ?_
  refine z_aload_n 0 dX0_init_25 rfl ?_
  refine z_iconst (v := 0) dX0_init_26 rfl ?_
  refine z_put (C := RX0) (T := TX0) (N := 19) (v := .int 0) (w' := [(h, .inr (0, [.ref q0, .ref q1, .int 0, .int 0, .int 0, .null, .null, .null, .null, .null, .int 0, .null, .null, .null, .null, .null, .int 0, .int 0, .int 0])), (q0, .inl (cI, 8, .inl (fun _ => 0))), (q1, .inl (cI, 6, .inl (fun _ => 0)))]) inwX0_init 0 rfl rfl 3 (by decide) (List.mem_of_getElem? (i := 8) rfl) rfl tyX0 tyX0_ok nmX0 rfl rfl rfl (Nat.le_of_ble_eq_true rfl) rfl dX0_init_27 ?_
  refine z_aload_n 0 dX0_init_30 rfl ?_
  refine z_iconst (v := 0) dX0_init_31 rfl ?_
  refine z_put (C := RX0) (T := TX0) (N := 19) (v := .int 0) (w' := [(h, .inr (0, [.ref q0, .ref q1, .int 0, .int 0, .int 0, .null, .null, .null, .null, .null, .int 0, .null, .null, .null, .null, .null, .int 0, .int 0, .int 0])), (q0, .inl (cI, 8, .inl (fun _ => 0))), (q1, .inl (cI, 6, .inl (fun _ => 0)))]) inwX0_init 0 rfl rfl 4 (by decide) (List.mem_of_getElem? (i := 9) rfl) rfl tyX0 tyX0_ok nmX0 rfl rfl rfl (Nat.le_of_ble_eq_true rfl) rfl dX0_init_32 ?_
  refine z_aload_n 0 dX0_init_35 rfl ?_
  refine z_bipush (v := 16) dX0_init_36 rfl ?_
  refine z_newa1 (ty := .int) (cI := cI) (16, .inl (fun _ => 0)) 16 0 rfl (fun _ _ => rfl) (List.mem_of_getElem? (i := 4) rfl) rfl (fun _ => rfl) (by decide) rfl (Nat.le_of_ble_eq_true rfl) (Nat.le_of_ble_eq_true rfl) (Nat.le_of_ble_eq_true rfl) dX0_init_38 (fun q2 => ?_)
  refine z_putF (C := RX0) (T := TX0) (N := 19) (v := .ref q2) (w' := [(h, .inr (0, [.ref q0, .ref q1, .int 0, .int 0, .int 0, .ref q2, .null, .null, .null, .null, .int 0, .null, .null, .null, .null, .null, .int 0, .int 0, .int 0])), (q0, .inl (cI, 8, .inl (fun _ => 0))), (q1, .inl (cI, 6, .inl (fun _ => 0))), (q2, .inl (cI, 16, .inl (fun _ => 0)))]) hnm9 inwX0_init 0 rfl rfl 5 (by decide) (List.mem_of_getElem? (i := 10) rfl) rfl tyX0 tyX0_ok nmX0 rfl rfl rfl rfl (Nat.le_of_ble_eq_true rfl) rfl dX0_init_40 ?_
  refine z_aload_n 0 dX0_init_43 rfl ?_
  refine z_bipush (v := 16) dX0_init_44 rfl ?_
  refine z_newa1 (ty := .int) (cI := cI) (16, .inl (fun _ => 0)) 16 0 rfl (fun _ _ => rfl) (List.mem_of_getElem? (i := 4) rfl) rfl (fun _ => rfl) (by decide) rfl (Nat.le_of_ble_eq_true rfl) (Nat.le_of_ble_eq_true rfl) (Nat.le_of_ble_eq_true rfl) dX0_init_46 (fun q3 => ?_)
  refine z_putF (C := RX0) (T := TX0) (N := 19) (v := .ref q3) (w' := [(h, .inr (0, [.ref q0, .ref q1, .int 0, .int 0, .int 0, .ref q2, .ref q3, .null, .null, .null, .int 0, .null, .null, .null, .null, .null, .int 0, .int 0, .int 0])), (q0, .inl (cI, 8, .inl (fun _ => 0))), (q1, .inl (cI, 6, .inl (fun _ => 0))), (q2, .inl (cI, 16, .inl (fun _ => 0))), (q3, .inl (cI, 16, .inl (fun _ => 0)))]) hnm9 inwX0_init 0 rfl rfl 6 (by decide) (List.mem_of_getElem? (i := 11) rfl) rfl tyX0 tyX0_ok nmX0 rfl rfl rfl rfl (Nat.le_of_ble_eq_true rfl) rfl dX0_init_48 ?_
  refine z_aload_n 0 dX0_init_51 rfl ?_
  refine z_bipush (v := 16) dX0_init_52 rfl ?_
  refine z_newa1 (ty := .int) (cI := cI) (16, .inl (fun _ => 0)) 16 0 rfl (fun _ _ => rfl) (List.mem_of_getElem? (i := 4) rfl) rfl (fun _ => rfl) (by decide) rfl (Nat.le_of_ble_eq_true rfl) (Nat.le_of_ble_eq_true rfl) (Nat.le_of_ble_eq_true rfl) dX0_init_54 (fun q4 => ?_)
  refine z_putF (C := RX0) (T := TX0) (N := 19) (v := .ref q4) (w' := [(h, .inr (0, [.ref q0, .ref q1, .int 0, .int 0, .int 0, .ref q2, .ref q3, .ref q4, .null, .null, .int 0, .null, .null, .null, .null, .null, .int 0, .int 0, .int 0])), (q0, .inl (cI, 8, .inl (fun _ => 0))), (q1, .inl (cI, 6, .inl (fun _ => 0))), (q2, .inl (cI, 16, .inl (fun _ => 0))), (q3, .inl (cI, 16, .inl (fun _ => 0))), (q4, .inl (cI, 16, .inl (fun _ => 0)))]) hnm9 inwX0_init 0 rfl rfl 7 (by decide) (List.mem_of_getElem? (i := 12) rfl) rfl tyX0 tyX0_ok nmX0 rfl rfl rfl rfl (Nat.le_of_ble_eq_true rfl) rfl dX0_init_56 ?_
  refine z_aload_n 0 dX0_init_59 rfl ?_
  refine z_bipush (v := 16) dX0_init_60 rfl ?_
  refine z_newa1 (ty := .int) (cI := cI) (16, .inl (fun _ => 0)) 16 0 rfl (fun _ _ => rfl) (List.mem_of_getElem? (i := 4) rfl) rfl (fun _ => rfl) (by decide) rfl (Nat.le_of_ble_eq_true rfl) (Nat.le_of_ble_eq_true rfl) (Nat.le_of_ble_eq_true rfl) dX0_init_62 (fun q5 => ?_)
  refine z_putF (C := RX0) (T := TX0) (N := 19) (v := .ref q5) (w' := [(h, .inr (0, [.ref q0, .ref q1, .int 0, .int 0, .int 0, .ref q2, .ref q3, .ref q4, .ref q5, .null, .int 0, .null, .null, .null, .null, .null, .int 0, .int 0, .int 0])), (q0, .inl (cI, 8, .inl (fun _ => 0))), (q1, .inl (cI, 6, .inl (fun _ => 0))), (q2, .inl (cI, 16, .inl (fun _ => 0))), (q3, .inl (cI, 16, .inl (fun _ => 0))), (q4, .inl (cI, 16, .inl (fun _ => 0))), (q5, .inl (cI, 16, .inl (fun _ => 0)))]) hnm9 inwX0_init 0 rfl rfl 8 (by decide) (List.mem_of_getElem? (i := 13) rfl) rfl tyX0 tyX0_ok nmX0 rfl rfl rfl rfl (Nat.le_of_ble_eq_true rfl) rfl dX0_init_64 ?_
  refine z_aload_n 0 dX0_init_67 rfl ?_
  refine z_bipush (v := 16) dX0_init_68 rfl ?_
  refine z_newa1 (ty := .int) (cI := cI) (16, .inl (fun _ => 0)) 16 0 rfl (fun _ _ => rfl) (List.mem_of_getElem? (i := 4) rfl) rfl (fun _ => rfl) (by decide) rfl (Nat.le_of_ble_eq_true rfl) (Nat.le_of_ble_eq_true rfl) (Nat.le_of_ble_eq_true rfl) dX0_init_70 (fun q6 => ?_)
  refine z_putF (C := RX0) (T := TX0) (N := 19) (v := .ref q6) (w' := [(h, .inr (0, [.ref q0, .ref q1, .int 0, .int 0, .int 0, .ref q2, .ref q3, .ref q4, .ref q5, .ref q6, .int 0, .null, .null, .null, .null, .null, .int 0, .int 0, .int 0])), (q0, .inl (cI, 8, .inl (fun _ => 0))), (q1, .inl (cI, 6, .inl (fun _ => 0))), (q2, .inl (cI, 16, .inl (fun _ => 0))), (q3, .inl (cI, 16, .inl (fun _ => 0))), (q4, .inl (cI, 16, .inl (fun _ => 0))), (q5, .inl (cI, 16, .inl (fun _ => 0))), (q6, .inl (cI, 16, .inl (fun _ => 0)))]) hnm9 inwX0_init 0 rfl rfl 9 (by decide) (List.mem_of_getElem? (i := 14) rfl) rfl tyX0 tyX0_ok nmX0 rfl rfl rfl rfl (Nat.le_of_ble_eq_true rfl) rfl dX0_init_72 ?_
  refine z_aload_n 0 dX0_init_75 rfl ?_
  refine z_iconst (v := 0) dX0_init_76 rfl ?_
  refine z_put (C := RX0) (T := TX0) (N := 19) (v := .int 0) (w' := [(h, .inr (0, [.ref q0, .ref q1, .int 0, .int 0, .int 0, .ref q2, .ref q3, .ref q4, .ref q5, .ref q6, .int 0, .null, .null, .null, .null, .null, .int 0, .int 0, .int 0])), (q0, .inl (cI, 8, .inl (fun _ => 0))), (q1, .inl (cI, 6, .inl (fun _ => 0))), (q2, .inl (cI, 16, .inl (fun _ => 0))), (q3, .inl (cI, 16, .inl (fun _ => 0))), (q4, .inl (cI, 16, .inl (fun _ => 0))), (q5, .inl (cI, 16, .inl (fun _ => 0))), (q6, .inl (cI, 16, .inl (fun _ => 0)))]) inwX0_init 0 rfl rfl 10 (by decide) (List.mem_of_getElem? (i := 15) rfl) rfl tyX0 tyX0_ok nmX0 rfl rfl rfl (Nat.le_of_ble_eq_true rfl) rfl dX0_init_77 ?_
  refine z_aload_n 0 dX0_init_80 rfl ?_
  refine z_bipush (v := 120) dX0_init_81 rfl ?_
  refine z_newa0 (ty := .boolean) (120, .inl (fun _ => 0)) 120 (List.mem_of_getElem? (i := 16) rfl) rfl (fun _ => rfl) (by decide) rfl (Nat.le_of_ble_eq_true rfl) (Nat.le_of_ble_eq_true rfl) (Nat.le_of_ble_eq_true rfl) dX0_init_83 (fun q7 cZ => ?_)
  refine z_putF (C := RX0) (T := TX0) (N := 19) (v := .ref q7) (w' := [(h, .inr (0, [.ref q0, .ref q1, .int 0, .int 0, .int 0, .ref q2, .ref q3, .ref q4, .ref q5, .ref q6, .int 0, .ref q7, .null, .null, .null, .null, .int 0, .int 0, .int 0])), (q0, .inl (cI, 8, .inl (fun _ => 0))), (q1, .inl (cI, 6, .inl (fun _ => 0))), (q2, .inl (cI, 16, .inl (fun _ => 0))), (q3, .inl (cI, 16, .inl (fun _ => 0))), (q4, .inl (cI, 16, .inl (fun _ => 0))), (q5, .inl (cI, 16, .inl (fun _ => 0))), (q6, .inl (cI, 16, .inl (fun _ => 0))), (q7, .inl (cZ, 120, .inl (fun _ => 0)))]) hnm9 inwX0_init 0 rfl rfl 11 (by decide) (List.mem_of_getElem? (i := 17) rfl) rfl tyX0 tyX0_ok nmX0 rfl rfl rfl rfl (Nat.le_of_ble_eq_true rfl) rfl dX0_init_85 ?_
  refine z_aload_n 0 dX0_init_88 rfl ?_
  refine z_bipush (v := 120) dX0_init_89 rfl ?_
  refine z_newa1 (ty := .int) (cI := cI) (120, .inl (fun _ => 0)) 120 0 rfl (fun _ _ => rfl) (List.mem_of_getElem? (i := 4) rfl) rfl (fun _ => rfl) (by decide) rfl (Nat.le_of_ble_eq_true rfl) (Nat.le_of_ble_eq_true rfl) (Nat.le_of_ble_eq_true rfl) dX0_init_91 (fun q8 => ?_)
  refine z_putF (C := RX0) (T := TX0) (N := 19) (v := .ref q8) (w' := [(h, .inr (0, [.ref q0, .ref q1, .int 0, .int 0, .int 0, .ref q2, .ref q3, .ref q4, .ref q5, .ref q6, .int 0, .ref q7, .ref q8, .null, .null, .null, .int 0, .int 0, .int 0])), (q0, .inl (cI, 8, .inl (fun _ => 0))), (q1, .inl (cI, 6, .inl (fun _ => 0))), (q2, .inl (cI, 16, .inl (fun _ => 0))), (q3, .inl (cI, 16, .inl (fun _ => 0))), (q4, .inl (cI, 16, .inl (fun _ => 0))), (q5, .inl (cI, 16, .inl (fun _ => 0))), (q6, .inl (cI, 16, .inl (fun _ => 0))), (q7, .inl (cZ, 120, .inl (fun _ => 0))), (q8, .inl (cI, 120, .inl (fun _ => 0)))]) hnm9 inwX0_init 0 rfl rfl 12 (by decide) (List.mem_of_getElem? (i := 18) rfl) rfl tyX0 tyX0_ok nmX0 rfl rfl rfl rfl (Nat.le_of_ble_eq_true rfl) rfl dX0_init_93 ?_
  refine z_aload_n 0 dX0_init_96 rfl ?_
  refine z_bipush (v := 120) dX0_init_97 rfl ?_
  refine z_newa1 (ty := .int) (cI := cI) (120, .inl (fun _ => 0)) 120 0 rfl (fun _ _ => rfl) (List.mem_of_getElem? (i := 4) rfl) rfl (fun _ => rfl) (by decide) rfl (Nat.le_of_ble_eq_true rfl) (Nat.le_of_ble_eq_true rfl) (Nat.le_of_ble_eq_true rfl) dX0_init_99 (fun q9 => ?_)
  refine z_putF (C := RX0) (T := TX0) (N := 19) (v := .ref q9) (w' := [(h, .inr (0, [.ref q0, .ref q1, .int 0, .int 0, .int 0, .ref q2, .ref q3, .ref q4, .ref q5, .ref q6, .int 0, .ref q7, .ref q8, .ref q9, .null, .null, .int 0, .int 0, .int 0])), (q0, .inl (cI, 8, .inl (fun _ => 0))), (q1, .inl (cI, 6, .inl (fun _ => 0))), (q2, .inl (cI, 16, .inl (fun _ => 0))), (q3, .inl (cI, 16, .inl (fun _ => 0))), (q4, .inl (cI, 16, .inl (fun _ => 0))), (q5, .inl (cI, 16, .inl (fun _ => 0))), (q6, .inl (cI, 16, .inl (fun _ => 0))), (q7, .inl (cZ, 120, .inl (fun _ => 0))), (q8, .inl (cI, 120, .inl (fun _ => 0))), (q9, .inl (cI, 120, .inl (fun _ => 0)))]) hnm9 inwX0_init 0 rfl rfl 13 (by decide) (List.mem_of_getElem? (i := 19) rfl) rfl tyX0 tyX0_ok nmX0 rfl rfl rfl rfl (Nat.le_of_ble_eq_true rfl) rfl dX0_init_101 ?_
  refine z_aload_n 0 dX0_init_104 rfl ?_
  refine z_bipush (v := 120) dX0_init_105 rfl ?_
  refine z_newa1 (ty := .int) (cI := cI) (120, .inl (fun _ => 0)) 120 0 rfl (fun _ _ => rfl) (List.mem_of_getElem? (i := 4) rfl) rfl (fun _ => rfl) (by decide) rfl (Nat.le_of_ble_eq_true rfl) (Nat.le_of_ble_eq_true rfl) (Nat.le_of_ble_eq_true rfl) dX0_init_107 (fun q10 => ?_)
  refine z_putF (C := RX0) (T := TX0) (N := 19) (v := .ref q10) (w' := [(h, .inr (0, [.ref q0, .ref q1, .int 0, .int 0, .int 0, .ref q2, .ref q3, .ref q4, .ref q5, .ref q6, .int 0, .ref q7, .ref q8, .ref q9, .ref q10, .null, .int 0, .int 0, .int 0])), (q0, .inl (cI, 8, .inl (fun _ => 0))), (q1, .inl (cI, 6, .inl (fun _ => 0))), (q2, .inl (cI, 16, .inl (fun _ => 0))), (q3, .inl (cI, 16, .inl (fun _ => 0))), (q4, .inl (cI, 16, .inl (fun _ => 0))), (q5, .inl (cI, 16, .inl (fun _ => 0))), (q6, .inl (cI, 16, .inl (fun _ => 0))), (q7, .inl (cZ, 120, .inl (fun _ => 0))), (q8, .inl (cI, 120, .inl (fun _ => 0))), (q9, .inl (cI, 120, .inl (fun _ => 0))), (q10, .inl (cI, 120, .inl (fun _ => 0)))]) hnm9 inwX0_init 0 rfl rfl 14 (by decide) (List.mem_of_getElem? (i := 20) rfl) rfl tyX0 tyX0_ok nmX0 rfl rfl rfl rfl (Nat.le_of_ble_eq_true rfl) rfl dX0_init_109 ?_
  refine z_aload_n 0 dX0_init_112 rfl ?_
  refine z_bipush (v := 80) dX0_init_113 rfl ?_
  refine z_newa1 (ty := .int) (cI := cI) (80, .inl (fun _ => 0)) 80 0 rfl (fun _ _ => rfl) (List.mem_of_getElem? (i := 4) rfl) rfl (fun _ => rfl) (by decide) rfl (Nat.le_of_ble_eq_true rfl) (Nat.le_of_ble_eq_true rfl) (Nat.le_of_ble_eq_true rfl) dX0_init_115 (fun q11 => ?_)
  refine z_putF (C := RX0) (T := TX0) (N := 19) (v := .ref q11) (w' := [(h, .inr (0, [.ref q0, .ref q1, .int 0, .int 0, .int 0, .ref q2, .ref q3, .ref q4, .ref q5, .ref q6, .int 0, .ref q7, .ref q8, .ref q9, .ref q10, .ref q11, .int 0, .int 0, .int 0])), (q0, .inl (cI, 8, .inl (fun _ => 0))), (q1, .inl (cI, 6, .inl (fun _ => 0))), (q2, .inl (cI, 16, .inl (fun _ => 0))), (q3, .inl (cI, 16, .inl (fun _ => 0))), (q4, .inl (cI, 16, .inl (fun _ => 0))), (q5, .inl (cI, 16, .inl (fun _ => 0))), (q6, .inl (cI, 16, .inl (fun _ => 0))), (q7, .inl (cZ, 120, .inl (fun _ => 0))), (q8, .inl (cI, 120, .inl (fun _ => 0))), (q9, .inl (cI, 120, .inl (fun _ => 0))), (q10, .inl (cI, 120, .inl (fun _ => 0))), (q11, .inl (cI, 80, .inl (fun _ => 0)))]) hnm9 inwX0_init 0 rfl rfl 15 (by decide) (List.mem_of_getElem? (i := 21) rfl) rfl tyX0 tyX0_ok nmX0 rfl rfl rfl rfl (Nat.le_of_ble_eq_true rfl) rfl dX0_init_117 ?_
  refine z_aload_n 0 dX0_init_120 rfl ?_
  refine z_iconst (v := 0) dX0_init_121 rfl ?_
  refine z_put (C := RX0) (T := TX0) (N := 19) (v := .int 0) (w' := [(h, .inr (0, [.ref q0, .ref q1, .int 0, .int 0, .int 0, .ref q2, .ref q3, .ref q4, .ref q5, .ref q6, .int 0, .ref q7, .ref q8, .ref q9, .ref q10, .ref q11, .int 0, .int 0, .int 0])), (q0, .inl (cI, 8, .inl (fun _ => 0))), (q1, .inl (cI, 6, .inl (fun _ => 0))), (q2, .inl (cI, 16, .inl (fun _ => 0))), (q3, .inl (cI, 16, .inl (fun _ => 0))), (q4, .inl (cI, 16, .inl (fun _ => 0))), (q5, .inl (cI, 16, .inl (fun _ => 0))), (q6, .inl (cI, 16, .inl (fun _ => 0))), (q7, .inl (cZ, 120, .inl (fun _ => 0))), (q8, .inl (cI, 120, .inl (fun _ => 0))), (q9, .inl (cI, 120, .inl (fun _ => 0))), (q10, .inl (cI, 120, .inl (fun _ => 0))), (q11, .inl (cI, 80, .inl (fun _ => 0)))]) inwX0_init 0 rfl rfl 16 (by decide) (List.mem_of_getElem? (i := 22) rfl) rfl tyX0 tyX0_ok nmX0 rfl rfl rfl (Nat.le_of_ble_eq_true rfl) rfl dX0_init_122 ?_
  refine z_aload_n 0 dX0_init_125 rfl ?_
  refine z_iconst (v := 0) dX0_init_126 rfl ?_
  refine z_put (C := RX0) (T := TX0) (N := 19) (v := .int 0) (w' := [(h, .inr (0, [.ref q0, .ref q1, .int 0, .int 0, .int 0, .ref q2, .ref q3, .ref q4, .ref q5, .ref q6, .int 0, .ref q7, .ref q8, .ref q9, .ref q10, .ref q11, .int 0, .int 0, .int 0])), (q0, .inl (cI, 8, .inl (fun _ => 0))), (q1, .inl (cI, 6, .inl (fun _ => 0))), (q2, .inl (cI, 16, .inl (fun _ => 0))), (q3, .inl (cI, 16, .inl (fun _ => 0))), (q4, .inl (cI, 16, .inl (fun _ => 0))), (q5, .inl (cI, 16, .inl (fun _ => 0))), (q6, .inl (cI, 16, .inl (fun _ => 0))), (q7, .inl (cZ, 120, .inl (fun _ => 0))), (q8, .inl (cI, 120, .inl (fun _ => 0))), (q9, .inl (cI, 120, .inl (fun _ => 0))), (q10, .inl (cI, 120, .inl (fun _ => 0))), (q11, .inl (cI, 80, .inl (fun _ => 0)))]) inwX0_init 0 rfl rfl 17 (by decide) (List.mem_of_getElem? (i := 23) rfl) rfl tyX0 tyX0_ok nmX0 rfl rfl rfl (Nat.le_of_ble_eq_true rfl) rfl dX0_init_127 ?_
  refine z_aload_n 0 dX0_init_130 rfl ?_
  refine z_iconst (v := 0) dX0_init_131 rfl ?_
  refine z_put (C := RX0) (T := TX0) (N := 19) (v := .int 0) (w' := [(h, .inr (0, [.ref q0, .ref q1, .int 0, .int 0, .int 0, .ref q2, .ref q3, .ref q4, .ref q5, .ref q6, .int 0, .ref q7, .ref q8, .ref q9, .ref q10, .ref q11, .int 0, .int 0, .int 0])), (q0, .inl (cI, 8, .inl (fun _ => 0))), (q1, .inl (cI, 6, .inl (fun _ => 0))), (q2, .inl (cI, 16, .inl (fun _ => 0))), (q3, .inl (cI, 16, .inl (fun _ => 0))), (q4, .inl (cI, 16, .inl (fun _ => 0))), (q5, .inl (cI, 16, .inl (fun _ => 0))), (q6, .inl (cI, 16, .inl (fun _ => 0))), (q7, .inl (cZ, 120, .inl (fun _ => 0))), (q8, .inl (cI, 120, .inl (fun _ => 0))), (q9, .inl (cI, 120, .inl (fun _ => 0))), (q10, .inl (cI, 120, .inl (fun _ => 0))), (q11, .inl (cI, 80, .inl (fun _ => 0)))]) inwX0_init 0 rfl rfl 18 (by decide) (List.mem_of_getElem? (i := 24) rfl) rfl tyX0 tyX0_ok nmX0 rfl rfl rfl (Nat.le_of_ble_eq_true rfl) rfl dX0_init_132 ?_
  refine z_iconst (v := 0) dX0_init_135 rfl ?_
  refine z_istore_n (L' := [(1, .int 0), (0, .ref h)]) dX0_init_136 (by decide) rfl ?_
  refine z_sub (L' := [(0, .ref h), (1, .int (nI 0))]) [1, 0] rfl ?_
  obtain ⟨aF, haF⟩ : ∃ aF, aF = (fun k => if k = 0 then q0 else if k = 1 then q1 else if k = 5 then q2 else if k = 6 then q3 else if k = 7 then q4 else if k = 8 then q5 else if k = 9 then q6 else if k = 11 then q7 else if k = 12 then q8 else if k = 13 then q9 else if k = 14 then q10 else if k = 15 then q11 else 0) := ⟨_, rfl⟩
  have hloop : ∀ r k : Nat, k + r = 80 → ZW E zTT ({ frames := 1, cells := 12, slots := 654, locals := 12 } : Room) cX0_init RX0 wsX0_init 2 D [(cI, .int), (cZ, .boolean)] 12 654 (wX0 cI cZ h aF (l_X0_init k)) 137 [(0, .ref h), (1, .int (nI k))] [] := by
    intro r
    induction r with
    | zero =>
      intro k hk
      have hkN : 80 = k := by omega
      subst hkN
      refine z_iload_n 1 dX0_init_137 rfl ?_
      refine z_bipush (v := 80) dX0_init_138 rfl ?_
      refine z_icmp_ge 156 dX0_init_140 (by decide) (fun c => ?_) (fun c => absurd (show (80 : Int32) ≤ nI 80 from by decide) c)
      exact hret (aF, cI, cZ) _ _ _ _ dX0_init_156 trivial rfl rfl
    | succ r ih =>
      intro k hk
      refine z_iload_n 1 dX0_init_137 rfl ?_
      refine z_bipush (v := 80) dX0_init_138 rfl ?_
      refine z_icmp_ge 156 dX0_init_140 (by decide) (fun c => absurd c (nI_ge (b := 80) (by omega) (by omega))) (fun c => ?_)
      refine z_aload_n 0 dX0_init_143 rfl ?_
      refine z_get (C := RX0) (T := TX0) (N := 19) (v := .ref (aF 15)) inwX0_init 0 rfl rfl 15 (by decide) (List.mem_of_getElem? (i := 21) rfl) rfl rfl dX0_init_144 ?_
      refine z_iload_n 1 dX0_init_147 rfl ?_
      refine z_iconst (v := (-1)) dX0_init_148 rfl ?_
      refine z_iast (w' := (wX0 cI cZ h aF (l_X0_init (k + 1)))) 12 0 rfl rfl (vp_in_nI (by omega) (by omega)) (wX0_g15 _ _ _ _ _ _ _) dX0_init_149 ?_
      refine z_iinc (v := (nI (k + 1))) (L' := [(1, .int (nI (k + 1))), (0, .ref h)]) 1 dX0_init_150 rfl (nI_1 k) (by decide) rfl ?_
      refine z_goto 137 dX0_init_153 (by decide) ?_
      refine z_sub (L' := [(0, .ref h), (1, .int (nI (k + 1)))]) [1, 0] rfl ?_
      exact ih (k + 1) (by omega)
  subst haF
  exact hloop 80 0 (by omega)
