set_option maxHeartbeats 4000000 in
set_option maxRecDepth 100000 in
theorem c_L_alike (l : Launch) (D : va_G) (cI cZ cI2 cZ2 : ClassId) (h h2 : Nat) (a a2 : Nat → Nat) (u : SX) (hnd : u.1 10 = nI 1) (hnn : u.1 16 = nI 0) : zMi l yL_alike wsL_alike ({ frames := 5, cells := 0, slots := 0, locals := 109 } : Room) zTT D [(cI, .int), (cZ, .boolean), (cI2, .int), (cZ2, .boolean)] ((wX0 cI cZ h a u) ++ (wX0 cI2 cZ2 h2 a2 u)) [.ref h, .ref h2] (fun (r : Int32) (_ : Unit) => r = 1) (fun _ => ((wX0 cI cZ h a u) ++ (wX0 cI2 cZ2 h2 a2 u))) 0 0 := by
  refine z_startZK (cc := cL_alike) (n := 4) (own := RL) (L0 := [(0, .ref h), (1, .ref h2)]) (plainFor_of_name (by decide)) rfl rfl (Nat.le_of_ble_eq_true rfl) rfl (fun E hEl hret => ?_)
  refine z_aload_n 0 dL_alike_0 rfl ?_
  refine z_callVi_fr (As := []) (st := []) [] (wX0 cI2 cZ2 h2 a2 u) (fun l => c_X0_clock l D cI cZ h a u) zGok_TT (fun _ _ _ => trivial) (fun s args hts => cwV 0 hts gL_alike_X0_clock rfl rfl rfl (by decide +kernel) ⟨Nat.le_of_ble_eq_true rfl, Nat.le_of_ble_eq_true rfl⟩) (ci := 0) rfl rfl rfl [0, 1] rfl rfl rfl (Nat.le_of_ble_eq_true rfl) ⟨Nat.le_of_ble_eq_true rfl, Nat.le_of_ble_eq_true rfl⟩ dL_alike_1 rfl (fun r _ hp => ?_)
  subst hp
  refine z_eqc (cells' := 0) (slots' := 0) (by decide) (by decide) ?_
  refine z_eqw (w' := ((wX0 cI cZ h a u) ++ (wX0 cI2 cZ2 h2 a2 u))) rfl ?_
  refine z_aload_n 1 dL_alike_4 rfl ?_
  refine z_callVi_fr (As := []) (st := [.int (r_X0_clock u)]) (wX0 cI cZ h a u) [] (fun l => c_X0_clock l D cI2 cZ2 h2 a2 u) zGok_TT (fun _ _ _ => trivial) (fun s args hts => cwV 0 hts gL_alike_X0_clock rfl rfl rfl (by decide +kernel) ⟨Nat.le_of_ble_eq_true rfl, Nat.le_of_ble_eq_true rfl⟩) (ci := 0) rfl rfl rfl [2, 3] rfl rfl rfl (Nat.le_of_ble_eq_true rfl) ⟨Nat.le_of_ble_eq_true rfl, Nat.le_of_ble_eq_true rfl⟩ dL_alike_5 rfl (fun r _ hp => ?_)
  subst hp
  refine z_eqc (cells' := 0) (slots' := 0) (by decide) (by decide) ?_
  refine z_eqw (w' := ((wX0 cI cZ h a u) ++ (wX0 cI2 cZ2 h2 a2 u))) rfl ?_
  refine z_icmp_ne 48 dL_alike_8 (by decide) (fun c => absurd rfl c) (fun _ => ?_)
  refine z_aload_n 0 dL_alike_11 rfl ?_
  refine z_callVi_fr (As := []) (st := []) [] (wX0 cI2 cZ2 h2 a2 u) (fun l => c_X0_devices l D cI cZ h a u) zGok_TT (fun _ _ _ => trivial) (fun s args hts => cwV 0 hts gL_alike_X0_devices rfl rfl rfl (by decide +kernel) ⟨Nat.le_of_ble_eq_true rfl, Nat.le_of_ble_eq_true rfl⟩) (ci := 0) rfl rfl rfl [0, 1] rfl rfl rfl (Nat.le_of_ble_eq_true rfl) ⟨Nat.le_of_ble_eq_true rfl, Nat.le_of_ble_eq_true rfl⟩ dL_alike_12 rfl (fun r _ hp => ?_)
  have hp2 : r = 1 := hp.trans hnd; subst hp2
  refine z_eqc (cells' := 0) (slots' := 0) (by decide) (by decide) ?_
  refine z_eqw (w' := ((wX0 cI cZ h a u) ++ (wX0 cI2 cZ2 h2 a2 u))) rfl ?_
  refine z_aload_n 1 dL_alike_15 rfl ?_
  refine z_callVi_fr (As := []) (st := [.int 1]) (wX0 cI cZ h a u) [] (fun l => c_X0_devices l D cI2 cZ2 h2 a2 u) zGok_TT (fun _ _ _ => trivial) (fun s args hts => cwV 0 hts gL_alike_X0_devices rfl rfl rfl (by decide +kernel) ⟨Nat.le_of_ble_eq_true rfl, Nat.le_of_ble_eq_true rfl⟩) (ci := 0) rfl rfl rfl [2, 3] rfl rfl rfl (Nat.le_of_ble_eq_true rfl) ⟨Nat.le_of_ble_eq_true rfl, Nat.le_of_ble_eq_true rfl⟩ dL_alike_16 rfl (fun r _ hp => ?_)
  have hp2 : r = 1 := hp.trans hnd; subst hp2
  refine z_eqc (cells' := 0) (slots' := 0) (by decide) (by decide) ?_
  refine z_eqw (w' := ((wX0 cI cZ h a u) ++ (wX0 cI2 cZ2 h2 a2 u))) rfl ?_
  refine z_icmp_ne 48 dL_alike_19 (by decide) (fun c => absurd rfl c) (fun _ => ?_)
  refine z_aload_n 0 dL_alike_22 rfl ?_
  refine z_callVi_fr (As := []) (st := []) [] (wX0 cI2 cZ2 h2 a2 u) (fun l => c_X0_sent l D cI cZ h a u) zGok_TT (fun _ _ _ => trivial) (fun s args hts => cwV 0 hts gL_alike_X0_sent rfl rfl rfl (by decide +kernel) ⟨Nat.le_of_ble_eq_true rfl, Nat.le_of_ble_eq_true rfl⟩) (ci := 0) rfl rfl rfl [0, 1] rfl rfl rfl (Nat.le_of_ble_eq_true rfl) ⟨Nat.le_of_ble_eq_true rfl, Nat.le_of_ble_eq_true rfl⟩ dL_alike_23 rfl (fun r _ hp => ?_)
  have hp2 : r = 0 := hp.trans hnn; subst hp2
  refine z_eqc (cells' := 0) (slots' := 0) (by decide) (by decide) ?_
  refine z_eqw (w' := ((wX0 cI cZ h a u) ++ (wX0 cI2 cZ2 h2 a2 u))) rfl ?_
  refine z_aload_n 1 dL_alike_26 rfl ?_
  refine z_callVi_fr (As := []) (st := [.int 0]) (wX0 cI cZ h a u) [] (fun l => c_X0_sent l D cI2 cZ2 h2 a2 u) zGok_TT (fun _ _ _ => trivial) (fun s args hts => cwV 0 hts gL_alike_X0_sent rfl rfl rfl (by decide +kernel) ⟨Nat.le_of_ble_eq_true rfl, Nat.le_of_ble_eq_true rfl⟩) (ci := 0) rfl rfl rfl [2, 3] rfl rfl rfl (Nat.le_of_ble_eq_true rfl) ⟨Nat.le_of_ble_eq_true rfl, Nat.le_of_ble_eq_true rfl⟩ dL_alike_27 rfl (fun r _ hp => ?_)
  have hp2 : r = 0 := hp.trans hnn; subst hp2
  refine z_eqc (cells' := 0) (slots' := 0) (by decide) (by decide) ?_
  refine z_eqw (w' := ((wX0 cI cZ h a u) ++ (wX0 cI2 cZ2 h2 a2 u))) rfl ?_
  refine z_icmp_ne 48 dL_alike_30 (by decide) (fun c => absurd rfl c) (fun _ => ?_)
  refine z_aload_n 0 dL_alike_33 rfl ?_
  refine z_callVi_fr (As := []) (st := []) [] (wX0 cI2 cZ2 h2 a2 u) (fun l => c_X0_deliveries l D cI cZ h a u) zGok_TT (fun _ _ _ => trivial) (fun s args hts => cwV 0 hts gL_alike_X0_deliveries rfl rfl rfl (by decide +kernel) ⟨Nat.le_of_ble_eq_true rfl, Nat.le_of_ble_eq_true rfl⟩) (ci := 0) rfl rfl rfl [0, 1] rfl rfl rfl (Nat.le_of_ble_eq_true rfl) ⟨Nat.le_of_ble_eq_true rfl, Nat.le_of_ble_eq_true rfl⟩ dL_alike_34 rfl (fun r _ hp => ?_)
  subst hp
  refine z_eqc (cells' := 0) (slots' := 0) (by decide) (by decide) ?_
  refine z_eqw (w' := ((wX0 cI cZ h a u) ++ (wX0 cI2 cZ2 h2 a2 u))) rfl ?_
  refine z_aload_n 1 dL_alike_37 rfl ?_
  refine z_callVi_fr (As := []) (st := [.int (r_X0_deliveries u)]) (wX0 cI cZ h a u) [] (fun l => c_X0_deliveries l D cI2 cZ2 h2 a2 u) zGok_TT (fun _ _ _ => trivial) (fun s args hts => cwV 0 hts gL_alike_X0_deliveries rfl rfl rfl (by decide +kernel) ⟨Nat.le_of_ble_eq_true rfl, Nat.le_of_ble_eq_true rfl⟩) (ci := 0) rfl rfl rfl [2, 3] rfl rfl rfl (Nat.le_of_ble_eq_true rfl) ⟨Nat.le_of_ble_eq_true rfl, Nat.le_of_ble_eq_true rfl⟩ dL_alike_38 rfl (fun r _ hp => ?_)
  subst hp
  refine z_eqc (cells' := 0) (slots' := 0) (by decide) (by decide) ?_
  refine z_eqw (w' := ((wX0 cI cZ h a u) ++ (wX0 cI2 cZ2 h2 a2 u))) rfl ?_
  refine z_icmp_ne 48 dL_alike_41 (by decide) (fun c => absurd rfl c) (fun _ => ?_)
  refine z_iconst (v := 1) dL_alike_44 rfl ?_
  refine z_goto 49 dL_alike_45 (by decide) ?_
  refine z_istore_n (L' := [(2, .int 1), (0, .ref h), (1, .ref h2)]) dL_alike_49 (by decide) rfl ?_
  refine z_iconst (v := 0) dL_alike_50 rfl ?_
  refine z_istore_n (L' := [(3, .int 0), (2, .int 1), (0, .ref h), (1, .ref h2)]) dL_alike_51 (by decide) rfl ?_
  refine z_iload_n 0 dL_alike_52 rfl ?_
  refine z_aload_n 2 dL_alike_53 rfl ?_
  refine z_callVi_fr (As := []) (st := [.int 0]) [] (wX0 cI2 cZ2 h2 a2 u) (fun l => c_X0_devices l D cI cZ h a u) zGok_TT (fun _ _ _ => trivial) (fun s args hts => cwV 0 hts gL_alike_X0_devices rfl rfl rfl (by decide +kernel) ⟨Nat.le_of_ble_eq_true rfl, Nat.le_of_ble_eq_true rfl⟩) (ci := 0) rfl rfl rfl [0, 1] rfl rfl rfl (Nat.le_of_ble_eq_true rfl) ⟨Nat.le_of_ble_eq_true rfl, Nat.le_of_ble_eq_true rfl⟩ dL_alike_54 rfl (fun r _ hp => ?_)
  have hp2 : r = 1 := hp.trans hnd; subst hp2
  refine z_eqc (cells' := 0) (slots' := 0) (by decide) (by decide) ?_
  refine z_eqw (w' := ((wX0 cI cZ h a u) ++ (wX0 cI2 cZ2 h2 a2 u))) rfl ?_
  refine z_icmp_ge 128 dL_alike_57 (by decide) (fun c => absurd c (by decide)) (fun _ => ?_)
  refine z_iload_n 1 dL_alike_60 rfl ?_
  refine z_if_eq 128 dL_alike_61 (by decide) (fun c => absurd c (by decide)) (fun _ => ?_)
  refine z_aload_n 2 dL_alike_64 rfl ?_
  refine z_iload_n 0 dL_alike_65 rfl ?_
  refine z_callWi_fr (As := [.ref h, .int 0]) (st := []) [] (wX0 cI2 cZ2 h2 a2 u) (fun l hl9 => kn_badge l D cI cZ h a u 0 (g_badge (dok hnd)) 1 hnd (by omega) 0 hnn (by omega)) zGok_TT (fun _ _ _ => trivial) (fun s args hts => vx_cwSW 2 hts gL_alike_L_badge rfl rfl rfl (by decide +kernel) ⟨Nat.le_of_ble_eq_true rfl, Nat.le_of_ble_eq_true rfl⟩) [0, 1] rfl rfl rfl (Nat.le_of_ble_eq_true rfl) ⟨Nat.le_of_ble_eq_true rfl, Nat.le_of_ble_eq_true rfl⟩ dL_alike_66 rfl (fun r _ hp => ?_)
  subst hp
  refine z_eqc (cells' := 0) (slots' := 0) (by decide) (by decide) ?_
  refine z_eqw (w' := ((wX0 cI cZ h a u) ++ (wX0 cI2 cZ2 h2 a2 u))) rfl ?_
  refine z_aload_n 3 dL_alike_69 rfl ?_
  refine z_iload_n 0 dL_alike_70 rfl ?_
  refine z_callWi_fr (As := [.ref h2, .int 0]) (st := [.int (r_X0_badge u 0)]) (wX0 cI cZ h a u) [] (fun l hl9 => kn_badge l D cI2 cZ2 h2 a2 u 0 (g_badge (dok hnd)) 1 hnd (by omega) 0 hnn (by omega)) zGok_TT (fun _ _ _ => trivial) (fun s args hts => vx_cwSW 2 hts gL_alike_L_badge rfl rfl rfl (by decide +kernel) ⟨Nat.le_of_ble_eq_true rfl, Nat.le_of_ble_eq_true rfl⟩) [2, 3] rfl rfl rfl (Nat.le_of_ble_eq_true rfl) ⟨Nat.le_of_ble_eq_true rfl, Nat.le_of_ble_eq_true rfl⟩ dL_alike_71 rfl (fun r _ hp => ?_)
  subst hp
  refine z_eqc (cells' := 0) (slots' := 0) (by decide) (by decide) ?_
  refine z_eqw (w' := ((wX0 cI cZ h a u) ++ (wX0 cI2 cZ2 h2 a2 u))) rfl ?_
  refine z_icmp_ne 120 dL_alike_74 (by decide) (fun c => absurd rfl c) (fun _ => ?_)
  refine z_aload_n 2 dL_alike_77 rfl ?_
  refine z_iload_n 0 dL_alike_78 rfl ?_
  refine z_callWi_fr (As := [.ref h, .int 0]) (st := []) [] (wX0 cI2 cZ2 h2 a2 u) (fun l hl9 => kn_waiting l D cI cZ h a u 0 (g_waiting (dok hnd)) 1 hnd (by omega) 0 hnn (by omega)) zGok_TT (fun _ _ _ => trivial) (fun s args hts => vx_cwSW 2 hts gL_alike_L_waiting rfl rfl rfl (by decide +kernel) ⟨Nat.le_of_ble_eq_true rfl, Nat.le_of_ble_eq_true rfl⟩) [0, 1] rfl rfl rfl (Nat.le_of_ble_eq_true rfl) ⟨Nat.le_of_ble_eq_true rfl, Nat.le_of_ble_eq_true rfl⟩ dL_alike_79 rfl (fun r _ hp => ?_)
  subst hp
  refine z_eqc (cells' := 0) (slots' := 0) (by decide) (by decide) ?_
  refine z_eqw (w' := ((wX0 cI cZ h a u) ++ (wX0 cI2 cZ2 h2 a2 u))) rfl ?_
  refine z_aload_n 3 dL_alike_82 rfl ?_
  refine z_iload_n 0 dL_alike_83 rfl ?_
  refine z_callWi_fr (As := [.ref h2, .int 0]) (st := [.int (r_X0_waiting u 0)]) (wX0 cI cZ h a u) [] (fun l hl9 => kn_waiting l D cI2 cZ2 h2 a2 u 0 (g_waiting (dok hnd)) 1 hnd (by omega) 0 hnn (by omega)) zGok_TT (fun _ _ _ => trivial) (fun s args hts => vx_cwSW 2 hts gL_alike_L_waiting rfl rfl rfl (by decide +kernel) ⟨Nat.le_of_ble_eq_true rfl, Nat.le_of_ble_eq_true rfl⟩) [2, 3] rfl rfl rfl (Nat.le_of_ble_eq_true rfl) ⟨Nat.le_of_ble_eq_true rfl, Nat.le_of_ble_eq_true rfl⟩ dL_alike_84 rfl (fun r _ hp => ?_)
  subst hp
  refine z_eqc (cells' := 0) (slots' := 0) (by decide) (by decide) ?_
  refine z_eqw (w' := ((wX0 cI cZ h a u) ++ (wX0 cI2 cZ2 h2 a2 u))) rfl ?_
  refine z_icmp_ne 120 dL_alike_87 (by decide) (fun c => absurd rfl c) (fun _ => ?_)
  refine z_aload_n 2 dL_alike_90 rfl ?_
  refine z_iload_n 0 dL_alike_91 rfl ?_
  refine z_callWi_fr (As := [.ref h, .int 0]) (st := []) [] (wX0 cI2 cZ2 h2 a2 u) (fun l hl9 => kn_quota l D cI cZ h a u 0 (g_quota (dok hnd)) 1 hnd (by omega)) zGok_TT (fun _ _ _ => trivial) (fun s args hts => vx_cwSW 2 hts gL_alike_L_quota rfl rfl rfl (by decide +kernel) ⟨Nat.le_of_ble_eq_true rfl, Nat.le_of_ble_eq_true rfl⟩) [0, 1] rfl rfl rfl (Nat.le_of_ble_eq_true rfl) ⟨Nat.le_of_ble_eq_true rfl, Nat.le_of_ble_eq_true rfl⟩ dL_alike_92 rfl (fun r _ hp => ?_)
  subst hp
  refine z_eqc (cells' := 0) (slots' := 0) (by decide) (by decide) ?_
  refine z_eqw (w' := ((wX0 cI cZ h a u) ++ (wX0 cI2 cZ2 h2 a2 u))) rfl ?_
  refine z_aload_n 3 dL_alike_95 rfl ?_
  refine z_iload_n 0 dL_alike_96 rfl ?_
  refine z_callWi_fr (As := [.ref h2, .int 0]) (st := [.int (r_X0_quota u 0)]) (wX0 cI cZ h a u) [] (fun l hl9 => kn_quota l D cI2 cZ2 h2 a2 u 0 (g_quota (dok hnd)) 1 hnd (by omega)) zGok_TT (fun _ _ _ => trivial) (fun s args hts => vx_cwSW 2 hts gL_alike_L_quota rfl rfl rfl (by decide +kernel) ⟨Nat.le_of_ble_eq_true rfl, Nat.le_of_ble_eq_true rfl⟩) [2, 3] rfl rfl rfl (Nat.le_of_ble_eq_true rfl) ⟨Nat.le_of_ble_eq_true rfl, Nat.le_of_ble_eq_true rfl⟩ dL_alike_97 rfl (fun r _ hp => ?_)
  subst hp
  refine z_eqc (cells' := 0) (slots' := 0) (by decide) (by decide) ?_
  refine z_eqw (w' := ((wX0 cI cZ h a u) ++ (wX0 cI2 cZ2 h2 a2 u))) rfl ?_
  refine z_icmp_ne 120 dL_alike_100 (by decide) (fun c => absurd rfl c) (fun _ => ?_)
  refine z_aload_n 2 dL_alike_103 rfl ?_
  refine z_iload_n 0 dL_alike_104 rfl ?_
  refine z_callWi_fr (As := [.ref h, .int 0]) (st := []) [] (wX0 cI2 cZ2 h2 a2 u) (fun l hl9 => kn_quiet l D cI cZ h a u 0 (g_isQuiet (dok hnd)) 1 hnd (by omega)) zGok_TT (fun _ _ _ => trivial) (fun s args hts => vx_cwSW 2 hts gL_alike_L_quiet rfl rfl rfl (by decide +kernel) ⟨Nat.le_of_ble_eq_true rfl, Nat.le_of_ble_eq_true rfl⟩) [0, 1] rfl rfl rfl (Nat.le_of_ble_eq_true rfl) ⟨Nat.le_of_ble_eq_true rfl, Nat.le_of_ble_eq_true rfl⟩ dL_alike_105 rfl (fun r _ hp => ?_)
  subst hp
  refine z_eqc (cells' := 0) (slots' := 0) (by decide) (by decide) ?_
  refine z_eqw (w' := ((wX0 cI cZ h a u) ++ (wX0 cI2 cZ2 h2 a2 u))) rfl ?_
  refine z_aload_n 3 dL_alike_108 rfl ?_
  refine z_iload_n 0 dL_alike_109 rfl ?_
  refine z_callWi_fr (As := [.ref h2, .int 0]) (st := [.int (if r_X0_isQuiet u 0 = 0 then 0 else 1)]) (wX0 cI cZ h a u) [] (fun l hl9 => kn_quiet l D cI2 cZ2 h2 a2 u 0 (g_isQuiet (dok hnd)) 1 hnd (by omega)) zGok_TT (fun _ _ _ => trivial) (fun s args hts => vx_cwSW 2 hts gL_alike_L_quiet rfl rfl rfl (by decide +kernel) ⟨Nat.le_of_ble_eq_true rfl, Nat.le_of_ble_eq_true rfl⟩) [2, 3] rfl rfl rfl (Nat.le_of_ble_eq_true rfl) ⟨Nat.le_of_ble_eq_true rfl, Nat.le_of_ble_eq_true rfl⟩ dL_alike_110 rfl (fun r _ hp => ?_)
  subst hp
  refine z_eqc (cells' := 0) (slots' := 0) (by decide) (by decide) ?_
  refine z_eqw (w' := ((wX0 cI cZ h a u) ++ (wX0 cI2 cZ2 h2 a2 u))) rfl ?_
  refine z_icmp_ne 120 dL_alike_113 (by decide) (fun c => absurd rfl c) (fun _ => ?_)
  refine z_iconst (v := 1) dL_alike_116 rfl ?_
  refine z_goto 121 dL_alike_117 (by decide) ?_
  refine z_istore_n (L' := [(2, .int 1), (3, .int 0), (0, .ref h), (1, .ref h2)]) dL_alike_121 (by decide) rfl ?_
  refine z_iinc (v := 1) (L' := [(3, .int 1), (2, .int 1), (0, .ref h), (1, .ref h2)]) 1 dL_alike_122 rfl rfl (by decide) rfl ?_
  refine z_goto 52 dL_alike_125 (by decide) ?_
  refine z_iload_n 0 dL_alike_52 rfl ?_
  refine z_aload_n 2 dL_alike_53 rfl ?_
  refine z_callVi_fr (As := []) (st := [.int 1]) [] (wX0 cI2 cZ2 h2 a2 u) (fun l => c_X0_devices l D cI cZ h a u) zGok_TT (fun _ _ _ => trivial) (fun s args hts => cwV 0 hts gL_alike_X0_devices rfl rfl rfl (by decide +kernel) ⟨Nat.le_of_ble_eq_true rfl, Nat.le_of_ble_eq_true rfl⟩) (ci := 0) rfl rfl rfl [0, 1] rfl rfl rfl (Nat.le_of_ble_eq_true rfl) ⟨Nat.le_of_ble_eq_true rfl, Nat.le_of_ble_eq_true rfl⟩ dL_alike_54 rfl (fun r _ hp => ?_)
  have hp2 : r = 1 := hp.trans hnd; subst hp2
  refine z_eqc (cells' := 0) (slots' := 0) (by decide) (by decide) ?_
  refine z_eqw (w' := ((wX0 cI cZ h a u) ++ (wX0 cI2 cZ2 h2 a2 u))) rfl ?_
  refine z_icmp_ge 128 dL_alike_57 (by decide) (fun _ => ?_) (fun c => absurd (by decide) c)
  refine z_iconst (v := 0) dL_alike_128 rfl ?_
  refine z_istore_n (L' := [(3, .int 0), (2, .int 1), (0, .ref h), (1, .ref h2)]) dL_alike_129 (by decide) rfl ?_
  refine z_iload_n 0 dL_alike_130 rfl ?_
  refine z_aload_n 2 dL_alike_131 rfl ?_
  refine z_callVi_fr (As := []) (st := [.int 0]) [] (wX0 cI2 cZ2 h2 a2 u) (fun l => c_X0_sent l D cI cZ h a u) zGok_TT (fun _ _ _ => trivial) (fun s args hts => cwV 0 hts gL_alike_X0_sent rfl rfl rfl (by decide +kernel) ⟨Nat.le_of_ble_eq_true rfl, Nat.le_of_ble_eq_true rfl⟩) (ci := 0) rfl rfl rfl [0, 1] rfl rfl rfl (Nat.le_of_ble_eq_true rfl) ⟨Nat.le_of_ble_eq_true rfl, Nat.le_of_ble_eq_true rfl⟩ dL_alike_132 rfl (fun r _ hp => ?_)
  have hp2 : r = 0 := hp.trans hnn; subst hp2
  refine z_eqc (cells' := 0) (slots' := 0) (by decide) (by decide) ?_
  refine z_eqw (w' := ((wX0 cI cZ h a u) ++ (wX0 cI2 cZ2 h2 a2 u))) rfl ?_
  refine z_icmp_ge 193 dL_alike_135 (by decide) (fun _ => ?_) (fun c => absurd (by decide) c)
  refine z_iload_n 1 dL_alike_193 rfl ?_
  refine z_eqc (cells' := 0) (slots' := 0) (by decide) (by decide) ?_
  exact hret _ () _ _ _ dL_alike_194 rfl rfl rfl
