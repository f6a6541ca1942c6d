set_option maxHeartbeats 4000000 in
set_option maxRecDepth 100000 in
theorem c_L_act (l : Launch) (D : va_G) (cI cZ : ClassId) (h : Nat) (a : Nat → Nat) (u : SX) (n : Nat) (z : Int32) (hn : n < 2147483648) (hx : n % 16 = 0) (hnd : u.1 10 = nI 0) : zMi l yL_act wsL_act ({ frames := 3, cells := 0, slots := 0, locals := 68 } : Room) zTT D [(cI, .int), (cZ, .boolean)] (wX0 cI cZ h a u) [.ref h, .int (nI n), .int z] (fun (r : Int32) (_ : Unit) => r = (r_X0_addDevice u (nI (n / 16) - nI (n / 16) / 3 * 3) ((nI (n / 16) / 3 - nI (n / 16) / 3 / 1561 * 1561) - 720))) (fun _ => (wX0 cI cZ h a (s_X0_addDevice u (nI (n / 16) - nI (n / 16) / 3 * 3) ((nI (n / 16) / 3 - nI (n / 16) / 3 / 1561 * 1561) - 720)))) 0 0 := by
  refine z_startIK (cc := cL_act) (n := 9) (own := RL) (L0 := [(0, .ref h), (1, .int (nI n)), (2, .int z)]) (plainFor_of_name (by decide)) rfl rfl (Nat.le_of_ble_eq_true rfl) rfl (fun E hEl hret => ?_)
  refine z_iload_n 1 dL_act_0 rfl ?_
  refine z_bipush (v := 16) dL_act_1 rfl ?_
  refine z_idiv dL_act_3 (by decide) ?_
  obtain ⟨y, hy⟩ : ∃ y, y = n / 16 := ⟨_, rfl⟩
  rw [← hy] at hret
  refine z_eqs (st' := [.int (nI y)]) (by rw [hy, show nI n / 16 = nI (n / 16) from pk_div (d := 16) (by omega) (by omega) (by omega)]) ?_
  refine z_istore_n (L' := [(3, .int (nI y)), (0, .ref h), (1, .int (nI n)), (2, .int z)]) dL_act_4 (by decide) rfl ?_
  refine z_aload_n 1 dL_act_5 rfl ?_
  refine z_callVi (As := []) (st := []) (fun l => c_X0_devices l D cI cZ h a u) zGok_TT (fun _ _ _ => trivial) (fun s args hts => cwV 0 hts gL_act_X0_devices rfl rfl rfl (by decide +kernel) ⟨Nat.le_of_ble_eq_true rfl, Nat.le_of_ble_eq_true rfl⟩) (ci := 0) rfl rfl rfl rfl (Nat.le_of_ble_eq_true rfl) ⟨Nat.le_of_ble_eq_true rfl, Nat.le_of_ble_eq_true rfl⟩ dL_act_6 rfl (fun r _ hp => ?_)
  have hp2 : r = 0 := hp.trans hnd; subst hp2
  refine z_eqc (cells' := 0) (slots' := 0) (by decide) (by decide) ?_
  refine z_if_ne 16 dL_act_9 (by decide) (fun c => absurd rfl c) (fun _ => ?_)
  refine z_iconst (v := 0) dL_act_12 rfl ?_
  refine z_goto 22 dL_act_13 (by decide) ?_
  refine z_istore (L' := [(4, .int 0), (3, .int (nI y)), (0, .ref h), (1, .int (nI n)), (2, .int z)]) dL_act_22 (by decide) rfl ?_
  refine z_iload_n 1 dL_act_24 rfl ?_
  refine z_bipush (v := 16) dL_act_25 rfl ?_
  refine z_idiv dL_act_27 (by decide) ?_
  refine z_iconst (v := 2) dL_act_28 rfl ?_
  refine z_irem dL_act_29 (by decide) ?_
  have B : ∀ f : Int32, ZW E zTT ({ frames := 3, cells := 0, slots := 0, locals := 68 } : Room) cL_act RL wsL_act 9 D [(cI, .int), (cZ, .boolean)] 0 0 (wX0 cI cZ h a u) 38 [(4, .int 0), (3, .int (nI y)), (0, .ref h), (1, .int (nI n)), (2, .int z)] [.int f] := by
    intro f
    refine z_istore (L' := [(5, .int f), (4, .int 0), (3, .int (nI y)), (0, .ref h), (1, .int (nI n)), (2, .int z)]) dL_act_38 (by decide) rfl ?_
    refine z_iload_n 4 dL_act_40 rfl ?_
    refine z_bipush (v := 16) dL_act_41 rfl ?_
    refine z_irem dL_act_43 (by decide) ?_
    refine z_eqs (st' := [.int 0]) (by rw [show nI n - nI n / 16 * 16 = nI (n % 16) from pk_rem (d := 16) (by omega) (by omega) (by omega), hx]; rfl) ?_
    refine z_tableIn 112 dL_act_44 (by decide) (by decide) (off := 68) rfl (by decide) ?_
    refine z_aload_n 3 dL_act_112 rfl ?_
    refine z_iload_n 2 dL_act_113 rfl ?_
    refine z_iconst (v := 3) dL_act_114 rfl ?_
    refine z_irem dL_act_115 (by decide) ?_
    refine z_iload_n 2 dL_act_116 rfl ?_
    refine z_iconst (v := 3) dL_act_117 rfl ?_
    refine z_idiv dL_act_118 (by decide) ?_
    refine z_sipush (v := 1561) dL_act_119 rfl ?_
    refine z_irem dL_act_122 (by decide) ?_
    refine z_sipush (v := 720) dL_act_123 rfl ?_
    refine z_isub dL_act_126 ?_
    refine z_callWi1 (As := [.ref h, .int ((nI y) - (nI y) / 3 * 3), .int ((((nI y) / 3) - ((nI y) / 3) / 1561 * 1561) - 720)]) (st := []) (fun l hl9 => kn_adds l D cI cZ h a u (nI y - nI y / 3 * 3) ((nI y / 3 - nI y / 3 / 1561 * 1561) - 720) (g_adds (by omega) hnd) 0 hnd (by omega)) zGok_TT (fun _ _ _ => trivial) (fun s args hts => vx_cwSW 3 hts gL_act_L_adds rfl rfl rfl (by decide +kernel) ⟨Nat.le_of_ble_eq_true rfl, Nat.le_of_ble_eq_true rfl⟩) [0, 1] rfl rfl (Nat.le_of_ble_eq_true rfl) ⟨Nat.le_of_ble_eq_true rfl, Nat.le_of_ble_eq_true rfl⟩ dL_act_127 rfl (fun r _ hp => ?_)
    subst hp
    refine z_eqc (cells' := 0) (slots' := 0) (by decide) (by decide) ?_
    refine z_eqc (cells' := 0) (slots' := 0) (by decide) (by decide) ?_
    exact hret _ () _ _ _ dL_act_130 rfl rfl
  refine z_if_ne 37 dL_act_30 (by decide) (fun _ => ?_) (fun _ => ?_)
  · refine z_iconst (v := 0) dL_act_37 rfl ?_
    exact B 0
  · refine z_iconst (v := 1) dL_act_33 rfl ?_
    refine z_goto 38 dL_act_34 (by decide) ?_
    exact B 1
