set_option maxHeartbeats 4000000 in
set_option maxRecDepth 100000 in
theorem c_L_holds (l : Launch) (D : va_G) (cI cZ : ClassId) (h : Nat) (a : Nat → Nat) (u : SX) (hnd : u.1 10 = nI 1) (hnn : u.1 16 = nI 0) (h18 : u.1 18 = 0) (hq : u.2 9 0 = 0) (h15 : ∀ i : Nat, i < 80 → u.2 15 i = (-1)) : zMi l yL_holds wsL_holds ({ frames := 5, cells := 0, slots := 0, locals := 108 } : Room) zTT D [(cI, .int), (cZ, .boolean)] (wX0 cI cZ h a u) [.ref h] (fun (r : Int32) (_ : Unit) => r = 1) (fun _ => (wX0 cI cZ h a u)) 0 0 := by
  have hlk : ∀ i : Nat, i < 80 → (u.2 15 i) = (-1) ∨ vp_in (u.2 15 i) 120 := fun i hi => Or.inl (h15 i hi)
  refine z_startZK (cc := cL_holds) (n := 9) (own := RL) (L0 := [(0, .ref h)]) (plainFor_of_name (by decide)) rfl rfl (Nat.le_of_ble_eq_true rfl) rfl (fun E hEl hret => ?_)
  refine z_iconst (v := 0) dL_holds_0 rfl ?_
  refine z_istore_n (L' := [(1, .int 0), (0, .ref h)]) dL_holds_1 (by decide) rfl ?_
  refine z_iconst (v := 0) dL_holds_2 rfl ?_
  refine z_istore_n (L' := [(2, .int 0), (1, .int 0), (0, .ref h)]) dL_holds_3 (by decide) rfl ?_
  refine z_iconst (v := 0) dL_holds_4 rfl ?_
  refine z_istore_n (L' := [(3, .int 0), (2, .int 0), (1, .int 0), (0, .ref h)]) dL_holds_5 (by decide) rfl ?_
  refine z_iconst (v := 0) dL_holds_6 rfl ?_
  refine z_istore (L' := [(4, .int 0), (3, .int 0), (2, .int 0), (1, .int 0), (0, .ref h)]) dL_holds_7 (by decide) rfl ?_
  refine z_iconst (v := 0) dL_holds_9 rfl ?_
  refine z_istore (L' := [(5, .int 0), (4, .int 0), (3, .int 0), (2, .int 0), (1, .int 0), (0, .ref h)]) dL_holds_10 (by decide) rfl ?_
  refine z_iconst (v := 1) dL_holds_12 rfl ?_
  refine z_istore (L' := [(6, .int 1), (5, .int 0), (4, .int 0), (3, .int 0), (2, .int 0), (1, .int 0), (0, .ref h)]) dL_holds_13 (by decide) rfl ?_
  refine z_iconst (v := 0) dL_holds_15 rfl ?_
  refine z_istore (L' := [(7, .int 0), (6, .int 1), (5, .int 0), (4, .int 0), (3, .int 0), (2, .int 0), (1, .int 0), (0, .ref h)]) dL_holds_16 (by decide) rfl ?_
  refine z_iload 0 dL_holds_18 rfl ?_
  refine z_aload_n 7 dL_holds_20 rfl ?_
  refine z_callVi (As := []) (st := [.int 0]) (fun l => c_X0_sent l D cI cZ h a u) zGok_TT (fun _ _ _ => trivial) (fun s args hts => cwV 0 hts gL_holds_X0_sent rfl rfl rfl (by decide +kernel) ⟨Nat.le_of_ble_eq_true rfl, Nat.le_of_ble_eq_true rfl⟩) (ci := 0) rfl rfl rfl rfl (Nat.le_of_ble_eq_true rfl) ⟨Nat.le_of_ble_eq_true rfl, Nat.le_of_ble_eq_true rfl⟩ dL_holds_21 rfl (fun r _ hp => ?_)
  have hp2 : r = 0 := hp.trans hnn; subst hp2
  refine z_eqc (cells' := 0) (slots' := 0) (by decide) (by decide) ?_
  refine z_icmp_ge 163 dL_holds_24 (by decide) (fun _ => ?_) (fun c => absurd (by decide) c)
  refine z_iconst (v := 0) dL_holds_163 rfl ?_
  refine z_istore (L' := [(7, .int 0), (6, .int 1), (5, .int 0), (4, .int 0), (3, .int 0), (2, .int 0), (1, .int 0), (0, .ref h)]) dL_holds_164 (by decide) rfl ?_
  refine z_iload 0 dL_holds_166 rfl ?_
  refine z_aload_n 7 dL_holds_168 rfl ?_
  refine z_callVi (As := []) (st := [.int 0]) (fun l => c_X0_devices l D cI cZ h a u) zGok_TT (fun _ _ _ => trivial) (fun s args hts => cwV 0 hts gL_holds_X0_devices rfl rfl rfl (by decide +kernel) ⟨Nat.le_of_ble_eq_true rfl, Nat.le_of_ble_eq_true rfl⟩) (ci := 0) rfl rfl rfl rfl (Nat.le_of_ble_eq_true rfl) ⟨Nat.le_of_ble_eq_true rfl, Nat.le_of_ble_eq_true rfl⟩ dL_holds_169 rfl (fun r _ hp => ?_)
  have hp2 : r = 1 := hp.trans hnd; subst hp2
  refine z_eqc (cells' := 0) (slots' := 0) (by decide) (by decide) ?_
  refine z_icmp_ge 230 dL_holds_172 (by decide) (fun c => absurd c (by decide)) (fun _ => ?_)
  refine z_iload 1 dL_holds_175 rfl ?_
  refine z_if_eq 230 dL_holds_177 (by decide) (fun c => absurd c (by decide)) (fun _ => ?_)
  refine z_iload_n 6 dL_holds_180 rfl ?_
  refine z_aload_n 7 dL_holds_181 rfl ?_
  refine z_iload 0 dL_holds_182 rfl ?_
  refine z_callWi1 (As := [.ref h, .int 0]) (st := [.int 0]) (fun l hl9 => kn_waiting l D cI cZ h a u 0 (g_waiting (dok hnd)) 1 hnd (by omega) 0 hnn (by omega)) zGok_TT (fun _ _ _ => trivial) (fun s args hts => vx_cwSW 2 hts gL_holds_L_waiting rfl rfl rfl (by decide +kernel) ⟨Nat.le_of_ble_eq_true rfl, Nat.le_of_ble_eq_true rfl⟩) [0, 1] rfl rfl (Nat.le_of_ble_eq_true rfl) ⟨Nat.le_of_ble_eq_true rfl, Nat.le_of_ble_eq_true rfl⟩ dL_holds_184 rfl (fun r _ hp => ?_)
  have hp2 : r = 0 := hp.trans (v_waiting hnn); subst hp2
  refine z_eqc (cells' := 0) (slots' := 0) (by decide) (by decide) ?_
  refine z_iadd dL_holds_187 ?_
  refine z_istore_n (L' := [(1, .int (0 + 0)), (7, .int 0), (6, .int 1), (5, .int 0), (4, .int 0), (3, .int 0), (2, .int 0), (0, .ref h)]) dL_holds_188 (by decide) rfl ?_
  refine z_iload_n 5 dL_holds_189 rfl ?_
  refine z_aload_n 7 dL_holds_190 rfl ?_
  refine z_iload 1 dL_holds_191 rfl ?_
  refine z_callWi1 (As := [.ref h, .int 0]) (st := [.int 0]) (fun l hl9 => kn_badge l D cI cZ h a u 0 (g_badge (dok hnd)) 1 hnd (by omega) 0 hnn (by omega)) zGok_TT (fun _ _ _ => trivial) (fun s args hts => vx_cwSW 2 hts gL_holds_L_badge rfl rfl rfl (by decide +kernel) ⟨Nat.le_of_ble_eq_true rfl, Nat.le_of_ble_eq_true rfl⟩) [0, 1] rfl rfl (Nat.le_of_ble_eq_true rfl) ⟨Nat.le_of_ble_eq_true rfl, Nat.le_of_ble_eq_true rfl⟩ dL_holds_193 rfl (fun r _ hp => ?_)
  have hp2 : r = 0 := hp.trans (v_badge hnn); subst hp2
  refine z_eqc (cells' := 0) (slots' := 0) (by decide) (by decide) ?_
  refine z_iadd dL_holds_196 ?_
  refine z_istore_n (L' := [(3, .int (0 + 0)), (1, .int (0 + 0)), (7, .int 0), (6, .int 1), (5, .int 0), (4, .int 0), (2, .int 0), (0, .ref h)]) dL_holds_197 (by decide) rfl ?_
  refine z_aload_n 7 dL_holds_198 rfl ?_
  refine z_iload 2 dL_holds_199 rfl ?_
  refine z_callWi1 (As := [.ref h, .int 0]) (st := []) (fun l hl9 => kn_quota l D cI cZ h a u 0 (g_quota (dok hnd)) 1 hnd (by omega)) zGok_TT (fun _ _ _ => trivial) (fun s args hts => vx_cwSW 2 hts gL_holds_L_quota rfl rfl rfl (by decide +kernel) ⟨Nat.le_of_ble_eq_true rfl, Nat.le_of_ble_eq_true rfl⟩) [0, 1] rfl rfl (Nat.le_of_ble_eq_true rfl) ⟨Nat.le_of_ble_eq_true rfl, Nat.le_of_ble_eq_true rfl⟩ dL_holds_201 rfl (fun r _ hp => ?_)
  have hp2 : r = 3 := hp.trans (v_quota hq); subst hp2
  refine z_eqc (cells' := 0) (slots' := 0) (by decide) (by decide) ?_
  refine z_if_lt 221 dL_holds_204 (by decide) (fun c => absurd c (by decide)) (fun _ => ?_)
  refine z_aload_n 7 dL_holds_207 rfl ?_
  refine z_iload 2 dL_holds_208 rfl ?_
  refine z_callWi1 (As := [.ref h, .int 0]) (st := []) (fun l hl9 => kn_quota l D cI cZ h a u 0 (g_quota (dok hnd)) 1 hnd (by omega)) zGok_TT (fun _ _ _ => trivial) (fun s args hts => vx_cwSW 2 hts gL_holds_L_quota rfl rfl rfl (by decide +kernel) ⟨Nat.le_of_ble_eq_true rfl, Nat.le_of_ble_eq_true rfl⟩) [0, 1] rfl rfl (Nat.le_of_ble_eq_true rfl) ⟨Nat.le_of_ble_eq_true rfl, Nat.le_of_ble_eq_true rfl⟩ dL_holds_210 rfl (fun r _ hp => ?_)
  have hp2 : r = 3 := hp.trans (v_quota hq); subst hp2
  refine z_eqc (cells' := 0) (slots' := 0) (by decide) (by decide) ?_
  refine z_iconst (v := 3) dL_holds_213 rfl ?_
  refine z_icmp_gt 221 dL_holds_214 (by decide) (fun c => absurd c (by decide)) (fun _ => ?_)
  refine z_iconst (v := 1) dL_holds_217 rfl ?_
  refine z_goto 222 dL_holds_218 (by decide) ?_
  refine z_istore (L' := [(6, .int 1), (3, .int (0 + 0)), (1, .int (0 + 0)), (7, .int 0), (5, .int 0), (4, .int 0), (2, .int 0), (0, .ref h)]) dL_holds_222 (by decide) rfl ?_
  refine z_iinc (v := 1) (L' := [(7, .int 1), (6, .int 1), (3, .int (0 + 0)), (1, .int (0 + 0)), (5, .int 0), (4, .int 0), (2, .int 0), (0, .ref h)]) 3 dL_holds_224 rfl rfl (by decide) rfl ?_
  refine z_goto 166 dL_holds_227 (by decide) ?_
  refine z_iload 0 dL_holds_166 rfl ?_
  refine z_aload_n 7 dL_holds_168 rfl ?_
  refine z_callVi (As := []) (st := [.int 1]) (fun l => c_X0_devices l D cI cZ h a u) zGok_TT (fun _ _ _ => trivial) (fun s args hts => cwV 0 hts gL_holds_X0_devices rfl rfl rfl (by decide +kernel) ⟨Nat.le_of_ble_eq_true rfl, Nat.le_of_ble_eq_true rfl⟩) (ci := 0) rfl rfl rfl rfl (Nat.le_of_ble_eq_true rfl) ⟨Nat.le_of_ble_eq_true rfl, Nat.le_of_ble_eq_true rfl⟩ dL_holds_169 rfl (fun r _ hp => ?_)
  have hp2 : r = 1 := hp.trans hnd; subst hp2
  refine z_eqc (cells' := 0) (slots' := 0) (by decide) (by decide) ?_
  refine z_icmp_ge 230 dL_holds_172 (by decide) (fun _ => ?_) (fun c => absurd (by decide) c)
  refine z_iconst (v := 0) dL_holds_230 rfl ?_
  refine z_istore (L' := [(7, .int 0), (6, .int 1), (3, .int (0 + 0)), (1, .int (0 + 0)), (5, .int 0), (4, .int 0), (2, .int 0), (0, .ref h)]) dL_holds_231 (by decide) rfl ?_
  refine z_sub (L' := [(0, .ref h), (1, .int (0 + 0)), (2, .int 0), (3, .int (0 + 0)), (4, .int 0), (5, .int 0), (6, .int 1), (7, .int (nI 0))]) [7, 3, 6, 2, 5, 4, 1, 0] rfl ?_
  have hloop : ∀ r k : Nat, k + r = 30 → ZW E zTT ({ frames := 5, cells := 0, slots := 0, locals := 108 } : Room) cL_holds RL wsL_holds 9 D [(cI, .int), (cZ, .boolean)] 0 0 (wX0 cI cZ h a u) 233 [(0, .ref h), (1, .int (0 + 0)), (2, .int 0), (3, .int (0 + 0)), (4, .int 0), (5, .int 0), (6, .int 1), (7, .int (nI k))] [] := by
    intro r
    induction r with
    | zero =>
      intro k hk
      have hkN : 30 = k := by omega
      subst hkN
      refine z_iload 7 dL_holds_233 rfl ?_
      refine z_bipush (v := 30) dL_holds_235 rfl ?_
      refine z_icmp_ge 290 dL_holds_237 (by decide) (fun _ => ?_) (fun c => absurd (by decide) c)
      refine z_iload 6 dL_holds_290 rfl ?_
      refine z_if_eq 319 dL_holds_292 (by decide) (fun c => absurd c (by decide)) (fun _ => ?_)
      refine z_iload_n 1 dL_holds_295 rfl ?_
      refine z_iload_n 2 dL_holds_296 rfl ?_
      refine z_icmp_ne 319 dL_holds_297 (by decide) (fun c => absurd (by decide) c) (fun _ => ?_)
      refine z_iload_n 3 dL_holds_300 rfl ?_
      refine z_iload 4 dL_holds_301 rfl ?_
      refine z_icmp_ne 319 dL_holds_303 (by decide) (fun c => absurd (by decide) c) (fun _ => ?_)
      refine z_iload 5 dL_holds_306 rfl ?_
      refine z_aload_n 0 dL_holds_308 rfl ?_
      refine z_callVi (As := []) (st := [.int 0]) (fun l => c_X0_deliveries l D cI cZ h a u) zGok_TT (fun _ _ _ => trivial) (fun s args hts => cwV 0 hts gL_holds_X0_deliveries rfl rfl rfl (by decide +kernel) ⟨Nat.le_of_ble_eq_true rfl, Nat.le_of_ble_eq_true rfl⟩) (ci := 0) rfl rfl rfl rfl (Nat.le_of_ble_eq_true rfl) ⟨Nat.le_of_ble_eq_true rfl, Nat.le_of_ble_eq_true rfl⟩ dL_holds_309 rfl (fun r _ hp => ?_)
      have hp2 : r = 0 := hp.trans h18; subst hp2
      refine z_eqc (cells' := 0) (slots' := 0) (by decide) (by decide) ?_
      refine z_icmp_ne 319 dL_holds_312 (by decide) (fun c => absurd rfl c) (fun _ => ?_)
      refine z_iconst (v := 1) dL_holds_315 rfl ?_
      refine z_goto 320 dL_holds_316 (by decide) ?_
      refine z_eqc (cells' := 0) (slots' := 0) (by decide) (by decide) ?_
      exact hret _ () _ _ _ dL_holds_320 rfl rfl rfl
    | succ r ih =>
      intro k hk
      refine z_iload 7 dL_holds_233 rfl ?_
      refine z_bipush (v := 30) dL_holds_235 rfl ?_
      refine z_icmp_ge 290 dL_holds_237 (by decide) (fun c => absurd c (nI_ge (b := 30) (by omega) (by omega))) (fun _ => ?_)
      refine z_iload 6 dL_holds_240 rfl ?_
      refine z_if_eq 290 dL_holds_242 (by decide) (fun c => absurd c (by decide)) (fun _ => ?_)
      refine z_aload_n 0 dL_holds_245 rfl ?_
      refine z_iload 7 dL_holds_246 rfl ?_
      refine z_bipush (v := 10) dL_holds_248 rfl ?_
      refine z_idiv dL_holds_250 (by decide) ?_
      refine z_iload 7 dL_holds_251 rfl ?_
      refine z_bipush (v := 10) dL_holds_253 rfl ?_
      refine z_irem dL_holds_255 (by decide) ?_
      refine z_callWi1 (As := [.ref h, .int ((nI k) / 10), .int ((nI k) - (nI k) / 10 * 10)]) (st := []) (fun l hl9 => kn_standing l D cI cZ h a u (nI k / 10) (nI k - nI k / 10 * 10) (g_standing (by omega)) hlk) zGok_TT (fun _ _ _ => trivial) (fun s args hts => vx_cwSW 3 hts gL_holds_L_standing rfl rfl rfl (by decide +kernel) ⟨Nat.le_of_ble_eq_true rfl, Nat.le_of_ble_eq_true rfl⟩) [0, 1] rfl rfl (Nat.le_of_ble_eq_true rfl) ⟨Nat.le_of_ble_eq_true rfl, Nat.le_of_ble_eq_true rfl⟩ dL_holds_256 rfl (fun r _ hp => ?_)
      have hp2 : r = (-1) := hp.trans (v_standing (by omega) h15); subst hp2
      refine z_eqc (cells' := 0) (slots' := 0) (by decide) (by decide) ?_
      refine z_istore (L' := [(8, .int (-1)), (0, .ref h), (1, .int (0 + 0)), (2, .int 0), (3, .int (0 + 0)), (4, .int 0), (5, .int 0), (6, .int 1), (7, .int (nI k))]) dL_holds_259 (by decide) rfl ?_
      refine z_iload 0 dL_holds_261 rfl ?_
      refine z_iconst (v := (-1)) dL_holds_263 rfl ?_
      refine z_icmp_eq 277 dL_holds_264 (by decide) (fun _ => ?_) (fun c => absurd rfl c)
      refine z_iconst (v := 1) dL_holds_277 rfl ?_
      refine z_goto 282 dL_holds_278 (by decide) ?_
      refine z_istore (L' := [(6, .int 1), (8, .int (-1)), (0, .ref h), (1, .int (0 + 0)), (2, .int 0), (3, .int (0 + 0)), (4, .int 0), (5, .int 0), (7, .int (nI k))]) dL_holds_282 (by decide) rfl ?_
      refine z_iinc (v := (nI (k + 1))) (L' := [(7, .int (nI (k + 1))), (6, .int 1), (8, .int (-1)), (0, .ref h), (1, .int (0 + 0)), (2, .int 0), (3, .int (0 + 0)), (4, .int 0), (5, .int 0)]) 8 dL_holds_284 rfl (nI_1 k) (by decide) rfl ?_
      refine z_goto 233 dL_holds_287 (by decide) ?_
      refine z_sub (L' := [(0, .ref h), (1, .int (0 + 0)), (2, .int 0), (3, .int (0 + 0)), (4, .int 0), (5, .int 0), (6, .int 1), (7, .int (nI (k + 1)))]) [3, 4, 5, 6, 7, 8, 1, 0] rfl ?_
      refine z_eqc (cells' := 0) (slots' := 0) (by decide) (by decide) ?_
      exact ih (k + 1) (by omega)
  refine z_eqc (cells' := 0) (slots' := 0) (by decide) (by decide) ?_
  exact hloop 30 0 (by omega)
