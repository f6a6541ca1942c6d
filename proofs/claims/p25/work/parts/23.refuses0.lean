theorem z_eqc {E : ZE} {G : State → (Nat → Prop) → Prop} {R : Room} {cc : ByteArray} {own : String} {Ts : List Cond} {n : Nat} {D : va_G} {tys : List (ClassId × FieldType)} {cells slots cells' slots' : Nat} {w : va_W} {pc : Nat} {L : List (Nat × Value)} {st : List Value} (hc : cells' = cells) (hs : slots' = slots) (kk : ZW E G R cc own Ts n D tys cells' slots' w pc L st) : ZW E G R cc own Ts n D tys cells slots w pc L st := hc ▸ hs ▸ kk
theorem z_eqs {E : ZE} {G : State → (Nat → Prop) → Prop} {R : Room} {cc : ByteArray} {own : String} {Ts : List Cond} {n : Nat} {D : va_G} {tys : List (ClassId × FieldType)} {cells slots : Nat} {w : va_W} {pc : Nat} {L : List (Nat × Value)} {st st' : List Value} (hs : st' = st) (kk : ZW E G R cc own Ts n D tys cells slots w pc L st') : ZW E G R cc own Ts n D tys cells slots w pc L st := hs ▸ kk
theorem r1 {n : Nat} (hn : n < 100000) : nI n - nI n / 1 * 1 = 0 := by
  rw [show nI n - nI n / 1 * 1 = nI (n % 1) from pk_rem (d := 1) (by omega) (by omega) (by omega), Nat.mod_one]
  rfl
set_option maxHeartbeats 4000000 in
set_option maxRecDepth 100000 in
theorem c_L_refuses_0 (l : Launch) (hlt : l.stackTraces = false) (D : va_G) (cI cZ : ClassId) (h : Nat) (a : Nat → Nat) (u : SX) (n : Nat) (hn : n < 100000) (hnd : u.1 10 = nI 0) (hnn : u.1 16 = nI 0) (hlk : ∀ i : Nat, i < 80 → (u.2 15 i) = (-1) ∨ vp_in (u.2 15 i) 120) : zMi l yL_refuses wsL_refuses ({ frames := 9, cells := 31, slots := 186, locals := 187 } : Room) zU D [(cI, .int), (cZ, .boolean)] (wX0 cI cZ h a u) [.ref h, .int (nI n)] (fun (r : Int32) (_ : Unit) => r = 1) (fun _ => (wX0 cI cZ h a u)) 31 186 := by
  refine z_startZK (cc := cL_refuses) (n := 8) (own := RL) (L0 := [(0, .ref h), (1, .int (nI n))]) (plainFor_of_name (by decide)) rfl rfl (Nat.le_of_ble_eq_true rfl) rfl (fun E hEl hret => ?_)
  have hlt9 : E.2.1.stackTraces = false := by rw [hEl]; exact hlt
  have B : ∀ none late user : Int32, e_X0_requireDevice u none = 3 → e_X0_requireNotice u late = 3 → e_X0_requireWithin user 0 7 = 1 → ZW E zU ({ frames := 9, cells := 31, slots := 186, locals := 187 } : Room) cL_refuses RL wsL_refuses 8 D [(cI, .int), (cZ, .boolean)] 0 0 (wX0 cI cZ h a u) 74 [(4, .int user), (3, .int late), (2, .int none), (0, .ref h), (1, .int (nI n))] [] := by
    intro none late user hnone hlate huser
    refine z_aload_n 3 dL_refuses_74 rfl ?_
    refine z_iload 0 dL_refuses_75 rfl ?_
    refine z_iconst (v := 0) dL_refuses_77 rfl ?_
    refine z_callWi1 (As := [.ref h, .int user, .int 0]) (st := []) (fun l hl9 => kx_adds_1 l (by rw [hl9]; exact hlt9) D cI cZ h a u user 0 (f_addDevice1 huser) 0 hnd (by omega)) zGok_U (fun _ _ q => q) (fun s args hts => vx_cwSW 3 hts gL_refuses_L_adds rfl rfl rfl (by decide +kernel) ⟨Nat.le_of_ble_eq_true rfl, Nat.le_of_ble_eq_true rfl⟩) [0, 1] rfl rfl (Nat.le_of_ble_eq_true rfl) ⟨Nat.le_of_ble_eq_true rfl, Nat.le_of_ble_eq_true rfl⟩ dL_refuses_78 rfl (fun r _ hp => ?_)
    subst hp
    refine z_eqc (cells' := 1) (slots' := 6) (by decide) (by decide) ?_
    refine z_ldc (v := (-2000000002)) (List.mem_of_getElem? (i := 1) rfl) dL_refuses_81 ?_
    refine z_icmp_ne 553 dL_refuses_83 (by decide) (fun c => absurd rfl c) (fun _ => ?_)
    refine z_aload_n 3 dL_refuses_86 rfl ?_
    refine z_iload_n 4 dL_refuses_87 rfl ?_
    refine z_bipush (v := 8) dL_refuses_88 rfl ?_
    refine z_irem dL_refuses_90 (by decide) ?_
    refine z_sipush (v := (-721)) dL_refuses_91 rfl ?_
    refine z_iload_n 4 dL_refuses_94 rfl ?_
    refine z_isub dL_refuses_95 ?_
    refine z_callWi1 (As := [.ref h, .int ((nI n) - (nI n) / 8 * 8), .int ((-721) - (nI n))]) (st := []) (fun l hl9 => kx_adds_1 l (by rw [hl9]; exact hlt9) D cI cZ h a u (nI n - nI n / 8 * 8) ((-721) - nI n) (f_addDevice2 (win8 hn) (x_adds2 hn)) 0 hnd (by omega)) zGok_U (fun _ _ q => q) (fun s args hts => vx_cwSW 3 hts gL_refuses_L_adds rfl rfl rfl (by decide +kernel) ⟨Nat.le_of_ble_eq_true rfl, Nat.le_of_ble_eq_true rfl⟩) [0, 1] rfl rfl (Nat.le_of_ble_eq_true rfl) ⟨Nat.le_of_ble_eq_true rfl, Nat.le_of_ble_eq_true rfl⟩ dL_refuses_96 rfl (fun r _ hp => ?_)
    subst hp
    refine z_eqc (cells' := 2) (slots' := 12) (by decide) (by decide) ?_
    refine z_ldc (v := (-2000000002)) (List.mem_of_getElem? (i := 1) rfl) dL_refuses_99 ?_
    refine z_icmp_ne 553 dL_refuses_101 (by decide) (fun c => absurd rfl c) (fun _ => ?_)
    refine z_aload_n 3 dL_refuses_104 rfl ?_
    refine z_iload_n 4 dL_refuses_105 rfl ?_
    refine z_bipush (v := 8) dL_refuses_106 rfl ?_
    refine z_irem dL_refuses_108 (by decide) ?_
    refine z_sipush (v := 841) dL_refuses_109 rfl ?_
    refine z_iload_n 4 dL_refuses_112 rfl ?_
    refine z_iadd dL_refuses_113 ?_
    refine z_callWi1 (As := [.ref h, .int ((nI n) - (nI n) / 8 * 8), .int (841 + (nI n))]) (st := []) (fun l hl9 => kx_adds_1 l (by rw [hl9]; exact hlt9) D cI cZ h a u (nI n - nI n / 8 * 8) (841 + nI n) (f_addDevice2 (win8 hn) (x_adds3 hn)) 0 hnd (by omega)) zGok_U (fun _ _ q => q) (fun s args hts => vx_cwSW 3 hts gL_refuses_L_adds rfl rfl rfl (by decide +kernel) ⟨Nat.le_of_ble_eq_true rfl, Nat.le_of_ble_eq_true rfl⟩) [0, 1] rfl rfl (Nat.le_of_ble_eq_true rfl) ⟨Nat.le_of_ble_eq_true rfl, Nat.le_of_ble_eq_true rfl⟩ dL_refuses_114 rfl (fun r _ hp => ?_)
    subst hp
    refine z_eqc (cells' := 3) (slots' := 18) (by decide) (by decide) ?_
    refine z_ldc (v := (-2000000002)) (List.mem_of_getElem? (i := 1) rfl) dL_refuses_117 ?_
    refine z_icmp_ne 553 dL_refuses_119 (by decide) (fun c => absurd rfl c) (fun _ => ?_)
    refine z_aload_n 3 dL_refuses_122 rfl ?_
    refine z_iload_n 2 dL_refuses_123 rfl ?_
    refine z_iconst (v := 1) dL_refuses_124 rfl ?_
    refine z_callWi1 (As := [.ref h, .int none, .int 1]) (st := []) (fun l hl9 => kx_online_3 l (by rw [hl9]; exact hlt9) D cI cZ h a u none 1 (f_setOnline hnone) 0 hnd (by omega) 0 hnn (by omega)) zGok_U (fun _ _ q => q) (fun s args hts => vx_cwSW 3 hts gL_refuses_L_online rfl rfl rfl (by decide +kernel) ⟨Nat.le_of_ble_eq_true rfl, Nat.le_of_ble_eq_true rfl⟩) [0, 1] rfl rfl (Nat.le_of_ble_eq_true rfl) ⟨Nat.le_of_ble_eq_true rfl, Nat.le_of_ble_eq_true rfl⟩ dL_refuses_125 rfl (fun r _ hp => ?_)
    subst hp
    refine z_eqc (cells' := 4) (slots' := 24) (by decide) (by decide) ?_
    refine z_ldc (v := (-2000000001)) (List.mem_of_getElem? (i := 2) rfl) dL_refuses_128 ?_
    refine z_icmp_ne 553 dL_refuses_130 (by decide) (fun c => absurd rfl c) (fun _ => ?_)
    refine z_aload_n 3 dL_refuses_133 rfl ?_
    refine z_iload_n 2 dL_refuses_134 rfl ?_
    refine z_iconst (v := 0) dL_refuses_135 rfl ?_
    refine z_callWi1 (As := [.ref h, .int none, .int 0]) (st := []) (fun l hl9 => kx_dozes_3 l (by rw [hl9]; exact hlt9) D cI cZ h a u none 0 (f_setDozing hnone) 0 hnd (by omega) 0 hnn (by omega)) zGok_U (fun _ _ q => q) (fun s args hts => vx_cwSW 3 hts gL_refuses_L_dozes rfl rfl rfl (by decide +kernel) ⟨Nat.le_of_ble_eq_true rfl, Nat.le_of_ble_eq_true rfl⟩) [0, 1] rfl rfl (Nat.le_of_ble_eq_true rfl) ⟨Nat.le_of_ble_eq_true rfl, Nat.le_of_ble_eq_true rfl⟩ dL_refuses_136 rfl (fun r _ hp => ?_)
    subst hp
    refine z_eqc (cells' := 5) (slots' := 30) (by decide) (by decide) ?_
    refine z_ldc (v := (-2000000001)) (List.mem_of_getElem? (i := 2) rfl) dL_refuses_139 ?_
    refine z_icmp_ne 553 dL_refuses_141 (by decide) (fun c => absurd rfl c) (fun _ => ?_)
    refine z_aload_n 3 dL_refuses_144 rfl ?_
    refine z_iload_n 2 dL_refuses_145 rfl ?_
    refine z_iconst (v := (-1)) dL_refuses_146 rfl ?_
    refine z_iconst (v := (-1)) dL_refuses_147 rfl ?_
    refine z_callWi1 (As := [.ref h, .int none, .int (-1), .int (-1)]) (st := []) (fun l hl9 => kx_quiets_3 l (by rw [hl9]; exact hlt9) D cI cZ h a u none (-1) (-1) (f_setQuiet1 hnone) 0 hnd (by omega) 0 hnn (by omega)) zGok_U (fun _ _ q => q) (fun s args hts => vx_cwSW 4 hts gL_refuses_L_quiets rfl rfl rfl (by decide +kernel) ⟨Nat.le_of_ble_eq_true rfl, Nat.le_of_ble_eq_true rfl⟩) [0, 1] rfl rfl (Nat.le_of_ble_eq_true rfl) ⟨Nat.le_of_ble_eq_true rfl, Nat.le_of_ble_eq_true rfl⟩ dL_refuses_148 rfl (fun r _ hp => ?_)
    subst hp
    refine z_eqc (cells' := 6) (slots' := 36) (by decide) (by decide) ?_
    refine z_ldc (v := (-2000000001)) (List.mem_of_getElem? (i := 2) rfl) dL_refuses_151 ?_
    refine z_icmp_ne 553 dL_refuses_153 (by decide) (fun c => absurd rfl c) (fun _ => ?_)
    refine z_aload_n 3 dL_refuses_156 rfl ?_
    refine z_iload_n 2 dL_refuses_157 rfl ?_
    refine z_bipush (v := 9) dL_refuses_158 rfl ?_
    refine z_iconst (v := 1) dL_refuses_160 rfl ?_
    refine z_callWi1 (As := [.ref h, .int none, .int 9, .int 1]) (st := []) (fun l hl9 => kx_joins_3 l (by rw [hl9]; exact hlt9) D cI cZ h a u none 9 1 (f_join1 hnone) 0 hnd (by omega)) zGok_U (fun _ _ q => q) (fun s args hts => vx_cwSW 4 hts gL_refuses_L_joins rfl rfl rfl (by decide +kernel) ⟨Nat.le_of_ble_eq_true rfl, Nat.le_of_ble_eq_true rfl⟩) [0, 1] rfl rfl (Nat.le_of_ble_eq_true rfl) ⟨Nat.le_of_ble_eq_true rfl, Nat.le_of_ble_eq_true rfl⟩ dL_refuses_161 rfl (fun r _ hp => ?_)
    subst hp
    refine z_eqc (cells' := 7) (slots' := 42) (by decide) (by decide) ?_
    refine z_ldc (v := (-2000000001)) (List.mem_of_getElem? (i := 2) rfl) dL_refuses_164 ?_
    refine z_icmp_ne 553 dL_refuses_166 (by decide) (fun c => absurd rfl c) (fun _ => ?_)
    refine z_aload_n 3 dL_refuses_169 rfl ?_
    refine z_iload_n 2 dL_refuses_170 rfl ?_
    refine z_callWi1 (As := [.ref h, .int none]) (st := []) (fun l hl9 => kx_kills_3 l (by rw [hl9]; exact hlt9) D cI cZ h a u none (f_kill hnone) 0 hnd (by omega) 0 hnn (by omega)) zGok_U (fun _ _ q => q) (fun s args hts => vx_cwSW 2 hts gL_refuses_L_kills rfl rfl rfl (by decide +kernel) ⟨Nat.le_of_ble_eq_true rfl, Nat.le_of_ble_eq_true rfl⟩) [0, 1] rfl rfl (Nat.le_of_ble_eq_true rfl) ⟨Nat.le_of_ble_eq_true rfl, Nat.le_of_ble_eq_true rfl⟩ dL_refuses_171 rfl (fun r _ hp => ?_)
    subst hp
    refine z_eqc (cells' := 8) (slots' := 48) (by decide) (by decide) ?_
    refine z_ldc (v := (-2000000001)) (List.mem_of_getElem? (i := 2) rfl) dL_refuses_174 ?_
    refine z_icmp_ne 553 dL_refuses_176 (by decide) (fun c => absurd rfl c) (fun _ => ?_)
    refine z_aload_n 3 dL_refuses_179 rfl ?_
    refine z_iload_n 2 dL_refuses_180 rfl ?_
    refine z_callWi1 (As := [.ref h, .int none]) (st := []) (fun l hl9 => kx_quiet_3 l (by rw [hl9]; exact hlt9) D cI cZ h a u none (f_isQuiet hnone) 0 hnd (by omega)) zGok_U (fun _ _ q => q) (fun s args hts => vx_cwSW 2 hts gL_refuses_L_quiet rfl rfl rfl (by decide +kernel) ⟨Nat.le_of_ble_eq_true rfl, Nat.le_of_ble_eq_true rfl⟩) [0, 1] rfl rfl (Nat.le_of_ble_eq_true rfl) ⟨Nat.le_of_ble_eq_true rfl, Nat.le_of_ble_eq_true rfl⟩ dL_refuses_181 rfl (fun r _ hp => ?_)
    subst hp
    refine z_eqc (cells' := 9) (slots' := 54) (by decide) (by decide) ?_
    refine z_ldc (v := (-2000000001)) (List.mem_of_getElem? (i := 2) rfl) dL_refuses_184 ?_
    refine z_icmp_ne 553 dL_refuses_186 (by decide) (fun c => absurd rfl c) (fun _ => ?_)
    refine z_aload_n 3 dL_refuses_189 rfl ?_
    refine z_iload 0 dL_refuses_190 rfl ?_
    refine z_iconst (v := 0) dL_refuses_192 rfl ?_
    refine z_iconst (v := 1) dL_refuses_193 rfl ?_
    refine z_iconst (v := 5) dL_refuses_194 rfl ?_
    refine z_callWi1 (As := [.ref h, .int user, .int 0, .int 1, .int 5]) (st := []) (fun l hl9 => kx_sends_1 l (by rw [hl9]; exact hlt9) D cI cZ h a u user 0 1 5 (f_send1 huser) 0 hnd (by omega) 0 hnn (by omega) hlk) zGok_U (fun _ _ q => q) (fun s args hts => vx_cwSW 5 hts gL_refuses_L_sends rfl rfl rfl (by decide +kernel) ⟨Nat.le_of_ble_eq_true rfl, Nat.le_of_ble_eq_true rfl⟩) [0, 1] rfl rfl (Nat.le_of_ble_eq_true rfl) ⟨Nat.le_of_ble_eq_true rfl, Nat.le_of_ble_eq_true rfl⟩ dL_refuses_195 rfl (fun r _ hp => ?_)
    subst hp
    refine z_eqc (cells' := 10) (slots' := 60) (by decide) (by decide) ?_
    refine z_ldc (v := (-2000000002)) (List.mem_of_getElem? (i := 1) rfl) dL_refuses_198 ?_
    refine z_icmp_ne 553 dL_refuses_200 (by decide) (fun c => absurd rfl c) (fun _ => ?_)
    refine z_aload_n 3 dL_refuses_203 rfl ?_
    refine z_iload_n 4 dL_refuses_204 rfl ?_
    refine z_bipush (v := 8) dL_refuses_205 rfl ?_
    refine z_irem dL_refuses_207 (by decide) ?_
    refine z_bipush (v := (-2)) dL_refuses_208 rfl ?_
    refine z_iload_n 4 dL_refuses_210 rfl ?_
    refine z_isub dL_refuses_211 ?_
    refine z_iconst (v := 1) dL_refuses_212 rfl ?_
    refine z_iconst (v := 5) dL_refuses_213 rfl ?_
    refine z_callWi1 (As := [.ref h, .int ((nI n) - (nI n) / 8 * 8), .int ((-2) - (nI n)), .int 1, .int 5]) (st := []) (fun l hl9 => kx_sends_1 l (by rw [hl9]; exact hlt9) D cI cZ h a u (nI n - nI n / 8 * 8) ((-2) - nI n) 1 5 (f_send2 (win8 hn) (k_sends2 hn) (x_sends2 hn)) 0 hnd (by omega) 0 hnn (by omega) hlk) zGok_U (fun _ _ q => q) (fun s args hts => vx_cwSW 5 hts gL_refuses_L_sends rfl rfl rfl (by decide +kernel) ⟨Nat.le_of_ble_eq_true rfl, Nat.le_of_ble_eq_true rfl⟩) [0, 1] rfl rfl (Nat.le_of_ble_eq_true rfl) ⟨Nat.le_of_ble_eq_true rfl, Nat.le_of_ble_eq_true rfl⟩ dL_refuses_214 rfl (fun r _ hp => ?_)
    subst hp
    refine z_eqc (cells' := 11) (slots' := 66) (by decide) (by decide) ?_
    refine z_ldc (v := (-2000000002)) (List.mem_of_getElem? (i := 1) rfl) dL_refuses_217 ?_
    refine z_icmp_ne 553 dL_refuses_219 (by decide) (fun c => absurd rfl c) (fun _ => ?_)
    refine z_aload_n 3 dL_refuses_222 rfl ?_
    refine z_iload_n 4 dL_refuses_223 rfl ?_
    refine z_bipush (v := 8) dL_refuses_224 rfl ?_
    refine z_irem dL_refuses_226 (by decide) ?_
    refine z_bipush (v := 10) dL_refuses_227 rfl ?_
    refine z_iload_n 4 dL_refuses_229 rfl ?_
    refine z_iadd dL_refuses_230 ?_
    refine z_iconst (v := 1) dL_refuses_231 rfl ?_
    refine z_iconst (v := 5) dL_refuses_232 rfl ?_
    refine z_callWi1 (As := [.ref h, .int ((nI n) - (nI n) / 8 * 8), .int (10 + (nI n)), .int 1, .int 5]) (st := []) (fun l hl9 => kx_sends_1 l (by rw [hl9]; exact hlt9) D cI cZ h a u (nI n - nI n / 8 * 8) (10 + nI n) 1 5 (f_send2 (win8 hn) (k_sends3 hn) (x_sends3 hn)) 0 hnd (by omega) 0 hnn (by omega) hlk) zGok_U (fun _ _ q => q) (fun s args hts => vx_cwSW 5 hts gL_refuses_L_sends rfl rfl rfl (by decide +kernel) ⟨Nat.le_of_ble_eq_true rfl, Nat.le_of_ble_eq_true rfl⟩) [0, 1] rfl rfl (Nat.le_of_ble_eq_true rfl) ⟨Nat.le_of_ble_eq_true rfl, Nat.le_of_ble_eq_true rfl⟩ dL_refuses_233 rfl (fun r _ hp => ?_)
    subst hp
    refine z_eqc (cells' := 12) (slots' := 72) (by decide) (by decide) ?_
    refine z_ldc (v := (-2000000002)) (List.mem_of_getElem? (i := 1) rfl) dL_refuses_236 ?_
    refine z_icmp_ne 553 dL_refuses_238 (by decide) (fun c => absurd rfl c) (fun _ => ?_)
    refine z_aload_n 3 dL_refuses_241 rfl ?_
    refine z_iload_n 4 dL_refuses_242 rfl ?_
    refine z_bipush (v := 8) dL_refuses_243 rfl ?_
    refine z_irem dL_refuses_245 (by decide) ?_
    refine z_iconst (v := 0) dL_refuses_246 rfl ?_
    refine z_iconst (v := 1) dL_refuses_247 rfl ?_
    refine z_iconst (v := 0) dL_refuses_248 rfl ?_
    refine z_callWi1 (As := [.ref h, .int ((nI n) - (nI n) / 8 * 8), .int 0, .int 1, .int 0]) (st := []) (fun l hl9 => kx_sends_1 l (by rw [hl9]; exact hlt9) D cI cZ h a u (nI n - nI n / 8 * 8) 0 1 0 (f_send4 (win8 hn) (by decide) (by decide) (by decide)) 0 hnd (by omega) 0 hnn (by omega) hlk) zGok_U (fun _ _ q => q) (fun s args hts => vx_cwSW 5 hts gL_refuses_L_sends rfl rfl rfl (by decide +kernel) ⟨Nat.le_of_ble_eq_true rfl, Nat.le_of_ble_eq_true rfl⟩) [0, 1] rfl rfl (Nat.le_of_ble_eq_true rfl) ⟨Nat.le_of_ble_eq_true rfl, Nat.le_of_ble_eq_true rfl⟩ dL_refuses_249 rfl (fun r _ hp => ?_)
    subst hp
    refine z_eqc (cells' := 13) (slots' := 78) (by decide) (by decide) ?_
    refine z_ldc (v := (-2000000002)) (List.mem_of_getElem? (i := 1) rfl) dL_refuses_252 ?_
    refine z_icmp_ne 553 dL_refuses_254 (by decide) (fun c => absurd rfl c) (fun _ => ?_)
    refine z_aload_n 3 dL_refuses_257 rfl ?_
    refine z_iload_n 4 dL_refuses_258 rfl ?_
    refine z_bipush (v := 8) dL_refuses_259 rfl ?_
    refine z_irem dL_refuses_261 (by decide) ?_
    refine z_iconst (v := 0) dL_refuses_262 rfl ?_
    refine z_iconst (v := 0) dL_refuses_263 rfl ?_
    refine z_sipush (v := 10001) dL_refuses_264 rfl ?_
    refine z_iload_n 4 dL_refuses_267 rfl ?_
    refine z_iadd dL_refuses_268 ?_
    refine z_callWi1 (As := [.ref h, .int ((nI n) - (nI n) / 8 * 8), .int 0, .int 0, .int (10001 + (nI n))]) (st := []) (fun l hl9 => kx_sends_1 l (by rw [hl9]; exact hlt9) D cI cZ h a u (nI n - nI n / 8 * 8) 0 0 (10001 + nI n) (f_send4 (win8 hn) (by decide) (by decide) (x_sends5 hn)) 0 hnd (by omega) 0 hnn (by omega) hlk) zGok_U (fun _ _ q => q) (fun s args hts => vx_cwSW 5 hts gL_refuses_L_sends rfl rfl rfl (by decide +kernel) ⟨Nat.le_of_ble_eq_true rfl, Nat.le_of_ble_eq_true rfl⟩) [0, 1] rfl rfl (Nat.le_of_ble_eq_true rfl) ⟨Nat.le_of_ble_eq_true rfl, Nat.le_of_ble_eq_true rfl⟩ dL_refuses_269 rfl (fun r _ hp => ?_)
    subst hp
    refine z_eqc (cells' := 14) (slots' := 84) (by decide) (by decide) ?_
    refine z_ldc (v := (-2000000002)) (List.mem_of_getElem? (i := 1) rfl) dL_refuses_272 ?_
    refine z_icmp_ne 553 dL_refuses_274 (by decide) (fun c => absurd rfl c) (fun _ => ?_)
    refine z_aload_n 3 dL_refuses_277 rfl ?_
    refine z_iconst (v := 3) dL_refuses_278 rfl ?_
    refine z_iload_n 4 dL_refuses_279 rfl ?_
    refine z_iadd dL_refuses_280 ?_
    refine z_iconst (v := 0) dL_refuses_281 rfl ?_
    refine z_iconst (v := 0) dL_refuses_282 rfl ?_
    refine z_iconst (v := 1) dL_refuses_283 rfl ?_
    refine z_iconst (v := 5) dL_refuses_284 rfl ?_
    refine z_callWi1 (As := [.ref h, .int (3 + (nI n)), .int 0, .int 0, .int 1, .int 5]) (st := []) (fun l hl9 => kx_sendsBy_1 l (by rw [hl9]; exact hlt9) D cI cZ h a u (3 + nI n) 0 0 1 5 (f_sendBy1 (x_sendsBy1 hn)) 0 hnd (by omega) 0 hnn (by omega)) zGok_U (fun _ _ q => q) (fun s args hts => vx_cwSW 6 hts gL_refuses_L_sendsBy rfl rfl rfl (by decide +kernel) ⟨Nat.le_of_ble_eq_true rfl, Nat.le_of_ble_eq_true rfl⟩) [0, 1] rfl rfl (Nat.le_of_ble_eq_true rfl) ⟨Nat.le_of_ble_eq_true rfl, Nat.le_of_ble_eq_true rfl⟩ dL_refuses_285 rfl (fun r _ hp => ?_)
    subst hp
    refine z_eqc (cells' := 15) (slots' := 90) (by decide) (by decide) ?_
    refine z_ldc (v := (-2000000002)) (List.mem_of_getElem? (i := 1) rfl) dL_refuses_288 ?_
    refine z_icmp_ne 553 dL_refuses_290 (by decide) (fun c => absurd rfl c) (fun _ => ?_)
    refine z_aload_n 3 dL_refuses_293 rfl ?_
    refine z_iconst (v := (-1)) dL_refuses_294 rfl ?_
    refine z_iconst (v := 0) dL_refuses_295 rfl ?_
    refine z_iconst (v := 0) dL_refuses_296 rfl ?_
    refine z_iconst (v := 1) dL_refuses_297 rfl ?_
    refine z_iconst (v := 5) dL_refuses_298 rfl ?_
    refine z_callWi1 (As := [.ref h, .int (-1), .int 0, .int 0, .int 1, .int 5]) (st := []) (fun l hl9 => kx_sendsBy_1 l (by rw [hl9]; exact hlt9) D cI cZ h a u (-1) 0 0 1 5 (f_sendBy1 (by decide)) 0 hnd (by omega) 0 hnn (by omega)) zGok_U (fun _ _ q => q) (fun s args hts => vx_cwSW 6 hts gL_refuses_L_sendsBy rfl rfl rfl (by decide +kernel) ⟨Nat.le_of_ble_eq_true rfl, Nat.le_of_ble_eq_true rfl⟩) [0, 1] rfl rfl (Nat.le_of_ble_eq_true rfl) ⟨Nat.le_of_ble_eq_true rfl, Nat.le_of_ble_eq_true rfl⟩ dL_refuses_299 rfl (fun r _ hp => ?_)
    subst hp
    refine z_eqc (cells' := 16) (slots' := 96) (by decide) (by decide) ?_
    refine z_ldc (v := (-2000000002)) (List.mem_of_getElem? (i := 1) rfl) dL_refuses_302 ?_
    refine z_icmp_ne 553 dL_refuses_304 (by decide) (fun c => absurd rfl c) (fun _ => ?_)
    refine z_aload_n 3 dL_refuses_307 rfl ?_
    refine z_iconst (v := 0) dL_refuses_308 rfl ?_
    refine z_bipush (v := 6) dL_refuses_309 rfl ?_
    refine z_iload_n 4 dL_refuses_311 rfl ?_
    refine z_iadd dL_refuses_312 ?_
    refine z_iconst (v := 0) dL_refuses_313 rfl ?_
    refine z_iconst (v := 1) dL_refuses_314 rfl ?_
    refine z_iconst (v := 5) dL_refuses_315 rfl ?_
    refine z_callWi1 (As := [.ref h, .int 0, .int (6 + (nI n)), .int 0, .int 1, .int 5]) (st := []) (fun l hl9 => kx_sendsBy_1 l (by rw [hl9]; exact hlt9) D cI cZ h a u 0 (6 + nI n) 0 1 5 (f_sendBy2 (by decide) (x_sendsBy3 hn)) 0 hnd (by omega) 0 hnn (by omega)) zGok_U (fun _ _ q => q) (fun s args hts => vx_cwSW 6 hts gL_refuses_L_sendsBy rfl rfl rfl (by decide +kernel) ⟨Nat.le_of_ble_eq_true rfl, Nat.le_of_ble_eq_true rfl⟩) [0, 1] rfl rfl (Nat.le_of_ble_eq_true rfl) ⟨Nat.le_of_ble_eq_true rfl, Nat.le_of_ble_eq_true rfl⟩ dL_refuses_316 rfl (fun r _ hp => ?_)
    subst hp
    refine z_eqc (cells' := 17) (slots' := 102) (by decide) (by decide) ?_
    refine z_ldc (v := (-2000000002)) (List.mem_of_getElem? (i := 1) rfl) dL_refuses_319 ?_
    refine z_icmp_ne 553 dL_refuses_321 (by decide) (fun c => absurd rfl c) (fun _ => ?_)
    refine z_aload_n 3 dL_refuses_324 rfl ?_
    refine z_iconst (v := 0) dL_refuses_325 rfl ?_
    refine z_iconst (v := 0) dL_refuses_326 rfl ?_
    refine z_iconst (v := (-1)) dL_refuses_327 rfl ?_
    refine z_iload_n 4 dL_refuses_328 rfl ?_
    refine z_isub dL_refuses_329 ?_
    refine z_iconst (v := 1) dL_refuses_330 rfl ?_
    refine z_iconst (v := 5) dL_refuses_331 rfl ?_
    refine z_callWi1 (As := [.ref h, .int 0, .int 0, .int ((-1) - (nI n)), .int 1, .int 5]) (st := []) (fun l hl9 => kx_sendsBy_1 l (by rw [hl9]; exact hlt9) D cI cZ h a u 0 0 ((-1) - nI n) 1 5 (f_sendBy3 (by decide) (by decide) (x_sendsBy4 hn)) 0 hnd (by omega) 0 hnn (by omega)) zGok_U (fun _ _ q => q) (fun s args hts => vx_cwSW 6 hts gL_refuses_L_sendsBy rfl rfl rfl (by decide +kernel) ⟨Nat.le_of_ble_eq_true rfl, Nat.le_of_ble_eq_true rfl⟩) [0, 1] rfl rfl (Nat.le_of_ble_eq_true rfl) ⟨Nat.le_of_ble_eq_true rfl, Nat.le_of_ble_eq_true rfl⟩ dL_refuses_332 rfl (fun r _ hp => ?_)
    subst hp
    refine z_eqc (cells' := 18) (slots' := 108) (by decide) (by decide) ?_
    refine z_ldc (v := (-2000000002)) (List.mem_of_getElem? (i := 1) rfl) dL_refuses_335 ?_
    refine z_icmp_ne 553 dL_refuses_337 (by decide) (fun c => absurd rfl c) (fun _ => ?_)
    refine z_aload_n 3 dL_refuses_340 rfl ?_
    refine z_iconst (v := 0) dL_refuses_341 rfl ?_
    refine z_iconst (v := 0) dL_refuses_342 rfl ?_
    refine z_iconst (v := 0) dL_refuses_343 rfl ?_
    refine z_iconst (v := 1) dL_refuses_344 rfl ?_
    refine z_iload_n 4 dL_refuses_345 rfl ?_
    refine z_ineg dL_refuses_346 ?_
    refine z_callWi1 (As := [.ref h, .int 0, .int 0, .int 0, .int 1, .int (-(nI n))]) (st := []) (fun l hl9 => kx_sendsBy_1 l (by rw [hl9]; exact hlt9) D cI cZ h a u 0 0 0 1 (-(nI n)) (f_sendBy5 (by decide) (by decide) (by decide) (x_sendsBy5 hn)) 0 hnd (by omega) 0 hnn (by omega)) zGok_U (fun _ _ q => q) (fun s args hts => vx_cwSW 6 hts gL_refuses_L_sendsBy rfl rfl rfl (by decide +kernel) ⟨Nat.le_of_ble_eq_true rfl, Nat.le_of_ble_eq_true rfl⟩) [0, 1] rfl rfl (Nat.le_of_ble_eq_true rfl) ⟨Nat.le_of_ble_eq_true rfl, Nat.le_of_ble_eq_true rfl⟩ dL_refuses_347 rfl (fun r _ hp => ?_)
    subst hp
    refine z_eqc (cells' := 19) (slots' := 114) (by decide) (by decide) ?_
    refine z_ldc (v := (-2000000002)) (List.mem_of_getElem? (i := 1) rfl) dL_refuses_350 ?_
    refine z_icmp_ne 553 dL_refuses_352 (by decide) (fun c => absurd rfl c) (fun _ => ?_)
    refine z_aload_n 3 dL_refuses_355 rfl ?_
    refine z_iload_n 2 dL_refuses_356 rfl ?_
    refine z_iconst (v := 0) dL_refuses_357 rfl ?_
    refine z_callWi1 (As := [.ref h, .int none, .int 0]) (st := []) (fun l hl9 => kx_reads_3 l (by rw [hl9]; exact hlt9) D cI cZ h a u none 0 (f_read1 hnone) 0 hnd (by omega) 0 hnn (by omega)) zGok_U (fun _ _ q => q) (fun s args hts => vx_cwSW 3 hts gL_refuses_L_reads rfl rfl rfl (by decide +kernel) ⟨Nat.le_of_ble_eq_true rfl, Nat.le_of_ble_eq_true rfl⟩) [0, 1] rfl rfl (Nat.le_of_ble_eq_true rfl) ⟨Nat.le_of_ble_eq_true rfl, Nat.le_of_ble_eq_true rfl⟩ dL_refuses_358 rfl (fun r _ hp => ?_)
    subst hp
    refine z_eqc (cells' := 20) (slots' := 120) (by decide) (by decide) ?_
    refine z_ldc (v := (-2000000001)) (List.mem_of_getElem? (i := 2) rfl) dL_refuses_361 ?_
    refine z_icmp_ne 553 dL_refuses_363 (by decide) (fun c => absurd rfl c) (fun _ => ?_)
    refine z_aload_n 3 dL_refuses_366 rfl ?_
    refine z_iload_n 1 dL_refuses_367 rfl ?_
    refine z_callWi1 (As := [.ref h, .int late]) (st := []) (fun l hl9 => kx_stands_3 l (by rw [hl9]; exact hlt9) D cI cZ h a u late (f_stands hlate) 0 hnn (by omega)) zGok_U (fun _ _ q => q) (fun s args hts => vx_cwSW 2 hts gL_refuses_L_stands rfl rfl rfl (by decide +kernel) ⟨Nat.le_of_ble_eq_true rfl, Nat.le_of_ble_eq_true rfl⟩) [0, 1] rfl rfl (Nat.le_of_ble_eq_true rfl) ⟨Nat.le_of_ble_eq_true rfl, Nat.le_of_ble_eq_true rfl⟩ dL_refuses_368 rfl (fun r _ hp => ?_)
    subst hp
    refine z_eqc (cells' := 21) (slots' := 126) (by decide) (by decide) ?_
    refine z_ldc (v := (-2000000001)) (List.mem_of_getElem? (i := 2) rfl) dL_refuses_371 ?_
    refine z_icmp_ne 553 dL_refuses_373 (by decide) (fun c => absurd rfl c) (fun _ => ?_)
    refine z_aload_n 3 dL_refuses_376 rfl ?_
    refine z_iload_n 1 dL_refuses_377 rfl ?_
    refine z_callWi1 (As := [.ref h, .int late]) (st := []) (fun l hl9 => kx_waits_3 l (by rw [hl9]; exact hlt9) D cI cZ h a u late (f_waitsFor hlate) 0 hnn (by omega)) zGok_U (fun _ _ q => q) (fun s args hts => vx_cwSW 2 hts gL_refuses_L_waits rfl rfl rfl (by decide +kernel) ⟨Nat.le_of_ble_eq_true rfl, Nat.le_of_ble_eq_true rfl⟩) [0, 1] rfl rfl (Nat.le_of_ble_eq_true rfl) ⟨Nat.le_of_ble_eq_true rfl, Nat.le_of_ble_eq_true rfl⟩ dL_refuses_378 rfl (fun r _ hp => ?_)
    subst hp
    refine z_eqc (cells' := 22) (slots' := 132) (by decide) (by decide) ?_
    refine z_ldc (v := (-2000000001)) (List.mem_of_getElem? (i := 2) rfl) dL_refuses_381 ?_
    refine z_icmp_ne 553 dL_refuses_383 (by decide) (fun c => absurd rfl c) (fun _ => ?_)
    refine z_aload_n 3 dL_refuses_386 rfl ?_
    refine z_iload_n 1 dL_refuses_387 rfl ?_
    refine z_callWi1 (As := [.ref h, .int late]) (st := []) (fun l hl9 => kx_delivered_3 l (by rw [hl9]; exact hlt9) D cI cZ h a u late (f_deliveredTo hlate) 0 hnn (by omega)) zGok_U (fun _ _ q => q) (fun s args hts => vx_cwSW 2 hts gL_refuses_L_delivered rfl rfl rfl (by decide +kernel) ⟨Nat.le_of_ble_eq_true rfl, Nat.le_of_ble_eq_true rfl⟩) [0, 1] rfl rfl (Nat.le_of_ble_eq_true rfl) ⟨Nat.le_of_ble_eq_true rfl, Nat.le_of_ble_eq_true rfl⟩ dL_refuses_388 rfl (fun r _ hp => ?_)
    subst hp
    refine z_eqc (cells' := 23) (slots' := 138) (by decide) (by decide) ?_
    refine z_ldc (v := (-2000000001)) (List.mem_of_getElem? (i := 2) rfl) dL_refuses_391 ?_
    refine z_icmp_ne 553 dL_refuses_393 (by decide) (fun c => absurd rfl c) (fun _ => ?_)
    refine z_aload_n 3 dL_refuses_396 rfl ?_
    refine z_iload 0 dL_refuses_397 rfl ?_
    refine z_iconst (v := 0) dL_refuses_399 rfl ?_
    refine z_callWi1 (As := [.ref h, .int user, .int 0]) (st := []) (fun l hl9 => kx_standing_1 l (by rw [hl9]; exact hlt9) D cI cZ h a u user 0 (f_standing1 huser) hlk) zGok_U (fun _ _ q => q) (fun s args hts => vx_cwSW 3 hts gL_refuses_L_standing rfl rfl rfl (by decide +kernel) ⟨Nat.le_of_ble_eq_true rfl, Nat.le_of_ble_eq_true rfl⟩) [0, 1] rfl rfl (Nat.le_of_ble_eq_true rfl) ⟨Nat.le_of_ble_eq_true rfl, Nat.le_of_ble_eq_true rfl⟩ dL_refuses_400 rfl (fun r _ hp => ?_)
    subst hp
    refine z_eqc (cells' := 24) (slots' := 144) (by decide) (by decide) ?_
    refine z_ldc (v := (-2000000002)) (List.mem_of_getElem? (i := 1) rfl) dL_refuses_403 ?_
    refine z_icmp_ne 553 dL_refuses_405 (by decide) (fun c => absurd rfl c) (fun _ => ?_)
    refine z_aload_n 3 dL_refuses_408 rfl ?_
    refine z_iload_n 4 dL_refuses_409 rfl ?_
    refine z_bipush (v := 8) dL_refuses_410 rfl ?_
    refine z_irem dL_refuses_412 (by decide) ?_
    refine z_bipush (v := 10) dL_refuses_413 rfl ?_
    refine z_iload_n 4 dL_refuses_415 rfl ?_
    refine z_iadd dL_refuses_416 ?_
    refine z_callWi1 (As := [.ref h, .int ((nI n) - (nI n) / 8 * 8), .int (10 + (nI n))]) (st := []) (fun l hl9 => kx_standing_1 l (by rw [hl9]; exact hlt9) D cI cZ h a u (nI n - nI n / 8 * 8) (10 + nI n) (f_standing2 (win8 hn) (x_sends3 hn)) hlk) zGok_U (fun _ _ q => q) (fun s args hts => vx_cwSW 3 hts gL_refuses_L_standing rfl rfl rfl (by decide +kernel) ⟨Nat.le_of_ble_eq_true rfl, Nat.le_of_ble_eq_true rfl⟩) [0, 1] rfl rfl (Nat.le_of_ble_eq_true rfl) ⟨Nat.le_of_ble_eq_true rfl, Nat.le_of_ble_eq_true rfl⟩ dL_refuses_417 rfl (fun r _ hp => ?_)
    subst hp
    refine z_eqc (cells' := 25) (slots' := 150) (by decide) (by decide) ?_
    refine z_ldc (v := (-2000000002)) (List.mem_of_getElem? (i := 1) rfl) dL_refuses_420 ?_
    refine z_icmp_ne 553 dL_refuses_422 (by decide) (fun c => absurd rfl c) (fun _ => ?_)
    refine z_aload_n 3 dL_refuses_425 rfl ?_
    refine z_iload_n 4 dL_refuses_426 rfl ?_
    refine z_bipush (v := 8) dL_refuses_427 rfl ?_
    refine z_irem dL_refuses_429 (by decide) ?_
    refine z_iconst (v := (-1)) dL_refuses_430 rfl ?_
    refine z_callWi1 (As := [.ref h, .int ((nI n) - (nI n) / 8 * 8), .int (-1)]) (st := []) (fun l hl9 => kx_standing_1 l (by rw [hl9]; exact hlt9) D cI cZ h a u (nI n - nI n / 8 * 8) (-1) (f_standing2 (win8 hn) (by decide)) hlk) zGok_U (fun _ _ q => q) (fun s args hts => vx_cwSW 3 hts gL_refuses_L_standing rfl rfl rfl (by decide +kernel) ⟨Nat.le_of_ble_eq_true rfl, Nat.le_of_ble_eq_true rfl⟩) [0, 1] rfl rfl (Nat.le_of_ble_eq_true rfl) ⟨Nat.le_of_ble_eq_true rfl, Nat.le_of_ble_eq_true rfl⟩ dL_refuses_431 rfl (fun r _ hp => ?_)
    subst hp
    refine z_eqc (cells' := 26) (slots' := 156) (by decide) (by decide) ?_
    refine z_ldc (v := (-2000000002)) (List.mem_of_getElem? (i := 1) rfl) dL_refuses_434 ?_
    refine z_icmp_ne 553 dL_refuses_436 (by decide) (fun c => absurd rfl c) (fun _ => ?_)
    refine z_aload_n 3 dL_refuses_439 rfl ?_
    refine z_iload_n 2 dL_refuses_440 rfl ?_
    refine z_callWi1 (As := [.ref h, .int none]) (st := []) (fun l hl9 => kx_badge_3 l (by rw [hl9]; exact hlt9) D cI cZ h a u none (f_badge hnone) 0 hnd (by omega) 0 hnn (by omega)) zGok_U (fun _ _ q => q) (fun s args hts => vx_cwSW 2 hts gL_refuses_L_badge rfl rfl rfl (by decide +kernel) ⟨Nat.le_of_ble_eq_true rfl, Nat.le_of_ble_eq_true rfl⟩) [0, 1] rfl rfl (Nat.le_of_ble_eq_true rfl) ⟨Nat.le_of_ble_eq_true rfl, Nat.le_of_ble_eq_true rfl⟩ dL_refuses_441 rfl (fun r _ hp => ?_)
    subst hp
    refine z_eqc (cells' := 27) (slots' := 162) (by decide) (by decide) ?_
    refine z_ldc (v := (-2000000001)) (List.mem_of_getElem? (i := 2) rfl) dL_refuses_444 ?_
    refine z_icmp_ne 553 dL_refuses_446 (by decide) (fun c => absurd rfl c) (fun _ => ?_)
    refine z_aload_n 3 dL_refuses_449 rfl ?_
    refine z_iload_n 2 dL_refuses_450 rfl ?_
    refine z_callWi1 (As := [.ref h, .int none]) (st := []) (fun l hl9 => kx_waiting_3 l (by rw [hl9]; exact hlt9) D cI cZ h a u none (f_waiting hnone) 0 hnd (by omega) 0 hnn (by omega)) zGok_U (fun _ _ q => q) (fun s args hts => vx_cwSW 2 hts gL_refuses_L_waiting rfl rfl rfl (by decide +kernel) ⟨Nat.le_of_ble_eq_true rfl, Nat.le_of_ble_eq_true rfl⟩) [0, 1] rfl rfl (Nat.le_of_ble_eq_true rfl) ⟨Nat.le_of_ble_eq_true rfl, Nat.le_of_ble_eq_true rfl⟩ dL_refuses_451 rfl (fun r _ hp => ?_)
    subst hp
    refine z_eqc (cells' := 28) (slots' := 168) (by decide) (by decide) ?_
    refine z_ldc (v := (-2000000001)) (List.mem_of_getElem? (i := 2) rfl) dL_refuses_454 ?_
    refine z_icmp_ne 553 dL_refuses_456 (by decide) (fun c => absurd rfl c) (fun _ => ?_)
    refine z_aload_n 3 dL_refuses_459 rfl ?_
    refine z_iload_n 2 dL_refuses_460 rfl ?_
    refine z_callWi1 (As := [.ref h, .int none]) (st := []) (fun l hl9 => kx_quota_3 l (by rw [hl9]; exact hlt9) D cI cZ h a u none (f_quota hnone) 0 hnd (by omega)) zGok_U (fun _ _ q => q) (fun s args hts => vx_cwSW 2 hts gL_refuses_L_quota rfl rfl rfl (by decide +kernel) ⟨Nat.le_of_ble_eq_true rfl, Nat.le_of_ble_eq_true rfl⟩) [0, 1] rfl rfl (Nat.le_of_ble_eq_true rfl) ⟨Nat.le_of_ble_eq_true rfl, Nat.le_of_ble_eq_true rfl⟩ dL_refuses_461 rfl (fun r _ hp => ?_)
    subst hp
    refine z_eqc (cells' := 29) (slots' := 174) (by decide) (by decide) ?_
    refine z_ldc (v := (-2000000001)) (List.mem_of_getElem? (i := 2) rfl) dL_refuses_464 ?_
    refine z_icmp_ne 553 dL_refuses_466 (by decide) (fun c => absurd rfl c) (fun _ => ?_)
    refine z_aload_n 3 dL_refuses_469 rfl ?_
    refine z_iconst (v := 0) dL_refuses_470 rfl ?_
    refine z_callWi1 (As := [.ref h, .int 0]) (st := []) (fun l hl9 => kx_passes_1 l (by rw [hl9]; exact hlt9) D cI cZ h a u 0 (f_pass1 (by decide)) 0 hnd (by omega) 0 hnn (by omega)) zGok_U (fun _ _ q => q) (fun s args hts => vx_cwSW 2 hts gL_refuses_L_passes rfl rfl rfl (by decide +kernel) ⟨Nat.le_of_ble_eq_true rfl, Nat.le_of_ble_eq_true rfl⟩) [0, 1] rfl rfl (Nat.le_of_ble_eq_true rfl) ⟨Nat.le_of_ble_eq_true rfl, Nat.le_of_ble_eq_true rfl⟩ dL_refuses_471 rfl (fun r _ hp => ?_)
    subst hp
    refine z_eqc (cells' := 30) (slots' := 180) (by decide) (by decide) ?_
    refine z_ldc (v := (-2000000002)) (List.mem_of_getElem? (i := 1) rfl) dL_refuses_474 ?_
    refine z_icmp_ne 553 dL_refuses_476 (by decide) (fun c => absurd rfl c) (fun _ => ?_)
    refine z_aload_n 3 dL_refuses_479 rfl ?_
    refine z_sipush (v := 3001) dL_refuses_480 rfl ?_
    refine z_iload_n 4 dL_refuses_483 rfl ?_
    refine z_iadd dL_refuses_484 ?_
    refine z_callWi1 (As := [.ref h, .int (3001 + (nI n))]) (st := []) (fun l hl9 => kx_passes_1 l (by rw [hl9]; exact hlt9) D cI cZ h a u (3001 + nI n) (f_pass1 (x_passes2 hn)) 0 hnd (by omega) 0 hnn (by omega)) zGok_U (fun _ _ q => q) (fun s args hts => vx_cwSW 2 hts gL_refuses_L_passes rfl rfl rfl (by decide +kernel) ⟨Nat.le_of_ble_eq_true rfl, Nat.le_of_ble_eq_true rfl⟩) [0, 1] rfl rfl (Nat.le_of_ble_eq_true rfl) ⟨Nat.le_of_ble_eq_true rfl, Nat.le_of_ble_eq_true rfl⟩ dL_refuses_485 rfl (fun r _ hp => ?_)
    subst hp
    refine z_eqc (cells' := 31) (slots' := 186) (by decide) (by decide) ?_
    refine z_ldc (v := (-2000000002)) (List.mem_of_getElem? (i := 1) rfl) dL_refuses_488 ?_
    refine z_icmp_ne 553 dL_refuses_490 (by decide) (fun c => absurd rfl c) (fun _ => ?_)
    refine z_aload_n 3 dL_refuses_493 rfl ?_
    refine z_callVi (As := []) (st := []) (fun l => c_X0_devices l D cI cZ h a u) zGok_TT (fun _ _ _ => trivial) (fun s args hts => cwV 0 hts gL_refuses_X0_devices rfl rfl rfl (by decide +kernel) ⟨Nat.le_of_ble_eq_true rfl, Nat.le_of_ble_eq_true rfl⟩) (ci := 0) rfl rfl rfl rfl (Nat.le_of_ble_eq_true rfl) ⟨Nat.le_of_ble_eq_true rfl, Nat.le_of_ble_eq_true rfl⟩ dL_refuses_494 rfl (fun r _ hp => ?_)
    have hp2 : r = 0 := hp.trans hnd; subst hp2
    refine z_eqc (cells' := 31) (slots' := 186) (by decide) (by decide) ?_
    refine z_bipush (v := 16) dL_refuses_497 rfl ?_
    refine z_icmp_lt 513 dL_refuses_499 (by decide) (fun _ => ?_) (fun c => absurd (by decide) c)
    refine z_aload_n 3 dL_refuses_513 rfl ?_
    refine z_callVi (As := []) (st := []) (fun l => c_X0_sent l D cI cZ h a u) zGok_TT (fun _ _ _ => trivial) (fun s args hts => cwV 0 hts gL_refuses_X0_sent rfl rfl rfl (by decide +kernel) ⟨Nat.le_of_ble_eq_true rfl, Nat.le_of_ble_eq_true rfl⟩) (ci := 0) rfl rfl rfl rfl (Nat.le_of_ble_eq_true rfl) ⟨Nat.le_of_ble_eq_true rfl, Nat.le_of_ble_eq_true rfl⟩ dL_refuses_514 rfl (fun r _ hp => ?_)
    have hp2 : r = 0 := hp.trans hnn; subst hp2
    refine z_eqc (cells' := 31) (slots' := 186) (by decide) (by decide) ?_
    refine z_bipush (v := 120) dL_refuses_517 rfl ?_
    refine z_icmp_lt 549 dL_refuses_519 (by decide) (fun _ => ?_) (fun c => absurd (by decide) c)
    refine z_iconst (v := 1) dL_refuses_549 rfl ?_
    refine z_goto 554 dL_refuses_550 (by decide) ?_
    refine z_istore (L' := [(5, .int 1), (4, .int user), (3, .int late), (2, .int none), (0, .ref h), (1, .int (nI n))]) dL_refuses_554 (by decide) rfl ?_
    refine z_iload 0 dL_refuses_556 rfl ?_
    refine z_if_eq 711 dL_refuses_558 (by decide) (fun c => absurd c (by decide)) (fun _ => ?_)
    refine z_aload_n 4 dL_refuses_561 rfl ?_
    refine z_callVi (As := []) (st := []) (fun l => c_X0_devices l D cI cZ h a u) zGok_TT (fun _ _ _ => trivial) (fun s args hts => cwV 0 hts gL_refuses_X0_devices rfl rfl rfl (by decide +kernel) ⟨Nat.le_of_ble_eq_true rfl, Nat.le_of_ble_eq_true rfl⟩) (ci := 0) rfl rfl rfl rfl (Nat.le_of_ble_eq_true rfl) ⟨Nat.le_of_ble_eq_true rfl, Nat.le_of_ble_eq_true rfl⟩ dL_refuses_562 rfl (fun r _ hp => ?_)
    have hp2 : r = 0 := hp.trans hnd; subst hp2
    refine z_eqc (cells' := 31) (slots' := 186) (by decide) (by decide) ?_
    refine z_if_le 711 dL_refuses_565 (by decide) (fun _ => ?_) (fun c => absurd (by decide) c)
    refine z_iload 0 dL_refuses_711 rfl ?_
    refine z_eqc (cells' := 31) (slots' := 186) (by decide) (by decide) ?_
    exact hret _ () _ _ _ dL_refuses_713 rfl rfl rfl
  by_cases he : nI n - nI n / 2 * 2 = 0
  ·
    refine z_iload_n 1 dL_refuses_0 rfl ?_
    refine z_iconst (v := 2) dL_refuses_1 rfl ?_
    refine z_irem dL_refuses_2 (by decide) ?_
    refine z_if_ne 15 dL_refuses_3 (by decide) (fun c => absurd he c) (fun _ => ?_)
    refine z_iconst (v := (-1)) dL_refuses_6 rfl ?_
    refine z_iload_n 1 dL_refuses_7 rfl ?_
    refine z_bipush (v := 50) dL_refuses_8 rfl ?_
    refine z_irem dL_refuses_10 (by decide) ?_
    refine z_isub dL_refuses_11 ?_
    refine z_goto 24 dL_refuses_12 (by decide) ?_
    refine z_istore_n (L' := [(2, .int ((-1) - ((nI n) - (nI n) / 50 * 50))), (0, .ref h), (1, .int (nI n))]) dL_refuses_24 (by decide) rfl ?_
    refine z_iload_n 2 dL_refuses_25 rfl ?_
    refine z_iconst (v := 2) dL_refuses_26 rfl ?_
    refine z_irem dL_refuses_27 (by decide) ?_
    refine z_if_ne 40 dL_refuses_28 (by decide) (fun c => absurd he c) (fun _ => ?_)
    refine z_iconst (v := (-1)) dL_refuses_31 rfl ?_
    refine z_iload_n 2 dL_refuses_32 rfl ?_
    refine z_bipush (v := 50) dL_refuses_33 rfl ?_
    refine z_irem dL_refuses_35 (by decide) ?_
    refine z_isub dL_refuses_36 ?_
    refine z_goto 49 dL_refuses_37 (by decide) ?_
    refine z_istore_n (L' := [(3, .int ((-1) - ((nI n) - (nI n) / 50 * 50))), (2, .int ((-1) - ((nI n) - (nI n) / 50 * 50))), (0, .ref h), (1, .int (nI n))]) dL_refuses_49 (by decide) rfl ?_
    refine z_iload_n 3 dL_refuses_50 rfl ?_
    refine z_iconst (v := 2) dL_refuses_51 rfl ?_
    refine z_irem dL_refuses_52 (by decide) ?_
    refine z_if_ne 65 dL_refuses_53 (by decide) (fun c => absurd he c) (fun _ => ?_)
    refine z_iconst (v := (-1)) dL_refuses_56 rfl ?_
    refine z_iload_n 3 dL_refuses_57 rfl ?_
    refine z_bipush (v := 50) dL_refuses_58 rfl ?_
    refine z_irem dL_refuses_60 (by decide) ?_
    refine z_isub dL_refuses_61 ?_
    refine z_goto 72 dL_refuses_62 (by decide) ?_
    refine z_istore (L' := [(4, .int ((-1) - ((nI n) - (nI n) / 50 * 50))), (3, .int ((-1) - ((nI n) - (nI n) / 50 * 50))), (2, .int ((-1) - ((nI n) - (nI n) / 50 * 50))), (0, .ref h), (1, .int (nI n))]) dL_refuses_72 (by decide) rfl ?_
    exact B _ _ _ (dneg (m50 hn)) (nneg (m50 hn)) (u_even hn)
  ·
    refine z_iload_n 1 dL_refuses_0 rfl ?_
    refine z_iconst (v := 2) dL_refuses_1 rfl ?_
    refine z_irem dL_refuses_2 (by decide) ?_
    refine z_if_ne 15 dL_refuses_3 (by decide) (fun _ => ?_) (fun c => absurd c he)
    refine z_aload_n 0 dL_refuses_15 rfl ?_
    refine z_callVi (As := []) (st := []) (fun l => c_X0_devices l D cI cZ h a u) zGok_TT (fun _ _ _ => trivial) (fun s args hts => cwV 0 hts gL_refuses_X0_devices rfl rfl rfl (by decide +kernel) ⟨Nat.le_of_ble_eq_true rfl, Nat.le_of_ble_eq_true rfl⟩) (ci := 0) rfl rfl rfl rfl (Nat.le_of_ble_eq_true rfl) ⟨Nat.le_of_ble_eq_true rfl, Nat.le_of_ble_eq_true rfl⟩ dL_refuses_16 rfl (fun r _ hp => ?_)
    have hp2 : r = 0 := hp.trans hnd; subst hp2
    refine z_eqc (cells' := 0) (slots' := 0) (by decide) (by decide) ?_
    refine z_iload_n 1 dL_refuses_19 rfl ?_
    refine z_bipush (v := 50) dL_refuses_20 rfl ?_
    refine z_irem dL_refuses_22 (by decide) ?_
    refine z_iadd dL_refuses_23 ?_
    refine z_istore_n (L' := [(2, .int (0 + ((nI n) - (nI n) / 50 * 50))), (0, .ref h), (1, .int (nI n))]) dL_refuses_24 (by decide) rfl ?_
    refine z_iload_n 2 dL_refuses_25 rfl ?_
    refine z_iconst (v := 2) dL_refuses_26 rfl ?_
    refine z_irem dL_refuses_27 (by decide) ?_
    refine z_if_ne 40 dL_refuses_28 (by decide) (fun _ => ?_) (fun c => absurd c he)
    refine z_aload_n 1 dL_refuses_40 rfl ?_
    refine z_callVi (As := []) (st := []) (fun l => c_X0_sent l D cI cZ h a u) zGok_TT (fun _ _ _ => trivial) (fun s args hts => cwV 0 hts gL_refuses_X0_sent rfl rfl rfl (by decide +kernel) ⟨Nat.le_of_ble_eq_true rfl, Nat.le_of_ble_eq_true rfl⟩) (ci := 0) rfl rfl rfl rfl (Nat.le_of_ble_eq_true rfl) ⟨Nat.le_of_ble_eq_true rfl, Nat.le_of_ble_eq_true rfl⟩ dL_refuses_41 rfl (fun r _ hp => ?_)
    have hp2 : r = 0 := hp.trans hnn; subst hp2
    refine z_eqc (cells' := 0) (slots' := 0) (by decide) (by decide) ?_
    refine z_iload_n 2 dL_refuses_44 rfl ?_
    refine z_bipush (v := 50) dL_refuses_45 rfl ?_
    refine z_irem dL_refuses_47 (by decide) ?_
    refine z_iadd dL_refuses_48 ?_
    refine z_istore_n (L' := [(3, .int (0 + ((nI n) - (nI n) / 50 * 50))), (2, .int (0 + ((nI n) - (nI n) / 50 * 50))), (0, .ref h), (1, .int (nI n))]) dL_refuses_49 (by decide) rfl ?_
    refine z_iload_n 3 dL_refuses_50 rfl ?_
    refine z_iconst (v := 2) dL_refuses_51 rfl ?_
    refine z_irem dL_refuses_52 (by decide) ?_
    refine z_if_ne 65 dL_refuses_53 (by decide) (fun _ => ?_) (fun c => absurd c he)
    refine z_bipush (v := 8) dL_refuses_65 rfl ?_
    refine z_iload_n 3 dL_refuses_67 rfl ?_
    refine z_bipush (v := 50) dL_refuses_68 rfl ?_
    refine z_irem dL_refuses_70 (by decide) ?_
    refine z_iadd dL_refuses_71 ?_
    refine z_istore (L' := [(4, .int (8 + ((nI n) - (nI n) / 50 * 50))), (3, .int (0 + ((nI n) - (nI n) / 50 * 50))), (2, .int (0 + ((nI n) - (nI n) / 50 * 50))), (0, .ref h), (1, .int (nI n))]) dL_refuses_72 (by decide) rfl ?_
    exact B _ _ _ (dbig hnd (by omega) (p50 (k := 0) (by omega) hn)) (nbig hnn (by omega) (p50 (k := 0) (by omega) hn)) (u_odd hn)
