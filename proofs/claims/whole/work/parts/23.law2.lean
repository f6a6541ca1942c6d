set_option maxHeartbeats 8000000 in
set_option maxRecDepth 100000 in
theorem law_addDevice (E : ZE) (hlt : E.2.1.stackTraces = false) (b L : Nat) (xs : Nat → Int32) (D : va_G) (cI cZ cI2 cZ2 cJ : ClassId) (h h2 o : Nat) (a a2 : Nat → Nat) (hL : L ≤ 3072) (RR : SX → SX → Prop) (hWF : ∀ u v, RR u v → zWF u v) (hD : zD_addDevice RR) (i : Nat) (hi : i + 6 ≤ L) (u v : SX) (f : Nat → Int64) (cn sn : Nat) (hc1 : cn + 1 ≤ 1064) (hc2 : sn + 6 ≤ 9936) (hR : RR u v)
    (K : ∀ (u v : SX) (f : Nat → Int64), RR u v → ZW E (zGL b L xs) room_1 cL_law RL wsL_law 7 D [(cI, .int), (cZ, .boolean), (cI2, .int), (cZ2, .boolean), (cJ, .long)] (cn + 1) (sn + 6) (wX1 cI2 cZ2 h2 a2 v ++ (wX0 cI cZ h a u ++ wO cJ o f)) 1497 [(0, .ref b), (1, .ref h), (2, .ref h2), (3, .ref o), (4, .int (nI i))] []) : ZW E (zGL b L xs) room_1 cL_law RL wsL_law 7 D [(cI, .int), (cZ, .boolean), (cI2, .int), (cZ2, .boolean), (cJ, .long)] cn sn (wX1 cI2 cZ2 h2 a2 v ++ (wX0 cI cZ h a u ++ wO cJ o f)) 144 [(0, .ref b), (1, .ref h), (2, .ref h2), (3, .ref o), (4, .int (nI i))] [] := by
  obtain ⟨nd, nn, ⟨hnd, hd⟩, ⟨hnn, hn⟩, hlk, hmd, hmn⟩ := hWF u v hR
  have K0 : ∀ (u v : SX) (f : Nat → Int64), RR u v → ZW E (zGL b L xs) room_1 cL_law RL wsL_law 7 D [(cI, .int), (cZ, .boolean), (cI2, .int), (cZ2, .boolean), (cJ, .long)] cn sn (wX1 cI2 cZ2 h2 a2 v ++ (wX0 cI cZ h a u ++ wO cJ o f)) 1497 [(0, .ref b), (1, .ref h), (2, .ref h2), (3, .ref o), (4, .int (nI i))] [] := fun u v f h => z_widen (by omega) (by omega) (K u v f h)
  refine z_aload_n 1 dL_law_144 rfl ?_
  refine z_aload_n 0 dL_law_145 rfl ?_
  refine z_iload 4 dL_law_146 rfl ?_
  refine z_iconst (v := 1) dL_law_148 rfl ?_
  refine z_iadd dL_law_149 ?_
  refine z_sld (v := (xs (i + 1))) (zsin (c := 1) (j := 1) rfl hi (by decide) hL).1 (by rw [(zsin (c := 1) (j := 1) rfl hi (by decide) hL).2]) dL_law_150 ?_
  refine z_aload_n 0 dL_law_151 rfl ?_
  refine z_iload 4 dL_law_152 rfl ?_
  refine z_iconst (v := 2) dL_law_154 rfl ?_
  refine z_iadd dL_law_155 ?_
  refine z_sld (v := (xs (i + 2))) (zsin (c := 2) (j := 2) rfl hi (by decide) hL).1 (by rw [(zsin (c := 2) (j := 2) rfl hi (by decide) hL).2]) dL_law_156 ?_
  refine z_aload_n 3 dL_law_157 rfl ?_
  rcases hD u v hR (xs (i + 1)) (xs (i + 2))  with ⟨he, h0, hr, hRn⟩ | ⟨he, h0, hRn⟩
  ·
    refine z_callWi_fr (As := [.ref h, .int (xs (i + 1)), .int (xs (i + 2)), .ref o]) (st := []) (wX1 cI2 cZ2 h2 a2 v) [] (fun l _ => kn_addDevice l D cI cZ cJ h a o u f (xs (i + 1)) (xs (i + 2)) he nd hnd hd) zGok_TT (fun _ _ _ => trivial) (fun s args hts => vx_cwSW 4 hts gL_law_L_addDevice rfl rfl rfl (by decide +kernel) ⟨Nat.le_of_ble_eq_true rfl, Nat.le_of_ble_eq_true rfl⟩) [0, 1, 4] rfl rfl rfl (Nat.le_of_ble_eq_true rfl) ⟨by show _ ≤ 1064; omega, by show _ ≤ 9936; omega⟩ dL_law_158 rfl (fun r u2 hp => ?_)
    obtain ⟨u3, f3⟩ := u2
    obtain ⟨rfl, hS, hf⟩ := hp
    have hS : u3 = (s_X0_addDevice u (xs (i + 1)) (xs (i + 2))) := hS
    subst hS
    refine z_eqw (w' := (wX1 cI2 cZ2 h2 a2 v ++ (wX0 cI cZ h a (s_X0_addDevice u (xs (i + 1)) (xs (i + 2))) ++ wO cJ o f3))) rfl ?_
    refine z_istore (L' := [(5, .int 0), (0, .ref b), (1, .ref h), (2, .ref h2), (3, .ref o), (4, .int (nI i))]) dL_law_161 (by decide) rfl ?_
    refine z_aload_n 3 dL_law_163 rfl ?_
    refine z_aload_n 1 dL_law_164 rfl ?_
    refine z_iload 5 dL_law_165 rfl ?_
    refine z_iconst (v := 1) dL_law_167 rfl ?_
    refine z_iadd dL_law_168 ?_
    refine z_sld (v := (xs (i + 1))) (zsin (c := 1) (j := 1) rfl hi (by decide) hL).1 (by rw [(zsin (c := 1) (j := 1) rfl hi (by decide) hL).2]) dL_law_169 ?_
    refine z_aload_n 1 dL_law_170 rfl ?_
    refine z_iload 5 dL_law_171 rfl ?_
    refine z_iconst (v := 2) dL_law_173 rfl ?_
    refine z_iadd dL_law_174 ?_
    refine z_sld (v := (xs (i + 2))) (zsin (c := 2) (j := 2) rfl hi (by decide) hL).1 (by rw [(zsin (c := 2) (j := 2) rfl hi (by decide) hL).2]) dL_law_175 ?_
    refine z_callVi_fr (As := [.int (xs (i + 1)), .int (xs (i + 2))]) (st := []) [] (wX0 cI cZ h a (s_X0_addDevice u (xs (i + 1)) (xs (i + 2))) ++ wO cJ o f3) (fun l => c_X1_addDevice l D cI2 cZ2 h2 a2 v (xs (i + 1)) (xs (i + 2)) nd hmd hd) zGok_TT (fun _ _ _ => trivial) (fun s args hts => cwV 2 hts gL_law_X1_addDevice rfl rfl rfl (by decide +kernel) ⟨Nat.le_of_ble_eq_true rfl, Nat.le_of_ble_eq_true rfl⟩) (ci := 1) rfl rfl rfl [2, 3] rfl rfl rfl (Nat.le_of_ble_eq_true rfl) ⟨by show _ ≤ 1064; omega, by show _ ≤ 9936; omega⟩ dL_law_176 rfl (fun r u2 hp => ?_)
    obtain ⟨rfl, rfl⟩ := hp
    refine z_istore (L' := [(6, .int (r_X1_addDevice v (xs (i + 1)) (xs (i + 2)))), (5, .int 0), (0, .ref b), (1, .ref h), (2, .ref h2), (3, .ref o), (4, .int (nI i))]) dL_law_179 (by decide) rfl ?_
    refine z_aload_n 4 dL_law_181 rfl ?_
    refine z_callVi_fr (As := []) (st := []) [] (wX0 cI cZ h a (s_X0_addDevice u (xs (i + 1)) (xs (i + 2))) ++ wO cJ o f3) (fun l => c_X1_thrown l D cI2 cZ2 h2 a2 (s_X1_addDevice v (xs (i + 1)) (xs (i + 2)))  ) zGok_TT (fun _ _ _ => trivial) (fun s args hts => cwV 0 hts gL_law_X1_thrown rfl rfl rfl (by decide +kernel) ⟨Nat.le_of_ble_eq_true rfl, Nat.le_of_ble_eq_true rfl⟩) (ci := 1) rfl rfl rfl [2, 3] rfl rfl rfl (Nat.le_of_ble_eq_true rfl) ⟨by show _ ≤ 1064; omega, by show _ ≤ 9936; omega⟩ dL_law_182 rfl (fun r u2 hp => ?_)
    subst hp
    refine z_iload 1 dL_law_185 rfl ?_
    refine z_icmp_eq 192 dL_law_187 (by decide) (fun _ => ?_) (fun q => absurd h0 q)
    refine z_iload 1 dL_law_192 rfl ?_
    refine z_if_ne 209 dL_law_194 (by decide) (fun q => absurd q (by decide)) (fun _ => ?_)
    refine z_aload_n 5 dL_law_197 rfl ?_
    refine z_iconst (v := 0) dL_law_198 rfl ?_
    refine z_lald (v := (f3 0)) 31 4 rfl rfl zin01 rfl dL_law_199 ?_
    refine z_iload 0 dL_law_200 rfl ?_
    refine z_i2l (v := ((r_X1_addDevice v (xs (i + 1)) (xs (i + 2)))).toInt64) dL_law_202 rfl ?_
    refine z_lcmpeq 209 (by rw [show f3 0 = _ from hf, hr]) dL_law_203 dL_law_204 (by decide) ?_
    refine z_goto 1497 dL_law_209 (by decide) ?_
    refine z_sub (L' := [(0, .ref b), (1, .ref h), (2, .ref h2), (3, .ref o), (4, .int (nI i))]) [2, 3, 4, 5, 6] rfl ?_
    exact K0 (s_X0_addDevice u (xs (i + 1)) (xs (i + 2))) (s_X1_addDevice v (xs (i + 1)) (xs (i + 2))) f3 hRn
  ·
    refine z_callWi_fr (As := [.ref h, .int (xs (i + 1)), .int (xs (i + 2)), .ref o]) (st := []) (wX1 cI2 cZ2 h2 a2 v) [] (fun l hl9 => kx_addDevice l (by rw [hl9]; exact hlt) D cI cZ cJ h a o u f (xs (i + 1)) (xs (i + 2)) he nd hnd hd) zGok_U (fun _ _ q => q.1) (fun s args hts => vx_cwSW 4 hts gL_law_L_addDevice rfl rfl rfl (by decide +kernel) ⟨Nat.le_of_ble_eq_true rfl, Nat.le_of_ble_eq_true rfl⟩) [0, 1, 4] rfl rfl rfl (Nat.le_of_ble_eq_true rfl) ⟨by show _ ≤ 1064; omega, by show _ ≤ 9936; omega⟩ dL_law_158 rfl (fun r u2 hp => ?_)
    subst hp
    refine z_eqw (w' := (wX1 cI2 cZ2 h2 a2 v ++ (wX0 cI cZ h a u ++ wO cJ o f))) rfl ?_
    refine z_istore (L' := [(5, .int (if e_X0_addDevice u (xs (i + 1)) (xs (i + 2)) = 1 then 1 else 2)), (0, .ref b), (1, .ref h), (2, .ref h2), (3, .ref o), (4, .int (nI i))]) dL_law_161 (by decide) rfl ?_
    refine z_aload_n 3 dL_law_163 rfl ?_
    refine z_aload_n 1 dL_law_164 rfl ?_
    refine z_iload 5 dL_law_165 rfl ?_
    refine z_iconst (v := 1) dL_law_167 rfl ?_
    refine z_iadd dL_law_168 ?_
    refine z_sld (v := (xs (i + 1))) (zsin (c := 1) (j := 1) rfl hi (by decide) hL).1 (by rw [(zsin (c := 1) (j := 1) rfl hi (by decide) hL).2]) dL_law_169 ?_
    refine z_aload_n 1 dL_law_170 rfl ?_
    refine z_iload 5 dL_law_171 rfl ?_
    refine z_iconst (v := 2) dL_law_173 rfl ?_
    refine z_iadd dL_law_174 ?_
    refine z_sld (v := (xs (i + 2))) (zsin (c := 2) (j := 2) rfl hi (by decide) hL).1 (by rw [(zsin (c := 2) (j := 2) rfl hi (by decide) hL).2]) dL_law_175 ?_
    refine z_callVi_fr (As := [.int (xs (i + 1)), .int (xs (i + 2))]) (st := []) [] (wX0 cI cZ h a u ++ wO cJ o f) (fun l => c_X1_addDevice l D cI2 cZ2 h2 a2 v (xs (i + 1)) (xs (i + 2)) nd hmd hd) zGok_TT (fun _ _ _ => trivial) (fun s args hts => cwV 2 hts gL_law_X1_addDevice rfl rfl rfl (by decide +kernel) ⟨Nat.le_of_ble_eq_true rfl, Nat.le_of_ble_eq_true rfl⟩) (ci := 1) rfl rfl rfl [2, 3] rfl rfl rfl (Nat.le_of_ble_eq_true rfl) ⟨by show _ ≤ 1064; omega, by show _ ≤ 9936; omega⟩ dL_law_176 rfl (fun r u2 hp => ?_)
    obtain ⟨rfl, rfl⟩ := hp
    refine z_istore (L' := [(6, .int (r_X1_addDevice v (xs (i + 1)) (xs (i + 2)))), (5, .int (if e_X0_addDevice u (xs (i + 1)) (xs (i + 2)) = 1 then 1 else 2)), (0, .ref b), (1, .ref h), (2, .ref h2), (3, .ref o), (4, .int (nI i))]) dL_law_179 (by decide) rfl ?_
    refine z_aload_n 4 dL_law_181 rfl ?_
    refine z_callVi_fr (As := []) (st := []) [] (wX0 cI cZ h a u ++ wO cJ o f) (fun l => c_X1_thrown l D cI2 cZ2 h2 a2 (s_X1_addDevice v (xs (i + 1)) (xs (i + 2)))  ) zGok_TT (fun _ _ _ => trivial) (fun s args hts => cwV 0 hts gL_law_X1_thrown rfl rfl rfl (by decide +kernel) ⟨Nat.le_of_ble_eq_true rfl, Nat.le_of_ble_eq_true rfl⟩) (ci := 1) rfl rfl rfl [2, 3] rfl rfl rfl (Nat.le_of_ble_eq_true rfl) ⟨by show _ ≤ 1064; omega, by show _ ≤ 9936; omega⟩ dL_law_182 rfl (fun r u2 hp => ?_)
    subst hp
    refine z_iload 1 dL_law_185 rfl ?_
    refine z_icmp_eq 192 dL_law_187 (by decide) (fun _ => ?_) (fun q => absurd h0 q)
    refine z_iload 1 dL_law_192 rfl ?_
    refine z_if_ne 209 dL_law_194 (by decide) (fun _ => ?_) (fun q => absurd q (by split <;> decide))
    refine z_goto 1497 dL_law_209 (by decide) ?_
    refine z_sub (L' := [(0, .ref b), (1, .ref h), (2, .ref h2), (3, .ref o), (4, .int (nI i))]) [2, 3, 4, 5, 6] rfl ?_
    exact K u (s_X1_addDevice v (xs (i + 1)) (xs (i + 2))) f hRn
set_option maxHeartbeats 8000000 in
set_option maxRecDepth 100000 in
theorem law_setOnline (E : ZE) (hlt : E.2.1.stackTraces = false) (b L : Nat) (xs : Nat → Int32) (D : va_G) (cI cZ cI2 cZ2 cJ : ClassId) (h h2 o : Nat) (a a2 : Nat → Nat) (hL : L ≤ 3072) (RR : SX → SX → Prop) (hWF : ∀ u v, RR u v → zWF u v) (hD : zD_setOnline RR) (i : Nat) (hi : i + 6 ≤ L) (u v : SX) (f : Nat → Int64) (cn sn : Nat) (hc1 : cn + 1 ≤ 1064) (hc2 : sn + 6 ≤ 9936) (hR : RR u v)
    (K : ∀ (u v : SX) (f : Nat → Int64), RR u v → ZW E (zGL b L xs) room_1 cL_law RL wsL_law 7 D [(cI, .int), (cZ, .boolean), (cI2, .int), (cZ2, .boolean), (cJ, .long)] (cn + 1) (sn + 6) (wX1 cI2 cZ2 h2 a2 v ++ (wX0 cI cZ h a u ++ wO cJ o f)) 1497 [(0, .ref b), (1, .ref h), (2, .ref h2), (3, .ref o), (4, .int (nI i))] []) : ZW E (zGL b L xs) room_1 cL_law RL wsL_law 7 D [(cI, .int), (cZ, .boolean), (cI2, .int), (cZ2, .boolean), (cJ, .long)] cn sn (wX1 cI2 cZ2 h2 a2 v ++ (wX0 cI cZ h a u ++ wO cJ o f)) 212 [(0, .ref b), (1, .ref h), (2, .ref h2), (3, .ref o), (4, .int (nI i))] [] := by
  obtain ⟨nd, nn, ⟨hnd, hd⟩, ⟨hnn, hn⟩, hlk, hmd, hmn⟩ := hWF u v hR
  have K0 : ∀ (u v : SX) (f : Nat → Int64), RR u v → ZW E (zGL b L xs) room_1 cL_law RL wsL_law 7 D [(cI, .int), (cZ, .boolean), (cI2, .int), (cZ2, .boolean), (cJ, .long)] cn sn (wX1 cI2 cZ2 h2 a2 v ++ (wX0 cI cZ h a u ++ wO cJ o f)) 1497 [(0, .ref b), (1, .ref h), (2, .ref h2), (3, .ref o), (4, .int (nI i))] [] := fun u v f h => z_widen (by omega) (by omega) (K u v f h)
  refine z_aload_n 1 dL_law_212 rfl ?_
  refine z_aload_n 0 dL_law_213 rfl ?_
  refine z_iload 4 dL_law_214 rfl ?_
  refine z_iconst (v := 1) dL_law_216 rfl ?_
  refine z_iadd dL_law_217 ?_
  refine z_sld (v := (xs (i + 1))) (zsin (c := 1) (j := 1) rfl hi (by decide) hL).1 (by rw [(zsin (c := 1) (j := 1) rfl hi (by decide) hL).2]) dL_law_218 ?_
  refine z_aload_n 0 dL_law_219 rfl ?_
  refine z_iload 4 dL_law_220 rfl ?_
  refine z_iconst (v := 2) dL_law_222 rfl ?_
  refine z_iadd dL_law_223 ?_
  refine z_sld (v := (xs (i + 2))) (zsin (c := 2) (j := 2) rfl hi (by decide) hL).1 (by rw [(zsin (c := 2) (j := 2) rfl hi (by decide) hL).2]) dL_law_224 ?_
  refine z_if_eq 232 dL_law_225 (by decide) (fun c1 => ?_) (fun c1 => ?_)
  ·
    refine z_iconst (v := 0) dL_law_232 rfl ?_
    refine z_aload_n 3 dL_law_233 rfl ?_
    rcases hD u v hR (xs (i + 1)) 0 (Or.inl rfl) with ⟨he, h0, hr, hRn⟩ | ⟨he, h0, hRn⟩
    ·
      refine z_callWi_fr (As := [.ref h, .int (xs (i + 1)), .int 0, .ref o]) (st := []) (wX1 cI2 cZ2 h2 a2 v) [] (fun l _ => kn_setOnline l D cI cZ cJ h a o u f (xs (i + 1)) 0 he nd hnd hd nn hnn hn) zGok_TT (fun _ _ _ => trivial) (fun s args hts => vx_cwSW 4 hts gL_law_L_setOnline rfl rfl rfl (by decide +kernel) ⟨Nat.le_of_ble_eq_true rfl, Nat.le_of_ble_eq_true rfl⟩) [0, 1, 4] rfl rfl rfl (Nat.le_of_ble_eq_true rfl) ⟨by show _ ≤ 1064; omega, by show _ ≤ 9936; omega⟩ dL_law_234 rfl (fun r u2 hp => ?_)
      obtain ⟨u3, f3⟩ := u2
      obtain ⟨rfl, hS, hf⟩ := hp
      have hS : u3 = (s_X0_setOnline u (xs (i + 1)) 0) := hS
      subst hS
      refine z_eqw (w' := (wX1 cI2 cZ2 h2 a2 v ++ (wX0 cI cZ h a (s_X0_setOnline u (xs (i + 1)) 0) ++ wO cJ o f3))) rfl ?_
      refine z_istore (L' := [(5, .int 0), (0, .ref b), (1, .ref h), (2, .ref h2), (3, .ref o), (4, .int (nI i))]) dL_law_237 (by decide) rfl ?_
      refine z_aload_n 3 dL_law_239 rfl ?_
      refine z_aload_n 1 dL_law_240 rfl ?_
      refine z_iload 5 dL_law_241 rfl ?_
      refine z_iconst (v := 1) dL_law_243 rfl ?_
      refine z_iadd dL_law_244 ?_
      refine z_sld (v := (xs (i + 1))) (zsin (c := 1) (j := 1) rfl hi (by decide) hL).1 (by rw [(zsin (c := 1) (j := 1) rfl hi (by decide) hL).2]) dL_law_245 ?_
      refine z_aload_n 1 dL_law_246 rfl ?_
      refine z_iload 5 dL_law_247 rfl ?_
      refine z_iconst (v := 2) dL_law_249 rfl ?_
      refine z_iadd dL_law_250 ?_
      refine z_sld (v := (xs (i + 2))) (zsin (c := 2) (j := 2) rfl hi (by decide) hL).1 (by rw [(zsin (c := 2) (j := 2) rfl hi (by decide) hL).2]) dL_law_251 ?_
      refine z_if_eq 259 dL_law_252 (by decide) (fun _ => ?_) (fun q => absurd c1 q)
      refine z_iconst (v := 0) dL_law_259 rfl ?_
      refine z_callVi_fr (As := [.int (xs (i + 1)), .int 0]) (st := []) [] (wX0 cI cZ h a (s_X0_setOnline u (xs (i + 1)) 0) ++ wO cJ o f3) (fun l => c_X1_setOnline l D cI2 cZ2 h2 a2 v (xs (i + 1)) 0 nd hmd hd nn hmn hn) zGok_TT (fun _ _ _ => trivial) (fun s args hts => cwV 2 hts gL_law_X1_setOnline rfl rfl rfl (by decide +kernel) ⟨Nat.le_of_ble_eq_true rfl, Nat.le_of_ble_eq_true rfl⟩) (ci := 1) rfl rfl rfl [2, 3] rfl rfl rfl (Nat.le_of_ble_eq_true rfl) ⟨by show _ ≤ 1064; omega, by show _ ≤ 9936; omega⟩ dL_law_260 rfl (fun r u2 hp => ?_)
      obtain ⟨rfl, rfl⟩ := hp
      refine z_istore (L' := [(6, .int (r_X1_setOnline v (xs (i + 1)) 0)), (5, .int 0), (0, .ref b), (1, .ref h), (2, .ref h2), (3, .ref o), (4, .int (nI i))]) dL_law_263 (by decide) rfl ?_
      refine z_aload_n 4 dL_law_265 rfl ?_
      refine z_callVi_fr (As := []) (st := []) [] (wX0 cI cZ h a (s_X0_setOnline u (xs (i + 1)) 0) ++ wO cJ o f3) (fun l => c_X1_thrown l D cI2 cZ2 h2 a2 (s_X1_setOnline v (xs (i + 1)) 0)  ) zGok_TT (fun _ _ _ => trivial) (fun s args hts => cwV 0 hts gL_law_X1_thrown rfl rfl rfl (by decide +kernel) ⟨Nat.le_of_ble_eq_true rfl, Nat.le_of_ble_eq_true rfl⟩) (ci := 1) rfl rfl rfl [2, 3] rfl rfl rfl (Nat.le_of_ble_eq_true rfl) ⟨by show _ ≤ 1064; omega, by show _ ≤ 9936; omega⟩ dL_law_266 rfl (fun r u2 hp => ?_)
      subst hp
      refine z_iload 1 dL_law_269 rfl ?_
      refine z_icmp_eq 276 dL_law_271 (by decide) (fun _ => ?_) (fun q => absurd h0 q)
      refine z_iload 1 dL_law_276 rfl ?_
      refine z_if_ne 293 dL_law_278 (by decide) (fun q => absurd q (by decide)) (fun _ => ?_)
      refine z_aload_n 5 dL_law_281 rfl ?_
      refine z_iconst (v := 0) dL_law_282 rfl ?_
      refine z_lald (v := (f3 0)) 31 4 rfl rfl zin01 rfl dL_law_283 ?_
      refine z_iload 0 dL_law_284 rfl ?_
      refine z_i2l (v := ((r_X1_setOnline v (xs (i + 1)) 0)).toInt64) dL_law_286 rfl ?_
      refine z_lcmpeq 293 (by rw [show f3 0 = _ from hf, hr]) dL_law_287 dL_law_288 (by decide) ?_
      refine z_goto 1497 dL_law_293 (by decide) ?_
      refine z_sub (L' := [(0, .ref b), (1, .ref h), (2, .ref h2), (3, .ref o), (4, .int (nI i))]) [2, 3, 4, 5, 6] rfl ?_
      exact K0 (s_X0_setOnline u (xs (i + 1)) 0) (s_X1_setOnline v (xs (i + 1)) 0) f3 hRn
    ·
      refine z_callWi_fr (As := [.ref h, .int (xs (i + 1)), .int 0, .ref o]) (st := []) (wX1 cI2 cZ2 h2 a2 v) [] (fun l hl9 => kx_setOnline l (by rw [hl9]; exact hlt) D cI cZ cJ h a o u f (xs (i + 1)) 0 he nd hnd hd nn hnn hn) zGok_U (fun _ _ q => q.1) (fun s args hts => vx_cwSW 4 hts gL_law_L_setOnline rfl rfl rfl (by decide +kernel) ⟨Nat.le_of_ble_eq_true rfl, Nat.le_of_ble_eq_true rfl⟩) [0, 1, 4] rfl rfl rfl (Nat.le_of_ble_eq_true rfl) ⟨by show _ ≤ 1064; omega, by show _ ≤ 9936; omega⟩ dL_law_234 rfl (fun r u2 hp => ?_)
      subst hp
      refine z_eqw (w' := (wX1 cI2 cZ2 h2 a2 v ++ (wX0 cI cZ h a u ++ wO cJ o f))) rfl ?_
      refine z_istore (L' := [(5, .int 1), (0, .ref b), (1, .ref h), (2, .ref h2), (3, .ref o), (4, .int (nI i))]) dL_law_237 (by decide) rfl ?_
      refine z_aload_n 3 dL_law_239 rfl ?_
      refine z_aload_n 1 dL_law_240 rfl ?_
      refine z_iload 5 dL_law_241 rfl ?_
      refine z_iconst (v := 1) dL_law_243 rfl ?_
      refine z_iadd dL_law_244 ?_
      refine z_sld (v := (xs (i + 1))) (zsin (c := 1) (j := 1) rfl hi (by decide) hL).1 (by rw [(zsin (c := 1) (j := 1) rfl hi (by decide) hL).2]) dL_law_245 ?_
      refine z_aload_n 1 dL_law_246 rfl ?_
      refine z_iload 5 dL_law_247 rfl ?_
      refine z_iconst (v := 2) dL_law_249 rfl ?_
      refine z_iadd dL_law_250 ?_
      refine z_sld (v := (xs (i + 2))) (zsin (c := 2) (j := 2) rfl hi (by decide) hL).1 (by rw [(zsin (c := 2) (j := 2) rfl hi (by decide) hL).2]) dL_law_251 ?_
      refine z_if_eq 259 dL_law_252 (by decide) (fun _ => ?_) (fun q => absurd c1 q)
      refine z_iconst (v := 0) dL_law_259 rfl ?_
      refine z_callVi_fr (As := [.int (xs (i + 1)), .int 0]) (st := []) [] (wX0 cI cZ h a u ++ wO cJ o f) (fun l => c_X1_setOnline l D cI2 cZ2 h2 a2 v (xs (i + 1)) 0 nd hmd hd nn hmn hn) zGok_TT (fun _ _ _ => trivial) (fun s args hts => cwV 2 hts gL_law_X1_setOnline rfl rfl rfl (by decide +kernel) ⟨Nat.le_of_ble_eq_true rfl, Nat.le_of_ble_eq_true rfl⟩) (ci := 1) rfl rfl rfl [2, 3] rfl rfl rfl (Nat.le_of_ble_eq_true rfl) ⟨by show _ ≤ 1064; omega, by show _ ≤ 9936; omega⟩ dL_law_260 rfl (fun r u2 hp => ?_)
      obtain ⟨rfl, rfl⟩ := hp
      refine z_istore (L' := [(6, .int (r_X1_setOnline v (xs (i + 1)) 0)), (5, .int 1), (0, .ref b), (1, .ref h), (2, .ref h2), (3, .ref o), (4, .int (nI i))]) dL_law_263 (by decide) rfl ?_
      refine z_aload_n 4 dL_law_265 rfl ?_
      refine z_callVi_fr (As := []) (st := []) [] (wX0 cI cZ h a u ++ wO cJ o f) (fun l => c_X1_thrown l D cI2 cZ2 h2 a2 (s_X1_setOnline v (xs (i + 1)) 0)  ) zGok_TT (fun _ _ _ => trivial) (fun s args hts => cwV 0 hts gL_law_X1_thrown rfl rfl rfl (by decide +kernel) ⟨Nat.le_of_ble_eq_true rfl, Nat.le_of_ble_eq_true rfl⟩) (ci := 1) rfl rfl rfl [2, 3] rfl rfl rfl (Nat.le_of_ble_eq_true rfl) ⟨by show _ ≤ 1064; omega, by show _ ≤ 9936; omega⟩ dL_law_266 rfl (fun r u2 hp => ?_)
      subst hp
      refine z_iload 1 dL_law_269 rfl ?_
      refine z_icmp_eq 276 dL_law_271 (by decide) (fun _ => ?_) (fun q => absurd h0 q)
      refine z_iload 1 dL_law_276 rfl ?_
      refine z_if_ne 293 dL_law_278 (by decide) (fun _ => ?_) (fun q => absurd q (by decide))
      refine z_goto 1497 dL_law_293 (by decide) ?_
      refine z_sub (L' := [(0, .ref b), (1, .ref h), (2, .ref h2), (3, .ref o), (4, .int (nI i))]) [2, 3, 4, 5, 6] rfl ?_
      exact K u (s_X1_setOnline v (xs (i + 1)) 0) f hRn
  ·
    refine z_iconst (v := 1) dL_law_228 rfl ?_
    refine z_goto 233 dL_law_229 (by decide) ?_
    refine z_aload_n 3 dL_law_233 rfl ?_
    rcases hD u v hR (xs (i + 1)) 1 (Or.inr rfl) with ⟨he, h0, hr, hRn⟩ | ⟨he, h0, hRn⟩
    ·
      refine z_callWi_fr (As := [.ref h, .int (xs (i + 1)), .int 1, .ref o]) (st := []) (wX1 cI2 cZ2 h2 a2 v) [] (fun l _ => kn_setOnline l D cI cZ cJ h a o u f (xs (i + 1)) 1 he nd hnd hd nn hnn hn) zGok_TT (fun _ _ _ => trivial) (fun s args hts => vx_cwSW 4 hts gL_law_L_setOnline rfl rfl rfl (by decide +kernel) ⟨Nat.le_of_ble_eq_true rfl, Nat.le_of_ble_eq_true rfl⟩) [0, 1, 4] rfl rfl rfl (Nat.le_of_ble_eq_true rfl) ⟨by show _ ≤ 1064; omega, by show _ ≤ 9936; omega⟩ dL_law_234 rfl (fun r u2 hp => ?_)
      obtain ⟨u3, f3⟩ := u2
      obtain ⟨rfl, hS, hf⟩ := hp
      have hS : u3 = (s_X0_setOnline u (xs (i + 1)) 1) := hS
      subst hS
      refine z_eqw (w' := (wX1 cI2 cZ2 h2 a2 v ++ (wX0 cI cZ h a (s_X0_setOnline u (xs (i + 1)) 1) ++ wO cJ o f3))) rfl ?_
      refine z_istore (L' := [(5, .int 0), (0, .ref b), (1, .ref h), (2, .ref h2), (3, .ref o), (4, .int (nI i))]) dL_law_237 (by decide) rfl ?_
      refine z_aload_n 3 dL_law_239 rfl ?_
      refine z_aload_n 1 dL_law_240 rfl ?_
      refine z_iload 5 dL_law_241 rfl ?_
      refine z_iconst (v := 1) dL_law_243 rfl ?_
      refine z_iadd dL_law_244 ?_
      refine z_sld (v := (xs (i + 1))) (zsin (c := 1) (j := 1) rfl hi (by decide) hL).1 (by rw [(zsin (c := 1) (j := 1) rfl hi (by decide) hL).2]) dL_law_245 ?_
      refine z_aload_n 1 dL_law_246 rfl ?_
      refine z_iload 5 dL_law_247 rfl ?_
      refine z_iconst (v := 2) dL_law_249 rfl ?_
      refine z_iadd dL_law_250 ?_
      refine z_sld (v := (xs (i + 2))) (zsin (c := 2) (j := 2) rfl hi (by decide) hL).1 (by rw [(zsin (c := 2) (j := 2) rfl hi (by decide) hL).2]) dL_law_251 ?_
      refine z_if_eq 259 dL_law_252 (by decide) (fun q => absurd q c1) (fun _ => ?_)
      refine z_iconst (v := 1) dL_law_255 rfl ?_
      refine z_goto 260 dL_law_256 (by decide) ?_
      refine z_callVi_fr (As := [.int (xs (i + 1)), .int 1]) (st := []) [] (wX0 cI cZ h a (s_X0_setOnline u (xs (i + 1)) 1) ++ wO cJ o f3) (fun l => c_X1_setOnline l D cI2 cZ2 h2 a2 v (xs (i + 1)) 1 nd hmd hd nn hmn hn) zGok_TT (fun _ _ _ => trivial) (fun s args hts => cwV 2 hts gL_law_X1_setOnline rfl rfl rfl (by decide +kernel) ⟨Nat.le_of_ble_eq_true rfl, Nat.le_of_ble_eq_true rfl⟩) (ci := 1) rfl rfl rfl [2, 3] rfl rfl rfl (Nat.le_of_ble_eq_true rfl) ⟨by show _ ≤ 1064; omega, by show _ ≤ 9936; omega⟩ dL_law_260 rfl (fun r u2 hp => ?_)
      obtain ⟨rfl, rfl⟩ := hp
      refine z_istore (L' := [(6, .int (r_X1_setOnline v (xs (i + 1)) 1)), (5, .int 0), (0, .ref b), (1, .ref h), (2, .ref h2), (3, .ref o), (4, .int (nI i))]) dL_law_263 (by decide) rfl ?_
      refine z_aload_n 4 dL_law_265 rfl ?_
      refine z_callVi_fr (As := []) (st := []) [] (wX0 cI cZ h a (s_X0_setOnline u (xs (i + 1)) 1) ++ wO cJ o f3) (fun l => c_X1_thrown l D cI2 cZ2 h2 a2 (s_X1_setOnline v (xs (i + 1)) 1)  ) zGok_TT (fun _ _ _ => trivial) (fun s args hts => cwV 0 hts gL_law_X1_thrown rfl rfl rfl (by decide +kernel) ⟨Nat.le_of_ble_eq_true rfl, Nat.le_of_ble_eq_true rfl⟩) (ci := 1) rfl rfl rfl [2, 3] rfl rfl rfl (Nat.le_of_ble_eq_true rfl) ⟨by show _ ≤ 1064; omega, by show _ ≤ 9936; omega⟩ dL_law_266 rfl (fun r u2 hp => ?_)
      subst hp
      refine z_iload 1 dL_law_269 rfl ?_
      refine z_icmp_eq 276 dL_law_271 (by decide) (fun _ => ?_) (fun q => absurd h0 q)
      refine z_iload 1 dL_law_276 rfl ?_
      refine z_if_ne 293 dL_law_278 (by decide) (fun q => absurd q (by decide)) (fun _ => ?_)
      refine z_aload_n 5 dL_law_281 rfl ?_
      refine z_iconst (v := 0) dL_law_282 rfl ?_
      refine z_lald (v := (f3 0)) 31 4 rfl rfl zin01 rfl dL_law_283 ?_
      refine z_iload 0 dL_law_284 rfl ?_
      refine z_i2l (v := ((r_X1_setOnline v (xs (i + 1)) 1)).toInt64) dL_law_286 rfl ?_
      refine z_lcmpeq 293 (by rw [show f3 0 = _ from hf, hr]) dL_law_287 dL_law_288 (by decide) ?_
      refine z_goto 1497 dL_law_293 (by decide) ?_
      refine z_sub (L' := [(0, .ref b), (1, .ref h), (2, .ref h2), (3, .ref o), (4, .int (nI i))]) [2, 3, 4, 5, 6] rfl ?_
      exact K0 (s_X0_setOnline u (xs (i + 1)) 1) (s_X1_setOnline v (xs (i + 1)) 1) f3 hRn
    ·
      refine z_callWi_fr (As := [.ref h, .int (xs (i + 1)), .int 1, .ref o]) (st := []) (wX1 cI2 cZ2 h2 a2 v) [] (fun l hl9 => kx_setOnline l (by rw [hl9]; exact hlt) D cI cZ cJ h a o u f (xs (i + 1)) 1 he nd hnd hd nn hnn hn) zGok_U (fun _ _ q => q.1) (fun s args hts => vx_cwSW 4 hts gL_law_L_setOnline rfl rfl rfl (by decide +kernel) ⟨Nat.le_of_ble_eq_true rfl, Nat.le_of_ble_eq_true rfl⟩) [0, 1, 4] rfl rfl rfl (Nat.le_of_ble_eq_true rfl) ⟨by show _ ≤ 1064; omega, by show _ ≤ 9936; omega⟩ dL_law_234 rfl (fun r u2 hp => ?_)
      subst hp
      refine z_eqw (w' := (wX1 cI2 cZ2 h2 a2 v ++ (wX0 cI cZ h a u ++ wO cJ o f))) rfl ?_
      refine z_istore (L' := [(5, .int 1), (0, .ref b), (1, .ref h), (2, .ref h2), (3, .ref o), (4, .int (nI i))]) dL_law_237 (by decide) rfl ?_
      refine z_aload_n 3 dL_law_239 rfl ?_
      refine z_aload_n 1 dL_law_240 rfl ?_
      refine z_iload 5 dL_law_241 rfl ?_
      refine z_iconst (v := 1) dL_law_243 rfl ?_
      refine z_iadd dL_law_244 ?_
      refine z_sld (v := (xs (i + 1))) (zsin (c := 1) (j := 1) rfl hi (by decide) hL).1 (by rw [(zsin (c := 1) (j := 1) rfl hi (by decide) hL).2]) dL_law_245 ?_
      refine z_aload_n 1 dL_law_246 rfl ?_
      refine z_iload 5 dL_law_247 rfl ?_
      refine z_iconst (v := 2) dL_law_249 rfl ?_
      refine z_iadd dL_law_250 ?_
      refine z_sld (v := (xs (i + 2))) (zsin (c := 2) (j := 2) rfl hi (by decide) hL).1 (by rw [(zsin (c := 2) (j := 2) rfl hi (by decide) hL).2]) dL_law_251 ?_
      refine z_if_eq 259 dL_law_252 (by decide) (fun q => absurd q c1) (fun _ => ?_)
      refine z_iconst (v := 1) dL_law_255 rfl ?_
      refine z_goto 260 dL_law_256 (by decide) ?_
      refine z_callVi_fr (As := [.int (xs (i + 1)), .int 1]) (st := []) [] (wX0 cI cZ h a u ++ wO cJ o f) (fun l => c_X1_setOnline l D cI2 cZ2 h2 a2 v (xs (i + 1)) 1 nd hmd hd nn hmn hn) zGok_TT (fun _ _ _ => trivial) (fun s args hts => cwV 2 hts gL_law_X1_setOnline rfl rfl rfl (by decide +kernel) ⟨Nat.le_of_ble_eq_true rfl, Nat.le_of_ble_eq_true rfl⟩) (ci := 1) rfl rfl rfl [2, 3] rfl rfl rfl (Nat.le_of_ble_eq_true rfl) ⟨by show _ ≤ 1064; omega, by show _ ≤ 9936; omega⟩ dL_law_260 rfl (fun r u2 hp => ?_)
      obtain ⟨rfl, rfl⟩ := hp
      refine z_istore (L' := [(6, .int (r_X1_setOnline v (xs (i + 1)) 1)), (5, .int 1), (0, .ref b), (1, .ref h), (2, .ref h2), (3, .ref o), (4, .int (nI i))]) dL_law_263 (by decide) rfl ?_
      refine z_aload_n 4 dL_law_265 rfl ?_
      refine z_callVi_fr (As := []) (st := []) [] (wX0 cI cZ h a u ++ wO cJ o f) (fun l => c_X1_thrown l D cI2 cZ2 h2 a2 (s_X1_setOnline v (xs (i + 1)) 1)  ) zGok_TT (fun _ _ _ => trivial) (fun s args hts => cwV 0 hts gL_law_X1_thrown rfl rfl rfl (by decide +kernel) ⟨Nat.le_of_ble_eq_true rfl, Nat.le_of_ble_eq_true rfl⟩) (ci := 1) rfl rfl rfl [2, 3] rfl rfl rfl (Nat.le_of_ble_eq_true rfl) ⟨by show _ ≤ 1064; omega, by show _ ≤ 9936; omega⟩ dL_law_266 rfl (fun r u2 hp => ?_)
      subst hp
      refine z_iload 1 dL_law_269 rfl ?_
      refine z_icmp_eq 276 dL_law_271 (by decide) (fun _ => ?_) (fun q => absurd h0 q)
      refine z_iload 1 dL_law_276 rfl ?_
      refine z_if_ne 293 dL_law_278 (by decide) (fun _ => ?_) (fun q => absurd q (by decide))
      refine z_goto 1497 dL_law_293 (by decide) ?_
      refine z_sub (L' := [(0, .ref b), (1, .ref h), (2, .ref h2), (3, .ref o), (4, .int (nI i))]) [2, 3, 4, 5, 6] rfl ?_
      exact K u (s_X1_setOnline v (xs (i + 1)) 1) f hRn
set_option maxHeartbeats 8000000 in
set_option maxRecDepth 100000 in
theorem law_devices (E : ZE) (hlt : E.2.1.stackTraces = false) (b L : Nat) (xs : Nat → Int32) (D : va_G) (cI cZ cI2 cZ2 cJ : ClassId) (h h2 o : Nat) (a a2 : Nat → Nat) (hL : L ≤ 3072) (RR : SX → SX → Prop) (hWF : ∀ u v, RR u v → zWF u v) (hD : zD_devices RR) (i : Nat) (hi : i + 6 ≤ L) (u v : SX) (f : Nat → Int64) (cn sn : Nat) (hc1 : cn + 1 ≤ 1064) (hc2 : sn + 6 ≤ 9936) (hR : RR u v)
    (K : ∀ (u v : SX) (f : Nat → Int64), RR u v → ZW E (zGL b L xs) room_1 cL_law RL wsL_law 7 D [(cI, .int), (cZ, .boolean), (cI2, .int), (cZ2, .boolean), (cJ, .long)] (cn + 1) (sn + 6) (wX1 cI2 cZ2 h2 a2 v ++ (wX0 cI cZ h a u ++ wO cJ o f)) 1497 [(0, .ref b), (1, .ref h), (2, .ref h2), (3, .ref o), (4, .int (nI i))] []) : ZW E (zGL b L xs) room_1 cL_law RL wsL_law 7 D [(cI, .int), (cZ, .boolean), (cI2, .int), (cZ2, .boolean), (cJ, .long)] cn sn (wX1 cI2 cZ2 h2 a2 v ++ (wX0 cI cZ h a u ++ wO cJ o f)) 619 [(0, .ref b), (1, .ref h), (2, .ref h2), (3, .ref o), (4, .int (nI i))] [] := by
  obtain ⟨nd, nn, ⟨hnd, hd⟩, ⟨hnn, hn⟩, hlk, hmd, hmn⟩ := hWF u v hR
  have K0 : ∀ (u v : SX) (f : Nat → Int64), RR u v → ZW E (zGL b L xs) room_1 cL_law RL wsL_law 7 D [(cI, .int), (cZ, .boolean), (cI2, .int), (cZ2, .boolean), (cJ, .long)] cn sn (wX1 cI2 cZ2 h2 a2 v ++ (wX0 cI cZ h a u ++ wO cJ o f)) 1497 [(0, .ref b), (1, .ref h), (2, .ref h2), (3, .ref o), (4, .int (nI i))] [] := fun u v f h => z_widen (by omega) (by omega) (K u v f h)
  obtain ⟨hr, hRn⟩ := hD u v hR
  refine z_aload_n 1 dL_law_619 rfl ?_
  refine z_callVi_fr (As := []) (st := []) (wX1 cI2 cZ2 h2 a2 v) (wO cJ o f) (fun l => c_X0_devices l D cI cZ h a u) zGok_TT (fun _ _ _ => trivial) (fun s args hts => cwV 0 hts gL_law_X0_devices rfl rfl rfl (by decide +kernel) ⟨Nat.le_of_ble_eq_true rfl, Nat.le_of_ble_eq_true rfl⟩) (ci := 0) rfl rfl rfl [0, 1] rfl rfl rfl (Nat.le_of_ble_eq_true rfl) ⟨by show _ ≤ 1064; omega, by show _ ≤ 9936; omega⟩ dL_law_620 rfl (fun r u2 hp => ?_)
  subst hp
  refine z_aload_n 2 dL_law_623 rfl ?_
  refine z_callVi_fr (As := []) (st := [.int (r_X0_devices u)]) [] (wX0 cI cZ h a u ++ wO cJ o f) (fun l => c_X1_devices l D cI2 cZ2 h2 a2 v  ) zGok_TT (fun _ _ _ => trivial) (fun s args hts => cwV 0 hts gL_law_X1_devices rfl rfl rfl (by decide +kernel) ⟨Nat.le_of_ble_eq_true rfl, Nat.le_of_ble_eq_true rfl⟩) (ci := 1) rfl rfl rfl [2, 3] rfl rfl rfl (Nat.le_of_ble_eq_true rfl) ⟨by show _ ≤ 1064; omega, by show _ ≤ 9936; omega⟩ dL_law_624 rfl (fun r u2 hp => ?_)
  obtain ⟨rfl, rfl⟩ := hp
  refine z_icmp_eq 1497 dL_law_627 (by decide) (fun _ => ?_) (fun q => absurd hr q)
  refine z_sub (L' := [(0, .ref b), (1, .ref h), (2, .ref h2), (3, .ref o), (4, .int (nI i))]) [0, 1, 2, 3, 4] rfl ?_
  exact K0 u (s_X1_devices v) f hRn
set_option maxHeartbeats 8000000 in
set_option maxRecDepth 100000 in
theorem law_isQuiet (E : ZE) (hlt : E.2.1.stackTraces = false) (b L : Nat) (xs : Nat → Int32) (D : va_G) (cI cZ cI2 cZ2 cJ : ClassId) (h h2 o : Nat) (a a2 : Nat → Nat) (hL : L ≤ 3072) (RR : SX → SX → Prop) (hWF : ∀ u v, RR u v → zWF u v) (hD : zD_isQuiet RR) (i : Nat) (hi : i + 6 ≤ L) (u v : SX) (f : Nat → Int64) (cn sn : Nat) (hc1 : cn + 1 ≤ 1064) (hc2 : sn + 6 ≤ 9936) (hR : RR u v)
    (K : ∀ (u v : SX) (f : Nat → Int64), RR u v → ZW E (zGL b L xs) room_1 cL_law RL wsL_law 7 D [(cI, .int), (cZ, .boolean), (cI2, .int), (cZ2, .boolean), (cJ, .long)] (cn + 1) (sn + 6) (wX1 cI2 cZ2 h2 a2 v ++ (wX0 cI cZ h a u ++ wO cJ o f)) 1497 [(0, .ref b), (1, .ref h), (2, .ref h2), (3, .ref o), (4, .int (nI i))] []) : ZW E (zGL b L xs) room_1 cL_law RL wsL_law 7 D [(cI, .int), (cZ, .boolean), (cI2, .int), (cZ2, .boolean), (cJ, .long)] cn sn (wX1 cI2 cZ2 h2 a2 v ++ (wX0 cI cZ h a u ++ wO cJ o f)) 632 [(0, .ref b), (1, .ref h), (2, .ref h2), (3, .ref o), (4, .int (nI i))] [] := by
  obtain ⟨nd, nn, ⟨hnd, hd⟩, ⟨hnn, hn⟩, hlk, hmd, hmn⟩ := hWF u v hR
  have K0 : ∀ (u v : SX) (f : Nat → Int64), RR u v → ZW E (zGL b L xs) room_1 cL_law RL wsL_law 7 D [(cI, .int), (cZ, .boolean), (cI2, .int), (cZ2, .boolean), (cJ, .long)] cn sn (wX1 cI2 cZ2 h2 a2 v ++ (wX0 cI cZ h a u ++ wO cJ o f)) 1497 [(0, .ref b), (1, .ref h), (2, .ref h2), (3, .ref o), (4, .int (nI i))] [] := fun u v f h => z_widen (by omega) (by omega) (K u v f h)
  refine z_aload_n 1 dL_law_632 rfl ?_
  refine z_aload_n 0 dL_law_633 rfl ?_
  refine z_iload 4 dL_law_634 rfl ?_
  refine z_iconst (v := 1) dL_law_636 rfl ?_
  refine z_iadd dL_law_637 ?_
  refine z_sld (v := (xs (i + 1))) (zsin (c := 1) (j := 1) rfl hi (by decide) hL).1 (by rw [(zsin (c := 1) (j := 1) rfl hi (by decide) hL).2]) dL_law_638 ?_
  refine z_aload_n 3 dL_law_639 rfl ?_
  rcases hD u v hR (xs (i + 1))  with ⟨he, h0, hr, hRn⟩ | ⟨he, h0, hRn⟩
  ·
    refine z_callWi_fr (As := [.ref h, .int (xs (i + 1)), .ref o]) (st := []) (wX1 cI2 cZ2 h2 a2 v) [] (fun l _ => kn_isQuiet l D cI cZ cJ h a o u f (xs (i + 1)) he nd hnd hd) zGok_TT (fun _ _ _ => trivial) (fun s args hts => vx_cwSW 3 hts gL_law_L_isQuiet rfl rfl rfl (by decide +kernel) ⟨Nat.le_of_ble_eq_true rfl, Nat.le_of_ble_eq_true rfl⟩) [0, 1, 4] rfl rfl rfl (Nat.le_of_ble_eq_true rfl) ⟨by show _ ≤ 1064; omega, by show _ ≤ 9936; omega⟩ dL_law_640 rfl (fun r u2 hp => ?_)
    obtain ⟨u3, f3⟩ := u2
    obtain ⟨rfl, hS, hf⟩ := hp
    have hS : u = u3 := hS.symm
    subst hS
    refine z_eqw (w' := (wX1 cI2 cZ2 h2 a2 v ++ (wX0 cI cZ h a u ++ wO cJ o f3))) rfl ?_
    refine z_istore (L' := [(5, .int 0), (0, .ref b), (1, .ref h), (2, .ref h2), (3, .ref o), (4, .int (nI i))]) dL_law_643 (by decide) rfl ?_
    refine z_aload_n 3 dL_law_645 rfl ?_
    refine z_aload_n 1 dL_law_646 rfl ?_
    refine z_iload 5 dL_law_647 rfl ?_
    refine z_iconst (v := 1) dL_law_649 rfl ?_
    refine z_iadd dL_law_650 ?_
    refine z_sld (v := (xs (i + 1))) (zsin (c := 1) (j := 1) rfl hi (by decide) hL).1 (by rw [(zsin (c := 1) (j := 1) rfl hi (by decide) hL).2]) dL_law_651 ?_
    refine z_callVi_fr (As := [.int (xs (i + 1))]) (st := []) [] (wX0 cI cZ h a u ++ wO cJ o f3) (fun l => c_X1_isQuiet l D cI2 cZ2 h2 a2 v (xs (i + 1)) nd hmd hd) zGok_TT (fun _ _ _ => trivial) (fun s args hts => cwV 1 hts gL_law_X1_isQuiet rfl rfl rfl (by decide +kernel) ⟨Nat.le_of_ble_eq_true rfl, Nat.le_of_ble_eq_true rfl⟩) (ci := 1) rfl rfl rfl [2, 3] rfl rfl rfl (Nat.le_of_ble_eq_true rfl) ⟨by show _ ≤ 1064; omega, by show _ ≤ 9936; omega⟩ dL_law_652 rfl (fun r u2 hp => ?_)
    obtain ⟨rfl, rfl⟩ := hp
    refine z_istore (L' := [(6, .int (r_X1_isQuiet v (xs (i + 1)))), (5, .int 0), (0, .ref b), (1, .ref h), (2, .ref h2), (3, .ref o), (4, .int (nI i))]) dL_law_655 (by decide) rfl ?_
    refine z_aload_n 4 dL_law_657 rfl ?_
    refine z_callVi_fr (As := []) (st := []) [] (wX0 cI cZ h a u ++ wO cJ o f3) (fun l => c_X1_thrown l D cI2 cZ2 h2 a2 (s_X1_isQuiet v (xs (i + 1)))  ) zGok_TT (fun _ _ _ => trivial) (fun s args hts => cwV 0 hts gL_law_X1_thrown rfl rfl rfl (by decide +kernel) ⟨Nat.le_of_ble_eq_true rfl, Nat.le_of_ble_eq_true rfl⟩) (ci := 1) rfl rfl rfl [2, 3] rfl rfl rfl (Nat.le_of_ble_eq_true rfl) ⟨by show _ ≤ 1064; omega, by show _ ≤ 9936; omega⟩ dL_law_658 rfl (fun r u2 hp => ?_)
    subst hp
    refine z_iload 1 dL_law_661 rfl ?_
    refine z_icmp_eq 668 dL_law_663 (by decide) (fun _ => ?_) (fun q => absurd h0 q)
    refine z_iload 1 dL_law_668 rfl ?_
    refine z_if_ne 692 dL_law_670 (by decide) (fun q => absurd q (by decide)) (fun _ => ?_)
    refine z_aload_n 5 dL_law_673 rfl ?_
    refine z_iconst (v := 0) dL_law_674 rfl ?_
    refine z_lald (v := (f3 0)) 31 4 rfl rfl zin01 rfl dL_law_675 ?_
    refine z_iload 0 dL_law_676 rfl ?_
    refine z_if_eq 685 dL_law_678 (by decide) (fun c1 => ?_) (fun c1 => ?_)
    ·
      refine z_lconst (v := 0) dL_law_685 rfl ?_
      refine z_lcmpeq 692 (by rw [show f3 0 = _ from hf, hr, if_pos c1]) dL_law_686 dL_law_687 (by decide) ?_
      refine z_goto 1497 dL_law_692 (by decide) ?_
      refine z_sub (L' := [(0, .ref b), (1, .ref h), (2, .ref h2), (3, .ref o), (4, .int (nI i))]) [2, 3, 4, 5, 6] rfl ?_
      exact K0 u (s_X1_isQuiet v (xs (i + 1))) f3 hRn
    ·
      refine z_lconst (v := 1) dL_law_681 rfl ?_
      refine z_goto 686 dL_law_682 (by decide) ?_
      refine z_lcmpeq 692 (by rw [show f3 0 = _ from hf, hr, if_neg c1]) dL_law_686 dL_law_687 (by decide) ?_
      refine z_goto 1497 dL_law_692 (by decide) ?_
      refine z_sub (L' := [(0, .ref b), (1, .ref h), (2, .ref h2), (3, .ref o), (4, .int (nI i))]) [2, 3, 4, 5, 6] rfl ?_
      exact K0 u (s_X1_isQuiet v (xs (i + 1))) f3 hRn
  ·
    refine z_callWi_fr (As := [.ref h, .int (xs (i + 1)), .ref o]) (st := []) (wX1 cI2 cZ2 h2 a2 v) [] (fun l hl9 => kx_isQuiet l (by rw [hl9]; exact hlt) D cI cZ cJ h a o u f (xs (i + 1)) he nd hnd hd) zGok_U (fun _ _ q => q.1) (fun s args hts => vx_cwSW 3 hts gL_law_L_isQuiet rfl rfl rfl (by decide +kernel) ⟨Nat.le_of_ble_eq_true rfl, Nat.le_of_ble_eq_true rfl⟩) [0, 1, 4] rfl rfl rfl (Nat.le_of_ble_eq_true rfl) ⟨by show _ ≤ 1064; omega, by show _ ≤ 9936; omega⟩ dL_law_640 rfl (fun r u2 hp => ?_)
    subst hp
    refine z_eqw (w' := (wX1 cI2 cZ2 h2 a2 v ++ (wX0 cI cZ h a u ++ wO cJ o f))) rfl ?_
    refine z_istore (L' := [(5, .int 1), (0, .ref b), (1, .ref h), (2, .ref h2), (3, .ref o), (4, .int (nI i))]) dL_law_643 (by decide) rfl ?_
    refine z_aload_n 3 dL_law_645 rfl ?_
    refine z_aload_n 1 dL_law_646 rfl ?_
    refine z_iload 5 dL_law_647 rfl ?_
    refine z_iconst (v := 1) dL_law_649 rfl ?_
    refine z_iadd dL_law_650 ?_
    refine z_sld (v := (xs (i + 1))) (zsin (c := 1) (j := 1) rfl hi (by decide) hL).1 (by rw [(zsin (c := 1) (j := 1) rfl hi (by decide) hL).2]) dL_law_651 ?_
    refine z_callVi_fr (As := [.int (xs (i + 1))]) (st := []) [] (wX0 cI cZ h a u ++ wO cJ o f) (fun l => c_X1_isQuiet l D cI2 cZ2 h2 a2 v (xs (i + 1)) nd hmd hd) zGok_TT (fun _ _ _ => trivial) (fun s args hts => cwV 1 hts gL_law_X1_isQuiet rfl rfl rfl (by decide +kernel) ⟨Nat.le_of_ble_eq_true rfl, Nat.le_of_ble_eq_true rfl⟩) (ci := 1) rfl rfl rfl [2, 3] rfl rfl rfl (Nat.le_of_ble_eq_true rfl) ⟨by show _ ≤ 1064; omega, by show _ ≤ 9936; omega⟩ dL_law_652 rfl (fun r u2 hp => ?_)
    obtain ⟨rfl, rfl⟩ := hp
    refine z_istore (L' := [(6, .int (r_X1_isQuiet v (xs (i + 1)))), (5, .int 1), (0, .ref b), (1, .ref h), (2, .ref h2), (3, .ref o), (4, .int (nI i))]) dL_law_655 (by decide) rfl ?_
    refine z_aload_n 4 dL_law_657 rfl ?_
    refine z_callVi_fr (As := []) (st := []) [] (wX0 cI cZ h a u ++ wO cJ o f) (fun l => c_X1_thrown l D cI2 cZ2 h2 a2 (s_X1_isQuiet v (xs (i + 1)))  ) zGok_TT (fun _ _ _ => trivial) (fun s args hts => cwV 0 hts gL_law_X1_thrown rfl rfl rfl (by decide +kernel) ⟨Nat.le_of_ble_eq_true rfl, Nat.le_of_ble_eq_true rfl⟩) (ci := 1) rfl rfl rfl [2, 3] rfl rfl rfl (Nat.le_of_ble_eq_true rfl) ⟨by show _ ≤ 1064; omega, by show _ ≤ 9936; omega⟩ dL_law_658 rfl (fun r u2 hp => ?_)
    subst hp
    refine z_iload 1 dL_law_661 rfl ?_
    refine z_icmp_eq 668 dL_law_663 (by decide) (fun _ => ?_) (fun q => absurd h0 q)
    refine z_iload 1 dL_law_668 rfl ?_
    refine z_if_ne 692 dL_law_670 (by decide) (fun _ => ?_) (fun q => absurd q (by decide))
    refine z_goto 1497 dL_law_692 (by decide) ?_
    refine z_sub (L' := [(0, .ref b), (1, .ref h), (2, .ref h2), (3, .ref o), (4, .int (nI i))]) [2, 3, 4, 5, 6] rfl ?_
    exact K u (s_X1_isQuiet v (xs (i + 1))) f hRn
