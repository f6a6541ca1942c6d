set_option maxHeartbeats 8000000 in
set_option maxRecDepth 100000 in
theorem law_addDevice (E : ZE) (hlt : E.2.1.stackTraces = false) (b L : Nat) (xs : Nat → Int32) (D : va_G) (cI cZ cI2 cZ2 cJ : ClassId) (h h2 o : Nat) (a a2 : Nat → Nat) (hL : L ≤ 3072) (RR : SX → SX → Prop) (hWF : ∀ u v, RR u v → zWF u v) (hD : zD_addDevice RR) (i : Nat) (hi : i + 6 ≤ L) (u v : SX) (f : Nat → Int64) (cn sn : Nat) (hc1 : cn + 1 ≤ 1064) (hc2 : sn + 6 ≤ 9936) (hR : RR u v)
    (K : ∀ (u v : SX) (f : Nat → Int64), RR u v → ZW E (zGL b L xs) room_1 cL_law RL wsL_law 7 D [(cI, .int), (cZ, .boolean), (cI2, .int), (cZ2, .boolean), (cJ, .long)] (cn + 1) (sn + 6) (wX1 cI2 cZ2 h2 a2 v ++ (wX0 cI cZ h a u ++ wO cJ o f)) 1497 [(0, .ref b), (1, .ref h), (2, .ref h2), (3, .ref o), (4, .int (nI i))] []) : ZW E (zGL b L xs) room_1 cL_law RL wsL_law 7 D [(cI, .int), (cZ, .boolean), (cI2, .int), (cZ2, .boolean), (cJ, .long)] cn sn (wX1 cI2 cZ2 h2 a2 v ++ (wX0 cI cZ h a u ++ wO cJ o f)) 144 [(0, .ref b), (1, .ref h), (2, .ref h2), (3, .ref o), (4, .int (nI i))] [] := by
  obtain ⟨nd, nn, ⟨hnd, hd⟩, ⟨hnn, hn⟩, hlk, hmd, hmn⟩ := hWF u v hR
  have K0 : ∀ (u v : SX) (f : Nat → Int64), RR u v → ZW E (zGL b L xs) room_1 cL_law RL wsL_law 7 D [(cI, .int), (cZ, .boolean), (cI2, .int), (cZ2, .boolean), (cJ, .long)] cn sn (wX1 cI2 cZ2 h2 a2 v ++ (wX0 cI cZ h a u ++ wO cJ o f)) 1497 [(0, .ref b), (1, .ref h), (2, .ref h2), (3, .ref o), (4, .int (nI i))] [] := fun u v f h => z_widen (by omega) (by omega) (K u v f h)
  refine z_aload_n 1 dL_law_144 rfl ?_
  refine z_aload_n 0 dL_law_145 rfl ?_
  refine z_iload 4 dL_law_146 rfl ?_
  refine z_iconst (v := 1) dL_law_148 rfl ?_
  refine z_iadd dL_law_149 ?_
  refine z_sld (v := (xs (i + 1))) (zsin (c := 1) (j := 1) rfl hi (by decide) hL).1 (by rw [(zsin (c := 1) (j := 1) rfl hi (by decide) hL).2]) dL_law_150 ?_
  refine z_aload_n 0 dL_law_151 rfl ?_
  refine z_iload 4 dL_law_152 rfl ?_
  refine z_iconst (v := 2) dL_law_154 rfl ?_
  refine z_iadd dL_law_155 ?_
  refine z_sld (v := (xs (i + 2))) (zsin (c := 2) (j := 2) rfl hi (by decide) hL).1 (by rw [(zsin (c := 2) (j := 2) rfl hi (by decide) hL).2]) dL_law_156 ?_
  refine z_aload_n 3 dL_law_157 rfl ?_
  rcases hD u v hR (xs (i + 1)) (xs (i + 2))  with ⟨he, h0, hr, hRn⟩ | ⟨he, h0, hRn⟩
  ·
    refine z_callWi_fr (As := [.ref h, .int (xs (i + 1)), .int (xs (i + 2)), .ref o]) (st := []) (wX1 cI2 cZ2 h2 a2 v) [] (fun l _ => kn_addDevice l D cI cZ cJ h a o u f (xs (i + 1)) (xs (i + 2)) he nd hnd hd) zGok_TT (fun _ _ _ => trivial) (fun s args hts => vx_cwSW 4 hts gL_law_L_addDevice rfl rfl rfl (by decide +kernel) ⟨Nat.le_of_ble_eq_true rfl, Nat.le_of_ble_eq_true rfl⟩) [0, 1, 4] rfl rfl rfl (Nat.le_of_ble_eq_true rfl) ⟨by show _ ≤ 1064; omega, by show _ ≤ 9936; omega⟩ dL_law_158 rfl (fun r u2 hp => ?_)
    obtain ⟨u3, f3⟩ := u2
    obtain ⟨rfl, hS, hf⟩ := hp
    have hS : u3 = (s_X0_addDevice u (xs (i + 1)) (xs (i + 2))) := hS
    subst hS
    refine z_eqw (w' := (wX1 cI2 cZ2 h2 a2 v ++ (wX0 cI cZ h a (s_X0_addDevice u (xs (i + 1)) (xs (i + 2))) ++ wO cJ o f3))) rfl ?_
    refine z_istore (L' := [(5, .int 0), (0, .ref b), (1, .ref h), (2, .ref h2), (3, .ref o), (4, .int (nI i))]) dL_law_161 (by decide) rfl ?_
    refine z_aload_n 3 dL_law_163 rfl ?_
    refine z_aload_n 1 dL_law_164 rfl ?_
    refine z_iload 5 dL_law_165 rfl ?_
    refine z_iconst (v := 1) dL_law_167 rfl ?_
    refine z_iadd dL_law_168 ?_
    refine z_sld (v := (xs (i + 1))) (zsin (c := 1) (j := 1) rfl hi (by decide) hL).1 (by rw [(zsin (c := 1) (j := 1) rfl hi (by decide) hL).2]) dL_law_169 ?_
    refine z_aload_n 1 dL_law_170 rfl ?_
    refine z_iload 5 dL_law_171 rfl ?_
    refine z_iconst (v := 2) dL_law_173 rfl ?_
    refine z_iadd dL_law_174 ?_
    refine z_sld (v := (xs (i + 2))) (zsin (c := 2) (j := 2) rfl hi (by decide) hL).1 (by rw [(zsin (c := 2) (j := 2) rfl hi (by decide) hL).2]) dL_law_175 ?_
    refine z_callVi_fr (As := [.int (xs (i + 1)), .int (xs (i + 2))]) (st := []) [] (wX0 cI cZ h a (s_X0_addDevice u (xs (i + 1)) (xs (i + 2))) ++ wO cJ o f3) (fun l => c_X1_addDevice l D cI2 cZ2 h2 a2 v (xs (i + 1)) (xs (i + 2)) nd hmd hd) zGok_TT (fun _ _ _ => trivial) (fun s args hts => cwV 2 hts gL_law_X1_addDevice rfl rfl rfl (by decide +kernel) ⟨Nat.le_of_ble_eq_true rfl, Nat.le_of_ble_eq_true rfl⟩) (ci := 1) rfl rfl rfl [2, 3] rfl rfl rfl (Nat.le_of_ble_eq_true rfl) ⟨by show _ ≤ 1064; omega, by show _ ≤ 9936; omega⟩ dL_law_176 rfl (fun r u2 hp => ?_)
    obtain ⟨rfl, rfl⟩ := hp
    refine z_istore (L' := [(6, .int (r_X1_addDevice v (xs (i + 1)) (xs (i + 2)))), (5, .int 0), (0, .ref b), (1, .ref h), (2, .ref h2), (3, .ref o), (4, .int (nI i))]) dL_law_179 (by decide) rfl ?_
    refine z_aload_n 4 dL_law_181 rfl ?_
    refine z_callVi_fr (As := []) (st := []) [] (wX0 cI cZ h a (s_X0_addDevice u (xs (i + 1)) (xs (i + 2))) ++ wO cJ o f3) (fun l => c_X1_thrown l D cI2 cZ2 h2 a2 (s_X1_addDevice v (xs (i + 1)) (xs (i + 2)))  ) zGok_TT (fun _ _ _ => trivial) (fun s args hts => cwV 0 hts gL_law_X1_thrown rfl rfl rfl (by decide +kernel) ⟨Nat.le_of_ble_eq_true rfl, Nat.le_of_ble_eq_true rfl⟩) (ci := 1) rfl rfl rfl [2, 3] rfl rfl rfl (Nat.le_of_ble_eq_true rfl) ⟨by show _ ≤ 1064; omega, by show _ ≤ 9936; omega⟩ dL_law_182 rfl (fun r u2 hp => ?_)
    subst hp
    refine z_iload 1 dL_law_185 rfl ?_
    refine z_icmp_eq 192 dL_law_187 (by decide) (fun _ => ?_) (fun q => absurd h0 q)
    refine z_iload 1 dL_law_192 rfl ?_
    refine z_if_ne 209 dL_law_194 (by decide) (fun q => absurd q (by decide)) (fun _ => ?_)
    refine z_aload_n 5 dL_law_197 rfl ?_
    refine z_iconst (v := 0) dL_law_198 rfl ?_
    refine z_lald (v := (f3 0)) 31 4 rfl rfl zin01 rfl dL_law_199 ?_
    refine z_iload 0 dL_law_200 rfl ?_
    refine z_i2l (v := ((r_X1_addDevice v (xs (i + 1)) (xs (i + 2)))).toInt64) dL_law_202 rfl ?_
    refine z_lcmpeq 209 (by rw [show f3 0 = _ from hf, hr]) dL_law_203 dL_law_204 (by decide) ?_
    refine z_goto 1497 dL_law_209 (by decide) ?_
    refine z_sub (L' := [(0, .ref b), (1, .ref h), (2, .ref h2), (3, .ref o), (4, .int (nI i))]) [2, 3, 4, 5, 6] rfl ?_
    exact K0 (s_X0_addDevice u (xs (i + 1)) (xs (i + 2))) (s_X1_addDevice v (xs (i + 1)) (xs (i + 2))) f3 hRn
  ·
    refine z_callWi_fr (As := [.ref h, .int (xs (i + 1)), .int (xs (i + 2)), .ref o]) (st := []) (wX1 cI2 cZ2 h2 a2 v) [] (fun l hl9 => kx_addDevice l (by rw [hl9]; exact hlt) D cI cZ cJ h a o u f (xs (i + 1)) (xs (i + 2)) he nd hnd hd) zGok_U (fun _ _ q => q.1) (fun s args hts => vx_cwSW 4 hts gL_law_L_addDevice rfl rfl rfl (by decide +kernel) ⟨Nat.le_of_ble_eq_true rfl, Nat.le_of_ble_eq_true rfl⟩) [0, 1, 4] rfl rfl rfl (Nat.le_of_ble_eq_true rfl) ⟨by show _ ≤ 1064; omega, by show _ ≤ 9936; omega⟩ dL_law_158 rfl (fun r u2 hp => ?_)
    subst hp
    refine z_eqw (w' := (wX1 cI2 cZ2 h2 a2 v ++ (wX0 cI cZ h a u ++ wO cJ o f))) rfl ?_
    refine z_istore (L' := [(5, .int (if e_X0_addDevice u (xs (i + 1)) (xs (i + 2)) = 1 then 1 else 2)), (0, .ref b), (1, .ref h), (2, .ref h2), (3, .ref o), (4, .int (nI i))]) dL_law_161 (by decide) rfl ?_
    refine z_aload_n 3 dL_law_163 rfl ?_
    refine z_aload_n 1 dL_law_164 rfl ?_
    refine z_iload 5 dL_law_165 rfl ?_
    refine z_iconst (v := 1) dL_law_167 rfl ?_
    refine z_iadd dL_law_168 ?_
    refine z_sld (v := (xs (i + 1))) (zsin (c := 1) (j := 1) rfl hi (by decide) hL).1 (by rw [(zsin (c := 1) (j := 1) rfl hi (by decide) hL).2]) dL_law_169 ?_
    refine z_aload_n 1 dL_law_170 rfl ?_
    refine z_iload 5 dL_law_171 rfl ?_
    refine z_iconst (v := 2) dL_law_173 rfl ?_
    refine z_iadd dL_law_174 ?_
    refine z_sld (v := (xs (i + 2))) (zsin (c := 2) (j := 2) rfl hi (by decide) hL).1 (by rw [(zsin (c := 2) (j := 2) rfl hi (by decide) hL).2]) dL_law_175 ?_
    refine z_callVi_fr (As := [.int (xs (i + 1)), .int (xs (i + 2))]) (st := []) [] (wX0 cI cZ h a u ++ wO cJ o f) (fun l => c_X1_addDevice l D cI2 cZ2 h2 a2 v (xs (i + 1)) (xs (i + 2)) nd hmd hd) zGok_TT (fun _ _ _ => trivial) (fun s args hts => cwV 2 hts gL_law_X1_addDevice rfl rfl rfl (by decide +kernel) ⟨Nat.le_of_ble_eq_true rfl, Nat.le_of_ble_eq_true rfl⟩) (ci := 1) rfl rfl rfl [2, 3] rfl rfl rfl (Nat.le_of_ble_eq_true rfl) ⟨by show _ ≤ 1064; omega, by show _ ≤ 9936; omega⟩ dL_law_176 rfl (fun r u2 hp => ?_)
    obtain ⟨rfl, rfl⟩ := hp
    refine z_istore (L' := [(6, .int (r_X1_addDevice v (xs (i + 1)) (xs (i + 2)))), (5, .int (if e_X0_addDevice u (xs (i + 1)) (xs (i + 2)) = 1 then 1 else 2)), (0, .ref b), (1, .ref h), (2, .ref h2), (3, .ref o), (4, .int (nI i))]) dL_law_179 (by decide) rfl ?_
    refine z_aload_n 4 dL_law_181 rfl ?_
    refine z_callVi_fr (As := []) (st := []) [] (wX0 cI cZ h a u ++ wO cJ o f) (fun l => c_X1_thrown l D cI2 cZ2 h2 a2 (s_X1_addDevice v (xs (i + 1)) (xs (i + 2)))  ) zGok_TT (fun _ _ _ => trivial) (fun s args hts => cwV 0 hts gL_law_X1_thrown rfl rfl rfl (by decide +kernel) ⟨Nat.le_of_ble_eq_true rfl, Nat.le_of_ble_eq_true rfl⟩) (ci := 1) rfl rfl rfl [2, 3] rfl rfl rfl (Nat.le_of_ble_eq_true rfl) ⟨by show _ ≤ 1064; omega, by show _ ≤ 9936; omega⟩ dL_law_182 rfl (fun r u2 hp => ?_)
    subst hp
    refine z_iload 1 dL_law_185 rfl ?_
    refine z_icmp_eq 192 dL_law_187 (by decide) (fun _ => ?_) (fun q => absurd h0 q)
    refine z_iload 1 dL_law_192 rfl ?_
    refine z_if_ne 209 dL_law_194 (by decide) (fun _ => ?_) (fun q => absurd q (by split <;> decide))
    refine z_goto 1497 dL_law_209 (by decide) ?_
    refine z_sub (L' := [(0, .ref b), (1, .ref h), (2, .ref h2), (3, .ref o), (4, .int (nI i))]) [2, 3, 4, 5, 6] rfl ?_
    exact K u (s_X1_addDevice v (xs (i + 1)) (xs (i + 2))) f hRn
set_option maxHeartbeats 8000000 in
set_option maxRecDepth 100000 in
theorem law_setOnline (E : ZE) (hlt : E.2.1.stackTraces = false) (b L : Nat) (xs : Nat → Int32) (D : va_G) (cI cZ cI2 cZ2 cJ : ClassId) (h h2 o : Nat) (a a2 : Nat → Nat) (hL : L ≤ 3072) (RR : SX → SX → Prop) (hWF : ∀ u v, RR u v → zWF u v) (hD : zD_setOnline RR) (i : Nat) (hi : i + 6 ≤ L) (u v : SX) (f : Nat → Int64) (cn sn : Nat) (hc1 : cn + 1 ≤ 1064) (hc2 : sn + 6 ≤ 9936) (hR : RR u v)
    (K : ∀ (u v : SX) (f : Nat → Int64), RR u v → ZW E (zGL b L xs) room_1 cL_law RL wsL_law 7 D [(cI, .int), (cZ, .boolean), (cI2, .int), (cZ2, .boolean), (cJ, .long)] (cn + 1) (sn + 6) (wX1 cI2 cZ2 h2 a2 v ++ (wX0 cI cZ h a u ++ wO cJ o f)) 1497 [(0, .ref b), (1, .ref h), (2, .ref h2), (3, .ref o), (4, .int (nI i))] []) : ZW E (zGL b L xs) room_1 cL_law RL wsL_law 7 D [(cI, .int), (cZ, .boolean), (cI2, .int), (cZ2, .boolean), (cJ, .long)] cn sn (wX1 cI2 cZ2 h2 a2 v ++ (wX0 cI cZ h a u ++ wO cJ o f)) 212 [(0, .ref b), (1, .ref h), (2, .ref h2), (3, .ref o), (4, .int (nI i))] [] := by
  obtain ⟨nd, nn, ⟨hnd, hd⟩, ⟨hnn, hn⟩, hlk, hmd, hmn⟩ := hWF u v hR
  have K0 : ∀ (u v : SX) (f : Nat → Int64), RR u v → ZW E (zGL b L xs) room_1 cL_law RL wsL_law 7 D [(cI, .int), (cZ, .boolean), (cI2, .int), (cZ2, .boolean), (cJ, .long)] cn sn (wX1 cI2 cZ2 h2 a2 v ++ (wX0 cI cZ h a u ++ wO cJ o f)) 1497 [(0, .ref b), (1, .ref h), (2, .ref h2), (3, .ref o), (4, .int (nI i))] [] := fun u v f h => z_widen (by omega) (by omega) (K u v f h)
  refine z_aload_n 1 dL_law_212 rfl ?_
  refine z_aload_n 0 dL_law_213 rfl ?_
  refine z_iload 4 dL_law_214 rfl ?_
  refine z_iconst (v := 1) dL_law_216 rfl ?_
  refine z_iadd dL_law_217 ?_
  refine z_sld (v := (xs (i + 1))) (zsin (c := 1) (j := 1) rfl hi (by decide) hL).1 (by rw [(zsin (c := 1) (j := 1) rfl hi (by decide) hL).2]) dL_law_218 ?_
  refine z_aload_n 0 dL_law_219 rfl ?_
  refine z_iload 4 dL_law_220 rfl ?_
  refine z_iconst (v := 2) dL_law_222 rfl ?_
  refine z_iadd dL_law_223 ?_
  refine z_sld (v := (xs (i + 2))) (zsin (c := 2) (j := 2) rfl hi (by decide) hL).1 (by rw [(zsin (c := 2) (j := 2) rfl hi (by decide) hL).2]) dL_law_224 ?_
  refine z_if_eq 232 dL_law_225 (by decide) (fun c1 => ?_) (fun c1 => ?_)
  ·
    refine z_iconst (v := 0) dL_law_232 rfl ?_
    refine z_aload_n 3 dL_law_233 rfl ?_
    rcases hD u v hR (xs (i + 1)) 0 (Or.inl rfl) with ⟨he, h0, hr, hRn⟩ | ⟨he, h0, hRn⟩
    ·
      refine z_callWi_fr (As := [.ref h, .int (xs (i + 1)), .int 0, .ref o]) (st := []) (wX1 cI2 cZ2 h2 a2 v) [] (fun l _ => kn_setOnline l D cI cZ cJ h a o u f (xs (i + 1)) 0 he nd hnd hd nn hnn hn) zGok_TT (fun _ _ _ => trivial) (fun s args hts => vx_cwSW 4 hts gL_law_L_setOnline rfl rfl rfl (by decide +kernel) ⟨Nat.le_of_ble_eq_true rfl, Nat.le_of_ble_eq_true rfl⟩) [0, 1, 4] rfl rfl rfl (Nat.le_of_ble_eq_true rfl) ⟨by show _ ≤ 1064; omega, by show _ ≤ 9936; omega⟩ dL_law_234 rfl (fun r u2 hp => ?_)
      obtain ⟨u3, f3⟩ := u2
      obtain ⟨rfl, hS, hf⟩ := hp
      have hS : u3 = (s_X0_setOnline u (xs (i + 1)) 0) := hS
      subst hS
      refine z_eqw (w' := (wX1 cI2 cZ2 h2 a2 v ++ (wX0 cI cZ h a (s_X0_setOnline u (xs (i + 1)) 0) ++ wO cJ o f3))) rfl ?_
      refine z_istore (L' := [(5, .int 0), (0, .ref b), (1, .ref h), (2, .ref h2), (3, .ref o), (4, .int (nI i))]) dL_law_237 (by decide) rfl ?_
      refine z_aload_n 3 dL_law_239 rfl ?_
      refine z_aload_n 1 dL_law_240 rfl ?_
      refine z_iload 5 dL_law_241 rfl ?_
      refine z_iconst (v := 1) dL_law_243 rfl ?_
      refine z_iadd dL_law_244 ?_
      refine z_sld (v := (xs (i + 1))) (zsin (c := 1) (j := 1) rfl hi (by decide) hL).1 (by rw [(zsin (c := 1) (j := 1) rfl hi (by decide) hL).2]) dL_law_245 ?_
      refine z_aload_n 1 dL_law_246 rfl ?_
      refine z_iload 5 dL_law_247 rfl ?_
      refine z_iconst (v := 2) dL_law_249 rfl ?_
      refine z_iadd dL_law_250 ?_
      refine z_sld (v := (xs (i + 2))) (zsin (c := 2) (j := 2) rfl hi (by decide) hL).1 (by rw [(zsin (c := 2) (j := 2) rfl hi (by decide) hL).2]) dL_law_251 ?_
      refine z_if_eq 259 dL_law_252 (by decide) (fun _ => ?_) (fun q => absurd c1 q)
      refine z_iconst (v := 0) dL_law_259 rfl ?_
      refine z_callVi_fr (As := [.int (xs (i + 1)), .int 0]) (st := []) [] (wX0 cI cZ h a (s_X0_setOnline u (xs (i + 1)) 0) ++ wO cJ o f3) (fun l => c_X1_setOnline l D cI2 cZ2 h2 a2 v (xs (i + 1)) 0 nd hmd hd nn hmn hn) zGok_TT (fun _ _ _ => trivial) (fun s args hts => cwV 2 hts gL_law_X1_setOnline rfl rfl rfl (by decide +kernel) ⟨Nat.le_of_ble_eq_true rfl, Nat.le_of_ble_eq_true rfl⟩) (ci := 1) rfl rfl rfl [2, 3] rfl rfl rfl (Nat.le_of_ble_eq_true rfl) ⟨by show _ ≤ 1064; omega, by show _ ≤ 9936; omega⟩ dL_law_260 rfl (fun r u2 hp => ?_)
      obtain ⟨rfl, rfl⟩ := hp
      refine z_istore (L' := [(6, .int (r_X1_setOnline v (xs (i + 1)) 0)), (5, .int 0), (0, .ref b), (1, .ref h), (2, .ref h2), (3, .ref o), (4, .int (nI i))]) dL_law_263 (by decide) rfl ?_
      refine z_aload_n 4 dL_law_265 rfl ?_
      refine z_callVi_fr (As := []) (st := []) [] (wX0 cI cZ h a (s_X0_setOnline u (xs (i + 1)) 0) ++ wO cJ o f3) (fun l => c_X1_thrown l D cI2 cZ2 h2 a2 (s_X1_setOnline v (xs (i + 1)) 0)  ) zGok_TT (fun _ _ _ => trivial) (fun s args hts => cwV 0 hts gL_law_X1_thrown rfl rfl rfl (by decide +kernel) ⟨Nat.le_of_ble_eq_true rfl, Nat.le_of_ble_eq_true rfl⟩) (ci := 1) rfl rfl rfl [2, 3] rfl rfl rfl (Nat.le_of_ble_eq_true rfl) ⟨by show _ ≤ 1064; omega, by show _ ≤ 9936; omega⟩ dL_law_266 rfl (fun r u2 hp => ?_)
      subst hp
      refine z_iload 1 dL_law_269 rfl ?_
      refine z_icmp_eq 276 dL_law_271 (by decide) (fun _ => ?_) (fun q => absurd h0 q)
      refine z_iload 1 dL_law_276 rfl ?_
      refine z_if_ne 293 dL_law_278 (by decide) (fun q => absurd q (by decide)) (fun _ => ?_)
      refine z_aload_n 5 dL_law_281 rfl ?_
      refine z_iconst (v := 0) dL_law_282 rfl ?_
      refine z_lald (v := (f3 0)) 31 4 rfl rfl zin01 rfl dL_law_283 ?_
      refine z_iload 0 dL_law_284 rfl ?_
      refine z_i2l (v := ((r_X1_setOnline v (xs (i + 1)) 0)).toInt64) dL_law_286 rfl ?_
      refine z_lcmpeq 293 (by rw [show f3 0 = _ from hf, hr]) dL_law_287 dL_law_288 (by decide) ?_
      refine z_goto 1497 dL_law_293 (by decide) ?_
      refine z_sub (L' := [(0, .ref b), (1, .ref h), (2, .ref h2), (3, .ref o), (4, .int (nI i))]) [2, 3, 4, 5, 6] rfl ?_
      exact K0 (s_X0_setOnline u (xs (i + 1)) 0) (s_X1_setOnline v (xs (i + 1)) 0) f3 hRn
    ·
      refine z_callWi_fr (As := [.ref h, .int (xs (i + 1)), .int 0, .ref o]) (st := []) (wX1 cI2 cZ2 h2 a2 v) [] (fun l hl9 => kx_setOnline l (by rw [hl9]; exact hlt) D cI cZ cJ h a o u f (xs (i + 1)) 0 he nd hnd hd nn hnn hn) zGok_U (fun _ _ q => q.1) (fun s args hts => vx_cwSW 4 hts gL_law_L_setOnline rfl rfl rfl (by decide +kernel) ⟨Nat.le_of_ble_eq_true rfl, Nat.le_of_ble_eq_true rfl⟩) [0, 1, 4] rfl rfl rfl (Nat.le_of_ble_eq_true rfl) ⟨by show _ ≤ 1064; omega, by show _ ≤ 9936; omega⟩ dL_law_234 rfl (fun r u2 hp => ?_)
      subst hp
      refine z_eqw (w' := (wX1 cI2 cZ2 h2 a2 v ++ (wX0 cI cZ h a u ++ wO cJ o f))) rfl ?_
      refine z_istore (L' := [(5, .int 1), (0, .ref b), (1, .ref h), (2, .ref h2), (3, .ref o), (4, .int (nI i))]) dL_law_237 (by decide) rfl ?_
      refine z_aload_n 3 dL_law_239 rfl ?_
      refine z_aload_n 1 dL_law_240 rfl ?_
      refine z_iload 5 dL_law_241 rfl ?_
      refine z_iconst (v := 1) dL_law_243 rfl ?_
      refine z_iadd dL_law_244 ?_
      refine z_sld (v := (xs (i + 1))) (zsin (c := 1) (j := 1) rfl hi (by decide) hL).1 (by rw [(zsin (c := 1) (j := 1) rfl hi (by decide) hL).2]) dL_law_245 ?_
      refine z_aload_n 1 dL_law_246 rfl ?_
      refine z_iload 5 dL_law_247 rfl ?_
      refine z_iconst (v := 2) dL_law_249 rfl ?_
      refine z_iadd dL_law_250 ?_
      refine z_sld (v := (xs (i + 2))) (zsin (c := 2) (j := 2) rfl hi (by decide) hL).1 (by rw [(zsin (c := 2) (j := 2) rfl hi (by decide) hL).2]) dL_law_251 ?_
      refine z_if_eq 259 dL_law_252 (by decide) (fun _ => ?_) (fun q => absurd c1 q)
      refine z_iconst (v := 0) dL_law_259 rfl ?_
      refine z_callVi_fr (As := [.int (xs (i + 1)), .int 0]) (st := []) [] (wX0 cI cZ h a u ++ wO cJ o f) (fun l => c_X1_setOnline l D cI2 cZ2 h2 a2 v (xs (i + 1)) 0 nd hmd hd nn hmn hn) zGok_TT (fun _ _ _ => trivial) (fun s args hts => cwV 2 hts gL_law_X1_setOnline rfl rfl rfl (by decide +kernel) ⟨Nat.le_of_ble_eq_true rfl, Nat.le_of_ble_eq_true rfl⟩) (ci := 1) rfl rfl rfl [2, 3] rfl rfl rfl (Nat.le_of_ble_eq_true rfl) ⟨by show _ ≤ 1064; omega, by show _ ≤ 9936; omega⟩ dL_law_260 rfl (fun r u2 hp => ?_)
      obtain ⟨rfl, rfl⟩ := hp
      refine z_istore (L' := [(6, .int (r_X1_setOnline v (xs (i + 1)) 0)), (5, .int 1), (0, .ref b), (1, .ref h), (2, .ref h2), (3, .ref o), (4, .int (nI i))]) dL_law_263 (by decide) rfl ?_
      refine z_aload_n 4 dL_law_265 rfl ?_
      refine z_callVi_fr (As := []) (st := []) [] (wX0 cI cZ h a u ++ wO cJ o f) (fun l => c_X1_thrown l D cI2 cZ2 h2 a2 (s_X1_setOnline v (xs (i + 1)) 0)  ) zGok_TT (fun _ _ _ => trivial) (fun s args hts => cwV 0 hts gL_law_X1_thrown rfl rfl rfl (by decide +kernel) ⟨Nat.le_of_ble_eq_true rfl, Nat.le_of_ble_eq_true rfl⟩) (ci := 1) rfl rfl rfl [2, 3] rfl rfl rfl (Nat.le_of_ble_eq_true rfl) ⟨by show _ ≤ 1064; omega, by show _ ≤ 9936; omega⟩ dL_law_266 rfl (fun r u2 hp => ?_)
      subst hp
      refine z_iload 1 dL_law_269 rfl ?_
      refine z_icmp_eq 276 dL_law_271 (by decide) (fun _ => ?_) (fun q => absurd h0 q)
      refine z_iload 1 dL_law_276 rfl ?_
      refine z_if_ne 293 dL_law_278 (by decide) (fun _ => ?_) (fun q => absurd q (by decide))
      refine z_goto 1497 dL_law_293 (by decide) ?_
      refine z_sub (L' := [(0, .ref b), (1, .ref h), (2, .ref h2), (3, .ref o), (4, .int (nI i))]) [2, 3, 4, 5, 6] rfl ?_
      exact K u (s_X1_setOnline v (xs (i + 1)) 0) f hRn
  ·
    refine z_iconst (v := 1) dL_law_228 rfl ?_
    refine z_goto 233 dL_law_229 (by decide) ?_
    refine z_aload_n 3 dL_law_233 rfl ?_
    rcases hD u v hR (xs (i + 1)) 1 (Or.inr rfl) with ⟨he, h0, hr, hRn⟩ | ⟨he, h0, hRn⟩
    ·
      refine z_callWi_fr (As := [.ref h, .int (xs (i + 1)), .int 1, .ref o]) (st := []) (wX1 cI2 cZ2 h2 a2 v) [] (fun l _ => kn_setOnline l D cI cZ cJ h a o u f (xs (i + 1)) 1 he nd hnd hd nn hnn hn) zGok_TT (fun _ _ _ => trivial) (fun s args hts => vx_cwSW 4 hts gL_law_L_setOnline rfl rfl rfl (by decide +kernel) ⟨Nat.le_of_ble_eq_true rfl, Nat.le_of_ble_eq_true rfl⟩) [0, 1, 4] rfl rfl rfl (Nat.le_of_ble_eq_true rfl) ⟨by show _ ≤ 1064; omega, by show _ ≤ 9936; omega⟩ dL_law_234 rfl (fun r u2 hp => ?_)
      obtain ⟨u3, f3⟩ := u2
      obtain ⟨rfl, hS, hf⟩ := hp
      have hS : u3 = (s_X0_setOnline u (xs (i + 1)) 1) := hS
      subst hS
      refine z_eqw (w' := (wX1 cI2 cZ2 h2 a2 v ++ (wX0 cI cZ h a (s_X0_setOnline u (xs (i + 1)) 1) ++ wO cJ o f3))) rfl ?_
      refine z_istore (L' := [(5, .int 0), (0, .ref b), (1, .ref h), (2, .ref h2), (3, .ref o), (4, .int (nI i))]) dL_law_237 (by decide) rfl ?_
      refine z_aload_n 3 dL_law_239 rfl ?_
      refine z_aload_n 1 dL_law_240 rfl ?_
      refine z_iload 5 dL_law_241 rfl ?_
      refine z_iconst (v := 1) dL_law_243 rfl ?_
      refine z_iadd dL_law_244 ?_
      refine z_sld (v := (xs (i + 1))) (zsin (c := 1) (j := 1) rfl hi (by decide) hL).1 (by rw [(zsin (c := 1) (j := 1) rfl hi (by decide) hL).2]) dL_law_245 ?_
      refine z_aload_n 1 dL_law_246 rfl ?_
      refine z_iload 5 dL_law_247 rfl ?_
      refine z_iconst (v := 2) dL_law_249 rfl ?_
      refine z_iadd dL_law_250 ?_
      refine z_sld (v := (xs (i + 2))) (zsin (c := 2) (j := 2) rfl hi (by decide) hL).1 (by rw [(zsin (c := 2) (j := 2) rfl hi (by decide) hL).2]) dL_law_251 ?_
      refine z_if_eq 259 dL_law_252 (by decide) (fun q => absurd q c1) (fun _ => ?_)
      refine z_iconst (v := 1) dL_law_255 rfl ?_
      refine z_goto 260 dL_law_256 (by decide) ?_
      refine z_callVi_fr (As := [.int (xs (i + 1)), .int 1]) (st := []) [] (wX0 cI cZ h a (s_X0_setOnline u (xs (i + 1)) 1) ++ wO cJ o f3) (fun l => c_X1_setOnline l D cI2 cZ2 h2 a2 v (xs (i + 1)) 1 nd hmd hd nn hmn hn) zGok_TT (fun _ _ _ => trivial) (fun s args hts => cwV 2 hts gL_law_X1_setOnline rfl rfl rfl (by decide +kernel) ⟨Nat.le_of_ble_eq_true rfl, Nat.le_of_ble_eq_true rfl⟩) (ci := 1) rfl rfl rfl [2, 3] rfl rfl rfl (Nat.le_of_ble_eq_true rfl) ⟨by show _ ≤ 1064; omega, by show _ ≤ 9936; omega⟩ dL_law_260 rfl (fun r u2 hp => ?_)
      obtain ⟨rfl, rfl⟩ := hp
      refine z_istore (L' := [(6, .int (r_X1_setOnline v (xs (i + 1)) 1)), (5, .int 0), (0, .ref b), (1, .ref h), (2, .ref h2), (3, .ref o), (4, .int (nI i))]) dL_law_263 (by decide) rfl ?_
      refine z_aload_n 4 dL_law_265 rfl ?_
      refine z_callVi_fr (As := []) (st := []) [] (wX0 cI cZ h a (s_X0_setOnline u (xs (i + 1)) 1) ++ wO cJ o f3) (fun l => c_X1_thrown l D cI2 cZ2 h2 a2 (s_X1_setOnline v (xs (i + 1)) 1)  ) zGok_TT (fun _ _ _ => trivial) (fun s args hts => cwV 0 hts gL_law_X1_thrown rfl rfl rfl (by decide +kernel) ⟨Nat.le_of_ble_eq_true rfl, Nat.le_of_ble_eq_true rfl⟩) (ci := 1) rfl rfl rfl [2, 3] rfl rfl rfl (Nat.le_of_ble_eq_true rfl) ⟨by show _ ≤ 1064; omega, by show _ ≤ 9936; omega⟩ dL_law_266 rfl (fun r u2 hp => ?_)
      subst hp
      refine z_iload 1 dL_law_269 rfl ?_
      refine z_icmp_eq 276 dL_law_271 (by decide) (fun _ => ?_) (fun q => absurd h0 q)
      refine z_iload 1 dL_law_276 rfl ?_
      refine z_if_ne 293 dL_law_278 (by decide) (fun q => absurd q (by decide)) (fun _ => ?_)
      refine z_aload_n 5 dL_law_281 rfl ?_
      refine z_iconst (v := 0) dL_law_282 rfl ?_
      refine z_lald (v := (f3 0)) 31 4 rfl rfl zin01 rfl dL_law_283 ?_
      refine z_iload 0 dL_law_284 rfl ?_
      refine z_i2l (v := ((r_X1_setOnline v (xs (i + 1)) 1)).toInt64) dL_law_286 rfl ?_
      refine z_lcmpeq 293 (by rw [show f3 0 = _ from hf, hr]) dL_law_287 dL_law_288 (by decide) ?_
      refine z_goto 1497 dL_law_293 (by decide) ?_
      refine z_sub (L' := [(0, .ref b), (1, .ref h), (2, .ref h2), (3, .ref o), (4, .int (nI i))]) [2, 3, 4, 5, 6] rfl ?_
      exact K0 (s_X0_setOnline u (xs (i + 1)) 1) (s_X1_setOnline v (xs (i + 1)) 1) f3 hRn
    ·
      refine z_callWi_fr (As := [.ref h, .int (xs (i + 1)), .int 1, .ref o]) (st := []) (wX1 cI2 cZ2 h2 a2 v) [] (fun l hl9 => kx_setOnline l (by rw [hl9]; exact hlt) D cI cZ cJ h a o u f (xs (i + 1)) 1 he nd hnd hd nn hnn hn) zGok_U (fun _ _ q => q.1) (fun s args hts => vx_cwSW 4 hts gL_law_L_setOnline rfl rfl rfl (by decide +kernel) ⟨Nat.le_of_ble_eq_true rfl, Nat.le_of_ble_eq_true rfl⟩) [0, 1, 4] rfl rfl rfl (Nat.le_of_ble_eq_true rfl) ⟨by show _ ≤ 1064; omega, by show _ ≤ 9936; omega⟩ dL_law_234 rfl (fun r u2 hp => ?_)
      subst hp
      refine z_eqw (w' := (wX1 cI2 cZ2 h2 a2 v ++ (wX0 cI cZ h a u ++ wO cJ o f))) rfl ?_
      refine z_istore (L' := [(5, .int 1), (0, .ref b), (1, .ref h), (2, .ref h2), (3, .ref o), (4, .int (nI i))]) dL_law_237 (by decide) rfl ?_
      refine z_aload_n 3 dL_law_239 rfl ?_
      refine z_aload_n 1 dL_law_240 rfl ?_
      refine z_iload 5 dL_law_241 rfl ?_
      refine z_iconst (v := 1) dL_law_243 rfl ?_
      refine z_iadd dL_law_244 ?_
      refine z_sld (v := (xs (i + 1))) (zsin (c := 1) (j := 1) rfl hi (by decide) hL).1 (by rw [(zsin (c := 1) (j := 1) rfl hi (by decide) hL).2]) dL_law_245 ?_
      refine z_aload_n 1 dL_law_246 rfl ?_
      refine z_iload 5 dL_law_247 rfl ?_
      refine z_iconst (v := 2) dL_law_249 rfl ?_
      refine z_iadd dL_law_250 ?_
      refine z_sld (v := (xs (i + 2))) (zsin (c := 2) (j := 2) rfl hi (by decide) hL).1 (by rw [(zsin (c := 2) (j := 2) rfl hi (by decide) hL).2]) dL_law_251 ?_
      refine z_if_eq 259 dL_law_252 (by decide) (fun q => absurd q c1) (fun _ => ?_)
      refine z_iconst (v := 1) dL_law_255 rfl ?_
      refine z_goto 260 dL_law_256 (by decide) ?_
      refine z_callVi_fr (As := [.int (xs (i + 1)), .int 1]) (st := []) [] (wX0 cI cZ h a u ++ wO cJ o f) (fun l => c_X1_setOnline l D cI2 cZ2 h2 a2 v (xs (i + 1)) 1 nd hmd hd nn hmn hn) zGok_TT (fun _ _ _ => trivial) (fun s args hts => cwV 2 hts gL_law_X1_setOnline rfl rfl rfl (by decide +kernel) ⟨Nat.le_of_ble_eq_true rfl, Nat.le_of_ble_eq_true rfl⟩) (ci := 1) rfl rfl rfl [2, 3] rfl rfl rfl (Nat.le_of_ble_eq_true rfl) ⟨by show _ ≤ 1064; omega, by show _ ≤ 9936; omega⟩ dL_law_260 rfl (fun r u2 hp => ?_)
      obtain ⟨rfl, rfl⟩ := hp
      refine z_istore (L' := [(6, .int (r_X1_setOnline v (xs (i + 1)) 1)), (5, .int 1), (0, .ref b), (1, .ref h), (2, .ref h2), (3, .ref o), (4, .int (nI i))]) dL_law_263 (by decide) rfl ?_
      refine z_aload_n 4 dL_law_265 rfl ?_
      refine z_callVi_fr (As := []) (st := []) [] (wX0 cI cZ h a u ++ wO cJ o f) (fun l => c_X1_thrown l D cI2 cZ2 h2 a2 (s_X1_setOnline v (xs (i + 1)) 1)  ) zGok_TT (fun _ _ _ => trivial) (fun s args hts => cwV 0 hts gL_law_X1_thrown rfl rfl rfl (by decide +kernel) ⟨Nat.le_of_ble_eq_true rfl, Nat.le_of_ble_eq_true rfl⟩) (ci := 1) rfl rfl rfl [2, 3] rfl rfl rfl (Nat.le_of_ble_eq_true rfl) ⟨by show _ ≤ 1064; omega, by show _ ≤ 9936; omega⟩ dL_law_266 rfl (fun r u2 hp => ?_)
      subst hp
      refine z_iload 1 dL_law_269 rfl ?_
      refine z_icmp_eq 276 dL_law_271 (by decide) (fun _ => ?_) (fun q => absurd h0 q)
      refine z_iload 1 dL_law_276 rfl ?_
      refine z_if_ne 293 dL_law_278 (by decide) (fun _ => ?_) (fun q => absurd q (by decide))
      refine z_goto 1497 dL_law_293 (by decide) ?_
      refine z_sub (L' := [(0, .ref b), (1, .ref h), (2, .ref h2), (3, .ref o), (4, .int (nI i))]) [2, 3, 4, 5, 6] rfl ?_
      exact K u (s_X1_setOnline v (xs (i + 1)) 1) f hRn
set_option maxHeartbeats 8000000 in
set_option maxRecDepth 100000 in
theorem law_setDozing (E : ZE) (hlt : E.2.1.stackTraces = false) (b L : Nat) (xs : Nat → Int32) (D : va_G) (cI cZ cI2 cZ2 cJ : ClassId) (h h2 o : Nat) (a a2 : Nat → Nat) (hL : L ≤ 3072) (RR : SX → SX → Prop) (hWF : ∀ u v, RR u v → zWF u v) (hD : zD_setDozing RR) (i : Nat) (hi : i + 6 ≤ L) (u v : SX) (f : Nat → Int64) (cn sn : Nat) (hc1 : cn + 1 ≤ 1064) (hc2 : sn + 6 ≤ 9936) (hR : RR u v)
    (K : ∀ (u v : SX) (f : Nat → Int64), RR u v → ZW E (zGL b L xs) room_1 cL_law RL wsL_law 7 D [(cI, .int), (cZ, .boolean), (cI2, .int), (cZ2, .boolean), (cJ, .long)] (cn + 1) (sn + 6) (wX1 cI2 cZ2 h2 a2 v ++ (wX0 cI cZ h a u ++ wO cJ o f)) 1497 [(0, .ref b), (1, .ref h), (2, .ref h2), (3, .ref o), (4, .int (nI i))] []) : ZW E (zGL b L xs) room_1 cL_law RL wsL_law 7 D [(cI, .int), (cZ, .boolean), (cI2, .int), (cZ2, .boolean), (cJ, .long)] cn sn (wX1 cI2 cZ2 h2 a2 v ++ (wX0 cI cZ h a u ++ wO cJ o f)) 296 [(0, .ref b), (1, .ref h), (2, .ref h2), (3, .ref o), (4, .int (nI i))] [] := by
  obtain ⟨nd, nn, ⟨hnd, hd⟩, ⟨hnn, hn⟩, hlk, hmd, hmn⟩ := hWF u v hR
  have K0 : ∀ (u v : SX) (f : Nat → Int64), RR u v → ZW E (zGL b L xs) room_1 cL_law RL wsL_law 7 D [(cI, .int), (cZ, .boolean), (cI2, .int), (cZ2, .boolean), (cJ, .long)] cn sn (wX1 cI2 cZ2 h2 a2 v ++ (wX0 cI cZ h a u ++ wO cJ o f)) 1497 [(0, .ref b), (1, .ref h), (2, .ref h2), (3, .ref o), (4, .int (nI i))] [] := fun u v f h => z_widen (by omega) (by omega) (K u v f h)
  refine z_aload_n 1 dL_law_296 rfl ?_
  refine z_aload_n 0 dL_law_297 rfl ?_
  refine z_iload 4 dL_law_298 rfl ?_
  refine z_iconst (v := 1) dL_law_300 rfl ?_
  refine z_iadd dL_law_301 ?_
  refine z_sld (v := (xs (i + 1))) (zsin (c := 1) (j := 1) rfl hi (by decide) hL).1 (by rw [(zsin (c := 1) (j := 1) rfl hi (by decide) hL).2]) dL_law_302 ?_
  refine z_aload_n 0 dL_law_303 rfl ?_
  refine z_iload 4 dL_law_304 rfl ?_
  refine z_iconst (v := 2) dL_law_306 rfl ?_
  refine z_iadd dL_law_307 ?_
  refine z_sld (v := (xs (i + 2))) (zsin (c := 2) (j := 2) rfl hi (by decide) hL).1 (by rw [(zsin (c := 2) (j := 2) rfl hi (by decide) hL).2]) dL_law_308 ?_
  refine z_if_eq 316 dL_law_309 (by decide) (fun c1 => ?_) (fun c1 => ?_)
  ·
    refine z_iconst (v := 0) dL_law_316 rfl ?_
    refine z_aload_n 3 dL_law_317 rfl ?_
    rcases hD u v hR (xs (i + 1)) 0 (Or.inl rfl) with ⟨he, h0, hr, hRn⟩ | ⟨he, h0, hRn⟩
    ·
      refine z_callWi_fr (As := [.ref h, .int (xs (i + 1)), .int 0, .ref o]) (st := []) (wX1 cI2 cZ2 h2 a2 v) [] (fun l _ => kn_setDozing l D cI cZ cJ h a o u f (xs (i + 1)) 0 he nd hnd hd nn hnn hn) zGok_TT (fun _ _ _ => trivial) (fun s args hts => vx_cwSW 4 hts gL_law_L_setDozing rfl rfl rfl (by decide +kernel) ⟨Nat.le_of_ble_eq_true rfl, Nat.le_of_ble_eq_true rfl⟩) [0, 1, 4] rfl rfl rfl (Nat.le_of_ble_eq_true rfl) ⟨by show _ ≤ 1064; omega, by show _ ≤ 9936; omega⟩ dL_law_318 rfl (fun r u2 hp => ?_)
      obtain ⟨u3, f3⟩ := u2
      obtain ⟨rfl, hS, hf⟩ := hp
      have hS : u3 = (s_X0_setDozing u (xs (i + 1)) 0) := hS
      subst hS
      refine z_eqw (w' := (wX1 cI2 cZ2 h2 a2 v ++ (wX0 cI cZ h a (s_X0_setDozing u (xs (i + 1)) 0) ++ wO cJ o f3))) rfl ?_
      refine z_istore (L' := [(5, .int 0), (0, .ref b), (1, .ref h), (2, .ref h2), (3, .ref o), (4, .int (nI i))]) dL_law_321 (by decide) rfl ?_
      refine z_aload_n 3 dL_law_323 rfl ?_
      refine z_aload_n 1 dL_law_324 rfl ?_
      refine z_iload 5 dL_law_325 rfl ?_
      refine z_iconst (v := 1) dL_law_327 rfl ?_
      refine z_iadd dL_law_328 ?_
      refine z_sld (v := (xs (i + 1))) (zsin (c := 1) (j := 1) rfl hi (by decide) hL).1 (by rw [(zsin (c := 1) (j := 1) rfl hi (by decide) hL).2]) dL_law_329 ?_
      refine z_aload_n 1 dL_law_330 rfl ?_
      refine z_iload 5 dL_law_331 rfl ?_
      refine z_iconst (v := 2) dL_law_333 rfl ?_
      refine z_iadd dL_law_334 ?_
      refine z_sld (v := (xs (i + 2))) (zsin (c := 2) (j := 2) rfl hi (by decide) hL).1 (by rw [(zsin (c := 2) (j := 2) rfl hi (by decide) hL).2]) dL_law_335 ?_
      refine z_if_eq 343 dL_law_336 (by decide) (fun _ => ?_) (fun q => absurd c1 q)
      refine z_iconst (v := 0) dL_law_343 rfl ?_
      refine z_callVi_fr (As := [.int (xs (i + 1)), .int 0]) (st := []) [] (wX0 cI cZ h a (s_X0_setDozing u (xs (i + 1)) 0) ++ wO cJ o f3) (fun l => c_X1_setDozing l D cI2 cZ2 h2 a2 v (xs (i + 1)) 0 nd hmd hd nn hmn hn) zGok_TT (fun _ _ _ => trivial) (fun s args hts => cwV 2 hts gL_law_X1_setDozing rfl rfl rfl (by decide +kernel) ⟨Nat.le_of_ble_eq_true rfl, Nat.le_of_ble_eq_true rfl⟩) (ci := 1) rfl rfl rfl [2, 3] rfl rfl rfl (Nat.le_of_ble_eq_true rfl) ⟨by show _ ≤ 1064; omega, by show _ ≤ 9936; omega⟩ dL_law_344 rfl (fun r u2 hp => ?_)
      obtain ⟨rfl, rfl⟩ := hp
      refine z_istore (L' := [(6, .int (r_X1_setDozing v (xs (i + 1)) 0)), (5, .int 0), (0, .ref b), (1, .ref h), (2, .ref h2), (3, .ref o), (4, .int (nI i))]) dL_law_347 (by decide) rfl ?_
      refine z_aload_n 4 dL_law_349 rfl ?_
      refine z_callVi_fr (As := []) (st := []) [] (wX0 cI cZ h a (s_X0_setDozing u (xs (i + 1)) 0) ++ wO cJ o f3) (fun l => c_X1_thrown l D cI2 cZ2 h2 a2 (s_X1_setDozing v (xs (i + 1)) 0)  ) zGok_TT (fun _ _ _ => trivial) (fun s args hts => cwV 0 hts gL_law_X1_thrown rfl rfl rfl (by decide +kernel) ⟨Nat.le_of_ble_eq_true rfl, Nat.le_of_ble_eq_true rfl⟩) (ci := 1) rfl rfl rfl [2, 3] rfl rfl rfl (Nat.le_of_ble_eq_true rfl) ⟨by show _ ≤ 1064; omega, by show _ ≤ 9936; omega⟩ dL_law_350 rfl (fun r u2 hp => ?_)
      subst hp
      refine z_iload 1 dL_law_353 rfl ?_
      refine z_icmp_eq 360 dL_law_355 (by decide) (fun _ => ?_) (fun q => absurd h0 q)
      refine z_iload 1 dL_law_360 rfl ?_
      refine z_if_ne 377 dL_law_362 (by decide) (fun q => absurd q (by decide)) (fun _ => ?_)
      refine z_aload_n 5 dL_law_365 rfl ?_
      refine z_iconst (v := 0) dL_law_366 rfl ?_
      refine z_lald (v := (f3 0)) 31 4 rfl rfl zin01 rfl dL_law_367 ?_
      refine z_iload 0 dL_law_368 rfl ?_
      refine z_i2l (v := ((r_X1_setDozing v (xs (i + 1)) 0)).toInt64) dL_law_370 rfl ?_
      refine z_lcmpeq 377 (by rw [show f3 0 = _ from hf, hr]) dL_law_371 dL_law_372 (by decide) ?_
      refine z_goto 1497 dL_law_377 (by decide) ?_
      refine z_sub (L' := [(0, .ref b), (1, .ref h), (2, .ref h2), (3, .ref o), (4, .int (nI i))]) [2, 3, 4, 5, 6] rfl ?_
      exact K0 (s_X0_setDozing u (xs (i + 1)) 0) (s_X1_setDozing v (xs (i + 1)) 0) f3 hRn
    ·
      refine z_callWi_fr (As := [.ref h, .int (xs (i + 1)), .int 0, .ref o]) (st := []) (wX1 cI2 cZ2 h2 a2 v) [] (fun l hl9 => kx_setDozing l (by rw [hl9]; exact hlt) D cI cZ cJ h a o u f (xs (i + 1)) 0 he nd hnd hd nn hnn hn) zGok_U (fun _ _ q => q.1) (fun s args hts => vx_cwSW 4 hts gL_law_L_setDozing rfl rfl rfl (by decide +kernel) ⟨Nat.le_of_ble_eq_true rfl, Nat.le_of_ble_eq_true rfl⟩) [0, 1, 4] rfl rfl rfl (Nat.le_of_ble_eq_true rfl) ⟨by show _ ≤ 1064; omega, by show _ ≤ 9936; omega⟩ dL_law_318 rfl (fun r u2 hp => ?_)
      subst hp
      refine z_eqw (w' := (wX1 cI2 cZ2 h2 a2 v ++ (wX0 cI cZ h a u ++ wO cJ o f))) rfl ?_
      refine z_istore (L' := [(5, .int 1), (0, .ref b), (1, .ref h), (2, .ref h2), (3, .ref o), (4, .int (nI i))]) dL_law_321 (by decide) rfl ?_
      refine z_aload_n 3 dL_law_323 rfl ?_
      refine z_aload_n 1 dL_law_324 rfl ?_
      refine z_iload 5 dL_law_325 rfl ?_
      refine z_iconst (v := 1) dL_law_327 rfl ?_
      refine z_iadd dL_law_328 ?_
      refine z_sld (v := (xs (i + 1))) (zsin (c := 1) (j := 1) rfl hi (by decide) hL).1 (by rw [(zsin (c := 1) (j := 1) rfl hi (by decide) hL).2]) dL_law_329 ?_
      refine z_aload_n 1 dL_law_330 rfl ?_
      refine z_iload 5 dL_law_331 rfl ?_
      refine z_iconst (v := 2) dL_law_333 rfl ?_
      refine z_iadd dL_law_334 ?_
      refine z_sld (v := (xs (i + 2))) (zsin (c := 2) (j := 2) rfl hi (by decide) hL).1 (by rw [(zsin (c := 2) (j := 2) rfl hi (by decide) hL).2]) dL_law_335 ?_
      refine z_if_eq 343 dL_law_336 (by decide) (fun _ => ?_) (fun q => absurd c1 q)
      refine z_iconst (v := 0) dL_law_343 rfl ?_
      refine z_callVi_fr (As := [.int (xs (i + 1)), .int 0]) (st := []) [] (wX0 cI cZ h a u ++ wO cJ o f) (fun l => c_X1_setDozing l D cI2 cZ2 h2 a2 v (xs (i + 1)) 0 nd hmd hd nn hmn hn) zGok_TT (fun _ _ _ => trivial) (fun s args hts => cwV 2 hts gL_law_X1_setDozing rfl rfl rfl (by decide +kernel) ⟨Nat.le_of_ble_eq_true rfl, Nat.le_of_ble_eq_true rfl⟩) (ci := 1) rfl rfl rfl [2, 3] rfl rfl rfl (Nat.le_of_ble_eq_true rfl) ⟨by show _ ≤ 1064; omega, by show _ ≤ 9936; omega⟩ dL_law_344 rfl (fun r u2 hp => ?_)
      obtain ⟨rfl, rfl⟩ := hp
      refine z_istore (L' := [(6, .int (r_X1_setDozing v (xs (i + 1)) 0)), (5, .int 1), (0, .ref b), (1, .ref h), (2, .ref h2), (3, .ref o), (4, .int (nI i))]) dL_law_347 (by decide) rfl ?_
      refine z_aload_n 4 dL_law_349 rfl ?_
      refine z_callVi_fr (As := []) (st := []) [] (wX0 cI cZ h a u ++ wO cJ o f) (fun l => c_X1_thrown l D cI2 cZ2 h2 a2 (s_X1_setDozing v (xs (i + 1)) 0)  ) zGok_TT (fun _ _ _ => trivial) (fun s args hts => cwV 0 hts gL_law_X1_thrown rfl rfl rfl (by decide +kernel) ⟨Nat.le_of_ble_eq_true rfl, Nat.le_of_ble_eq_true rfl⟩) (ci := 1) rfl rfl rfl [2, 3] rfl rfl rfl (Nat.le_of_ble_eq_true rfl) ⟨by show _ ≤ 1064; omega, by show _ ≤ 9936; omega⟩ dL_law_350 rfl (fun r u2 hp => ?_)
      subst hp
      refine z_iload 1 dL_law_353 rfl ?_
      refine z_icmp_eq 360 dL_law_355 (by decide) (fun _ => ?_) (fun q => absurd h0 q)
      refine z_iload 1 dL_law_360 rfl ?_
      refine z_if_ne 377 dL_law_362 (by decide) (fun _ => ?_) (fun q => absurd q (by decide))
      refine z_goto 1497 dL_law_377 (by decide) ?_
      refine z_sub (L' := [(0, .ref b), (1, .ref h), (2, .ref h2), (3, .ref o), (4, .int (nI i))]) [2, 3, 4, 5, 6] rfl ?_
      exact K u (s_X1_setDozing v (xs (i + 1)) 0) f hRn
  ·
    refine z_iconst (v := 1) dL_law_312 rfl ?_
    refine z_goto 317 dL_law_313 (by decide) ?_
    refine z_aload_n 3 dL_law_317 rfl ?_
    rcases hD u v hR (xs (i + 1)) 1 (Or.inr rfl) with ⟨he, h0, hr, hRn⟩ | ⟨he, h0, hRn⟩
    ·
      refine z_callWi_fr (As := [.ref h, .int (xs (i + 1)), .int 1, .ref o]) (st := []) (wX1 cI2 cZ2 h2 a2 v) [] (fun l _ => kn_setDozing l D cI cZ cJ h a o u f (xs (i + 1)) 1 he nd hnd hd nn hnn hn) zGok_TT (fun _ _ _ => trivial) (fun s args hts => vx_cwSW 4 hts gL_law_L_setDozing rfl rfl rfl (by decide +kernel) ⟨Nat.le_of_ble_eq_true rfl, Nat.le_of_ble_eq_true rfl⟩) [0, 1, 4] rfl rfl rfl (Nat.le_of_ble_eq_true rfl) ⟨by show _ ≤ 1064; omega, by show _ ≤ 9936; omega⟩ dL_law_318 rfl (fun r u2 hp => ?_)
      obtain ⟨u3, f3⟩ := u2
      obtain ⟨rfl, hS, hf⟩ := hp
      have hS : u3 = (s_X0_setDozing u (xs (i + 1)) 1) := hS
      subst hS
      refine z_eqw (w' := (wX1 cI2 cZ2 h2 a2 v ++ (wX0 cI cZ h a (s_X0_setDozing u (xs (i + 1)) 1) ++ wO cJ o f3))) rfl ?_
      refine z_istore (L' := [(5, .int 0), (0, .ref b), (1, .ref h), (2, .ref h2), (3, .ref o), (4, .int (nI i))]) dL_law_321 (by decide) rfl ?_
      refine z_aload_n 3 dL_law_323 rfl ?_
      refine z_aload_n 1 dL_law_324 rfl ?_
      refine z_iload 5 dL_law_325 rfl ?_
      refine z_iconst (v := 1) dL_law_327 rfl ?_
      refine z_iadd dL_law_328 ?_
      refine z_sld (v := (xs (i + 1))) (zsin (c := 1) (j := 1) rfl hi (by decide) hL).1 (by rw [(zsin (c := 1) (j := 1) rfl hi (by decide) hL).2]) dL_law_329 ?_
      refine z_aload_n 1 dL_law_330 rfl ?_
      refine z_iload 5 dL_law_331 rfl ?_
      refine z_iconst (v := 2) dL_law_333 rfl ?_
      refine z_iadd dL_law_334 ?_
      refine z_sld (v := (xs (i + 2))) (zsin (c := 2) (j := 2) rfl hi (by decide) hL).1 (by rw [(zsin (c := 2) (j := 2) rfl hi (by decide) hL).2]) dL_law_335 ?_
      refine z_if_eq 343 dL_law_336 (by decide) (fun q => absurd q c1) (fun _ => ?_)
      refine z_iconst (v := 1) dL_law_339 rfl ?_
      refine z_goto 344 dL_law_340 (by decide) ?_
      refine z_callVi_fr (As := [.int (xs (i + 1)), .int 1]) (st := []) [] (wX0 cI cZ h a (s_X0_setDozing u (xs (i + 1)) 1) ++ wO cJ o f3) (fun l => c_X1_setDozing l D cI2 cZ2 h2 a2 v (xs (i + 1)) 1 nd hmd hd nn hmn hn) zGok_TT (fun _ _ _ => trivial) (fun s args hts => cwV 2 hts gL_law_X1_setDozing rfl rfl rfl (by decide +kernel) ⟨Nat.le_of_ble_eq_true rfl, Nat.le_of_ble_eq_true rfl⟩) (ci := 1) rfl rfl rfl [2, 3] rfl rfl rfl (Nat.le_of_ble_eq_true rfl) ⟨by show _ ≤ 1064; omega, by show _ ≤ 9936; omega⟩ dL_law_344 rfl (fun r u2 hp => ?_)
      obtain ⟨rfl, rfl⟩ := hp
      refine z_istore (L' := [(6, .int (r_X1_setDozing v (xs (i + 1)) 1)), (5, .int 0), (0, .ref b), (1, .ref h), (2, .ref h2), (3, .ref o), (4, .int (nI i))]) dL_law_347 (by decide) rfl ?_
      refine z_aload_n 4 dL_law_349 rfl ?_
      refine z_callVi_fr (As := []) (st := []) [] (wX0 cI cZ h a (s_X0_setDozing u (xs (i + 1)) 1) ++ wO cJ o f3) (fun l => c_X1_thrown l D cI2 cZ2 h2 a2 (s_X1_setDozing v (xs (i + 1)) 1)  ) zGok_TT (fun _ _ _ => trivial) (fun s args hts => cwV 0 hts gL_law_X1_thrown rfl rfl rfl (by decide +kernel) ⟨Nat.le_of_ble_eq_true rfl, Nat.le_of_ble_eq_true rfl⟩) (ci := 1) rfl rfl rfl [2, 3] rfl rfl rfl (Nat.le_of_ble_eq_true rfl) ⟨by show _ ≤ 1064; omega, by show _ ≤ 9936; omega⟩ dL_law_350 rfl (fun r u2 hp => ?_)
      subst hp
      refine z_iload 1 dL_law_353 rfl ?_
      refine z_icmp_eq 360 dL_law_355 (by decide) (fun _ => ?_) (fun q => absurd h0 q)
      refine z_iload 1 dL_law_360 rfl ?_
      refine z_if_ne 377 dL_law_362 (by decide) (fun q => absurd q (by decide)) (fun _ => ?_)
      refine z_aload_n 5 dL_law_365 rfl ?_
      refine z_iconst (v := 0) dL_law_366 rfl ?_
      refine z_lald (v := (f3 0)) 31 4 rfl rfl zin01 rfl dL_law_367 ?_
      refine z_iload 0 dL_law_368 rfl ?_
      refine z_i2l (v := ((r_X1_setDozing v (xs (i + 1)) 1)).toInt64) dL_law_370 rfl ?_
      refine z_lcmpeq 377 (by rw [show f3 0 = _ from hf, hr]) dL_law_371 dL_law_372 (by decide) ?_
      refine z_goto 1497 dL_law_377 (by decide) ?_
      refine z_sub (L' := [(0, .ref b), (1, .ref h), (2, .ref h2), (3, .ref o), (4, .int (nI i))]) [2, 3, 4, 5, 6] rfl ?_
      exact K0 (s_X0_setDozing u (xs (i + 1)) 1) (s_X1_setDozing v (xs (i + 1)) 1) f3 hRn
    ·
      refine z_callWi_fr (As := [.ref h, .int (xs (i + 1)), .int 1, .ref o]) (st := []) (wX1 cI2 cZ2 h2 a2 v) [] (fun l hl9 => kx_setDozing l (by rw [hl9]; exact hlt) D cI cZ cJ h a o u f (xs (i + 1)) 1 he nd hnd hd nn hnn hn) zGok_U (fun _ _ q => q.1) (fun s args hts => vx_cwSW 4 hts gL_law_L_setDozing rfl rfl rfl (by decide +kernel) ⟨Nat.le_of_ble_eq_true rfl, Nat.le_of_ble_eq_true rfl⟩) [0, 1, 4] rfl rfl rfl (Nat.le_of_ble_eq_true rfl) ⟨by show _ ≤ 1064; omega, by show _ ≤ 9936; omega⟩ dL_law_318 rfl (fun r u2 hp => ?_)
      subst hp
      refine z_eqw (w' := (wX1 cI2 cZ2 h2 a2 v ++ (wX0 cI cZ h a u ++ wO cJ o f))) rfl ?_
      refine z_istore (L' := [(5, .int 1), (0, .ref b), (1, .ref h), (2, .ref h2), (3, .ref o), (4, .int (nI i))]) dL_law_321 (by decide) rfl ?_
      refine z_aload_n 3 dL_law_323 rfl ?_
      refine z_aload_n 1 dL_law_324 rfl ?_
      refine z_iload 5 dL_law_325 rfl ?_
      refine z_iconst (v := 1) dL_law_327 rfl ?_
      refine z_iadd dL_law_328 ?_
      refine z_sld (v := (xs (i + 1))) (zsin (c := 1) (j := 1) rfl hi (by decide) hL).1 (by rw [(zsin (c := 1) (j := 1) rfl hi (by decide) hL).2]) dL_law_329 ?_
      refine z_aload_n 1 dL_law_330 rfl ?_
      refine z_iload 5 dL_law_331 rfl ?_
      refine z_iconst (v := 2) dL_law_333 rfl ?_
      refine z_iadd dL_law_334 ?_
      refine z_sld (v := (xs (i + 2))) (zsin (c := 2) (j := 2) rfl hi (by decide) hL).1 (by rw [(zsin (c := 2) (j := 2) rfl hi (by decide) hL).2]) dL_law_335 ?_
      refine z_if_eq 343 dL_law_336 (by decide) (fun q => absurd q c1) (fun _ => ?_)
      refine z_iconst (v := 1) dL_law_339 rfl ?_
      refine z_goto 344 dL_law_340 (by decide) ?_
      refine z_callVi_fr (As := [.int (xs (i + 1)), .int 1]) (st := []) [] (wX0 cI cZ h a u ++ wO cJ o f) (fun l => c_X1_setDozing l D cI2 cZ2 h2 a2 v (xs (i + 1)) 1 nd hmd hd nn hmn hn) zGok_TT (fun _ _ _ => trivial) (fun s args hts => cwV 2 hts gL_law_X1_setDozing rfl rfl rfl (by decide +kernel) ⟨Nat.le_of_ble_eq_true rfl, Nat.le_of_ble_eq_true rfl⟩) (ci := 1) rfl rfl rfl [2, 3] rfl rfl rfl (Nat.le_of_ble_eq_true rfl) ⟨by show _ ≤ 1064; omega, by show _ ≤ 9936; omega⟩ dL_law_344 rfl (fun r u2 hp => ?_)
      obtain ⟨rfl, rfl⟩ := hp
      refine z_istore (L' := [(6, .int (r_X1_setDozing v (xs (i + 1)) 1)), (5, .int 1), (0, .ref b), (1, .ref h), (2, .ref h2), (3, .ref o), (4, .int (nI i))]) dL_law_347 (by decide) rfl ?_
      refine z_aload_n 4 dL_law_349 rfl ?_
      refine z_callVi_fr (As := []) (st := []) [] (wX0 cI cZ h a u ++ wO cJ o f) (fun l => c_X1_thrown l D cI2 cZ2 h2 a2 (s_X1_setDozing v (xs (i + 1)) 1)  ) zGok_TT (fun _ _ _ => trivial) (fun s args hts => cwV 0 hts gL_law_X1_thrown rfl rfl rfl (by decide +kernel) ⟨Nat.le_of_ble_eq_true rfl, Nat.le_of_ble_eq_true rfl⟩) (ci := 1) rfl rfl rfl [2, 3] rfl rfl rfl (Nat.le_of_ble_eq_true rfl) ⟨by show _ ≤ 1064; omega, by show _ ≤ 9936; omega⟩ dL_law_350 rfl (fun r u2 hp => ?_)
      subst hp
      refine z_iload 1 dL_law_353 rfl ?_
      refine z_icmp_eq 360 dL_law_355 (by decide) (fun _ => ?_) (fun q => absurd h0 q)
      refine z_iload 1 dL_law_360 rfl ?_
      refine z_if_ne 377 dL_law_362 (by decide) (fun _ => ?_) (fun q => absurd q (by decide))
      refine z_goto 1497 dL_law_377 (by decide) ?_
      refine z_sub (L' := [(0, .ref b), (1, .ref h), (2, .ref h2), (3, .ref o), (4, .int (nI i))]) [2, 3, 4, 5, 6] rfl ?_
      exact K u (s_X1_setDozing v (xs (i + 1)) 1) f hRn
set_option maxHeartbeats 8000000 in
set_option maxRecDepth 100000 in
theorem law_setQuiet (E : ZE) (hlt : E.2.1.stackTraces = false) (b L : Nat) (xs : Nat → Int32) (D : va_G) (cI cZ cI2 cZ2 cJ : ClassId) (h h2 o : Nat) (a a2 : Nat → Nat) (hL : L ≤ 3072) (RR : SX → SX → Prop) (hWF : ∀ u v, RR u v → zWF u v) (hD : zD_setQuiet RR) (i : Nat) (hi : i + 6 ≤ L) (u v : SX) (f : Nat → Int64) (cn sn : Nat) (hc1 : cn + 1 ≤ 1064) (hc2 : sn + 6 ≤ 9936) (hR : RR u v)
    (K : ∀ (u v : SX) (f : Nat → Int64), RR u v → ZW E (zGL b L xs) room_1 cL_law RL wsL_law 7 D [(cI, .int), (cZ, .boolean), (cI2, .int), (cZ2, .boolean), (cJ, .long)] (cn + 1) (sn + 6) (wX1 cI2 cZ2 h2 a2 v ++ (wX0 cI cZ h a u ++ wO cJ o f)) 1497 [(0, .ref b), (1, .ref h), (2, .ref h2), (3, .ref o), (4, .int (nI i))] []) : ZW E (zGL b L xs) room_1 cL_law RL wsL_law 7 D [(cI, .int), (cZ, .boolean), (cI2, .int), (cZ2, .boolean), (cJ, .long)] cn sn (wX1 cI2 cZ2 h2 a2 v ++ (wX0 cI cZ h a u ++ wO cJ o f)) 380 [(0, .ref b), (1, .ref h), (2, .ref h2), (3, .ref o), (4, .int (nI i))] [] := by
  obtain ⟨nd, nn, ⟨hnd, hd⟩, ⟨hnn, hn⟩, hlk, hmd, hmn⟩ := hWF u v hR
  have K0 : ∀ (u v : SX) (f : Nat → Int64), RR u v → ZW E (zGL b L xs) room_1 cL_law RL wsL_law 7 D [(cI, .int), (cZ, .boolean), (cI2, .int), (cZ2, .boolean), (cJ, .long)] cn sn (wX1 cI2 cZ2 h2 a2 v ++ (wX0 cI cZ h a u ++ wO cJ o f)) 1497 [(0, .ref b), (1, .ref h), (2, .ref h2), (3, .ref o), (4, .int (nI i))] [] := fun u v f h => z_widen (by omega) (by omega) (K u v f h)
  refine z_aload_n 1 dL_law_380 rfl ?_
  refine z_aload_n 0 dL_law_381 rfl ?_
  refine z_iload 4 dL_law_382 rfl ?_
  refine z_iconst (v := 1) dL_law_384 rfl ?_
  refine z_iadd dL_law_385 ?_
  refine z_sld (v := (xs (i + 1))) (zsin (c := 1) (j := 1) rfl hi (by decide) hL).1 (by rw [(zsin (c := 1) (j := 1) rfl hi (by decide) hL).2]) dL_law_386 ?_
  refine z_aload_n 0 dL_law_387 rfl ?_
  refine z_iload 4 dL_law_388 rfl ?_
  refine z_iconst (v := 2) dL_law_390 rfl ?_
  refine z_iadd dL_law_391 ?_
  refine z_sld (v := (xs (i + 2))) (zsin (c := 2) (j := 2) rfl hi (by decide) hL).1 (by rw [(zsin (c := 2) (j := 2) rfl hi (by decide) hL).2]) dL_law_392 ?_
  refine z_aload_n 0 dL_law_393 rfl ?_
  refine z_iload 4 dL_law_394 rfl ?_
  refine z_iconst (v := 3) dL_law_396 rfl ?_
  refine z_iadd dL_law_397 ?_
  refine z_sld (v := (xs (i + 3))) (zsin (c := 3) (j := 3) rfl hi (by decide) hL).1 (by rw [(zsin (c := 3) (j := 3) rfl hi (by decide) hL).2]) dL_law_398 ?_
  refine z_aload_n 3 dL_law_399 rfl ?_
  rcases hD u v hR (xs (i + 1)) (xs (i + 2)) (xs (i + 3))  with ⟨he, h0, hr, hRn⟩ | ⟨he, h0, hRn⟩
  ·
    refine z_callWi_fr (As := [.ref h, .int (xs (i + 1)), .int (xs (i + 2)), .int (xs (i + 3)), .ref o]) (st := []) (wX1 cI2 cZ2 h2 a2 v) [] (fun l _ => kn_setQuiet l D cI cZ cJ h a o u f (xs (i + 1)) (xs (i + 2)) (xs (i + 3)) he nd hnd hd nn hnn hn) zGok_TT (fun _ _ _ => trivial) (fun s args hts => vx_cwSW 5 hts gL_law_L_setQuiet rfl rfl rfl (by decide +kernel) ⟨Nat.le_of_ble_eq_true rfl, Nat.le_of_ble_eq_true rfl⟩) [0, 1, 4] rfl rfl rfl (Nat.le_of_ble_eq_true rfl) ⟨by show _ ≤ 1064; omega, by show _ ≤ 9936; omega⟩ dL_law_400 rfl (fun r u2 hp => ?_)
    obtain ⟨u3, f3⟩ := u2
    obtain ⟨rfl, hS, hf⟩ := hp
    have hS : u3 = (s_X0_setQuiet u (xs (i + 1)) (xs (i + 2)) (xs (i + 3))) := hS
    subst hS
    refine z_eqw (w' := (wX1 cI2 cZ2 h2 a2 v ++ (wX0 cI cZ h a (s_X0_setQuiet u (xs (i + 1)) (xs (i + 2)) (xs (i + 3))) ++ wO cJ o f3))) rfl ?_
    refine z_istore (L' := [(5, .int 0), (0, .ref b), (1, .ref h), (2, .ref h2), (3, .ref o), (4, .int (nI i))]) dL_law_403 (by decide) rfl ?_
    refine z_aload_n 3 dL_law_405 rfl ?_
    refine z_aload_n 1 dL_law_406 rfl ?_
    refine z_iload 5 dL_law_407 rfl ?_
    refine z_iconst (v := 1) dL_law_409 rfl ?_
    refine z_iadd dL_law_410 ?_
    refine z_sld (v := (xs (i + 1))) (zsin (c := 1) (j := 1) rfl hi (by decide) hL).1 (by rw [(zsin (c := 1) (j := 1) rfl hi (by decide) hL).2]) dL_law_411 ?_
    refine z_aload_n 1 dL_law_412 rfl ?_
    refine z_iload 5 dL_law_413 rfl ?_
    refine z_iconst (v := 2) dL_law_415 rfl ?_
    refine z_iadd dL_law_416 ?_
    refine z_sld (v := (xs (i + 2))) (zsin (c := 2) (j := 2) rfl hi (by decide) hL).1 (by rw [(zsin (c := 2) (j := 2) rfl hi (by decide) hL).2]) dL_law_417 ?_
    refine z_aload_n 1 dL_law_418 rfl ?_
    refine z_iload 5 dL_law_419 rfl ?_
    refine z_iconst (v := 3) dL_law_421 rfl ?_
    refine z_iadd dL_law_422 ?_
    refine z_sld (v := (xs (i + 3))) (zsin (c := 3) (j := 3) rfl hi (by decide) hL).1 (by rw [(zsin (c := 3) (j := 3) rfl hi (by decide) hL).2]) dL_law_423 ?_
    refine z_callVi_fr (As := [.int (xs (i + 1)), .int (xs (i + 2)), .int (xs (i + 3))]) (st := []) [] (wX0 cI cZ h a (s_X0_setQuiet u (xs (i + 1)) (xs (i + 2)) (xs (i + 3))) ++ wO cJ o f3) (fun l => c_X1_setQuiet l D cI2 cZ2 h2 a2 v (xs (i + 1)) (xs (i + 2)) (xs (i + 3)) nd hmd hd nn hmn hn) zGok_TT (fun _ _ _ => trivial) (fun s args hts => cwV 3 hts gL_law_X1_setQuiet rfl rfl rfl (by decide +kernel) ⟨Nat.le_of_ble_eq_true rfl, Nat.le_of_ble_eq_true rfl⟩) (ci := 1) rfl rfl rfl [2, 3] rfl rfl rfl (Nat.le_of_ble_eq_true rfl) ⟨by show _ ≤ 1064; omega, by show _ ≤ 9936; omega⟩ dL_law_424 rfl (fun r u2 hp => ?_)
    obtain ⟨rfl, rfl⟩ := hp
    refine z_istore (L' := [(6, .int (r_X1_setQuiet v (xs (i + 1)) (xs (i + 2)) (xs (i + 3)))), (5, .int 0), (0, .ref b), (1, .ref h), (2, .ref h2), (3, .ref o), (4, .int (nI i))]) dL_law_427 (by decide) rfl ?_
    refine z_aload_n 4 dL_law_429 rfl ?_
    refine z_callVi_fr (As := []) (st := []) [] (wX0 cI cZ h a (s_X0_setQuiet u (xs (i + 1)) (xs (i + 2)) (xs (i + 3))) ++ wO cJ o f3) (fun l => c_X1_thrown l D cI2 cZ2 h2 a2 (s_X1_setQuiet v (xs (i + 1)) (xs (i + 2)) (xs (i + 3)))  ) zGok_TT (fun _ _ _ => trivial) (fun s args hts => cwV 0 hts gL_law_X1_thrown rfl rfl rfl (by decide +kernel) ⟨Nat.le_of_ble_eq_true rfl, Nat.le_of_ble_eq_true rfl⟩) (ci := 1) rfl rfl rfl [2, 3] rfl rfl rfl (Nat.le_of_ble_eq_true rfl) ⟨by show _ ≤ 1064; omega, by show _ ≤ 9936; omega⟩ dL_law_430 rfl (fun r u2 hp => ?_)
    subst hp
    refine z_iload 1 dL_law_433 rfl ?_
    refine z_icmp_eq 440 dL_law_435 (by decide) (fun _ => ?_) (fun q => absurd h0 q)
    refine z_iload 1 dL_law_440 rfl ?_
    refine z_if_ne 457 dL_law_442 (by decide) (fun q => absurd q (by decide)) (fun _ => ?_)
    refine z_aload_n 5 dL_law_445 rfl ?_
    refine z_iconst (v := 0) dL_law_446 rfl ?_
    refine z_lald (v := (f3 0)) 31 4 rfl rfl zin01 rfl dL_law_447 ?_
    refine z_iload 0 dL_law_448 rfl ?_
    refine z_i2l (v := ((r_X1_setQuiet v (xs (i + 1)) (xs (i + 2)) (xs (i + 3)))).toInt64) dL_law_450 rfl ?_
    refine z_lcmpeq 457 (by rw [show f3 0 = _ from hf, hr]) dL_law_451 dL_law_452 (by decide) ?_
    refine z_goto 1497 dL_law_457 (by decide) ?_
    refine z_sub (L' := [(0, .ref b), (1, .ref h), (2, .ref h2), (3, .ref o), (4, .int (nI i))]) [2, 3, 4, 5, 6] rfl ?_
    exact K0 (s_X0_setQuiet u (xs (i + 1)) (xs (i + 2)) (xs (i + 3))) (s_X1_setQuiet v (xs (i + 1)) (xs (i + 2)) (xs (i + 3))) f3 hRn
  ·
    refine z_callWi_fr (As := [.ref h, .int (xs (i + 1)), .int (xs (i + 2)), .int (xs (i + 3)), .ref o]) (st := []) (wX1 cI2 cZ2 h2 a2 v) [] (fun l hl9 => kx_setQuiet l (by rw [hl9]; exact hlt) D cI cZ cJ h a o u f (xs (i + 1)) (xs (i + 2)) (xs (i + 3)) he nd hnd hd nn hnn hn) zGok_U (fun _ _ q => q.1) (fun s args hts => vx_cwSW 5 hts gL_law_L_setQuiet rfl rfl rfl (by decide +kernel) ⟨Nat.le_of_ble_eq_true rfl, Nat.le_of_ble_eq_true rfl⟩) [0, 1, 4] rfl rfl rfl (Nat.le_of_ble_eq_true rfl) ⟨by show _ ≤ 1064; omega, by show _ ≤ 9936; omega⟩ dL_law_400 rfl (fun r u2 hp => ?_)
    subst hp
    refine z_eqw (w' := (wX1 cI2 cZ2 h2 a2 v ++ (wX0 cI cZ h a u ++ wO cJ o f))) rfl ?_
    refine z_istore (L' := [(5, .int (if e_X0_setQuiet u (xs (i + 1)) (xs (i + 2)) (xs (i + 3)) = 3 then 1 else 2)), (0, .ref b), (1, .ref h), (2, .ref h2), (3, .ref o), (4, .int (nI i))]) dL_law_403 (by decide) rfl ?_
    refine z_aload_n 3 dL_law_405 rfl ?_
    refine z_aload_n 1 dL_law_406 rfl ?_
    refine z_iload 5 dL_law_407 rfl ?_
    refine z_iconst (v := 1) dL_law_409 rfl ?_
    refine z_iadd dL_law_410 ?_
    refine z_sld (v := (xs (i + 1))) (zsin (c := 1) (j := 1) rfl hi (by decide) hL).1 (by rw [(zsin (c := 1) (j := 1) rfl hi (by decide) hL).2]) dL_law_411 ?_
    refine z_aload_n 1 dL_law_412 rfl ?_
    refine z_iload 5 dL_law_413 rfl ?_
    refine z_iconst (v := 2) dL_law_415 rfl ?_
    refine z_iadd dL_law_416 ?_
    refine z_sld (v := (xs (i + 2))) (zsin (c := 2) (j := 2) rfl hi (by decide) hL).1 (by rw [(zsin (c := 2) (j := 2) rfl hi (by decide) hL).2]) dL_law_417 ?_
    refine z_aload_n 1 dL_law_418 rfl ?_
    refine z_iload 5 dL_law_419 rfl ?_
    refine z_iconst (v := 3) dL_law_421 rfl ?_
    refine z_iadd dL_law_422 ?_
    refine z_sld (v := (xs (i + 3))) (zsin (c := 3) (j := 3) rfl hi (by decide) hL).1 (by rw [(zsin (c := 3) (j := 3) rfl hi (by decide) hL).2]) dL_law_423 ?_
    refine z_callVi_fr (As := [.int (xs (i + 1)), .int (xs (i + 2)), .int (xs (i + 3))]) (st := []) [] (wX0 cI cZ h a u ++ wO cJ o f) (fun l => c_X1_setQuiet l D cI2 cZ2 h2 a2 v (xs (i + 1)) (xs (i + 2)) (xs (i + 3)) nd hmd hd nn hmn hn) zGok_TT (fun _ _ _ => trivial) (fun s args hts => cwV 3 hts gL_law_X1_setQuiet rfl rfl rfl (by decide +kernel) ⟨Nat.le_of_ble_eq_true rfl, Nat.le_of_ble_eq_true rfl⟩) (ci := 1) rfl rfl rfl [2, 3] rfl rfl rfl (Nat.le_of_ble_eq_true rfl) ⟨by show _ ≤ 1064; omega, by show _ ≤ 9936; omega⟩ dL_law_424 rfl (fun r u2 hp => ?_)
    obtain ⟨rfl, rfl⟩ := hp
    refine z_istore (L' := [(6, .int (r_X1_setQuiet v (xs (i + 1)) (xs (i + 2)) (xs (i + 3)))), (5, .int (if e_X0_setQuiet u (xs (i + 1)) (xs (i + 2)) (xs (i + 3)) = 3 then 1 else 2)), (0, .ref b), (1, .ref h), (2, .ref h2), (3, .ref o), (4, .int (nI i))]) dL_law_427 (by decide) rfl ?_
    refine z_aload_n 4 dL_law_429 rfl ?_
    refine z_callVi_fr (As := []) (st := []) [] (wX0 cI cZ h a u ++ wO cJ o f) (fun l => c_X1_thrown l D cI2 cZ2 h2 a2 (s_X1_setQuiet v (xs (i + 1)) (xs (i + 2)) (xs (i + 3)))  ) zGok_TT (fun _ _ _ => trivial) (fun s args hts => cwV 0 hts gL_law_X1_thrown rfl rfl rfl (by decide +kernel) ⟨Nat.le_of_ble_eq_true rfl, Nat.le_of_ble_eq_true rfl⟩) (ci := 1) rfl rfl rfl [2, 3] rfl rfl rfl (Nat.le_of_ble_eq_true rfl) ⟨by show _ ≤ 1064; omega, by show _ ≤ 9936; omega⟩ dL_law_430 rfl (fun r u2 hp => ?_)
    subst hp
    refine z_iload 1 dL_law_433 rfl ?_
    refine z_icmp_eq 440 dL_law_435 (by decide) (fun _ => ?_) (fun q => absurd h0 q)
    refine z_iload 1 dL_law_440 rfl ?_
    refine z_if_ne 457 dL_law_442 (by decide) (fun _ => ?_) (fun q => absurd q (by split <;> decide))
    refine z_goto 1497 dL_law_457 (by decide) ?_
    refine z_sub (L' := [(0, .ref b), (1, .ref h), (2, .ref h2), (3, .ref o), (4, .int (nI i))]) [2, 3, 4, 5, 6] rfl ?_
    exact K u (s_X1_setQuiet v (xs (i + 1)) (xs (i + 2)) (xs (i + 3))) f hRn
set_option maxHeartbeats 8000000 in
set_option maxRecDepth 100000 in
theorem law_join (E : ZE) (hlt : E.2.1.stackTraces = false) (b L : Nat) (xs : Nat → Int32) (D : va_G) (cI cZ cI2 cZ2 cJ : ClassId) (h h2 o : Nat) (a a2 : Nat → Nat) (hL : L ≤ 3072) (RR : SX → SX → Prop) (hWF : ∀ u v, RR u v → zWF u v) (hD : zD_join RR) (i : Nat) (hi : i + 6 ≤ L) (u v : SX) (f : Nat → Int64) (cn sn : Nat) (hc1 : cn + 1 ≤ 1064) (hc2 : sn + 6 ≤ 9936) (hR : RR u v)
    (K : ∀ (u v : SX) (f : Nat → Int64), RR u v → ZW E (zGL b L xs) room_1 cL_law RL wsL_law 7 D [(cI, .int), (cZ, .boolean), (cI2, .int), (cZ2, .boolean), (cJ, .long)] (cn + 1) (sn + 6) (wX1 cI2 cZ2 h2 a2 v ++ (wX0 cI cZ h a u ++ wO cJ o f)) 1497 [(0, .ref b), (1, .ref h), (2, .ref h2), (3, .ref o), (4, .int (nI i))] []) : ZW E (zGL b L xs) room_1 cL_law RL wsL_law 7 D [(cI, .int), (cZ, .boolean), (cI2, .int), (cZ2, .boolean), (cJ, .long)] cn sn (wX1 cI2 cZ2 h2 a2 v ++ (wX0 cI cZ h a u ++ wO cJ o f)) 460 [(0, .ref b), (1, .ref h), (2, .ref h2), (3, .ref o), (4, .int (nI i))] [] := by
  obtain ⟨nd, nn, ⟨hnd, hd⟩, ⟨hnn, hn⟩, hlk, hmd, hmn⟩ := hWF u v hR
  have K0 : ∀ (u v : SX) (f : Nat → Int64), RR u v → ZW E (zGL b L xs) room_1 cL_law RL wsL_law 7 D [(cI, .int), (cZ, .boolean), (cI2, .int), (cZ2, .boolean), (cJ, .long)] cn sn (wX1 cI2 cZ2 h2 a2 v ++ (wX0 cI cZ h a u ++ wO cJ o f)) 1497 [(0, .ref b), (1, .ref h), (2, .ref h2), (3, .ref o), (4, .int (nI i))] [] := fun u v f h => z_widen (by omega) (by omega) (K u v f h)
  refine z_aload_n 1 dL_law_460 rfl ?_
  refine z_aload_n 0 dL_law_461 rfl ?_
  refine z_iload 4 dL_law_462 rfl ?_
  refine z_iconst (v := 1) dL_law_464 rfl ?_
  refine z_iadd dL_law_465 ?_
  refine z_sld (v := (xs (i + 1))) (zsin (c := 1) (j := 1) rfl hi (by decide) hL).1 (by rw [(zsin (c := 1) (j := 1) rfl hi (by decide) hL).2]) dL_law_466 ?_
  refine z_aload_n 0 dL_law_467 rfl ?_
  refine z_iload 4 dL_law_468 rfl ?_
  refine z_iconst (v := 2) dL_law_470 rfl ?_
  refine z_iadd dL_law_471 ?_
  refine z_sld (v := (xs (i + 2))) (zsin (c := 2) (j := 2) rfl hi (by decide) hL).1 (by rw [(zsin (c := 2) (j := 2) rfl hi (by decide) hL).2]) dL_law_472 ?_
  refine z_aload_n 0 dL_law_473 rfl ?_
  refine z_iload 4 dL_law_474 rfl ?_
  refine z_iconst (v := 3) dL_law_476 rfl ?_
  refine z_iadd dL_law_477 ?_
  refine z_sld (v := (xs (i + 3))) (zsin (c := 3) (j := 3) rfl hi (by decide) hL).1 (by rw [(zsin (c := 3) (j := 3) rfl hi (by decide) hL).2]) dL_law_478 ?_
  refine z_if_eq 486 dL_law_479 (by decide) (fun c1 => ?_) (fun c1 => ?_)
  ·
    refine z_iconst (v := 0) dL_law_486 rfl ?_
    refine z_aload_n 3 dL_law_487 rfl ?_
    rcases hD u v hR (xs (i + 1)) (xs (i + 2)) 0 (Or.inl rfl) with ⟨he, h0, hr, hRn⟩ | ⟨he, h0, hRn⟩
    ·
      refine z_callWi_fr (As := [.ref h, .int (xs (i + 1)), .int (xs (i + 2)), .int 0, .ref o]) (st := []) (wX1 cI2 cZ2 h2 a2 v) [] (fun l _ => kn_join l D cI cZ cJ h a o u f (xs (i + 1)) (xs (i + 2)) 0 he nd hnd hd) zGok_TT (fun _ _ _ => trivial) (fun s args hts => vx_cwSW 5 hts gL_law_L_join rfl rfl rfl (by decide +kernel) ⟨Nat.le_of_ble_eq_true rfl, Nat.le_of_ble_eq_true rfl⟩) [0, 1, 4] rfl rfl rfl (Nat.le_of_ble_eq_true rfl) ⟨by show _ ≤ 1064; omega, by show _ ≤ 9936; omega⟩ dL_law_488 rfl (fun r u2 hp => ?_)
      obtain ⟨u3, f3⟩ := u2
      obtain ⟨rfl, hS, hf⟩ := hp
      have hS : u3 = (s_X0_join u (xs (i + 1)) (xs (i + 2)) 0) := hS
      subst hS
      refine z_eqw (w' := (wX1 cI2 cZ2 h2 a2 v ++ (wX0 cI cZ h a (s_X0_join u (xs (i + 1)) (xs (i + 2)) 0) ++ wO cJ o f3))) rfl ?_
      refine z_istore (L' := [(5, .int 0), (0, .ref b), (1, .ref h), (2, .ref h2), (3, .ref o), (4, .int (nI i))]) dL_law_491 (by decide) rfl ?_
      refine z_aload_n 3 dL_law_493 rfl ?_
      refine z_aload_n 1 dL_law_494 rfl ?_
      refine z_iload 5 dL_law_495 rfl ?_
      refine z_iconst (v := 1) dL_law_497 rfl ?_
      refine z_iadd dL_law_498 ?_
      refine z_sld (v := (xs (i + 1))) (zsin (c := 1) (j := 1) rfl hi (by decide) hL).1 (by rw [(zsin (c := 1) (j := 1) rfl hi (by decide) hL).2]) dL_law_499 ?_
      refine z_aload_n 1 dL_law_500 rfl ?_
      refine z_iload 5 dL_law_501 rfl ?_
      refine z_iconst (v := 2) dL_law_503 rfl ?_
      refine z_iadd dL_law_504 ?_
      refine z_sld (v := (xs (i + 2))) (zsin (c := 2) (j := 2) rfl hi (by decide) hL).1 (by rw [(zsin (c := 2) (j := 2) rfl hi (by decide) hL).2]) dL_law_505 ?_
      refine z_aload_n 1 dL_law_506 rfl ?_
      refine z_iload 5 dL_law_507 rfl ?_
      refine z_iconst (v := 3) dL_law_509 rfl ?_
      refine z_iadd dL_law_510 ?_
      refine z_sld (v := (xs (i + 3))) (zsin (c := 3) (j := 3) rfl hi (by decide) hL).1 (by rw [(zsin (c := 3) (j := 3) rfl hi (by decide) hL).2]) dL_law_511 ?_
      refine z_if_eq 519 dL_law_512 (by decide) (fun _ => ?_) (fun q => absurd c1 q)
      refine z_iconst (v := 0) dL_law_519 rfl ?_
      refine z_callVi_fr (As := [.int (xs (i + 1)), .int (xs (i + 2)), .int 0]) (st := []) [] (wX0 cI cZ h a (s_X0_join u (xs (i + 1)) (xs (i + 2)) 0) ++ wO cJ o f3) (fun l => c_X1_join l D cI2 cZ2 h2 a2 v (xs (i + 1)) (xs (i + 2)) 0 nd hmd hd) zGok_TT (fun _ _ _ => trivial) (fun s args hts => cwV 3 hts gL_law_X1_join rfl rfl rfl (by decide +kernel) ⟨Nat.le_of_ble_eq_true rfl, Nat.le_of_ble_eq_true rfl⟩) (ci := 1) rfl rfl rfl [2, 3] rfl rfl rfl (Nat.le_of_ble_eq_true rfl) ⟨by show _ ≤ 1064; omega, by show _ ≤ 9936; omega⟩ dL_law_520 rfl (fun r u2 hp => ?_)
      obtain ⟨rfl, rfl⟩ := hp
      refine z_istore (L' := [(6, .int (r_X1_join v (xs (i + 1)) (xs (i + 2)) 0)), (5, .int 0), (0, .ref b), (1, .ref h), (2, .ref h2), (3, .ref o), (4, .int (nI i))]) dL_law_523 (by decide) rfl ?_
      refine z_aload_n 4 dL_law_525 rfl ?_
      refine z_callVi_fr (As := []) (st := []) [] (wX0 cI cZ h a (s_X0_join u (xs (i + 1)) (xs (i + 2)) 0) ++ wO cJ o f3) (fun l => c_X1_thrown l D cI2 cZ2 h2 a2 (s_X1_join v (xs (i + 1)) (xs (i + 2)) 0)  ) zGok_TT (fun _ _ _ => trivial) (fun s args hts => cwV 0 hts gL_law_X1_thrown rfl rfl rfl (by decide +kernel) ⟨Nat.le_of_ble_eq_true rfl, Nat.le_of_ble_eq_true rfl⟩) (ci := 1) rfl rfl rfl [2, 3] rfl rfl rfl (Nat.le_of_ble_eq_true rfl) ⟨by show _ ≤ 1064; omega, by show _ ≤ 9936; omega⟩ dL_law_526 rfl (fun r u2 hp => ?_)
      subst hp
      refine z_iload 1 dL_law_529 rfl ?_
      refine z_icmp_eq 536 dL_law_531 (by decide) (fun _ => ?_) (fun q => absurd h0 q)
      refine z_iload 1 dL_law_536 rfl ?_
      refine z_if_ne 560 dL_law_538 (by decide) (fun q => absurd q (by decide)) (fun _ => ?_)
      refine z_aload_n 5 dL_law_541 rfl ?_
      refine z_iconst (v := 0) dL_law_542 rfl ?_
      refine z_lald (v := (f3 0)) 31 4 rfl rfl zin01 rfl dL_law_543 ?_
      refine z_iload 0 dL_law_544 rfl ?_
      refine z_if_eq 553 dL_law_546 (by decide) (fun c2 => ?_) (fun c2 => ?_)
      ·
        refine z_lconst (v := 0) dL_law_553 rfl ?_
        refine z_lcmpeq 560 (by rw [show f3 0 = _ from hf, hr, if_pos c2]) dL_law_554 dL_law_555 (by decide) ?_
        refine z_goto 1497 dL_law_560 (by decide) ?_
        refine z_sub (L' := [(0, .ref b), (1, .ref h), (2, .ref h2), (3, .ref o), (4, .int (nI i))]) [2, 3, 4, 5, 6] rfl ?_
        exact K0 (s_X0_join u (xs (i + 1)) (xs (i + 2)) 0) (s_X1_join v (xs (i + 1)) (xs (i + 2)) 0) f3 hRn
      ·
        refine z_lconst (v := 1) dL_law_549 rfl ?_
        refine z_goto 554 dL_law_550 (by decide) ?_
        refine z_lcmpeq 560 (by rw [show f3 0 = _ from hf, hr, if_neg c2]) dL_law_554 dL_law_555 (by decide) ?_
        refine z_goto 1497 dL_law_560 (by decide) ?_
        refine z_sub (L' := [(0, .ref b), (1, .ref h), (2, .ref h2), (3, .ref o), (4, .int (nI i))]) [2, 3, 4, 5, 6] rfl ?_
        exact K0 (s_X0_join u (xs (i + 1)) (xs (i + 2)) 0) (s_X1_join v (xs (i + 1)) (xs (i + 2)) 0) f3 hRn
    ·
      refine z_callWi_fr (As := [.ref h, .int (xs (i + 1)), .int (xs (i + 2)), .int 0, .ref o]) (st := []) (wX1 cI2 cZ2 h2 a2 v) [] (fun l hl9 => kx_join l (by rw [hl9]; exact hlt) D cI cZ cJ h a o u f (xs (i + 1)) (xs (i + 2)) 0 he nd hnd hd) zGok_U (fun _ _ q => q.1) (fun s args hts => vx_cwSW 5 hts gL_law_L_join rfl rfl rfl (by decide +kernel) ⟨Nat.le_of_ble_eq_true rfl, Nat.le_of_ble_eq_true rfl⟩) [0, 1, 4] rfl rfl rfl (Nat.le_of_ble_eq_true rfl) ⟨by show _ ≤ 1064; omega, by show _ ≤ 9936; omega⟩ dL_law_488 rfl (fun r u2 hp => ?_)
      subst hp
      refine z_eqw (w' := (wX1 cI2 cZ2 h2 a2 v ++ (wX0 cI cZ h a u ++ wO cJ o f))) rfl ?_
      refine z_istore (L' := [(5, .int (if e_X0_join u (xs (i + 1)) (xs (i + 2)) 0 = 3 then 1 else 2)), (0, .ref b), (1, .ref h), (2, .ref h2), (3, .ref o), (4, .int (nI i))]) dL_law_491 (by decide) rfl ?_
      refine z_aload_n 3 dL_law_493 rfl ?_
      refine z_aload_n 1 dL_law_494 rfl ?_
      refine z_iload 5 dL_law_495 rfl ?_
      refine z_iconst (v := 1) dL_law_497 rfl ?_
      refine z_iadd dL_law_498 ?_
      refine z_sld (v := (xs (i + 1))) (zsin (c := 1) (j := 1) rfl hi (by decide) hL).1 (by rw [(zsin (c := 1) (j := 1) rfl hi (by decide) hL).2]) dL_law_499 ?_
      refine z_aload_n 1 dL_law_500 rfl ?_
      refine z_iload 5 dL_law_501 rfl ?_
      refine z_iconst (v := 2) dL_law_503 rfl ?_
      refine z_iadd dL_law_504 ?_
      refine z_sld (v := (xs (i + 2))) (zsin (c := 2) (j := 2) rfl hi (by decide) hL).1 (by rw [(zsin (c := 2) (j := 2) rfl hi (by decide) hL).2]) dL_law_505 ?_
      refine z_aload_n 1 dL_law_506 rfl ?_
      refine z_iload 5 dL_law_507 rfl ?_
      refine z_iconst (v := 3) dL_law_509 rfl ?_
      refine z_iadd dL_law_510 ?_
      refine z_sld (v := (xs (i + 3))) (zsin (c := 3) (j := 3) rfl hi (by decide) hL).1 (by rw [(zsin (c := 3) (j := 3) rfl hi (by decide) hL).2]) dL_law_511 ?_
      refine z_if_eq 519 dL_law_512 (by decide) (fun _ => ?_) (fun q => absurd c1 q)
      refine z_iconst (v := 0) dL_law_519 rfl ?_
      refine z_callVi_fr (As := [.int (xs (i + 1)), .int (xs (i + 2)), .int 0]) (st := []) [] (wX0 cI cZ h a u ++ wO cJ o f) (fun l => c_X1_join l D cI2 cZ2 h2 a2 v (xs (i + 1)) (xs (i + 2)) 0 nd hmd hd) zGok_TT (fun _ _ _ => trivial) (fun s args hts => cwV 3 hts gL_law_X1_join rfl rfl rfl (by decide +kernel) ⟨Nat.le_of_ble_eq_true rfl, Nat.le_of_ble_eq_true rfl⟩) (ci := 1) rfl rfl rfl [2, 3] rfl rfl rfl (Nat.le_of_ble_eq_true rfl) ⟨by show _ ≤ 1064; omega, by show _ ≤ 9936; omega⟩ dL_law_520 rfl (fun r u2 hp => ?_)
      obtain ⟨rfl, rfl⟩ := hp
      refine z_istore (L' := [(6, .int (r_X1_join v (xs (i + 1)) (xs (i + 2)) 0)), (5, .int (if e_X0_join u (xs (i + 1)) (xs (i + 2)) 0 = 3 then 1 else 2)), (0, .ref b), (1, .ref h), (2, .ref h2), (3, .ref o), (4, .int (nI i))]) dL_law_523 (by decide) rfl ?_
      refine z_aload_n 4 dL_law_525 rfl ?_
      refine z_callVi_fr (As := []) (st := []) [] (wX0 cI cZ h a u ++ wO cJ o f) (fun l => c_X1_thrown l D cI2 cZ2 h2 a2 (s_X1_join v (xs (i + 1)) (xs (i + 2)) 0)  ) zGok_TT (fun _ _ _ => trivial) (fun s args hts => cwV 0 hts gL_law_X1_thrown rfl rfl rfl (by decide +kernel) ⟨Nat.le_of_ble_eq_true rfl, Nat.le_of_ble_eq_true rfl⟩) (ci := 1) rfl rfl rfl [2, 3] rfl rfl rfl (Nat.le_of_ble_eq_true rfl) ⟨by show _ ≤ 1064; omega, by show _ ≤ 9936; omega⟩ dL_law_526 rfl (fun r u2 hp => ?_)
      subst hp
      refine z_iload 1 dL_law_529 rfl ?_
      refine z_icmp_eq 536 dL_law_531 (by decide) (fun _ => ?_) (fun q => absurd h0 q)
      refine z_iload 1 dL_law_536 rfl ?_
      refine z_if_ne 560 dL_law_538 (by decide) (fun _ => ?_) (fun q => absurd q (by split <;> decide))
      refine z_goto 1497 dL_law_560 (by decide) ?_
      refine z_sub (L' := [(0, .ref b), (1, .ref h), (2, .ref h2), (3, .ref o), (4, .int (nI i))]) [2, 3, 4, 5, 6] rfl ?_
      exact K u (s_X1_join v (xs (i + 1)) (xs (i + 2)) 0) f hRn
  ·
    refine z_iconst (v := 1) dL_law_482 rfl ?_
    refine z_goto 487 dL_law_483 (by decide) ?_
    refine z_aload_n 3 dL_law_487 rfl ?_
    rcases hD u v hR (xs (i + 1)) (xs (i + 2)) 1 (Or.inr rfl) with ⟨he, h0, hr, hRn⟩ | ⟨he, h0, hRn⟩
    ·
      refine z_callWi_fr (As := [.ref h, .int (xs (i + 1)), .int (xs (i + 2)), .int 1, .ref o]) (st := []) (wX1 cI2 cZ2 h2 a2 v) [] (fun l _ => kn_join l D cI cZ cJ h a o u f (xs (i + 1)) (xs (i + 2)) 1 he nd hnd hd) zGok_TT (fun _ _ _ => trivial) (fun s args hts => vx_cwSW 5 hts gL_law_L_join rfl rfl rfl (by decide +kernel) ⟨Nat.le_of_ble_eq_true rfl, Nat.le_of_ble_eq_true rfl⟩) [0, 1, 4] rfl rfl rfl (Nat.le_of_ble_eq_true rfl) ⟨by show _ ≤ 1064; omega, by show _ ≤ 9936; omega⟩ dL_law_488 rfl (fun r u2 hp => ?_)
      obtain ⟨u3, f3⟩ := u2
      obtain ⟨rfl, hS, hf⟩ := hp
      have hS : u3 = (s_X0_join u (xs (i + 1)) (xs (i + 2)) 1) := hS
      subst hS
      refine z_eqw (w' := (wX1 cI2 cZ2 h2 a2 v ++ (wX0 cI cZ h a (s_X0_join u (xs (i + 1)) (xs (i + 2)) 1) ++ wO cJ o f3))) rfl ?_
      refine z_istore (L' := [(5, .int 0), (0, .ref b), (1, .ref h), (2, .ref h2), (3, .ref o), (4, .int (nI i))]) dL_law_491 (by decide) rfl ?_
      refine z_aload_n 3 dL_law_493 rfl ?_
      refine z_aload_n 1 dL_law_494 rfl ?_
      refine z_iload 5 dL_law_495 rfl ?_
      refine z_iconst (v := 1) dL_law_497 rfl ?_
      refine z_iadd dL_law_498 ?_
      refine z_sld (v := (xs (i + 1))) (zsin (c := 1) (j := 1) rfl hi (by decide) hL).1 (by rw [(zsin (c := 1) (j := 1) rfl hi (by decide) hL).2]) dL_law_499 ?_
      refine z_aload_n 1 dL_law_500 rfl ?_
      refine z_iload 5 dL_law_501 rfl ?_
      refine z_iconst (v := 2) dL_law_503 rfl ?_
      refine z_iadd dL_law_504 ?_
      refine z_sld (v := (xs (i + 2))) (zsin (c := 2) (j := 2) rfl hi (by decide) hL).1 (by rw [(zsin (c := 2) (j := 2) rfl hi (by decide) hL).2]) dL_law_505 ?_
      refine z_aload_n 1 dL_law_506 rfl ?_
      refine z_iload 5 dL_law_507 rfl ?_
      refine z_iconst (v := 3) dL_law_509 rfl ?_
      refine z_iadd dL_law_510 ?_
      refine z_sld (v := (xs (i + 3))) (zsin (c := 3) (j := 3) rfl hi (by decide) hL).1 (by rw [(zsin (c := 3) (j := 3) rfl hi (by decide) hL).2]) dL_law_511 ?_
      refine z_if_eq 519 dL_law_512 (by decide) (fun q => absurd q c1) (fun _ => ?_)
      refine z_iconst (v := 1) dL_law_515 rfl ?_
      refine z_goto 520 dL_law_516 (by decide) ?_
      refine z_callVi_fr (As := [.int (xs (i + 1)), .int (xs (i + 2)), .int 1]) (st := []) [] (wX0 cI cZ h a (s_X0_join u (xs (i + 1)) (xs (i + 2)) 1) ++ wO cJ o f3) (fun l => c_X1_join l D cI2 cZ2 h2 a2 v (xs (i + 1)) (xs (i + 2)) 1 nd hmd hd) zGok_TT (fun _ _ _ => trivial) (fun s args hts => cwV 3 hts gL_law_X1_join rfl rfl rfl (by decide +kernel) ⟨Nat.le_of_ble_eq_true rfl, Nat.le_of_ble_eq_true rfl⟩) (ci := 1) rfl rfl rfl [2, 3] rfl rfl rfl (Nat.le_of_ble_eq_true rfl) ⟨by show _ ≤ 1064; omega, by show _ ≤ 9936; omega⟩ dL_law_520 rfl (fun r u2 hp => ?_)
      obtain ⟨rfl, rfl⟩ := hp
      refine z_istore (L' := [(6, .int (r_X1_join v (xs (i + 1)) (xs (i + 2)) 1)), (5, .int 0), (0, .ref b), (1, .ref h), (2, .ref h2), (3, .ref o), (4, .int (nI i))]) dL_law_523 (by decide) rfl ?_
      refine z_aload_n 4 dL_law_525 rfl ?_
      refine z_callVi_fr (As := []) (st := []) [] (wX0 cI cZ h a (s_X0_join u (xs (i + 1)) (xs (i + 2)) 1) ++ wO cJ o f3) (fun l => c_X1_thrown l D cI2 cZ2 h2 a2 (s_X1_join v (xs (i + 1)) (xs (i + 2)) 1)  ) zGok_TT (fun _ _ _ => trivial) (fun s args hts => cwV 0 hts gL_law_X1_thrown rfl rfl rfl (by decide +kernel) ⟨Nat.le_of_ble_eq_true rfl, Nat.le_of_ble_eq_true rfl⟩) (ci := 1) rfl rfl rfl [2, 3] rfl rfl rfl (Nat.le_of_ble_eq_true rfl) ⟨by show _ ≤ 1064; omega, by show _ ≤ 9936; omega⟩ dL_law_526 rfl (fun r u2 hp => ?_)
      subst hp
      refine z_iload 1 dL_law_529 rfl ?_
      refine z_icmp_eq 536 dL_law_531 (by decide) (fun _ => ?_) (fun q => absurd h0 q)
      refine z_iload 1 dL_law_536 rfl ?_
      refine z_if_ne 560 dL_law_538 (by decide) (fun q => absurd q (by decide)) (fun _ => ?_)
      refine z_aload_n 5 dL_law_541 rfl ?_
      refine z_iconst (v := 0) dL_law_542 rfl ?_
      refine z_lald (v := (f3 0)) 31 4 rfl rfl zin01 rfl dL_law_543 ?_
      refine z_iload 0 dL_law_544 rfl ?_
      refine z_if_eq 553 dL_law_546 (by decide) (fun c3 => ?_) (fun c3 => ?_)
      ·
        refine z_lconst (v := 0) dL_law_553 rfl ?_
        refine z_lcmpeq 560 (by rw [show f3 0 = _ from hf, hr, if_pos c3]) dL_law_554 dL_law_555 (by decide) ?_
        refine z_goto 1497 dL_law_560 (by decide) ?_
        refine z_sub (L' := [(0, .ref b), (1, .ref h), (2, .ref h2), (3, .ref o), (4, .int (nI i))]) [2, 3, 4, 5, 6] rfl ?_
        exact K0 (s_X0_join u (xs (i + 1)) (xs (i + 2)) 1) (s_X1_join v (xs (i + 1)) (xs (i + 2)) 1) f3 hRn
      ·
        refine z_lconst (v := 1) dL_law_549 rfl ?_
        refine z_goto 554 dL_law_550 (by decide) ?_
        refine z_lcmpeq 560 (by rw [show f3 0 = _ from hf, hr, if_neg c3]) dL_law_554 dL_law_555 (by decide) ?_
        refine z_goto 1497 dL_law_560 (by decide) ?_
        refine z_sub (L' := [(0, .ref b), (1, .ref h), (2, .ref h2), (3, .ref o), (4, .int (nI i))]) [2, 3, 4, 5, 6] rfl ?_
        exact K0 (s_X0_join u (xs (i + 1)) (xs (i + 2)) 1) (s_X1_join v (xs (i + 1)) (xs (i + 2)) 1) f3 hRn
    ·
      refine z_callWi_fr (As := [.ref h, .int (xs (i + 1)), .int (xs (i + 2)), .int 1, .ref o]) (st := []) (wX1 cI2 cZ2 h2 a2 v) [] (fun l hl9 => kx_join l (by rw [hl9]; exact hlt) D cI cZ cJ h a o u f (xs (i + 1)) (xs (i + 2)) 1 he nd hnd hd) zGok_U (fun _ _ q => q.1) (fun s args hts => vx_cwSW 5 hts gL_law_L_join rfl rfl rfl (by decide +kernel) ⟨Nat.le_of_ble_eq_true rfl, Nat.le_of_ble_eq_true rfl⟩) [0, 1, 4] rfl rfl rfl (Nat.le_of_ble_eq_true rfl) ⟨by show _ ≤ 1064; omega, by show _ ≤ 9936; omega⟩ dL_law_488 rfl (fun r u2 hp => ?_)
      subst hp
      refine z_eqw (w' := (wX1 cI2 cZ2 h2 a2 v ++ (wX0 cI cZ h a u ++ wO cJ o f))) rfl ?_
      refine z_istore (L' := [(5, .int (if e_X0_join u (xs (i + 1)) (xs (i + 2)) 1 = 3 then 1 else 2)), (0, .ref b), (1, .ref h), (2, .ref h2), (3, .ref o), (4, .int (nI i))]) dL_law_491 (by decide) rfl ?_
      refine z_aload_n 3 dL_law_493 rfl ?_
      refine z_aload_n 1 dL_law_494 rfl ?_
      refine z_iload 5 dL_law_495 rfl ?_
      refine z_iconst (v := 1) dL_law_497 rfl ?_
      refine z_iadd dL_law_498 ?_
      refine z_sld (v := (xs (i + 1))) (zsin (c := 1) (j := 1) rfl hi (by decide) hL).1 (by rw [(zsin (c := 1) (j := 1) rfl hi (by decide) hL).2]) dL_law_499 ?_
      refine z_aload_n 1 dL_law_500 rfl ?_
      refine z_iload 5 dL_law_501 rfl ?_
      refine z_iconst (v := 2) dL_law_503 rfl ?_
      refine z_iadd dL_law_504 ?_
      refine z_sld (v := (xs (i + 2))) (zsin (c := 2) (j := 2) rfl hi (by decide) hL).1 (by rw [(zsin (c := 2) (j := 2) rfl hi (by decide) hL).2]) dL_law_505 ?_
      refine z_aload_n 1 dL_law_506 rfl ?_
      refine z_iload 5 dL_law_507 rfl ?_
      refine z_iconst (v := 3) dL_law_509 rfl ?_
      refine z_iadd dL_law_510 ?_
      refine z_sld (v := (xs (i + 3))) (zsin (c := 3) (j := 3) rfl hi (by decide) hL).1 (by rw [(zsin (c := 3) (j := 3) rfl hi (by decide) hL).2]) dL_law_511 ?_
      refine z_if_eq 519 dL_law_512 (by decide) (fun q => absurd q c1) (fun _ => ?_)
      refine z_iconst (v := 1) dL_law_515 rfl ?_
      refine z_goto 520 dL_law_516 (by decide) ?_
      refine z_callVi_fr (As := [.int (xs (i + 1)), .int (xs (i + 2)), .int 1]) (st := []) [] (wX0 cI cZ h a u ++ wO cJ o f) (fun l => c_X1_join l D cI2 cZ2 h2 a2 v (xs (i + 1)) (xs (i + 2)) 1 nd hmd hd) zGok_TT (fun _ _ _ => trivial) (fun s args hts => cwV 3 hts gL_law_X1_join rfl rfl rfl (by decide +kernel) ⟨Nat.le_of_ble_eq_true rfl, Nat.le_of_ble_eq_true rfl⟩) (ci := 1) rfl rfl rfl [2, 3] rfl rfl rfl (Nat.le_of_ble_eq_true rfl) ⟨by show _ ≤ 1064; omega, by show _ ≤ 9936; omega⟩ dL_law_520 rfl (fun r u2 hp => ?_)
      obtain ⟨rfl, rfl⟩ := hp
      refine z_istore (L' := [(6, .int (r_X1_join v (xs (i + 1)) (xs (i + 2)) 1)), (5, .int (if e_X0_join u (xs (i + 1)) (xs (i + 2)) 1 = 3 then 1 else 2)), (0, .ref b), (1, .ref h), (2, .ref h2), (3, .ref o), (4, .int (nI i))]) dL_law_523 (by decide) rfl ?_
      refine z_aload_n 4 dL_law_525 rfl ?_
      refine z_callVi_fr (As := []) (st := []) [] (wX0 cI cZ h a u ++ wO cJ o f) (fun l => c_X1_thrown l D cI2 cZ2 h2 a2 (s_X1_join v (xs (i + 1)) (xs (i + 2)) 1)  ) zGok_TT (fun _ _ _ => trivial) (fun s args hts => cwV 0 hts gL_law_X1_thrown rfl rfl rfl (by decide +kernel) ⟨Nat.le_of_ble_eq_true rfl, Nat.le_of_ble_eq_true rfl⟩) (ci := 1) rfl rfl rfl [2, 3] rfl rfl rfl (Nat.le_of_ble_eq_true rfl) ⟨by show _ ≤ 1064; omega, by show _ ≤ 9936; omega⟩ dL_law_526 rfl (fun r u2 hp => ?_)
      subst hp
      refine z_iload 1 dL_law_529 rfl ?_
      refine z_icmp_eq 536 dL_law_531 (by decide) (fun _ => ?_) (fun q => absurd h0 q)
      refine z_iload 1 dL_law_536 rfl ?_
      refine z_if_ne 560 dL_law_538 (by decide) (fun _ => ?_) (fun q => absurd q (by split <;> decide))
      refine z_goto 1497 dL_law_560 (by decide) ?_
      refine z_sub (L' := [(0, .ref b), (1, .ref h), (2, .ref h2), (3, .ref o), (4, .int (nI i))]) [2, 3, 4, 5, 6] rfl ?_
      exact K u (s_X1_join v (xs (i + 1)) (xs (i + 2)) 1) f hRn
set_option maxHeartbeats 8000000 in
set_option maxRecDepth 100000 in
theorem law_kill (E : ZE) (hlt : E.2.1.stackTraces = false) (b L : Nat) (xs : Nat → Int32) (D : va_G) (cI cZ cI2 cZ2 cJ : ClassId) (h h2 o : Nat) (a a2 : Nat → Nat) (hL : L ≤ 3072) (RR : SX → SX → Prop) (hWF : ∀ u v, RR u v → zWF u v) (hD : zD_kill RR) (i : Nat) (hi : i + 6 ≤ L) (u v : SX) (f : Nat → Int64) (cn sn : Nat) (hc1 : cn + 1 ≤ 1064) (hc2 : sn + 6 ≤ 9936) (hR : RR u v)
    (K : ∀ (u v : SX) (f : Nat → Int64), RR u v → ZW E (zGL b L xs) room_1 cL_law RL wsL_law 7 D [(cI, .int), (cZ, .boolean), (cI2, .int), (cZ2, .boolean), (cJ, .long)] (cn + 1) (sn + 6) (wX1 cI2 cZ2 h2 a2 v ++ (wX0 cI cZ h a u ++ wO cJ o f)) 1497 [(0, .ref b), (1, .ref h), (2, .ref h2), (3, .ref o), (4, .int (nI i))] []) : ZW E (zGL b L xs) room_1 cL_law RL wsL_law 7 D [(cI, .int), (cZ, .boolean), (cI2, .int), (cZ2, .boolean), (cJ, .long)] cn sn (wX1 cI2 cZ2 h2 a2 v ++ (wX0 cI cZ h a u ++ wO cJ o f)) 563 [(0, .ref b), (1, .ref h), (2, .ref h2), (3, .ref o), (4, .int (nI i))] [] := by
  obtain ⟨nd, nn, ⟨hnd, hd⟩, ⟨hnn, hn⟩, hlk, hmd, hmn⟩ := hWF u v hR
  have K0 : ∀ (u v : SX) (f : Nat → Int64), RR u v → ZW E (zGL b L xs) room_1 cL_law RL wsL_law 7 D [(cI, .int), (cZ, .boolean), (cI2, .int), (cZ2, .boolean), (cJ, .long)] cn sn (wX1 cI2 cZ2 h2 a2 v ++ (wX0 cI cZ h a u ++ wO cJ o f)) 1497 [(0, .ref b), (1, .ref h), (2, .ref h2), (3, .ref o), (4, .int (nI i))] [] := fun u v f h => z_widen (by omega) (by omega) (K u v f h)
  refine z_aload_n 1 dL_law_563 rfl ?_
  refine z_aload_n 0 dL_law_564 rfl ?_
  refine z_iload 4 dL_law_565 rfl ?_
  refine z_iconst (v := 1) dL_law_567 rfl ?_
  refine z_iadd dL_law_568 ?_
  refine z_sld (v := (xs (i + 1))) (zsin (c := 1) (j := 1) rfl hi (by decide) hL).1 (by rw [(zsin (c := 1) (j := 1) rfl hi (by decide) hL).2]) dL_law_569 ?_
  refine z_aload_n 3 dL_law_570 rfl ?_
  rcases hD u v hR (xs (i + 1))  with ⟨he, h0, hr, hRn⟩ | ⟨he, h0, hRn⟩
  ·
    refine z_callWi_fr (As := [.ref h, .int (xs (i + 1)), .ref o]) (st := []) (wX1 cI2 cZ2 h2 a2 v) [] (fun l _ => kn_kill l D cI cZ cJ h a o u f (xs (i + 1)) he nd hnd hd nn hnn hn) zGok_TT (fun _ _ _ => trivial) (fun s args hts => vx_cwSW 3 hts gL_law_L_kill rfl rfl rfl (by decide +kernel) ⟨Nat.le_of_ble_eq_true rfl, Nat.le_of_ble_eq_true rfl⟩) [0, 1, 4] rfl rfl rfl (Nat.le_of_ble_eq_true rfl) ⟨by show _ ≤ 1064; omega, by show _ ≤ 9936; omega⟩ dL_law_571 rfl (fun r u2 hp => ?_)
    obtain ⟨u3, f3⟩ := u2
    obtain ⟨rfl, hS, hf⟩ := hp
    have hS : u3 = (s_X0_kill u (xs (i + 1))) := hS
    subst hS
    refine z_eqw (w' := (wX1 cI2 cZ2 h2 a2 v ++ (wX0 cI cZ h a (s_X0_kill u (xs (i + 1))) ++ wO cJ o f3))) rfl ?_
    refine z_istore (L' := [(5, .int 0), (0, .ref b), (1, .ref h), (2, .ref h2), (3, .ref o), (4, .int (nI i))]) dL_law_574 (by decide) rfl ?_
    refine z_aload_n 3 dL_law_576 rfl ?_
    refine z_aload_n 1 dL_law_577 rfl ?_
    refine z_iload 5 dL_law_578 rfl ?_
    refine z_iconst (v := 1) dL_law_580 rfl ?_
    refine z_iadd dL_law_581 ?_
    refine z_sld (v := (xs (i + 1))) (zsin (c := 1) (j := 1) rfl hi (by decide) hL).1 (by rw [(zsin (c := 1) (j := 1) rfl hi (by decide) hL).2]) dL_law_582 ?_
    refine z_callVi_fr (As := [.int (xs (i + 1))]) (st := []) [] (wX0 cI cZ h a (s_X0_kill u (xs (i + 1))) ++ wO cJ o f3) (fun l => c_X1_kill l D cI2 cZ2 h2 a2 v (xs (i + 1)) nd hmd hd nn hmn hn) zGok_TT (fun _ _ _ => trivial) (fun s args hts => cwV 1 hts gL_law_X1_kill rfl rfl rfl (by decide +kernel) ⟨Nat.le_of_ble_eq_true rfl, Nat.le_of_ble_eq_true rfl⟩) (ci := 1) rfl rfl rfl [2, 3] rfl rfl rfl (Nat.le_of_ble_eq_true rfl) ⟨by show _ ≤ 1064; omega, by show _ ≤ 9936; omega⟩ dL_law_583 rfl (fun r u2 hp => ?_)
    obtain ⟨rfl, rfl⟩ := hp
    refine z_istore (L' := [(6, .int (r_X1_kill v (xs (i + 1)))), (5, .int 0), (0, .ref b), (1, .ref h), (2, .ref h2), (3, .ref o), (4, .int (nI i))]) dL_law_586 (by decide) rfl ?_
    refine z_aload_n 4 dL_law_588 rfl ?_
    refine z_callVi_fr (As := []) (st := []) [] (wX0 cI cZ h a (s_X0_kill u (xs (i + 1))) ++ wO cJ o f3) (fun l => c_X1_thrown l D cI2 cZ2 h2 a2 (s_X1_kill v (xs (i + 1)))  ) zGok_TT (fun _ _ _ => trivial) (fun s args hts => cwV 0 hts gL_law_X1_thrown rfl rfl rfl (by decide +kernel) ⟨Nat.le_of_ble_eq_true rfl, Nat.le_of_ble_eq_true rfl⟩) (ci := 1) rfl rfl rfl [2, 3] rfl rfl rfl (Nat.le_of_ble_eq_true rfl) ⟨by show _ ≤ 1064; omega, by show _ ≤ 9936; omega⟩ dL_law_589 rfl (fun r u2 hp => ?_)
    subst hp
    refine z_iload 1 dL_law_592 rfl ?_
    refine z_icmp_eq 599 dL_law_594 (by decide) (fun _ => ?_) (fun q => absurd h0 q)
    refine z_iload 1 dL_law_599 rfl ?_
    refine z_if_ne 616 dL_law_601 (by decide) (fun q => absurd q (by decide)) (fun _ => ?_)
    refine z_aload_n 5 dL_law_604 rfl ?_
    refine z_iconst (v := 0) dL_law_605 rfl ?_
    refine z_lald (v := (f3 0)) 31 4 rfl rfl zin01 rfl dL_law_606 ?_
    refine z_iload 0 dL_law_607 rfl ?_
    refine z_i2l (v := ((r_X1_kill v (xs (i + 1)))).toInt64) dL_law_609 rfl ?_
    refine z_lcmpeq 616 (by rw [show f3 0 = _ from hf, hr]) dL_law_610 dL_law_611 (by decide) ?_
    refine z_goto 1497 dL_law_616 (by decide) ?_
    refine z_sub (L' := [(0, .ref b), (1, .ref h), (2, .ref h2), (3, .ref o), (4, .int (nI i))]) [2, 3, 4, 5, 6] rfl ?_
    exact K0 (s_X0_kill u (xs (i + 1))) (s_X1_kill v (xs (i + 1))) f3 hRn
  ·
    refine z_callWi_fr (As := [.ref h, .int (xs (i + 1)), .ref o]) (st := []) (wX1 cI2 cZ2 h2 a2 v) [] (fun l hl9 => kx_kill l (by rw [hl9]; exact hlt) D cI cZ cJ h a o u f (xs (i + 1)) he nd hnd hd nn hnn hn) zGok_U (fun _ _ q => q.1) (fun s args hts => vx_cwSW 3 hts gL_law_L_kill rfl rfl rfl (by decide +kernel) ⟨Nat.le_of_ble_eq_true rfl, Nat.le_of_ble_eq_true rfl⟩) [0, 1, 4] rfl rfl rfl (Nat.le_of_ble_eq_true rfl) ⟨by show _ ≤ 1064; omega, by show _ ≤ 9936; omega⟩ dL_law_571 rfl (fun r u2 hp => ?_)
    subst hp
    refine z_eqw (w' := (wX1 cI2 cZ2 h2 a2 v ++ (wX0 cI cZ h a u ++ wO cJ o f))) rfl ?_
    refine z_istore (L' := [(5, .int (if e_X0_kill u (xs (i + 1)) = 3 then 1 else 2)), (0, .ref b), (1, .ref h), (2, .ref h2), (3, .ref o), (4, .int (nI i))]) dL_law_574 (by decide) rfl ?_
    refine z_aload_n 3 dL_law_576 rfl ?_
    refine z_aload_n 1 dL_law_577 rfl ?_
    refine z_iload 5 dL_law_578 rfl ?_
    refine z_iconst (v := 1) dL_law_580 rfl ?_
    refine z_iadd dL_law_581 ?_
    refine z_sld (v := (xs (i + 1))) (zsin (c := 1) (j := 1) rfl hi (by decide) hL).1 (by rw [(zsin (c := 1) (j := 1) rfl hi (by decide) hL).2]) dL_law_582 ?_
    refine z_callVi_fr (As := [.int (xs (i + 1))]) (st := []) [] (wX0 cI cZ h a u ++ wO cJ o f) (fun l => c_X1_kill l D cI2 cZ2 h2 a2 v (xs (i + 1)) nd hmd hd nn hmn hn) zGok_TT (fun _ _ _ => trivial) (fun s args hts => cwV 1 hts gL_law_X1_kill rfl rfl rfl (by decide +kernel) ⟨Nat.le_of_ble_eq_true rfl, Nat.le_of_ble_eq_true rfl⟩) (ci := 1) rfl rfl rfl [2, 3] rfl rfl rfl (Nat.le_of_ble_eq_true rfl) ⟨by show _ ≤ 1064; omega, by show _ ≤ 9936; omega⟩ dL_law_583 rfl (fun r u2 hp => ?_)
    obtain ⟨rfl, rfl⟩ := hp
    refine z_istore (L' := [(6, .int (r_X1_kill v (xs (i + 1)))), (5, .int (if e_X0_kill u (xs (i + 1)) = 3 then 1 else 2)), (0, .ref b), (1, .ref h), (2, .ref h2), (3, .ref o), (4, .int (nI i))]) dL_law_586 (by decide) rfl ?_
    refine z_aload_n 4 dL_law_588 rfl ?_
    refine z_callVi_fr (As := []) (st := []) [] (wX0 cI cZ h a u ++ wO cJ o f) (fun l => c_X1_thrown l D cI2 cZ2 h2 a2 (s_X1_kill v (xs (i + 1)))  ) zGok_TT (fun _ _ _ => trivial) (fun s args hts => cwV 0 hts gL_law_X1_thrown rfl rfl rfl (by decide +kernel) ⟨Nat.le_of_ble_eq_true rfl, Nat.le_of_ble_eq_true rfl⟩) (ci := 1) rfl rfl rfl [2, 3] rfl rfl rfl (Nat.le_of_ble_eq_true rfl) ⟨by show _ ≤ 1064; omega, by show _ ≤ 9936; omega⟩ dL_law_589 rfl (fun r u2 hp => ?_)
    subst hp
    refine z_iload 1 dL_law_592 rfl ?_
    refine z_icmp_eq 599 dL_law_594 (by decide) (fun _ => ?_) (fun q => absurd h0 q)
    refine z_iload 1 dL_law_599 rfl ?_
    refine z_if_ne 616 dL_law_601 (by decide) (fun _ => ?_) (fun q => absurd q (by split <;> decide))
    refine z_goto 1497 dL_law_616 (by decide) ?_
    refine z_sub (L' := [(0, .ref b), (1, .ref h), (2, .ref h2), (3, .ref o), (4, .int (nI i))]) [2, 3, 4, 5, 6] rfl ?_
    exact K u (s_X1_kill v (xs (i + 1))) f hRn
set_option maxHeartbeats 8000000 in
set_option maxRecDepth 100000 in
theorem law_devices (E : ZE) (hlt : E.2.1.stackTraces = false) (b L : Nat) (xs : Nat → Int32) (D : va_G) (cI cZ cI2 cZ2 cJ : ClassId) (h h2 o : Nat) (a a2 : Nat → Nat) (hL : L ≤ 3072) (RR : SX → SX → Prop) (hWF : ∀ u v, RR u v → zWF u v) (hD : zD_devices RR) (i : Nat) (hi : i + 6 ≤ L) (u v : SX) (f : Nat → Int64) (cn sn : Nat) (hc1 : cn + 1 ≤ 1064) (hc2 : sn + 6 ≤ 9936) (hR : RR u v)
    (K : ∀ (u v : SX) (f : Nat → Int64), RR u v → ZW E (zGL b L xs) room_1 cL_law RL wsL_law 7 D [(cI, .int), (cZ, .boolean), (cI2, .int), (cZ2, .boolean), (cJ, .long)] (cn + 1) (sn + 6) (wX1 cI2 cZ2 h2 a2 v ++ (wX0 cI cZ h a u ++ wO cJ o f)) 1497 [(0, .ref b), (1, .ref h), (2, .ref h2), (3, .ref o), (4, .int (nI i))] []) : ZW E (zGL b L xs) room_1 cL_law RL wsL_law 7 D [(cI, .int), (cZ, .boolean), (cI2, .int), (cZ2, .boolean), (cJ, .long)] cn sn (wX1 cI2 cZ2 h2 a2 v ++ (wX0 cI cZ h a u ++ wO cJ o f)) 619 [(0, .ref b), (1, .ref h), (2, .ref h2), (3, .ref o), (4, .int (nI i))] [] := by
  obtain ⟨nd, nn, ⟨hnd, hd⟩, ⟨hnn, hn⟩, hlk, hmd, hmn⟩ := hWF u v hR
  have K0 : ∀ (u v : SX) (f : Nat → Int64), RR u v → ZW E (zGL b L xs) room_1 cL_law RL wsL_law 7 D [(cI, .int), (cZ, .boolean), (cI2, .int), (cZ2, .boolean), (cJ, .long)] cn sn (wX1 cI2 cZ2 h2 a2 v ++ (wX0 cI cZ h a u ++ wO cJ o f)) 1497 [(0, .ref b), (1, .ref h), (2, .ref h2), (3, .ref o), (4, .int (nI i))] [] := fun u v f h => z_widen (by omega) (by omega) (K u v f h)
  obtain ⟨hr, hRn⟩ := hD u v hR
  refine z_aload_n 1 dL_law_619 rfl ?_
  refine z_callVi_fr (As := []) (st := []) (wX1 cI2 cZ2 h2 a2 v) (wO cJ o f) (fun l => c_X0_devices l D cI cZ h a u) zGok_TT (fun _ _ _ => trivial) (fun s args hts => cwV 0 hts gL_law_X0_devices rfl rfl rfl (by decide +kernel) ⟨Nat.le_of_ble_eq_true rfl, Nat.le_of_ble_eq_true rfl⟩) (ci := 0) rfl rfl rfl [0, 1] rfl rfl rfl (Nat.le_of_ble_eq_true rfl) ⟨by show _ ≤ 1064; omega, by show _ ≤ 9936; omega⟩ dL_law_620 rfl (fun r u2 hp => ?_)
  subst hp
  refine z_aload_n 2 dL_law_623 rfl ?_
  refine z_callVi_fr (As := []) (st := [.int (r_X0_devices u)]) [] (wX0 cI cZ h a u ++ wO cJ o f) (fun l => c_X1_devices l D cI2 cZ2 h2 a2 v  ) zGok_TT (fun _ _ _ => trivial) (fun s args hts => cwV 0 hts gL_law_X1_devices rfl rfl rfl (by decide +kernel) ⟨Nat.le_of_ble_eq_true rfl, Nat.le_of_ble_eq_true rfl⟩) (ci := 1) rfl rfl rfl [2, 3] rfl rfl rfl (Nat.le_of_ble_eq_true rfl) ⟨by show _ ≤ 1064; omega, by show _ ≤ 9936; omega⟩ dL_law_624 rfl (fun r u2 hp => ?_)
  obtain ⟨rfl, rfl⟩ := hp
  refine z_icmp_eq 1497 dL_law_627 (by decide) (fun _ => ?_) (fun q => absurd hr q)
  refine z_sub (L' := [(0, .ref b), (1, .ref h), (2, .ref h2), (3, .ref o), (4, .int (nI i))]) [0, 1, 2, 3, 4] rfl ?_
  exact K0 u (s_X1_devices v) f hRn
set_option maxHeartbeats 8000000 in
set_option maxRecDepth 100000 in
theorem law_isQuiet (E : ZE) (hlt : E.2.1.stackTraces = false) (b L : Nat) (xs : Nat → Int32) (D : va_G) (cI cZ cI2 cZ2 cJ : ClassId) (h h2 o : Nat) (a a2 : Nat → Nat) (hL : L ≤ 3072) (RR : SX → SX → Prop) (hWF : ∀ u v, RR u v → zWF u v) (hD : zD_isQuiet RR) (i : Nat) (hi : i + 6 ≤ L) (u v : SX) (f : Nat → Int64) (cn sn : Nat) (hc1 : cn + 1 ≤ 1064) (hc2 : sn + 6 ≤ 9936) (hR : RR u v)
    (K : ∀ (u v : SX) (f : Nat → Int64), RR u v → ZW E (zGL b L xs) room_1 cL_law RL wsL_law 7 D [(cI, .int), (cZ, .boolean), (cI2, .int), (cZ2, .boolean), (cJ, .long)] (cn + 1) (sn + 6) (wX1 cI2 cZ2 h2 a2 v ++ (wX0 cI cZ h a u ++ wO cJ o f)) 1497 [(0, .ref b), (1, .ref h), (2, .ref h2), (3, .ref o), (4, .int (nI i))] []) : ZW E (zGL b L xs) room_1 cL_law RL wsL_law 7 D [(cI, .int), (cZ, .boolean), (cI2, .int), (cZ2, .boolean), (cJ, .long)] cn sn (wX1 cI2 cZ2 h2 a2 v ++ (wX0 cI cZ h a u ++ wO cJ o f)) 632 [(0, .ref b), (1, .ref h), (2, .ref h2), (3, .ref o), (4, .int (nI i))] [] := by
  obtain ⟨nd, nn, ⟨hnd, hd⟩, ⟨hnn, hn⟩, hlk, hmd, hmn⟩ := hWF u v hR
  have K0 : ∀ (u v : SX) (f : Nat → Int64), RR u v → ZW E (zGL b L xs) room_1 cL_law RL wsL_law 7 D [(cI, .int), (cZ, .boolean), (cI2, .int), (cZ2, .boolean), (cJ, .long)] cn sn (wX1 cI2 cZ2 h2 a2 v ++ (wX0 cI cZ h a u ++ wO cJ o f)) 1497 [(0, .ref b), (1, .ref h), (2, .ref h2), (3, .ref o), (4, .int (nI i))] [] := fun u v f h => z_widen (by omega) (by omega) (K u v f h)
  refine z_aload_n 1 dL_law_632 rfl ?_
  refine z_aload_n 0 dL_law_633 rfl ?_
  refine z_iload 4 dL_law_634 rfl ?_
  refine z_iconst (v := 1) dL_law_636 rfl ?_
  refine z_iadd dL_law_637 ?_
  refine z_sld (v := (xs (i + 1))) (zsin (c := 1) (j := 1) rfl hi (by decide) hL).1 (by rw [(zsin (c := 1) (j := 1) rfl hi (by decide) hL).2]) dL_law_638 ?_
  refine z_aload_n 3 dL_law_639 rfl ?_
  rcases hD u v hR (xs (i + 1))  with ⟨he, h0, hr, hRn⟩ | ⟨he, h0, hRn⟩
  ·
    refine z_callWi_fr (As := [.ref h, .int (xs (i + 1)), .ref o]) (st := []) (wX1 cI2 cZ2 h2 a2 v) [] (fun l _ => kn_isQuiet l D cI cZ cJ h a o u f (xs (i + 1)) he nd hnd hd) zGok_TT (fun _ _ _ => trivial) (fun s args hts => vx_cwSW 3 hts gL_law_L_isQuiet rfl rfl rfl (by decide +kernel) ⟨Nat.le_of_ble_eq_true rfl, Nat.le_of_ble_eq_true rfl⟩) [0, 1, 4] rfl rfl rfl (Nat.le_of_ble_eq_true rfl) ⟨by show _ ≤ 1064; omega, by show _ ≤ 9936; omega⟩ dL_law_640 rfl (fun r u2 hp => ?_)
    obtain ⟨u3, f3⟩ := u2
    obtain ⟨rfl, hS, hf⟩ := hp
    have hS : u = u3 := hS.symm
    subst hS
    refine z_eqw (w' := (wX1 cI2 cZ2 h2 a2 v ++ (wX0 cI cZ h a u ++ wO cJ o f3))) rfl ?_
    refine z_istore (L' := [(5, .int 0), (0, .ref b), (1, .ref h), (2, .ref h2), (3, .ref o), (4, .int (nI i))]) dL_law_643 (by decide) rfl ?_
    refine z_aload_n 3 dL_law_645 rfl ?_
    refine z_aload_n 1 dL_law_646 rfl ?_
    refine z_iload 5 dL_law_647 rfl ?_
    refine z_iconst (v := 1) dL_law_649 rfl ?_
    refine z_iadd dL_law_650 ?_
    refine z_sld (v := (xs (i + 1))) (zsin (c := 1) (j := 1) rfl hi (by decide) hL).1 (by rw [(zsin (c := 1) (j := 1) rfl hi (by decide) hL).2]) dL_law_651 ?_
    refine z_callVi_fr (As := [.int (xs (i + 1))]) (st := []) [] (wX0 cI cZ h a u ++ wO cJ o f3) (fun l => c_X1_isQuiet l D cI2 cZ2 h2 a2 v (xs (i + 1)) nd hmd hd) zGok_TT (fun _ _ _ => trivial) (fun s args hts => cwV 1 hts gL_law_X1_isQuiet rfl rfl rfl (by decide +kernel) ⟨Nat.le_of_ble_eq_true rfl, Nat.le_of_ble_eq_true rfl⟩) (ci := 1) rfl rfl rfl [2, 3] rfl rfl rfl (Nat.le_of_ble_eq_true rfl) ⟨by show _ ≤ 1064; omega, by show _ ≤ 9936; omega⟩ dL_law_652 rfl (fun r u2 hp => ?_)
    obtain ⟨rfl, rfl⟩ := hp
    refine z_istore (L' := [(6, .int (r_X1_isQuiet v (xs (i + 1)))), (5, .int 0), (0, .ref b), (1, .ref h), (2, .ref h2), (3, .ref o), (4, .int (nI i))]) dL_law_655 (by decide) rfl ?_
    refine z_aload_n 4 dL_law_657 rfl ?_
    refine z_callVi_fr (As := []) (st := []) [] (wX0 cI cZ h a u ++ wO cJ o f3) (fun l => c_X1_thrown l D cI2 cZ2 h2 a2 (s_X1_isQuiet v (xs (i + 1)))  ) zGok_TT (fun _ _ _ => trivial) (fun s args hts => cwV 0 hts gL_law_X1_thrown rfl rfl rfl (by decide +kernel) ⟨Nat.le_of_ble_eq_true rfl, Nat.le_of_ble_eq_true rfl⟩) (ci := 1) rfl rfl rfl [2, 3] rfl rfl rfl (Nat.le_of_ble_eq_true rfl) ⟨by show _ ≤ 1064; omega, by show _ ≤ 9936; omega⟩ dL_law_658 rfl (fun r u2 hp => ?_)
    subst hp
    refine z_iload 1 dL_law_661 rfl ?_
    refine z_icmp_eq 668 dL_law_663 (by decide) (fun _ => ?_) (fun q => absurd h0 q)
    refine z_iload 1 dL_law_668 rfl ?_
    refine z_if_ne 692 dL_law_670 (by decide) (fun q => absurd q (by decide)) (fun _ => ?_)
    refine z_aload_n 5 dL_law_673 rfl ?_
    refine z_iconst (v := 0) dL_law_674 rfl ?_
    refine z_lald (v := (f3 0)) 31 4 rfl rfl zin01 rfl dL_law_675 ?_
    refine z_iload 0 dL_law_676 rfl ?_
    refine z_if_eq 685 dL_law_678 (by decide) (fun c1 => ?_) (fun c1 => ?_)
    ·
      refine z_lconst (v := 0) dL_law_685 rfl ?_
      refine z_lcmpeq 692 (by rw [show f3 0 = _ from hf, hr, if_pos c1]) dL_law_686 dL_law_687 (by decide) ?_
      refine z_goto 1497 dL_law_692 (by decide) ?_
      refine z_sub (L' := [(0, .ref b), (1, .ref h), (2, .ref h2), (3, .ref o), (4, .int (nI i))]) [2, 3, 4, 5, 6] rfl ?_
      exact K0 u (s_X1_isQuiet v (xs (i + 1))) f3 hRn
    ·
      refine z_lconst (v := 1) dL_law_681 rfl ?_
      refine z_goto 686 dL_law_682 (by decide) ?_
      refine z_lcmpeq 692 (by rw [show f3 0 = _ from hf, hr, if_neg c1]) dL_law_686 dL_law_687 (by decide) ?_
      refine z_goto 1497 dL_law_692 (by decide) ?_
      refine z_sub (L' := [(0, .ref b), (1, .ref h), (2, .ref h2), (3, .ref o), (4, .int (nI i))]) [2, 3, 4, 5, 6] rfl ?_
      exact K0 u (s_X1_isQuiet v (xs (i + 1))) f3 hRn
  ·
    refine z_callWi_fr (As := [.ref h, .int (xs (i + 1)), .ref o]) (st := []) (wX1 cI2 cZ2 h2 a2 v) [] (fun l hl9 => kx_isQuiet l (by rw [hl9]; exact hlt) D cI cZ cJ h a o u f (xs (i + 1)) he nd hnd hd) zGok_U (fun _ _ q => q.1) (fun s args hts => vx_cwSW 3 hts gL_law_L_isQuiet rfl rfl rfl (by decide +kernel) ⟨Nat.le_of_ble_eq_true rfl, Nat.le_of_ble_eq_true rfl⟩) [0, 1, 4] rfl rfl rfl (Nat.le_of_ble_eq_true rfl) ⟨by show _ ≤ 1064; omega, by show _ ≤ 9936; omega⟩ dL_law_640 rfl (fun r u2 hp => ?_)
    subst hp
    refine z_eqw (w' := (wX1 cI2 cZ2 h2 a2 v ++ (wX0 cI cZ h a u ++ wO cJ o f))) rfl ?_
    refine z_istore (L' := [(5, .int 1), (0, .ref b), (1, .ref h), (2, .ref h2), (3, .ref o), (4, .int (nI i))]) dL_law_643 (by decide) rfl ?_
    refine z_aload_n 3 dL_law_645 rfl ?_
    refine z_aload_n 1 dL_law_646 rfl ?_
    refine z_iload 5 dL_law_647 rfl ?_
    refine z_iconst (v := 1) dL_law_649 rfl ?_
    refine z_iadd dL_law_650 ?_
    refine z_sld (v := (xs (i + 1))) (zsin (c := 1) (j := 1) rfl hi (by decide) hL).1 (by rw [(zsin (c := 1) (j := 1) rfl hi (by decide) hL).2]) dL_law_651 ?_
    refine z_callVi_fr (As := [.int (xs (i + 1))]) (st := []) [] (wX0 cI cZ h a u ++ wO cJ o f) (fun l => c_X1_isQuiet l D cI2 cZ2 h2 a2 v (xs (i + 1)) nd hmd hd) zGok_TT (fun _ _ _ => trivial) (fun s args hts => cwV 1 hts gL_law_X1_isQuiet rfl rfl rfl (by decide +kernel) ⟨Nat.le_of_ble_eq_true rfl, Nat.le_of_ble_eq_true rfl⟩) (ci := 1) rfl rfl rfl [2, 3] rfl rfl rfl (Nat.le_of_ble_eq_true rfl) ⟨by show _ ≤ 1064; omega, by show _ ≤ 9936; omega⟩ dL_law_652 rfl (fun r u2 hp => ?_)
    obtain ⟨rfl, rfl⟩ := hp
    refine z_istore (L' := [(6, .int (r_X1_isQuiet v (xs (i + 1)))), (5, .int 1), (0, .ref b), (1, .ref h), (2, .ref h2), (3, .ref o), (4, .int (nI i))]) dL_law_655 (by decide) rfl ?_
    refine z_aload_n 4 dL_law_657 rfl ?_
    refine z_callVi_fr (As := []) (st := []) [] (wX0 cI cZ h a u ++ wO cJ o f) (fun l => c_X1_thrown l D cI2 cZ2 h2 a2 (s_X1_isQuiet v (xs (i + 1)))  ) zGok_TT (fun _ _ _ => trivial) (fun s args hts => cwV 0 hts gL_law_X1_thrown rfl rfl rfl (by decide +kernel) ⟨Nat.le_of_ble_eq_true rfl, Nat.le_of_ble_eq_true rfl⟩) (ci := 1) rfl rfl rfl [2, 3] rfl rfl rfl (Nat.le_of_ble_eq_true rfl) ⟨by show _ ≤ 1064; omega, by show _ ≤ 9936; omega⟩ dL_law_658 rfl (fun r u2 hp => ?_)
    subst hp
    refine z_iload 1 dL_law_661 rfl ?_
    refine z_icmp_eq 668 dL_law_663 (by decide) (fun _ => ?_) (fun q => absurd h0 q)
    refine z_iload 1 dL_law_668 rfl ?_
    refine z_if_ne 692 dL_law_670 (by decide) (fun _ => ?_) (fun q => absurd q (by decide))
    refine z_goto 1497 dL_law_692 (by decide) ?_
    refine z_sub (L' := [(0, .ref b), (1, .ref h), (2, .ref h2), (3, .ref o), (4, .int (nI i))]) [2, 3, 4, 5, 6] rfl ?_
    exact K u (s_X1_isQuiet v (xs (i + 1))) f hRn
set_option maxHeartbeats 8000000 in
set_option maxRecDepth 100000 in
theorem law_send (E : ZE) (hlt : E.2.1.stackTraces = false) (b L : Nat) (xs : Nat → Int32) (D : va_G) (cI cZ cI2 cZ2 cJ : ClassId) (h h2 o : Nat) (a a2 : Nat → Nat) (hL : L ≤ 3072) (RR : SX → SX → Prop) (hWF : ∀ u v, RR u v → zWF u v) (hD : zD_send RR) (i : Nat) (hi : i + 6 ≤ L) (u v : SX) (f : Nat → Int64) (cn sn : Nat) (hc1 : cn + 1 ≤ 1064) (hc2 : sn + 6 ≤ 9936) (hR : RR u v)
    (K : ∀ (u v : SX) (f : Nat → Int64), RR u v → ZW E (zGL b L xs) room_1 cL_law RL wsL_law 7 D [(cI, .int), (cZ, .boolean), (cI2, .int), (cZ2, .boolean), (cJ, .long)] (cn + 1) (sn + 6) (wX1 cI2 cZ2 h2 a2 v ++ (wX0 cI cZ h a u ++ wO cJ o f)) 1497 [(0, .ref b), (1, .ref h), (2, .ref h2), (3, .ref o), (4, .int (nI i))] []) : ZW E (zGL b L xs) room_1 cL_law RL wsL_law 7 D [(cI, .int), (cZ, .boolean), (cI2, .int), (cZ2, .boolean), (cJ, .long)] cn sn (wX1 cI2 cZ2 h2 a2 v ++ (wX0 cI cZ h a u ++ wO cJ o f)) 695 [(0, .ref b), (1, .ref h), (2, .ref h2), (3, .ref o), (4, .int (nI i))] [] := by
  obtain ⟨nd, nn, ⟨hnd, hd⟩, ⟨hnn, hn⟩, hlk, hmd, hmn⟩ := hWF u v hR
  have K0 : ∀ (u v : SX) (f : Nat → Int64), RR u v → ZW E (zGL b L xs) room_1 cL_law RL wsL_law 7 D [(cI, .int), (cZ, .boolean), (cI2, .int), (cZ2, .boolean), (cJ, .long)] cn sn (wX1 cI2 cZ2 h2 a2 v ++ (wX0 cI cZ h a u ++ wO cJ o f)) 1497 [(0, .ref b), (1, .ref h), (2, .ref h2), (3, .ref o), (4, .int (nI i))] [] := fun u v f h => z_widen (by omega) (by omega) (K u v f h)
  refine z_aload_n 1 dL_law_695 rfl ?_
  refine z_aload_n 0 dL_law_696 rfl ?_
  refine z_iload 4 dL_law_697 rfl ?_
  refine z_iconst (v := 1) dL_law_699 rfl ?_
  refine z_iadd dL_law_700 ?_
  refine z_sld (v := (xs (i + 1))) (zsin (c := 1) (j := 1) rfl hi (by decide) hL).1 (by rw [(zsin (c := 1) (j := 1) rfl hi (by decide) hL).2]) dL_law_701 ?_
  refine z_aload_n 0 dL_law_702 rfl ?_
  refine z_iload 4 dL_law_703 rfl ?_
  refine z_iconst (v := 2) dL_law_705 rfl ?_
  refine z_iadd dL_law_706 ?_
  refine z_sld (v := (xs (i + 2))) (zsin (c := 2) (j := 2) rfl hi (by decide) hL).1 (by rw [(zsin (c := 2) (j := 2) rfl hi (by decide) hL).2]) dL_law_707 ?_
  refine z_aload_n 0 dL_law_708 rfl ?_
  refine z_iload 4 dL_law_709 rfl ?_
  refine z_iconst (v := 3) dL_law_711 rfl ?_
  refine z_iadd dL_law_712 ?_
  refine z_sld (v := (xs (i + 3))) (zsin (c := 3) (j := 3) rfl hi (by decide) hL).1 (by rw [(zsin (c := 3) (j := 3) rfl hi (by decide) hL).2]) dL_law_713 ?_
  refine z_if_eq 721 dL_law_714 (by decide) (fun c1 => ?_) (fun c1 => ?_)
  ·
    refine z_iconst (v := 0) dL_law_721 rfl ?_
    refine z_aload_n 0 dL_law_722 rfl ?_
    refine z_iload 4 dL_law_723 rfl ?_
    refine z_iconst (v := 4) dL_law_725 rfl ?_
    refine z_iadd dL_law_726 ?_
    refine z_sld (v := (xs (i + 4))) (zsin (c := 4) (j := 4) rfl hi (by decide) hL).1 (by rw [(zsin (c := 4) (j := 4) rfl hi (by decide) hL).2]) dL_law_727 ?_
    refine z_aload_n 3 dL_law_728 rfl ?_
    rcases hD u v hR (xs (i + 1)) (xs (i + 2)) 0 (xs (i + 4)) (Or.inl rfl) with ⟨he, h0, hr, hRn⟩ | ⟨he, h0, hRn⟩
    ·
      refine z_callWi_fr (As := [.ref h, .int (xs (i + 1)), .int (xs (i + 2)), .int 0, .int (xs (i + 4)), .ref o]) (st := []) (wX1 cI2 cZ2 h2 a2 v) [] (fun l _ => kn_send l D cI cZ cJ h a o u f (xs (i + 1)) (xs (i + 2)) 0 (xs (i + 4)) he nd hnd hd nn hnn hn hlk) zGok_TT (fun _ _ _ => trivial) (fun s args hts => vx_cwSW 6 hts gL_law_L_send rfl rfl rfl (by decide +kernel) ⟨Nat.le_of_ble_eq_true rfl, Nat.le_of_ble_eq_true rfl⟩) [0, 1, 4] rfl rfl rfl (Nat.le_of_ble_eq_true rfl) ⟨by show _ ≤ 1064; omega, by show _ ≤ 9936; omega⟩ dL_law_729 rfl (fun r u2 hp => ?_)
      obtain ⟨u3, f3⟩ := u2
      obtain ⟨rfl, hS, hf⟩ := hp
      have hS : u3 = (s_X0_send u (xs (i + 1)) (xs (i + 2)) 0 (xs (i + 4))) := hS
      subst hS
      refine z_eqw (w' := (wX1 cI2 cZ2 h2 a2 v ++ (wX0 cI cZ h a (s_X0_send u (xs (i + 1)) (xs (i + 2)) 0 (xs (i + 4))) ++ wO cJ o f3))) rfl ?_
      refine z_istore (L' := [(5, .int 0), (0, .ref b), (1, .ref h), (2, .ref h2), (3, .ref o), (4, .int (nI i))]) dL_law_732 (by decide) rfl ?_
      refine z_aload_n 3 dL_law_734 rfl ?_
      refine z_aload_n 1 dL_law_735 rfl ?_
      refine z_iload 5 dL_law_736 rfl ?_
      refine z_iconst (v := 1) dL_law_738 rfl ?_
      refine z_iadd dL_law_739 ?_
      refine z_sld (v := (xs (i + 1))) (zsin (c := 1) (j := 1) rfl hi (by decide) hL).1 (by rw [(zsin (c := 1) (j := 1) rfl hi (by decide) hL).2]) dL_law_740 ?_
      refine z_aload_n 1 dL_law_741 rfl ?_
      refine z_iload 5 dL_law_742 rfl ?_
      refine z_iconst (v := 2) dL_law_744 rfl ?_
      refine z_iadd dL_law_745 ?_
      refine z_sld (v := (xs (i + 2))) (zsin (c := 2) (j := 2) rfl hi (by decide) hL).1 (by rw [(zsin (c := 2) (j := 2) rfl hi (by decide) hL).2]) dL_law_746 ?_
      refine z_aload_n 1 dL_law_747 rfl ?_
      refine z_iload 5 dL_law_748 rfl ?_
      refine z_iconst (v := 3) dL_law_750 rfl ?_
      refine z_iadd dL_law_751 ?_
      refine z_sld (v := (xs (i + 3))) (zsin (c := 3) (j := 3) rfl hi (by decide) hL).1 (by rw [(zsin (c := 3) (j := 3) rfl hi (by decide) hL).2]) dL_law_752 ?_
      refine z_if_eq 760 dL_law_753 (by decide) (fun _ => ?_) (fun q => absurd c1 q)
      refine z_iconst (v := 0) dL_law_760 rfl ?_
      refine z_aload_n 1 dL_law_761 rfl ?_
      refine z_iload 5 dL_law_762 rfl ?_
      refine z_iconst (v := 4) dL_law_764 rfl ?_
      refine z_iadd dL_law_765 ?_
      refine z_sld (v := (xs (i + 4))) (zsin (c := 4) (j := 4) rfl hi (by decide) hL).1 (by rw [(zsin (c := 4) (j := 4) rfl hi (by decide) hL).2]) dL_law_766 ?_
      refine z_callVi_fr (As := [.int (xs (i + 1)), .int (xs (i + 2)), .int 0, .int (xs (i + 4))]) (st := []) [] (wX0 cI cZ h a (s_X0_send u (xs (i + 1)) (xs (i + 2)) 0 (xs (i + 4))) ++ wO cJ o f3) (fun l => c_X1_send l D cI2 cZ2 h2 a2 v (xs (i + 1)) (xs (i + 2)) 0 (xs (i + 4)) nd hmd hd nn hmn hn) zGok_TT (fun _ _ _ => trivial) (fun s args hts => cwV 4 hts gL_law_X1_send rfl rfl rfl (by decide +kernel) ⟨Nat.le_of_ble_eq_true rfl, Nat.le_of_ble_eq_true rfl⟩) (ci := 1) rfl rfl rfl [2, 3] rfl rfl rfl (Nat.le_of_ble_eq_true rfl) ⟨by show _ ≤ 1064; omega, by show _ ≤ 9936; omega⟩ dL_law_767 rfl (fun r u2 hp => ?_)
      obtain ⟨rfl, rfl⟩ := hp
      refine z_istore (L' := [(6, .int (r_X1_send v (xs (i + 1)) (xs (i + 2)) 0 (xs (i + 4)))), (5, .int 0), (0, .ref b), (1, .ref h), (2, .ref h2), (3, .ref o), (4, .int (nI i))]) dL_law_770 (by decide) rfl ?_
      refine z_aload_n 4 dL_law_772 rfl ?_
      refine z_callVi_fr (As := []) (st := []) [] (wX0 cI cZ h a (s_X0_send u (xs (i + 1)) (xs (i + 2)) 0 (xs (i + 4))) ++ wO cJ o f3) (fun l => c_X1_thrown l D cI2 cZ2 h2 a2 (s_X1_send v (xs (i + 1)) (xs (i + 2)) 0 (xs (i + 4)))  ) zGok_TT (fun _ _ _ => trivial) (fun s args hts => cwV 0 hts gL_law_X1_thrown rfl rfl rfl (by decide +kernel) ⟨Nat.le_of_ble_eq_true rfl, Nat.le_of_ble_eq_true rfl⟩) (ci := 1) rfl rfl rfl [2, 3] rfl rfl rfl (Nat.le_of_ble_eq_true rfl) ⟨by show _ ≤ 1064; omega, by show _ ≤ 9936; omega⟩ dL_law_773 rfl (fun r u2 hp => ?_)
      subst hp
      refine z_iload 1 dL_law_776 rfl ?_
      refine z_icmp_eq 783 dL_law_778 (by decide) (fun _ => ?_) (fun q => absurd h0 q)
      refine z_iload 1 dL_law_783 rfl ?_
      refine z_if_ne 800 dL_law_785 (by decide) (fun q => absurd q (by decide)) (fun _ => ?_)
      refine z_aload_n 5 dL_law_788 rfl ?_
      refine z_iconst (v := 0) dL_law_789 rfl ?_
      refine z_lald (v := (f3 0)) 31 4 rfl rfl zin01 rfl dL_law_790 ?_
      refine z_iload 0 dL_law_791 rfl ?_
      refine z_i2l (v := ((r_X1_send v (xs (i + 1)) (xs (i + 2)) 0 (xs (i + 4)))).toInt64) dL_law_793 rfl ?_
      refine z_lcmpeq 800 (by rw [show f3 0 = _ from hf, hr]) dL_law_794 dL_law_795 (by decide) ?_
      refine z_goto 1497 dL_law_800 (by decide) ?_
      refine z_sub (L' := [(0, .ref b), (1, .ref h), (2, .ref h2), (3, .ref o), (4, .int (nI i))]) [2, 3, 4, 5, 6] rfl ?_
      exact K0 (s_X0_send u (xs (i + 1)) (xs (i + 2)) 0 (xs (i + 4))) (s_X1_send v (xs (i + 1)) (xs (i + 2)) 0 (xs (i + 4))) f3 hRn
    ·
      refine z_callWi_fr (As := [.ref h, .int (xs (i + 1)), .int (xs (i + 2)), .int 0, .int (xs (i + 4)), .ref o]) (st := []) (wX1 cI2 cZ2 h2 a2 v) [] (fun l hl9 => kx_send l (by rw [hl9]; exact hlt) D cI cZ cJ h a o u f (xs (i + 1)) (xs (i + 2)) 0 (xs (i + 4)) he nd hnd hd nn hnn hn hlk) zGok_U (fun _ _ q => q.1) (fun s args hts => vx_cwSW 6 hts gL_law_L_send rfl rfl rfl (by decide +kernel) ⟨Nat.le_of_ble_eq_true rfl, Nat.le_of_ble_eq_true rfl⟩) [0, 1, 4] rfl rfl rfl (Nat.le_of_ble_eq_true rfl) ⟨by show _ ≤ 1064; omega, by show _ ≤ 9936; omega⟩ dL_law_729 rfl (fun r u2 hp => ?_)
      subst hp
      refine z_eqw (w' := (wX1 cI2 cZ2 h2 a2 v ++ (wX0 cI cZ h a u ++ wO cJ o f))) rfl ?_
      refine z_istore (L' := [(5, .int (if e_X0_send u (xs (i + 1)) (xs (i + 2)) 0 (xs (i + 4)) = 1 then 1 else 2)), (0, .ref b), (1, .ref h), (2, .ref h2), (3, .ref o), (4, .int (nI i))]) dL_law_732 (by decide) rfl ?_
      refine z_aload_n 3 dL_law_734 rfl ?_
      refine z_aload_n 1 dL_law_735 rfl ?_
      refine z_iload 5 dL_law_736 rfl ?_
      refine z_iconst (v := 1) dL_law_738 rfl ?_
      refine z_iadd dL_law_739 ?_
      refine z_sld (v := (xs (i + 1))) (zsin (c := 1) (j := 1) rfl hi (by decide) hL).1 (by rw [(zsin (c := 1) (j := 1) rfl hi (by decide) hL).2]) dL_law_740 ?_
      refine z_aload_n 1 dL_law_741 rfl ?_
      refine z_iload 5 dL_law_742 rfl ?_
      refine z_iconst (v := 2) dL_law_744 rfl ?_
      refine z_iadd dL_law_745 ?_
      refine z_sld (v := (xs (i + 2))) (zsin (c := 2) (j := 2) rfl hi (by decide) hL).1 (by rw [(zsin (c := 2) (j := 2) rfl hi (by decide) hL).2]) dL_law_746 ?_
      refine z_aload_n 1 dL_law_747 rfl ?_
      refine z_iload 5 dL_law_748 rfl ?_
      refine z_iconst (v := 3) dL_law_750 rfl ?_
      refine z_iadd dL_law_751 ?_
      refine z_sld (v := (xs (i + 3))) (zsin (c := 3) (j := 3) rfl hi (by decide) hL).1 (by rw [(zsin (c := 3) (j := 3) rfl hi (by decide) hL).2]) dL_law_752 ?_
      refine z_if_eq 760 dL_law_753 (by decide) (fun _ => ?_) (fun q => absurd c1 q)
      refine z_iconst (v := 0) dL_law_760 rfl ?_
      refine z_aload_n 1 dL_law_761 rfl ?_
      refine z_iload 5 dL_law_762 rfl ?_
      refine z_iconst (v := 4) dL_law_764 rfl ?_
      refine z_iadd dL_law_765 ?_
      refine z_sld (v := (xs (i + 4))) (zsin (c := 4) (j := 4) rfl hi (by decide) hL).1 (by rw [(zsin (c := 4) (j := 4) rfl hi (by decide) hL).2]) dL_law_766 ?_
      refine z_callVi_fr (As := [.int (xs (i + 1)), .int (xs (i + 2)), .int 0, .int (xs (i + 4))]) (st := []) [] (wX0 cI cZ h a u ++ wO cJ o f) (fun l => c_X1_send l D cI2 cZ2 h2 a2 v (xs (i + 1)) (xs (i + 2)) 0 (xs (i + 4)) nd hmd hd nn hmn hn) zGok_TT (fun _ _ _ => trivial) (fun s args hts => cwV 4 hts gL_law_X1_send rfl rfl rfl (by decide +kernel) ⟨Nat.le_of_ble_eq_true rfl, Nat.le_of_ble_eq_true rfl⟩) (ci := 1) rfl rfl rfl [2, 3] rfl rfl rfl (Nat.le_of_ble_eq_true rfl) ⟨by show _ ≤ 1064; omega, by show _ ≤ 9936; omega⟩ dL_law_767 rfl (fun r u2 hp => ?_)
      obtain ⟨rfl, rfl⟩ := hp
      refine z_istore (L' := [(6, .int (r_X1_send v (xs (i + 1)) (xs (i + 2)) 0 (xs (i + 4)))), (5, .int (if e_X0_send u (xs (i + 1)) (xs (i + 2)) 0 (xs (i + 4)) = 1 then 1 else 2)), (0, .ref b), (1, .ref h), (2, .ref h2), (3, .ref o), (4, .int (nI i))]) dL_law_770 (by decide) rfl ?_
      refine z_aload_n 4 dL_law_772 rfl ?_
      refine z_callVi_fr (As := []) (st := []) [] (wX0 cI cZ h a u ++ wO cJ o f) (fun l => c_X1_thrown l D cI2 cZ2 h2 a2 (s_X1_send v (xs (i + 1)) (xs (i + 2)) 0 (xs (i + 4)))  ) zGok_TT (fun _ _ _ => trivial) (fun s args hts => cwV 0 hts gL_law_X1_thrown rfl rfl rfl (by decide +kernel) ⟨Nat.le_of_ble_eq_true rfl, Nat.le_of_ble_eq_true rfl⟩) (ci := 1) rfl rfl rfl [2, 3] rfl rfl rfl (Nat.le_of_ble_eq_true rfl) ⟨by show _ ≤ 1064; omega, by show _ ≤ 9936; omega⟩ dL_law_773 rfl (fun r u2 hp => ?_)
      subst hp
      refine z_iload 1 dL_law_776 rfl ?_
      refine z_icmp_eq 783 dL_law_778 (by decide) (fun _ => ?_) (fun q => absurd h0 q)
      refine z_iload 1 dL_law_783 rfl ?_
      refine z_if_ne 800 dL_law_785 (by decide) (fun _ => ?_) (fun q => absurd q (by split <;> decide))
      refine z_goto 1497 dL_law_800 (by decide) ?_
      refine z_sub (L' := [(0, .ref b), (1, .ref h), (2, .ref h2), (3, .ref o), (4, .int (nI i))]) [2, 3, 4, 5, 6] rfl ?_
      exact K u (s_X1_send v (xs (i + 1)) (xs (i + 2)) 0 (xs (i + 4))) f hRn
  ·
    refine z_iconst (v := 1) dL_law_717 rfl ?_
    refine z_goto 722 dL_law_718 (by decide) ?_
    refine z_aload_n 0 dL_law_722 rfl ?_
    refine z_iload 4 dL_law_723 rfl ?_
    refine z_iconst (v := 4) dL_law_725 rfl ?_
    refine z_iadd dL_law_726 ?_
    refine z_sld (v := (xs (i + 4))) (zsin (c := 4) (j := 4) rfl hi (by decide) hL).1 (by rw [(zsin (c := 4) (j := 4) rfl hi (by decide) hL).2]) dL_law_727 ?_
    refine z_aload_n 3 dL_law_728 rfl ?_
    rcases hD u v hR (xs (i + 1)) (xs (i + 2)) 1 (xs (i + 4)) (Or.inr rfl) with ⟨he, h0, hr, hRn⟩ | ⟨he, h0, hRn⟩
    ·
      refine z_callWi_fr (As := [.ref h, .int (xs (i + 1)), .int (xs (i + 2)), .int 1, .int (xs (i + 4)), .ref o]) (st := []) (wX1 cI2 cZ2 h2 a2 v) [] (fun l _ => kn_send l D cI cZ cJ h a o u f (xs (i + 1)) (xs (i + 2)) 1 (xs (i + 4)) he nd hnd hd nn hnn hn hlk) zGok_TT (fun _ _ _ => trivial) (fun s args hts => vx_cwSW 6 hts gL_law_L_send rfl rfl rfl (by decide +kernel) ⟨Nat.le_of_ble_eq_true rfl, Nat.le_of_ble_eq_true rfl⟩) [0, 1, 4] rfl rfl rfl (Nat.le_of_ble_eq_true rfl) ⟨by show _ ≤ 1064; omega, by show _ ≤ 9936; omega⟩ dL_law_729 rfl (fun r u2 hp => ?_)
      obtain ⟨u3, f3⟩ := u2
      obtain ⟨rfl, hS, hf⟩ := hp
      have hS : u3 = (s_X0_send u (xs (i + 1)) (xs (i + 2)) 1 (xs (i + 4))) := hS
      subst hS
      refine z_eqw (w' := (wX1 cI2 cZ2 h2 a2 v ++ (wX0 cI cZ h a (s_X0_send u (xs (i + 1)) (xs (i + 2)) 1 (xs (i + 4))) ++ wO cJ o f3))) rfl ?_
      refine z_istore (L' := [(5, .int 0), (0, .ref b), (1, .ref h), (2, .ref h2), (3, .ref o), (4, .int (nI i))]) dL_law_732 (by decide) rfl ?_
      refine z_aload_n 3 dL_law_734 rfl ?_
      refine z_aload_n 1 dL_law_735 rfl ?_
      refine z_iload 5 dL_law_736 rfl ?_
      refine z_iconst (v := 1) dL_law_738 rfl ?_
      refine z_iadd dL_law_739 ?_
      refine z_sld (v := (xs (i + 1))) (zsin (c := 1) (j := 1) rfl hi (by decide) hL).1 (by rw [(zsin (c := 1) (j := 1) rfl hi (by decide) hL).2]) dL_law_740 ?_
      refine z_aload_n 1 dL_law_741 rfl ?_
      refine z_iload 5 dL_law_742 rfl ?_
      refine z_iconst (v := 2) dL_law_744 rfl ?_
      refine z_iadd dL_law_745 ?_
      refine z_sld (v := (xs (i + 2))) (zsin (c := 2) (j := 2) rfl hi (by decide) hL).1 (by rw [(zsin (c := 2) (j := 2) rfl hi (by decide) hL).2]) dL_law_746 ?_
      refine z_aload_n 1 dL_law_747 rfl ?_
      refine z_iload 5 dL_law_748 rfl ?_
      refine z_iconst (v := 3) dL_law_750 rfl ?_
      refine z_iadd dL_law_751 ?_
      refine z_sld (v := (xs (i + 3))) (zsin (c := 3) (j := 3) rfl hi (by decide) hL).1 (by rw [(zsin (c := 3) (j := 3) rfl hi (by decide) hL).2]) dL_law_752 ?_
      refine z_if_eq 760 dL_law_753 (by decide) (fun q => absurd q c1) (fun _ => ?_)
      refine z_iconst (v := 1) dL_law_756 rfl ?_
      refine z_goto 761 dL_law_757 (by decide) ?_
      refine z_aload_n 1 dL_law_761 rfl ?_
      refine z_iload 5 dL_law_762 rfl ?_
      refine z_iconst (v := 4) dL_law_764 rfl ?_
      refine z_iadd dL_law_765 ?_
      refine z_sld (v := (xs (i + 4))) (zsin (c := 4) (j := 4) rfl hi (by decide) hL).1 (by rw [(zsin (c := 4) (j := 4) rfl hi (by decide) hL).2]) dL_law_766 ?_
      refine z_callVi_fr (As := [.int (xs (i + 1)), .int (xs (i + 2)), .int 1, .int (xs (i + 4))]) (st := []) [] (wX0 cI cZ h a (s_X0_send u (xs (i + 1)) (xs (i + 2)) 1 (xs (i + 4))) ++ wO cJ o f3) (fun l => c_X1_send l D cI2 cZ2 h2 a2 v (xs (i + 1)) (xs (i + 2)) 1 (xs (i + 4)) nd hmd hd nn hmn hn) zGok_TT (fun _ _ _ => trivial) (fun s args hts => cwV 4 hts gL_law_X1_send rfl rfl rfl (by decide +kernel) ⟨Nat.le_of_ble_eq_true rfl, Nat.le_of_ble_eq_true rfl⟩) (ci := 1) rfl rfl rfl [2, 3] rfl rfl rfl (Nat.le_of_ble_eq_true rfl) ⟨by show _ ≤ 1064; omega, by show _ ≤ 9936; omega⟩ dL_law_767 rfl (fun r u2 hp => ?_)
      obtain ⟨rfl, rfl⟩ := hp
      refine z_istore (L' := [(6, .int (r_X1_send v (xs (i + 1)) (xs (i + 2)) 1 (xs (i + 4)))), (5, .int 0), (0, .ref b), (1, .ref h), (2, .ref h2), (3, .ref o), (4, .int (nI i))]) dL_law_770 (by decide) rfl ?_
      refine z_aload_n 4 dL_law_772 rfl ?_
      refine z_callVi_fr (As := []) (st := []) [] (wX0 cI cZ h a (s_X0_send u (xs (i + 1)) (xs (i + 2)) 1 (xs (i + 4))) ++ wO cJ o f3) (fun l => c_X1_thrown l D cI2 cZ2 h2 a2 (s_X1_send v (xs (i + 1)) (xs (i + 2)) 1 (xs (i + 4)))  ) zGok_TT (fun _ _ _ => trivial) (fun s args hts => cwV 0 hts gL_law_X1_thrown rfl rfl rfl (by decide +kernel) ⟨Nat.le_of_ble_eq_true rfl, Nat.le_of_ble_eq_true rfl⟩) (ci := 1) rfl rfl rfl [2, 3] rfl rfl rfl (Nat.le_of_ble_eq_true rfl) ⟨by show _ ≤ 1064; omega, by show _ ≤ 9936; omega⟩ dL_law_773 rfl (fun r u2 hp => ?_)
      subst hp
      refine z_iload 1 dL_law_776 rfl ?_
      refine z_icmp_eq 783 dL_law_778 (by decide) (fun _ => ?_) (fun q => absurd h0 q)
      refine z_iload 1 dL_law_783 rfl ?_
      refine z_if_ne 800 dL_law_785 (by decide) (fun q => absurd q (by decide)) (fun _ => ?_)
      refine z_aload_n 5 dL_law_788 rfl ?_
      refine z_iconst (v := 0) dL_law_789 rfl ?_
      refine z_lald (v := (f3 0)) 31 4 rfl rfl zin01 rfl dL_law_790 ?_
      refine z_iload 0 dL_law_791 rfl ?_
      refine z_i2l (v := ((r_X1_send v (xs (i + 1)) (xs (i + 2)) 1 (xs (i + 4)))).toInt64) dL_law_793 rfl ?_
      refine z_lcmpeq 800 (by rw [show f3 0 = _ from hf, hr]) dL_law_794 dL_law_795 (by decide) ?_
      refine z_goto 1497 dL_law_800 (by decide) ?_
      refine z_sub (L' := [(0, .ref b), (1, .ref h), (2, .ref h2), (3, .ref o), (4, .int (nI i))]) [2, 3, 4, 5, 6] rfl ?_
      exact K0 (s_X0_send u (xs (i + 1)) (xs (i + 2)) 1 (xs (i + 4))) (s_X1_send v (xs (i + 1)) (xs (i + 2)) 1 (xs (i + 4))) f3 hRn
    ·
      refine z_callWi_fr (As := [.ref h, .int (xs (i + 1)), .int (xs (i + 2)), .int 1, .int (xs (i + 4)), .ref o]) (st := []) (wX1 cI2 cZ2 h2 a2 v) [] (fun l hl9 => kx_send l (by rw [hl9]; exact hlt) D cI cZ cJ h a o u f (xs (i + 1)) (xs (i + 2)) 1 (xs (i + 4)) he nd hnd hd nn hnn hn hlk) zGok_U (fun _ _ q => q.1) (fun s args hts => vx_cwSW 6 hts gL_law_L_send rfl rfl rfl (by decide +kernel) ⟨Nat.le_of_ble_eq_true rfl, Nat.le_of_ble_eq_true rfl⟩) [0, 1, 4] rfl rfl rfl (Nat.le_of_ble_eq_true rfl) ⟨by show _ ≤ 1064; omega, by show _ ≤ 9936; omega⟩ dL_law_729 rfl (fun r u2 hp => ?_)
      subst hp
      refine z_eqw (w' := (wX1 cI2 cZ2 h2 a2 v ++ (wX0 cI cZ h a u ++ wO cJ o f))) rfl ?_
      refine z_istore (L' := [(5, .int (if e_X0_send u (xs (i + 1)) (xs (i + 2)) 1 (xs (i + 4)) = 1 then 1 else 2)), (0, .ref b), (1, .ref h), (2, .ref h2), (3, .ref o), (4, .int (nI i))]) dL_law_732 (by decide) rfl ?_
      refine z_aload_n 3 dL_law_734 rfl ?_
      refine z_aload_n 1 dL_law_735 rfl ?_
      refine z_iload 5 dL_law_736 rfl ?_
      refine z_iconst (v := 1) dL_law_738 rfl ?_
      refine z_iadd dL_law_739 ?_
      refine z_sld (v := (xs (i + 1))) (zsin (c := 1) (j := 1) rfl hi (by decide) hL).1 (by rw [(zsin (c := 1) (j := 1) rfl hi (by decide) hL).2]) dL_law_740 ?_
      refine z_aload_n 1 dL_law_741 rfl ?_
      refine z_iload 5 dL_law_742 rfl ?_
      refine z_iconst (v := 2) dL_law_744 rfl ?_
      refine z_iadd dL_law_745 ?_
      refine z_sld (v := (xs (i + 2))) (zsin (c := 2) (j := 2) rfl hi (by decide) hL).1 (by rw [(zsin (c := 2) (j := 2) rfl hi (by decide) hL).2]) dL_law_746 ?_
      refine z_aload_n 1 dL_law_747 rfl ?_
      refine z_iload 5 dL_law_748 rfl ?_
      refine z_iconst (v := 3) dL_law_750 rfl ?_
      refine z_iadd dL_law_751 ?_
      refine z_sld (v := (xs (i + 3))) (zsin (c := 3) (j := 3) rfl hi (by decide) hL).1 (by rw [(zsin (c := 3) (j := 3) rfl hi (by decide) hL).2]) dL_law_752 ?_
      refine z_if_eq 760 dL_law_753 (by decide) (fun q => absurd q c1) (fun _ => ?_)
      refine z_iconst (v := 1) dL_law_756 rfl ?_
      refine z_goto 761 dL_law_757 (by decide) ?_
      refine z_aload_n 1 dL_law_761 rfl ?_
      refine z_iload 5 dL_law_762 rfl ?_
      refine z_iconst (v := 4) dL_law_764 rfl ?_
      refine z_iadd dL_law_765 ?_
      refine z_sld (v := (xs (i + 4))) (zsin (c := 4) (j := 4) rfl hi (by decide) hL).1 (by rw [(zsin (c := 4) (j := 4) rfl hi (by decide) hL).2]) dL_law_766 ?_
      refine z_callVi_fr (As := [.int (xs (i + 1)), .int (xs (i + 2)), .int 1, .int (xs (i + 4))]) (st := []) [] (wX0 cI cZ h a u ++ wO cJ o f) (fun l => c_X1_send l D cI2 cZ2 h2 a2 v (xs (i + 1)) (xs (i + 2)) 1 (xs (i + 4)) nd hmd hd nn hmn hn) zGok_TT (fun _ _ _ => trivial) (fun s args hts => cwV 4 hts gL_law_X1_send rfl rfl rfl (by decide +kernel) ⟨Nat.le_of_ble_eq_true rfl, Nat.le_of_ble_eq_true rfl⟩) (ci := 1) rfl rfl rfl [2, 3] rfl rfl rfl (Nat.le_of_ble_eq_true rfl) ⟨by show _ ≤ 1064; omega, by show _ ≤ 9936; omega⟩ dL_law_767 rfl (fun r u2 hp => ?_)
      obtain ⟨rfl, rfl⟩ := hp
      refine z_istore (L' := [(6, .int (r_X1_send v (xs (i + 1)) (xs (i + 2)) 1 (xs (i + 4)))), (5, .int (if e_X0_send u (xs (i + 1)) (xs (i + 2)) 1 (xs (i + 4)) = 1 then 1 else 2)), (0, .ref b), (1, .ref h), (2, .ref h2), (3, .ref o), (4, .int (nI i))]) dL_law_770 (by decide) rfl ?_
      refine z_aload_n 4 dL_law_772 rfl ?_
      refine z_callVi_fr (As := []) (st := []) [] (wX0 cI cZ h a u ++ wO cJ o f) (fun l => c_X1_thrown l D cI2 cZ2 h2 a2 (s_X1_send v (xs (i + 1)) (xs (i + 2)) 1 (xs (i + 4)))  ) zGok_TT (fun _ _ _ => trivial) (fun s args hts => cwV 0 hts gL_law_X1_thrown rfl rfl rfl (by decide +kernel) ⟨Nat.le_of_ble_eq_true rfl, Nat.le_of_ble_eq_true rfl⟩) (ci := 1) rfl rfl rfl [2, 3] rfl rfl rfl (Nat.le_of_ble_eq_true rfl) ⟨by show _ ≤ 1064; omega, by show _ ≤ 9936; omega⟩ dL_law_773 rfl (fun r u2 hp => ?_)
      subst hp
      refine z_iload 1 dL_law_776 rfl ?_
      refine z_icmp_eq 783 dL_law_778 (by decide) (fun _ => ?_) (fun q => absurd h0 q)
      refine z_iload 1 dL_law_783 rfl ?_
      refine z_if_ne 800 dL_law_785 (by decide) (fun _ => ?_) (fun q => absurd q (by split <;> decide))
      refine z_goto 1497 dL_law_800 (by decide) ?_
      refine z_sub (L' := [(0, .ref b), (1, .ref h), (2, .ref h2), (3, .ref o), (4, .int (nI i))]) [2, 3, 4, 5, 6] rfl ?_
      exact K u (s_X1_send v (xs (i + 1)) (xs (i + 2)) 1 (xs (i + 4))) f hRn
set_option maxHeartbeats 8000000 in
set_option maxRecDepth 100000 in
theorem law_sendBy (E : ZE) (hlt : E.2.1.stackTraces = false) (b L : Nat) (xs : Nat → Int32) (D : va_G) (cI cZ cI2 cZ2 cJ : ClassId) (h h2 o : Nat) (a a2 : Nat → Nat) (hL : L ≤ 3072) (RR : SX → SX → Prop) (hWF : ∀ u v, RR u v → zWF u v) (hD : zD_sendBy RR) (i : Nat) (hi : i + 6 ≤ L) (u v : SX) (f : Nat → Int64) (cn sn : Nat) (hc1 : cn + 1 ≤ 1064) (hc2 : sn + 6 ≤ 9936) (hR : RR u v)
    (K : ∀ (u v : SX) (f : Nat → Int64), RR u v → ZW E (zGL b L xs) room_1 cL_law RL wsL_law 7 D [(cI, .int), (cZ, .boolean), (cI2, .int), (cZ2, .boolean), (cJ, .long)] (cn + 1) (sn + 6) (wX1 cI2 cZ2 h2 a2 v ++ (wX0 cI cZ h a u ++ wO cJ o f)) 1497 [(0, .ref b), (1, .ref h), (2, .ref h2), (3, .ref o), (4, .int (nI i))] []) : ZW E (zGL b L xs) room_1 cL_law RL wsL_law 7 D [(cI, .int), (cZ, .boolean), (cI2, .int), (cZ2, .boolean), (cJ, .long)] cn sn (wX1 cI2 cZ2 h2 a2 v ++ (wX0 cI cZ h a u ++ wO cJ o f)) 803 [(0, .ref b), (1, .ref h), (2, .ref h2), (3, .ref o), (4, .int (nI i))] [] := by
  obtain ⟨nd, nn, ⟨hnd, hd⟩, ⟨hnn, hn⟩, hlk, hmd, hmn⟩ := hWF u v hR
  have K0 : ∀ (u v : SX) (f : Nat → Int64), RR u v → ZW E (zGL b L xs) room_1 cL_law RL wsL_law 7 D [(cI, .int), (cZ, .boolean), (cI2, .int), (cZ2, .boolean), (cJ, .long)] cn sn (wX1 cI2 cZ2 h2 a2 v ++ (wX0 cI cZ h a u ++ wO cJ o f)) 1497 [(0, .ref b), (1, .ref h), (2, .ref h2), (3, .ref o), (4, .int (nI i))] [] := fun u v f h => z_widen (by omega) (by omega) (K u v f h)
  refine z_aload_n 1 dL_law_803 rfl ?_
  refine z_aload_n 0 dL_law_804 rfl ?_
  refine z_iload 4 dL_law_805 rfl ?_
  refine z_iconst (v := 1) dL_law_807 rfl ?_
  refine z_iadd dL_law_808 ?_
  refine z_sld (v := (xs (i + 1))) (zsin (c := 1) (j := 1) rfl hi (by decide) hL).1 (by rw [(zsin (c := 1) (j := 1) rfl hi (by decide) hL).2]) dL_law_809 ?_
  refine z_aload_n 0 dL_law_810 rfl ?_
  refine z_iload 4 dL_law_811 rfl ?_
  refine z_iconst (v := 2) dL_law_813 rfl ?_
  refine z_iadd dL_law_814 ?_
  refine z_sld (v := (xs (i + 2))) (zsin (c := 2) (j := 2) rfl hi (by decide) hL).1 (by rw [(zsin (c := 2) (j := 2) rfl hi (by decide) hL).2]) dL_law_815 ?_
  refine z_aload_n 0 dL_law_816 rfl ?_
  refine z_iload 4 dL_law_817 rfl ?_
  refine z_iconst (v := 3) dL_law_819 rfl ?_
  refine z_iadd dL_law_820 ?_
  refine z_sld (v := (xs (i + 3))) (zsin (c := 3) (j := 3) rfl hi (by decide) hL).1 (by rw [(zsin (c := 3) (j := 3) rfl hi (by decide) hL).2]) dL_law_821 ?_
  refine z_aload_n 0 dL_law_822 rfl ?_
  refine z_iload 4 dL_law_823 rfl ?_
  refine z_iconst (v := 4) dL_law_825 rfl ?_
  refine z_iadd dL_law_826 ?_
  refine z_sld (v := (xs (i + 4))) (zsin (c := 4) (j := 4) rfl hi (by decide) hL).1 (by rw [(zsin (c := 4) (j := 4) rfl hi (by decide) hL).2]) dL_law_827 ?_
  refine z_if_eq 835 dL_law_828 (by decide) (fun c1 => ?_) (fun c1 => ?_)
  ·
    refine z_iconst (v := 0) dL_law_835 rfl ?_
    refine z_aload_n 0 dL_law_836 rfl ?_
    refine z_iload 4 dL_law_837 rfl ?_
    refine z_iconst (v := 5) dL_law_839 rfl ?_
    refine z_iadd dL_law_840 ?_
    refine z_sld (v := (xs (i + 5))) (zsin (c := 5) (j := 5) rfl hi (by decide) hL).1 (by rw [(zsin (c := 5) (j := 5) rfl hi (by decide) hL).2]) dL_law_841 ?_
    refine z_aload_n 3 dL_law_842 rfl ?_
    rcases hD u v hR (xs (i + 1)) (xs (i + 2)) (xs (i + 3)) 0 (xs (i + 5)) (Or.inl rfl) with ⟨he, h0, hr, hRn⟩ | ⟨he, h0, hRn⟩
    ·
      refine z_callWi_fr (As := [.ref h, .int (xs (i + 1)), .int (xs (i + 2)), .int (xs (i + 3)), .int 0, .int (xs (i + 5)), .ref o]) (st := []) (wX1 cI2 cZ2 h2 a2 v) [] (fun l _ => kn_sendBy l D cI cZ cJ h a o u f (xs (i + 1)) (xs (i + 2)) (xs (i + 3)) 0 (xs (i + 5)) he nd hnd hd nn hnn hn) zGok_TT (fun _ _ _ => trivial) (fun s args hts => vx_cwSW 7 hts gL_law_L_sendBy rfl rfl rfl (by decide +kernel) ⟨Nat.le_of_ble_eq_true rfl, Nat.le_of_ble_eq_true rfl⟩) [0, 1, 4] rfl rfl rfl (Nat.le_of_ble_eq_true rfl) ⟨by show _ ≤ 1064; omega, by show _ ≤ 9936; omega⟩ dL_law_843 rfl (fun r u2 hp => ?_)
      obtain ⟨u3, f3⟩ := u2
      obtain ⟨rfl, hS, hf⟩ := hp
      have hS : u3 = (s_X0_sendBy u (xs (i + 1)) (xs (i + 2)) (xs (i + 3)) 0 (xs (i + 5))) := hS
      subst hS
      refine z_eqw (w' := (wX1 cI2 cZ2 h2 a2 v ++ (wX0 cI cZ h a (s_X0_sendBy u (xs (i + 1)) (xs (i + 2)) (xs (i + 3)) 0 (xs (i + 5))) ++ wO cJ o f3))) rfl ?_
      refine z_istore (L' := [(5, .int 0), (0, .ref b), (1, .ref h), (2, .ref h2), (3, .ref o), (4, .int (nI i))]) dL_law_846 (by decide) rfl ?_
      refine z_aload_n 3 dL_law_848 rfl ?_
      refine z_aload_n 1 dL_law_849 rfl ?_
      refine z_iload 5 dL_law_850 rfl ?_
      refine z_iconst (v := 1) dL_law_852 rfl ?_
      refine z_iadd dL_law_853 ?_
      refine z_sld (v := (xs (i + 1))) (zsin (c := 1) (j := 1) rfl hi (by decide) hL).1 (by rw [(zsin (c := 1) (j := 1) rfl hi (by decide) hL).2]) dL_law_854 ?_
      refine z_aload_n 1 dL_law_855 rfl ?_
      refine z_iload 5 dL_law_856 rfl ?_
      refine z_iconst (v := 2) dL_law_858 rfl ?_
      refine z_iadd dL_law_859 ?_
      refine z_sld (v := (xs (i + 2))) (zsin (c := 2) (j := 2) rfl hi (by decide) hL).1 (by rw [(zsin (c := 2) (j := 2) rfl hi (by decide) hL).2]) dL_law_860 ?_
      refine z_aload_n 1 dL_law_861 rfl ?_
      refine z_iload 5 dL_law_862 rfl ?_
      refine z_iconst (v := 3) dL_law_864 rfl ?_
      refine z_iadd dL_law_865 ?_
      refine z_sld (v := (xs (i + 3))) (zsin (c := 3) (j := 3) rfl hi (by decide) hL).1 (by rw [(zsin (c := 3) (j := 3) rfl hi (by decide) hL).2]) dL_law_866 ?_
      refine z_aload_n 1 dL_law_867 rfl ?_
      refine z_iload 5 dL_law_868 rfl ?_
      refine z_iconst (v := 4) dL_law_870 rfl ?_
      refine z_iadd dL_law_871 ?_
      refine z_sld (v := (xs (i + 4))) (zsin (c := 4) (j := 4) rfl hi (by decide) hL).1 (by rw [(zsin (c := 4) (j := 4) rfl hi (by decide) hL).2]) dL_law_872 ?_
      refine z_if_eq 880 dL_law_873 (by decide) (fun _ => ?_) (fun q => absurd c1 q)
      refine z_iconst (v := 0) dL_law_880 rfl ?_
      refine z_aload_n 1 dL_law_881 rfl ?_
      refine z_iload 5 dL_law_882 rfl ?_
      refine z_iconst (v := 5) dL_law_884 rfl ?_
      refine z_iadd dL_law_885 ?_
      refine z_sld (v := (xs (i + 5))) (zsin (c := 5) (j := 5) rfl hi (by decide) hL).1 (by rw [(zsin (c := 5) (j := 5) rfl hi (by decide) hL).2]) dL_law_886 ?_
      refine z_callVi_fr (As := [.int (xs (i + 1)), .int (xs (i + 2)), .int (xs (i + 3)), .int 0, .int (xs (i + 5))]) (st := []) [] (wX0 cI cZ h a (s_X0_sendBy u (xs (i + 1)) (xs (i + 2)) (xs (i + 3)) 0 (xs (i + 5))) ++ wO cJ o f3) (fun l => c_X1_sendBy l D cI2 cZ2 h2 a2 v (xs (i + 1)) (xs (i + 2)) (xs (i + 3)) 0 (xs (i + 5)) nd hmd hd nn hmn hn) zGok_TT (fun _ _ _ => trivial) (fun s args hts => cwV 5 hts gL_law_X1_sendBy rfl rfl rfl (by decide +kernel) ⟨Nat.le_of_ble_eq_true rfl, Nat.le_of_ble_eq_true rfl⟩) (ci := 1) rfl rfl rfl [2, 3] rfl rfl rfl (Nat.le_of_ble_eq_true rfl) ⟨by show _ ≤ 1064; omega, by show _ ≤ 9936; omega⟩ dL_law_887 rfl (fun r u2 hp => ?_)
      obtain ⟨rfl, rfl⟩ := hp
      refine z_istore (L' := [(6, .int (r_X1_sendBy v (xs (i + 1)) (xs (i + 2)) (xs (i + 3)) 0 (xs (i + 5)))), (5, .int 0), (0, .ref b), (1, .ref h), (2, .ref h2), (3, .ref o), (4, .int (nI i))]) dL_law_890 (by decide) rfl ?_
      refine z_aload_n 4 dL_law_892 rfl ?_
      refine z_callVi_fr (As := []) (st := []) [] (wX0 cI cZ h a (s_X0_sendBy u (xs (i + 1)) (xs (i + 2)) (xs (i + 3)) 0 (xs (i + 5))) ++ wO cJ o f3) (fun l => c_X1_thrown l D cI2 cZ2 h2 a2 (s_X1_sendBy v (xs (i + 1)) (xs (i + 2)) (xs (i + 3)) 0 (xs (i + 5)))  ) zGok_TT (fun _ _ _ => trivial) (fun s args hts => cwV 0 hts gL_law_X1_thrown rfl rfl rfl (by decide +kernel) ⟨Nat.le_of_ble_eq_true rfl, Nat.le_of_ble_eq_true rfl⟩) (ci := 1) rfl rfl rfl [2, 3] rfl rfl rfl (Nat.le_of_ble_eq_true rfl) ⟨by show _ ≤ 1064; omega, by show _ ≤ 9936; omega⟩ dL_law_893 rfl (fun r u2 hp => ?_)
      subst hp
      refine z_iload 1 dL_law_896 rfl ?_
      refine z_icmp_eq 903 dL_law_898 (by decide) (fun _ => ?_) (fun q => absurd h0 q)
      refine z_iload 1 dL_law_903 rfl ?_
      refine z_if_ne 920 dL_law_905 (by decide) (fun q => absurd q (by decide)) (fun _ => ?_)
      refine z_aload_n 5 dL_law_908 rfl ?_
      refine z_iconst (v := 0) dL_law_909 rfl ?_
      refine z_lald (v := (f3 0)) 31 4 rfl rfl zin01 rfl dL_law_910 ?_
      refine z_iload 0 dL_law_911 rfl ?_
      refine z_i2l (v := ((r_X1_sendBy v (xs (i + 1)) (xs (i + 2)) (xs (i + 3)) 0 (xs (i + 5)))).toInt64) dL_law_913 rfl ?_
      refine z_lcmpeq 920 (by rw [show f3 0 = _ from hf, hr]) dL_law_914 dL_law_915 (by decide) ?_
      refine z_goto 1497 dL_law_920 (by decide) ?_
      refine z_sub (L' := [(0, .ref b), (1, .ref h), (2, .ref h2), (3, .ref o), (4, .int (nI i))]) [2, 3, 4, 5, 6] rfl ?_
      exact K0 (s_X0_sendBy u (xs (i + 1)) (xs (i + 2)) (xs (i + 3)) 0 (xs (i + 5))) (s_X1_sendBy v (xs (i + 1)) (xs (i + 2)) (xs (i + 3)) 0 (xs (i + 5))) f3 hRn
    ·
      refine z_callWi_fr (As := [.ref h, .int (xs (i + 1)), .int (xs (i + 2)), .int (xs (i + 3)), .int 0, .int (xs (i + 5)), .ref o]) (st := []) (wX1 cI2 cZ2 h2 a2 v) [] (fun l hl9 => kx_sendBy l (by rw [hl9]; exact hlt) D cI cZ cJ h a o u f (xs (i + 1)) (xs (i + 2)) (xs (i + 3)) 0 (xs (i + 5)) he nd hnd hd nn hnn hn) zGok_U (fun _ _ q => q.1) (fun s args hts => vx_cwSW 7 hts gL_law_L_sendBy rfl rfl rfl (by decide +kernel) ⟨Nat.le_of_ble_eq_true rfl, Nat.le_of_ble_eq_true rfl⟩) [0, 1, 4] rfl rfl rfl (Nat.le_of_ble_eq_true rfl) ⟨by show _ ≤ 1064; omega, by show _ ≤ 9936; omega⟩ dL_law_843 rfl (fun r u2 hp => ?_)
      subst hp
      refine z_eqw (w' := (wX1 cI2 cZ2 h2 a2 v ++ (wX0 cI cZ h a u ++ wO cJ o f))) rfl ?_
      refine z_istore (L' := [(5, .int (if e_X0_sendBy u (xs (i + 1)) (xs (i + 2)) (xs (i + 3)) 0 (xs (i + 5)) = 1 then 1 else 2)), (0, .ref b), (1, .ref h), (2, .ref h2), (3, .ref o), (4, .int (nI i))]) dL_law_846 (by decide) rfl ?_
      refine z_aload_n 3 dL_law_848 rfl ?_
      refine z_aload_n 1 dL_law_849 rfl ?_
      refine z_iload 5 dL_law_850 rfl ?_
      refine z_iconst (v := 1) dL_law_852 rfl ?_
      refine z_iadd dL_law_853 ?_
      refine z_sld (v := (xs (i + 1))) (zsin (c := 1) (j := 1) rfl hi (by decide) hL).1 (by rw [(zsin (c := 1) (j := 1) rfl hi (by decide) hL).2]) dL_law_854 ?_
      refine z_aload_n 1 dL_law_855 rfl ?_
      refine z_iload 5 dL_law_856 rfl ?_
      refine z_iconst (v := 2) dL_law_858 rfl ?_
      refine z_iadd dL_law_859 ?_
      refine z_sld (v := (xs (i + 2))) (zsin (c := 2) (j := 2) rfl hi (by decide) hL).1 (by rw [(zsin (c := 2) (j := 2) rfl hi (by decide) hL).2]) dL_law_860 ?_
      refine z_aload_n 1 dL_law_861 rfl ?_
      refine z_iload 5 dL_law_862 rfl ?_
      refine z_iconst (v := 3) dL_law_864 rfl ?_
      refine z_iadd dL_law_865 ?_
      refine z_sld (v := (xs (i + 3))) (zsin (c := 3) (j := 3) rfl hi (by decide) hL).1 (by rw [(zsin (c := 3) (j := 3) rfl hi (by decide) hL).2]) dL_law_866 ?_
      refine z_aload_n 1 dL_law_867 rfl ?_
      refine z_iload 5 dL_law_868 rfl ?_
      refine z_iconst (v := 4) dL_law_870 rfl ?_
      refine z_iadd dL_law_871 ?_
      refine z_sld (v := (xs (i + 4))) (zsin (c := 4) (j := 4) rfl hi (by decide) hL).1 (by rw [(zsin (c := 4) (j := 4) rfl hi (by decide) hL).2]) dL_law_872 ?_
      refine z_if_eq 880 dL_law_873 (by decide) (fun _ => ?_) (fun q => absurd c1 q)
      refine z_iconst (v := 0) dL_law_880 rfl ?_
      refine z_aload_n 1 dL_law_881 rfl ?_
      refine z_iload 5 dL_law_882 rfl ?_
      refine z_iconst (v := 5) dL_law_884 rfl ?_
      refine z_iadd dL_law_885 ?_
      refine z_sld (v := (xs (i + 5))) (zsin (c := 5) (j := 5) rfl hi (by decide) hL).1 (by rw [(zsin (c := 5) (j := 5) rfl hi (by decide) hL).2]) dL_law_886 ?_
      refine z_callVi_fr (As := [.int (xs (i + 1)), .int (xs (i + 2)), .int (xs (i + 3)), .int 0, .int (xs (i + 5))]) (st := []) [] (wX0 cI cZ h a u ++ wO cJ o f) (fun l => c_X1_sendBy l D cI2 cZ2 h2 a2 v (xs (i + 1)) (xs (i + 2)) (xs (i + 3)) 0 (xs (i + 5)) nd hmd hd nn hmn hn) zGok_TT (fun _ _ _ => trivial) (fun s args hts => cwV 5 hts gL_law_X1_sendBy rfl rfl rfl (by decide +kernel) ⟨Nat.le_of_ble_eq_true rfl, Nat.le_of_ble_eq_true rfl⟩) (ci := 1) rfl rfl rfl [2, 3] rfl rfl rfl (Nat.le_of_ble_eq_true rfl) ⟨by show _ ≤ 1064; omega, by show _ ≤ 9936; omega⟩ dL_law_887 rfl (fun r u2 hp => ?_)
      obtain ⟨rfl, rfl⟩ := hp
      refine z_istore (L' := [(6, .int (r_X1_sendBy v (xs (i + 1)) (xs (i + 2)) (xs (i + 3)) 0 (xs (i + 5)))), (5, .int (if e_X0_sendBy u (xs (i + 1)) (xs (i + 2)) (xs (i + 3)) 0 (xs (i + 5)) = 1 then 1 else 2)), (0, .ref b), (1, .ref h), (2, .ref h2), (3, .ref o), (4, .int (nI i))]) dL_law_890 (by decide) rfl ?_
      refine z_aload_n 4 dL_law_892 rfl ?_
      refine z_callVi_fr (As := []) (st := []) [] (wX0 cI cZ h a u ++ wO cJ o f) (fun l => c_X1_thrown l D cI2 cZ2 h2 a2 (s_X1_sendBy v (xs (i + 1)) (xs (i + 2)) (xs (i + 3)) 0 (xs (i + 5)))  ) zGok_TT (fun _ _ _ => trivial) (fun s args hts => cwV 0 hts gL_law_X1_thrown rfl rfl rfl (by decide +kernel) ⟨Nat.le_of_ble_eq_true rfl, Nat.le_of_ble_eq_true rfl⟩) (ci := 1) rfl rfl rfl [2, 3] rfl rfl rfl (Nat.le_of_ble_eq_true rfl) ⟨by show _ ≤ 1064; omega, by show _ ≤ 9936; omega⟩ dL_law_893 rfl (fun r u2 hp => ?_)
      subst hp
      refine z_iload 1 dL_law_896 rfl ?_
      refine z_icmp_eq 903 dL_law_898 (by decide) (fun _ => ?_) (fun q => absurd h0 q)
      refine z_iload 1 dL_law_903 rfl ?_
      refine z_if_ne 920 dL_law_905 (by decide) (fun _ => ?_) (fun q => absurd q (by split <;> decide))
      refine z_goto 1497 dL_law_920 (by decide) ?_
      refine z_sub (L' := [(0, .ref b), (1, .ref h), (2, .ref h2), (3, .ref o), (4, .int (nI i))]) [2, 3, 4, 5, 6] rfl ?_
      exact K u (s_X1_sendBy v (xs (i + 1)) (xs (i + 2)) (xs (i + 3)) 0 (xs (i + 5))) f hRn
  ·
    refine z_iconst (v := 1) dL_law_831 rfl ?_
    refine z_goto 836 dL_law_832 (by decide) ?_
    refine z_aload_n 0 dL_law_836 rfl ?_
    refine z_iload 4 dL_law_837 rfl ?_
    refine z_iconst (v := 5) dL_law_839 rfl ?_
    refine z_iadd dL_law_840 ?_
    refine z_sld (v := (xs (i + 5))) (zsin (c := 5) (j := 5) rfl hi (by decide) hL).1 (by rw [(zsin (c := 5) (j := 5) rfl hi (by decide) hL).2]) dL_law_841 ?_
    refine z_aload_n 3 dL_law_842 rfl ?_
    rcases hD u v hR (xs (i + 1)) (xs (i + 2)) (xs (i + 3)) 1 (xs (i + 5)) (Or.inr rfl) with ⟨he, h0, hr, hRn⟩ | ⟨he, h0, hRn⟩
    ·
      refine z_callWi_fr (As := [.ref h, .int (xs (i + 1)), .int (xs (i + 2)), .int (xs (i + 3)), .int 1, .int (xs (i + 5)), .ref o]) (st := []) (wX1 cI2 cZ2 h2 a2 v) [] (fun l _ => kn_sendBy l D cI cZ cJ h a o u f (xs (i + 1)) (xs (i + 2)) (xs (i + 3)) 1 (xs (i + 5)) he nd hnd hd nn hnn hn) zGok_TT (fun _ _ _ => trivial) (fun s args hts => vx_cwSW 7 hts gL_law_L_sendBy rfl rfl rfl (by decide +kernel) ⟨Nat.le_of_ble_eq_true rfl, Nat.le_of_ble_eq_true rfl⟩) [0, 1, 4] rfl rfl rfl (Nat.le_of_ble_eq_true rfl) ⟨by show _ ≤ 1064; omega, by show _ ≤ 9936; omega⟩ dL_law_843 rfl (fun r u2 hp => ?_)
      obtain ⟨u3, f3⟩ := u2
      obtain ⟨rfl, hS, hf⟩ := hp
      have hS : u3 = (s_X0_sendBy u (xs (i + 1)) (xs (i + 2)) (xs (i + 3)) 1 (xs (i + 5))) := hS
      subst hS
      refine z_eqw (w' := (wX1 cI2 cZ2 h2 a2 v ++ (wX0 cI cZ h a (s_X0_sendBy u (xs (i + 1)) (xs (i + 2)) (xs (i + 3)) 1 (xs (i + 5))) ++ wO cJ o f3))) rfl ?_
      refine z_istore (L' := [(5, .int 0), (0, .ref b), (1, .ref h), (2, .ref h2), (3, .ref o), (4, .int (nI i))]) dL_law_846 (by decide) rfl ?_
      refine z_aload_n 3 dL_law_848 rfl ?_
      refine z_aload_n 1 dL_law_849 rfl ?_
      refine z_iload 5 dL_law_850 rfl ?_
      refine z_iconst (v := 1) dL_law_852 rfl ?_
      refine z_iadd dL_law_853 ?_
      refine z_sld (v := (xs (i + 1))) (zsin (c := 1) (j := 1) rfl hi (by decide) hL).1 (by rw [(zsin (c := 1) (j := 1) rfl hi (by decide) hL).2]) dL_law_854 ?_
      refine z_aload_n 1 dL_law_855 rfl ?_
      refine z_iload 5 dL_law_856 rfl ?_
      refine z_iconst (v := 2) dL_law_858 rfl ?_
      refine z_iadd dL_law_859 ?_
      refine z_sld (v := (xs (i + 2))) (zsin (c := 2) (j := 2) rfl hi (by decide) hL).1 (by rw [(zsin (c := 2) (j := 2) rfl hi (by decide) hL).2]) dL_law_860 ?_
      refine z_aload_n 1 dL_law_861 rfl ?_
      refine z_iload 5 dL_law_862 rfl ?_
      refine z_iconst (v := 3) dL_law_864 rfl ?_
      refine z_iadd dL_law_865 ?_
      refine z_sld (v := (xs (i + 3))) (zsin (c := 3) (j := 3) rfl hi (by decide) hL).1 (by rw [(zsin (c := 3) (j := 3) rfl hi (by decide) hL).2]) dL_law_866 ?_
      refine z_aload_n 1 dL_law_867 rfl ?_
      refine z_iload 5 dL_law_868 rfl ?_
      refine z_iconst (v := 4) dL_law_870 rfl ?_
      refine z_iadd dL_law_871 ?_
      refine z_sld (v := (xs (i + 4))) (zsin (c := 4) (j := 4) rfl hi (by decide) hL).1 (by rw [(zsin (c := 4) (j := 4) rfl hi (by decide) hL).2]) dL_law_872 ?_
      refine z_if_eq 880 dL_law_873 (by decide) (fun q => absurd q c1) (fun _ => ?_)
      refine z_iconst (v := 1) dL_law_876 rfl ?_
      refine z_goto 881 dL_law_877 (by decide) ?_
      refine z_aload_n 1 dL_law_881 rfl ?_
      refine z_iload 5 dL_law_882 rfl ?_
      refine z_iconst (v := 5) dL_law_884 rfl ?_
      refine z_iadd dL_law_885 ?_
      refine z_sld (v := (xs (i + 5))) (zsin (c := 5) (j := 5) rfl hi (by decide) hL).1 (by rw [(zsin (c := 5) (j := 5) rfl hi (by decide) hL).2]) dL_law_886 ?_
      refine z_callVi_fr (As := [.int (xs (i + 1)), .int (xs (i + 2)), .int (xs (i + 3)), .int 1, .int (xs (i + 5))]) (st := []) [] (wX0 cI cZ h a (s_X0_sendBy u (xs (i + 1)) (xs (i + 2)) (xs (i + 3)) 1 (xs (i + 5))) ++ wO cJ o f3) (fun l => c_X1_sendBy l D cI2 cZ2 h2 a2 v (xs (i + 1)) (xs (i + 2)) (xs (i + 3)) 1 (xs (i + 5)) nd hmd hd nn hmn hn) zGok_TT (fun _ _ _ => trivial) (fun s args hts => cwV 5 hts gL_law_X1_sendBy rfl rfl rfl (by decide +kernel) ⟨Nat.le_of_ble_eq_true rfl, Nat.le_of_ble_eq_true rfl⟩) (ci := 1) rfl rfl rfl [2, 3] rfl rfl rfl (Nat.le_of_ble_eq_true rfl) ⟨by show _ ≤ 1064; omega, by show _ ≤ 9936; omega⟩ dL_law_887 rfl (fun r u2 hp => ?_)
      obtain ⟨rfl, rfl⟩ := hp
      refine z_istore (L' := [(6, .int (r_X1_sendBy v (xs (i + 1)) (xs (i + 2)) (xs (i + 3)) 1 (xs (i + 5)))), (5, .int 0), (0, .ref b), (1, .ref h), (2, .ref h2), (3, .ref o), (4, .int (nI i))]) dL_law_890 (by decide) rfl ?_
      refine z_aload_n 4 dL_law_892 rfl ?_
      refine z_callVi_fr (As := []) (st := []) [] (wX0 cI cZ h a (s_X0_sendBy u (xs (i + 1)) (xs (i + 2)) (xs (i + 3)) 1 (xs (i + 5))) ++ wO cJ o f3) (fun l => c_X1_thrown l D cI2 cZ2 h2 a2 (s_X1_sendBy v (xs (i + 1)) (xs (i + 2)) (xs (i + 3)) 1 (xs (i + 5)))  ) zGok_TT (fun _ _ _ => trivial) (fun s args hts => cwV 0 hts gL_law_X1_thrown rfl rfl rfl (by decide +kernel) ⟨Nat.le_of_ble_eq_true rfl, Nat.le_of_ble_eq_true rfl⟩) (ci := 1) rfl rfl rfl [2, 3] rfl rfl rfl (Nat.le_of_ble_eq_true rfl) ⟨by show _ ≤ 1064; omega, by show _ ≤ 9936; omega⟩ dL_law_893 rfl (fun r u2 hp => ?_)
      subst hp
      refine z_iload 1 dL_law_896 rfl ?_
      refine z_icmp_eq 903 dL_law_898 (by decide) (fun _ => ?_) (fun q => absurd h0 q)
      refine z_iload 1 dL_law_903 rfl ?_
      refine z_if_ne 920 dL_law_905 (by decide) (fun q => absurd q (by decide)) (fun _ => ?_)
      refine z_aload_n 5 dL_law_908 rfl ?_
      refine z_iconst (v := 0) dL_law_909 rfl ?_
      refine z_lald (v := (f3 0)) 31 4 rfl rfl zin01 rfl dL_law_910 ?_
      refine z_iload 0 dL_law_911 rfl ?_
      refine z_i2l (v := ((r_X1_sendBy v (xs (i + 1)) (xs (i + 2)) (xs (i + 3)) 1 (xs (i + 5)))).toInt64) dL_law_913 rfl ?_
      refine z_lcmpeq 920 (by rw [show f3 0 = _ from hf, hr]) dL_law_914 dL_law_915 (by decide) ?_
      refine z_goto 1497 dL_law_920 (by decide) ?_
      refine z_sub (L' := [(0, .ref b), (1, .ref h), (2, .ref h2), (3, .ref o), (4, .int (nI i))]) [2, 3, 4, 5, 6] rfl ?_
      exact K0 (s_X0_sendBy u (xs (i + 1)) (xs (i + 2)) (xs (i + 3)) 1 (xs (i + 5))) (s_X1_sendBy v (xs (i + 1)) (xs (i + 2)) (xs (i + 3)) 1 (xs (i + 5))) f3 hRn
    ·
      refine z_callWi_fr (As := [.ref h, .int (xs (i + 1)), .int (xs (i + 2)), .int (xs (i + 3)), .int 1, .int (xs (i + 5)), .ref o]) (st := []) (wX1 cI2 cZ2 h2 a2 v) [] (fun l hl9 => kx_sendBy l (by rw [hl9]; exact hlt) D cI cZ cJ h a o u f (xs (i + 1)) (xs (i + 2)) (xs (i + 3)) 1 (xs (i + 5)) he nd hnd hd nn hnn hn) zGok_U (fun _ _ q => q.1) (fun s args hts => vx_cwSW 7 hts gL_law_L_sendBy rfl rfl rfl (by decide +kernel) ⟨Nat.le_of_ble_eq_true rfl, Nat.le_of_ble_eq_true rfl⟩) [0, 1, 4] rfl rfl rfl (Nat.le_of_ble_eq_true rfl) ⟨by show _ ≤ 1064; omega, by show _ ≤ 9936; omega⟩ dL_law_843 rfl (fun r u2 hp => ?_)
      subst hp
      refine z_eqw (w' := (wX1 cI2 cZ2 h2 a2 v ++ (wX0 cI cZ h a u ++ wO cJ o f))) rfl ?_
      refine z_istore (L' := [(5, .int (if e_X0_sendBy u (xs (i + 1)) (xs (i + 2)) (xs (i + 3)) 1 (xs (i + 5)) = 1 then 1 else 2)), (0, .ref b), (1, .ref h), (2, .ref h2), (3, .ref o), (4, .int (nI i))]) dL_law_846 (by decide) rfl ?_
      refine z_aload_n 3 dL_law_848 rfl ?_
      refine z_aload_n 1 dL_law_849 rfl ?_
      refine z_iload 5 dL_law_850 rfl ?_
      refine z_iconst (v := 1) dL_law_852 rfl ?_
      refine z_iadd dL_law_853 ?_
      refine z_sld (v := (xs (i + 1))) (zsin (c := 1) (j := 1) rfl hi (by decide) hL).1 (by rw [(zsin (c := 1) (j := 1) rfl hi (by decide) hL).2]) dL_law_854 ?_
      refine z_aload_n 1 dL_law_855 rfl ?_
      refine z_iload 5 dL_law_856 rfl ?_
      refine z_iconst (v := 2) dL_law_858 rfl ?_
      refine z_iadd dL_law_859 ?_
      refine z_sld (v := (xs (i + 2))) (zsin (c := 2) (j := 2) rfl hi (by decide) hL).1 (by rw [(zsin (c := 2) (j := 2) rfl hi (by decide) hL).2]) dL_law_860 ?_
      refine z_aload_n 1 dL_law_861 rfl ?_
      refine z_iload 5 dL_law_862 rfl ?_
      refine z_iconst (v := 3) dL_law_864 rfl ?_
      refine z_iadd dL_law_865 ?_
      refine z_sld (v := (xs (i + 3))) (zsin (c := 3) (j := 3) rfl hi (by decide) hL).1 (by rw [(zsin (c := 3) (j := 3) rfl hi (by decide) hL).2]) dL_law_866 ?_
      refine z_aload_n 1 dL_law_867 rfl ?_
      refine z_iload 5 dL_law_868 rfl ?_
      refine z_iconst (v := 4) dL_law_870 rfl ?_
      refine z_iadd dL_law_871 ?_
      refine z_sld (v := (xs (i + 4))) (zsin (c := 4) (j := 4) rfl hi (by decide) hL).1 (by rw [(zsin (c := 4) (j := 4) rfl hi (by decide) hL).2]) dL_law_872 ?_
      refine z_if_eq 880 dL_law_873 (by decide) (fun q => absurd q c1) (fun _ => ?_)
      refine z_iconst (v := 1) dL_law_876 rfl ?_
      refine z_goto 881 dL_law_877 (by decide) ?_
      refine z_aload_n 1 dL_law_881 rfl ?_
      refine z_iload 5 dL_law_882 rfl ?_
      refine z_iconst (v := 5) dL_law_884 rfl ?_
      refine z_iadd dL_law_885 ?_
      refine z_sld (v := (xs (i + 5))) (zsin (c := 5) (j := 5) rfl hi (by decide) hL).1 (by rw [(zsin (c := 5) (j := 5) rfl hi (by decide) hL).2]) dL_law_886 ?_
      refine z_callVi_fr (As := [.int (xs (i + 1)), .int (xs (i + 2)), .int (xs (i + 3)), .int 1, .int (xs (i + 5))]) (st := []) [] (wX0 cI cZ h a u ++ wO cJ o f) (fun l => c_X1_sendBy l D cI2 cZ2 h2 a2 v (xs (i + 1)) (xs (i + 2)) (xs (i + 3)) 1 (xs (i + 5)) nd hmd hd nn hmn hn) zGok_TT (fun _ _ _ => trivial) (fun s args hts => cwV 5 hts gL_law_X1_sendBy rfl rfl rfl (by decide +kernel) ⟨Nat.le_of_ble_eq_true rfl, Nat.le_of_ble_eq_true rfl⟩) (ci := 1) rfl rfl rfl [2, 3] rfl rfl rfl (Nat.le_of_ble_eq_true rfl) ⟨by show _ ≤ 1064; omega, by show _ ≤ 9936; omega⟩ dL_law_887 rfl (fun r u2 hp => ?_)
      obtain ⟨rfl, rfl⟩ := hp
      refine z_istore (L' := [(6, .int (r_X1_sendBy v (xs (i + 1)) (xs (i + 2)) (xs (i + 3)) 1 (xs (i + 5)))), (5, .int (if e_X0_sendBy u (xs (i + 1)) (xs (i + 2)) (xs (i + 3)) 1 (xs (i + 5)) = 1 then 1 else 2)), (0, .ref b), (1, .ref h), (2, .ref h2), (3, .ref o), (4, .int (nI i))]) dL_law_890 (by decide) rfl ?_
      refine z_aload_n 4 dL_law_892 rfl ?_
      refine z_callVi_fr (As := []) (st := []) [] (wX0 cI cZ h a u ++ wO cJ o f) (fun l => c_X1_thrown l D cI2 cZ2 h2 a2 (s_X1_sendBy v (xs (i + 1)) (xs (i + 2)) (xs (i + 3)) 1 (xs (i + 5)))  ) zGok_TT (fun _ _ _ => trivial) (fun s args hts => cwV 0 hts gL_law_X1_thrown rfl rfl rfl (by decide +kernel) ⟨Nat.le_of_ble_eq_true rfl, Nat.le_of_ble_eq_true rfl⟩) (ci := 1) rfl rfl rfl [2, 3] rfl rfl rfl (Nat.le_of_ble_eq_true rfl) ⟨by show _ ≤ 1064; omega, by show _ ≤ 9936; omega⟩ dL_law_893 rfl (fun r u2 hp => ?_)
      subst hp
      refine z_iload 1 dL_law_896 rfl ?_
      refine z_icmp_eq 903 dL_law_898 (by decide) (fun _ => ?_) (fun q => absurd h0 q)
      refine z_iload 1 dL_law_903 rfl ?_
      refine z_if_ne 920 dL_law_905 (by decide) (fun _ => ?_) (fun q => absurd q (by split <;> decide))
      refine z_goto 1497 dL_law_920 (by decide) ?_
      refine z_sub (L' := [(0, .ref b), (1, .ref h), (2, .ref h2), (3, .ref o), (4, .int (nI i))]) [2, 3, 4, 5, 6] rfl ?_
      exact K u (s_X1_sendBy v (xs (i + 1)) (xs (i + 2)) (xs (i + 3)) 1 (xs (i + 5))) f hRn
set_option maxHeartbeats 8000000 in
set_option maxRecDepth 100000 in
theorem law_read (E : ZE) (hlt : E.2.1.stackTraces = false) (b L : Nat) (xs : Nat → Int32) (D : va_G) (cI cZ cI2 cZ2 cJ : ClassId) (h h2 o : Nat) (a a2 : Nat → Nat) (hL : L ≤ 3072) (RR : SX → SX → Prop) (hWF : ∀ u v, RR u v → zWF u v) (hD : zD_read RR) (i : Nat) (hi : i + 6 ≤ L) (u v : SX) (f : Nat → Int64) (cn sn : Nat) (hc1 : cn + 1 ≤ 1064) (hc2 : sn + 6 ≤ 9936) (hR : RR u v)
    (K : ∀ (u v : SX) (f : Nat → Int64), RR u v → ZW E (zGL b L xs) room_1 cL_law RL wsL_law 7 D [(cI, .int), (cZ, .boolean), (cI2, .int), (cZ2, .boolean), (cJ, .long)] (cn + 1) (sn + 6) (wX1 cI2 cZ2 h2 a2 v ++ (wX0 cI cZ h a u ++ wO cJ o f)) 1497 [(0, .ref b), (1, .ref h), (2, .ref h2), (3, .ref o), (4, .int (nI i))] []) : ZW E (zGL b L xs) room_1 cL_law RL wsL_law 7 D [(cI, .int), (cZ, .boolean), (cI2, .int), (cZ2, .boolean), (cJ, .long)] cn sn (wX1 cI2 cZ2 h2 a2 v ++ (wX0 cI cZ h a u ++ wO cJ o f)) 923 [(0, .ref b), (1, .ref h), (2, .ref h2), (3, .ref o), (4, .int (nI i))] [] := by
  obtain ⟨nd, nn, ⟨hnd, hd⟩, ⟨hnn, hn⟩, hlk, hmd, hmn⟩ := hWF u v hR
  have K0 : ∀ (u v : SX) (f : Nat → Int64), RR u v → ZW E (zGL b L xs) room_1 cL_law RL wsL_law 7 D [(cI, .int), (cZ, .boolean), (cI2, .int), (cZ2, .boolean), (cJ, .long)] cn sn (wX1 cI2 cZ2 h2 a2 v ++ (wX0 cI cZ h a u ++ wO cJ o f)) 1497 [(0, .ref b), (1, .ref h), (2, .ref h2), (3, .ref o), (4, .int (nI i))] [] := fun u v f h => z_widen (by omega) (by omega) (K u v f h)
  refine z_aload_n 1 dL_law_923 rfl ?_
  refine z_aload_n 0 dL_law_924 rfl ?_
  refine z_iload 4 dL_law_925 rfl ?_
  refine z_iconst (v := 1) dL_law_927 rfl ?_
  refine z_iadd dL_law_928 ?_
  refine z_sld (v := (xs (i + 1))) (zsin (c := 1) (j := 1) rfl hi (by decide) hL).1 (by rw [(zsin (c := 1) (j := 1) rfl hi (by decide) hL).2]) dL_law_929 ?_
  refine z_aload_n 0 dL_law_930 rfl ?_
  refine z_iload 4 dL_law_931 rfl ?_
  refine z_iconst (v := 2) dL_law_933 rfl ?_
  refine z_iadd dL_law_934 ?_
  refine z_sld (v := (xs (i + 2))) (zsin (c := 2) (j := 2) rfl hi (by decide) hL).1 (by rw [(zsin (c := 2) (j := 2) rfl hi (by decide) hL).2]) dL_law_935 ?_
  refine z_aload_n 3 dL_law_936 rfl ?_
  rcases hD u v hR (xs (i + 1)) (xs (i + 2))  with ⟨he, h0, hr, hRn⟩ | ⟨he, h0, hRn⟩
  ·
    refine z_callWi_fr (As := [.ref h, .int (xs (i + 1)), .int (xs (i + 2)), .ref o]) (st := []) (wX1 cI2 cZ2 h2 a2 v) [] (fun l _ => kn_read l D cI cZ cJ h a o u f (xs (i + 1)) (xs (i + 2)) he nd hnd hd nn hnn hn) zGok_TT (fun _ _ _ => trivial) (fun s args hts => vx_cwSW 4 hts gL_law_L_read rfl rfl rfl (by decide +kernel) ⟨Nat.le_of_ble_eq_true rfl, Nat.le_of_ble_eq_true rfl⟩) [0, 1, 4] rfl rfl rfl (Nat.le_of_ble_eq_true rfl) ⟨by show _ ≤ 1064; omega, by show _ ≤ 9936; omega⟩ dL_law_937 rfl (fun r u2 hp => ?_)
    obtain ⟨u3, f3⟩ := u2
    obtain ⟨rfl, hS, hf⟩ := hp
    have hS : u3 = (s_X0_read u (xs (i + 1)) (xs (i + 2))) := hS
    subst hS
    refine z_eqw (w' := (wX1 cI2 cZ2 h2 a2 v ++ (wX0 cI cZ h a (s_X0_read u (xs (i + 1)) (xs (i + 2))) ++ wO cJ o f3))) rfl ?_
    refine z_istore (L' := [(5, .int 0), (0, .ref b), (1, .ref h), (2, .ref h2), (3, .ref o), (4, .int (nI i))]) dL_law_940 (by decide) rfl ?_
    refine z_aload_n 3 dL_law_942 rfl ?_
    refine z_aload_n 1 dL_law_943 rfl ?_
    refine z_iload 5 dL_law_944 rfl ?_
    refine z_iconst (v := 1) dL_law_946 rfl ?_
    refine z_iadd dL_law_947 ?_
    refine z_sld (v := (xs (i + 1))) (zsin (c := 1) (j := 1) rfl hi (by decide) hL).1 (by rw [(zsin (c := 1) (j := 1) rfl hi (by decide) hL).2]) dL_law_948 ?_
    refine z_aload_n 1 dL_law_949 rfl ?_
    refine z_iload 5 dL_law_950 rfl ?_
    refine z_iconst (v := 2) dL_law_952 rfl ?_
    refine z_iadd dL_law_953 ?_
    refine z_sld (v := (xs (i + 2))) (zsin (c := 2) (j := 2) rfl hi (by decide) hL).1 (by rw [(zsin (c := 2) (j := 2) rfl hi (by decide) hL).2]) dL_law_954 ?_
    refine z_callVi_fr (As := [.int (xs (i + 1)), .int (xs (i + 2))]) (st := []) [] (wX0 cI cZ h a (s_X0_read u (xs (i + 1)) (xs (i + 2))) ++ wO cJ o f3) (fun l => c_X1_read l D cI2 cZ2 h2 a2 v (xs (i + 1)) (xs (i + 2)) nd hmd hd nn hmn hn) zGok_TT (fun _ _ _ => trivial) (fun s args hts => cwV 2 hts gL_law_X1_read rfl rfl rfl (by decide +kernel) ⟨Nat.le_of_ble_eq_true rfl, Nat.le_of_ble_eq_true rfl⟩) (ci := 1) rfl rfl rfl [2, 3] rfl rfl rfl (Nat.le_of_ble_eq_true rfl) ⟨by show _ ≤ 1064; omega, by show _ ≤ 9936; omega⟩ dL_law_955 rfl (fun r u2 hp => ?_)
    obtain ⟨rfl, rfl⟩ := hp
    refine z_istore (L' := [(6, .int (r_X1_read v (xs (i + 1)) (xs (i + 2)))), (5, .int 0), (0, .ref b), (1, .ref h), (2, .ref h2), (3, .ref o), (4, .int (nI i))]) dL_law_958 (by decide) rfl ?_
    refine z_aload_n 4 dL_law_960 rfl ?_
    refine z_callVi_fr (As := []) (st := []) [] (wX0 cI cZ h a (s_X0_read u (xs (i + 1)) (xs (i + 2))) ++ wO cJ o f3) (fun l => c_X1_thrown l D cI2 cZ2 h2 a2 (s_X1_read v (xs (i + 1)) (xs (i + 2)))  ) zGok_TT (fun _ _ _ => trivial) (fun s args hts => cwV 0 hts gL_law_X1_thrown rfl rfl rfl (by decide +kernel) ⟨Nat.le_of_ble_eq_true rfl, Nat.le_of_ble_eq_true rfl⟩) (ci := 1) rfl rfl rfl [2, 3] rfl rfl rfl (Nat.le_of_ble_eq_true rfl) ⟨by show _ ≤ 1064; omega, by show _ ≤ 9936; omega⟩ dL_law_961 rfl (fun r u2 hp => ?_)
    subst hp
    refine z_iload 1 dL_law_964 rfl ?_
    refine z_icmp_eq 971 dL_law_966 (by decide) (fun _ => ?_) (fun q => absurd h0 q)
    refine z_iload 1 dL_law_971 rfl ?_
    refine z_if_ne 988 dL_law_973 (by decide) (fun q => absurd q (by decide)) (fun _ => ?_)
    refine z_aload_n 5 dL_law_976 rfl ?_
    refine z_iconst (v := 0) dL_law_977 rfl ?_
    refine z_lald (v := (f3 0)) 31 4 rfl rfl zin01 rfl dL_law_978 ?_
    refine z_iload 0 dL_law_979 rfl ?_
    refine z_i2l (v := ((r_X1_read v (xs (i + 1)) (xs (i + 2)))).toInt64) dL_law_981 rfl ?_
    refine z_lcmpeq 988 (by rw [show f3 0 = _ from hf, hr]) dL_law_982 dL_law_983 (by decide) ?_
    refine z_goto 1497 dL_law_988 (by decide) ?_
    refine z_sub (L' := [(0, .ref b), (1, .ref h), (2, .ref h2), (3, .ref o), (4, .int (nI i))]) [2, 3, 4, 5, 6] rfl ?_
    exact K0 (s_X0_read u (xs (i + 1)) (xs (i + 2))) (s_X1_read v (xs (i + 1)) (xs (i + 2))) f3 hRn
  ·
    refine z_callWi_fr (As := [.ref h, .int (xs (i + 1)), .int (xs (i + 2)), .ref o]) (st := []) (wX1 cI2 cZ2 h2 a2 v) [] (fun l hl9 => kx_read l (by rw [hl9]; exact hlt) D cI cZ cJ h a o u f (xs (i + 1)) (xs (i + 2)) he nd hnd hd nn hnn hn) zGok_U (fun _ _ q => q.1) (fun s args hts => vx_cwSW 4 hts gL_law_L_read rfl rfl rfl (by decide +kernel) ⟨Nat.le_of_ble_eq_true rfl, Nat.le_of_ble_eq_true rfl⟩) [0, 1, 4] rfl rfl rfl (Nat.le_of_ble_eq_true rfl) ⟨by show _ ≤ 1064; omega, by show _ ≤ 9936; omega⟩ dL_law_937 rfl (fun r u2 hp => ?_)
    subst hp
    refine z_eqw (w' := (wX1 cI2 cZ2 h2 a2 v ++ (wX0 cI cZ h a u ++ wO cJ o f))) rfl ?_
    refine z_istore (L' := [(5, .int (if e_X0_read u (xs (i + 1)) (xs (i + 2)) = 3 then 1 else 2)), (0, .ref b), (1, .ref h), (2, .ref h2), (3, .ref o), (4, .int (nI i))]) dL_law_940 (by decide) rfl ?_
    refine z_aload_n 3 dL_law_942 rfl ?_
    refine z_aload_n 1 dL_law_943 rfl ?_
    refine z_iload 5 dL_law_944 rfl ?_
    refine z_iconst (v := 1) dL_law_946 rfl ?_
    refine z_iadd dL_law_947 ?_
    refine z_sld (v := (xs (i + 1))) (zsin (c := 1) (j := 1) rfl hi (by decide) hL).1 (by rw [(zsin (c := 1) (j := 1) rfl hi (by decide) hL).2]) dL_law_948 ?_
    refine z_aload_n 1 dL_law_949 rfl ?_
    refine z_iload 5 dL_law_950 rfl ?_
    refine z_iconst (v := 2) dL_law_952 rfl ?_
    refine z_iadd dL_law_953 ?_
    refine z_sld (v := (xs (i + 2))) (zsin (c := 2) (j := 2) rfl hi (by decide) hL).1 (by rw [(zsin (c := 2) (j := 2) rfl hi (by decide) hL).2]) dL_law_954 ?_
    refine z_callVi_fr (As := [.int (xs (i + 1)), .int (xs (i + 2))]) (st := []) [] (wX0 cI cZ h a u ++ wO cJ o f) (fun l => c_X1_read l D cI2 cZ2 h2 a2 v (xs (i + 1)) (xs (i + 2)) nd hmd hd nn hmn hn) zGok_TT (fun _ _ _ => trivial) (fun s args hts => cwV 2 hts gL_law_X1_read rfl rfl rfl (by decide +kernel) ⟨Nat.le_of_ble_eq_true rfl, Nat.le_of_ble_eq_true rfl⟩) (ci := 1) rfl rfl rfl [2, 3] rfl rfl rfl (Nat.le_of_ble_eq_true rfl) ⟨by show _ ≤ 1064; omega, by show _ ≤ 9936; omega⟩ dL_law_955 rfl (fun r u2 hp => ?_)
    obtain ⟨rfl, rfl⟩ := hp
    refine z_istore (L' := [(6, .int (r_X1_read v (xs (i + 1)) (xs (i + 2)))), (5, .int (if e_X0_read u (xs (i + 1)) (xs (i + 2)) = 3 then 1 else 2)), (0, .ref b), (1, .ref h), (2, .ref h2), (3, .ref o), (4, .int (nI i))]) dL_law_958 (by decide) rfl ?_
    refine z_aload_n 4 dL_law_960 rfl ?_
    refine z_callVi_fr (As := []) (st := []) [] (wX0 cI cZ h a u ++ wO cJ o f) (fun l => c_X1_thrown l D cI2 cZ2 h2 a2 (s_X1_read v (xs (i + 1)) (xs (i + 2)))  ) zGok_TT (fun _ _ _ => trivial) (fun s args hts => cwV 0 hts gL_law_X1_thrown rfl rfl rfl (by decide +kernel) ⟨Nat.le_of_ble_eq_true rfl, Nat.le_of_ble_eq_true rfl⟩) (ci := 1) rfl rfl rfl [2, 3] rfl rfl rfl (Nat.le_of_ble_eq_true rfl) ⟨by show _ ≤ 1064; omega, by show _ ≤ 9936; omega⟩ dL_law_961 rfl (fun r u2 hp => ?_)
    subst hp
    refine z_iload 1 dL_law_964 rfl ?_
    refine z_icmp_eq 971 dL_law_966 (by decide) (fun _ => ?_) (fun q => absurd h0 q)
    refine z_iload 1 dL_law_971 rfl ?_
    refine z_if_ne 988 dL_law_973 (by decide) (fun _ => ?_) (fun q => absurd q (by split <;> decide))
    refine z_goto 1497 dL_law_988 (by decide) ?_
    refine z_sub (L' := [(0, .ref b), (1, .ref h), (2, .ref h2), (3, .ref o), (4, .int (nI i))]) [2, 3, 4, 5, 6] rfl ?_
    exact K u (s_X1_read v (xs (i + 1)) (xs (i + 2))) f hRn
set_option maxHeartbeats 8000000 in
set_option maxRecDepth 100000 in
theorem law_sent (E : ZE) (hlt : E.2.1.stackTraces = false) (b L : Nat) (xs : Nat → Int32) (D : va_G) (cI cZ cI2 cZ2 cJ : ClassId) (h h2 o : Nat) (a a2 : Nat → Nat) (hL : L ≤ 3072) (RR : SX → SX → Prop) (hWF : ∀ u v, RR u v → zWF u v) (hD : zD_sent RR) (i : Nat) (hi : i + 6 ≤ L) (u v : SX) (f : Nat → Int64) (cn sn : Nat) (hc1 : cn + 1 ≤ 1064) (hc2 : sn + 6 ≤ 9936) (hR : RR u v)
    (K : ∀ (u v : SX) (f : Nat → Int64), RR u v → ZW E (zGL b L xs) room_1 cL_law RL wsL_law 7 D [(cI, .int), (cZ, .boolean), (cI2, .int), (cZ2, .boolean), (cJ, .long)] (cn + 1) (sn + 6) (wX1 cI2 cZ2 h2 a2 v ++ (wX0 cI cZ h a u ++ wO cJ o f)) 1497 [(0, .ref b), (1, .ref h), (2, .ref h2), (3, .ref o), (4, .int (nI i))] []) : ZW E (zGL b L xs) room_1 cL_law RL wsL_law 7 D [(cI, .int), (cZ, .boolean), (cI2, .int), (cZ2, .boolean), (cJ, .long)] cn sn (wX1 cI2 cZ2 h2 a2 v ++ (wX0 cI cZ h a u ++ wO cJ o f)) 991 [(0, .ref b), (1, .ref h), (2, .ref h2), (3, .ref o), (4, .int (nI i))] [] := by
  obtain ⟨nd, nn, ⟨hnd, hd⟩, ⟨hnn, hn⟩, hlk, hmd, hmn⟩ := hWF u v hR
  have K0 : ∀ (u v : SX) (f : Nat → Int64), RR u v → ZW E (zGL b L xs) room_1 cL_law RL wsL_law 7 D [(cI, .int), (cZ, .boolean), (cI2, .int), (cZ2, .boolean), (cJ, .long)] cn sn (wX1 cI2 cZ2 h2 a2 v ++ (wX0 cI cZ h a u ++ wO cJ o f)) 1497 [(0, .ref b), (1, .ref h), (2, .ref h2), (3, .ref o), (4, .int (nI i))] [] := fun u v f h => z_widen (by omega) (by omega) (K u v f h)
  obtain ⟨hr, hRn⟩ := hD u v hR
  refine z_aload_n 1 dL_law_991 rfl ?_
  refine z_callVi_fr (As := []) (st := []) (wX1 cI2 cZ2 h2 a2 v) (wO cJ o f) (fun l => c_X0_sent l D cI cZ h a u) zGok_TT (fun _ _ _ => trivial) (fun s args hts => cwV 0 hts gL_law_X0_sent rfl rfl rfl (by decide +kernel) ⟨Nat.le_of_ble_eq_true rfl, Nat.le_of_ble_eq_true rfl⟩) (ci := 0) rfl rfl rfl [0, 1] rfl rfl rfl (Nat.le_of_ble_eq_true rfl) ⟨by show _ ≤ 1064; omega, by show _ ≤ 9936; omega⟩ dL_law_992 rfl (fun r u2 hp => ?_)
  subst hp
  refine z_aload_n 2 dL_law_995 rfl ?_
  refine z_callVi_fr (As := []) (st := [.int (r_X0_sent u)]) [] (wX0 cI cZ h a u ++ wO cJ o f) (fun l => c_X1_sent l D cI2 cZ2 h2 a2 v  ) zGok_TT (fun _ _ _ => trivial) (fun s args hts => cwV 0 hts gL_law_X1_sent rfl rfl rfl (by decide +kernel) ⟨Nat.le_of_ble_eq_true rfl, Nat.le_of_ble_eq_true rfl⟩) (ci := 1) rfl rfl rfl [2, 3] rfl rfl rfl (Nat.le_of_ble_eq_true rfl) ⟨by show _ ≤ 1064; omega, by show _ ≤ 9936; omega⟩ dL_law_996 rfl (fun r u2 hp => ?_)
  obtain ⟨rfl, rfl⟩ := hp
  refine z_icmp_eq 1497 dL_law_999 (by decide) (fun _ => ?_) (fun q => absurd hr q)
  refine z_sub (L' := [(0, .ref b), (1, .ref h), (2, .ref h2), (3, .ref o), (4, .int (nI i))]) [0, 1, 2, 3, 4] rfl ?_
  exact K0 u (s_X1_sent v) f hRn
set_option maxHeartbeats 8000000 in
set_option maxRecDepth 100000 in
theorem law_stands (E : ZE) (hlt : E.2.1.stackTraces = false) (b L : Nat) (xs : Nat → Int32) (D : va_G) (cI cZ cI2 cZ2 cJ : ClassId) (h h2 o : Nat) (a a2 : Nat → Nat) (hL : L ≤ 3072) (RR : SX → SX → Prop) (hWF : ∀ u v, RR u v → zWF u v) (hD : zD_stands RR) (i : Nat) (hi : i + 6 ≤ L) (u v : SX) (f : Nat → Int64) (cn sn : Nat) (hc1 : cn + 1 ≤ 1064) (hc2 : sn + 6 ≤ 9936) (hR : RR u v)
    (K : ∀ (u v : SX) (f : Nat → Int64), RR u v → ZW E (zGL b L xs) room_1 cL_law RL wsL_law 7 D [(cI, .int), (cZ, .boolean), (cI2, .int), (cZ2, .boolean), (cJ, .long)] (cn + 1) (sn + 6) (wX1 cI2 cZ2 h2 a2 v ++ (wX0 cI cZ h a u ++ wO cJ o f)) 1497 [(0, .ref b), (1, .ref h), (2, .ref h2), (3, .ref o), (4, .int (nI i))] []) : ZW E (zGL b L xs) room_1 cL_law RL wsL_law 7 D [(cI, .int), (cZ, .boolean), (cI2, .int), (cZ2, .boolean), (cJ, .long)] cn sn (wX1 cI2 cZ2 h2 a2 v ++ (wX0 cI cZ h a u ++ wO cJ o f)) 1004 [(0, .ref b), (1, .ref h), (2, .ref h2), (3, .ref o), (4, .int (nI i))] [] := by
  obtain ⟨nd, nn, ⟨hnd, hd⟩, ⟨hnn, hn⟩, hlk, hmd, hmn⟩ := hWF u v hR
  have K0 : ∀ (u v : SX) (f : Nat → Int64), RR u v → ZW E (zGL b L xs) room_1 cL_law RL wsL_law 7 D [(cI, .int), (cZ, .boolean), (cI2, .int), (cZ2, .boolean), (cJ, .long)] cn sn (wX1 cI2 cZ2 h2 a2 v ++ (wX0 cI cZ h a u ++ wO cJ o f)) 1497 [(0, .ref b), (1, .ref h), (2, .ref h2), (3, .ref o), (4, .int (nI i))] [] := fun u v f h => z_widen (by omega) (by omega) (K u v f h)
  refine z_aload_n 1 dL_law_1004 rfl ?_
  refine z_aload_n 0 dL_law_1005 rfl ?_
  refine z_iload 4 dL_law_1006 rfl ?_
  refine z_iconst (v := 1) dL_law_1008 rfl ?_
  refine z_iadd dL_law_1009 ?_
  refine z_sld (v := (xs (i + 1))) (zsin (c := 1) (j := 1) rfl hi (by decide) hL).1 (by rw [(zsin (c := 1) (j := 1) rfl hi (by decide) hL).2]) dL_law_1010 ?_
  refine z_aload_n 3 dL_law_1011 rfl ?_
  rcases hD u v hR (xs (i + 1))  with ⟨he, h0, hr, hRn⟩ | ⟨he, h0, hRn⟩
  ·
    refine z_callWi_fr (As := [.ref h, .int (xs (i + 1)), .ref o]) (st := []) (wX1 cI2 cZ2 h2 a2 v) [] (fun l _ => kn_stands l D cI cZ cJ h a o u f (xs (i + 1)) he nn hnn hn) zGok_TT (fun _ _ _ => trivial) (fun s args hts => vx_cwSW 3 hts gL_law_L_stands rfl rfl rfl (by decide +kernel) ⟨Nat.le_of_ble_eq_true rfl, Nat.le_of_ble_eq_true rfl⟩) [0, 1, 4] rfl rfl rfl (Nat.le_of_ble_eq_true rfl) ⟨by show _ ≤ 1064; omega, by show _ ≤ 9936; omega⟩ dL_law_1012 rfl (fun r u2 hp => ?_)
    obtain ⟨u3, f3⟩ := u2
    obtain ⟨rfl, hS, hf⟩ := hp
    have hS : u = u3 := hS.symm
    subst hS
    refine z_eqw (w' := (wX1 cI2 cZ2 h2 a2 v ++ (wX0 cI cZ h a u ++ wO cJ o f3))) rfl ?_
    refine z_istore (L' := [(5, .int 0), (0, .ref b), (1, .ref h), (2, .ref h2), (3, .ref o), (4, .int (nI i))]) dL_law_1015 (by decide) rfl ?_
    refine z_aload_n 3 dL_law_1017 rfl ?_
    refine z_aload_n 1 dL_law_1018 rfl ?_
    refine z_iload 5 dL_law_1019 rfl ?_
    refine z_iconst (v := 1) dL_law_1021 rfl ?_
    refine z_iadd dL_law_1022 ?_
    refine z_sld (v := (xs (i + 1))) (zsin (c := 1) (j := 1) rfl hi (by decide) hL).1 (by rw [(zsin (c := 1) (j := 1) rfl hi (by decide) hL).2]) dL_law_1023 ?_
    refine z_callVi_fr (As := [.int (xs (i + 1))]) (st := []) [] (wX0 cI cZ h a u ++ wO cJ o f3) (fun l => c_X1_stands l D cI2 cZ2 h2 a2 v (xs (i + 1)) nn hmn hn) zGok_TT (fun _ _ _ => trivial) (fun s args hts => cwV 1 hts gL_law_X1_stands rfl rfl rfl (by decide +kernel) ⟨Nat.le_of_ble_eq_true rfl, Nat.le_of_ble_eq_true rfl⟩) (ci := 1) rfl rfl rfl [2, 3] rfl rfl rfl (Nat.le_of_ble_eq_true rfl) ⟨by show _ ≤ 1064; omega, by show _ ≤ 9936; omega⟩ dL_law_1024 rfl (fun r u2 hp => ?_)
    obtain ⟨rfl, rfl⟩ := hp
    refine z_istore (L' := [(6, .int (r_X1_stands v (xs (i + 1)))), (5, .int 0), (0, .ref b), (1, .ref h), (2, .ref h2), (3, .ref o), (4, .int (nI i))]) dL_law_1027 (by decide) rfl ?_
    refine z_aload_n 4 dL_law_1029 rfl ?_
    refine z_callVi_fr (As := []) (st := []) [] (wX0 cI cZ h a u ++ wO cJ o f3) (fun l => c_X1_thrown l D cI2 cZ2 h2 a2 (s_X1_stands v (xs (i + 1)))  ) zGok_TT (fun _ _ _ => trivial) (fun s args hts => cwV 0 hts gL_law_X1_thrown rfl rfl rfl (by decide +kernel) ⟨Nat.le_of_ble_eq_true rfl, Nat.le_of_ble_eq_true rfl⟩) (ci := 1) rfl rfl rfl [2, 3] rfl rfl rfl (Nat.le_of_ble_eq_true rfl) ⟨by show _ ≤ 1064; omega, by show _ ≤ 9936; omega⟩ dL_law_1030 rfl (fun r u2 hp => ?_)
    subst hp
    refine z_iload 1 dL_law_1033 rfl ?_
    refine z_icmp_eq 1040 dL_law_1035 (by decide) (fun _ => ?_) (fun q => absurd h0 q)
    refine z_iload 1 dL_law_1040 rfl ?_
    refine z_if_ne 1064 dL_law_1042 (by decide) (fun q => absurd q (by decide)) (fun _ => ?_)
    refine z_aload_n 5 dL_law_1045 rfl ?_
    refine z_iconst (v := 0) dL_law_1046 rfl ?_
    refine z_lald (v := (f3 0)) 31 4 rfl rfl zin01 rfl dL_law_1047 ?_
    refine z_iload 0 dL_law_1048 rfl ?_
    refine z_if_eq 1057 dL_law_1050 (by decide) (fun c1 => ?_) (fun c1 => ?_)
    ·
      refine z_lconst (v := 0) dL_law_1057 rfl ?_
      refine z_lcmpeq 1064 (by rw [show f3 0 = _ from hf, hr, if_pos c1]) dL_law_1058 dL_law_1059 (by decide) ?_
      refine z_goto 1497 dL_law_1064 (by decide) ?_
      refine z_sub (L' := [(0, .ref b), (1, .ref h), (2, .ref h2), (3, .ref o), (4, .int (nI i))]) [2, 3, 4, 5, 6] rfl ?_
      exact K0 u (s_X1_stands v (xs (i + 1))) f3 hRn
    ·
      refine z_lconst (v := 1) dL_law_1053 rfl ?_
      refine z_goto 1058 dL_law_1054 (by decide) ?_
      refine z_lcmpeq 1064 (by rw [show f3 0 = _ from hf, hr, if_neg c1]) dL_law_1058 dL_law_1059 (by decide) ?_
      refine z_goto 1497 dL_law_1064 (by decide) ?_
      refine z_sub (L' := [(0, .ref b), (1, .ref h), (2, .ref h2), (3, .ref o), (4, .int (nI i))]) [2, 3, 4, 5, 6] rfl ?_
      exact K0 u (s_X1_stands v (xs (i + 1))) f3 hRn
  ·
    refine z_callWi_fr (As := [.ref h, .int (xs (i + 1)), .ref o]) (st := []) (wX1 cI2 cZ2 h2 a2 v) [] (fun l hl9 => kx_stands l (by rw [hl9]; exact hlt) D cI cZ cJ h a o u f (xs (i + 1)) he nn hnn hn) zGok_U (fun _ _ q => q.1) (fun s args hts => vx_cwSW 3 hts gL_law_L_stands rfl rfl rfl (by decide +kernel) ⟨Nat.le_of_ble_eq_true rfl, Nat.le_of_ble_eq_true rfl⟩) [0, 1, 4] rfl rfl rfl (Nat.le_of_ble_eq_true rfl) ⟨by show _ ≤ 1064; omega, by show _ ≤ 9936; omega⟩ dL_law_1012 rfl (fun r u2 hp => ?_)
    subst hp
    refine z_eqw (w' := (wX1 cI2 cZ2 h2 a2 v ++ (wX0 cI cZ h a u ++ wO cJ o f))) rfl ?_
    refine z_istore (L' := [(5, .int 1), (0, .ref b), (1, .ref h), (2, .ref h2), (3, .ref o), (4, .int (nI i))]) dL_law_1015 (by decide) rfl ?_
    refine z_aload_n 3 dL_law_1017 rfl ?_
    refine z_aload_n 1 dL_law_1018 rfl ?_
    refine z_iload 5 dL_law_1019 rfl ?_
    refine z_iconst (v := 1) dL_law_1021 rfl ?_
    refine z_iadd dL_law_1022 ?_
    refine z_sld (v := (xs (i + 1))) (zsin (c := 1) (j := 1) rfl hi (by decide) hL).1 (by rw [(zsin (c := 1) (j := 1) rfl hi (by decide) hL).2]) dL_law_1023 ?_
    refine z_callVi_fr (As := [.int (xs (i + 1))]) (st := []) [] (wX0 cI cZ h a u ++ wO cJ o f) (fun l => c_X1_stands l D cI2 cZ2 h2 a2 v (xs (i + 1)) nn hmn hn) zGok_TT (fun _ _ _ => trivial) (fun s args hts => cwV 1 hts gL_law_X1_stands rfl rfl rfl (by decide +kernel) ⟨Nat.le_of_ble_eq_true rfl, Nat.le_of_ble_eq_true rfl⟩) (ci := 1) rfl rfl rfl [2, 3] rfl rfl rfl (Nat.le_of_ble_eq_true rfl) ⟨by show _ ≤ 1064; omega, by show _ ≤ 9936; omega⟩ dL_law_1024 rfl (fun r u2 hp => ?_)
    obtain ⟨rfl, rfl⟩ := hp
    refine z_istore (L' := [(6, .int (r_X1_stands v (xs (i + 1)))), (5, .int 1), (0, .ref b), (1, .ref h), (2, .ref h2), (3, .ref o), (4, .int (nI i))]) dL_law_1027 (by decide) rfl ?_
    refine z_aload_n 4 dL_law_1029 rfl ?_
    refine z_callVi_fr (As := []) (st := []) [] (wX0 cI cZ h a u ++ wO cJ o f) (fun l => c_X1_thrown l D cI2 cZ2 h2 a2 (s_X1_stands v (xs (i + 1)))  ) zGok_TT (fun _ _ _ => trivial) (fun s args hts => cwV 0 hts gL_law_X1_thrown rfl rfl rfl (by decide +kernel) ⟨Nat.le_of_ble_eq_true rfl, Nat.le_of_ble_eq_true rfl⟩) (ci := 1) rfl rfl rfl [2, 3] rfl rfl rfl (Nat.le_of_ble_eq_true rfl) ⟨by show _ ≤ 1064; omega, by show _ ≤ 9936; omega⟩ dL_law_1030 rfl (fun r u2 hp => ?_)
    subst hp
    refine z_iload 1 dL_law_1033 rfl ?_
    refine z_icmp_eq 1040 dL_law_1035 (by decide) (fun _ => ?_) (fun q => absurd h0 q)
    refine z_iload 1 dL_law_1040 rfl ?_
    refine z_if_ne 1064 dL_law_1042 (by decide) (fun _ => ?_) (fun q => absurd q (by decide))
    refine z_goto 1497 dL_law_1064 (by decide) ?_
    refine z_sub (L' := [(0, .ref b), (1, .ref h), (2, .ref h2), (3, .ref o), (4, .int (nI i))]) [2, 3, 4, 5, 6] rfl ?_
    exact K u (s_X1_stands v (xs (i + 1))) f hRn
set_option maxHeartbeats 8000000 in
set_option maxRecDepth 100000 in
theorem law_waitsFor (E : ZE) (hlt : E.2.1.stackTraces = false) (b L : Nat) (xs : Nat → Int32) (D : va_G) (cI cZ cI2 cZ2 cJ : ClassId) (h h2 o : Nat) (a a2 : Nat → Nat) (hL : L ≤ 3072) (RR : SX → SX → Prop) (hWF : ∀ u v, RR u v → zWF u v) (hD : zD_waitsFor RR) (i : Nat) (hi : i + 6 ≤ L) (u v : SX) (f : Nat → Int64) (cn sn : Nat) (hc1 : cn + 1 ≤ 1064) (hc2 : sn + 6 ≤ 9936) (hR : RR u v)
    (K : ∀ (u v : SX) (f : Nat → Int64), RR u v → ZW E (zGL b L xs) room_1 cL_law RL wsL_law 7 D [(cI, .int), (cZ, .boolean), (cI2, .int), (cZ2, .boolean), (cJ, .long)] (cn + 1) (sn + 6) (wX1 cI2 cZ2 h2 a2 v ++ (wX0 cI cZ h a u ++ wO cJ o f)) 1497 [(0, .ref b), (1, .ref h), (2, .ref h2), (3, .ref o), (4, .int (nI i))] []) : ZW E (zGL b L xs) room_1 cL_law RL wsL_law 7 D [(cI, .int), (cZ, .boolean), (cI2, .int), (cZ2, .boolean), (cJ, .long)] cn sn (wX1 cI2 cZ2 h2 a2 v ++ (wX0 cI cZ h a u ++ wO cJ o f)) 1067 [(0, .ref b), (1, .ref h), (2, .ref h2), (3, .ref o), (4, .int (nI i))] [] := by
  obtain ⟨nd, nn, ⟨hnd, hd⟩, ⟨hnn, hn⟩, hlk, hmd, hmn⟩ := hWF u v hR
  have K0 : ∀ (u v : SX) (f : Nat → Int64), RR u v → ZW E (zGL b L xs) room_1 cL_law RL wsL_law 7 D [(cI, .int), (cZ, .boolean), (cI2, .int), (cZ2, .boolean), (cJ, .long)] cn sn (wX1 cI2 cZ2 h2 a2 v ++ (wX0 cI cZ h a u ++ wO cJ o f)) 1497 [(0, .ref b), (1, .ref h), (2, .ref h2), (3, .ref o), (4, .int (nI i))] [] := fun u v f h => z_widen (by omega) (by omega) (K u v f h)
  refine z_aload_n 1 dL_law_1067 rfl ?_
  refine z_aload_n 0 dL_law_1068 rfl ?_
  refine z_iload 4 dL_law_1069 rfl ?_
  refine z_iconst (v := 1) dL_law_1071 rfl ?_
  refine z_iadd dL_law_1072 ?_
  refine z_sld (v := (xs (i + 1))) (zsin (c := 1) (j := 1) rfl hi (by decide) hL).1 (by rw [(zsin (c := 1) (j := 1) rfl hi (by decide) hL).2]) dL_law_1073 ?_
  refine z_aload_n 3 dL_law_1074 rfl ?_
  rcases hD u v hR (xs (i + 1))  with ⟨he, h0, hr, hRn⟩ | ⟨he, h0, hRn⟩
  ·
    refine z_callWi_fr (As := [.ref h, .int (xs (i + 1)), .ref o]) (st := []) (wX1 cI2 cZ2 h2 a2 v) [] (fun l _ => kn_waitsFor l D cI cZ cJ h a o u f (xs (i + 1)) he nn hnn hn) zGok_TT (fun _ _ _ => trivial) (fun s args hts => vx_cwSW 3 hts gL_law_L_waitsFor rfl rfl rfl (by decide +kernel) ⟨Nat.le_of_ble_eq_true rfl, Nat.le_of_ble_eq_true rfl⟩) [0, 1, 4] rfl rfl rfl (Nat.le_of_ble_eq_true rfl) ⟨by show _ ≤ 1064; omega, by show _ ≤ 9936; omega⟩ dL_law_1075 rfl (fun r u2 hp => ?_)
    obtain ⟨u3, f3⟩ := u2
    obtain ⟨rfl, hS, hf⟩ := hp
    have hS : u = u3 := hS.symm
    subst hS
    refine z_eqw (w' := (wX1 cI2 cZ2 h2 a2 v ++ (wX0 cI cZ h a u ++ wO cJ o f3))) rfl ?_
    refine z_istore (L' := [(5, .int 0), (0, .ref b), (1, .ref h), (2, .ref h2), (3, .ref o), (4, .int (nI i))]) dL_law_1078 (by decide) rfl ?_
    refine z_aload_n 3 dL_law_1080 rfl ?_
    refine z_aload_n 1 dL_law_1081 rfl ?_
    refine z_iload 5 dL_law_1082 rfl ?_
    refine z_iconst (v := 1) dL_law_1084 rfl ?_
    refine z_iadd dL_law_1085 ?_
    refine z_sld (v := (xs (i + 1))) (zsin (c := 1) (j := 1) rfl hi (by decide) hL).1 (by rw [(zsin (c := 1) (j := 1) rfl hi (by decide) hL).2]) dL_law_1086 ?_
    refine z_callVi_fr (As := [.int (xs (i + 1))]) (st := []) [] (wX0 cI cZ h a u ++ wO cJ o f3) (fun l => c_X1_waitsFor l D cI2 cZ2 h2 a2 v (xs (i + 1)) nn hmn hn) zGok_TT (fun _ _ _ => trivial) (fun s args hts => cwV 1 hts gL_law_X1_waitsFor rfl rfl rfl (by decide +kernel) ⟨Nat.le_of_ble_eq_true rfl, Nat.le_of_ble_eq_true rfl⟩) (ci := 1) rfl rfl rfl [2, 3] rfl rfl rfl (Nat.le_of_ble_eq_true rfl) ⟨by show _ ≤ 1064; omega, by show _ ≤ 9936; omega⟩ dL_law_1087 rfl (fun r u2 hp => ?_)
    obtain ⟨rfl, rfl⟩ := hp
    refine z_istore (L' := [(6, .int (r_X1_waitsFor v (xs (i + 1)))), (5, .int 0), (0, .ref b), (1, .ref h), (2, .ref h2), (3, .ref o), (4, .int (nI i))]) dL_law_1090 (by decide) rfl ?_
    refine z_aload_n 4 dL_law_1092 rfl ?_
    refine z_callVi_fr (As := []) (st := []) [] (wX0 cI cZ h a u ++ wO cJ o f3) (fun l => c_X1_thrown l D cI2 cZ2 h2 a2 (s_X1_waitsFor v (xs (i + 1)))  ) zGok_TT (fun _ _ _ => trivial) (fun s args hts => cwV 0 hts gL_law_X1_thrown rfl rfl rfl (by decide +kernel) ⟨Nat.le_of_ble_eq_true rfl, Nat.le_of_ble_eq_true rfl⟩) (ci := 1) rfl rfl rfl [2, 3] rfl rfl rfl (Nat.le_of_ble_eq_true rfl) ⟨by show _ ≤ 1064; omega, by show _ ≤ 9936; omega⟩ dL_law_1093 rfl (fun r u2 hp => ?_)
    subst hp
    refine z_iload 1 dL_law_1096 rfl ?_
    refine z_icmp_eq 1103 dL_law_1098 (by decide) (fun _ => ?_) (fun q => absurd h0 q)
    refine z_iload 1 dL_law_1103 rfl ?_
    refine z_if_ne 1120 dL_law_1105 (by decide) (fun q => absurd q (by decide)) (fun _ => ?_)
    refine z_aload_n 5 dL_law_1108 rfl ?_
    refine z_iconst (v := 0) dL_law_1109 rfl ?_
    refine z_lald (v := (f3 0)) 31 4 rfl rfl zin01 rfl dL_law_1110 ?_
    refine z_iload 0 dL_law_1111 rfl ?_
    refine z_i2l (v := ((r_X1_waitsFor v (xs (i + 1)))).toInt64) dL_law_1113 rfl ?_
    refine z_lcmpeq 1120 (by rw [show f3 0 = _ from hf, hr]) dL_law_1114 dL_law_1115 (by decide) ?_
    refine z_goto 1497 dL_law_1120 (by decide) ?_
    refine z_sub (L' := [(0, .ref b), (1, .ref h), (2, .ref h2), (3, .ref o), (4, .int (nI i))]) [2, 3, 4, 5, 6] rfl ?_
    exact K0 u (s_X1_waitsFor v (xs (i + 1))) f3 hRn
  ·
    refine z_callWi_fr (As := [.ref h, .int (xs (i + 1)), .ref o]) (st := []) (wX1 cI2 cZ2 h2 a2 v) [] (fun l hl9 => kx_waitsFor l (by rw [hl9]; exact hlt) D cI cZ cJ h a o u f (xs (i + 1)) he nn hnn hn) zGok_U (fun _ _ q => q.1) (fun s args hts => vx_cwSW 3 hts gL_law_L_waitsFor rfl rfl rfl (by decide +kernel) ⟨Nat.le_of_ble_eq_true rfl, Nat.le_of_ble_eq_true rfl⟩) [0, 1, 4] rfl rfl rfl (Nat.le_of_ble_eq_true rfl) ⟨by show _ ≤ 1064; omega, by show _ ≤ 9936; omega⟩ dL_law_1075 rfl (fun r u2 hp => ?_)
    subst hp
    refine z_eqw (w' := (wX1 cI2 cZ2 h2 a2 v ++ (wX0 cI cZ h a u ++ wO cJ o f))) rfl ?_
    refine z_istore (L' := [(5, .int 1), (0, .ref b), (1, .ref h), (2, .ref h2), (3, .ref o), (4, .int (nI i))]) dL_law_1078 (by decide) rfl ?_
    refine z_aload_n 3 dL_law_1080 rfl ?_
    refine z_aload_n 1 dL_law_1081 rfl ?_
    refine z_iload 5 dL_law_1082 rfl ?_
    refine z_iconst (v := 1) dL_law_1084 rfl ?_
    refine z_iadd dL_law_1085 ?_
    refine z_sld (v := (xs (i + 1))) (zsin (c := 1) (j := 1) rfl hi (by decide) hL).1 (by rw [(zsin (c := 1) (j := 1) rfl hi (by decide) hL).2]) dL_law_1086 ?_
    refine z_callVi_fr (As := [.int (xs (i + 1))]) (st := []) [] (wX0 cI cZ h a u ++ wO cJ o f) (fun l => c_X1_waitsFor l D cI2 cZ2 h2 a2 v (xs (i + 1)) nn hmn hn) zGok_TT (fun _ _ _ => trivial) (fun s args hts => cwV 1 hts gL_law_X1_waitsFor rfl rfl rfl (by decide +kernel) ⟨Nat.le_of_ble_eq_true rfl, Nat.le_of_ble_eq_true rfl⟩) (ci := 1) rfl rfl rfl [2, 3] rfl rfl rfl (Nat.le_of_ble_eq_true rfl) ⟨by show _ ≤ 1064; omega, by show _ ≤ 9936; omega⟩ dL_law_1087 rfl (fun r u2 hp => ?_)
    obtain ⟨rfl, rfl⟩ := hp
    refine z_istore (L' := [(6, .int (r_X1_waitsFor v (xs (i + 1)))), (5, .int 1), (0, .ref b), (1, .ref h), (2, .ref h2), (3, .ref o), (4, .int (nI i))]) dL_law_1090 (by decide) rfl ?_
    refine z_aload_n 4 dL_law_1092 rfl ?_
    refine z_callVi_fr (As := []) (st := []) [] (wX0 cI cZ h a u ++ wO cJ o f) (fun l => c_X1_thrown l D cI2 cZ2 h2 a2 (s_X1_waitsFor v (xs (i + 1)))  ) zGok_TT (fun _ _ _ => trivial) (fun s args hts => cwV 0 hts gL_law_X1_thrown rfl rfl rfl (by decide +kernel) ⟨Nat.le_of_ble_eq_true rfl, Nat.le_of_ble_eq_true rfl⟩) (ci := 1) rfl rfl rfl [2, 3] rfl rfl rfl (Nat.le_of_ble_eq_true rfl) ⟨by show _ ≤ 1064; omega, by show _ ≤ 9936; omega⟩ dL_law_1093 rfl (fun r u2 hp => ?_)
    subst hp
    refine z_iload 1 dL_law_1096 rfl ?_
    refine z_icmp_eq 1103 dL_law_1098 (by decide) (fun _ => ?_) (fun q => absurd h0 q)
    refine z_iload 1 dL_law_1103 rfl ?_
    refine z_if_ne 1120 dL_law_1105 (by decide) (fun _ => ?_) (fun q => absurd q (by decide))
    refine z_goto 1497 dL_law_1120 (by decide) ?_
    refine z_sub (L' := [(0, .ref b), (1, .ref h), (2, .ref h2), (3, .ref o), (4, .int (nI i))]) [2, 3, 4, 5, 6] rfl ?_
    exact K u (s_X1_waitsFor v (xs (i + 1))) f hRn
set_option maxHeartbeats 8000000 in
set_option maxRecDepth 100000 in
theorem law_deliveredTo (E : ZE) (hlt : E.2.1.stackTraces = false) (b L : Nat) (xs : Nat → Int32) (D : va_G) (cI cZ cI2 cZ2 cJ : ClassId) (h h2 o : Nat) (a a2 : Nat → Nat) (hL : L ≤ 3072) (RR : SX → SX → Prop) (hWF : ∀ u v, RR u v → zWF u v) (hD : zD_deliveredTo RR) (i : Nat) (hi : i + 6 ≤ L) (u v : SX) (f : Nat → Int64) (cn sn : Nat) (hc1 : cn + 1 ≤ 1064) (hc2 : sn + 6 ≤ 9936) (hR : RR u v)
    (K : ∀ (u v : SX) (f : Nat → Int64), RR u v → ZW E (zGL b L xs) room_1 cL_law RL wsL_law 7 D [(cI, .int), (cZ, .boolean), (cI2, .int), (cZ2, .boolean), (cJ, .long)] (cn + 1) (sn + 6) (wX1 cI2 cZ2 h2 a2 v ++ (wX0 cI cZ h a u ++ wO cJ o f)) 1497 [(0, .ref b), (1, .ref h), (2, .ref h2), (3, .ref o), (4, .int (nI i))] []) : ZW E (zGL b L xs) room_1 cL_law RL wsL_law 7 D [(cI, .int), (cZ, .boolean), (cI2, .int), (cZ2, .boolean), (cJ, .long)] cn sn (wX1 cI2 cZ2 h2 a2 v ++ (wX0 cI cZ h a u ++ wO cJ o f)) 1123 [(0, .ref b), (1, .ref h), (2, .ref h2), (3, .ref o), (4, .int (nI i))] [] := by
  obtain ⟨nd, nn, ⟨hnd, hd⟩, ⟨hnn, hn⟩, hlk, hmd, hmn⟩ := hWF u v hR
  have K0 : ∀ (u v : SX) (f : Nat → Int64), RR u v → ZW E (zGL b L xs) room_1 cL_law RL wsL_law 7 D [(cI, .int), (cZ, .boolean), (cI2, .int), (cZ2, .boolean), (cJ, .long)] cn sn (wX1 cI2 cZ2 h2 a2 v ++ (wX0 cI cZ h a u ++ wO cJ o f)) 1497 [(0, .ref b), (1, .ref h), (2, .ref h2), (3, .ref o), (4, .int (nI i))] [] := fun u v f h => z_widen (by omega) (by omega) (K u v f h)
  refine z_aload_n 1 dL_law_1123 rfl ?_
  refine z_aload_n 0 dL_law_1124 rfl ?_
  refine z_iload 4 dL_law_1125 rfl ?_
  refine z_iconst (v := 1) dL_law_1127 rfl ?_
  refine z_iadd dL_law_1128 ?_
  refine z_sld (v := (xs (i + 1))) (zsin (c := 1) (j := 1) rfl hi (by decide) hL).1 (by rw [(zsin (c := 1) (j := 1) rfl hi (by decide) hL).2]) dL_law_1129 ?_
  refine z_aload_n 3 dL_law_1130 rfl ?_
  rcases hD u v hR (xs (i + 1))  with ⟨he, h0, hr, hRn⟩ | ⟨he, h0, hRn⟩
  ·
    refine z_callWi_fr (As := [.ref h, .int (xs (i + 1)), .ref o]) (st := []) (wX1 cI2 cZ2 h2 a2 v) [] (fun l _ => kn_deliveredTo l D cI cZ cJ h a o u f (xs (i + 1)) he nn hnn hn) zGok_TT (fun _ _ _ => trivial) (fun s args hts => vx_cwSW 3 hts gL_law_L_deliveredTo rfl rfl rfl (by decide +kernel) ⟨Nat.le_of_ble_eq_true rfl, Nat.le_of_ble_eq_true rfl⟩) [0, 1, 4] rfl rfl rfl (Nat.le_of_ble_eq_true rfl) ⟨by show _ ≤ 1064; omega, by show _ ≤ 9936; omega⟩ dL_law_1131 rfl (fun r u2 hp => ?_)
    obtain ⟨u3, f3⟩ := u2
    obtain ⟨rfl, hS, hf⟩ := hp
    have hS : u = u3 := hS.symm
    subst hS
    refine z_eqw (w' := (wX1 cI2 cZ2 h2 a2 v ++ (wX0 cI cZ h a u ++ wO cJ o f3))) rfl ?_
    refine z_istore (L' := [(5, .int 0), (0, .ref b), (1, .ref h), (2, .ref h2), (3, .ref o), (4, .int (nI i))]) dL_law_1134 (by decide) rfl ?_
    refine z_aload_n 3 dL_law_1136 rfl ?_
    refine z_aload_n 1 dL_law_1137 rfl ?_
    refine z_iload 5 dL_law_1138 rfl ?_
    refine z_iconst (v := 1) dL_law_1140 rfl ?_
    refine z_iadd dL_law_1141 ?_
    refine z_sld (v := (xs (i + 1))) (zsin (c := 1) (j := 1) rfl hi (by decide) hL).1 (by rw [(zsin (c := 1) (j := 1) rfl hi (by decide) hL).2]) dL_law_1142 ?_
    refine z_callVi_fr (As := [.int (xs (i + 1))]) (st := []) [] (wX0 cI cZ h a u ++ wO cJ o f3) (fun l => c_X1_deliveredTo l D cI2 cZ2 h2 a2 v (xs (i + 1)) nn hmn hn) zGok_TT (fun _ _ _ => trivial) (fun s args hts => cwV 1 hts gL_law_X1_deliveredTo rfl rfl rfl (by decide +kernel) ⟨Nat.le_of_ble_eq_true rfl, Nat.le_of_ble_eq_true rfl⟩) (ci := 1) rfl rfl rfl [2, 3] rfl rfl rfl (Nat.le_of_ble_eq_true rfl) ⟨by show _ ≤ 1064; omega, by show _ ≤ 9936; omega⟩ dL_law_1143 rfl (fun r u2 hp => ?_)
    obtain ⟨rfl, rfl⟩ := hp
    refine z_istore (L' := [(6, .int (r_X1_deliveredTo v (xs (i + 1)))), (5, .int 0), (0, .ref b), (1, .ref h), (2, .ref h2), (3, .ref o), (4, .int (nI i))]) dL_law_1146 (by decide) rfl ?_
    refine z_aload_n 4 dL_law_1148 rfl ?_
    refine z_callVi_fr (As := []) (st := []) [] (wX0 cI cZ h a u ++ wO cJ o f3) (fun l => c_X1_thrown l D cI2 cZ2 h2 a2 (s_X1_deliveredTo v (xs (i + 1)))  ) zGok_TT (fun _ _ _ => trivial) (fun s args hts => cwV 0 hts gL_law_X1_thrown rfl rfl rfl (by decide +kernel) ⟨Nat.le_of_ble_eq_true rfl, Nat.le_of_ble_eq_true rfl⟩) (ci := 1) rfl rfl rfl [2, 3] rfl rfl rfl (Nat.le_of_ble_eq_true rfl) ⟨by show _ ≤ 1064; omega, by show _ ≤ 9936; omega⟩ dL_law_1149 rfl (fun r u2 hp => ?_)
    subst hp
    refine z_iload 1 dL_law_1152 rfl ?_
    refine z_icmp_eq 1159 dL_law_1154 (by decide) (fun _ => ?_) (fun q => absurd h0 q)
    refine z_iload 1 dL_law_1159 rfl ?_
    refine z_if_ne 1176 dL_law_1161 (by decide) (fun q => absurd q (by decide)) (fun _ => ?_)
    refine z_aload_n 5 dL_law_1164 rfl ?_
    refine z_iconst (v := 0) dL_law_1165 rfl ?_
    refine z_lald (v := (f3 0)) 31 4 rfl rfl zin01 rfl dL_law_1166 ?_
    refine z_iload 0 dL_law_1167 rfl ?_
    refine z_i2l (v := ((r_X1_deliveredTo v (xs (i + 1)))).toInt64) dL_law_1169 rfl ?_
    refine z_lcmpeq 1176 (by rw [show f3 0 = _ from hf, hr]) dL_law_1170 dL_law_1171 (by decide) ?_
    refine z_goto 1497 dL_law_1176 (by decide) ?_
    refine z_sub (L' := [(0, .ref b), (1, .ref h), (2, .ref h2), (3, .ref o), (4, .int (nI i))]) [2, 3, 4, 5, 6] rfl ?_
    exact K0 u (s_X1_deliveredTo v (xs (i + 1))) f3 hRn
  ·
    refine z_callWi_fr (As := [.ref h, .int (xs (i + 1)), .ref o]) (st := []) (wX1 cI2 cZ2 h2 a2 v) [] (fun l hl9 => kx_deliveredTo l (by rw [hl9]; exact hlt) D cI cZ cJ h a o u f (xs (i + 1)) he nn hnn hn) zGok_U (fun _ _ q => q.1) (fun s args hts => vx_cwSW 3 hts gL_law_L_deliveredTo rfl rfl rfl (by decide +kernel) ⟨Nat.le_of_ble_eq_true rfl, Nat.le_of_ble_eq_true rfl⟩) [0, 1, 4] rfl rfl rfl (Nat.le_of_ble_eq_true rfl) ⟨by show _ ≤ 1064; omega, by show _ ≤ 9936; omega⟩ dL_law_1131 rfl (fun r u2 hp => ?_)
    subst hp
    refine z_eqw (w' := (wX1 cI2 cZ2 h2 a2 v ++ (wX0 cI cZ h a u ++ wO cJ o f))) rfl ?_
    refine z_istore (L' := [(5, .int 1), (0, .ref b), (1, .ref h), (2, .ref h2), (3, .ref o), (4, .int (nI i))]) dL_law_1134 (by decide) rfl ?_
    refine z_aload_n 3 dL_law_1136 rfl ?_
    refine z_aload_n 1 dL_law_1137 rfl ?_
    refine z_iload 5 dL_law_1138 rfl ?_
    refine z_iconst (v := 1) dL_law_1140 rfl ?_
    refine z_iadd dL_law_1141 ?_
    refine z_sld (v := (xs (i + 1))) (zsin (c := 1) (j := 1) rfl hi (by decide) hL).1 (by rw [(zsin (c := 1) (j := 1) rfl hi (by decide) hL).2]) dL_law_1142 ?_
    refine z_callVi_fr (As := [.int (xs (i + 1))]) (st := []) [] (wX0 cI cZ h a u ++ wO cJ o f) (fun l => c_X1_deliveredTo l D cI2 cZ2 h2 a2 v (xs (i + 1)) nn hmn hn) zGok_TT (fun _ _ _ => trivial) (fun s args hts => cwV 1 hts gL_law_X1_deliveredTo rfl rfl rfl (by decide +kernel) ⟨Nat.le_of_ble_eq_true rfl, Nat.le_of_ble_eq_true rfl⟩) (ci := 1) rfl rfl rfl [2, 3] rfl rfl rfl (Nat.le_of_ble_eq_true rfl) ⟨by show _ ≤ 1064; omega, by show _ ≤ 9936; omega⟩ dL_law_1143 rfl (fun r u2 hp => ?_)
    obtain ⟨rfl, rfl⟩ := hp
    refine z_istore (L' := [(6, .int (r_X1_deliveredTo v (xs (i + 1)))), (5, .int 1), (0, .ref b), (1, .ref h), (2, .ref h2), (3, .ref o), (4, .int (nI i))]) dL_law_1146 (by decide) rfl ?_
    refine z_aload_n 4 dL_law_1148 rfl ?_
    refine z_callVi_fr (As := []) (st := []) [] (wX0 cI cZ h a u ++ wO cJ o f) (fun l => c_X1_thrown l D cI2 cZ2 h2 a2 (s_X1_deliveredTo v (xs (i + 1)))  ) zGok_TT (fun _ _ _ => trivial) (fun s args hts => cwV 0 hts gL_law_X1_thrown rfl rfl rfl (by decide +kernel) ⟨Nat.le_of_ble_eq_true rfl, Nat.le_of_ble_eq_true rfl⟩) (ci := 1) rfl rfl rfl [2, 3] rfl rfl rfl (Nat.le_of_ble_eq_true rfl) ⟨by show _ ≤ 1064; omega, by show _ ≤ 9936; omega⟩ dL_law_1149 rfl (fun r u2 hp => ?_)
    subst hp
    refine z_iload 1 dL_law_1152 rfl ?_
    refine z_icmp_eq 1159 dL_law_1154 (by decide) (fun _ => ?_) (fun q => absurd h0 q)
    refine z_iload 1 dL_law_1159 rfl ?_
    refine z_if_ne 1176 dL_law_1161 (by decide) (fun _ => ?_) (fun q => absurd q (by decide))
    refine z_goto 1497 dL_law_1176 (by decide) ?_
    refine z_sub (L' := [(0, .ref b), (1, .ref h), (2, .ref h2), (3, .ref o), (4, .int (nI i))]) [2, 3, 4, 5, 6] rfl ?_
    exact K u (s_X1_deliveredTo v (xs (i + 1))) f hRn
set_option maxHeartbeats 8000000 in
set_option maxRecDepth 100000 in
theorem law_standing (E : ZE) (hlt : E.2.1.stackTraces = false) (b L : Nat) (xs : Nat → Int32) (D : va_G) (cI cZ cI2 cZ2 cJ : ClassId) (h h2 o : Nat) (a a2 : Nat → Nat) (hL : L ≤ 3072) (RR : SX → SX → Prop) (hWF : ∀ u v, RR u v → zWF u v) (hD : zD_standing RR) (i : Nat) (hi : i + 6 ≤ L) (u v : SX) (f : Nat → Int64) (cn sn : Nat) (hc1 : cn + 1 ≤ 1064) (hc2 : sn + 6 ≤ 9936) (hR : RR u v)
    (K : ∀ (u v : SX) (f : Nat → Int64), RR u v → ZW E (zGL b L xs) room_1 cL_law RL wsL_law 7 D [(cI, .int), (cZ, .boolean), (cI2, .int), (cZ2, .boolean), (cJ, .long)] (cn + 1) (sn + 6) (wX1 cI2 cZ2 h2 a2 v ++ (wX0 cI cZ h a u ++ wO cJ o f)) 1497 [(0, .ref b), (1, .ref h), (2, .ref h2), (3, .ref o), (4, .int (nI i))] []) : ZW E (zGL b L xs) room_1 cL_law RL wsL_law 7 D [(cI, .int), (cZ, .boolean), (cI2, .int), (cZ2, .boolean), (cJ, .long)] cn sn (wX1 cI2 cZ2 h2 a2 v ++ (wX0 cI cZ h a u ++ wO cJ o f)) 1179 [(0, .ref b), (1, .ref h), (2, .ref h2), (3, .ref o), (4, .int (nI i))] [] := by
  obtain ⟨nd, nn, ⟨hnd, hd⟩, ⟨hnn, hn⟩, hlk, hmd, hmn⟩ := hWF u v hR
  have K0 : ∀ (u v : SX) (f : Nat → Int64), RR u v → ZW E (zGL b L xs) room_1 cL_law RL wsL_law 7 D [(cI, .int), (cZ, .boolean), (cI2, .int), (cZ2, .boolean), (cJ, .long)] cn sn (wX1 cI2 cZ2 h2 a2 v ++ (wX0 cI cZ h a u ++ wO cJ o f)) 1497 [(0, .ref b), (1, .ref h), (2, .ref h2), (3, .ref o), (4, .int (nI i))] [] := fun u v f h => z_widen (by omega) (by omega) (K u v f h)
  refine z_aload_n 1 dL_law_1179 rfl ?_
  refine z_aload_n 0 dL_law_1180 rfl ?_
  refine z_iload 4 dL_law_1181 rfl ?_
  refine z_iconst (v := 1) dL_law_1183 rfl ?_
  refine z_iadd dL_law_1184 ?_
  refine z_sld (v := (xs (i + 1))) (zsin (c := 1) (j := 1) rfl hi (by decide) hL).1 (by rw [(zsin (c := 1) (j := 1) rfl hi (by decide) hL).2]) dL_law_1185 ?_
  refine z_aload_n 0 dL_law_1186 rfl ?_
  refine z_iload 4 dL_law_1187 rfl ?_
  refine z_iconst (v := 2) dL_law_1189 rfl ?_
  refine z_iadd dL_law_1190 ?_
  refine z_sld (v := (xs (i + 2))) (zsin (c := 2) (j := 2) rfl hi (by decide) hL).1 (by rw [(zsin (c := 2) (j := 2) rfl hi (by decide) hL).2]) dL_law_1191 ?_
  refine z_aload_n 3 dL_law_1192 rfl ?_
  rcases hD u v hR (xs (i + 1)) (xs (i + 2))  with ⟨he, h0, hr, hRn⟩ | ⟨he, h0, hRn⟩
  ·
    refine z_callWi_fr (As := [.ref h, .int (xs (i + 1)), .int (xs (i + 2)), .ref o]) (st := []) (wX1 cI2 cZ2 h2 a2 v) [] (fun l _ => kn_standing l D cI cZ cJ h a o u f (xs (i + 1)) (xs (i + 2)) he hlk) zGok_TT (fun _ _ _ => trivial) (fun s args hts => vx_cwSW 4 hts gL_law_L_standing rfl rfl rfl (by decide +kernel) ⟨Nat.le_of_ble_eq_true rfl, Nat.le_of_ble_eq_true rfl⟩) [0, 1, 4] rfl rfl rfl (Nat.le_of_ble_eq_true rfl) ⟨by show _ ≤ 1064; omega, by show _ ≤ 9936; omega⟩ dL_law_1193 rfl (fun r u2 hp => ?_)
    obtain ⟨u3, f3⟩ := u2
    obtain ⟨rfl, hS, hf⟩ := hp
    have hS : u = u3 := hS.symm
    subst hS
    refine z_eqw (w' := (wX1 cI2 cZ2 h2 a2 v ++ (wX0 cI cZ h a u ++ wO cJ o f3))) rfl ?_
    refine z_istore (L' := [(5, .int 0), (0, .ref b), (1, .ref h), (2, .ref h2), (3, .ref o), (4, .int (nI i))]) dL_law_1196 (by decide) rfl ?_
    refine z_aload_n 3 dL_law_1198 rfl ?_
    refine z_aload_n 1 dL_law_1199 rfl ?_
    refine z_iload 5 dL_law_1200 rfl ?_
    refine z_iconst (v := 1) dL_law_1202 rfl ?_
    refine z_iadd dL_law_1203 ?_
    refine z_sld (v := (xs (i + 1))) (zsin (c := 1) (j := 1) rfl hi (by decide) hL).1 (by rw [(zsin (c := 1) (j := 1) rfl hi (by decide) hL).2]) dL_law_1204 ?_
    refine z_aload_n 1 dL_law_1205 rfl ?_
    refine z_iload 5 dL_law_1206 rfl ?_
    refine z_iconst (v := 2) dL_law_1208 rfl ?_
    refine z_iadd dL_law_1209 ?_
    refine z_sld (v := (xs (i + 2))) (zsin (c := 2) (j := 2) rfl hi (by decide) hL).1 (by rw [(zsin (c := 2) (j := 2) rfl hi (by decide) hL).2]) dL_law_1210 ?_
    refine z_callVi_fr (As := [.int (xs (i + 1)), .int (xs (i + 2))]) (st := []) [] (wX0 cI cZ h a u ++ wO cJ o f3) (fun l => c_X1_standing l D cI2 cZ2 h2 a2 v (xs (i + 1)) (xs (i + 2)) nn hmn hn) zGok_TT (fun _ _ _ => trivial) (fun s args hts => cwV 2 hts gL_law_X1_standing rfl rfl rfl (by decide +kernel) ⟨Nat.le_of_ble_eq_true rfl, Nat.le_of_ble_eq_true rfl⟩) (ci := 1) rfl rfl rfl [2, 3] rfl rfl rfl (Nat.le_of_ble_eq_true rfl) ⟨by show _ ≤ 1064; omega, by show _ ≤ 9936; omega⟩ dL_law_1211 rfl (fun r u2 hp => ?_)
    obtain ⟨rfl, rfl⟩ := hp
    refine z_istore (L' := [(6, .int (r_X1_standing v (xs (i + 1)) (xs (i + 2)))), (5, .int 0), (0, .ref b), (1, .ref h), (2, .ref h2), (3, .ref o), (4, .int (nI i))]) dL_law_1214 (by decide) rfl ?_
    refine z_aload_n 4 dL_law_1216 rfl ?_
    refine z_callVi_fr (As := []) (st := []) [] (wX0 cI cZ h a u ++ wO cJ o f3) (fun l => c_X1_thrown l D cI2 cZ2 h2 a2 (s_X1_standing v (xs (i + 1)) (xs (i + 2)))  ) zGok_TT (fun _ _ _ => trivial) (fun s args hts => cwV 0 hts gL_law_X1_thrown rfl rfl rfl (by decide +kernel) ⟨Nat.le_of_ble_eq_true rfl, Nat.le_of_ble_eq_true rfl⟩) (ci := 1) rfl rfl rfl [2, 3] rfl rfl rfl (Nat.le_of_ble_eq_true rfl) ⟨by show _ ≤ 1064; omega, by show _ ≤ 9936; omega⟩ dL_law_1217 rfl (fun r u2 hp => ?_)
    subst hp
    refine z_iload 1 dL_law_1220 rfl ?_
    refine z_icmp_eq 1227 dL_law_1222 (by decide) (fun _ => ?_) (fun q => absurd h0 q)
    refine z_iload 1 dL_law_1227 rfl ?_
    refine z_if_ne 1244 dL_law_1229 (by decide) (fun q => absurd q (by decide)) (fun _ => ?_)
    refine z_aload_n 5 dL_law_1232 rfl ?_
    refine z_iconst (v := 0) dL_law_1233 rfl ?_
    refine z_lald (v := (f3 0)) 31 4 rfl rfl zin01 rfl dL_law_1234 ?_
    refine z_iload 0 dL_law_1235 rfl ?_
    refine z_i2l (v := ((r_X1_standing v (xs (i + 1)) (xs (i + 2)))).toInt64) dL_law_1237 rfl ?_
    refine z_lcmpeq 1244 (by rw [show f3 0 = _ from hf, hr]) dL_law_1238 dL_law_1239 (by decide) ?_
    refine z_goto 1497 dL_law_1244 (by decide) ?_
    refine z_sub (L' := [(0, .ref b), (1, .ref h), (2, .ref h2), (3, .ref o), (4, .int (nI i))]) [2, 3, 4, 5, 6] rfl ?_
    exact K0 u (s_X1_standing v (xs (i + 1)) (xs (i + 2))) f3 hRn
  ·
    refine z_callWi_fr (As := [.ref h, .int (xs (i + 1)), .int (xs (i + 2)), .ref o]) (st := []) (wX1 cI2 cZ2 h2 a2 v) [] (fun l hl9 => kx_standing l (by rw [hl9]; exact hlt) D cI cZ cJ h a o u f (xs (i + 1)) (xs (i + 2)) he hlk) zGok_U (fun _ _ q => q.1) (fun s args hts => vx_cwSW 4 hts gL_law_L_standing rfl rfl rfl (by decide +kernel) ⟨Nat.le_of_ble_eq_true rfl, Nat.le_of_ble_eq_true rfl⟩) [0, 1, 4] rfl rfl rfl (Nat.le_of_ble_eq_true rfl) ⟨by show _ ≤ 1064; omega, by show _ ≤ 9936; omega⟩ dL_law_1193 rfl (fun r u2 hp => ?_)
    subst hp
    refine z_eqw (w' := (wX1 cI2 cZ2 h2 a2 v ++ (wX0 cI cZ h a u ++ wO cJ o f))) rfl ?_
    refine z_istore (L' := [(5, .int 1), (0, .ref b), (1, .ref h), (2, .ref h2), (3, .ref o), (4, .int (nI i))]) dL_law_1196 (by decide) rfl ?_
    refine z_aload_n 3 dL_law_1198 rfl ?_
    refine z_aload_n 1 dL_law_1199 rfl ?_
    refine z_iload 5 dL_law_1200 rfl ?_
    refine z_iconst (v := 1) dL_law_1202 rfl ?_
    refine z_iadd dL_law_1203 ?_
    refine z_sld (v := (xs (i + 1))) (zsin (c := 1) (j := 1) rfl hi (by decide) hL).1 (by rw [(zsin (c := 1) (j := 1) rfl hi (by decide) hL).2]) dL_law_1204 ?_
    refine z_aload_n 1 dL_law_1205 rfl ?_
    refine z_iload 5 dL_law_1206 rfl ?_
    refine z_iconst (v := 2) dL_law_1208 rfl ?_
    refine z_iadd dL_law_1209 ?_
    refine z_sld (v := (xs (i + 2))) (zsin (c := 2) (j := 2) rfl hi (by decide) hL).1 (by rw [(zsin (c := 2) (j := 2) rfl hi (by decide) hL).2]) dL_law_1210 ?_
    refine z_callVi_fr (As := [.int (xs (i + 1)), .int (xs (i + 2))]) (st := []) [] (wX0 cI cZ h a u ++ wO cJ o f) (fun l => c_X1_standing l D cI2 cZ2 h2 a2 v (xs (i + 1)) (xs (i + 2)) nn hmn hn) zGok_TT (fun _ _ _ => trivial) (fun s args hts => cwV 2 hts gL_law_X1_standing rfl rfl rfl (by decide +kernel) ⟨Nat.le_of_ble_eq_true rfl, Nat.le_of_ble_eq_true rfl⟩) (ci := 1) rfl rfl rfl [2, 3] rfl rfl rfl (Nat.le_of_ble_eq_true rfl) ⟨by show _ ≤ 1064; omega, by show _ ≤ 9936; omega⟩ dL_law_1211 rfl (fun r u2 hp => ?_)
    obtain ⟨rfl, rfl⟩ := hp
    refine z_istore (L' := [(6, .int (r_X1_standing v (xs (i + 1)) (xs (i + 2)))), (5, .int 1), (0, .ref b), (1, .ref h), (2, .ref h2), (3, .ref o), (4, .int (nI i))]) dL_law_1214 (by decide) rfl ?_
    refine z_aload_n 4 dL_law_1216 rfl ?_
    refine z_callVi_fr (As := []) (st := []) [] (wX0 cI cZ h a u ++ wO cJ o f) (fun l => c_X1_thrown l D cI2 cZ2 h2 a2 (s_X1_standing v (xs (i + 1)) (xs (i + 2)))  ) zGok_TT (fun _ _ _ => trivial) (fun s args hts => cwV 0 hts gL_law_X1_thrown rfl rfl rfl (by decide +kernel) ⟨Nat.le_of_ble_eq_true rfl, Nat.le_of_ble_eq_true rfl⟩) (ci := 1) rfl rfl rfl [2, 3] rfl rfl rfl (Nat.le_of_ble_eq_true rfl) ⟨by show _ ≤ 1064; omega, by show _ ≤ 9936; omega⟩ dL_law_1217 rfl (fun r u2 hp => ?_)
    subst hp
    refine z_iload 1 dL_law_1220 rfl ?_
    refine z_icmp_eq 1227 dL_law_1222 (by decide) (fun _ => ?_) (fun q => absurd h0 q)
    refine z_iload 1 dL_law_1227 rfl ?_
    refine z_if_ne 1244 dL_law_1229 (by decide) (fun _ => ?_) (fun q => absurd q (by decide))
    refine z_goto 1497 dL_law_1244 (by decide) ?_
    refine z_sub (L' := [(0, .ref b), (1, .ref h), (2, .ref h2), (3, .ref o), (4, .int (nI i))]) [2, 3, 4, 5, 6] rfl ?_
    exact K u (s_X1_standing v (xs (i + 1)) (xs (i + 2))) f hRn
set_option maxHeartbeats 8000000 in
set_option maxRecDepth 100000 in
theorem law_badge (E : ZE) (hlt : E.2.1.stackTraces = false) (b L : Nat) (xs : Nat → Int32) (D : va_G) (cI cZ cI2 cZ2 cJ : ClassId) (h h2 o : Nat) (a a2 : Nat → Nat) (hL : L ≤ 3072) (RR : SX → SX → Prop) (hWF : ∀ u v, RR u v → zWF u v) (hD : zD_badge RR) (i : Nat) (hi : i + 6 ≤ L) (u v : SX) (f : Nat → Int64) (cn sn : Nat) (hc1 : cn + 1 ≤ 1064) (hc2 : sn + 6 ≤ 9936) (hR : RR u v)
    (K : ∀ (u v : SX) (f : Nat → Int64), RR u v → ZW E (zGL b L xs) room_1 cL_law RL wsL_law 7 D [(cI, .int), (cZ, .boolean), (cI2, .int), (cZ2, .boolean), (cJ, .long)] (cn + 1) (sn + 6) (wX1 cI2 cZ2 h2 a2 v ++ (wX0 cI cZ h a u ++ wO cJ o f)) 1497 [(0, .ref b), (1, .ref h), (2, .ref h2), (3, .ref o), (4, .int (nI i))] []) : ZW E (zGL b L xs) room_1 cL_law RL wsL_law 7 D [(cI, .int), (cZ, .boolean), (cI2, .int), (cZ2, .boolean), (cJ, .long)] cn sn (wX1 cI2 cZ2 h2 a2 v ++ (wX0 cI cZ h a u ++ wO cJ o f)) 1247 [(0, .ref b), (1, .ref h), (2, .ref h2), (3, .ref o), (4, .int (nI i))] [] := by
  obtain ⟨nd, nn, ⟨hnd, hd⟩, ⟨hnn, hn⟩, hlk, hmd, hmn⟩ := hWF u v hR
  have K0 : ∀ (u v : SX) (f : Nat → Int64), RR u v → ZW E (zGL b L xs) room_1 cL_law RL wsL_law 7 D [(cI, .int), (cZ, .boolean), (cI2, .int), (cZ2, .boolean), (cJ, .long)] cn sn (wX1 cI2 cZ2 h2 a2 v ++ (wX0 cI cZ h a u ++ wO cJ o f)) 1497 [(0, .ref b), (1, .ref h), (2, .ref h2), (3, .ref o), (4, .int (nI i))] [] := fun u v f h => z_widen (by omega) (by omega) (K u v f h)
  refine z_aload_n 1 dL_law_1247 rfl ?_
  refine z_aload_n 0 dL_law_1248 rfl ?_
  refine z_iload 4 dL_law_1249 rfl ?_
  refine z_iconst (v := 1) dL_law_1251 rfl ?_
  refine z_iadd dL_law_1252 ?_
  refine z_sld (v := (xs (i + 1))) (zsin (c := 1) (j := 1) rfl hi (by decide) hL).1 (by rw [(zsin (c := 1) (j := 1) rfl hi (by decide) hL).2]) dL_law_1253 ?_
  refine z_aload_n 3 dL_law_1254 rfl ?_
  rcases hD u v hR (xs (i + 1))  with ⟨he, h0, hr, hRn⟩ | ⟨he, h0, hRn⟩
  ·
    refine z_callWi_fr (As := [.ref h, .int (xs (i + 1)), .ref o]) (st := []) (wX1 cI2 cZ2 h2 a2 v) [] (fun l _ => kn_badge l D cI cZ cJ h a o u f (xs (i + 1)) he nd hnd hd nn hnn hn) zGok_TT (fun _ _ _ => trivial) (fun s args hts => vx_cwSW 3 hts gL_law_L_badge rfl rfl rfl (by decide +kernel) ⟨Nat.le_of_ble_eq_true rfl, Nat.le_of_ble_eq_true rfl⟩) [0, 1, 4] rfl rfl rfl (Nat.le_of_ble_eq_true rfl) ⟨by show _ ≤ 1064; omega, by show _ ≤ 9936; omega⟩ dL_law_1255 rfl (fun r u2 hp => ?_)
    obtain ⟨u3, f3⟩ := u2
    obtain ⟨rfl, hS, hf⟩ := hp
    have hS : u = u3 := hS.symm
    subst hS
    refine z_eqw (w' := (wX1 cI2 cZ2 h2 a2 v ++ (wX0 cI cZ h a u ++ wO cJ o f3))) rfl ?_
    refine z_istore (L' := [(5, .int 0), (0, .ref b), (1, .ref h), (2, .ref h2), (3, .ref o), (4, .int (nI i))]) dL_law_1258 (by decide) rfl ?_
    refine z_aload_n 3 dL_law_1260 rfl ?_
    refine z_aload_n 1 dL_law_1261 rfl ?_
    refine z_iload 5 dL_law_1262 rfl ?_
    refine z_iconst (v := 1) dL_law_1264 rfl ?_
    refine z_iadd dL_law_1265 ?_
    refine z_sld (v := (xs (i + 1))) (zsin (c := 1) (j := 1) rfl hi (by decide) hL).1 (by rw [(zsin (c := 1) (j := 1) rfl hi (by decide) hL).2]) dL_law_1266 ?_
    refine z_callVi_fr (As := [.int (xs (i + 1))]) (st := []) [] (wX0 cI cZ h a u ++ wO cJ o f3) (fun l => c_X1_badge l D cI2 cZ2 h2 a2 v (xs (i + 1)) nd hmd hd nn hmn hn) zGok_TT (fun _ _ _ => trivial) (fun s args hts => cwV 1 hts gL_law_X1_badge rfl rfl rfl (by decide +kernel) ⟨Nat.le_of_ble_eq_true rfl, Nat.le_of_ble_eq_true rfl⟩) (ci := 1) rfl rfl rfl [2, 3] rfl rfl rfl (Nat.le_of_ble_eq_true rfl) ⟨by show _ ≤ 1064; omega, by show _ ≤ 9936; omega⟩ dL_law_1267 rfl (fun r u2 hp => ?_)
    obtain ⟨rfl, rfl⟩ := hp
    refine z_istore (L' := [(6, .int (r_X1_badge v (xs (i + 1)))), (5, .int 0), (0, .ref b), (1, .ref h), (2, .ref h2), (3, .ref o), (4, .int (nI i))]) dL_law_1270 (by decide) rfl ?_
    refine z_aload_n 4 dL_law_1272 rfl ?_
    refine z_callVi_fr (As := []) (st := []) [] (wX0 cI cZ h a u ++ wO cJ o f3) (fun l => c_X1_thrown l D cI2 cZ2 h2 a2 (s_X1_badge v (xs (i + 1)))  ) zGok_TT (fun _ _ _ => trivial) (fun s args hts => cwV 0 hts gL_law_X1_thrown rfl rfl rfl (by decide +kernel) ⟨Nat.le_of_ble_eq_true rfl, Nat.le_of_ble_eq_true rfl⟩) (ci := 1) rfl rfl rfl [2, 3] rfl rfl rfl (Nat.le_of_ble_eq_true rfl) ⟨by show _ ≤ 1064; omega, by show _ ≤ 9936; omega⟩ dL_law_1273 rfl (fun r u2 hp => ?_)
    subst hp
    refine z_iload 1 dL_law_1276 rfl ?_
    refine z_icmp_eq 1283 dL_law_1278 (by decide) (fun _ => ?_) (fun q => absurd h0 q)
    refine z_iload 1 dL_law_1283 rfl ?_
    refine z_if_ne 1300 dL_law_1285 (by decide) (fun q => absurd q (by decide)) (fun _ => ?_)
    refine z_aload_n 5 dL_law_1288 rfl ?_
    refine z_iconst (v := 0) dL_law_1289 rfl ?_
    refine z_lald (v := (f3 0)) 31 4 rfl rfl zin01 rfl dL_law_1290 ?_
    refine z_iload 0 dL_law_1291 rfl ?_
    refine z_i2l (v := ((r_X1_badge v (xs (i + 1)))).toInt64) dL_law_1293 rfl ?_
    refine z_lcmpeq 1300 (by rw [show f3 0 = _ from hf, hr]) dL_law_1294 dL_law_1295 (by decide) ?_
    refine z_goto 1497 dL_law_1300 (by decide) ?_
    refine z_sub (L' := [(0, .ref b), (1, .ref h), (2, .ref h2), (3, .ref o), (4, .int (nI i))]) [2, 3, 4, 5, 6] rfl ?_
    exact K0 u (s_X1_badge v (xs (i + 1))) f3 hRn
  ·
    refine z_callWi_fr (As := [.ref h, .int (xs (i + 1)), .ref o]) (st := []) (wX1 cI2 cZ2 h2 a2 v) [] (fun l hl9 => kx_badge l (by rw [hl9]; exact hlt) D cI cZ cJ h a o u f (xs (i + 1)) he nd hnd hd nn hnn hn) zGok_U (fun _ _ q => q.1) (fun s args hts => vx_cwSW 3 hts gL_law_L_badge rfl rfl rfl (by decide +kernel) ⟨Nat.le_of_ble_eq_true rfl, Nat.le_of_ble_eq_true rfl⟩) [0, 1, 4] rfl rfl rfl (Nat.le_of_ble_eq_true rfl) ⟨by show _ ≤ 1064; omega, by show _ ≤ 9936; omega⟩ dL_law_1255 rfl (fun r u2 hp => ?_)
    subst hp
    refine z_eqw (w' := (wX1 cI2 cZ2 h2 a2 v ++ (wX0 cI cZ h a u ++ wO cJ o f))) rfl ?_
    refine z_istore (L' := [(5, .int 1), (0, .ref b), (1, .ref h), (2, .ref h2), (3, .ref o), (4, .int (nI i))]) dL_law_1258 (by decide) rfl ?_
    refine z_aload_n 3 dL_law_1260 rfl ?_
    refine z_aload_n 1 dL_law_1261 rfl ?_
    refine z_iload 5 dL_law_1262 rfl ?_
    refine z_iconst (v := 1) dL_law_1264 rfl ?_
    refine z_iadd dL_law_1265 ?_
    refine z_sld (v := (xs (i + 1))) (zsin (c := 1) (j := 1) rfl hi (by decide) hL).1 (by rw [(zsin (c := 1) (j := 1) rfl hi (by decide) hL).2]) dL_law_1266 ?_
    refine z_callVi_fr (As := [.int (xs (i + 1))]) (st := []) [] (wX0 cI cZ h a u ++ wO cJ o f) (fun l => c_X1_badge l D cI2 cZ2 h2 a2 v (xs (i + 1)) nd hmd hd nn hmn hn) zGok_TT (fun _ _ _ => trivial) (fun s args hts => cwV 1 hts gL_law_X1_badge rfl rfl rfl (by decide +kernel) ⟨Nat.le_of_ble_eq_true rfl, Nat.le_of_ble_eq_true rfl⟩) (ci := 1) rfl rfl rfl [2, 3] rfl rfl rfl (Nat.le_of_ble_eq_true rfl) ⟨by show _ ≤ 1064; omega, by show _ ≤ 9936; omega⟩ dL_law_1267 rfl (fun r u2 hp => ?_)
    obtain ⟨rfl, rfl⟩ := hp
    refine z_istore (L' := [(6, .int (r_X1_badge v (xs (i + 1)))), (5, .int 1), (0, .ref b), (1, .ref h), (2, .ref h2), (3, .ref o), (4, .int (nI i))]) dL_law_1270 (by decide) rfl ?_
    refine z_aload_n 4 dL_law_1272 rfl ?_
    refine z_callVi_fr (As := []) (st := []) [] (wX0 cI cZ h a u ++ wO cJ o f) (fun l => c_X1_thrown l D cI2 cZ2 h2 a2 (s_X1_badge v (xs (i + 1)))  ) zGok_TT (fun _ _ _ => trivial) (fun s args hts => cwV 0 hts gL_law_X1_thrown rfl rfl rfl (by decide +kernel) ⟨Nat.le_of_ble_eq_true rfl, Nat.le_of_ble_eq_true rfl⟩) (ci := 1) rfl rfl rfl [2, 3] rfl rfl rfl (Nat.le_of_ble_eq_true rfl) ⟨by show _ ≤ 1064; omega, by show _ ≤ 9936; omega⟩ dL_law_1273 rfl (fun r u2 hp => ?_)
    subst hp
    refine z_iload 1 dL_law_1276 rfl ?_
    refine z_icmp_eq 1283 dL_law_1278 (by decide) (fun _ => ?_) (fun q => absurd h0 q)
    refine z_iload 1 dL_law_1283 rfl ?_
    refine z_if_ne 1300 dL_law_1285 (by decide) (fun _ => ?_) (fun q => absurd q (by decide))
    refine z_goto 1497 dL_law_1300 (by decide) ?_
    refine z_sub (L' := [(0, .ref b), (1, .ref h), (2, .ref h2), (3, .ref o), (4, .int (nI i))]) [2, 3, 4, 5, 6] rfl ?_
    exact K u (s_X1_badge v (xs (i + 1))) f hRn
set_option maxHeartbeats 8000000 in
set_option maxRecDepth 100000 in
theorem law_waiting (E : ZE) (hlt : E.2.1.stackTraces = false) (b L : Nat) (xs : Nat → Int32) (D : va_G) (cI cZ cI2 cZ2 cJ : ClassId) (h h2 o : Nat) (a a2 : Nat → Nat) (hL : L ≤ 3072) (RR : SX → SX → Prop) (hWF : ∀ u v, RR u v → zWF u v) (hD : zD_waiting RR) (i : Nat) (hi : i + 6 ≤ L) (u v : SX) (f : Nat → Int64) (cn sn : Nat) (hc1 : cn + 1 ≤ 1064) (hc2 : sn + 6 ≤ 9936) (hR : RR u v)
    (K : ∀ (u v : SX) (f : Nat → Int64), RR u v → ZW E (zGL b L xs) room_1 cL_law RL wsL_law 7 D [(cI, .int), (cZ, .boolean), (cI2, .int), (cZ2, .boolean), (cJ, .long)] (cn + 1) (sn + 6) (wX1 cI2 cZ2 h2 a2 v ++ (wX0 cI cZ h a u ++ wO cJ o f)) 1497 [(0, .ref b), (1, .ref h), (2, .ref h2), (3, .ref o), (4, .int (nI i))] []) : ZW E (zGL b L xs) room_1 cL_law RL wsL_law 7 D [(cI, .int), (cZ, .boolean), (cI2, .int), (cZ2, .boolean), (cJ, .long)] cn sn (wX1 cI2 cZ2 h2 a2 v ++ (wX0 cI cZ h a u ++ wO cJ o f)) 1303 [(0, .ref b), (1, .ref h), (2, .ref h2), (3, .ref o), (4, .int (nI i))] [] := by
  obtain ⟨nd, nn, ⟨hnd, hd⟩, ⟨hnn, hn⟩, hlk, hmd, hmn⟩ := hWF u v hR
  have K0 : ∀ (u v : SX) (f : Nat → Int64), RR u v → ZW E (zGL b L xs) room_1 cL_law RL wsL_law 7 D [(cI, .int), (cZ, .boolean), (cI2, .int), (cZ2, .boolean), (cJ, .long)] cn sn (wX1 cI2 cZ2 h2 a2 v ++ (wX0 cI cZ h a u ++ wO cJ o f)) 1497 [(0, .ref b), (1, .ref h), (2, .ref h2), (3, .ref o), (4, .int (nI i))] [] := fun u v f h => z_widen (by omega) (by omega) (K u v f h)
  refine z_aload_n 1 dL_law_1303 rfl ?_
  refine z_aload_n 0 dL_law_1304 rfl ?_
  refine z_iload 4 dL_law_1305 rfl ?_
  refine z_iconst (v := 1) dL_law_1307 rfl ?_
  refine z_iadd dL_law_1308 ?_
  refine z_sld (v := (xs (i + 1))) (zsin (c := 1) (j := 1) rfl hi (by decide) hL).1 (by rw [(zsin (c := 1) (j := 1) rfl hi (by decide) hL).2]) dL_law_1309 ?_
  refine z_aload_n 3 dL_law_1310 rfl ?_
  rcases hD u v hR (xs (i + 1))  with ⟨he, h0, hr, hRn⟩ | ⟨he, h0, hRn⟩
  ·
    refine z_callWi_fr (As := [.ref h, .int (xs (i + 1)), .ref o]) (st := []) (wX1 cI2 cZ2 h2 a2 v) [] (fun l _ => kn_waiting l D cI cZ cJ h a o u f (xs (i + 1)) he nd hnd hd nn hnn hn) zGok_TT (fun _ _ _ => trivial) (fun s args hts => vx_cwSW 3 hts gL_law_L_waiting rfl rfl rfl (by decide +kernel) ⟨Nat.le_of_ble_eq_true rfl, Nat.le_of_ble_eq_true rfl⟩) [0, 1, 4] rfl rfl rfl (Nat.le_of_ble_eq_true rfl) ⟨by show _ ≤ 1064; omega, by show _ ≤ 9936; omega⟩ dL_law_1311 rfl (fun r u2 hp => ?_)
    obtain ⟨u3, f3⟩ := u2
    obtain ⟨rfl, hS, hf⟩ := hp
    have hS : u = u3 := hS.symm
    subst hS
    refine z_eqw (w' := (wX1 cI2 cZ2 h2 a2 v ++ (wX0 cI cZ h a u ++ wO cJ o f3))) rfl ?_
    refine z_istore (L' := [(5, .int 0), (0, .ref b), (1, .ref h), (2, .ref h2), (3, .ref o), (4, .int (nI i))]) dL_law_1314 (by decide) rfl ?_
    refine z_aload_n 3 dL_law_1316 rfl ?_
    refine z_aload_n 1 dL_law_1317 rfl ?_
    refine z_iload 5 dL_law_1318 rfl ?_
    refine z_iconst (v := 1) dL_law_1320 rfl ?_
    refine z_iadd dL_law_1321 ?_
    refine z_sld (v := (xs (i + 1))) (zsin (c := 1) (j := 1) rfl hi (by decide) hL).1 (by rw [(zsin (c := 1) (j := 1) rfl hi (by decide) hL).2]) dL_law_1322 ?_
    refine z_callVi_fr (As := [.int (xs (i + 1))]) (st := []) [] (wX0 cI cZ h a u ++ wO cJ o f3) (fun l => c_X1_waiting l D cI2 cZ2 h2 a2 v (xs (i + 1)) nd hmd hd nn hmn hn) zGok_TT (fun _ _ _ => trivial) (fun s args hts => cwV 1 hts gL_law_X1_waiting rfl rfl rfl (by decide +kernel) ⟨Nat.le_of_ble_eq_true rfl, Nat.le_of_ble_eq_true rfl⟩) (ci := 1) rfl rfl rfl [2, 3] rfl rfl rfl (Nat.le_of_ble_eq_true rfl) ⟨by show _ ≤ 1064; omega, by show _ ≤ 9936; omega⟩ dL_law_1323 rfl (fun r u2 hp => ?_)
    obtain ⟨rfl, rfl⟩ := hp
    refine z_istore (L' := [(6, .int (r_X1_waiting v (xs (i + 1)))), (5, .int 0), (0, .ref b), (1, .ref h), (2, .ref h2), (3, .ref o), (4, .int (nI i))]) dL_law_1326 (by decide) rfl ?_
    refine z_aload_n 4 dL_law_1328 rfl ?_
    refine z_callVi_fr (As := []) (st := []) [] (wX0 cI cZ h a u ++ wO cJ o f3) (fun l => c_X1_thrown l D cI2 cZ2 h2 a2 (s_X1_waiting v (xs (i + 1)))  ) zGok_TT (fun _ _ _ => trivial) (fun s args hts => cwV 0 hts gL_law_X1_thrown rfl rfl rfl (by decide +kernel) ⟨Nat.le_of_ble_eq_true rfl, Nat.le_of_ble_eq_true rfl⟩) (ci := 1) rfl rfl rfl [2, 3] rfl rfl rfl (Nat.le_of_ble_eq_true rfl) ⟨by show _ ≤ 1064; omega, by show _ ≤ 9936; omega⟩ dL_law_1329 rfl (fun r u2 hp => ?_)
    subst hp
    refine z_iload 1 dL_law_1332 rfl ?_
    refine z_icmp_eq 1339 dL_law_1334 (by decide) (fun _ => ?_) (fun q => absurd h0 q)
    refine z_iload 1 dL_law_1339 rfl ?_
    refine z_if_ne 1356 dL_law_1341 (by decide) (fun q => absurd q (by decide)) (fun _ => ?_)
    refine z_aload_n 5 dL_law_1344 rfl ?_
    refine z_iconst (v := 0) dL_law_1345 rfl ?_
    refine z_lald (v := (f3 0)) 31 4 rfl rfl zin01 rfl dL_law_1346 ?_
    refine z_iload 0 dL_law_1347 rfl ?_
    refine z_i2l (v := ((r_X1_waiting v (xs (i + 1)))).toInt64) dL_law_1349 rfl ?_
    refine z_lcmpeq 1356 (by rw [show f3 0 = _ from hf, hr]) dL_law_1350 dL_law_1351 (by decide) ?_
    refine z_goto 1497 dL_law_1356 (by decide) ?_
    refine z_sub (L' := [(0, .ref b), (1, .ref h), (2, .ref h2), (3, .ref o), (4, .int (nI i))]) [2, 3, 4, 5, 6] rfl ?_
    exact K0 u (s_X1_waiting v (xs (i + 1))) f3 hRn
  ·
    refine z_callWi_fr (As := [.ref h, .int (xs (i + 1)), .ref o]) (st := []) (wX1 cI2 cZ2 h2 a2 v) [] (fun l hl9 => kx_waiting l (by rw [hl9]; exact hlt) D cI cZ cJ h a o u f (xs (i + 1)) he nd hnd hd nn hnn hn) zGok_U (fun _ _ q => q.1) (fun s args hts => vx_cwSW 3 hts gL_law_L_waiting rfl rfl rfl (by decide +kernel) ⟨Nat.le_of_ble_eq_true rfl, Nat.le_of_ble_eq_true rfl⟩) [0, 1, 4] rfl rfl rfl (Nat.le_of_ble_eq_true rfl) ⟨by show _ ≤ 1064; omega, by show _ ≤ 9936; omega⟩ dL_law_1311 rfl (fun r u2 hp => ?_)
    subst hp
    refine z_eqw (w' := (wX1 cI2 cZ2 h2 a2 v ++ (wX0 cI cZ h a u ++ wO cJ o f))) rfl ?_
    refine z_istore (L' := [(5, .int 1), (0, .ref b), (1, .ref h), (2, .ref h2), (3, .ref o), (4, .int (nI i))]) dL_law_1314 (by decide) rfl ?_
    refine z_aload_n 3 dL_law_1316 rfl ?_
    refine z_aload_n 1 dL_law_1317 rfl ?_
    refine z_iload 5 dL_law_1318 rfl ?_
    refine z_iconst (v := 1) dL_law_1320 rfl ?_
    refine z_iadd dL_law_1321 ?_
    refine z_sld (v := (xs (i + 1))) (zsin (c := 1) (j := 1) rfl hi (by decide) hL).1 (by rw [(zsin (c := 1) (j := 1) rfl hi (by decide) hL).2]) dL_law_1322 ?_
    refine z_callVi_fr (As := [.int (xs (i + 1))]) (st := []) [] (wX0 cI cZ h a u ++ wO cJ o f) (fun l => c_X1_waiting l D cI2 cZ2 h2 a2 v (xs (i + 1)) nd hmd hd nn hmn hn) zGok_TT (fun _ _ _ => trivial) (fun s args hts => cwV 1 hts gL_law_X1_waiting rfl rfl rfl (by decide +kernel) ⟨Nat.le_of_ble_eq_true rfl, Nat.le_of_ble_eq_true rfl⟩) (ci := 1) rfl rfl rfl [2, 3] rfl rfl rfl (Nat.le_of_ble_eq_true rfl) ⟨by show _ ≤ 1064; omega, by show _ ≤ 9936; omega⟩ dL_law_1323 rfl (fun r u2 hp => ?_)
    obtain ⟨rfl, rfl⟩ := hp
    refine z_istore (L' := [(6, .int (r_X1_waiting v (xs (i + 1)))), (5, .int 1), (0, .ref b), (1, .ref h), (2, .ref h2), (3, .ref o), (4, .int (nI i))]) dL_law_1326 (by decide) rfl ?_
    refine z_aload_n 4 dL_law_1328 rfl ?_
    refine z_callVi_fr (As := []) (st := []) [] (wX0 cI cZ h a u ++ wO cJ o f) (fun l => c_X1_thrown l D cI2 cZ2 h2 a2 (s_X1_waiting v (xs (i + 1)))  ) zGok_TT (fun _ _ _ => trivial) (fun s args hts => cwV 0 hts gL_law_X1_thrown rfl rfl rfl (by decide +kernel) ⟨Nat.le_of_ble_eq_true rfl, Nat.le_of_ble_eq_true rfl⟩) (ci := 1) rfl rfl rfl [2, 3] rfl rfl rfl (Nat.le_of_ble_eq_true rfl) ⟨by show _ ≤ 1064; omega, by show _ ≤ 9936; omega⟩ dL_law_1329 rfl (fun r u2 hp => ?_)
    subst hp
    refine z_iload 1 dL_law_1332 rfl ?_
    refine z_icmp_eq 1339 dL_law_1334 (by decide) (fun _ => ?_) (fun q => absurd h0 q)
    refine z_iload 1 dL_law_1339 rfl ?_
    refine z_if_ne 1356 dL_law_1341 (by decide) (fun _ => ?_) (fun q => absurd q (by decide))
    refine z_goto 1497 dL_law_1356 (by decide) ?_
    refine z_sub (L' := [(0, .ref b), (1, .ref h), (2, .ref h2), (3, .ref o), (4, .int (nI i))]) [2, 3, 4, 5, 6] rfl ?_
    exact K u (s_X1_waiting v (xs (i + 1))) f hRn
set_option maxHeartbeats 8000000 in
set_option maxRecDepth 100000 in
theorem law_quota (E : ZE) (hlt : E.2.1.stackTraces = false) (b L : Nat) (xs : Nat → Int32) (D : va_G) (cI cZ cI2 cZ2 cJ : ClassId) (h h2 o : Nat) (a a2 : Nat → Nat) (hL : L ≤ 3072) (RR : SX → SX → Prop) (hWF : ∀ u v, RR u v → zWF u v) (hD : zD_quota RR) (i : Nat) (hi : i + 6 ≤ L) (u v : SX) (f : Nat → Int64) (cn sn : Nat) (hc1 : cn + 1 ≤ 1064) (hc2 : sn + 6 ≤ 9936) (hR : RR u v)
    (K : ∀ (u v : SX) (f : Nat → Int64), RR u v → ZW E (zGL b L xs) room_1 cL_law RL wsL_law 7 D [(cI, .int), (cZ, .boolean), (cI2, .int), (cZ2, .boolean), (cJ, .long)] (cn + 1) (sn + 6) (wX1 cI2 cZ2 h2 a2 v ++ (wX0 cI cZ h a u ++ wO cJ o f)) 1497 [(0, .ref b), (1, .ref h), (2, .ref h2), (3, .ref o), (4, .int (nI i))] []) : ZW E (zGL b L xs) room_1 cL_law RL wsL_law 7 D [(cI, .int), (cZ, .boolean), (cI2, .int), (cZ2, .boolean), (cJ, .long)] cn sn (wX1 cI2 cZ2 h2 a2 v ++ (wX0 cI cZ h a u ++ wO cJ o f)) 1359 [(0, .ref b), (1, .ref h), (2, .ref h2), (3, .ref o), (4, .int (nI i))] [] := by
  obtain ⟨nd, nn, ⟨hnd, hd⟩, ⟨hnn, hn⟩, hlk, hmd, hmn⟩ := hWF u v hR
  have K0 : ∀ (u v : SX) (f : Nat → Int64), RR u v → ZW E (zGL b L xs) room_1 cL_law RL wsL_law 7 D [(cI, .int), (cZ, .boolean), (cI2, .int), (cZ2, .boolean), (cJ, .long)] cn sn (wX1 cI2 cZ2 h2 a2 v ++ (wX0 cI cZ h a u ++ wO cJ o f)) 1497 [(0, .ref b), (1, .ref h), (2, .ref h2), (3, .ref o), (4, .int (nI i))] [] := fun u v f h => z_widen (by omega) (by omega) (K u v f h)
  refine z_aload_n 1 dL_law_1359 rfl ?_
  refine z_aload_n 0 dL_law_1360 rfl ?_
  refine z_iload 4 dL_law_1361 rfl ?_
  refine z_iconst (v := 1) dL_law_1363 rfl ?_
  refine z_iadd dL_law_1364 ?_
  refine z_sld (v := (xs (i + 1))) (zsin (c := 1) (j := 1) rfl hi (by decide) hL).1 (by rw [(zsin (c := 1) (j := 1) rfl hi (by decide) hL).2]) dL_law_1365 ?_
  refine z_aload_n 3 dL_law_1366 rfl ?_
  rcases hD u v hR (xs (i + 1))  with ⟨he, h0, hr, hRn⟩ | ⟨he, h0, hRn⟩
  ·
    refine z_callWi_fr (As := [.ref h, .int (xs (i + 1)), .ref o]) (st := []) (wX1 cI2 cZ2 h2 a2 v) [] (fun l _ => kn_quota l D cI cZ cJ h a o u f (xs (i + 1)) he nd hnd hd) zGok_TT (fun _ _ _ => trivial) (fun s args hts => vx_cwSW 3 hts gL_law_L_quota rfl rfl rfl (by decide +kernel) ⟨Nat.le_of_ble_eq_true rfl, Nat.le_of_ble_eq_true rfl⟩) [0, 1, 4] rfl rfl rfl (Nat.le_of_ble_eq_true rfl) ⟨by show _ ≤ 1064; omega, by show _ ≤ 9936; omega⟩ dL_law_1367 rfl (fun r u2 hp => ?_)
    obtain ⟨u3, f3⟩ := u2
    obtain ⟨rfl, hS, hf⟩ := hp
    have hS : u = u3 := hS.symm
    subst hS
    refine z_eqw (w' := (wX1 cI2 cZ2 h2 a2 v ++ (wX0 cI cZ h a u ++ wO cJ o f3))) rfl ?_
    refine z_istore (L' := [(5, .int 0), (0, .ref b), (1, .ref h), (2, .ref h2), (3, .ref o), (4, .int (nI i))]) dL_law_1370 (by decide) rfl ?_
    refine z_aload_n 3 dL_law_1372 rfl ?_
    refine z_aload_n 1 dL_law_1373 rfl ?_
    refine z_iload 5 dL_law_1374 rfl ?_
    refine z_iconst (v := 1) dL_law_1376 rfl ?_
    refine z_iadd dL_law_1377 ?_
    refine z_sld (v := (xs (i + 1))) (zsin (c := 1) (j := 1) rfl hi (by decide) hL).1 (by rw [(zsin (c := 1) (j := 1) rfl hi (by decide) hL).2]) dL_law_1378 ?_
    refine z_callVi_fr (As := [.int (xs (i + 1))]) (st := []) [] (wX0 cI cZ h a u ++ wO cJ o f3) (fun l => c_X1_quota l D cI2 cZ2 h2 a2 v (xs (i + 1)) nd hmd hd) zGok_TT (fun _ _ _ => trivial) (fun s args hts => cwV 1 hts gL_law_X1_quota rfl rfl rfl (by decide +kernel) ⟨Nat.le_of_ble_eq_true rfl, Nat.le_of_ble_eq_true rfl⟩) (ci := 1) rfl rfl rfl [2, 3] rfl rfl rfl (Nat.le_of_ble_eq_true rfl) ⟨by show _ ≤ 1064; omega, by show _ ≤ 9936; omega⟩ dL_law_1379 rfl (fun r u2 hp => ?_)
    obtain ⟨rfl, rfl⟩ := hp
    refine z_istore (L' := [(6, .int (r_X1_quota v (xs (i + 1)))), (5, .int 0), (0, .ref b), (1, .ref h), (2, .ref h2), (3, .ref o), (4, .int (nI i))]) dL_law_1382 (by decide) rfl ?_
    refine z_aload_n 4 dL_law_1384 rfl ?_
    refine z_callVi_fr (As := []) (st := []) [] (wX0 cI cZ h a u ++ wO cJ o f3) (fun l => c_X1_thrown l D cI2 cZ2 h2 a2 (s_X1_quota v (xs (i + 1)))  ) zGok_TT (fun _ _ _ => trivial) (fun s args hts => cwV 0 hts gL_law_X1_thrown rfl rfl rfl (by decide +kernel) ⟨Nat.le_of_ble_eq_true rfl, Nat.le_of_ble_eq_true rfl⟩) (ci := 1) rfl rfl rfl [2, 3] rfl rfl rfl (Nat.le_of_ble_eq_true rfl) ⟨by show _ ≤ 1064; omega, by show _ ≤ 9936; omega⟩ dL_law_1385 rfl (fun r u2 hp => ?_)
    subst hp
    refine z_iload 1 dL_law_1388 rfl ?_
    refine z_icmp_eq 1395 dL_law_1390 (by decide) (fun _ => ?_) (fun q => absurd h0 q)
    refine z_iload 1 dL_law_1395 rfl ?_
    refine z_if_ne 1412 dL_law_1397 (by decide) (fun q => absurd q (by decide)) (fun _ => ?_)
    refine z_aload_n 5 dL_law_1400 rfl ?_
    refine z_iconst (v := 0) dL_law_1401 rfl ?_
    refine z_lald (v := (f3 0)) 31 4 rfl rfl zin01 rfl dL_law_1402 ?_
    refine z_iload 0 dL_law_1403 rfl ?_
    refine z_i2l (v := ((r_X1_quota v (xs (i + 1)))).toInt64) dL_law_1405 rfl ?_
    refine z_lcmpeq 1412 (by rw [show f3 0 = _ from hf, hr]) dL_law_1406 dL_law_1407 (by decide) ?_
    refine z_goto 1497 dL_law_1412 (by decide) ?_
    refine z_sub (L' := [(0, .ref b), (1, .ref h), (2, .ref h2), (3, .ref o), (4, .int (nI i))]) [2, 3, 4, 5, 6] rfl ?_
    exact K0 u (s_X1_quota v (xs (i + 1))) f3 hRn
  ·
    refine z_callWi_fr (As := [.ref h, .int (xs (i + 1)), .ref o]) (st := []) (wX1 cI2 cZ2 h2 a2 v) [] (fun l hl9 => kx_quota l (by rw [hl9]; exact hlt) D cI cZ cJ h a o u f (xs (i + 1)) he nd hnd hd) zGok_U (fun _ _ q => q.1) (fun s args hts => vx_cwSW 3 hts gL_law_L_quota rfl rfl rfl (by decide +kernel) ⟨Nat.le_of_ble_eq_true rfl, Nat.le_of_ble_eq_true rfl⟩) [0, 1, 4] rfl rfl rfl (Nat.le_of_ble_eq_true rfl) ⟨by show _ ≤ 1064; omega, by show _ ≤ 9936; omega⟩ dL_law_1367 rfl (fun r u2 hp => ?_)
    subst hp
    refine z_eqw (w' := (wX1 cI2 cZ2 h2 a2 v ++ (wX0 cI cZ h a u ++ wO cJ o f))) rfl ?_
    refine z_istore (L' := [(5, .int 1), (0, .ref b), (1, .ref h), (2, .ref h2), (3, .ref o), (4, .int (nI i))]) dL_law_1370 (by decide) rfl ?_
    refine z_aload_n 3 dL_law_1372 rfl ?_
    refine z_aload_n 1 dL_law_1373 rfl ?_
    refine z_iload 5 dL_law_1374 rfl ?_
    refine z_iconst (v := 1) dL_law_1376 rfl ?_
    refine z_iadd dL_law_1377 ?_
    refine z_sld (v := (xs (i + 1))) (zsin (c := 1) (j := 1) rfl hi (by decide) hL).1 (by rw [(zsin (c := 1) (j := 1) rfl hi (by decide) hL).2]) dL_law_1378 ?_
    refine z_callVi_fr (As := [.int (xs (i + 1))]) (st := []) [] (wX0 cI cZ h a u ++ wO cJ o f) (fun l => c_X1_quota l D cI2 cZ2 h2 a2 v (xs (i + 1)) nd hmd hd) zGok_TT (fun _ _ _ => trivial) (fun s args hts => cwV 1 hts gL_law_X1_quota rfl rfl rfl (by decide +kernel) ⟨Nat.le_of_ble_eq_true rfl, Nat.le_of_ble_eq_true rfl⟩) (ci := 1) rfl rfl rfl [2, 3] rfl rfl rfl (Nat.le_of_ble_eq_true rfl) ⟨by show _ ≤ 1064; omega, by show _ ≤ 9936; omega⟩ dL_law_1379 rfl (fun r u2 hp => ?_)
    obtain ⟨rfl, rfl⟩ := hp
    refine z_istore (L' := [(6, .int (r_X1_quota v (xs (i + 1)))), (5, .int 1), (0, .ref b), (1, .ref h), (2, .ref h2), (3, .ref o), (4, .int (nI i))]) dL_law_1382 (by decide) rfl ?_
    refine z_aload_n 4 dL_law_1384 rfl ?_
    refine z_callVi_fr (As := []) (st := []) [] (wX0 cI cZ h a u ++ wO cJ o f) (fun l => c_X1_thrown l D cI2 cZ2 h2 a2 (s_X1_quota v (xs (i + 1)))  ) zGok_TT (fun _ _ _ => trivial) (fun s args hts => cwV 0 hts gL_law_X1_thrown rfl rfl rfl (by decide +kernel) ⟨Nat.le_of_ble_eq_true rfl, Nat.le_of_ble_eq_true rfl⟩) (ci := 1) rfl rfl rfl [2, 3] rfl rfl rfl (Nat.le_of_ble_eq_true rfl) ⟨by show _ ≤ 1064; omega, by show _ ≤ 9936; omega⟩ dL_law_1385 rfl (fun r u2 hp => ?_)
    subst hp
    refine z_iload 1 dL_law_1388 rfl ?_
    refine z_icmp_eq 1395 dL_law_1390 (by decide) (fun _ => ?_) (fun q => absurd h0 q)
    refine z_iload 1 dL_law_1395 rfl ?_
    refine z_if_ne 1412 dL_law_1397 (by decide) (fun _ => ?_) (fun q => absurd q (by decide))
    refine z_goto 1497 dL_law_1412 (by decide) ?_
    refine z_sub (L' := [(0, .ref b), (1, .ref h), (2, .ref h2), (3, .ref o), (4, .int (nI i))]) [2, 3, 4, 5, 6] rfl ?_
    exact K u (s_X1_quota v (xs (i + 1))) f hRn
set_option maxHeartbeats 8000000 in
set_option maxRecDepth 100000 in
theorem law_pass (E : ZE) (hlt : E.2.1.stackTraces = false) (b L : Nat) (xs : Nat → Int32) (D : va_G) (cI cZ cI2 cZ2 cJ : ClassId) (h h2 o : Nat) (a a2 : Nat → Nat) (hL : L ≤ 3072) (RR : SX → SX → Prop) (hWF : ∀ u v, RR u v → zWF u v) (hD : zD_pass RR) (i : Nat) (hi : i + 6 ≤ L) (u v : SX) (f : Nat → Int64) (cn sn : Nat) (hc1 : cn + 1 ≤ 1064) (hc2 : sn + 6 ≤ 9936) (hR : RR u v)
    (K : ∀ (u v : SX) (f : Nat → Int64), RR u v → ZW E (zGL b L xs) room_1 cL_law RL wsL_law 7 D [(cI, .int), (cZ, .boolean), (cI2, .int), (cZ2, .boolean), (cJ, .long)] (cn + 1) (sn + 6) (wX1 cI2 cZ2 h2 a2 v ++ (wX0 cI cZ h a u ++ wO cJ o f)) 1497 [(0, .ref b), (1, .ref h), (2, .ref h2), (3, .ref o), (4, .int (nI i))] []) : ZW E (zGL b L xs) room_1 cL_law RL wsL_law 7 D [(cI, .int), (cZ, .boolean), (cI2, .int), (cZ2, .boolean), (cJ, .long)] cn sn (wX1 cI2 cZ2 h2 a2 v ++ (wX0 cI cZ h a u ++ wO cJ o f)) 1415 [(0, .ref b), (1, .ref h), (2, .ref h2), (3, .ref o), (4, .int (nI i))] [] := by
  obtain ⟨nd, nn, ⟨hnd, hd⟩, ⟨hnn, hn⟩, hlk, hmd, hmn⟩ := hWF u v hR
  have K0 : ∀ (u v : SX) (f : Nat → Int64), RR u v → ZW E (zGL b L xs) room_1 cL_law RL wsL_law 7 D [(cI, .int), (cZ, .boolean), (cI2, .int), (cZ2, .boolean), (cJ, .long)] cn sn (wX1 cI2 cZ2 h2 a2 v ++ (wX0 cI cZ h a u ++ wO cJ o f)) 1497 [(0, .ref b), (1, .ref h), (2, .ref h2), (3, .ref o), (4, .int (nI i))] [] := fun u v f h => z_widen (by omega) (by omega) (K u v f h)
  refine z_aload_n 1 dL_law_1415 rfl ?_
  refine z_aload_n 0 dL_law_1416 rfl ?_
  refine z_iload 4 dL_law_1417 rfl ?_
  refine z_iconst (v := 1) dL_law_1419 rfl ?_
  refine z_iadd dL_law_1420 ?_
  refine z_sld (v := (xs (i + 1))) (zsin (c := 1) (j := 1) rfl hi (by decide) hL).1 (by rw [(zsin (c := 1) (j := 1) rfl hi (by decide) hL).2]) dL_law_1421 ?_
  refine z_aload_n 3 dL_law_1422 rfl ?_
  rcases hD u v hR (xs (i + 1))  with ⟨he, h0, hr, hRn⟩ | ⟨he, h0, hRn⟩
  ·
    refine z_callWi_fr (As := [.ref h, .int (xs (i + 1)), .ref o]) (st := []) (wX1 cI2 cZ2 h2 a2 v) [] (fun l _ => kn_pass l D cI cZ cJ h a o u f (xs (i + 1)) he nd hnd hd nn hnn hn) zGok_TT (fun _ _ _ => trivial) (fun s args hts => vx_cwSW 3 hts gL_law_L_pass rfl rfl rfl (by decide +kernel) ⟨Nat.le_of_ble_eq_true rfl, Nat.le_of_ble_eq_true rfl⟩) [0, 1, 4] rfl rfl rfl (Nat.le_of_ble_eq_true rfl) ⟨by show _ ≤ 1064; omega, by show _ ≤ 9936; omega⟩ dL_law_1423 rfl (fun r u2 hp => ?_)
    obtain ⟨u3, f3⟩ := u2
    obtain ⟨rfl, hS, hf⟩ := hp
    have hS : u3 = (s_X0_pass u (xs (i + 1))) := hS
    subst hS
    refine z_eqw (w' := (wX1 cI2 cZ2 h2 a2 v ++ (wX0 cI cZ h a (s_X0_pass u (xs (i + 1))) ++ wO cJ o f3))) rfl ?_
    refine z_istore (L' := [(5, .int 0), (0, .ref b), (1, .ref h), (2, .ref h2), (3, .ref o), (4, .int (nI i))]) dL_law_1426 (by decide) rfl ?_
    refine z_aload_n 3 dL_law_1428 rfl ?_
    refine z_aload_n 1 dL_law_1429 rfl ?_
    refine z_iload 5 dL_law_1430 rfl ?_
    refine z_iconst (v := 1) dL_law_1432 rfl ?_
    refine z_iadd dL_law_1433 ?_
    refine z_sld (v := (xs (i + 1))) (zsin (c := 1) (j := 1) rfl hi (by decide) hL).1 (by rw [(zsin (c := 1) (j := 1) rfl hi (by decide) hL).2]) dL_law_1434 ?_
    refine z_callVi_fr (As := [.int (xs (i + 1))]) (st := []) [] (wX0 cI cZ h a (s_X0_pass u (xs (i + 1))) ++ wO cJ o f3) (fun l => c_X1_pass l D cI2 cZ2 h2 a2 v (xs (i + 1)) nd hmd hd nn hmn hn) zGok_TT (fun _ _ _ => trivial) (fun s args hts => cwV 1 hts gL_law_X1_pass rfl rfl rfl (by decide +kernel) ⟨Nat.le_of_ble_eq_true rfl, Nat.le_of_ble_eq_true rfl⟩) (ci := 1) rfl rfl rfl [2, 3] rfl rfl rfl (Nat.le_of_ble_eq_true rfl) ⟨by show _ ≤ 1064; omega, by show _ ≤ 9936; omega⟩ dL_law_1435 rfl (fun r u2 hp => ?_)
    obtain ⟨rfl, rfl⟩ := hp
    refine z_istore (L' := [(6, .int (r_X1_pass v (xs (i + 1)))), (5, .int 0), (0, .ref b), (1, .ref h), (2, .ref h2), (3, .ref o), (4, .int (nI i))]) dL_law_1438 (by decide) rfl ?_
    refine z_aload_n 4 dL_law_1440 rfl ?_
    refine z_callVi_fr (As := []) (st := []) [] (wX0 cI cZ h a (s_X0_pass u (xs (i + 1))) ++ wO cJ o f3) (fun l => c_X1_thrown l D cI2 cZ2 h2 a2 (s_X1_pass v (xs (i + 1)))  ) zGok_TT (fun _ _ _ => trivial) (fun s args hts => cwV 0 hts gL_law_X1_thrown rfl rfl rfl (by decide +kernel) ⟨Nat.le_of_ble_eq_true rfl, Nat.le_of_ble_eq_true rfl⟩) (ci := 1) rfl rfl rfl [2, 3] rfl rfl rfl (Nat.le_of_ble_eq_true rfl) ⟨by show _ ≤ 1064; omega, by show _ ≤ 9936; omega⟩ dL_law_1441 rfl (fun r u2 hp => ?_)
    subst hp
    refine z_iload 1 dL_law_1444 rfl ?_
    refine z_icmp_eq 1451 dL_law_1446 (by decide) (fun _ => ?_) (fun q => absurd h0 q)
    refine z_iload 1 dL_law_1451 rfl ?_
    refine z_if_ne 1468 dL_law_1453 (by decide) (fun q => absurd q (by decide)) (fun _ => ?_)
    refine z_aload_n 5 dL_law_1456 rfl ?_
    refine z_iconst (v := 0) dL_law_1457 rfl ?_
    refine z_lald (v := (f3 0)) 31 4 rfl rfl zin01 rfl dL_law_1458 ?_
    refine z_iload 0 dL_law_1459 rfl ?_
    refine z_i2l (v := ((r_X1_pass v (xs (i + 1)))).toInt64) dL_law_1461 rfl ?_
    refine z_lcmpeq 1468 (by rw [show f3 0 = _ from hf, hr]) dL_law_1462 dL_law_1463 (by decide) ?_
    refine z_goto 1497 dL_law_1468 (by decide) ?_
    refine z_sub (L' := [(0, .ref b), (1, .ref h), (2, .ref h2), (3, .ref o), (4, .int (nI i))]) [2, 3, 4, 5, 6] rfl ?_
    exact K0 (s_X0_pass u (xs (i + 1))) (s_X1_pass v (xs (i + 1))) f3 hRn
  ·
    refine z_callWi_fr (As := [.ref h, .int (xs (i + 1)), .ref o]) (st := []) (wX1 cI2 cZ2 h2 a2 v) [] (fun l hl9 => kx_pass l (by rw [hl9]; exact hlt) D cI cZ cJ h a o u f (xs (i + 1)) he nd hnd hd nn hnn hn) zGok_U (fun _ _ q => q.1) (fun s args hts => vx_cwSW 3 hts gL_law_L_pass rfl rfl rfl (by decide +kernel) ⟨Nat.le_of_ble_eq_true rfl, Nat.le_of_ble_eq_true rfl⟩) [0, 1, 4] rfl rfl rfl (Nat.le_of_ble_eq_true rfl) ⟨by show _ ≤ 1064; omega, by show _ ≤ 9936; omega⟩ dL_law_1423 rfl (fun r u2 hp => ?_)
    subst hp
    refine z_eqw (w' := (wX1 cI2 cZ2 h2 a2 v ++ (wX0 cI cZ h a u ++ wO cJ o f))) rfl ?_
    refine z_istore (L' := [(5, .int (if e_X0_pass u (xs (i + 1)) = 1 then 1 else 2)), (0, .ref b), (1, .ref h), (2, .ref h2), (3, .ref o), (4, .int (nI i))]) dL_law_1426 (by decide) rfl ?_
    refine z_aload_n 3 dL_law_1428 rfl ?_
    refine z_aload_n 1 dL_law_1429 rfl ?_
    refine z_iload 5 dL_law_1430 rfl ?_
    refine z_iconst (v := 1) dL_law_1432 rfl ?_
    refine z_iadd dL_law_1433 ?_
    refine z_sld (v := (xs (i + 1))) (zsin (c := 1) (j := 1) rfl hi (by decide) hL).1 (by rw [(zsin (c := 1) (j := 1) rfl hi (by decide) hL).2]) dL_law_1434 ?_
    refine z_callVi_fr (As := [.int (xs (i + 1))]) (st := []) [] (wX0 cI cZ h a u ++ wO cJ o f) (fun l => c_X1_pass l D cI2 cZ2 h2 a2 v (xs (i + 1)) nd hmd hd nn hmn hn) zGok_TT (fun _ _ _ => trivial) (fun s args hts => cwV 1 hts gL_law_X1_pass rfl rfl rfl (by decide +kernel) ⟨Nat.le_of_ble_eq_true rfl, Nat.le_of_ble_eq_true rfl⟩) (ci := 1) rfl rfl rfl [2, 3] rfl rfl rfl (Nat.le_of_ble_eq_true rfl) ⟨by show _ ≤ 1064; omega, by show _ ≤ 9936; omega⟩ dL_law_1435 rfl (fun r u2 hp => ?_)
    obtain ⟨rfl, rfl⟩ := hp
    refine z_istore (L' := [(6, .int (r_X1_pass v (xs (i + 1)))), (5, .int (if e_X0_pass u (xs (i + 1)) = 1 then 1 else 2)), (0, .ref b), (1, .ref h), (2, .ref h2), (3, .ref o), (4, .int (nI i))]) dL_law_1438 (by decide) rfl ?_
    refine z_aload_n 4 dL_law_1440 rfl ?_
    refine z_callVi_fr (As := []) (st := []) [] (wX0 cI cZ h a u ++ wO cJ o f) (fun l => c_X1_thrown l D cI2 cZ2 h2 a2 (s_X1_pass v (xs (i + 1)))  ) zGok_TT (fun _ _ _ => trivial) (fun s args hts => cwV 0 hts gL_law_X1_thrown rfl rfl rfl (by decide +kernel) ⟨Nat.le_of_ble_eq_true rfl, Nat.le_of_ble_eq_true rfl⟩) (ci := 1) rfl rfl rfl [2, 3] rfl rfl rfl (Nat.le_of_ble_eq_true rfl) ⟨by show _ ≤ 1064; omega, by show _ ≤ 9936; omega⟩ dL_law_1441 rfl (fun r u2 hp => ?_)
    subst hp
    refine z_iload 1 dL_law_1444 rfl ?_
    refine z_icmp_eq 1451 dL_law_1446 (by decide) (fun _ => ?_) (fun q => absurd h0 q)
    refine z_iload 1 dL_law_1451 rfl ?_
    refine z_if_ne 1468 dL_law_1453 (by decide) (fun _ => ?_) (fun q => absurd q (by split <;> decide))
    refine z_goto 1497 dL_law_1468 (by decide) ?_
    refine z_sub (L' := [(0, .ref b), (1, .ref h), (2, .ref h2), (3, .ref o), (4, .int (nI i))]) [2, 3, 4, 5, 6] rfl ?_
    exact K u (s_X1_pass v (xs (i + 1))) f hRn
set_option maxHeartbeats 8000000 in
set_option maxRecDepth 100000 in
theorem law_clock (E : ZE) (hlt : E.2.1.stackTraces = false) (b L : Nat) (xs : Nat → Int32) (D : va_G) (cI cZ cI2 cZ2 cJ : ClassId) (h h2 o : Nat) (a a2 : Nat → Nat) (hL : L ≤ 3072) (RR : SX → SX → Prop) (hWF : ∀ u v, RR u v → zWF u v) (hD : zD_clock RR) (i : Nat) (hi : i + 6 ≤ L) (u v : SX) (f : Nat → Int64) (cn sn : Nat) (hc1 : cn + 1 ≤ 1064) (hc2 : sn + 6 ≤ 9936) (hR : RR u v)
    (K : ∀ (u v : SX) (f : Nat → Int64), RR u v → ZW E (zGL b L xs) room_1 cL_law RL wsL_law 7 D [(cI, .int), (cZ, .boolean), (cI2, .int), (cZ2, .boolean), (cJ, .long)] (cn + 1) (sn + 6) (wX1 cI2 cZ2 h2 a2 v ++ (wX0 cI cZ h a u ++ wO cJ o f)) 1497 [(0, .ref b), (1, .ref h), (2, .ref h2), (3, .ref o), (4, .int (nI i))] []) : ZW E (zGL b L xs) room_1 cL_law RL wsL_law 7 D [(cI, .int), (cZ, .boolean), (cI2, .int), (cZ2, .boolean), (cJ, .long)] cn sn (wX1 cI2 cZ2 h2 a2 v ++ (wX0 cI cZ h a u ++ wO cJ o f)) 1471 [(0, .ref b), (1, .ref h), (2, .ref h2), (3, .ref o), (4, .int (nI i))] [] := by
  obtain ⟨nd, nn, ⟨hnd, hd⟩, ⟨hnn, hn⟩, hlk, hmd, hmn⟩ := hWF u v hR
  have K0 : ∀ (u v : SX) (f : Nat → Int64), RR u v → ZW E (zGL b L xs) room_1 cL_law RL wsL_law 7 D [(cI, .int), (cZ, .boolean), (cI2, .int), (cZ2, .boolean), (cJ, .long)] cn sn (wX1 cI2 cZ2 h2 a2 v ++ (wX0 cI cZ h a u ++ wO cJ o f)) 1497 [(0, .ref b), (1, .ref h), (2, .ref h2), (3, .ref o), (4, .int (nI i))] [] := fun u v f h => z_widen (by omega) (by omega) (K u v f h)
  obtain ⟨hr, hRn⟩ := hD u v hR
  refine z_aload_n 1 dL_law_1471 rfl ?_
  refine z_callVi_fr (As := []) (st := []) (wX1 cI2 cZ2 h2 a2 v) (wO cJ o f) (fun l => c_X0_clock l D cI cZ h a u) zGok_TT (fun _ _ _ => trivial) (fun s args hts => cwV 0 hts gL_law_X0_clock rfl rfl rfl (by decide +kernel) ⟨Nat.le_of_ble_eq_true rfl, Nat.le_of_ble_eq_true rfl⟩) (ci := 0) rfl rfl rfl [0, 1] rfl rfl rfl (Nat.le_of_ble_eq_true rfl) ⟨by show _ ≤ 1064; omega, by show _ ≤ 9936; omega⟩ dL_law_1472 rfl (fun r u2 hp => ?_)
  subst hp
  refine z_aload_n 2 dL_law_1475 rfl ?_
  refine z_callVi_fr (As := []) (st := [.int (r_X0_clock u)]) [] (wX0 cI cZ h a u ++ wO cJ o f) (fun l => c_X1_clock l D cI2 cZ2 h2 a2 v  ) zGok_TT (fun _ _ _ => trivial) (fun s args hts => cwV 0 hts gL_law_X1_clock rfl rfl rfl (by decide +kernel) ⟨Nat.le_of_ble_eq_true rfl, Nat.le_of_ble_eq_true rfl⟩) (ci := 1) rfl rfl rfl [2, 3] rfl rfl rfl (Nat.le_of_ble_eq_true rfl) ⟨by show _ ≤ 1064; omega, by show _ ≤ 9936; omega⟩ dL_law_1476 rfl (fun r u2 hp => ?_)
  obtain ⟨rfl, rfl⟩ := hp
  refine z_icmp_eq 1497 dL_law_1479 (by decide) (fun _ => ?_) (fun q => absurd hr q)
  refine z_sub (L' := [(0, .ref b), (1, .ref h), (2, .ref h2), (3, .ref o), (4, .int (nI i))]) [0, 1, 2, 3, 4] rfl ?_
  exact K0 u (s_X1_clock v) f hRn
set_option maxHeartbeats 8000000 in
set_option maxRecDepth 100000 in
theorem law_deliveries (E : ZE) (hlt : E.2.1.stackTraces = false) (b L : Nat) (xs : Nat → Int32) (D : va_G) (cI cZ cI2 cZ2 cJ : ClassId) (h h2 o : Nat) (a a2 : Nat → Nat) (hL : L ≤ 3072) (RR : SX → SX → Prop) (hWF : ∀ u v, RR u v → zWF u v) (hD : zD_deliveries RR) (i : Nat) (hi : i + 6 ≤ L) (u v : SX) (f : Nat → Int64) (cn sn : Nat) (hc1 : cn + 1 ≤ 1064) (hc2 : sn + 6 ≤ 9936) (hR : RR u v)
    (K : ∀ (u v : SX) (f : Nat → Int64), RR u v → ZW E (zGL b L xs) room_1 cL_law RL wsL_law 7 D [(cI, .int), (cZ, .boolean), (cI2, .int), (cZ2, .boolean), (cJ, .long)] (cn + 1) (sn + 6) (wX1 cI2 cZ2 h2 a2 v ++ (wX0 cI cZ h a u ++ wO cJ o f)) 1497 [(0, .ref b), (1, .ref h), (2, .ref h2), (3, .ref o), (4, .int (nI i))] []) : ZW E (zGL b L xs) room_1 cL_law RL wsL_law 7 D [(cI, .int), (cZ, .boolean), (cI2, .int), (cZ2, .boolean), (cJ, .long)] cn sn (wX1 cI2 cZ2 h2 a2 v ++ (wX0 cI cZ h a u ++ wO cJ o f)) 1484 [(0, .ref b), (1, .ref h), (2, .ref h2), (3, .ref o), (4, .int (nI i))] [] := by
  obtain ⟨nd, nn, ⟨hnd, hd⟩, ⟨hnn, hn⟩, hlk, hmd, hmn⟩ := hWF u v hR
  have K0 : ∀ (u v : SX) (f : Nat → Int64), RR u v → ZW E (zGL b L xs) room_1 cL_law RL wsL_law 7 D [(cI, .int), (cZ, .boolean), (cI2, .int), (cZ2, .boolean), (cJ, .long)] cn sn (wX1 cI2 cZ2 h2 a2 v ++ (wX0 cI cZ h a u ++ wO cJ o f)) 1497 [(0, .ref b), (1, .ref h), (2, .ref h2), (3, .ref o), (4, .int (nI i))] [] := fun u v f h => z_widen (by omega) (by omega) (K u v f h)
  obtain ⟨hr, hRn⟩ := hD u v hR
  refine z_aload_n 1 dL_law_1484 rfl ?_
  refine z_callVi_fr (As := []) (st := []) (wX1 cI2 cZ2 h2 a2 v) (wO cJ o f) (fun l => c_X0_deliveries l D cI cZ h a u) zGok_TT (fun _ _ _ => trivial) (fun s args hts => cwV 0 hts gL_law_X0_deliveries rfl rfl rfl (by decide +kernel) ⟨Nat.le_of_ble_eq_true rfl, Nat.le_of_ble_eq_true rfl⟩) (ci := 0) rfl rfl rfl [0, 1] rfl rfl rfl (Nat.le_of_ble_eq_true rfl) ⟨by show _ ≤ 1064; omega, by show _ ≤ 9936; omega⟩ dL_law_1485 rfl (fun r u2 hp => ?_)
  subst hp
  refine z_aload_n 2 dL_law_1488 rfl ?_
  refine z_callVi_fr (As := []) (st := [.int (r_X0_deliveries u)]) [] (wX0 cI cZ h a u ++ wO cJ o f) (fun l => c_X1_deliveries l D cI2 cZ2 h2 a2 v  ) zGok_TT (fun _ _ _ => trivial) (fun s args hts => cwV 0 hts gL_law_X1_deliveries rfl rfl rfl (by decide +kernel) ⟨Nat.le_of_ble_eq_true rfl, Nat.le_of_ble_eq_true rfl⟩) (ci := 1) rfl rfl rfl [2, 3] rfl rfl rfl (Nat.le_of_ble_eq_true rfl) ⟨by show _ ≤ 1064; omega, by show _ ≤ 9936; omega⟩ dL_law_1489 rfl (fun r u2 hp => ?_)
  obtain ⟨rfl, rfl⟩ := hp
  refine z_icmp_eq 1497 dL_law_1492 (by decide) (fun _ => ?_) (fun q => absurd hr q)
  refine z_sub (L' := [(0, .ref b), (1, .ref h), (2, .ref h2), (3, .ref o), (4, .int (nI i))]) [0, 1, 2, 3, 4] rfl ?_
  exact K0 u (s_X1_deliveries v) f hRn
