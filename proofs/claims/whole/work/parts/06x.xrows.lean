def mnI (x y : Int32) : Int32 := if y < x then y else x
theorem z_mmin {E : ZE} {G : State → (Nat → Prop) → Prop} {R : Room} {cc : ByteArray} {own : String} {Ts : List Cond} {n : Nat} {D : va_G} {tys : List (ClassId × FieldType)} {cells slots : Nat} {w : va_W} {pc : Nat} {L : List (Nat × Value)} {st : List Value} {idx : Nat} {x y : Int32} (h1 : Cond.methodLink own idx Lib.Math.min.name ∈ Ts) (h2 : Cond.static Lib.Math.min.name ∈ Ts) (h3 : Cond.initialized "java/lang/Math" ∈ Ts) (h4 : Cond.code Lib.Math.min.name Lib.Math.min.code 2 (some .int) ∈ Ts) (hR : 1 ≤ R.frames ∧ 21 ≤ R.locals ∧ cells ≤ R.cells ∧ slots ≤ R.slots) (hcat : (st.map fun v => v.category).sum ≤ 8) (d : decode cc pc = .ok (.invokestatic idx, 3))
    (kk : ZW E G R cc own Ts n D tys cells slots w (pc + 3) L (.int (mnI x y) :: st)) : ZW E G R cc own Ts n D tys cells slots w pc L (.int y :: .int x :: st) := by
  obtain ⟨p, l, e, s, m, args, below, meth, c, A, Q⟩ := E
  intro hx hb hml hown hts hA hG hK H locs ls hP hD hS hl
  exact va_mmin hx hb (hml.trans hl.1.symm) hown (hts _ h1) (hts _ h2) (hts _ h3) (hts _ h4) hR.1 (by have := hR.2.1; omega) hR.2.2.1 hR.2.2.2 d (kk hx hb hml hown hts hA hG hK H locs ls hP hD hS hl)
theorem va_P_lt {D : va_G} {cl : List vw_C} {ws : va_W} {H : Heap} (h : va_P D cl ws H) {k : Nat} {q : Nat × va_E} (hk : ws[k]? = some q) : ∃ c, H[q.1]? = some c := by
  have z := h k q hk
  unfold va_at at z
  split at z
  · exact ⟨_, z⟩
  · obtain ⟨_, _, cell, h1, _⟩ := z
    exact ⟨cell, h1⟩
/-- the strings of the class's own throws: entry and text -/
def zStr : List (Nat × String) := [(75, "there are 16 devices"), (100, "the token is dead"), (130, "it was not delivered there, or does not stand any more"), (151, "the clock would be above 100000"), (163, "an argument is out of range"), (168, "there is no such device"), (171, "there is no such notice"), (173, "120 notices have been sent")]
abbrev zIAE : String := "java/lang/IllegalArgumentException"
abbrev zISE : String := "java/lang/IllegalStateException"
abbrev zIOB : String := "java/lang/IndexOutOfBoundsException"
def zCast : List String := [zIAE, zISE, zIOB]
def zDecl : List MethodName := [Bundle.initS "java/lang/RuntimeException", Bundle.initS "java/lang/Exception", Bundle.initS "java/lang/Throwable"]
def zNcs : List (String × String) := [(zISE, zIAE), (zIAE, zISE), (zIAE, zIOB), (zISE, zIOB), (zIOB, zIAE), (zIOB, zISE)]
/-- what a throw needs of the state -/
def zU (s : State) (A : Nat → Prop) : Prop := (vx_Zq Bundle.tN "UNASSIGNED_STACK" Bundle.steD A s s.heap ∧ vx_Zq Bundle.tN "SUPPRESSED_SENTINEL" Bundle.listD A s s.heap) ∧ (∀ q ∈ zStr, ∃ sa, vk_R RX0 q.1 q.2 sa s) ∧ (∀ x ∈ zCast, va_Nw (.castable x x) s) ∧ (∀ x ∈ zDecl, va_Nw (.declares x) s) ∧ (∀ q ∈ zNcs, va_Nc q.1 q.2 s)
theorem zGok_U : zGok zU := by
  refine ⟨fun a U g mk A h => ?_, fun s U A B locs h hW hS hBA => ?_⟩
  · obtain ⟨⟨h1, h2⟩, h3, h4, h5, h6⟩ := h
    exact ⟨⟨vx_Zq.moved (u := U) (U := U.calling g mk a) (Vm.Alike.refl U.vm) h1, vx_Zq.moved (u := U) (U := U.calling g mk a) (Vm.Alike.refl U.vm) h2⟩, fun q hq => (h3 q hq).elim (fun sa z => ⟨sa, vk_R.same (u := U) (U := U.calling g mk a) rfl z⟩), fun x hx => va_Nw.same (u := U) (U := U.calling g mk a) rfl rfl (h4 x hx), fun x hx => va_Nw.same (u := U) (U := U.calling g mk a) rfl rfl (h5 x hx), fun q hq => va_Nc.moved (u := U) (U := U.calling g mk a) (Vm.Alike.refl U.vm) (h6 q hq)⟩
  · obtain ⟨⟨h1, h2⟩, h3, h4, h5, h6⟩ := h
    exact ⟨⟨((h1.kept hS.2.1).moved hW.alike).narrow hBA, ((h2.kept hS.2.1).moved hW.alike).narrow hBA⟩, fun q hq => (h3 q hq).elim (fun sa z => ⟨sa, vk_R.warm hW z⟩), fun x hx => va_Nw.warmC hW (h4 x hx), fun x hx => va_Nw.warmD hW (h5 x hx), fun q hq => va_Nc.moved hW.alike (h6 q hq)⟩
abbrev zNm : List String := ["java/lang/RuntimeException", "java/lang/Exception"]
/-- the words of a throw, out of the method's own and of zU -/
theorem z_hat {Ts : List Cond} {args : Array Value} {s : State} {A : Nat → Prop} {L : List Cond} (hts : ∀ w ∈ Ts, w.before args s = true) (hU : zU s A) (h1 : ∀ w ∈ L.filter goodWord, w ∈ Ts) (h2 : ∀ w ∈ L.filter (fun w => !goodWord w), w ∈ zCast.map (fun x => Cond.castable x x) ++ zDecl.map Cond.declares) : ∀ w ∈ L, w.before args s = true := by
  refine vx_hat (fun w hw => hts w (h1 w hw)) h2 (fun w hw => ?_)
  rcases List.mem_append.mp hw with hw | hw
  · obtain ⟨x, hx, rfl⟩ := List.mem_map.mp hw
    exact va_Nw.use rfl (hU.2.2.1 x hx)
  · obtain ⟨x, hx, rfl⟩ := List.mem_map.mp hw
    exact va_Nw.use rfl (hU.2.2.2.1 x hx)
/-- a contract of a method that throws, for arguments at which it does: px E' says which class -/
def zMx (l : Launch) (y : MethodName) (ws : List Cond) (rm : Room) (D : va_G) (tys : List (ClassId × FieldType)) (w0 : va_W) (av : List Value) (px : String → Prop) : Prop :=
  ∀ sz : Nat, vx_Met l y ws rm (zPc zU D tys w0 sz av) (va_Qi (fun (_ : Int32) (_ : Unit) => False) (fun _ _ => True) (va_A w0 sz)) (vx_X (fun _ : Unit => True) (fun E' _ t => px E' ∧ va_P D vwCl w0 t.heap ∧ va_K D vwCl tys t ∧ va_D (va_A w0 sz) w0) (va_A w0 sz)) 1 6 (va_A w0 sz)
theorem z_startX {px : String → Prop} {l : Launch} {y : MethodName} {ws ws' : List Cond} {rm : Room} {D : va_G} {tys : List (ClassId × FieldType)} {w0 : va_W} {av : List Value} {cc : ByteArray} {n : Nat} {own : String} {L0 : List (Nat × Value)} {ret : Option FieldType} (hlt : l.stackTraces = false) (hy : plainName y.cls = true) (hw : ws = Cond.code y cc n ret :: ws') (ho : y.cls = own) (hn : (lg_sl av).length ≤ n) (hL : lv_args 0 av = L0) (hrm : 1 ≤ rm.cells ∧ 6 ≤ rm.slots)
    (body : ∀ E : ZE, E.2.1.stackTraces = false → (∀ (pc : Nat) (L : List (Nat × Value)) (px2 : String → Prop), (∀ E', px2 E' → px E') → ZX E zU rm cc own ws n D tys 1 6 w0 pc L px2) →
      (∀ (pc : Nat) (L : List (Nat × Value)) (cls text : String) (ik is ic : Nat), 5 < rm.frames → 82 ≤ rm.locals → Bundle.fit cls = true → Cond.classLink own ik cls ∈ ws → Cond.initialized cls ∈ ws → own = RX0 → (is, text) ∈ zStr → (∀ w ∈ (vx_atS own ic cls zNm).filter goodWord, w ∈ ws) → (∀ w ∈ (vx_atS own ic cls zNm).filter (fun w => !goodWord w), w ∈ zCast.map (fun x => Cond.castable x x) ++ zDecl.map Cond.declares) →
        (∀ w ∈ Cond.classLink own ik cls :: Cond.initialized cls :: vx_atS own ic cls zNm, vx_ot w = true) → decode cc pc = .ok (.new ik, 3) → decode cc (pc + 3) = .ok (.dup, 1) → decode cc (pc + 4) = .ok (.ldc is, 2) → decode cc (pc + 6) = .ok (.invokespecial ic, 3) → decode cc (pc + 9) = .ok (.athrow, 1) → px cls → ZW E zU rm cc own ws n D tys 0 0 w0 pc L []) →
      ZW E zU rm cc own ws n D tys 0 0 w0 0 L0 []) : zMx l y ws rm D tys w0 av px := by
  intro sz
  refine vx_ofW (cc := cc) (maxL := n) (ret := ret) hy hw ?_
  intro p e s m args below meth c s₁ B hml htab hv
  obtain ⟨rfl, hsz, hP, hK, hD0, hG⟩ := hv
  have hlocks := B.notSynchronized
  have hown : s.vm.findClass own = some m.cls := by rw [← ho]; exact findClass_of_methodNamed B.named
  have hts := atoms_spec (ws := ws) B.pre
  subst hsz
  have hl := lv_entry av (n := n) hn
  rw [lg_entry_eq]
  rw [hL] at hl
  refine body (p, l, e, s, m, av.toArray, below, meth, c, va_A w0 s.heap.size, _) hlt ?_ ?_ B.exec B.bytes hml hown hts (fun q h => Or.inr h) hG hK s.heap [] _ hP hD0.self va_S.rf hl
  · intro pc L px2 hpx hx hb hml2 hown2 hts2 hA2 hG2 hK2 H locs ls hP2 hD2 hS2 hl2 E' ce q9 rest hp9 hce hcv hcl
    exact vx_out (fun x hx => absurd (htab x hx) id) hlocks hce hcv hcl (fun t ht hW => ⟨(), trivial, ⟨hpx E' hp9, by rw [ht]; exact hP2, va_K.moved hW hK2, hD2⟩, hS2.F ht⟩) hS2.2.2 (Nat.le_refl _) (Nat.le_refl _)
  · intro pc L cls text ik is ic hfr hlo hfit hk hini how hstr hg1 hg2 hot d0 d3 d4 d6 d9 hpx hx hb hml2 hown2 hts2 hA2 hG2 hK2 H locs ls hP2 hD2 hS2 hl2
    subst how
    obtain ⟨sa, hsa⟩ := hG2.2.1 _ hstr
    exact vx_throwS hx hb hlt hown2 hfit (fun n hn => by revert n; decide) (hts2 _ hk) (hts2 _ hini) hsa (z_hat hts2 hG2 hg1 hg2) hot hG2.1.1 hG2.1.2 hS2 (hl2.1.trans hml2.symm) d0 d3 d4 d6 d9 (fun x hx => absurd (htab x hx) id) hfr (by show 0 + (13 * (2 + 1) + 43) ≤ _; exact hlo) (by have := hrm.1; show 0 + 1 ≤ _; omega) (by have := hrm.2; show 0 + 6 ≤ _; omega) hlocks
      (fun t hW hsz hq => ⟨(), trivial, ⟨hpx, hP2.kept (fun k q hk => (va_P_lt hP2 hk).elim (fun c hc => hq _ (Array.getElem?_eq_some_iff.mp hc).1)), va_K.moved hW hK2, hD2⟩, ⟨Nat.le_trans hS2.1 hsz, fun q h1 h2 => (hq q (Nat.lt_of_lt_of_le h1 hS2.1)).trans (hS2.2.1 q h1 h2)⟩⟩) hS2.2.2 (by decide) (by decide)
theorem z_callVx {E : ZE} {R : Room} {cc : ByteArray} {own : String} {Ts : List Cond} {n : Nat} {D : va_G} {tys : List (ClassId × FieldType)} {cells slots : Nat} {w : va_W} {pc : Nat} {L : List (Nat × Value)} {st st0 : List Value} {px : String → Prop} {idx maxL k : Nat} {y : MethodName} {bytes : ByteArray} {ret : Option FieldType} {ws : List Cond} {rm : Room} {As : List Value} {C : String} {b ci : Nat} {q : vw_C} {fs : List Value}
    (hlt : E.2.1.stackTraces = false) (hM : ∀ l : Launch, l.stackTraces = false → zMx l y ws rm D tys w (.ref b :: As) px) (cw : ∀ (s : State) (args : Array Value), (∀ w ∈ Ts, w.before args s = true) → CallW R s args own C idx y bytes maxL ret ws rm 1 6 k) (hc : vwCl[ci]? = some q) (hC : q.1 = C) (he : w[0]? = some (b, .inr (ci, fs))) (hn : As.length = k) (hcat : (st.map fun v => v.category).sum ≤ 8) (hR : cells + 1 ≤ R.cells ∧ slots + 6 ≤ R.slots) (d : decode cc pc = .ok (.invokevirtual idx, 3)) (hst : st0 = As.reverse ++ .ref b :: st)
    (kx : ZX E zU R cc own Ts n D tys (cells + 1) (slots + 6) w pc L px) : ZW E zU R cc own Ts n D tys cells slots w pc L st0 := by
  obtain ⟨p, l, e, s, m, args, below, meth, c, A, Q⟩ := E
  intro hx hb hml hown hts hA hG hK H locs ls hP hD hS hl
  subst hst
  have hFc := z_cut hD hS hA
  refine vx_calli (vx_runV (As := As) (rest := st) ⟨hx, hb, hml, hown, hts⟩ (hM l hlt H.size) (cw s args hts) ⟨fun a U g mk q => by obtain ⟨q0, q1, qP, qK, qD, qG⟩ := q; exact ⟨q0, q1, qP, va_K.moved (u := U) (U := U.calling g mk a) (Vm.Alike.refl U.vm) qK, qD, zGok_U.1 a U g mk _ qG⟩, by rw [← hC]; exact va_recv hK hP hc he, fun U hU hW => ⟨rfl, by rw [hU], by rw [hU]; exact hP, va_K.moved hW.alike hK, hD.weaken (fun _ _ _ _ => trivial), zGok_U.2 s U A _ locs hG hW (by rw [hU]; exact hS) hFc⟩⟩ rfl hn hl.1 rfl (lv_room hcat) d hR) hS (fun q _ h => hFc q h) hFc (fun q _ h => hFc q h) (fun E' ce q9 u t H1 locs1 ht hvm _ hB hk1 hk2 hS1 hce hcv hcl => ?_) (fun r u t H1 locs1 ht hvm hw => hw.elim)
  obtain ⟨hpx, hP1, hK1, hD1⟩ := hB
  rw [ht] at hP1
  exact kx hx hb hml hown hts hA hG hK H1 locs1 ls hP1 hD hS1 hl E' ce q9 _ hpx hce hcv hcl
theorem z_callSx {E : ZE} {R : Room} {cc : ByteArray} {own : String} {Ts : List Cond} {n : Nat} {D : va_G} {tys : List (ClassId × FieldType)} {cells slots : Nat} {w : va_W} {pc : Nat} {L : List (Nat × Value)} {st st0 : List Value} {px : String → Prop} {idx maxL k : Nat} {y : MethodName} {bytes : ByteArray} {ret : Option FieldType} {ws : List Cond} {rm : Room} {As : List Value} 
    (hlt : E.2.1.stackTraces = false) (hM : ∀ l : Launch, l.stackTraces = false → zMx l y ws rm D tys w As px) (cw : ∀ (s : State) (args : Array Value), (∀ w ∈ Ts, w.before args s = true) → CallB R s args own idx y bytes maxL ret ws rm 1 6 k ∧ (Cond.static y).before args s = true)  (hn : As.length = k) (hcat : (st.map fun v => v.category).sum ≤ 8) (hR : cells + 1 ≤ R.cells ∧ slots + 6 ≤ R.slots) (d : decode cc pc = .ok (.invokestatic idx, 3)) (hst : st0 = As.reverse ++ st)
    (kx : ZX E zU R cc own Ts n D tys (cells + 1) (slots + 6) w pc L px) : ZW E zU R cc own Ts n D tys cells slots w pc L st0 := by
  obtain ⟨p, l, e, s, m, args, below, meth, c, A, Q⟩ := E
  intro hx hb hml hown hts hA hG hK H locs ls hP hD hS hl
  subst hst
  have hFc := z_cut hD hS hA
  refine vx_calli (vx_runS (As := As) (rest := st) ⟨hx, hb, hml, hown, hts⟩ (hM l hlt H.size) (cw s args hts) ⟨fun a U g mk q => by obtain ⟨q0, q1, qP, qK, qD, qG⟩ := q; exact ⟨q0, q1, qP, va_K.moved (u := U) (U := U.calling g mk a) (Vm.Alike.refl U.vm) qK, qD, zGok_U.1 a U g mk _ qG⟩, fun U hU hW => ⟨rfl, by rw [hU], by rw [hU]; exact hP, va_K.moved hW.alike hK, hD.weaken (fun _ _ _ _ => trivial), zGok_U.2 s U A _ locs hG hW (by rw [hU]; exact hS) hFc⟩⟩ rfl hn hl.1 rfl (lv_room hcat) d hR) hS (fun q _ h => hFc q h) hFc (fun q _ h => hFc q h) (fun E' ce q9 u t H1 locs1 ht hvm _ hB hk1 hk2 hS1 hce hcv hcl => ?_) (fun r u t H1 locs1 ht hvm hw => hw.elim)
  obtain ⟨hpx, hP1, hK1, hD1⟩ := hB
  rw [ht] at hP1
  exact kx hx hb hml hown hts hA hG hK H1 locs1 ls hP1 hD hS1 hl E' ce q9 _ hpx hce hcv hcl
