def mnI (x y : Int32) : Int32 := if y < x then y else x
theorem z_mmin {E : ZE} {G : State → (Nat → Prop) → Prop} {R : Room} {cc : ByteArray} {own : String} {Ts : List Cond} {n : Nat} {D : va_G} {tys : List (ClassId × FieldType)} {cells slots : Nat} {w : va_W} {pc : Nat} {L : List (Nat × Value)} {st : List Value} {idx : Nat} {x y : Int32} (h1 : Cond.methodLink own idx Lib.Math.min.name ∈ Ts) (h2 : Cond.static Lib.Math.min.name ∈ Ts) (h3 : Cond.initialized "java/lang/Math" ∈ Ts) (h4 : Cond.code Lib.Math.min.name Lib.Math.min.code 2 (some .int) ∈ Ts) (hR : 1 ≤ R.frames ∧ 21 ≤ R.locals ∧ cells ≤ R.cells ∧ slots ≤ R.slots) (hcat : (st.map fun v => v.category).sum ≤ 8) (d : decode cc pc = .ok (.invokestatic idx, 3))
    (kk : ZW E G R cc own Ts n D tys cells slots w (pc + 3) L (.int (mnI x y) :: st)) : ZW E G R cc own Ts n D tys cells slots w pc L (.int y :: .int x :: st) := by
  obtain ⟨p, l, e, s, m, args, below, meth, c, A, Q⟩ := E
  intro hx hb hml hown hts hA hG hK H locs ls hP hD hS hl
  exact va_mmin hx hb (hml.trans hl.1.symm) hown (hts _ h1) (hts _ h2) (hts _ h3) (hts _ h4) hR.1 (by have := hR.2.1; omega) hR.2.2.1 hR.2.2.2 d (kk hx hb hml hown hts hA hG hK H locs ls hP hD hS hl)
theorem va_P_lt {D : va_G} {cl : List vw_C} {ws : va_W} {H : Heap} (h : va_P D cl ws H) {k : Nat} {q : Nat × va_E} (hk : ws[k]? = some q) : ∃ c, H[q.1]? = some c := by
  have z := h k q hk
  unfold va_at at z
  split at z
  · exact ⟨_, z⟩
  · obtain ⟨_, _, cell, h1, _⟩ := z
    exact ⟨cell, h1⟩
theorem vx_throwS9 {p : Program} {l : Launch} {e : Env} {R : Room} {s : State} {m : MethodId} {args : Array Value} {below : List Frame} {meth : Method} {c : Code} {H : Heap} {locs : List Loc} {cells slots : Nat} {ls : Array Slot} {rest : List Value} {Qc : Array Value → State → Outcome → State → Prop} {XC : String → State → State → Prop} {free : Addr → Prop} {cc : ByteArray} {pc : Nat} (hexec : p.tables.exec = Jvm.exec) (hb : c.code = cc) (hl : l.stackTraces = false) {own cls text : String} {names : List String} {ik is ic mc ms sa : Nat} {A : Nat → Prop}
    (hown : s.vm.findClass own = some m.cls) (hcls : Bundle.fit cls = true) (hnames : ∀ n ∈ names, Bundle.fit n = true)
    (hk : (Cond.classLink own ik cls).before args s = true) (hini : (Cond.initialized cls).before args s = true) (hstr : vk_R own is text sa s) (hat : ∀ w ∈ vx_atS own ic cls names, w.before args s = true)
    (hgood : ∀ w ∈ Cond.classLink own ik cls :: Cond.initialized cls :: vx_atS own ic cls names, vx_ot w = true)
    (hU : vx_Zq Bundle.tN "UNASSIGNED_STACK" Bundle.steD A s s.heap) (hN : vx_Zq Bundle.tN "SUPPRESSED_SENTINEL" Bundle.listD A s s.heap) (hS : va_S A s.heap H locs) (hsize : ls.size = c.maxLocals)
    (d0 : decode cc pc = .ok (.new ik, 3)) (d3 : decode cc (pc + 3) = .ok (.dup, 1)) (d4 : decode cc (pc + 4) = .ok (.ldc is, 2)) (d6 : decode cc (pc + 6) = .ok (.invokespecial ic, 3)) (d9 : decode cc (pc + 9) = .ok (.athrow, 1))
    (hout : ∀ x ∈ c.exceptionTable.toList, covers x (pc + 9) = false)
    (hRframes : names.length + 3 < R.frames) (hRlocals : (rest.map fun v => v.category).sum + (13 * (names.length + 1) + 43) ≤ R.locals) (hRcells : cells + 1 ≤ R.cells) (hRslots : slots + 6 ≤ R.slots) (hlocks : meth.locks = false)
    (hx : ∀ t : State, s.vm.Alike t.vm → H.size + 1 ≤ t.heap.size → (∀ q : Nat, q < H.size → t.heap[q]? = H[q]?) → XC cls s t)
    (hf : ∀ z ∈ locs, free z.base) (hc : cells + 1 ≤ mc) (hs : slots + 6 ≤ ms) :
    W p l e R s m args below meth c H locs cells slots (vx_MQ below Qc XC args s mc ms free) (F0 m pc ls rest) := by
  intro T hT X
  have htr : e.platform.stackTraces = false := (show e.platform.stackTraces = l.stackTraces by rw [X.admits.platform]).trans hl
  have Y := vx_rebase X (R' := { frames := R.frames, locals := R.locals, cells := 1, slots := 6 }) (Nat.le_refl _) (Nat.le_refl _) hRcells hRslots
  obtain ⟨s', hA⟩ : ∃ z, z = (T.setVm s.vm).setFrames (.invoking m args :: below) := ⟨_, rfl⟩
  rw [← hA] at Y
  have hvm : s'.vm = s.vm := by rw [hA]; rfl
  have hhp : s'.heap = H := by rw [hA]; exact hT
  have hW0 : s.WarmedH s'.vm := by rw [hvm]; exact State.WarmedH.refl s
  have hat' : ∀ w ∈ vx_atS own ic cls names, w.before args s' = true := fun w hw => vx_ot_at hW0 hvm.symm (hgood w (List.mem_cons_of_mem _ (List.mem_cons_of_mem _ hw))) (hat w hw)
  have hk' : (Cond.classLink own ik cls).before args s' = true := vx_ot_at hW0 hvm.symm (hgood _ List.mem_cons_self) hk
  have hini' : (Cond.initialized cls).before args s' = true := vx_ot_at hW0 hvm.symm (hgood _ (List.mem_cons_of_mem _ List.mem_cons_self)) hini
  have hU' : vx_Zq Bundle.tN "UNASSIGNED_STACK" Bundle.steD A s' s'.heap := by rw [hhp]; exact vx_Zq.moved hW0.alike (hU.kept hS.2.1)
  have hN' : vx_Zq Bundle.tN "SUPPRESSED_SENTINEL" Bundle.listD A s' s'.heap := by rw [hhp]; exact vx_Zq.moved hW0.alike (hN.kept hS.2.1)
  have h : ∀ w ∈ Bundle.ownAtoms own ic cls names, w.before args s' = true := vx_own hat' (vx_isRefq hU'.1) (vx_isRefq hN'.1) hU'.2.word hN'.2.word
  have hown' : s'.vm.findClass own = some m.cls := by rw [hvm]; exact hown
  have hins : (Cond.instantiable cls 6).before args s' = true := h _ (by simp [Bundle.ownAtoms])
  obtain ⟨vm₁, cX, kX, hfX, hkX, -, -, X₁, st1⟩ := Y.newCold hexec (own := own) (C := cls) (index := ik) (n := 6) hown' hk' hins hini'
    (g := F0 m pc ls rest) rfl (by rw [hb]; exact d0) (Nat.le_refl _) (Nat.le_refl _)
  generalize hT1 : (T.setVm vm₁).pushCell { cls := cX, slots := kX.instanceTypes.map defaultValue, vm := .none } = T1 at X₁ st1
  have hcat : (Value.ref T.heap.size).category = 1 := rfl
  have hcellA : T1.heap[T.heap.size]? = some (freshCell cX kX) := by rw [← hT1]; exact State.heap_pushCell_size _ _
  have d3' : decode c.code (pc + 3) = .ok (.dup, 1) := by rw [hb]; exact d3
  have d4' : decode c.code (pc + 4) = .ok (.ldc is, 2) := by rw [hb]; exact d4
  have hstr' : vk_R own is text sa s' := vk_R.warm hW0 hstr
  obtain ⟨U, hsteps, hrun, hend, hW, hsame, ce, hce, hO⟩ := X₁.ctorThrowS hexec htr (own := own) (cls := cls) (names := names) (ic := ic) hown' hcls hnames h (fun x hx => nomatch hx) hfX hkX hcellA (by rw [hhp, hT]; exact Nat.le_refl _) (msg := .ref sa) rfl
    (g := { method := m, pc := pc + 6, locals := ls, stack := .ref sa :: .ref T.heap.size :: .ref T.heap.size :: rest, locked := none }) rfl hsize rfl rfl (rest := rest) rfl
    (by rw [hb]; exact d6) (by rw [hb]; exact d9) hout hRframes (by simp only [List.map_cons, List.sum_cons, hcat]; omega) hlocks
  obtain ⟨f1, f2⟩ := vx_frame hsame
  rw [hhp] at f1 f2
  have f9 : H.size + 1 ≤ U.heap.size := by
    have z := (Array.getElem?_eq_some_iff.mp hce).1
    rw [hT] at z
    exact z
  have hWs : s.WarmedH U.vm := State.WarmedH.trans hW0 hW
  have hcl : s.vm.findClass cls = some ce.cls := by
    have h9 := hO.cls
    rw [hvm] at h9
    exact h9
  have hall : s.sameButNew ({ U with vm := s.vm } : State) locs mc ms := by
    subst hA
    obtain ⟨e1, e2⟩ := hsame
    rw [State.setFrames_setFrames] at e1
    have h2 : (T.setVm s.vm).sameButNew ({ U with vm := s.vm } : State) [] (0 + 1) (0 + 6) := ⟨e1, e2⟩
    have h3 := X.same.trans h2
    rw [List.append_nil] at h3
    exact h3.mono hc hs
  refine ⟨U, ?_, .threw T.heap.size, hrun, hend, Or.inr ⟨T.heap.size, rfl, cls, ce, locs, hx U hWs.alike f9 (fun q hq => f2 q hq (fun z hz => nomatch hz)), hce, hO.vm, hcl, hWs, hall, hf⟩⟩
  refine st1 _ ?_
  show Steps p.tables e below (T1.setTop { method := m, pc := pc + 3, locals := ls, stack := .ref T.heap.size :: rest, locked := none }) _
  jvm_step X₁.here [X₁.here.top, hexec, d3', Value.category]
  exact X₁.ldcString hexec (own := own) (text := text) (index := is) (a := sa) hown' hstr'.1 hstr'.2
    (g := { method := m, pc := pc + 4, locals := ls, stack := .ref T.heap.size :: .ref T.heap.size :: rest, locked := none }) rfl d4' _ hsteps
/-- the strings of the class's own throws: entry and text -/
def zStr : List (Nat × String) := [(75, "there are 16 devices"), (100, "the token is dead"), (130, "it was not delivered there, or does not stand any more"), (151, "the clock would be above 100000"), (163, "an argument is out of range"), (168, "there is no such device"), (171, "there is no such notice"), (173, "120 notices have been sent")]
abbrev zIAE : String := "java/lang/IllegalArgumentException"
abbrev zISE : String := "java/lang/IllegalStateException"
abbrev zIOB : String := "java/lang/IndexOutOfBoundsException"
def zCast : List String := [zIAE, zISE, zIOB]
def zDecl : List MethodName := [Bundle.initS "java/lang/RuntimeException", Bundle.initS "java/lang/Exception", Bundle.initS "java/lang/Throwable"]
def zNcs : List (String × String) := [(zISE, zIAE), (zIAE, zISE), (zIAE, zIOB), (zISE, zIOB), (zIOB, zIAE), (zIOB, zISE)]
/-- what a throw needs of the state -/
def zU (s : State) (A : Nat → Prop) : Prop := (vx_Zq Bundle.tN "UNASSIGNED_STACK" Bundle.steD A s s.heap ∧ vx_Zq Bundle.tN "SUPPRESSED_SENTINEL" Bundle.listD A s s.heap) ∧ (∀ q ∈ zStr, ∃ sa, vk_R RX0 q.1 q.2 sa s) ∧ (∀ x ∈ zCast, va_Nw (.castable x x) s) ∧ (∀ x ∈ zDecl, va_Nw (.declares x) s) ∧ (∀ q ∈ zNcs, va_Nc q.1 q.2 s)
theorem zGok_U : zGok zU := by
  refine ⟨fun a U g mk A h => ?_, fun s U A B locs h hW hS hBA => ?_⟩
  · obtain ⟨⟨h1, h2⟩, h3, h4, h5, h6⟩ := h
    exact ⟨⟨vx_Zq.moved (u := U) (U := U.calling g mk a) (Vm.Alike.refl U.vm) h1, vx_Zq.moved (u := U) (U := U.calling g mk a) (Vm.Alike.refl U.vm) h2⟩, fun q hq => (h3 q hq).elim (fun sa z => ⟨sa, vk_R.same (u := U) (U := U.calling g mk a) rfl z⟩), fun x hx => va_Nw.same (u := U) (U := U.calling g mk a) rfl rfl (h4 x hx), fun x hx => va_Nw.same (u := U) (U := U.calling g mk a) rfl rfl (h5 x hx), fun q hq => va_Nc.moved (u := U) (U := U.calling g mk a) (Vm.Alike.refl U.vm) (h6 q hq)⟩
  · obtain ⟨⟨h1, h2⟩, h3, h4, h5, h6⟩ := h
    exact ⟨⟨((h1.kept hS.2.1).moved hW.alike).narrow hBA, ((h2.kept hS.2.1).moved hW.alike).narrow hBA⟩, fun q hq => (h3 q hq).elim (fun sa z => ⟨sa, vk_R.warm hW z⟩), fun x hx => va_Nw.warmC hW (h4 x hx), fun x hx => va_Nw.warmD hW (h5 x hx), fun q hq => va_Nc.moved hW.alike (h6 q hq)⟩
abbrev zNm : List String := ["java/lang/RuntimeException", "java/lang/Exception"]
/-- the words of a throw, out of the method's own and of zU -/
theorem z_hat {Ts : List Cond} {args : Array Value} {s : State} {A : Nat → Prop} {L : List Cond} (hts : ∀ w ∈ Ts, w.before args s = true) (hU : zU s A) (h1 : ∀ w ∈ L.filter goodWord, w ∈ Ts) (h2 : ∀ w ∈ L.filter (fun w => !goodWord w), w ∈ zCast.map (fun x => Cond.castable x x) ++ zDecl.map Cond.declares) : ∀ w ∈ L, w.before args s = true := by
  refine vx_hat (fun w hw => hts w (h1 w hw)) h2 (fun w hw => ?_)
  rcases List.mem_append.mp hw with hw | hw
  · obtain ⟨x, hx, rfl⟩ := List.mem_map.mp hw
    exact va_Nw.use rfl (hU.2.2.1 x hx)
  · obtain ⟨x, hx, rfl⟩ := List.mem_map.mp hw
    exact va_Nw.use rfl (hU.2.2.2.1 x hx)
/-- a contract of a method that throws, for arguments at which it does: px E' says which class -/
def zMx (l : Launch) (y : MethodName) (ws : List Cond) (rm : Room) (D : va_G) (tys : List (ClassId × FieldType)) (w0 : va_W) (av : List Value) (px : String → Prop) : Prop :=
  ∀ sz : Nat, vx_Met l y ws rm (zPc zU D tys w0 sz av) (va_Qi (fun (_ : Int32) (_ : Unit) => False) (fun _ _ => True) (va_A w0 sz)) (vx_X (fun _ : Unit => True) (fun E' _ t => px E' ∧ va_P D vwCl w0 t.heap ∧ va_K D vwCl tys t ∧ va_D (va_A w0 sz) w0 ∧ sz + 1 ≤ t.heap.size) (va_A w0 sz)) 1 6 (va_A w0 sz)
theorem z_startX {px : String → Prop} {l : Launch} {y : MethodName} {ws ws' : List Cond} {rm : Room} {D : va_G} {tys : List (ClassId × FieldType)} {w0 : va_W} {av : List Value} {cc : ByteArray} {n : Nat} {own : String} {L0 : List (Nat × Value)} {ret : Option FieldType} (hlt : l.stackTraces = false) (hy : plainName y.cls = true) (hw : ws = Cond.code y cc n ret :: ws') (ho : y.cls = own) (hn : (lg_sl av).length ≤ n) (hL : lv_args 0 av = L0) (hrm : 1 ≤ rm.cells ∧ 6 ≤ rm.slots)
    (body : ∀ E : ZE, E.2.1.stackTraces = false → (∀ (pc : Nat) (L : List (Nat × Value)) (px2 : String → Prop), (∀ E', px2 E' → px E') → ZX E zU rm cc own ws n D tys 1 6 w0 pc L px2) →
      (∀ (pc : Nat) (L : List (Nat × Value)) (cls text : String) (ik is ic : Nat), 5 < rm.frames → 82 ≤ rm.locals → Bundle.fit cls = true → Cond.classLink own ik cls ∈ ws → Cond.initialized cls ∈ ws → own = RX0 → (is, text) ∈ zStr → (∀ w ∈ (vx_atS own ic cls zNm).filter goodWord, w ∈ ws) → (∀ w ∈ (vx_atS own ic cls zNm).filter (fun w => !goodWord w), w ∈ zCast.map (fun x => Cond.castable x x) ++ zDecl.map Cond.declares) →
        (∀ w ∈ Cond.classLink own ik cls :: Cond.initialized cls :: vx_atS own ic cls zNm, vx_ot w = true) → decode cc pc = .ok (.new ik, 3) → decode cc (pc + 3) = .ok (.dup, 1) → decode cc (pc + 4) = .ok (.ldc is, 2) → decode cc (pc + 6) = .ok (.invokespecial ic, 3) → decode cc (pc + 9) = .ok (.athrow, 1) → px cls → ZW E zU rm cc own ws n D tys 0 0 w0 pc L []) →
      ZW E zU rm cc own ws n D tys 0 0 w0 0 L0 []) : zMx l y ws rm D tys w0 av px := by
  intro sz
  refine vx_ofW (cc := cc) (maxL := n) (ret := ret) hy hw ?_
  intro p e s m args below meth c s₁ B hml htab hv
  obtain ⟨rfl, hsz, hP, hK, hD0, hG⟩ := hv
  have hlocks := B.notSynchronized
  have hown : s.vm.findClass own = some m.cls := by rw [← ho]; exact findClass_of_methodNamed B.named
  have hts := atoms_spec (ws := ws) B.pre
  subst hsz
  have hl := lv_entry av (n := n) hn
  rw [lg_entry_eq]
  rw [hL] at hl
  refine body (p, l, e, s, m, av.toArray, below, meth, c, va_A w0 s.heap.size, _) hlt ?_ ?_ B.exec B.bytes hml hown hts (fun q h => Or.inr h) hG hK s.heap [] _ hP hD0.self (zx_rf (fun q h => Or.inr h)) hl
  · intro pc L px2 hpx hx hb hml2 hown2 hts2 hA2 hG2 hK2 H locs ls hP2 hD2 hS2 hl2 E' ce q9 rest hp9 hce hcv hcl
    exact vx_out (fun x hx => absurd (htab x hx) id) hlocks hce hcv hcl (fun t ht hW => ⟨(), trivial, ⟨hpx E' hp9, by rw [ht]; exact hP2, va_K.moved hW hK2, hD2, by rw [ht]; exact zx_le hS2⟩, (zx_S hS2).F ht⟩) hS2.2.2 (Nat.le_refl _) (Nat.le_refl _)
  · intro pc L cls text ik is ic hfr hlo hfit hk hini how hstr hg1 hg2 hot d0 d3 d4 d6 d9 hpx hx hb hml2 hown2 hts2 hA2 hG2 hK2 H locs ls hP2 hD2 hS2 hl2
    subst how
    obtain ⟨sa, hsa⟩ := hG2.2.1 _ hstr
    exact vx_throwS9 hx hb hlt hown2 hfit (fun n hn => by revert n; decide) (hts2 _ hk) (hts2 _ hini) hsa (z_hat hts2 hG2 hg1 hg2) hot hG2.1.1 hG2.1.2 (zx_S hS2) (hl2.1.trans hml2.symm) d0 d3 d4 d6 d9 (fun x hx => absurd (htab x hx) id) hfr (by show 0 + (13 * (2 + 1) + 43) ≤ _; exact hlo) (by have := hrm.1; show 0 + 1 ≤ _; omega) (by have := hrm.2; show 0 + 6 ≤ _; omega) hlocks
      (fun t hW hsz hq => ⟨(), trivial, ⟨hpx, hP2.kept (fun k q hk => (va_P_lt hP2 hk).elim (fun c hc => hq _ (Array.getElem?_eq_some_iff.mp hc).1)), va_K.moved hW hK2, hD2, Nat.le_trans (Nat.succ_le_succ (zx_S hS2).1) hsz⟩, ⟨Nat.le_trans (zx_S hS2).1 (Nat.le_of_succ_le hsz), fun q h1 h2 => (hq q (Nat.lt_of_lt_of_le h1 (zx_S hS2).1)).trans ((zx_S hS2).2.1 q h1 h2)⟩⟩) hS2.2.2 (by decide) (by decide)
theorem z_callVx {E : ZE} {R : Room} {cc : ByteArray} {own : String} {Ts : List Cond} {n : Nat} {D : va_G} {tys : List (ClassId × FieldType)} {cells slots : Nat} {w : va_W} {pc : Nat} {L : List (Nat × Value)} {st st0 : List Value} {px : String → Prop} {idx maxL k : Nat} {y : MethodName} {bytes : ByteArray} {ret : Option FieldType} {ws : List Cond} {rm : Room} {As : List Value} {C : String} {b ci : Nat} {q : vw_C} {fs : List Value}
    (hlt : E.2.1.stackTraces = false) (hM : ∀ l : Launch, l.stackTraces = false → zMx l y ws rm D tys w (.ref b :: As) px) (cw : ∀ (s : State) (args : Array Value), (∀ w ∈ Ts, w.before args s = true) → CallW R s args own C idx y bytes maxL ret ws rm 1 6 k) (hc : vwCl[ci]? = some q) (hC : q.1 = C) (he : w[0]? = some (b, .inr (ci, fs))) (hn : As.length = k) (hcat : (st.map fun v => v.category).sum ≤ 8) (hR : cells + 1 ≤ R.cells ∧ slots + 6 ≤ R.slots) (d : decode cc pc = .ok (.invokevirtual idx, 3)) (hst : st0 = As.reverse ++ .ref b :: st)
    (kx : ZX E zU R cc own Ts n D tys (cells + 1) (slots + 6) w pc L px) : ZW E zU R cc own Ts n D tys cells slots w pc L st0 := by
  obtain ⟨p, l, e, s, m, args, below, meth, c, A, Q⟩ := E
  intro hx hb hml hown hts hA hG hK H locs ls hP hD hS hl
  subst hst
  have hFc := z_cut hD (zx_S hS) hA
  refine vx_calli (vx_runV (As := As) (rest := st) ⟨hx, hb, hml, hown, hts⟩ (hM l hlt H.size) (cw s args hts) ⟨fun a U g mk q => by obtain ⟨q0, q1, qP, qK, qD, qG⟩ := q; exact ⟨q0, q1, qP, va_K.moved (u := U) (U := U.calling g mk a) (Vm.Alike.refl U.vm) qK, qD, zGok_U.1 a U g mk _ qG⟩, by rw [← hC]; exact va_recv hK hP hc he, fun U hU hW => ⟨rfl, by rw [hU], by rw [hU]; exact hP, va_K.moved hW.alike hK, hD.weaken (fun _ _ _ _ => trivial), zGok_U.2 s U A _ locs hG hW (by rw [hU]; exact zx_S hS) hFc⟩⟩ rfl hn hl.1 rfl (lv_room hcat) d hR) hS (fun q _ h => hFc q h) hFc (fun q _ h => hFc q h) (fun E' ce q9 u t H1 locs1 ht hvm _ hB hk1 hk2 hS1 hce hcv hcl => ?_) (fun r u t H1 locs1 ht hvm hw => hw.elim)
  obtain ⟨hpx, hP1, hK1, hD1, hz1⟩ := hB
  rw [ht] at hP1 hz1
  exact kx hx hb hml hown hts hA hG hK H1 locs1 ls hP1 hD (zx_up hS hS1 hz1 hA) hl E' ce q9 _ hpx hce hcv hcl
theorem z_callSx {E : ZE} {R : Room} {cc : ByteArray} {own : String} {Ts : List Cond} {n : Nat} {D : va_G} {tys : List (ClassId × FieldType)} {cells slots : Nat} {w : va_W} {pc : Nat} {L : List (Nat × Value)} {st st0 : List Value} {px : String → Prop} {idx maxL k : Nat} {y : MethodName} {bytes : ByteArray} {ret : Option FieldType} {ws : List Cond} {rm : Room} {As : List Value} 
    (hlt : E.2.1.stackTraces = false) (hM : ∀ l : Launch, l.stackTraces = false → zMx l y ws rm D tys w As px) (cw : ∀ (s : State) (args : Array Value), (∀ w ∈ Ts, w.before args s = true) → CallB R s args own idx y bytes maxL ret ws rm 1 6 k ∧ (Cond.static y).before args s = true)  (hn : As.length = k) (hcat : (st.map fun v => v.category).sum ≤ 8) (hR : cells + 1 ≤ R.cells ∧ slots + 6 ≤ R.slots) (d : decode cc pc = .ok (.invokestatic idx, 3)) (hst : st0 = As.reverse ++ st)
    (kx : ZX E zU R cc own Ts n D tys (cells + 1) (slots + 6) w pc L px) : ZW E zU R cc own Ts n D tys cells slots w pc L st0 := by
  obtain ⟨p, l, e, s, m, args, below, meth, c, A, Q⟩ := E
  intro hx hb hml hown hts hA hG hK H locs ls hP hD hS hl
  subst hst
  have hFc := z_cut hD (zx_S hS) hA
  refine vx_calli (vx_runS (As := As) (rest := st) ⟨hx, hb, hml, hown, hts⟩ (hM l hlt H.size) (cw s args hts) ⟨fun a U g mk q => by obtain ⟨q0, q1, qP, qK, qD, qG⟩ := q; exact ⟨q0, q1, qP, va_K.moved (u := U) (U := U.calling g mk a) (Vm.Alike.refl U.vm) qK, qD, zGok_U.1 a U g mk _ qG⟩, fun U hU hW => ⟨rfl, by rw [hU], by rw [hU]; exact hP, va_K.moved hW.alike hK, hD.weaken (fun _ _ _ _ => trivial), zGok_U.2 s U A _ locs hG hW (by rw [hU]; exact zx_S hS) hFc⟩⟩ rfl hn hl.1 rfl (lv_room hcat) d hR) hS (fun q _ h => hFc q h) hFc (fun q _ h => hFc q h) (fun E' ce q9 u t H1 locs1 ht hvm _ hB hk1 hk2 hS1 hce hcv hcl => ?_) (fun r u t H1 locs1 ht hvm hw => hw.elim)
  obtain ⟨hpx, hP1, hK1, hD1, hz1⟩ := hB
  rw [ht] at hP1 hz1
  exact kx hx hb hml hown hts hA hG hK H1 locs1 ls hP1 hD (zx_up hS hS1 hz1 hA) hl E' ce q9 _ hpx hce hcv hcl
