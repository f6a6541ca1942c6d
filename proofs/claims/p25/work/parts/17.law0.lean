theorem z_ofWH {l : Launch} {y : MethodName} {ws ws' : List Cond} {rm : Room} {Pc : Array Value → State → Prop} {Qc : Array Value → State → Outcome → State → Prop} {mc ms : Nat} {free : Addr → Prop} {cc : ByteArray} {maxL : Nat} {ret : Option FieldType} {hh : List (Nat × Nat × Nat × Nat)}
    (hy : plainFor y = true) (hw : ws = Cond.codeWith y cc maxL ret hh :: ws')
    (body : ∀ p e s m args below meth c s₁, BodyLoose p l y (headSpec ws rm) cc maxL ret e s m args below meth c s₁ → c.maxLocals = maxL → c.exceptionTable.toList = tableOf hh → Pc args s →
      W p l e (headSpec ws rm).room s m args below meth c s.heap [] 0 0 (MQ below Qc args s mc ms free) (entryFrame m args maxL)) : Met l y ws rm Pc Qc mc ms free := by
  refine MetFree.of_bodySF (code := cc) (maxLocals := maxL) (ret := ret) hy ?_ ?_
  · intro args s m h hn
    obtain ⟨m9, meth, c, hn9, h1, h2, h3, h4, -, h5, h6, -⟩ := Cond.codeWith_spec (atoms_spec (ws := ws) h _ (by rw [hw]; exact List.mem_cons_self))
    cases hn.symm.trans hn9
    exact ⟨meth, c, h1, h2, h3, h4, h5, h6⟩
  · intro p e s m args below meth c s₁ B hml hP _
    have hh0 : s₁.heap = s.heap := by rw [B.state]; rfl
    have ht : c.exceptionTable.toList = tableOf hh := vx_table (x := y) B (atoms_spec (ws := ws) B.pre _ (by rw [hw]; exact List.mem_cons_self))
    obtain ⟨t, a1, o, b1, b2, b3⟩ := body p e s m args below meth c s₁ B hml ht hP s₁ hh0 (Stand.of_body B)
    exact ⟨t, o, a1, b1, b2, ⟨b3.1, b3.2⟩⟩
theorem z_startH {σ : Type} {post : Int32 → σ → Prop} {wf : σ → va_W} {l : Launch} {y : MethodName} {ws ws' : List Cond} {rm : Room} {G : State → (Nat → Prop) → Prop} {D : va_G} {tys : List (ClassId × FieldType)} {w0 : va_W} {av : List Value} {cc : ByteArray} {n mc ms : Nat} {own : String} {L0 : List (Nat × Value)} {hh : List (Nat × Nat × Nat × Nat)} (hy : plainFor y = true) (hw : ws = Cond.codeWith y cc n (some .int) hh :: ws') (ho : y.cls = own) (hn : (lg_sl av).length ≤ n) (hL : lv_args 0 av = L0)
    (body : ∀ E : ZE, E.2.1 = l → E.2.2.2.2.2.2.2.2.1.exceptionTable.toList = tableOf hh → (∀ (r : Int32) (u : σ) (pc : Nat) (L : List (Nat × Value)) (w' : va_W), decode cc pc = .ok (.ireturn, 1) → post r u → w' = wf u → ZW E G rm cc own ws n D tys mc ms w' pc L [.int r]) → ZW E G rm cc own ws n D tys 0 0 w0 0 L0 []) : zMi l y ws rm G D tys w0 av post wf mc ms := by
  intro sz
  refine z_ofWH (cc := cc) (maxL := n) (ret := some .int) (hh := hh) hy hw ?_
  intro p e s m args below meth c s₁ B hml htab hv
  obtain ⟨rfl, hsz, hP, hK, hD0, hG⟩ := hv
  have hr := B.returns
  have hlocks := B.notSynchronized
  have hown : s.vm.findClass own = some m.cls := by rw [← ho]; exact findClass_of_methodNamed B.named
  have hts := atoms_spec (ws := ws) B.pre
  subst hsz
  have hl := lv_entry av (n := n) hn
  rw [lg_entry_eq]
  rw [hL] at hl
  refine body (p, l, e, s, m, av.toArray, below, meth, c, va_A w0 s.heap.size, _) rfl htab ?_ B.exec B.bytes hml hown hts (fun q h => Or.inr h) hG hK s.heap [] _ hP hD0.self (zx_rf (fun q h => Or.inr h)) hl
  intro r u pc L w' d hpost hw hx hb hml2 hown2 hts2 hA2 hG2 hK2 H locs ls hP2 hD2 hS2 hl2
  subst hw
  exact W.iret (v := r) hx hb hr (fun t ht hW => ⟨⟨r, u, rfl, hpost, by rw [ht]; exact hP2, va_K.moved hW.alike hK2, hD2, by rw [ht]; exact zx_le hS2⟩, (zx_S hS2).F ht⟩) hS2.2.2 d
theorem z_catch {E : ZE} {R : Room} {cc : ByteArray} {own : String} {Ts : List Cond} {n : Nat} {D : va_G} {tys : List (ClassId × FieldType)} {cells slots : Nat} {w : va_W} {pc : Nat} {L : List (Nat × Value)} {px : String → Prop} {hh : List (Nat × Nat × Nat × Nat)} (htab : E.2.2.2.2.2.2.2.2.1.exceptionTable.toList = tableOf hh) (E0 : String) (pre : List ExceptionTableEntry) (x : ExceptionTableEntry) (suf : List ExceptionTableEntry) (hsplit : tableOf hh = pre ++ x :: suf) (hpass : ∀ z ∈ pre, z.catchType ≠ 0 ∧ ∃ nm : String, Cond.classLink own z.catchType nm ∈ Ts ∧ (E0, nm) ∈ zNcs) (hx0 : covers x pc = true) (h0 : x.catchType ≠ 0) (hlink : Cond.classLink own x.catchType E0 ∈ Ts) (hcast : E0 ∈ zCast) (hpx : ∀ E', px E' → E' = E0)
    (kk : ∀ q9 : Nat, ZW E zU R cc own Ts n D tys cells slots w x.handlerPc L [.ref q9]) : ZX E zU R cc own Ts n D tys cells slots w pc L px := by
  obtain ⟨p, l, e, s, m, args, below, meth, c, A, Q⟩ := E
  intro hx hb hml hown hts hA hG hK H locs ls hP hD hS hl E' ce q9 rest hp hce hcv hcl
  obtain rfl := hpx E' hp
  exact vx_catch hown pre x suf (htab.trans hsplit) (fun z hz => Or.inr ⟨(hpass z hz).1, (hpass z hz).2.elim (fun nm hnm => ⟨nm, hts _ hnm.1, hG.2.2.2.2 _ hnm.2⟩)⟩) hx0 h0 (hts _ hlink) (va_Nw.use rfl (hG.2.2.1 _ hcast)) hce hcv hcl (kk q9 hx hb hml hown hts hA hG hK H locs ls hP hD hS hl)
