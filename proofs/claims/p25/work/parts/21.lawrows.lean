theorem z_startIK {σ : Type} {post : Int32 → σ → Prop} {wf : σ → va_W} {l : Launch} {y : MethodName} {ws ws' : List Cond} {rm : Room} {G : State → (Nat → Prop) → Prop} {D : va_G} {tys : List (ClassId × FieldType)} {w0 : va_W} {av : List Value} {cc : ByteArray} {n mc ms : Nat} {own : String} {L0 : List (Nat × Value)} (hy : plainFor y = true) (hw : ws = Cond.code y cc n (some .int) :: ws') (ho : y.cls = own) (hn : (lg_sl av).length ≤ n) (hL : lv_args 0 av = L0)
    (body : ∀ E : ZE, E.2.1 = l → (∀ (r : Int32) (u : σ) (pc : Nat) (L : List (Nat × Value)) (w' : va_W), decode cc pc = .ok (.ireturn, 1) → post r u → w' = wf u → ZW E G rm cc own ws n D tys mc ms w' pc L [.int r]) → ZW E G rm cc own ws n D tys 0 0 w0 0 L0 []) : zMi l y ws rm G D tys w0 av post wf mc ms := by
  intro sz
  refine z_ofW (cc := cc) (maxL := n) (ret := some .int) hy hw ?_
  intro p e s m args below meth c s₁ B hml hv
  obtain ⟨rfl, hsz, hP, hK, hD0, hG⟩ := hv
  have hr := B.returns
  have hlocks := B.notSynchronized
  have hown : s.vm.findClass own = some m.cls := by rw [← ho]; exact findClass_of_methodNamed B.named
  have hts := atoms_spec (ws := ws) B.pre
  subst hsz
  have hl := lv_entry av (n := n) hn
  rw [lg_entry_eq]
  rw [hL] at hl
  refine body (p, l, e, s, m, av.toArray, below, meth, c, va_A w0 s.heap.size, _) rfl ?_ B.exec B.bytes hml hown hts (fun q h => Or.inr h) hG hK s.heap [] _ hP hD0.self (zx_rf (fun q h => Or.inr h)) hl
  · intro r u pc L w' d hpost hw hx hb hml2 hown2 hts2 hA2 hG2 hK2 H locs ls hP2 hD2 hS2 hl2
    subst hw
    exact W.iret (v := r) hx hb hr (fun t ht hW => ⟨⟨r, u, rfl, hpost, by rw [ht]; exact hP2, va_K.moved hW.alike hK2, hD2, by rw [ht]; exact zx_le hS2⟩, (zx_S hS2).F ht⟩) hS2.2.2 d
theorem z_startZK {σ : Type} {post : Int32 → σ → Prop} {wf : σ → va_W} {l : Launch} {y : MethodName} {ws ws' : List Cond} {rm : Room} {G : State → (Nat → Prop) → Prop} {D : va_G} {tys : List (ClassId × FieldType)} {w0 : va_W} {av : List Value} {cc : ByteArray} {n mc ms : Nat} {own : String} {L0 : List (Nat × Value)} (hy : plainFor y = true) (hw : ws = Cond.code y cc n (some .boolean) :: ws') (ho : y.cls = own) (hn : (lg_sl av).length ≤ n) (hL : lv_args 0 av = L0)
    (body : ∀ E : ZE, E.2.1 = l → (∀ (r : Int32) (u : σ) (pc : Nat) (L : List (Nat × Value)) (w' : va_W), decode cc pc = .ok (.ireturn, 1) → post r u → w' = wf u → narrow .boolean (.int r) = .int r → ZW E G rm cc own ws n D tys mc ms w' pc L [.int r]) → ZW E G rm cc own ws n D tys 0 0 w0 0 L0 []) : zMi l y ws rm G D tys w0 av post wf mc ms := by
  intro sz
  refine z_ofW (cc := cc) (maxL := n) (ret := some .boolean) hy hw ?_
  intro p e s m args below meth c s₁ B hml hv
  obtain ⟨rfl, hsz, hP, hK, hD0, hG⟩ := hv
  have hr := B.returns
  have hlocks := B.notSynchronized
  have hown : s.vm.findClass own = some m.cls := by rw [← ho]; exact findClass_of_methodNamed B.named
  have hts := atoms_spec (ws := ws) B.pre
  subst hsz
  have hl := lv_entry av (n := n) hn
  rw [lg_entry_eq]
  rw [hL] at hl
  refine body (p, l, e, s, m, av.toArray, below, meth, c, va_A w0 s.heap.size, _) rfl ?_ B.exec B.bytes hml hown hts (fun q h => Or.inr h) hG hK s.heap [] _ hP hD0.self (zx_rf (fun q h => Or.inr h)) hl
  · intro r u pc L w' d hpost hw hnar hx hb hml2 hown2 hts2 hA2 hG2 hK2 H locs ls hP2 hD2 hS2 hl2
    subst hw
    exact W.zret (v := r) hx hb hr hnar (fun t ht hW => ⟨⟨r, u, rfl, hpost, by rw [ht]; exact hP2, va_K.moved hW.alike hK2, hD2, by rw [ht]; exact zx_le hS2⟩, (zx_S hS2).F ht⟩) hS2.2.2 d
theorem z_callWi1 {E : ZE} {G GY : State → (Nat → Prop) → Prop} {R : Room} {cc : ByteArray} {own : String} {Ts : List Cond} {n : Nat} {D : va_G} {tys tysC : List (ClassId × FieldType)} {cells slots mc ms : Nat} {w : va_W} {pc : Nat} {L : List (Nat × Value)} {st st0 : List Value} {idx maxL k : Nat} {y : MethodName} {bytes : ByteArray} {ret : Option FieldType} {ws : List Cond} {rm : Room} {As : List Value} {hh : List (Nat × Nat × Nat × Nat)} {σ : Type} {post : Int32 → σ → Prop} {wf : σ → va_W}
    (hM : ∀ l : Launch, l = E.2.1 → zMi l y ws rm GY D tysC w As post wf mc ms) (hGY : zGok GY) (hGG : ∀ s A, G s A → GY s A) (cw : ∀ (s : State) (args : Array Value), (∀ w ∈ Ts, w.before args s = true) → vx_CSW R s args own idx y bytes maxL ret hh ws rm mc ms k)  (is : List Nat) (htys : is.filterMap (fun i => tys[i]?) = tysC) (hn : As.length = k) (hcat : (st.map fun v => v.category).sum ≤ 8) (hR : cells + mc ≤ R.cells ∧ slots + ms ≤ R.slots) (d : decode cc pc = .ok (.invokestatic idx, 3)) (hst : st0 = As.reverse ++ st)
    (kk : ∀ (r : Int32) (u : σ), post r u → ZW E G R cc own Ts n D tys (cells + mc) (slots + ms) (wf u) (pc + 3) L (.int r :: st)) : ZW E G R cc own Ts n D tys cells slots w pc L st0 := by
  refine z_callWi_fr [] [] hM hGY hGG cw is htys (by rw [List.append_nil, List.nil_append]) hn hcat hR d hst (fun r u h => ?_)
  rw [List.append_nil, List.nil_append]
  exact kk r u h
theorem z_callSi1 {E : ZE} {G GY : State → (Nat → Prop) → Prop} {R : Room} {cc : ByteArray} {own : String} {Ts : List Cond} {n : Nat} {D : va_G} {tys tysC : List (ClassId × FieldType)} {cells slots mc ms : Nat} {w : va_W} {pc : Nat} {L : List (Nat × Value)} {st st0 : List Value} {idx maxL k : Nat} {y : MethodName} {bytes : ByteArray} {ret : Option FieldType} {ws : List Cond} {rm : Room} {As : List Value} {σ : Type} {post : Int32 → σ → Prop} {wf : σ → va_W}
    (hM : ∀ l : Launch, l = E.2.1 → zMi l y ws rm GY D tysC w As post wf mc ms) (hGY : zGok GY) (hGG : ∀ s A, G s A → GY s A) (cw : ∀ (s : State) (args : Array Value), (∀ w ∈ Ts, w.before args s = true) → CallB R s args own idx y bytes maxL ret ws rm mc ms k ∧ (Cond.static y).before args s = true)  (is : List Nat) (htys : is.filterMap (fun i => tys[i]?) = tysC) (hn : As.length = k) (hcat : (st.map fun v => v.category).sum ≤ 8) (hR : cells + mc ≤ R.cells ∧ slots + ms ≤ R.slots) (d : decode cc pc = .ok (.invokestatic idx, 3)) (hst : st0 = As.reverse ++ st)
    (kk : ∀ (r : Int32) (u : σ), post r u → ZW E G R cc own Ts n D tys (cells + mc) (slots + ms) (wf u) (pc + 3) L (.int r :: st)) : ZW E G R cc own Ts n D tys cells slots w pc L st0 := by
  refine z_callSi_fr [] [] hM hGY hGG cw is htys (by rw [List.append_nil, List.nil_append]) hn hcat hR d hst (fun r u h => ?_)
  rw [List.append_nil, List.nil_append]
  exact kk r u h
def zGL (b L : Nat) (xs : Nat → Int32) : State → (Nat → Prop) → Prop := fun s A => zU s A ∧ va_X b L xs s s.heap ∧ b < s.heap.size ∧ ¬ A b
theorem z_sld {E : ZE} {b L0 : Nat} {xs : Nat → Int32} {R : Room} {cc : ByteArray} {own : String} {Ts : List Cond} {n : Nat} {D : va_G} {tys : List (ClassId × FieldType)} {cells slots : Nat} {w : va_W} {pc : Nat} {L : List (Nat × Value)} {st : List Value} {i v : Int32} (hin : vp_in i L0) (hv : xs i.toNatClampNeg = v) (d : decode cc pc = .ok (.iaload, 1)) (kk : ZW E (zGL b L0 xs) R cc own Ts n D tys cells slots w (pc + 1) L (.int v :: st)) : ZW E (zGL b L0 xs) R cc own Ts n D tys cells slots w pc L (.int i :: .ref b :: st) := by
  obtain ⟨p, l, e, s, m, args, below, meth, c, A, Q⟩ := E
  intro hx hb hml hown hts hA hG hK H locs ls hP hD hS hl
  subst hv
  exact va_sld hx hb hG.2.1 hG.2.2.1 hG.2.2.2 (zx_S hS) hin d (kk hx hb hml hown hts hA hG hK H locs ls hP hD hS hl)
theorem z_slen {E : ZE} {b L0 : Nat} {xs : Nat → Int32} {R : Room} {cc : ByteArray} {own : String} {Ts : List Cond} {n : Nat} {D : va_G} {tys : List (ClassId × FieldType)} {cells slots : Nat} {w : va_W} {pc : Nat} {L : List (Nat × Value)} {st : List Value} (d : decode cc pc = .ok (.arraylength, 1)) (kk : ZW E (zGL b L0 xs) R cc own Ts n D tys cells slots w (pc + 1) L (.int (nI L0) :: st)) : ZW E (zGL b L0 xs) R cc own Ts n D tys cells slots w pc L (.ref b :: st) := by
  obtain ⟨p, l, e, s, m, args, below, meth, c, A, Q⟩ := E
  intro hx hb hml hown hts hA hG hK H locs ls hP hD hS hl
  exact va_slen hx hb hG.2.1 hG.2.2.1 hG.2.2.2 (zx_S hS) d (kk hx hb hml hown hts hA hG hK H locs ls hP hD hS hl)
theorem z_eqw {E : ZE} {G : State → (Nat → Prop) → Prop} {R : Room} {cc : ByteArray} {own : String} {Ts : List Cond} {n : Nat} {D : va_G} {tys : List (ClassId × FieldType)} {cells slots : Nat} {w w' : va_W} {pc : Nat} {L : List (Nat × Value)} {st : List Value} (hw : w' = w) (kk : ZW E G R cc own Ts n D tys cells slots w' pc L st) : ZW E G R cc own Ts n D tys cells slots w pc L st := hw ▸ kk
theorem z_tableIn {E : ZE} {G : State → (Nat → Prop) → Prop} {R : Room} {cc : ByteArray} {own : String} {Ts : List Cond} {n : Nat} {D : va_G} {tys : List (ClassId × FieldType)} {cells slots : Nat} {w : va_W} {pc : Nat} {L : List (Nat × Value)} {st : List Value} {dflt lo hi : Int} {offs : Array Int} {len : Nat} {x : Int32} {off : Int} (tgt : Nat) (d : decode cc pc = .ok (.tableswitch dflt lo hi offs, len)) (h1 : ¬ x.toInt < lo) (h2 : ¬ hi < x.toInt) (ho : offs[(x.toInt - lo).toNat]? = some off) (ht : (pc : Int) + off = (tgt : Int)) (kk : ZW E G R cc own Ts n D tys cells slots w tgt L st) : ZW E G R cc own Ts n D tys cells slots w pc L (.int x :: st) := by
  obtain ⟨p, l, e, s, m, args, below, meth, c, A, Q⟩ := E
  intro hx hb hml hown hts hA hG hK H locs ls hP hD hS hl
  exact lv_tableIn hx hb d h1 h2 ho ht (kk hx hb hml hown hts hA hG hK H locs ls hP hD hS hl)
theorem z_new {E : ZE} {G : State → (Nat → Prop) → Prop} {R : Room} {cc : ByteArray} {own : String} {Ts : List Cond} {n : Nat} {D : va_G} {tys : List (ClassId × FieldType)} {cells slots : Nat} {w : va_W} {pc : Nat} {L : List (Nat × Value)} {st : List Value} {C : String} {T : u_T} {N ci index : Nat} (fs : List Value) (hin : ∀ w ∈ u_ws C T N, w ∈ Ts) (ty : Nat → FieldType) (hty : ∀ k, k < N → parseFieldDescriptor (T k).2.2.1 = some (ty k)) (h1 : Cond.classLink own index C ∈ Ts) (h2 : Cond.instantiable C N ∈ Ts) (h3 : Cond.initialized C ∈ Ts) (hc : vwCl[ci]? = some (C, T, N)) (hfs : ∀ j, j < N → defaultValue (ty j) = vp_V fs j) (hcells : cells + 1 ≤ R.cells) (hslots : slots + N ≤ R.slots) (d : decode cc pc = .ok (.new index, 3)) (kk : ∀ q : Nat, ZW E G R cc own Ts n D tys (cells + 1) (slots + N) (w ++ [(q, .inr (ci, fs))]) (pc + 3) L (.ref q :: st)) : ZW E G R cc own Ts n D tys cells slots w pc L st := by
  obtain ⟨p, l, e, s, m, args, below, meth, c, A, Q⟩ := E
  intro hx hb hml hown hts hA hG hK H locs ls hP hD hS hl
  have hKn := hK.1 ci _ hc
  refine W.newcK hx hb hown (hts _ h1) (hts _ h2) (hts _ h3) rfl d hcells hslots hKn.2.1 rfl fun H1 kC hkC e1 z1 o1 => ?_
  have hk : ∀ (k : Nat) (x : Nat × va_E), w[k]? = some x → H1[x.1]? = H[x.1]? := fun k x hx => o1 x.1 ((hP k x hx).lt)
  have hS0 := zx_S hS
  have hS1 : va_S A (zx s.heap cells) H1 locs := zx_to ⟨Nat.le_trans hS0.1 (by omega), fun x h1 h2 => (o1 x (Nat.lt_of_lt_of_le h1 hS0.1)).trans (hS0.2.1 x h1 h2), hS0.2.2⟩ (by have := zx_le hS; omega) hA
  refine kk H.size hx hb hml hown hts hA hG hK H1 locs ls ((hP.kept hk).app (fun k x hx => ?_)) (hD.push hP rfl (hA _ hS0.1)) (zx_up hS hS1 (by omega) hA) hl
  have hz : k < 1 := (List.getElem?_eq_some_iff.mp hx).1
  rw [show k = 0 by omega] at hx
  cases hx
  exact ⟨_, hc, (u_born ty hts hin hKn hkC e1 hty).to hfs⟩
/-- here the walk stops: so many cells were made at the least -/
theorem z_stop {E : ZE} {G : State → (Nat → Prop) → Prop} {R : Room} {cc : ByteArray} {own : String} {Ts : List Cond} {n : Nat} {D : va_G} {tys : List (ClassId × FieldType)} {cells slots : Nat} {w : va_W} {pc : Nat} {L : List (Nat × Value)} {st : List Value} (hQ : ∀ t : State, E.2.2.2.1.heap.size + cells ≤ t.heap.size → E.2.2.2.2.2.2.2.2.2.2 t) : ZW E G R cc own Ts n D tys cells slots w pc L st := by
  obtain ⟨p, l, e, s, m, args, below, meth, c, A, Q⟩ := E
  intro hx hb hml hown hts hA hG hK H locs ls hP hD hS hl T hT X
  refine ⟨_, Steps.refl _, hQ _ ?_⟩
  have z := zx_le hS
  rw [← hT] at z
  exact z
