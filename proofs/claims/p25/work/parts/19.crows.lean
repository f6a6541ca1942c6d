section CRows
variable {E : ZE} {G : State → (Nat → Prop) → Prop} {R : Room} {cc : ByteArray} {own : String} {Ts : List Cond} {n : Nat} {D : va_G} {tys : List (ClassId × FieldType)} {cells slots : Nat} {w : va_W} {pc : Nat} {L : List (Nat × Value)} {st : List Value}
theorem va_newa9 {p : Program} {l : Launch} {e : Env} {R : Room} {s : State} {m : MethodId} {args : Array Value} {below : List Frame} {meth : Method} {c : Code} {A : Nat → Prop} {Q : State → Prop} {H : Heap} {locs : List Loc} {ls : Array Slot} (hexec : p.tables.exec = Jvm.exec) (hb : c.code = cc) {atype : ArrayType} (harr : (Cond.arrayClass (newarray.typeOf atype)).before args s = true) {ty : FieldType} (hty : newarray.typeOf atype = ty) (hK : va_K D vwCl tys s) (hP : va_P D vwCl w H) (hD : va_D A w) (hS : va_S A (zx s.heap cells) H locs) (hA : ∀ q, s.heap.size ≤ q → A q)
    {k : Int32} {N : Nat} {a0 : vp_A} (ha : ∀ cA : ClassId, vp_cell cA a0 = arrV cA N (fun _ => defaultValue ty)) (hn : ¬ k < 0) (hN : k.toNatClampNeg = N) (hbytes : N * componentBytes ty ≤ 536870912) (hcells : cells + 1 ≤ R.cells) (hslots : slots + N ≤ R.slots) (hdg : decode cc pc = .ok (.newarray atype, 2))
    (kk : ∀ (q : Nat) (cA : ClassId) (H1 : Heap), ArrOfT s cA ty → va_RA s cA ty → s.vm.findClass ("[" ++ (newarray.typeOf atype).toString) = some cA → va_P D vwCl (w ++ [(q, .inl (cA, a0))]) H1 → va_D A (w ++ [(q, .inl (cA, a0))]) → va_S A (zx s.heap (cells + 1)) H1 locs → W p l e R s m args below meth c H1 locs (cells + 1) (slots + N) Q (F0 m (pc + 2) ls (.ref q :: st))) : W p l e R s m args below meth c H locs cells slots Q (F0 m pc ls (.int k :: st)) := by
  subst hty
  refine va_newaK hexec hb harr rfl hdg rfl hn hN hbytes hcells hslots rfl fun H1 cA e1 z1 o1 hAr hNm => ?_
  have hk : ∀ (j : Nat) (x : Nat × va_E), w[j]? = some x → H1[x.1]? = H[x.1]? := fun j x hx => o1 x.1 ((hP j x hx).lt)
  have hS0 := zx_S hS
  have hS1 : va_S A (zx s.heap cells) H1 locs := zx_to ⟨Nat.le_trans hS0.1 (by omega), fun x h1 h2 => (o1 x (Nat.lt_of_lt_of_le h1 hS0.1)).trans (hS0.2.1 x h1 h2), hS0.2.2⟩ (by have := zx_le hS; omega) hA
  refine kk H.size cA H1 hAr (by cases atype <;> exact hNm) hNm ((hP.kept hk).app (fun j x hx => ?_)) (hD.push hP rfl (hA _ hS0.1)) (zx_up hS hS1 (by omega) hA)
  have hz : j < 1 := (List.getElem?_eq_some_iff.mp hx).1
  rw [show j = 0 by omega] at hx
  cases hx
  show H1[H.size]? = some (vp_cell _ _)
  rw [ha]
  exact e1
theorem z_newa0 {atype : ArrayType} {ty : FieldType} {k : Int32} (a0 : vp_A) (N : Nat) (harr : Cond.arrayClass (newarray.typeOf atype) ∈ Ts) (hty : newarray.typeOf atype = ty) (ha : ∀ cA : ClassId, vp_cell cA a0 = arrV cA N (fun _ => defaultValue ty)) (hn : ¬ k < 0) (hN : k.toNatClampNeg = N) (hbytes : N * componentBytes ty ≤ 536870912) (hcells : cells + 1 ≤ R.cells) (hslots : slots + N ≤ R.slots) (d : decode cc pc = .ok (.newarray atype, 2))
    (kk : ∀ (q : Nat) (cA : ClassId), ZW E G R cc own Ts n D (tys ++ [(cA, ty)]) (cells + 1) (slots + N) (w ++ [(q, .inl (cA, a0))]) (pc + 2) L (.ref q :: st)) : ZW E G R cc own Ts n D tys cells slots w pc L (.int k :: st) := by
  obtain ⟨p, l, e, s, m, args, below, meth, c, A, Q⟩ := E
  intro hx hb hml hown hts hA hG hK H locs ls hP hD hS hl
  refine va_newa9 hx hb (hts _ harr) hty hK hP hD hS hA ha hn hN hbytes hcells hslots d (fun q cA H1 hAr hRA _ hP1 hD1 hS1 => kk q cA hx hb hml hown hts hA hG ⟨hK.1, fun j x hx2 => ?_⟩ H1 locs ls hP1 hD1 hS1 hl)
  by_cases hl2 : j < tys.length
  · rw [List.getElem?_append_left hl2] at hx2
    exact hK.2 j x hx2
  · rw [List.getElem?_append_right (by omega)] at hx2
    have hz : j - tys.length < 1 := (List.getElem?_eq_some_iff.mp hx2).1
    rw [show j - tys.length = 0 by omega] at hx2
    cases hx2
    exact ⟨hAr, hRA⟩
theorem z_newa1 {atype : ArrayType} {ty : FieldType} {k : Int32} {cI : ClassId} (a0 : vp_A) (N t0 : Nat) (ht : tys[t0]? = some (cI, ty)) (hra : ∀ (U : State) (c : ClassId), va_RA U c ty = (U.vm.findClass ("[" ++ ty.toString) = some c)) (harr : Cond.arrayClass (newarray.typeOf atype) ∈ Ts) (hty : newarray.typeOf atype = ty) (ha : ∀ cA : ClassId, vp_cell cA a0 = arrV cA N (fun _ => defaultValue ty)) (hn : ¬ k < 0) (hN : k.toNatClampNeg = N) (hbytes : N * componentBytes ty ≤ 536870912) (hcells : cells + 1 ≤ R.cells) (hslots : slots + N ≤ R.slots) (d : decode cc pc = .ok (.newarray atype, 2))
    (kk : ∀ (q : Nat), ZW E G R cc own Ts n D tys (cells + 1) (slots + N) (w ++ [(q, .inl (cI, a0))]) (pc + 2) L (.ref q :: st)) : ZW E G R cc own Ts n D tys cells slots w pc L (.int k :: st) := by
  obtain ⟨p, l, e, s, m, args, below, meth, c, A, Q⟩ := E
  intro hx hb hml hown hts hA hG hK H locs ls hP hD hS hl
  refine va_newa9 hx hb (hts _ harr) hty hK hP hD hS hA ha hn hN hbytes hcells hslots d (fun q cA H1 hAr hRA _ hP1 hD1 hS1 => ?_)
  have e1 := (hK.2 t0 _ ht).2
  have e2 := hRA
  rw [hra] at e1 e2
  have e3 : cA = cI := Option.some.inj (e2.symm.trans e1)
  subst e3
  exact kk q hx hb hml hown hts hA hG hK H1 locs ls hP1 hD1 hS1 hl
theorem z_objInit {idx h : Nat} (h1 : Cond.methodLink own idx objectInit ∈ Ts) (h2 : Cond.instanceMethod objectInit ∈ Ts) (h3 : Cond.code objectInit ⟨#[0xb1]⟩ 1 none ∈ Ts) (hR : 1 ≤ R.frames ∧ 12 ≤ R.locals) (d : decode cc pc = .ok (.invokespecial idx, 3)) (kk : ZW E G R cc own Ts n D tys cells slots w (pc + 3) L []) : ZW E G R cc own Ts n D tys cells slots w pc L [.ref h] := by
  obtain ⟨p, l, e, s, m, args, below, meth, c, A, Q⟩ := E
  intro hx hb hml hown hts hA hG hK H locs ls hP hD hS hl
  refine W.objInit hx hb hown (hts _ h1) (hts _ h2) (hts _ h3) rfl (hl.1.trans hml.symm) rfl d hR.1 hR.2 ?_
  exact kk hx hb hml hown hts hA hG hK H locs ls hP hD hS hl
theorem z_putF {ref C : String} {T : u_T} {N ci index a : Nat} {fs : List Value} {v : Value} (hnm9 : E.2.2.2.2.2.2.2.1.name = "<init>") (hin : ∀ w ∈ u_ws C T N, w ∈ Ts) (q0 : Nat) (he : w[q0]? = some (a, .inr (ci, fs))) (hc : vwCl[ci]? = some (C, T, N)) (k : Nat) (hk : k < N) (hlink : Cond.fieldLink own index ref (T k).2.1 (T k).2.2.1 ∈ Ts) (hsame : (T k).1 = ref) (ty0 : Nat → FieldType) (hty : ∀ k, k < N → parseFieldDescriptor (T k).2.2.1 = some (ty0 k)) (hnm : ∀ a, a < N → ∀ b, b < N → a ≠ b → (T a).2.1 ≠ (T b).2.1) (hfin : (T k).2.2.2 = true) (hdecl : (T k).1 = own) (hn : narrow (ty0 k) v = v) (hfit : fits (ty0 k) v = true) (hl9 : k < fs.length) {w' : va_W} (hw : w.set q0 (a, .inr (ci, fs.set k v)) = w') (d : decode cc pc = .ok (.putfield index, 3)) (kk : ZW E G R cc own Ts n D tys cells slots w' (pc + 3) L (st)) : ZW E G R cc own Ts n D tys cells slots w (pc) L (v :: .ref a :: st) := by
  obtain ⟨p, l, e, s, m, args, below, meth, c, A, Q⟩ := E
  intro hx hb hml hown hts hA hG hK H locs ls hP hD hS hl
  subst hw
  exact va_putF hx hb hts hin ty0 hty hnm hown hK hP hD hS q0 he hc k hk (hts _ hlink) (fun x h => by rw [← hsame]; exact h) hfin hnm9 hdecl (hty k hk) hn hfit hl9 d (fun H1 locs1 hP1 hD1 hS1 => kk hx hb hml hown hts hA hG hK H1 locs1 ls hP1 hD1 hS1 hl)
end CRows
def zBc {σ : Type} (D : va_G) (tf : σ → List (ClassId × FieldType)) (w0 : va_W) (sz : Nat) (wf : σ → va_W) (mc : Nat) : σ → State → Prop := fun u t => va_P D vwCl (wf u) t.heap ∧ va_K D vwCl (tf u) t ∧ va_D (va_A w0 sz) (wf u) ∧ sz + mc ≤ t.heap.size
/-- a constructor's contract: what it makes, and the array classes that it found -/
def zMc {σ : Type} (l : Launch) (y : MethodName) (ws : List Cond) (rm : Room) (D : va_G) (w0 : va_W) (av : List Value) (post : σ → Prop) (wf : σ → va_W) (tf : σ → List (ClassId × FieldType)) (mc ms : Nat) : Prop :=
  ∀ sz : Nat, Met l y ws rm (zPc zTT D [] w0 sz av) (va_Qv post (zBc D tf w0 sz wf mc) (va_A w0 sz)) mc ms (va_A w0 sz)
theorem z_startC {σ : Type} {post : σ → Prop} {wf : σ → va_W} {tf : σ → List (ClassId × FieldType)} {l : Launch} {y : MethodName} {ws ws' : List Cond} {rm : Room} {D : va_G} {w0 : va_W} {av : List Value} {cc : ByteArray} {n mc ms : Nat} {own : String} {L0 : List (Nat × Value)} (hy : plainFor y = true) (hw : ws = Cond.code y cc n none :: ws') (ho : y.cls = own) (hyn : y.name = "<init>") (hn : (lg_sl av).length ≤ n) (hL : lv_args 0 av = L0)
    (body : ∀ E : ZE, E.2.2.2.2.2.2.2.1.name = "<init>" → (∀ (u : σ) (pc : Nat) (L : List (Nat × Value)) (w' : va_W) (tys' : List (ClassId × FieldType)), decode cc pc = .ok (.return_, 1) → post u → w' = wf u → tys' = tf u → ZW E zTT rm cc own ws n D tys' mc ms w' pc L []) → ZW E zTT rm cc own ws n D [] 0 0 w0 0 L0 []) : zMc l y ws rm D w0 av post wf tf mc ms := by
  intro sz
  refine z_ofW (cc := cc) (maxL := n) (ret := none) hy hw ?_
  intro p e s m args below meth c s₁ B hml hv
  obtain ⟨rfl, hsz, hP, hK, hD0, hG⟩ := hv
  have hr := B.returns
  have hlocks := B.notSynchronized
  have hown : s.vm.findClass own = some m.cls := by rw [← ho]; exact findClass_of_methodNamed B.named
  have hts := atoms_spec (ws := ws) B.pre
  have hin : meth.name = "<init>" := ((name_of_methodNamed B.named B.method).1).trans hyn
  subst hsz
  have hl := lv_entry av (n := n) hn
  rw [lg_entry_eq]
  rw [hL] at hl
  refine body (p, l, e, s, m, av.toArray, below, meth, c, va_A w0 s.heap.size, _) hin ?_ B.exec B.bytes hml hown hts (fun q h => Or.inr h) hG hK s.heap [] _ hP hD0.self (zx_rf (fun q h => Or.inr h)) hl
  intro u pc L w' tys' d hpost hw ht9 hx hb hml2 hown2 hts2 hA2 hG2 hK2 H locs ls hP2 hD2 hS2 hl2
  subst hw
  subst ht9
  exact W.vret hx hb hr (fun t ht hW => ⟨⟨u, rfl, hpost, by rw [ht]; exact hP2, va_K.moved hW.alike hK2, hD2, by rw [ht]; exact zx_le hS2⟩, (zx_S hS2).F ht⟩) hS2.2.2 d
theorem z_callC {E : ZE} {G : State → (Nat → Prop) → Prop} {R : Room} {cc : ByteArray} {own : String} {Ts : List Cond} {n : Nat} {D : va_G} {tys : List (ClassId × FieldType)} {cells slots mc ms : Nat} {wc w : va_W} {pc : Nat} {L : List (Nat × Value)} {st : List Value} {idx maxL : Nat} {y : MethodName} {bytes : ByteArray} {ws : List Cond} {rm : Room} {b : Nat} {σ : Type} {post : σ → Prop} {wf : σ → va_W} {tf : σ → List (ClassId × FieldType)}
    (wl wr : va_W) (hM : ∀ l : Launch, zMc l y ws rm D wc [.ref b] post wf tf mc ms) (cw : ∀ (s : State) (args : Array Value), (∀ w ∈ Ts, w.before args s = true) → CallB R s args own idx y bytes maxL none ws rm mc ms 0 ∧ y.name = "<init>" ∧ (Cond.instanceMethod y).before args s = true) (hw : w = wl ++ (wc ++ wr)) (hcat : (st.map fun v => v.category).sum ≤ 8) (hR : cells + mc ≤ R.cells ∧ slots + ms ≤ R.slots) (d : decode cc pc = .ok (.invokespecial idx, 3))
    (kk : ∀ (u : σ), post u → ZW E G R cc own Ts n D (tys ++ tf u) (cells + mc) (slots + ms) (wl ++ (wf u ++ wr)) (pc + 3) L st) : ZW E G R cc own Ts n D tys cells slots w pc L (.ref b :: st) := by
  obtain ⟨p, l, e, s, m, args, below, meth, c, A, Q⟩ := E
  intro hx hb hml hown hts hA hG hK H locs ls hP hD hS hl
  subst hw
  have hFc := z_cutm hD (zx_S hS) hA
  have hPc := zP_mid hP
  have hDc := zD_mid hD
  have hKc := hK.sub (tys' := []) [] rfl
  refine va_callv (va_runI (As := []) (rest := st) ⟨hx, hb, hml, hown, hts⟩ (hM l H.size) (cw s args hts) ⟨fun a U g mk q => by obtain ⟨q0, q1, qP, qK, qD, qG⟩ := q; exact ⟨q0, q1, qP, va_K.moved (u := U) (U := U.calling g mk a) (Vm.Alike.refl U.vm) qK, qD, trivial⟩, fun U hU hW => ⟨rfl, by rw [hU], by rw [hU]; exact hPc, va_K.moved hW.alike hKc, hDc.weaken (fun _ _ _ _ => trivial), trivial⟩⟩ rfl rfl hl.1 rfl (lv_room hcat) d hR) hS (fun q _ h => hFc q h) hFc (fun u t H1 locs1 ht hvm hw hB hk1 hk2 hS1 => ?_)
  obtain ⟨hP1, hK1, hD1, hz1⟩ := hB
  rw [ht] at hP1 hz1
  have hK1 := va_K.moved hvm.symm hK1
  obtain ⟨hP2, hD2⟩ := z_join hP hD hk2 hFc hP1 hD1
  exact kk u hw hx hb hml hown hts hA hG (hK.app hK1) H1 locs1 ls hP2 hD2 (zx_up hS hS1 hz1 hA) hl
