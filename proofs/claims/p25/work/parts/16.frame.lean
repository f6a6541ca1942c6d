theorem zD_iff {A : Nat → Prop} {ws : va_W} : va_D A ws ↔ (ws.Pairwise (fun p q => p.1 ≠ q.1)) ∧ ∀ q ∈ ws, A q.1 := by
  constructor
  · intro h
    refine ⟨List.pairwise_iff_getElem.mpr (fun i j hi hj hij he => ?_), fun q hq => ?_⟩
    · have := h.1 i j _ _ (List.getElem?_eq_getElem hi) (List.getElem?_eq_getElem hj) he
      omega
    · obtain ⟨k, hk⟩ := List.mem_iff_getElem?.mp hq
      exact h.2 k q hk
  · rintro ⟨h1, h2⟩
    refine ⟨fun i j p q hp hq he => ?_, fun k q hk => h2 q (List.mem_of_getElem? hk)⟩
    obtain ⟨hi, rfl⟩ := List.getElem?_eq_some_iff.mp hp
    obtain ⟨hj, rfl⟩ := List.getElem?_eq_some_iff.mp hq
    rcases Nat.lt_trichotomy i j with z | z | z
    · exact absurd he (List.pairwise_iff_getElem.mp h1 i j hi hj z)
    · exact z
    · exact absurd he.symm (List.pairwise_iff_getElem.mp h1 j i hj hi z)
theorem zP_iff {D : va_G} {cl : List vw_C} {ws : va_W} {H : Heap} : va_P D cl ws H ↔ ∀ q ∈ ws, va_at D cl q H :=
  ⟨fun h q hq => (List.mem_iff_getElem?.mp hq).elim (fun k hk => h k q hk), fun h k q hk => h q (List.mem_of_getElem? hk)⟩
theorem zA_iff {ws : va_W} {sz q : Nat} : va_A ws sz q ↔ (∃ x ∈ ws, x.1 = q) ∨ sz ≤ q := by
  constructor
  · rintro (⟨k, e, hk⟩ | h)
    · exact Or.inl ⟨(q, e), List.mem_of_getElem? hk, rfl⟩
    · exact Or.inr h
  · rintro (⟨x, hx, rfl⟩ | h)
    · obtain ⟨k, hk⟩ := List.mem_iff_getElem?.mp hx
      exact Or.inl ⟨k, x.2, hk⟩
    · exact Or.inr h
theorem zP_mid {D : va_G} {cl : List vw_C} {wl wc wr : va_W} {H : Heap} (h : va_P D cl (wl ++ (wc ++ wr)) H) : va_P D cl wc H := zP_iff.mpr (fun q hq => zP_iff.mp h q (List.mem_append_right _ (List.mem_append_left _ hq)))
theorem zD_mid {A : Nat → Prop} {wl wc wr : va_W} (h : va_D A (wl ++ (wc ++ wr))) : va_D A wc := by
  obtain ⟨h1, h2⟩ := zD_iff.mp h
  exact zD_iff.mpr ⟨(List.pairwise_append.mp (List.pairwise_append.mp h1).2.1).1, fun q hq => h2 q (List.mem_append_right _ (List.mem_append_left _ hq))⟩
/-- a part of the world has changed, the rest stands beside it -/
theorem z_join {A : Nat → Prop} {D : va_G} {cl : List vw_C} {wl wc wr w1 : va_W} {H H1 : Heap} (hP : va_P D cl (wl ++ (wc ++ wr)) H) (hD : va_D A (wl ++ (wc ++ wr))) (hk2 : ∀ q : Nat, q < H.size → ¬ va_A wc H.size q → H1[q]? = H[q]?) (hF : ∀ q, va_A wc H.size q → A q) (hP1 : va_P D cl w1 H1) (hD1 : va_D (va_A wc H.size) w1) : va_P D cl (wl ++ (w1 ++ wr)) H1 ∧ va_D A (wl ++ (w1 ++ wr)) := by
  obtain ⟨h1, h2⟩ := zD_iff.mp hD
  obtain ⟨d1, d2⟩ := zD_iff.mp hD1
  obtain ⟨pl, pm, plm⟩ := List.pairwise_append.mp h1
  obtain ⟨pc, pr, pcr⟩ := List.pairwise_append.mp pm
  have hlt : ∀ q ∈ wl ++ (wc ++ wr), q.1 < H.size := fun q hq => by
    obtain ⟨k, hk⟩ := List.mem_iff_getElem?.mp hq
    exact vx_lt hP hk
  have hnl : ∀ q ∈ wl, ¬ va_A wc H.size q.1 := fun q hq z => by
    rcases zA_iff.mp z with ⟨x, hx, e⟩ | z
    · exact plm q hq x (List.mem_append_left _ hx) e.symm
    · have := hlt q (List.mem_append_left _ hq); omega
  have hnr : ∀ q ∈ wr, ¬ va_A wc H.size q.1 := fun q hq z => by
    rcases zA_iff.mp z with ⟨x, hx, e⟩ | z
    · exact pcr x hx q hq e
    · have := hlt q (List.mem_append_right _ (List.mem_append_right _ hq)); omega
  have hkeep : ∀ q ∈ wl ++ (wc ++ wr), ¬ va_A wc H.size q.1 → va_at D cl q H1 := fun q hq hn => (zP_iff.mp hP q hq).kept (hk2 q.1 (hlt q hq) hn)
  refine ⟨zP_iff.mpr (fun q hq => ?_), zD_iff.mpr ⟨List.pairwise_append.mpr ⟨pl, List.pairwise_append.mpr ⟨d1, pr, fun x hx y hy e => hnr y hy (by rw [← e]; exact d2 x hx)⟩, fun x hx y hy e => ?_⟩, fun q hq => ?_⟩⟩
  · rcases List.mem_append.mp hq with hq | hq
    · exact hkeep q (List.mem_append_left _ hq) (hnl q hq)
    · rcases List.mem_append.mp hq with hq | hq
      · exact zP_iff.mp hP1 q hq
      · exact hkeep q (List.mem_append_right _ (List.mem_append_right _ hq)) (hnr q hq)
  · rcases List.mem_append.mp hy with hy | hy
    · exact hnl x hx (by rw [e]; exact d2 y hy)
    · exact plm x hx y (List.mem_append_right _ hy) e
  · rcases List.mem_append.mp hq with hq | hq
    · exact h2 q (List.mem_append_left _ hq)
    · rcases List.mem_append.mp hq with hq | hq
      · exact hF _ (d2 q hq)
      · exact h2 q (List.mem_append_right _ (List.mem_append_right _ hq))
theorem z_cutm {A : Nat → Prop} {wl wc wr : va_W} {H0 H : Heap} {locs : List Loc} (hD : va_D A (wl ++ (wc ++ wr))) (hS : va_S A H0 H locs) (hA : ∀ q, H0.size ≤ q → A q) : ∀ q, va_A wc H.size q → A q := z_cut (zD_mid hD) hS hA
theorem z_callVi_fr {E : ZE} {G GY : State → (Nat → Prop) → Prop} {R : Room} {cc : ByteArray} {own : String} {Ts : List Cond} {n : Nat} {D : va_G} {tys tysC : List (ClassId × FieldType)} {cells slots mc ms : Nat} {wc w : va_W} {pc : Nat} {L : List (Nat × Value)} {st st0 : List Value} {idx maxL k : Nat} {y : MethodName} {bytes : ByteArray} {ret : Option FieldType} {ws : List Cond} {rm : Room} {As : List Value} {C : String} {b ci : Nat} {q : vw_C} {fs : List Value} {σ : Type} {post : Int32 → σ → Prop} {wf : σ → va_W}
    (wl wr : va_W) (hM : ∀ l : Launch, zMi l y ws rm GY D tysC wc (.ref b :: As) post wf mc ms) (hGY : zGok GY) (hGG : ∀ s A, G s A → GY s A) (cw : ∀ (s : State) (args : Array Value), (∀ w ∈ Ts, w.before args s = true) → CallW R s args own C idx y bytes maxL ret ws rm mc ms k) (hc : vwCl[ci]? = some q) (hC : q.1 = C) (he : wc[0]? = some (b, .inr (ci, fs))) (is : List Nat) (htys : is.filterMap (fun i => tys[i]?) = tysC) (hw : w = wl ++ (wc ++ wr)) (hn : As.length = k) (hcat : (st.map fun v => v.category).sum ≤ 8) (hR : cells + mc ≤ R.cells ∧ slots + ms ≤ R.slots) (d : decode cc pc = .ok (.invokevirtual idx, 3)) (hst : st0 = As.reverse ++ .ref b :: st)
    (kk : ∀ (r : Int32) (u : σ), post r u → ZW E G R cc own Ts n D tys (cells + mc) (slots + ms) (wl ++ (wf u ++ wr)) (pc + 3) L (.int r :: st)) : ZW E G R cc own Ts n D tys cells slots w pc L st0 := by
  obtain ⟨p, l, e, s, m, args, below, meth, c, A, Q⟩ := E
  intro hx hb hml hown hts hA hG hK H locs ls hP hD hS hl
  subst hst
  subst hw
  have hFc := z_cutm hD (zx_S hS) hA
  have hPc := zP_mid hP
  have hDc := zD_mid hD
  have hKc := hK.sub is htys
  refine va_calli (va_runV (As := As) (rest := st) ⟨hx, hb, hml, hown, hts⟩ (hM l H.size) (cw s args hts) ⟨fun a U g mk q => by obtain ⟨q0, q1, qP, qK, qD, qG⟩ := q; exact ⟨q0, q1, qP, va_K.moved (u := U) (U := U.calling g mk a) (Vm.Alike.refl U.vm) qK, qD, hGY.1 a U g mk _ qG⟩, by rw [← hC]; exact va_recv hKc hPc hc he, fun U hU hW => ⟨rfl, by rw [hU], by rw [hU]; exact hPc, va_K.moved hW.alike hKc, hDc.weaken (fun _ _ _ _ => trivial), hGY.2 s U A _ locs (hGG s A hG) hW (by rw [hU]; exact zx_S hS) hFc⟩⟩ rfl hn hl.1 rfl (lv_room hcat) d hR) hS (fun q _ h => hFc q h) hFc (fun r u t H1 locs1 ht hvm hw hB hk1 hk2 hS1 => ?_)
  obtain ⟨hP1, hK1, hD1, hz1⟩ := hB
  rw [ht] at hP1 hz1
  obtain ⟨hP2, hD2⟩ := z_join hP hD hk2 hFc hP1 hD1
  exact kk r u hw hx hb hml hown hts hA hG hK H1 locs1 ls hP2 hD2 (zx_up hS hS1 hz1 hA) hl
theorem z_callWi_fr {E : ZE} {G GY : State → (Nat → Prop) → Prop} {R : Room} {cc : ByteArray} {own : String} {Ts : List Cond} {n : Nat} {D : va_G} {tys tysC : List (ClassId × FieldType)} {cells slots mc ms : Nat} {wc w : va_W} {pc : Nat} {L : List (Nat × Value)} {st st0 : List Value} {idx maxL k : Nat} {y : MethodName} {bytes : ByteArray} {ret : Option FieldType} {ws : List Cond} {rm : Room} {As : List Value} {hh : List (Nat × Nat × Nat × Nat)} {σ : Type} {post : Int32 → σ → Prop} {wf : σ → va_W}
    (wl wr : va_W) (hM : ∀ l : Launch, l = E.2.1 → zMi l y ws rm GY D tysC wc As post wf mc ms) (hGY : zGok GY) (hGG : ∀ s A, G s A → GY s A) (cw : ∀ (s : State) (args : Array Value), (∀ w ∈ Ts, w.before args s = true) → vx_CSW R s args own idx y bytes maxL ret hh ws rm mc ms k)  (is : List Nat) (htys : is.filterMap (fun i => tys[i]?) = tysC) (hw : w = wl ++ (wc ++ wr)) (hn : As.length = k) (hcat : (st.map fun v => v.category).sum ≤ 8) (hR : cells + mc ≤ R.cells ∧ slots + ms ≤ R.slots) (d : decode cc pc = .ok (.invokestatic idx, 3)) (hst : st0 = As.reverse ++ st)
    (kk : ∀ (r : Int32) (u : σ), post r u → ZW E G R cc own Ts n D tys (cells + mc) (slots + ms) (wl ++ (wf u ++ wr)) (pc + 3) L (.int r :: st)) : ZW E G R cc own Ts n D tys cells slots w pc L st0 := by
  obtain ⟨p, l, e, s, m, args, below, meth, c, A, Q⟩ := E
  intro hx hb hml hown hts hA hG hK H locs ls hP hD hS hl
  subst hst
  subst hw
  have hFc := z_cutm hD (zx_S hS) hA
  have hPc := zP_mid hP
  have hDc := zD_mid hD
  have hKc := hK.sub is htys
  refine va_calli (vx_runSW (As := As) (rest := st) ⟨hx, hb, hml, hown, hts⟩ (hM l rfl H.size) (cw s args hts) ⟨fun a U g mk q => by obtain ⟨q0, q1, qP, qK, qD, qG⟩ := q; exact ⟨q0, q1, qP, va_K.moved (u := U) (U := U.calling g mk a) (Vm.Alike.refl U.vm) qK, qD, hGY.1 a U g mk _ qG⟩, fun U hU hW => ⟨rfl, by rw [hU], by rw [hU]; exact hPc, va_K.moved hW.alike hKc, hDc.weaken (fun _ _ _ _ => trivial), hGY.2 s U A _ locs (hGG s A hG) hW (by rw [hU]; exact zx_S hS) hFc⟩⟩ rfl hn hl.1 rfl (lv_room hcat) d hR) hS (fun q _ h => hFc q h) hFc (fun r u t H1 locs1 ht hvm hw hB hk1 hk2 hS1 => ?_)
  obtain ⟨hP1, hK1, hD1, hz1⟩ := hB
  rw [ht] at hP1 hz1
  obtain ⟨hP2, hD2⟩ := z_join hP hD hk2 hFc hP1 hD1
  exact kk r u hw hx hb hml hown hts hA hG hK H1 locs1 ls hP2 hD2 (zx_up hS hS1 hz1 hA) hl
theorem z_callVx_fr {E : ZE} {R : Room} {cc : ByteArray} {own : String} {Ts : List Cond} {n : Nat} {D : va_G} {tys tysC : List (ClassId × FieldType)} {cells slots : Nat} {wc w : va_W} {pc : Nat} {L : List (Nat × Value)} {st st0 : List Value} {px : String → Prop} {idx maxL k : Nat} {y : MethodName} {bytes : ByteArray} {ret : Option FieldType} {ws : List Cond} {rm : Room} {As : List Value} {C : String} {b ci : Nat} {q : vw_C} {fs : List Value}
    (wl wr : va_W) (hlt : E.2.1.stackTraces = false) (hM : ∀ l : Launch, l.stackTraces = false → zMx l y ws rm D tysC wc (.ref b :: As) px) (cw : ∀ (s : State) (args : Array Value), (∀ w ∈ Ts, w.before args s = true) → CallW R s args own C idx y bytes maxL ret ws rm 1 6 k) (hc : vwCl[ci]? = some q) (hC : q.1 = C) (he : wc[0]? = some (b, .inr (ci, fs))) (is : List Nat) (htys : is.filterMap (fun i => tys[i]?) = tysC) (hw : w = wl ++ (wc ++ wr)) (hn : As.length = k) (hcat : (st.map fun v => v.category).sum ≤ 8) (hR : cells + 1 ≤ R.cells ∧ slots + 6 ≤ R.slots) (d : decode cc pc = .ok (.invokevirtual idx, 3)) (hst : st0 = As.reverse ++ .ref b :: st)
    (kx : ZX E zU R cc own Ts n D tys (cells + 1) (slots + 6) w pc L px) : ZW E zU R cc own Ts n D tys cells slots w pc L st0 := by
  obtain ⟨p, l, e, s, m, args, below, meth, c, A, Q⟩ := E
  intro hx hb hml hown hts hA hG hK H locs ls hP hD hS hl
  subst hst
  subst hw
  have hFc := z_cutm hD (zx_S hS) hA
  have hPc := zP_mid hP
  have hDc := zD_mid hD
  have hKc := hK.sub is htys
  refine vx_calli (vx_runV (As := As) (rest := st) ⟨hx, hb, hml, hown, hts⟩ (hM l hlt H.size) (cw s args hts) ⟨fun a U g mk q => by obtain ⟨q0, q1, qP, qK, qD, qG⟩ := q; exact ⟨q0, q1, qP, va_K.moved (u := U) (U := U.calling g mk a) (Vm.Alike.refl U.vm) qK, qD, zGok_U.1 a U g mk _ qG⟩, by rw [← hC]; exact va_recv hKc hPc hc he, fun U hU hW => ⟨rfl, by rw [hU], by rw [hU]; exact hPc, va_K.moved hW.alike hKc, hDc.weaken (fun _ _ _ _ => trivial), zGok_U.2 s U A _ locs hG hW (by rw [hU]; exact zx_S hS) hFc⟩⟩ rfl hn hl.1 rfl (lv_room hcat) d hR) hS (fun q _ h => hFc q h) hFc (fun q _ h => hFc q h) (fun E' ce q9 u t H1 locs1 ht hvm _ hB hk1 hk2 hS1 hce hcv hcl => ?_) (fun r u t H1 locs1 ht hvm hw => hw.elim)
  obtain ⟨hpx, hP1, hK1, hD1, hz1⟩ := hB
  rw [ht] at hP1 hz1
  obtain ⟨hP2, hD2⟩ := z_join hP hD hk2 hFc hP1 hD1
  exact kx hx hb hml hown hts hA hG hK H1 locs1 ls hP2 hD2 (zx_up hS hS1 hz1 hA) hl E' ce q9 _ hpx hce hcv hcl
theorem z_callSi_fr {E : ZE} {G GY : State → (Nat → Prop) → Prop} {R : Room} {cc : ByteArray} {own : String} {Ts : List Cond} {n : Nat} {D : va_G} {tys tysC : List (ClassId × FieldType)} {cells slots mc ms : Nat} {wc w : va_W} {pc : Nat} {L : List (Nat × Value)} {st st0 : List Value} {idx maxL k : Nat} {y : MethodName} {bytes : ByteArray} {ret : Option FieldType} {ws : List Cond} {rm : Room} {As : List Value} {σ : Type} {post : Int32 → σ → Prop} {wf : σ → va_W}
    (wl wr : va_W) (hM : ∀ l : Launch, l = E.2.1 → zMi l y ws rm GY D tysC wc As post wf mc ms) (hGY : zGok GY) (hGG : ∀ s A, G s A → GY s A) (cw : ∀ (s : State) (args : Array Value), (∀ w ∈ Ts, w.before args s = true) → CallB R s args own idx y bytes maxL ret ws rm mc ms k ∧ (Cond.static y).before args s = true)  (is : List Nat) (htys : is.filterMap (fun i => tys[i]?) = tysC) (hw : w = wl ++ (wc ++ wr)) (hn : As.length = k) (hcat : (st.map fun v => v.category).sum ≤ 8) (hR : cells + mc ≤ R.cells ∧ slots + ms ≤ R.slots) (d : decode cc pc = .ok (.invokestatic idx, 3)) (hst : st0 = As.reverse ++ st)
    (kk : ∀ (r : Int32) (u : σ), post r u → ZW E G R cc own Ts n D tys (cells + mc) (slots + ms) (wl ++ (wf u ++ wr)) (pc + 3) L (.int r :: st)) : ZW E G R cc own Ts n D tys cells slots w pc L st0 := by
  obtain ⟨p, l, e, s, m, args, below, meth, c, A, Q⟩ := E
  intro hx hb hml hown hts hA hG hK H locs ls hP hD hS hl
  subst hst
  subst hw
  have hFc := z_cutm hD (zx_S hS) hA
  have hPc := zP_mid hP
  have hDc := zD_mid hD
  have hKc := hK.sub is htys
  refine va_calli (va_runS (As := As) (rest := st) ⟨hx, hb, hml, hown, hts⟩ (hM l rfl H.size) (cw s args hts) ⟨fun a U g mk q => by obtain ⟨q0, q1, qP, qK, qD, qG⟩ := q; exact ⟨q0, q1, qP, va_K.moved (u := U) (U := U.calling g mk a) (Vm.Alike.refl U.vm) qK, qD, hGY.1 a U g mk _ qG⟩, fun U hU hW => ⟨rfl, by rw [hU], by rw [hU]; exact hPc, va_K.moved hW.alike hKc, hDc.weaken (fun _ _ _ _ => trivial), hGY.2 s U A _ locs (hGG s A hG) hW (by rw [hU]; exact zx_S hS) hFc⟩⟩ rfl hn hl.1 rfl (lv_room hcat) d hR) hS (fun q _ h => hFc q h) hFc (fun r u t H1 locs1 ht hvm hw hB hk1 hk2 hS1 => ?_)
  obtain ⟨hP1, hK1, hD1, hz1⟩ := hB
  rw [ht] at hP1 hz1
  obtain ⟨hP2, hD2⟩ := z_join hP hD hk2 hFc hP1 hD1
  exact kk r u hw hx hb hml hown hts hA hG hK H1 locs1 ls hP2 hD2 (zx_up hS hS1 hz1 hA) hl
