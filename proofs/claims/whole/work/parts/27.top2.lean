theorem z_new {E : ZE} {G : State → (Nat → Prop) → Prop} {R : Room} {cc : ByteArray} {own : String} {Ts : List Cond} {n : Nat} {D : va_G} {tys : List (ClassId × FieldType)} {cells slots : Nat} {w : va_W} {pc : Nat} {L : List (Nat × Value)} {st : List Value} {C : String} {T : u_T} {N ci index : Nat} (fs : List Value) (hin : ∀ w ∈ u_ws C T N, w ∈ Ts) (ty : Nat → FieldType) (hty : ∀ k, k < N → parseFieldDescriptor (T k).2.2.1 = some (ty k)) (h1 : Cond.classLink own index C ∈ Ts) (h2 : Cond.instantiable C N ∈ Ts) (h3 : Cond.initialized C ∈ Ts) (hc : vwCl[ci]? = some (C, T, N)) (hfs : ∀ j, j < N → defaultValue (ty j) = vp_V fs j) (hcells : cells + 1 ≤ R.cells) (hslots : slots + N ≤ R.slots) (d : decode cc pc = .ok (.new index, 3)) (kk : ∀ q : Nat, ZW E G R cc own Ts n D tys (cells + 1) (slots + N) (w ++ [(q, .inr (ci, fs))]) (pc + 3) L (.ref q :: st)) : ZW E G R cc own Ts n D tys cells slots w pc L st := by
  obtain ⟨p, l, e, s, m, args, below, meth, c, A, Q⟩ := E
  intro hx hb hml hown hts hA hG hK H locs ls hP hD hS hl
  exact va_new hx hb hts hin ty hty hown (hts _ h1) (hts _ h2) (hts _ h3) hK hP hD hS hA hc hfs hcells hslots d (fun q H1 hP1 hD1 hS1 => kk q hx hb hml hown hts hA hG hK H1 locs ls hP1 hD1 hS1 hl)
theorem z_perm {E : ZE} {G : State → (Nat → Prop) → Prop} {R : Room} {cc : ByteArray} {own : String} {Ts : List Cond} {n : Nat} {D : va_G} {tys : List (ClassId × FieldType)} {cells slots : Nat} {w w' : va_W} {pc : Nat} {L : List (Nat × Value)} {st : List Value} (hp : w.Perm w') (kk : ZW E G R cc own Ts n D tys cells slots w' pc L st) : ZW E G R cc own Ts n D tys cells slots w pc L st := by
  obtain ⟨p, l, e, s, m, args, below, meth, c, A, Q⟩ := E
  intro hx hb hml hown hts hA hG hK H locs ls hP hD hS hl
  obtain ⟨h1, h2⟩ := zD_iff.mp hD
  exact kk hx hb hml hown hts hA hG hK H locs ls (zP_iff.mpr fun q hq => zP_iff.mp hP q (hp.mem_iff.mpr hq)) (zD_iff.mpr ⟨(hp.pairwise_iff (fun h => Ne.symm h)).mp h1, fun q hq => h2 q (hp.mem_iff.mpr hq)⟩) hS hl
set_option maxHeartbeats 8000000 in
set_option maxRecDepth 100000 in
theorem start_of {p : Program} {e : Env} {s : State} {m : MethodId} {below : List Frame} {meth : Method} {c : Code} (l : Launch) (hflags : l.flags = flags0) {b L : Nat} {xs : Nat → Int32} (hL : L ≤ 3072) (C0 : lw_At p s m meth c b L xs) (RR : SX → SX → Prop) (hWF : ∀ u v, RR u v → zWF u v) (hDD : zDall RR) (hR0 : RR s_X0_init u0SX) : W p l e room_1 s m #[Value.ref b] below meth c s.heap [] 0 0 (lw_Z below #[Value.ref b] s) (entryFrame m ([Value.ref b] : List Value).toArray 7) := by
  have hU := zU_start C0
  obtain ⟨hx, hb, hr, hml, hown, hts, hX, hbl, hlocks, hgv⟩ := id C0
  obtain ⟨c0, iS0, hKn0⟩ := u_known (C := RX0) (T := TX0) (N := 19) (n := 19) hts inX0 (hts (.instantiable RX0 19) (wsL_law_in _ (List.mem_of_getElem? (i := 1) rfl)))
  obtain ⟨c1, iS1, hKn1⟩ := u_known (C := RX1) (T := TX1) (N := 22) (n := 22) hts inX1 (hts (.instantiable RX1 22) (wsL_law_in _ (List.mem_of_getElem? (i := 4) rfl)))
  obtain ⟨dC, dI, hKc⟩ : ∃ (dC : Nat → ClassId) (dI : Nat → Nat → Nat), ∀ (k : Nat) (q : vw_C), vwCl[k]? = some q → u_Kn s q.1 q.2.1 q.2.2 (dC k) (dI k) := by
    refine ⟨fun k => if k = 0 then c0 else c1, fun k => if k = 0 then iS0 else iS1, ?_⟩
    intro k q hq
    match k, hq with
    | 0, hq => cases hq; exact hKn0
    | 1, hq => cases hq; exact hKn1
    | k + 2, hq => simp [vwCl] at hq
  have hlt : l.stackTraces = false := by unfold Launch.stackTraces; rw [hflags]; decide
  have hl := lv_entry ([.ref b]) (n := 7) (Nat.le_of_ble_eq_true rfl)
  rw [lg_entry_eq]
  have main : ZW (p, l, e, s, m, #[Value.ref b], below, meth, c, (fun q => s.heap.size ≤ q), lw_Z below #[Value.ref b] s) (zGL b L xs) room_1 cL_law RL wsL_law 7 (dC, dI) [] 0 0 [] 0 [(0, .ref b)] [] := by
    refine z_new (C := RX0) (T := TX0) (N := 19) (ci := 0) [.null, .null, .int 0, .int 0, .int 0, .null, .null, .null, .null, .null, .int 0, .null, .null, .null, .null, .null, .int 0, .int 0, .int 0] inlX0 tyX0 tyX0_ok (List.mem_of_getElem? (i := 0) rfl) (List.mem_of_getElem? (i := 1) rfl) (List.mem_of_getElem? (i := 2) rfl) rfl (fun j hj => by rcases (show j = 0 ∨ j = 1 ∨ j = 2 ∨ j = 3 ∨ j = 4 ∨ j = 5 ∨ j = 6 ∨ j = 7 ∨ j = 8 ∨ j = 9 ∨ j = 10 ∨ j = 11 ∨ j = 12 ∨ j = 13 ∨ j = 14 ∨ j = 15 ∨ j = 16 ∨ j = 17 ∨ j = 18 by omega) with rfl | rfl | rfl | rfl | rfl | rfl | rfl | rfl | rfl | rfl | rfl | rfl | rfl | rfl | rfl | rfl | rfl | rfl | rfl <;> rfl) (Nat.le_of_ble_eq_true rfl) (Nat.le_of_ble_eq_true rfl) dL_law_0 (fun h => ?_)
    refine z_dup dL_law_3 rfl ?_
    refine z_callC (st := [.ref h]) [] [] (fun l => c_X0_init l (dC, dI) h) (fun s args hts => cwI 0 hts gL_law_X0_init rfl rfl rfl (hts _ (List.mem_of_getElem? (i := 2) rfl)) (hts _ (List.mem_of_getElem? (i := 7) rfl)) (hts _ (List.mem_of_getElem? (i := 8) rfl)) rfl (by decide +kernel) ⟨(Nat.le_of_ble_eq_true rfl), (Nat.le_of_ble_eq_true rfl)⟩) rfl (Nat.le_of_ble_eq_true rfl) ⟨(Nat.le_of_ble_eq_true rfl), (Nat.le_of_ble_eq_true rfl)⟩ dL_law_4 (fun z _ => ?_)
    obtain ⟨a, cI, cZ⟩ := z
    refine z_eqw (w' := wX0 cI cZ h a s_X0_init) rfl ?_
    refine z_astore_n (L' := [(1, .ref h), (0, .ref b)]) dL_law_7 (by decide) rfl ?_
    refine z_new (C := RX1) (T := TX1) (N := 22) (ci := 1) [.int 0, .int 0, .int 0, .null, .null, .null, .null, .null, .null, .null, .null, .null, .null, .int 0, .null, .null, .null, .null, .null, .null, .null, .int 0] inlX1 tyX1 tyX1_ok (List.mem_of_getElem? (i := 3) rfl) (List.mem_of_getElem? (i := 4) rfl) (List.mem_of_getElem? (i := 5) rfl) rfl (fun j hj => by rcases (show j = 0 ∨ j = 1 ∨ j = 2 ∨ j = 3 ∨ j = 4 ∨ j = 5 ∨ j = 6 ∨ j = 7 ∨ j = 8 ∨ j = 9 ∨ j = 10 ∨ j = 11 ∨ j = 12 ∨ j = 13 ∨ j = 14 ∨ j = 15 ∨ j = 16 ∨ j = 17 ∨ j = 18 ∨ j = 19 ∨ j = 20 ∨ j = 21 by omega) with rfl | rfl | rfl | rfl | rfl | rfl | rfl | rfl | rfl | rfl | rfl | rfl | rfl | rfl | rfl | rfl | rfl | rfl | rfl | rfl | rfl | rfl <;> rfl) (Nat.le_of_ble_eq_true rfl) (Nat.le_of_ble_eq_true rfl) dL_law_8 (fun h2 => ?_)
    refine z_dup dL_law_11 rfl ?_
    refine z_callC (st := [.ref h2]) (wX0 cI cZ h a s_X0_init) [] (fun l => c_X1_init l (dC, dI) h2) (fun s args hts => cwI 0 hts gL_law_X1_init rfl rfl rfl (hts _ (List.mem_of_getElem? (i := 5) rfl)) (hts _ (List.mem_of_getElem? (i := 34) rfl)) (hts _ (List.mem_of_getElem? (i := 35) rfl)) rfl (by decide +kernel) ⟨(Nat.le_of_ble_eq_true rfl), (Nat.le_of_ble_eq_true rfl)⟩) rfl (Nat.le_of_ble_eq_true rfl) ⟨(Nat.le_of_ble_eq_true rfl), (Nat.le_of_ble_eq_true rfl)⟩ dL_law_12 (fun z _ => ?_)
    obtain ⟨a2, cI2, cZ2⟩ := z
    refine z_eqw (w' := wX0 cI cZ h a s_X0_init ++ wX1 cI2 cZ2 h2 a2 u0SX) rfl ?_
    refine z_astore_n (L' := [(2, .ref h2), (1, .ref h), (0, .ref b)]) dL_law_15 (by decide) rfl ?_
    refine z_iconst (v := 1) dL_law_16 rfl ?_
    refine z_newa0 (ty := .long) (1, .inr (.inl (fun _ => 0))) 1 (List.mem_of_getElem? (i := 6) rfl) rfl (fun _ => rfl) (by decide) rfl (Nat.le_of_ble_eq_true rfl) (Nat.le_of_ble_eq_true rfl) (Nat.le_of_ble_eq_true rfl) dL_law_17 (fun o cJ => ?_)
    refine z_perm (w' := wX1 cI2 cZ2 h2 a2 u0SX ++ (wX0 cI cZ h a s_X0_init ++ wO cJ o (fun _ => 0))) (by rw [← List.append_assoc]; exact List.Perm.append_right _ List.perm_append_comm) ?_
    refine z_astore_n (L' := [(3, .ref o), (2, .ref h2), (1, .ref h), (0, .ref b)]) dL_law_19 (by decide) rfl ?_
    refine z_iconst (v := 0) dL_law_20 rfl ?_
    refine z_istore (L' := [(4, .int 0), (3, .ref o), (2, .ref h2), (1, .ref h), (0, .ref b)]) dL_law_21 (by decide) rfl ?_
    refine z_sub (L' := [(0, .ref b), (1, .ref h), (2, .ref h2), (3, .ref o), (4, .int (nI (6 * 0)))]) [4, 3, 2, 1, 0] rfl ?_
    refine law_loop _ hlt b L xs (dC, dI) cI cZ cI2 cZ2 cJ h h2 o a a2 hL RR hWF hDD ?_ 513 0 (by omega) (Nat.zero_le _) s_X0_init u0SX (fun _ => 0) hR0
    intro pc Lx w c' s' d hc hs hx hb hml hown hts hA hG hK H locs ls hP hD hS hl
    refine va_forget (fun q hq => hS.2.2 q hq) ?_
    refine W.widen hc hs ?_
    exact lw_ret hx hb hr hlocks d
  exact main hx hb hml hown (fun w h => hts w (wsL_law_in w h)) (fun q h => h) ⟨hU, hX, hbl, Nat.not_le.mpr hbl⟩ ⟨hKc, fun k q h => by simp at h⟩ s.heap [] _ (fun k q h => by simp at h) ⟨fun i j p q h => by simp at h, fun k q h => by simp at h⟩ va_S.rf hl
