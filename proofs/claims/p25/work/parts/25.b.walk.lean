theorem zNot {args : Array Value} {s : State} {c : Cond} (h : (Cond.not c).before args s = true) : (Cond.not c).before args s = true := h
theorem zStr_of {args : Array Value} {s : State} {k : Nat} {tx : String} (h1 : (Cond.stringRef RX0 k tx).before args s = true) (h2 : (Cond.exactly (.string RX0 k) "java/lang/String").before args s = true) : ∃ sa, vk_R RX0 k tx sa s := by
  obtain ⟨a, c, cA, kA, q1, -⟩ := Cond.exactly_spec (args := args) (first := s) (o := none) (s := s) (idx := []) (t := .string RX0 k) (cls := "java/lang/String") h2
  exact ⟨a, vk_R.of h1 q1⟩
/-- at the law's entry: what a throw needs -/
theorem zU_start {p : Program} {s : State} {m : MethodId} {meth : Method} {c : Code} {b L : Nat} {xs : Nat → Int32} (C0 : lw_At p s m meth c b L xs) : zU s (fun q => s.heap.size ≤ q) := by
  obtain ⟨hx, hb, hr, hml, hown, hts, hX, hbl, hlocks, hgv⟩ := C0
  have hs := flat_of_before _ hgv
  have hA : ∀ a : Nat, a < s.heap.size → ¬ (s.heap.size ≤ a) := fun a h => Nat.not_le.mpr h
  have hini := hts (.initialized Bundle.tN) (by decide +kernel)
  refine ⟨⟨vx_Zqof (hts (.laysStatic Bundle.tN "UNASSIGNED_STACK" Bundle.steD) (by decide +kernel)) hini (hs (.isRef (.static Bundle.tN "UNASSIGNED_STACK" Bundle.steD)) (by decide +kernel)) hA, vx_Zqof (hts (.laysStatic Bundle.tN "SUPPRESSED_SENTINEL" Bundle.listD) (by decide +kernel)) hini (hs (.isRef (.static Bundle.tN "SUPPRESSED_SENTINEL" Bundle.listD)) (by decide +kernel)) hA⟩, ?_, ?_, ?_, ?_⟩
  · intro q hq
    simp only [zStr, List.mem_cons, List.not_mem_nil, or_false] at hq
    rcases hq with rfl | rfl | rfl | rfl | rfl | rfl | rfl | rfl
    · exact zStr_of (hts (.stringRef RX0 75 "there are 16 devices") (by decide +kernel)) (hs (.exactly (.string RX0 75) "java/lang/String") (by decide +kernel))
    · exact zStr_of (hts (.stringRef RX0 100 "the token is dead") (by decide +kernel)) (hs (.exactly (.string RX0 100) "java/lang/String") (by decide +kernel))
    · exact zStr_of (hts (.stringRef RX0 130 "it was not delivered there, or does not stand any more") (by decide +kernel)) (hs (.exactly (.string RX0 130) "java/lang/String") (by decide +kernel))
    · exact zStr_of (hts (.stringRef RX0 151 "the clock would be above 100000") (by decide +kernel)) (hs (.exactly (.string RX0 151) "java/lang/String") (by decide +kernel))
    · exact zStr_of (hts (.stringRef RX0 163 "an argument is out of range") (by decide +kernel)) (hs (.exactly (.string RX0 163) "java/lang/String") (by decide +kernel))
    · exact zStr_of (hts (.stringRef RX0 168 "there is no such device") (by decide +kernel)) (hs (.exactly (.string RX0 168) "java/lang/String") (by decide +kernel))
    · exact zStr_of (hts (.stringRef RX0 171 "there is no such notice") (by decide +kernel)) (hs (.exactly (.string RX0 171) "java/lang/String") (by decide +kernel))
    · exact zStr_of (hts (.stringRef RX0 173 "120 notices have been sent") (by decide +kernel)) (hs (.exactly (.string RX0 173) "java/lang/String") (by decide +kernel))
  · intro x hx
    simp only [zCast, List.mem_cons, List.not_mem_nil, or_false] at hx
    rcases hx with rfl | rfl | rfl
    · exact va_Nw.of rfl (hts (.castable zIAE zIAE) (by decide +kernel))
    · exact va_Nw.of rfl (hts (.castable zISE zISE) (by decide +kernel))
    · exact va_Nw.of rfl (hts (.castable zIOB zIOB) (by decide +kernel))
  · intro x hx
    simp only [zDecl, List.mem_cons, List.not_mem_nil, or_false] at hx
    rcases hx with rfl | rfl | rfl
    · exact va_Nw.of rfl (hts (.declares (Bundle.initS "java/lang/RuntimeException")) (by decide +kernel))
    · exact va_Nw.of rfl (hts (.declares (Bundle.initS "java/lang/Exception")) (by decide +kernel))
    · exact va_Nw.of rfl (hts (.declares (Bundle.initS "java/lang/Throwable")) (by decide +kernel))
  · intro q hq
    simp only [zNcs, List.mem_cons, List.not_mem_nil, or_false] at hq
    rcases hq with rfl | rfl | rfl | rfl | rfl | rfl
    · exact va_Nc.of (hs (.not (.castable zISE zIAE)) (by decide +kernel))
    · exact va_Nc.of (hs (.not (.castable zIAE zISE)) (by decide +kernel))
    · exact va_Nc.of (hs (.not (.castable zIAE zIOB)) (by decide +kernel))
    · exact va_Nc.of (hs (.not (.castable zISE zIOB)) (by decide +kernel))
    · exact va_Nc.of (hs (.not (.castable zIOB zIAE)) (by decide +kernel))
    · exact va_Nc.of (hs (.not (.castable zIOB zISE)) (by decide +kernel))
/-- room for the walk: more cells and slots than the statement's, the same frames and words -/
def R9 : Room := { frames := 12, cells := 5000, slots := 60000, locals := 452 }
set_option maxHeartbeats 8000000 in
set_option maxRecDepth 100000 in
theorem walk9 {p : Program} {e : Env} {s : State} {m : MethodId} {below : List Frame} {meth : Method} {c : Code} (l : Launch) (hflags : l.flags = flags0) {b L : Nat} {xs : Nat → Int32} (hL : L ≤ 260) (C0 : lw_At p s m meth c b L xs) : W p l e R9 s m #[Value.ref b] below meth c s.heap [] 0 0 (fun t => s.heap.size + 121 ≤ t.heap.size) (entryFrame m ([Value.ref b] : List Value).toArray 7) := by
  have hU := zU_start C0
  obtain ⟨hx, hb, hr, hml, hown, hts, hX, hbl, hlocks, hgv⟩ := id C0
  obtain ⟨c0, iS0, hKn0⟩ := u_known (C := RX0) (T := TX0) (N := 19) (n := 19) hts inX0 (hts (.instantiable RX0 19) (wsL_law_in _ (List.mem_of_getElem? (i := 1) rfl)))
  obtain ⟨dC, dI, hKc⟩ : ∃ (dC : Nat → ClassId) (dI : Nat → Nat → Nat), ∀ (k : Nat) (q : vw_C), vwCl[k]? = some q → u_Kn s q.1 q.2.1 q.2.2 (dC k) (dI k) := by
    refine ⟨fun _ => c0, fun _ => iS0, ?_⟩
    intro k q hq
    match k, hq with
    | 0, hq => cases hq; exact hKn0
    | k + 1, hq => simp [vwCl] at hq
  have hlt : l.stackTraces = false := by unfold Launch.stackTraces; rw [hflags]; decide
  have hl := lv_entry ([.ref b]) (n := 7) (Nat.le_of_ble_eq_true rfl)
  rw [lg_entry_eq]
  have main : ZW (p, l, e, s, m, #[Value.ref b], below, meth, c, (fun q => s.heap.size ≤ q), (fun t => s.heap.size + 121 ≤ t.heap.size)) (zGL b L xs) R9 cL_law RL wsL_law 7 (dC, dI) [] 0 0 [] 0 [(0, .ref b)] [] := by
    refine z_new (C := RX0) (T := TX0) (N := 19) (ci := 0) [.null, .null, .int 0, .int 0, .int 0, .null, .null, .null, .null, .null, .int 0, .null, .null, .null, .null, .null, .int 0, .int 0, .int 0] inlX0 tyX0 tyX0_ok (List.mem_of_getElem? (i := 0) rfl) (List.mem_of_getElem? (i := 1) rfl) (List.mem_of_getElem? (i := 2) rfl) rfl (fun j hj => by rcases (show j = 0 ∨ j = 1 ∨ j = 2 ∨ j = 3 ∨ j = 4 ∨ j = 5 ∨ j = 6 ∨ j = 7 ∨ j = 8 ∨ j = 9 ∨ j = 10 ∨ j = 11 ∨ j = 12 ∨ j = 13 ∨ j = 14 ∨ j = 15 ∨ j = 16 ∨ j = 17 ∨ j = 18 by omega) with rfl | rfl | rfl | rfl | rfl | rfl | rfl | rfl | rfl | rfl | rfl | rfl | rfl | rfl | rfl | rfl | rfl | rfl | rfl <;> rfl) (Nat.le_of_ble_eq_true rfl) (Nat.le_of_ble_eq_true rfl) dL_law_0 (fun h => ?_)
    refine z_dup dL_law_3 rfl ?_
    refine z_callC (st := [.ref h]) [] [] (fun l => c_X0_init l (dC, dI) h) (fun s args hts => cwI 0 hts gL_law_X0_init rfl rfl rfl (hts _ (List.mem_of_getElem? (i := 2) rfl)) (hts _ (List.mem_of_getElem? (i := 3) rfl)) (hts _ (List.mem_of_getElem? (i := 4) rfl)) rfl (by decide +kernel) ⟨(Nat.le_of_ble_eq_true rfl), (Nat.le_of_ble_eq_true rfl)⟩) rfl (Nat.le_of_ble_eq_true rfl) ⟨(Nat.le_of_ble_eq_true rfl), (Nat.le_of_ble_eq_true rfl)⟩ dL_law_4 (fun z _ => ?_)
    obtain ⟨a, cI, cZ⟩ := z
    refine z_eqw (w' := (wX0 cI cZ h a s_X0_init)) rfl ?_
    refine z_astore_n (L' := [(1, .ref h), (0, .ref b)]) dL_law_7 (by decide) rfl ?_
    refine z_new (C := RX0) (T := TX0) (N := 19) (ci := 0) [.null, .null, .int 0, .int 0, .int 0, .null, .null, .null, .null, .null, .int 0, .null, .null, .null, .null, .null, .int 0, .int 0, .int 0] inlX0 tyX0 tyX0_ok (List.mem_of_getElem? (i := 0) rfl) (List.mem_of_getElem? (i := 1) rfl) (List.mem_of_getElem? (i := 2) rfl) rfl (fun j hj => by rcases (show j = 0 ∨ j = 1 ∨ j = 2 ∨ j = 3 ∨ j = 4 ∨ j = 5 ∨ j = 6 ∨ j = 7 ∨ j = 8 ∨ j = 9 ∨ j = 10 ∨ j = 11 ∨ j = 12 ∨ j = 13 ∨ j = 14 ∨ j = 15 ∨ j = 16 ∨ j = 17 ∨ j = 18 by omega) with rfl | rfl | rfl | rfl | rfl | rfl | rfl | rfl | rfl | rfl | rfl | rfl | rfl | rfl | rfl | rfl | rfl | rfl | rfl <;> rfl) (Nat.le_of_ble_eq_true rfl) (Nat.le_of_ble_eq_true rfl) dL_law_8 (fun h2 => ?_)
    refine z_dup dL_law_11 rfl ?_
    refine z_callC (st := [.ref h2]) (wX0 cI cZ h a s_X0_init) [] (fun l => c_X0_init l (dC, dI) h2) (fun s args hts => cwI 0 hts gL_law_X0_init rfl rfl rfl (hts _ (List.mem_of_getElem? (i := 2) rfl)) (hts _ (List.mem_of_getElem? (i := 3) rfl)) (hts _ (List.mem_of_getElem? (i := 4) rfl)) rfl (by decide +kernel) ⟨(Nat.le_of_ble_eq_true rfl), (Nat.le_of_ble_eq_true rfl)⟩) rfl (Nat.le_of_ble_eq_true rfl) ⟨(Nat.le_of_ble_eq_true rfl), (Nat.le_of_ble_eq_true rfl)⟩ dL_law_12 (fun z _ => ?_)
    obtain ⟨a2, cI2, cZ2⟩ := z
    refine z_eqw (w' := ((wX0 cI cZ h a s_X0_init) ++ (wX0 cI2 cZ2 h2 a2 s_X0_init))) rfl ?_
    refine z_astore_n (L' := [(2, .ref h2), (1, .ref h), (0, .ref b)]) dL_law_15 (by decide) rfl ?_
    refine z_eqc (cells' := 26) (slots' := 1346) (by decide) (by decide) ?_
    refine z_bipush (v := 12) dL_law_16 rfl ?_
    refine z_aload_n 2 dL_law_18 rfl ?_
    refine z_iconst (v := 0) dL_law_19 rfl ?_
    refine z_callSi_fr (As := [.ref b, .int 0]) (st := [.int 12]) [] ((wX0 cI cZ h a s_X0_init) ++ (wX0 cI2 cZ2 h2 a2 s_X0_init)) (fun l hl9 => c_L_drawn l (dC, dI) _ b L 0 xs (by omega) hL) (zGok_GL b L xs) (fun _ _ q => q) (fun s args hts => va_cwS 2 hts gL_law_L_drawn rfl rfl rfl (by decide +kernel) ⟨Nat.le_of_ble_eq_true rfl, Nat.le_of_ble_eq_true rfl⟩) [0, 1, 2, 3] rfl rfl rfl (Nat.le_of_ble_eq_true rfl) ⟨Nat.le_of_ble_eq_true rfl, Nat.le_of_ble_eq_true rfl⟩ dL_law_20 rfl (fun r _ hp => ?_)
    obtain ⟨n0, hn0, rfl⟩ := hp
    refine z_eqc (cells' := 26) (slots' := 1346) (by decide) (by decide) ?_
    refine z_eqw (w' := ((wX0 cI cZ h a s_X0_init) ++ (wX0 cI2 cZ2 h2 a2 s_X0_init))) rfl ?_
    refine z_bipush (v := 29) dL_law_23 rfl ?_
    refine z_irem dL_law_25 (by decide) ?_
    refine z_iadd dL_law_26 ?_
    refine z_eqs (st' := [.int (nI (12 + n0 % 29))]) (by rw [show nI n0 - nI n0 / 29 * 29 = nI (n0 % 29) from pk_rem (d := 29) (by omega) (by omega) (by omega), show 12 + nI (n0 % 29) = nI (12 + n0 % 29) from nI_add 12 (n0 % 29)]) ?_
    refine z_istore_n (L' := [(3, .int (nI (12 + n0 % 29))), (2, .ref h2), (1, .ref h), (0, .ref b)]) dL_law_27 (by decide) rfl ?_
    refine z_iconst (v := 1) dL_law_28 rfl ?_
    refine z_istore (L' := [(4, .int 1), (3, .int (nI (12 + n0 % 29))), (2, .ref h2), (1, .ref h), (0, .ref b)]) dL_law_29 (by decide) rfl ?_
    refine z_iconst (v := 0) dL_law_31 rfl ?_
    refine z_istore (L' := [(5, .int 0), (4, .int 1), (3, .int (nI (12 + n0 % 29))), (2, .ref h2), (1, .ref h), (0, .ref b)]) dL_law_32 (by decide) rfl ?_
    refine z_iload 0 dL_law_34 rfl ?_
    refine z_iload_n 2 dL_law_36 rfl ?_
    refine z_icmp_ge 154 dL_law_37 (by decide) (fun c => absurd c (nI_ge (a := 0) (by omega) (by omega))) (fun _ => ?_)
    refine z_iload 1 dL_law_40 rfl ?_
    refine z_if_eq 154 dL_law_42 (by decide) (fun c => absurd c (by decide)) (fun _ => ?_)
    refine z_aload_n 5 dL_law_45 rfl ?_
    refine z_iconst (v := 1) dL_law_46 rfl ?_
    refine z_iload 0 dL_law_47 rfl ?_
    refine z_iadd dL_law_49 ?_
    refine z_eqs (st' := [.int (nI 1), .ref b]) rfl ?_
    refine z_callSi_fr (As := [.ref b, .int (nI 1)]) (st := []) [] ((wX0 cI cZ h a s_X0_init) ++ (wX0 cI2 cZ2 h2 a2 s_X0_init)) (fun l hl9 => c_L_drawn l (dC, dI) _ b L 1 xs (by omega) hL) (zGok_GL b L xs) (fun _ _ q => q) (fun s args hts => va_cwS 2 hts gL_law_L_drawn rfl rfl rfl (by decide +kernel) ⟨Nat.le_of_ble_eq_true rfl, Nat.le_of_ble_eq_true rfl⟩) [0, 1, 2, 3] rfl rfl rfl (Nat.le_of_ble_eq_true rfl) ⟨Nat.le_of_ble_eq_true rfl, Nat.le_of_ble_eq_true rfl⟩ dL_law_50 rfl (fun r _ hp => ?_)
    obtain ⟨n1, hn1, rfl⟩ := hp
    refine z_eqc (cells' := 26) (slots' := 1346) (by decide) (by decide) ?_
    refine z_eqw (w' := ((wX0 cI cZ h a s_X0_init) ++ (wX0 cI2 cZ2 h2 a2 s_X0_init))) rfl ?_
    refine z_istore (L' := [(6, .int (nI n1)), (5, .int 0), (4, .int 1), (3, .int (nI (12 + n0 % 29))), (2, .ref h2), (1, .ref h), (0, .ref b)]) dL_law_53 (by decide) rfl ?_
    refine z_iload 1 dL_law_55 rfl ?_
    refine z_iconst (v := 2) dL_law_57 rfl ?_
    refine z_icmp_ge 72 dL_law_58 (by decide) (fun c => absurd c (by decide)) (fun _ => ?_)
    refine z_iload 0 dL_law_61 rfl ?_
    refine z_bipush (v := 16) dL_law_63 rfl ?_
    refine z_idiv dL_law_65 (by decide) ?_
    refine z_bipush (v := 16) dL_law_66 rfl ?_
    refine z_imul dL_law_68 ?_
    refine z_eqs (st' := [.int (nI (n1 / 16 * 16))]) (by rw [show nI n1 / 16 = nI (n1 / 16) from pk_div (d := 16) (by omega) (by omega) (by omega), show nI (n1 / 16) * 16 = nI (n1 / 16 * 16) from pk_mul (n1 / 16) 16]) ?_
    refine z_goto 74 dL_law_69 (by decide) ?_
    refine z_istore (L' := [(6, .int (nI (n1 / 16 * 16))), (5, .int 0), (4, .int 1), (3, .int (nI (12 + n0 % 29))), (2, .ref h2), (1, .ref h), (0, .ref b)]) dL_law_74 (by decide) rfl ?_
    refine z_aload_n 4 dL_law_76 rfl ?_
    refine z_iload 0 dL_law_77 rfl ?_
    refine z_sipush (v := 9973) dL_law_79 rfl ?_
    refine z_irem dL_law_82 (by decide) ?_
    refine z_eqs (st' := [.int (nI ((n1 / 16 * 16) % 9973)), .ref h2]) (by rw [show nI (n1 / 16 * 16) - nI (n1 / 16 * 16) / 9973 * 9973 = nI ((n1 / 16 * 16) % 9973) from pk_rem (d := 9973) (by omega) (by omega) (by omega)]) ?_
    refine z_callSi_fr (As := [.ref h2, .int (nI ((n1 / 16 * 16) % 9973))]) (st := []) (wX0 cI cZ h a s_X0_init) [] (fun l hl9 => c_L_refuses_0 l (by rw [hl9]; exact hlt) (dC, dI) cI2 cZ2 h2 a2 s_X0_init ((n1 / 16 * 16) % 9973) (by omega) s_init_10 s_init_16 (fun i hi => Or.inl (s_init_15 i hi))) zGok_U (fun _ _ q => q.1) (fun s args hts => va_cwS 2 hts gL_law_L_refuses rfl rfl rfl (by decide +kernel) ⟨Nat.le_of_ble_eq_true rfl, Nat.le_of_ble_eq_true rfl⟩) [2, 3] rfl rfl rfl (Nat.le_of_ble_eq_true rfl) ⟨Nat.le_of_ble_eq_true rfl, Nat.le_of_ble_eq_true rfl⟩ dL_law_83 rfl (fun r _ hp => ?_)
    subst hp
    refine z_eqc (cells' := 57) (slots' := 1532) (by decide) (by decide) ?_
    refine z_eqw (w' := ((wX0 cI cZ h a s_X0_init) ++ (wX0 cI2 cZ2 h2 a2 s_X0_init))) rfl ?_
    refine z_if_eq 145 dL_law_86 (by decide) (fun c => absurd c (by decide)) (fun _ => ?_)
    refine z_aload_n 5 dL_law_89 rfl ?_
    refine z_iload 0 dL_law_90 rfl ?_
    refine z_iconst (v := 0) dL_law_92 rfl ?_
    refine z_callSi_fr (As := [.ref h, .int (nI (n1 / 16 * 16)), .int 0]) (st := []) [] (wX0 cI2 cZ2 h2 a2 s_X0_init) (fun l hl9 => c_L_act l (dC, dI) cI cZ h a s_X0_init (n1 / 16 * 16) 0 (by omega) (by omega) s_init_10) zGok_TT (fun _ _ _ => trivial) (fun s args hts => va_cwS 3 hts gL_law_L_act rfl rfl rfl (by decide +kernel) ⟨Nat.le_of_ble_eq_true rfl, Nat.le_of_ble_eq_true rfl⟩) [0, 1] rfl rfl rfl (Nat.le_of_ble_eq_true rfl) ⟨Nat.le_of_ble_eq_true rfl, Nat.le_of_ble_eq_true rfl⟩ dL_law_93 rfl (fun r _ hp => ?_)
    subst hp
    refine z_eqc (cells' := 57) (slots' := 1532) (by decide) (by decide) ?_
    refine z_eqw (w' := ((wX0 cI cZ h a (uB (nI (n1 / 16 * 16 / 16) - nI (n1 / 16 * 16 / 16) / 3 * 3) ((nI (n1 / 16 * 16 / 16) / 3 - nI (n1 / 16 * 16 / 16) / 3 / 1561 * 1561) - 720))) ++ (wX0 cI2 cZ2 h2 a2 s_X0_init))) rfl ?_
    refine z_aload_n 4 dL_law_96 rfl ?_
    refine z_iload 0 dL_law_97 rfl ?_
    refine z_iconst (v := 1) dL_law_99 rfl ?_
    refine z_callSi_fr (As := [.ref h2, .int (nI (n1 / 16 * 16)), .int 1]) (st := [.int (r_X0_addDevice s_X0_init (nI (n1 / 16 * 16 / 16) - nI (n1 / 16 * 16 / 16) / 3 * 3) ((nI (n1 / 16 * 16 / 16) / 3 - nI (n1 / 16 * 16 / 16) / 3 / 1561 * 1561) - 720))]) (wX0 cI cZ h a (uB (nI (n1 / 16 * 16 / 16) - nI (n1 / 16 * 16 / 16) / 3 * 3) ((nI (n1 / 16 * 16 / 16) / 3 - nI (n1 / 16 * 16 / 16) / 3 / 1561 * 1561) - 720))) [] (fun l hl9 => c_L_act l (dC, dI) cI2 cZ2 h2 a2 s_X0_init (n1 / 16 * 16) 1 (by omega) (by omega) s_init_10) zGok_TT (fun _ _ _ => trivial) (fun s args hts => va_cwS 3 hts gL_law_L_act rfl rfl rfl (by decide +kernel) ⟨Nat.le_of_ble_eq_true rfl, Nat.le_of_ble_eq_true rfl⟩) [2, 3] rfl rfl rfl (Nat.le_of_ble_eq_true rfl) ⟨Nat.le_of_ble_eq_true rfl, Nat.le_of_ble_eq_true rfl⟩ dL_law_100 rfl (fun r _ hp => ?_)
    subst hp
    refine z_eqc (cells' := 57) (slots' := 1532) (by decide) (by decide) ?_
    refine z_eqw (w' := ((wX0 cI cZ h a (uB (nI (n1 / 16 * 16 / 16) - nI (n1 / 16 * 16 / 16) / 3 * 3) ((nI (n1 / 16 * 16 / 16) / 3 - nI (n1 / 16 * 16 / 16) / 3 / 1561 * 1561) - 720))) ++ (wX0 cI2 cZ2 h2 a2 (uB (nI (n1 / 16 * 16 / 16) - nI (n1 / 16 * 16 / 16) / 3 * 3) ((nI (n1 / 16 * 16 / 16) / 3 - nI (n1 / 16 * 16 / 16) / 3 / 1561 * 1561) - 720))))) rfl ?_
    refine z_icmp_ne 145 dL_law_103 (by decide) (fun c => absurd rfl c) (fun _ => ?_)
    refine z_aload_n 4 dL_law_106 rfl ?_
    refine z_iload 0 dL_law_107 rfl ?_
    refine z_sipush (v := 499) dL_law_109 rfl ?_
    refine z_irem dL_law_112 (by decide) ?_
    refine z_eqs (st' := [.int (nI ((n1 / 16 * 16) % 499)), .ref h2]) (by rw [show nI (n1 / 16 * 16) - nI (n1 / 16 * 16) / 499 * 499 = nI ((n1 / 16 * 16) % 499) from pk_rem (d := 499) (by omega) (by omega) (by omega)]) ?_
    refine z_callSi_fr (As := [.ref h2, .int (nI ((n1 / 16 * 16) % 499))]) (st := []) (wX0 cI cZ h a (uB (nI (n1 / 16 * 16 / 16) - nI (n1 / 16 * 16 / 16) / 3 * 3) ((nI (n1 / 16 * 16 / 16) / 3 - nI (n1 / 16 * 16 / 16) / 3 / 1561 * 1561) - 720))) [] (fun l hl9 => c_L_refuses_1 l (by rw [hl9]; exact hlt) (dC, dI) cI2 cZ2 h2 a2 (uB (nI (n1 / 16 * 16 / 16) - nI (n1 / 16 * 16 / 16) / 3 * 3) ((nI (n1 / 16 * 16 / 16) / 3 - nI (n1 / 16 * 16 / 16) / 3 / 1561 * 1561) - 720)) ((n1 / 16 * 16) % 499) (by omega) (uB_10 _ _) (uB_16 _ _) (fun i hi => Or.inl (uB_15 _ _ i hi))) zGok_U (fun _ _ q => q.1) (fun s args hts => va_cwS 2 hts gL_law_L_refuses rfl rfl rfl (by decide +kernel) ⟨Nat.le_of_ble_eq_true rfl, Nat.le_of_ble_eq_true rfl⟩) [2, 3] rfl rfl rfl (Nat.le_of_ble_eq_true rfl) ⟨Nat.le_of_ble_eq_true rfl, Nat.le_of_ble_eq_true rfl⟩ dL_law_113 rfl (fun r _ hp => ?_)
    subst hp
    refine z_eqc (cells' := 92) (slots' := 1742) (by decide) (by decide) ?_
    refine z_eqw (w' := ((wX0 cI cZ h a (uB (nI (n1 / 16 * 16 / 16) - nI (n1 / 16 * 16 / 16) / 3 * 3) ((nI (n1 / 16 * 16 / 16) / 3 - nI (n1 / 16 * 16 / 16) / 3 / 1561 * 1561) - 720))) ++ (wX0 cI2 cZ2 h2 a2 (uB (nI (n1 / 16 * 16 / 16) - nI (n1 / 16 * 16 / 16) / 3 * 3) ((nI (n1 / 16 * 16 / 16) / 3 - nI (n1 / 16 * 16 / 16) / 3 / 1561 * 1561) - 720))))) rfl ?_
    refine z_if_eq 145 dL_law_116 (by decide) (fun c => absurd c (by decide)) (fun _ => ?_)
    refine z_aload_n 5 dL_law_119 rfl ?_
    refine z_aload_n 4 dL_law_120 rfl ?_
    refine z_callSi_fr (As := [.ref h, .ref h2]) (st := []) [] [] (fun l hl9 => c_L_alike l (dC, dI) cI cZ cI2 cZ2 h h2 a a2 (uB (nI (n1 / 16 * 16 / 16) - nI (n1 / 16 * 16 / 16) / 3 * 3) ((nI (n1 / 16 * 16 / 16) / 3 - nI (n1 / 16 * 16 / 16) / 3 / 1561 * 1561) - 720)) (uB_10 _ _) (uB_16 _ _)) zGok_TT (fun _ _ _ => trivial) (fun s args hts => va_cwS 2 hts gL_law_L_alike rfl rfl rfl (by decide +kernel) ⟨Nat.le_of_ble_eq_true rfl, Nat.le_of_ble_eq_true rfl⟩) [0, 1, 2, 3] rfl rfl rfl (Nat.le_of_ble_eq_true rfl) ⟨Nat.le_of_ble_eq_true rfl, Nat.le_of_ble_eq_true rfl⟩ dL_law_121 rfl (fun r _ hp => ?_)
    subst hp
    refine z_eqc (cells' := 92) (slots' := 1742) (by decide) (by decide) ?_
    refine z_eqw (w' := ((wX0 cI cZ h a (uB (nI (n1 / 16 * 16 / 16) - nI (n1 / 16 * 16 / 16) / 3 * 3) ((nI (n1 / 16 * 16 / 16) / 3 - nI (n1 / 16 * 16 / 16) / 3 / 1561 * 1561) - 720))) ++ (wX0 cI2 cZ2 h2 a2 (uB (nI (n1 / 16 * 16 / 16) - nI (n1 / 16 * 16 / 16) / 3 * 3) ((nI (n1 / 16 * 16 / 16) / 3 - nI (n1 / 16 * 16 / 16) / 3 / 1561 * 1561) - 720))))) rfl ?_
    refine z_if_eq 145 dL_law_124 (by decide) (fun c => absurd c (by decide)) (fun _ => ?_)
    refine z_iload 1 dL_law_127 rfl ?_
    refine z_iconst (v := 4) dL_law_129 rfl ?_
    refine z_irem dL_law_130 (by decide) ?_
    refine z_if_gt 141 dL_law_131 (by decide) (fun c => absurd c (by decide)) (fun _ => ?_)
    refine z_aload_n 4 dL_law_134 rfl ?_
    refine z_callSi_fr (As := [.ref h2]) (st := []) (wX0 cI cZ h a (uB (nI (n1 / 16 * 16 / 16) - nI (n1 / 16 * 16 / 16) / 3 * 3) ((nI (n1 / 16 * 16 / 16) / 3 - nI (n1 / 16 * 16 / 16) / 3 / 1561 * 1561) - 720))) [] (fun l hl9 => c_L_holds l (dC, dI) cI2 cZ2 h2 a2 (uB (nI (n1 / 16 * 16 / 16) - nI (n1 / 16 * 16 / 16) / 3 * 3) ((nI (n1 / 16 * 16 / 16) / 3 - nI (n1 / 16 * 16 / 16) / 3 / 1561 * 1561) - 720)) (uB_10 _ _) (uB_16 _ _) (uB_18 _ _) (uB_9 _ _) (uB_15 _ _)) zGok_TT (fun _ _ _ => trivial) (fun s args hts => va_cwS 1 hts gL_law_L_holds rfl rfl rfl (by decide +kernel) ⟨Nat.le_of_ble_eq_true rfl, Nat.le_of_ble_eq_true rfl⟩) [2, 3] rfl rfl rfl (Nat.le_of_ble_eq_true rfl) ⟨Nat.le_of_ble_eq_true rfl, Nat.le_of_ble_eq_true rfl⟩ dL_law_135 rfl (fun r _ hp => ?_)
    subst hp
    refine z_eqc (cells' := 92) (slots' := 1742) (by decide) (by decide) ?_
    refine z_eqw (w' := ((wX0 cI cZ h a (uB (nI (n1 / 16 * 16 / 16) - nI (n1 / 16 * 16 / 16) / 3 * 3) ((nI (n1 / 16 * 16 / 16) / 3 - nI (n1 / 16 * 16 / 16) / 3 / 1561 * 1561) - 720))) ++ (wX0 cI2 cZ2 h2 a2 (uB (nI (n1 / 16 * 16 / 16) - nI (n1 / 16 * 16 / 16) / 3 * 3) ((nI (n1 / 16 * 16 / 16) / 3 - nI (n1 / 16 * 16 / 16) / 3 / 1561 * 1561) - 720))))) rfl ?_
    refine z_if_eq 145 dL_law_138 (by decide) (fun c => absurd c (by decide)) (fun _ => ?_)
    refine z_iconst (v := 1) dL_law_141 rfl ?_
    refine z_goto 146 dL_law_142 (by decide) ?_
    refine z_istore (L' := [(4, .int 1), (6, .int (nI (n1 / 16 * 16))), (5, .int 0), (3, .int (nI (12 + n0 % 29))), (2, .ref h2), (1, .ref h), (0, .ref b)]) dL_law_146 (by decide) rfl ?_
    refine z_iinc (v := 1) (L' := [(5, .int 1), (4, .int 1), (6, .int (nI (n1 / 16 * 16))), (3, .int (nI (12 + n0 % 29))), (2, .ref h2), (1, .ref h), (0, .ref b)]) 2 dL_law_148 rfl rfl (by decide) rfl ?_
    refine z_goto 34 dL_law_151 (by decide) ?_
    refine z_iload 0 dL_law_34 rfl ?_
    refine z_iload_n 3 dL_law_36 rfl ?_
    refine z_icmp_ge 154 dL_law_37 (by decide) (fun c => absurd c (nI_ge (a := 1) (by omega) (by omega))) (fun _ => ?_)
    refine z_iload 1 dL_law_40 rfl ?_
    refine z_if_eq 154 dL_law_42 (by decide) (fun c => absurd c (by decide)) (fun _ => ?_)
    refine z_aload_n 6 dL_law_45 rfl ?_
    refine z_iconst (v := 1) dL_law_46 rfl ?_
    refine z_iload 0 dL_law_47 rfl ?_
    refine z_iadd dL_law_49 ?_
    refine z_eqs (st' := [.int (nI 2), .ref b]) rfl ?_
    refine z_callSi_fr (As := [.ref b, .int (nI 2)]) (st := []) [] ((wX0 cI cZ h a (uB (nI (n1 / 16 * 16 / 16) - nI (n1 / 16 * 16 / 16) / 3 * 3) ((nI (n1 / 16 * 16 / 16) / 3 - nI (n1 / 16 * 16 / 16) / 3 / 1561 * 1561) - 720))) ++ (wX0 cI2 cZ2 h2 a2 (uB (nI (n1 / 16 * 16 / 16) - nI (n1 / 16 * 16 / 16) / 3 * 3) ((nI (n1 / 16 * 16 / 16) / 3 - nI (n1 / 16 * 16 / 16) / 3 / 1561 * 1561) - 720)))) (fun l hl9 => c_L_drawn l (dC, dI) _ b L 2 xs (by omega) hL) (zGok_GL b L xs) (fun _ _ q => q) (fun s args hts => va_cwS 2 hts gL_law_L_drawn rfl rfl rfl (by decide +kernel) ⟨Nat.le_of_ble_eq_true rfl, Nat.le_of_ble_eq_true rfl⟩) [0, 1, 2, 3] rfl rfl rfl (Nat.le_of_ble_eq_true rfl) ⟨Nat.le_of_ble_eq_true rfl, Nat.le_of_ble_eq_true rfl⟩ dL_law_50 rfl (fun r _ hp => ?_)
    obtain ⟨n2, hn2, rfl⟩ := hp
    refine z_eqc (cells' := 92) (slots' := 1742) (by decide) (by decide) ?_
    refine z_eqw (w' := ((wX0 cI cZ h a (uB (nI (n1 / 16 * 16 / 16) - nI (n1 / 16 * 16 / 16) / 3 * 3) ((nI (n1 / 16 * 16 / 16) / 3 - nI (n1 / 16 * 16 / 16) / 3 / 1561 * 1561) - 720))) ++ (wX0 cI2 cZ2 h2 a2 (uB (nI (n1 / 16 * 16 / 16) - nI (n1 / 16 * 16 / 16) / 3 * 3) ((nI (n1 / 16 * 16 / 16) / 3 - nI (n1 / 16 * 16 / 16) / 3 / 1561 * 1561) - 720))))) rfl ?_
    refine z_istore (L' := [(6, .int (nI n2)), (5, .int 1), (4, .int 1), (3, .int (nI (12 + n0 % 29))), (2, .ref h2), (1, .ref h), (0, .ref b)]) dL_law_53 (by decide) rfl ?_
    refine z_iload 1 dL_law_55 rfl ?_
    refine z_iconst (v := 2) dL_law_57 rfl ?_
    refine z_icmp_ge 72 dL_law_58 (by decide) (fun c => absurd c (by decide)) (fun _ => ?_)
    refine z_iload 0 dL_law_61 rfl ?_
    refine z_bipush (v := 16) dL_law_63 rfl ?_
    refine z_idiv dL_law_65 (by decide) ?_
    refine z_bipush (v := 16) dL_law_66 rfl ?_
    refine z_imul dL_law_68 ?_
    refine z_eqs (st' := [.int (nI (n2 / 16 * 16))]) (by rw [show nI n2 / 16 = nI (n2 / 16) from pk_div (d := 16) (by omega) (by omega) (by omega), show nI (n2 / 16) * 16 = nI (n2 / 16 * 16) from pk_mul (n2 / 16) 16]) ?_
    refine z_goto 74 dL_law_69 (by decide) ?_
    refine z_istore (L' := [(6, .int (nI (n2 / 16 * 16))), (5, .int 1), (4, .int 1), (3, .int (nI (12 + n0 % 29))), (2, .ref h2), (1, .ref h), (0, .ref b)]) dL_law_74 (by decide) rfl ?_
    refine z_aload_n 4 dL_law_76 rfl ?_
    refine z_iload 0 dL_law_77 rfl ?_
    refine z_sipush (v := 9973) dL_law_79 rfl ?_
    refine z_irem dL_law_82 (by decide) ?_
    refine z_eqs (st' := [.int (nI ((n2 / 16 * 16) % 9973)), .ref h2]) (by rw [show nI (n2 / 16 * 16) - nI (n2 / 16 * 16) / 9973 * 9973 = nI ((n2 / 16 * 16) % 9973) from pk_rem (d := 9973) (by omega) (by omega) (by omega)]) ?_
    refine z_callSi_fr (As := [.ref h2, .int (nI ((n2 / 16 * 16) % 9973))]) (st := []) (wX0 cI cZ h a (uB (nI (n1 / 16 * 16 / 16) - nI (n1 / 16 * 16 / 16) / 3 * 3) ((nI (n1 / 16 * 16 / 16) / 3 - nI (n1 / 16 * 16 / 16) / 3 / 1561 * 1561) - 720))) [] (fun l hl9 => c_L_refuses_1 l (by rw [hl9]; exact hlt) (dC, dI) cI2 cZ2 h2 a2 (uB (nI (n1 / 16 * 16 / 16) - nI (n1 / 16 * 16 / 16) / 3 * 3) ((nI (n1 / 16 * 16 / 16) / 3 - nI (n1 / 16 * 16 / 16) / 3 / 1561 * 1561) - 720)) ((n2 / 16 * 16) % 9973) (by omega) (uB_10 _ _) (uB_16 _ _) (fun i hi => Or.inl (uB_15 _ _ i hi))) zGok_U (fun _ _ q => q.1) (fun s args hts => va_cwS 2 hts gL_law_L_refuses rfl rfl rfl (by decide +kernel) ⟨Nat.le_of_ble_eq_true rfl, Nat.le_of_ble_eq_true rfl⟩) [2, 3] rfl rfl rfl (Nat.le_of_ble_eq_true rfl) ⟨Nat.le_of_ble_eq_true rfl, Nat.le_of_ble_eq_true rfl⟩ dL_law_83 rfl (fun r _ hp => ?_)
    subst hp
    refine z_eqc (cells' := 127) (slots' := 1952) (by decide) (by decide) ?_
    refine z_eqw (w' := ((wX0 cI cZ h a (uB (nI (n1 / 16 * 16 / 16) - nI (n1 / 16 * 16 / 16) / 3 * 3) ((nI (n1 / 16 * 16 / 16) / 3 - nI (n1 / 16 * 16 / 16) / 3 / 1561 * 1561) - 720))) ++ (wX0 cI2 cZ2 h2 a2 (uB (nI (n1 / 16 * 16 / 16) - nI (n1 / 16 * 16 / 16) / 3 * 3) ((nI (n1 / 16 * 16 / 16) / 3 - nI (n1 / 16 * 16 / 16) / 3 / 1561 * 1561) - 720))))) rfl ?_
    exact z_stop (fun t ht => Nat.le_trans (Nat.add_le_add_left (Nat.le_of_ble_eq_true rfl) _) ht)
  exact main hx hb hml hown (fun w h => hts w (wsL_law_in w h)) (fun q h => h) ⟨hU, hX, hbl, Nat.not_le.mpr hbl⟩ ⟨hKc, fun k q h => by simp at h⟩ s.heap [] _ (fun k q h => by simp at h) ⟨fun i j p q h => by simp at h, fun k q h => by simp at h⟩ (zx_rf (fun q h => h)) hl
