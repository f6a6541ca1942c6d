theorem zNot {args : Array Value} {s : State} {c : Cond} (h : (Cond.not c).before args s = true) : (Cond.not c).before args s = true := h
theorem zStr_of {args : Array Value} {s : State} {k : Nat} {tx : String} (h1 : (Cond.stringRef RX0 k tx).before args s = true) (h2 : (Cond.exactly (.string RX0 k) "java/lang/String").before args s = true) : ∃ sa, vk_R RX0 k tx sa s := by
  obtain ⟨a, c, cA, kA, q1, -⟩ := Cond.exactly_spec (args := args) (first := s) (o := none) (s := s) (idx := []) (t := .string RX0 k) (cls := "java/lang/String") h2
  exact ⟨a, vk_R.of h1 q1⟩
/-- at the law's entry: what a throw needs -/
theorem zU_start {p : Program} {s : State} {m : MethodId} {meth : Method} {c : Code} {b L : Nat} {xs : Nat → Int32} (C0 : lw_At p s m meth c b L xs) : zU s (fun q => s.heap.size ≤ q) := by
  obtain ⟨hx, hb, hr, hml, hown, hts, hX, hbl, hlocks, hgv⟩ := C0
  have hs := flat_of_before _ hgv
  have hA : ∀ a : Nat, a < s.heap.size → ¬ (s.heap.size ≤ a) := fun a h => Nat.not_le.mpr h
  have hini := hts (.initialized Bundle.tN) (by decide +kernel)
  refine ⟨⟨vx_Zqof (hts (.laysStatic Bundle.tN "UNASSIGNED_STACK" Bundle.steD) (by decide +kernel)) hini (hs (.isRef (.static Bundle.tN "UNASSIGNED_STACK" Bundle.steD)) (by decide +kernel)) hA, vx_Zqof (hts (.laysStatic Bundle.tN "SUPPRESSED_SENTINEL" Bundle.listD) (by decide +kernel)) hini (hs (.isRef (.static Bundle.tN "SUPPRESSED_SENTINEL" Bundle.listD)) (by decide +kernel)) hA⟩, ?_, ?_, ?_, ?_⟩
  · intro q hq
    simp only [zStr, List.mem_cons, List.not_mem_nil, or_false] at hq
    rcases hq with rfl | rfl | rfl | rfl | rfl | rfl | rfl | rfl
    · exact zStr_of (hts (.stringRef RX0 75 "there are 16 devices") (by decide +kernel)) (hs (.exactly (.string RX0 75) "java/lang/String") (by decide +kernel))
    · exact zStr_of (hts (.stringRef RX0 100 "the token is dead") (by decide +kernel)) (hs (.exactly (.string RX0 100) "java/lang/String") (by decide +kernel))
    · exact zStr_of (hts (.stringRef RX0 130 "it was not delivered there, or does not stand any more") (by decide +kernel)) (hs (.exactly (.string RX0 130) "java/lang/String") (by decide +kernel))
    · exact zStr_of (hts (.stringRef RX0 151 "the clock would be above 100000") (by decide +kernel)) (hs (.exactly (.string RX0 151) "java/lang/String") (by decide +kernel))
    · exact zStr_of (hts (.stringRef RX0 163 "an argument is out of range") (by decide +kernel)) (hs (.exactly (.string RX0 163) "java/lang/String") (by decide +kernel))
    · exact zStr_of (hts (.stringRef RX0 168 "there is no such device") (by decide +kernel)) (hs (.exactly (.string RX0 168) "java/lang/String") (by decide +kernel))
    · exact zStr_of (hts (.stringRef RX0 171 "there is no such notice") (by decide +kernel)) (hs (.exactly (.string RX0 171) "java/lang/String") (by decide +kernel))
    · exact zStr_of (hts (.stringRef RX0 173 "120 notices have been sent") (by decide +kernel)) (hs (.exactly (.string RX0 173) "java/lang/String") (by decide +kernel))
  · intro x hx
    simp only [zCast, List.mem_cons, List.not_mem_nil, or_false] at hx
    rcases hx with rfl | rfl | rfl
    · exact va_Nw.of rfl (hts (.castable zIAE zIAE) (by decide +kernel))
    · exact va_Nw.of rfl (hts (.castable zISE zISE) (by decide +kernel))
    · exact va_Nw.of rfl (hts (.castable zIOB zIOB) (by decide +kernel))
  · intro x hx
    simp only [zDecl, List.mem_cons, List.not_mem_nil, or_false] at hx
    rcases hx with rfl | rfl | rfl
    · exact va_Nw.of rfl (hts (.declares (Bundle.initS "java/lang/RuntimeException")) (by decide +kernel))
    · exact va_Nw.of rfl (hts (.declares (Bundle.initS "java/lang/Exception")) (by decide +kernel))
    · exact va_Nw.of rfl (hts (.declares (Bundle.initS "java/lang/Throwable")) (by decide +kernel))
  · intro q hq
    simp only [zNcs, List.mem_cons, List.not_mem_nil, or_false] at hq
    rcases hq with rfl | rfl | rfl | rfl | rfl | rfl
    · exact va_Nc.of (hs (.not (.castable zISE zIAE)) (by decide +kernel))
    · exact va_Nc.of (hs (.not (.castable zIAE zISE)) (by decide +kernel))
    · exact va_Nc.of (hs (.not (.castable zIAE zIOB)) (by decide +kernel))
    · exact va_Nc.of (hs (.not (.castable zISE zIOB)) (by decide +kernel))
    · exact va_Nc.of (hs (.not (.castable zIOB zIAE)) (by decide +kernel))
    · exact va_Nc.of (hs (.not (.castable zIOB zISE)) (by decide +kernel))
