theorem lw_pre_spec {args : Array Value} {s : State} (h : (Jvm.Cond.and given_1 narrow_1).before args s = true) (hr : rest_1_c.before args s = true) : ∃ (b : Addr) (xs : List Int32), lw_P b xs args s := by
  have hs := flat_of_before _ h
  have hq := flat_of_before _ hr
  have hc : (Cond.count 1).before args s = true := hs _ (by decide +kernel)
  have harr : (Cond.arrayOf (.arg 0) .int).before args s = true := hs _ (by decide +kernel)
  have hle : (Cond.le (.length (.arg 0)) (.int 260)).before args s = true := hs _ (by decide +kernel)
  have hlen : (Cond.isInt (.length (.arg 0))).before args s = true := hq _ (by decide +kernel)
  have hall : (Cond.all (.arg 0) (.isInt (.elem (.arg 0) (.index 0)))).before args s = true := hq _ (by decide +kernel)
  obtain ⟨b, xs, hb, hx⟩ := State.ints_of_pre rfl harr hlen hall
  have hsm : xs.length < 2 ^ 31 := hx.choose_spec.2.2.2
  have hev : (Term.length (.arg 0)).eval args s none [] s = some (.int xs.length.toInt32) := hx.length_eval hb
  have hv := Cond.le_ints hev (show (Term.int 260).eval args s none [] s = some (.int 260) from rfl)
  have hd : xs.length.toInt32 ≤ 260 := by
    simpa [Cond.before, Cond.holds, hv] using hle
  have hN : xs.length ≤ 260 := (Int32.ofNat_le_ofNat hsm (by decide)).mp (show Int32.ofNat xs.length ≤ Int32.ofNat 260 from hd)
  exact ⟨b, xs, Cond.one_arg hc (show args[0]? = some (.ref b) from hb), hx, hN, h⟩
/-- how far a method's body comes, read from its invocation -/
theorem reach_of {l : Launch} {x : MethodName} {S : Spec} {code : ByteArray} {maxLocals : Nat} {ret : Option FieldType} {p : Program} {e : Env} {s : State} {m : MethodId} {args : Array Value} {below : List Frame} {Q : State → Prop}
    (hx : plainFor x = true)
    (his : ∀ args (s : State) m, S.pre.before args s = true → s.methodNamed? x = some m → ∃ meth c, s.vm.method? m = some meth ∧ meth.code = some c ∧ c.code = code ∧ c.maxLocals = maxLocals ∧ meth.sig.returnType = ret ∧ meth.locks = false)
    (ha : l.admits e) (hc : FairCas e.choices) (hk : FairClock e.choices) (hf : s.frames = .invoking m args :: below) (happ : S.appliesLoose x e.platform s = true)
    (body : ∀ meth c s₁, BodyLoose p l x S code maxLocals ret e s m args below meth c s₁ → c.maxLocals = maxLocals → ∃ s₂, Steps p.tables e below (s₁.setTop (entryFrame m args maxLocals)) s₂ ∧ Q s₂) :
    ∃ n, (∀ k, k < n → Within (stepsAlone p.tables e k s) below) ∧ Q (stepsAlone p.tables e n s) := by
  obtain ⟨hrun, hable, halone, hname, hhears, hinit, hroom, hpre⟩ := (Spec.appliesLoose_iff hf).mp happ
  obtain ⟨meth, c, hmeth, hcode, hbytes, hlocals, hret, hlocks⟩ := his args s m hpre hname
  have hcur := State.cur_lt_of_frames hf
  have hf1 : (s.setFrames (.java (entryFrame m args maxLocals) :: below)).frames = .java (entryFrame m args maxLocals) :: below := State.frames_setFrames _ hcur
  have ht1 := State.topJava?_of_frames hf1
  have hplain : (s.setFrames (.java (entryFrame m args maxLocals) :: below)).plainMethod m := State.plainMethod.of_named (s := s) hx hname hmeth
  have hAt : At (s.setFrames (.java (entryFrame m args maxLocals) :: below)) m c below :=
    ⟨by rw [ht1]; rfl, ⟨[], by rw [hf1]; rfl⟩, hrun, by simpa using hable, by simpa using halone,
      by rw [State.code?_eq]; simp [State.setFrames, hmeth, hcode], hplain⟩
  have hstep : (stepThread p.tables e s).1 = (s.setFrames (.java (entryFrame m args maxLocals) :: below)).setTop (entryFrame m args maxLocals) := by
    have hfull : e.platform.stackFull (s.setFrames below).me (s.setFrames below).frames c.maxLocals = false := by
      obtain ⟨-, h1, -, h2⟩ := State.hasRoom_stack hroom
      rw [hf, List.length_cons] at h1
      rw [State.localsInUse_invoking hf hmeth hcode] at h2
      have hw := stackUse_le_stackWeight below
      rw [State.frames_setFrames _ hcur]
      simp only [vmFrameWords] at h2
      exact Platform.stackFull_eq_false (by rw [State.stackLimits_setFrames]; omega) (by rw [State.stackLimits_setFrames]; omega)
    rw [stepThread_invoking hf, (doInvoke_java (s := s.setFrames below) (e := e) (meth := meth) (code := c) hmeth hcode hlocks hfull).1, State.setTop_self ht1]
    simp only [State.pushFrame, State.frames_setFrames _ hcur, State.setFrames_setFrames, hlocals, entryFrame]
  obtain ⟨s₂, hs, hp⟩ := body meth c _ ⟨ha, hc, hk, by cases p <;> rfl, hf, hname, hhears, hinit, hroom, hpre, hmeth, hret, hlocks, hbytes, rfl, hAt⟩ hlocals
  obtain ⟨n, hn, hw⟩ := Steps.head (tb := p.tables) (e := e) ⟨hrun, hable, halone⟩ ⟨[.invoking m args], hf, by simp, by simp⟩ (hstep ▸ hs)
  exact ⟨n, hw, hn ▸ hp⟩
/-- the same machine with more room for cells -/
def e9 (e : Env) : Env := { e with platform := { e.platform with maxCells := e.platform.maxCells + 5000, maxSlots := e.platform.maxSlots + 60000 } }
theorem e9_admits {l : Launch} {e : Env} (ha : l.admits e) : l.admits (e9 e) := by
  obtain ⟨a1, a2, a3, a4, a5, a6, a7, a8, a9, a10, a11, a12, a13, a14, a15, a16, a17⟩ := ha
  refine ⟨a1, a2, a3, a4, ?_, a6, Nat.le_trans a7 (Nat.le_add_right _ _), Nat.le_trans a8 (Nat.le_add_right _ _), a9, a10, a11, a12, a13, a14, a15, a16, a17⟩
  exact congrArg (fun P : Platform => { P with maxCells := P.maxCells + 5000, maxSlots := P.maxSlots + 60000 }) a5
theorem e9_room {e : Env} {s : State} {r r' : Room} (h : s.hasRoom e.platform r = true) (h1 : r'.frames ≤ r.frames) (h2 : r'.locals ≤ r.locals) (h3 : r'.cells ≤ r.cells + 5000) (h4 : r'.slots ≤ r.slots + 60000) : s.hasRoom (e9 e).platform r' = true := by
  have hl : (e9 e).platform.stackLimits s.me = e.platform.stackLimits s.me := rfl
  have hf : (e9 e).platform.maxFrames = e.platform.maxFrames := rfl
  have hs : (e9 e).platform.maxStackSlots = e.platform.maxStackSlots := rfl
  have hc : (e9 e).platform.maxCells = e.platform.maxCells + 5000 := rfl
  have ho : (e9 e).platform.maxSlots = e.platform.maxSlots + 60000 := rfl
  simp only [State.hasRoom, Bool.and_eq_true, decide_eq_true_eq] at h ⊢
  obtain ⟨⟨⟨⟨q1, q2, q3, q4, q5, q6⟩, q7⟩, q8⟩, q9⟩ := h
  rw [hl, hf, hs, hc, ho]
  exact ⟨⟨⟨⟨by omega, by omega, by omega, by omega, by omega, q6⟩, by omega⟩, by omega⟩, q9⟩
/-- THE STATEMENT IS FALSE AS PRINTED: from the witness's start, on a machine with room enough, the law comes to its 127th new cell and is still under way: so it can't end with at most 120 -/
theorem refuted (hw : WitnessClaimed_1) : ¬ Claimed_1_1 := by
  intro hcl
  obtain ⟨p, e, s, m, args, below, hlists, hworld, ha, hleast, hc, hk, hf, hfit, hheap, happ, hcalls, hrest, hpre⟩ := hw
  obtain ⟨g1, g2, g3, g4, g5, g6, g7, g8⟩ := (Spec.applies_iff hf).mp happ
  have ha9 := e9_admits ha
  have happ1 : (headSpec (Jvm.Cond.code x code maxLocals ret :: tables_1) room_1).applies x (e9 e).platform s = true :=
    (Spec.applies_iff hf).mpr ⟨g1, g2, g3, g4, g5, g6, e9_room g7 (Nat.le_refl _) (Nat.le_refl _) (Nat.le_add_right _ _) (Nat.le_add_right _ _), g8⟩
  have happ9 : (headSpec (Jvm.Cond.code x code maxLocals ret :: tables_1) R9).applies x (e9 e).platform s = true :=
    (Spec.applies_iff hf).mpr ⟨g1, g2, g3, g4, g5, g6, e9_room g7 (Nat.le_refl _) (Nat.le_refl _) (Nat.le_of_ble_eq_true rfl) (Nat.le_of_ble_eq_true rfl), g8⟩
  obtain ⟨n, o, h1, h2, h3, h4, h5⟩ := hcl launch0 rfl hlists hworld p (e9 e) ha9 hc hk s m args below hf hfit hheap happ1 ⟨hcalls, hrest, hpre⟩
  obtain ⟨-, -, -, -, h6, -⟩ := h5
  obtain ⟨b, xs, hP⟩ := lw_pre_spec hpre hrest
  obtain ⟨k, w1, w2⟩ := reach_of (p := p) (e := e9 e) (s := s) (m := m) (args := args) (below := below) (S := headSpec (Jvm.Cond.code x code maxLocals ret :: tables_1) R9) (code := code) (maxLocals := maxLocals) (ret := ret) (l := launch0) (x := x) (Q := fun t => s.heap.size + 121 ≤ t.heap.size) (plainFor_of_name (by decide)) (fun args s m h hn => by
      obtain ⟨meth, c, h1, h2, h3, h4, h5, h6, -, -⟩ := Cond.code_spec hn (atoms_spec (ws := Jvm.Cond.code x code maxLocals ret :: tables_1) h _ List.mem_cons_self)
      exact ⟨meth, c, h1, h2, h3, h4, h5, h6⟩) ha9 hc hk hf ((Spec.applies_iff_loose hf).mp happ9).1 (fun meth c s₁ B hml0 => by
      obtain ⟨rfl, hx, hbd, hgv⟩ := hP
      obtain ⟨scr, harrAt, hlist, hof, hsmall⟩ := hx
      obtain ⟨hcb, hkn, -, -⟩ := State.arrayAt?_spec harrAt
      have hown : s.vm.findClass R_law = some m.cls := findClass_of_methodNamed B.named
      have hts0 : ∀ c ∈ (Jvm.Cond.code x code maxLocals ret :: tables_1), c.before #[Value.ref b] s = true := atoms_spec (ws := Jvm.Cond.code x code maxLocals ret :: tables_1) B.pre
      have hts : ∀ w ∈ lw_tbl, w.before #[Value.ref b] s = true := k2_hts_sels lw_privs (fun w hw => hts0 w (List.mem_cons_of_mem _ hw)) lw_privs_ok
      have hml : c.maxLocals = 7 := B.maxLocals_eq (hts0 _ List.mem_cons_self)
      have X₀ : Stand p launch0 (e9 e) R9 s m #[Value.ref b] below meth c s₁ [] 0 0 := Stand.of_body B
      have hh0 : s₁.heap = s.heap := by rw [B.state]; rfl
      have hsz : scr.slots.size = xs.length := by rw [← Array.length_toList, hlist, List.length_map]
      have hval : ∀ j : Nat, j < xs.length → scr.slots[j]? = some (.int (xs.getD j 0)) := fun j hj => by
        rw [← Array.getElem?_toList, hlist]
        simp [hj]
      have hbl : b < s.heap.size := (Array.getElem?_eq_some_iff.mp hcb).1
      have hX : va_X b xs.length (fun j => xs.getD j 0) s s.heap := ⟨scr, hcb, hof, hkn, hsz, hval⟩
      have K : W p launch0 (e9 e) R9 s m #[Value.ref b] below meth c s₁.heap [] 0 0 (fun t => s.heap.size + 121 ≤ t.heap.size) (entryFrame m ([Value.ref b] : List Value).toArray 7) := by
        rw [hh0]
        exact walk9 launch0 rfl hbd ⟨B.exec, B.bytes, B.returns, hml, hown, hts, hX, hbl, B.notSynchronized, hgv⟩
      obtain ⟨t, a1, b1⟩ := K s₁ rfl X₀
      exact ⟨t, a1, b1⟩)
  have h7 : (stepsAlone p.tables (e9 e) n s).heap.size ≤ s.heap.size + 120 := h6
  rcases Nat.lt_or_ge n k with z | z
  · exact h3.not_within (w1 n z)
  · obtain ⟨d, rfl⟩ : ∃ d, n = k + d := ⟨n - k, by omega⟩
    have z2 := (stepsAlone_heap_grows_add p.tables (e9 e) k d s).1
    have w3 : s.heap.size + 121 ≤ (stepsAlone p.tables (e9 e) k s).heap.size := w2
    omega
theorem refuted_both (hw : WitnessClaimed_1) : ¬ (Claimed_1_1 ∧ Claimed_1_2) := fun h => refuted hw h.1
