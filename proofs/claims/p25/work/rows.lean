section
-- ===== PART A: goes FIRST, ahead of the names: the tables' words, and 'selects' of the private methods out of them =====
/-- a private method of a class that the tables say can be made, by its rows of tables_1 -/
def lw_okq (q : MethodName × Nat) : Prop := (q.1.cls ≠ "java/lang/invoke/MethodHandle" ∧ q.1.cls ≠ "java/lang/invoke/VarHandle") ∧ Cond.instantiable q.1.cls q.2 ∈ tables_1 ∧ Cond.privateMethod q.1 ∈ tables_1 ∧ Cond.instanceMethod q.1 ∈ tables_1
theorem lw_p0 : lw_okq (⟨"java/lang/Throwable", "fillInStackTrace", "(I)Ljava/lang/Throwable;"⟩, 6) := ⟨⟨by decide +kernel, by decide +kernel⟩, List.mem_of_getElem? (i := 145) (by decide +kernel), List.mem_of_getElem? (i := 143) (by decide +kernel), List.mem_of_getElem? (i := 144) (by decide +kernel)⟩
theorem lw_p1 : lw_okq (⟨"PushNotices", "requireDevice", "(I)V"⟩, 19) := ⟨⟨by decide +kernel, by decide +kernel⟩, List.mem_of_getElem? (i := 11) (by decide +kernel), List.mem_of_getElem? (i := 204) (by decide +kernel), List.mem_of_getElem? (i := 205) (by decide +kernel)⟩
theorem lw_p2 : lw_okq (⟨"PushNotices", "deliverNow", "()I"⟩, 19) := ⟨⟨by decide +kernel, by decide +kernel⟩, List.mem_of_getElem? (i := 11) (by decide +kernel), List.mem_of_getElem? (i := 227) (by decide +kernel), List.mem_of_getElem? (i := 228) (by decide +kernel)⟩
theorem lw_p3 : lw_okq (⟨"PushNotices", "openToNormal", "()I"⟩, 19) := ⟨⟨by decide +kernel, by decide +kernel⟩, List.mem_of_getElem? (i := 11) (by decide +kernel), List.mem_of_getElem? (i := 231) (by decide +kernel), List.mem_of_getElem? (i := 232) (by decide +kernel)⟩
theorem lw_p4 : lw_okq (⟨"PushNotices", "isInQuietHours", "(I)Z"⟩, 19) := ⟨⟨by decide +kernel, by decide +kernel⟩, List.mem_of_getElem? (i := 11) (by decide +kernel), List.mem_of_getElem? (i := 235) (by decide +kernel), List.mem_of_getElem? (i := 236) (by decide +kernel)⟩
theorem lw_p5 : lw_okq (⟨"PushNotices", "localTime", "(I)I"⟩, 19) := ⟨⟨by decide +kernel, by decide +kernel⟩, List.mem_of_getElem? (i := 11) (by decide +kernel), List.mem_of_getElem? (i := 239) (by decide +kernel), List.mem_of_getElem? (i := 240) (by decide +kernel)⟩
theorem lw_p6 : lw_okq (⟨"PushNotices", "waitsNow", "(I)I"⟩, 19) := ⟨⟨by decide +kernel, by decide +kernel⟩, List.mem_of_getElem? (i := 11) (by decide +kernel), List.mem_of_getElem? (i := 246) (by decide +kernel), List.mem_of_getElem? (i := 247) (by decide +kernel)⟩
theorem lw_p7 : lw_okq (⟨"PushNotices", "isStanding", "(I)Z"⟩, 19) := ⟨⟨by decide +kernel, by decide +kernel⟩, List.mem_of_getElem? (i := 11) (by decide +kernel), List.mem_of_getElem? (i := 250) (by decide +kernel), List.mem_of_getElem? (i := 251) (by decide +kernel)⟩
theorem lw_p8 : lw_okq (⟨"PushNotices", "openToHigh", "()I"⟩, 19) := ⟨⟨by decide +kernel, by decide +kernel⟩, List.mem_of_getElem? (i := 11) (by decide +kernel), List.mem_of_getElem? (i := 254) (by decide +kernel), List.mem_of_getElem? (i := 255) (by decide +kernel)⟩
theorem lw_p9 : lw_okq (⟨"PushNotices", "spentToday", "(I)I"⟩, 19) := ⟨⟨by decide +kernel, by decide +kernel⟩, List.mem_of_getElem? (i := 11) (by decide +kernel), List.mem_of_getElem? (i := 261) (by decide +kernel), List.mem_of_getElem? (i := 262) (by decide +kernel)⟩
theorem lw_p10 : lw_okq (⟨"PushNotices", "deliver", "(II)V"⟩, 19) := ⟨⟨by decide +kernel, by decide +kernel⟩, List.mem_of_getElem? (i := 11) (by decide +kernel), List.mem_of_getElem? (i := 265) (by decide +kernel), List.mem_of_getElem? (i := 266) (by decide +kernel)⟩
theorem lw_p11 : lw_okq (⟨"PushNotices", "spendQuota", "(I)V"⟩, 19) := ⟨⟨by decide +kernel, by decide +kernel⟩, List.mem_of_getElem? (i := 11) (by decide +kernel), List.mem_of_getElem? (i := 275) (by decide +kernel), List.mem_of_getElem? (i := 276) (by decide +kernel)⟩
theorem lw_p12 : lw_okq (⟨"PushNotices", "countWaiting", "(I)I"⟩, 19) := ⟨⟨by decide +kernel, by decide +kernel⟩, List.mem_of_getElem? (i := 11) (by decide +kernel), List.mem_of_getElem? (i := 309) (by decide +kernel), List.mem_of_getElem? (i := 310) (by decide +kernel)⟩
theorem lw_p13 : lw_okq (⟨"PushNotices", "requireRoomForNotice", "()V"⟩, 19) := ⟨⟨by decide +kernel, by decide +kernel⟩, List.mem_of_getElem? (i := 11) (by decide +kernel), List.mem_of_getElem? (i := 327) (by decide +kernel), List.mem_of_getElem? (i := 328) (by decide +kernel)⟩
theorem lw_p14 : lw_okq (⟨"PushNotices", "replaceKey", "(II)V"⟩, 19) := ⟨⟨by decide +kernel, by decide +kernel⟩, List.mem_of_getElem? (i := 11) (by decide +kernel), List.mem_of_getElem? (i := 332) (by decide +kernel), List.mem_of_getElem? (i := 333) (by decide +kernel)⟩
theorem lw_p15 : lw_okq (⟨"PushNotices", "withdraw", "(I)V"⟩, 19) := ⟨⟨by decide +kernel, by decide +kernel⟩, List.mem_of_getElem? (i := 11) (by decide +kernel), List.mem_of_getElem? (i := 339) (by decide +kernel), List.mem_of_getElem? (i := 340) (by decide +kernel)⟩
def lw_privs_1 : List (MethodName × Nat) := [(⟨"java/lang/Throwable", "fillInStackTrace", "(I)Ljava/lang/Throwable;"⟩, 6), (⟨"PushNotices", "requireDevice", "(I)V"⟩, 19), (⟨"PushNotices", "deliverNow", "()I"⟩, 19), (⟨"PushNotices", "openToNormal", "()I"⟩, 19), (⟨"PushNotices", "isInQuietHours", "(I)Z"⟩, 19), (⟨"PushNotices", "localTime", "(I)I"⟩, 19), (⟨"PushNotices", "waitsNow", "(I)I"⟩, 19), (⟨"PushNotices", "isStanding", "(I)Z"⟩, 19), (⟨"PushNotices", "openToHigh", "()I"⟩, 19), (⟨"PushNotices", "spentToday", "(I)I"⟩, 19), (⟨"PushNotices", "deliver", "(II)V"⟩, 19), (⟨"PushNotices", "spendQuota", "(I)V"⟩, 19), (⟨"PushNotices", "countWaiting", "(I)I"⟩, 19), (⟨"PushNotices", "requireRoomForNotice", "()V"⟩, 19), (⟨"PushNotices", "replaceKey", "(II)V"⟩, 19), (⟨"PushNotices", "withdraw", "(I)V"⟩, 19)]
theorem lw_r1 : ∀ q ∈ lw_privs_1, lw_okq q := List.forall_mem_cons.mpr ⟨lw_p0, List.forall_mem_cons.mpr ⟨lw_p1, List.forall_mem_cons.mpr ⟨lw_p2, List.forall_mem_cons.mpr ⟨lw_p3, List.forall_mem_cons.mpr ⟨lw_p4, List.forall_mem_cons.mpr ⟨lw_p5, List.forall_mem_cons.mpr ⟨lw_p6, List.forall_mem_cons.mpr ⟨lw_p7, List.forall_mem_cons.mpr ⟨lw_p8, List.forall_mem_cons.mpr ⟨lw_p9, List.forall_mem_cons.mpr ⟨lw_p10, List.forall_mem_cons.mpr ⟨lw_p11, List.forall_mem_cons.mpr ⟨lw_p12, List.forall_mem_cons.mpr ⟨lw_p13, List.forall_mem_cons.mpr ⟨lw_p14, List.forall_mem_cons.mpr ⟨lw_p15, fun _ h => absurd h List.not_mem_nil⟩⟩⟩⟩⟩⟩⟩⟩⟩⟩⟩⟩⟩⟩⟩⟩
theorem lw_p16 : lw_okq (⟨"PushNotices", "sendTo", "(IZI)I"⟩, 19) := ⟨⟨by decide +kernel, by decide +kernel⟩, List.mem_of_getElem? (i := 11) (by decide +kernel), List.mem_of_getElem? (i := 343) (by decide +kernel), List.mem_of_getElem? (i := 344) (by decide +kernel)⟩
theorem lw_p17 : lw_okq (⟨"PushNotices", "devicesThatFulfil", "(III)I"⟩, 19) := ⟨⟨by decide +kernel, by decide +kernel⟩, List.mem_of_getElem? (i := 11) (by decide +kernel), List.mem_of_getElem? (i := 354) (by decide +kernel), List.mem_of_getElem? (i := 355) (by decide +kernel)⟩
theorem lw_p18 : lw_okq (⟨"PushNotices", "requireNotice", "(I)V"⟩, 19) := ⟨⟨by decide +kernel, by decide +kernel⟩, List.mem_of_getElem? (i := 11) (by decide +kernel), List.mem_of_getElem? (i := 365) (by decide +kernel), List.mem_of_getElem? (i := 366) (by decide +kernel)⟩
theorem lw_p19 : lw_okq (⟨"PushNotices", "nextChance", "()I"⟩, 19) := ⟨⟨by decide +kernel, by decide +kernel⟩, List.mem_of_getElem? (i := 11) (by decide +kernel), List.mem_of_getElem? (i := 429) (by decide +kernel), List.mem_of_getElem? (i := 430) (by decide +kernel)⟩
def lw_privs_2 : List (MethodName × Nat) := [(⟨"PushNotices", "sendTo", "(IZI)I"⟩, 19), (⟨"PushNotices", "devicesThatFulfil", "(III)I"⟩, 19), (⟨"PushNotices", "requireNotice", "(I)V"⟩, 19), (⟨"PushNotices", "nextChance", "()I"⟩, 19)]
theorem lw_r2 : ∀ q ∈ lw_privs_2, lw_okq q := List.forall_mem_cons.mpr ⟨lw_p16, List.forall_mem_cons.mpr ⟨lw_p17, List.forall_mem_cons.mpr ⟨lw_p18, List.forall_mem_cons.mpr ⟨lw_p19, fun _ h => absurd h List.not_mem_nil⟩⟩⟩⟩
def lw_privs : List (MethodName × Nat) := lw_privs_1 ++ (lw_privs_2)
def lw_tbl : List Cond := k2_sels lw_privs ++ tables_1
theorem lw_privs_ok : ∀ q ∈ lw_privs, lw_okq q := by
  show ∀ q ∈ lw_privs_1 ++ (lw_privs_2), lw_okq q
  exact List.forall_mem_append.mpr ⟨lw_r1, lw_r2⟩
end
section
/-! ===== BEGIN words of one list among another's, by their places ===== -/
theorem goodIn_r {big : List Cond} (ws : List Cond) (ps : List Nat) (hp : ws = ps.filterMap (fun i => big[i]?)) (h : ws.all goodWord = true) : GoodIn big ws := by
  intro w hw
  have h1 := List.all_eq_true.mp h w hw
  rw [hp] at hw
  obtain ⟨i, -, hi⟩ := List.mem_filterMap.mp hw
  have hm : w ∈ big := by first | exact List.mem_of_getElem? hi | exact List.getElem?_mem hi
  exact ⟨hm, good_of_word h1⟩
theorem goodIn_app {big a b : List Cond} (ha : GoodIn big a) (hb : GoodIn big b) : GoodIn big (a ++ b) := fun w h => (List.mem_append.mp h).elim (ha w) (hb w)
theorem goodIn_ca {big a b : List Cond} {c : Cond} (ha : GoodIn big (c :: a)) (hb : GoodIn big b) : GoodIn big (c :: (a ++ b)) := fun w h => (List.mem_cons.mp h).elim (fun e => ha w (List.mem_cons.mpr (Or.inl e))) (fun h => (List.mem_append.mp h).elim (fun h => ha w (List.mem_cons.mpr (Or.inr h))) (hb w))
theorem goodIn_sub {big ws : List Cond} (hm : ∀ w ∈ ws, w ∈ big) (h : ws.all goodWord = true) : GoodIn big ws := fun w hw => ⟨hm w hw, good_of_word (List.all_eq_true.mp h w hw)⟩
/-! ===== END ===== -/

/-! ===== BEGIN exceptions that leave a method, and their catching by the caller (launches without stack traces) ===== -/
section VXA
/-! The laws vx_back, vx_callV, vx_callS, vx_callSW, vx_throw0, vx_throwS follow proofs of the library, with one case more: JvmDerived/Free/Laws.lean (Back.of_free), Shelf42/LK1.lean (callV, callS), Shelf/KitTraced.lean (throwNew0V, throwNewS). -/
/-- where a method has thrown q: the class by its name, the cell, what was written, the world -/
def vx_T (XC : String → State → State → Prop) (st : State) (q : Addr) (t : State) (mc ms : Nat) (free : Addr → Prop) : Prop :=
  ∃ (E : String) (ce : Cell) (L : List Loc), XC E st t ∧ t.heap[q]? = some ce ∧ ce.vm = .none ∧ st.vm.findClass E = some ce.cls ∧ st.WarmedH t.vm ∧ st.sameButNew ({ t with vm := st.vm } : State) L mc ms ∧ ∀ z ∈ L, free z.base
def vx_Q (Qc : Array Value → State → Outcome → State → Prop) (XC : String → State → State → Prop) (mc ms : Nat) (free : Addr → Prop) : Array Value → State → Outcome → State → Prop := fun a st o t =>
  (Qc a st o t ∧ ∃ L, FrameEnd st o t L mc ms ∧ ∀ q ∈ L, free q.base) ∨ ∃ q, o = .threw q ∧ vx_T XC st q t mc ms free
/-- a callee that returns or throws -/
def vx_Met (l : Launch) (y : MethodName) (ws : List Cond) (rm : Room) (Pc : Array Value → State → Prop) (Qc : Array Value → State → Outcome → State → Prop) (XC : String → State → State → Prop) (mc ms : Nat) (free : Addr → Prop) : Prop :=
  MetFree l y (headSpec ws rm) Pc (fun _ _ _ _ _ => True) (vx_Q Qc XC mc ms free)
def vx_Post (XC : String → State → State → Prop) (mc ms : Nat) (free : Addr → Prop) : Pt → Array Value → Addr → Pt → Prop := fun A a q B =>
  ∃ (g : JFrame) (mk : MethodId) (t : State) (L : List Loc) (E : String) (ce : Cell), B.U.heap = t.heap ∧ B.U.vm = t.vm ∧ XC E (A.U.calling g mk a) t ∧ t.heap[q]? = some ce ∧ ce.vm = .none ∧ A.U.vm.findClass E = some ce.cls ∧ B.locs = A.locs ++ L ∧ (∀ z ∈ L, free z.base) ∧ B.cells = A.cells + mc ∧ B.slots = A.slots + ms
def vx_Back (l : Launch) (R : Room) (p : Program) (e : Env) (below : List Frame) (s : State) (sargs : Array Value) (y : MethodName) (len W9 : Nat)
    (Pre : Pt → Array Value → Prop) (Post : Pt → Array Value → Option Value → Pt → Prop) (PostX : Pt → Array Value → Addr → Pt → Prop) : Prop :=
  ∀ (m : MethodId) (meth : Method) (c : Code) (A : Pt) (g : JFrame) (ig : Instr) (mk : MethodId) (a : Array Value),
    Stand p l e R s m sargs below meth c A.U A.locs A.cells A.slots → g.method = m → g.locals.size = c.maxLocals → decode c.code g.pc = .ok (ig, len) →
    2 * g.monitorRoom + (g.stack.map fun v => v.category).sum ≤ W9 → A.U.methodNamed? y = some mk → Pre A a →
    (∃ (v : Option Value) (B : Pt), Stand p l e R s m sargs below meth c B.U B.locs B.cells B.slots ∧ Post A a v B ∧
      Steps p.tables e below (doInvoke e (A.U.setTop g) [] mk a).1 (B.U.setTop { g with pc := g.pc + len, stack := v.toList ++ g.stack })) ∨
    (∃ (q : Addr) (B : Pt), Stand p l e R s m sargs below meth c B.U B.locs B.cells B.slots ∧ PostX A a q B ∧
      Steps p.tables e below (doInvoke e (A.U.setTop g) [] mk a).1 ((B.U.setTop g).pushFrame (.throwing q)))
section Payer
variable {l : Launch} {R : Room} {p : Program} {e : Env} {below : List Frame} {s : State} {sargs : Array Value} {y : MethodName} {len W9 : Nat}
theorem vx_back {ws : List Cond} {rm : Room} {Pc : Array Value → State → Prop} {Qc : Array Value → State → Outcome → State → Prop} {XC : String → State → State → Prop} {mc ms : Nat} {free : Addr → Prop} {bytes : ByteArray} {maxL : Nat} {ret : Option FieldType}
    (hM : vx_Met l y ws rm Pc Qc XC mc ms free) (hblind : FrameBlind Pc) (hrc : rm.cells = mc) (hrs : rm.slots = ms)
    (hframes : rm.frames + 1 ≤ R.frames) (hlocals : W9 + (maxL + 11) + rm.locals ≤ R.locals)
    (hws : ∀ w ∈ ws, ∀ a' U, s.WarmedH U.vm → w.before a' U = true) (hcode : Cond.code y bytes maxL ret ∈ ws) (hinit : ∀ a' U, s.WarmedH U.vm → (Cond.initialized y.cls).before a' U = true) :
    vx_Back l R p e below s sargs y len W9 (PreOf R mc ms Pc) (PostOf Qc mc ms free) (vx_Post XC mc ms free) := by
  intro m meth c A g ig mk a X hg hsize hdg hW hn hp
  have h1 : (headSpec ws rm).pre.before a A.U = true := atoms_intro fun w hw => hws w hw _ _ X.warmed
  have h2 : (Cond.code y bytes maxL ret).before a A.U = true := hws _ hcode _ _ X.warmed
  have h3 : (Cond.initialized y.cls).before a A.U = true := hinit _ _ X.warmed
  have h4 : A.cells + (headSpec ws rm).room.cells ≤ R.cells := by rw [show (headSpec ws rm).room.cells = mc from hrc]; exact hp.1
  have h5 : A.slots + (headSpec ws rm).room.slots ≤ R.slots := by rw [show (headSpec ws rm).room.slots = ms from hrs]; exact hp.2.1
  have hPc : Pc a (A.U.calling g mk a) := hblind _ _ _ _ hp.2.2
  obtain ⟨U, Ls, c0, s0⟩ := A
  dsimp only [Pt.U, Pt.locs, Pt.cells, Pt.slots] at h1 h2 h3 h4 h5 X hn hPc ⊢
  obtain ⟨methY, cY, hmY, hcY, -, hlY, -, -, -, -⟩ := Cond.code_spec hn h2
  obtain ⟨kY, hkY, -⟩ := className_of_methodNamed hn
  have hinitY : kY.init = .initialized := Cond.initialized_spec (findClass_of_methodNamed hn) hkY h3
  have h : At U g.method c below := by rw [hg]; exact X.here
  have hlocals9 : W9 + (maxL + 11) + (headSpec ws rm).room.locals ≤ R.locals := hlocals
  have happ : (headSpec ws rm).appliesLoose y e.platform (U.calling g mk a) = true :=
    Spec.appliesLoose_calling (g := g) h hdg hn hkY hinitY
      (X.room_calling (g := g) (R' := (headSpec ws rm).room) hsize hmY hcY hframes (by rw [hlY]; omega) h4 h5) h1
  obtain ⟨mid, hmid⟩ := h.above
  have hfr : (U.setTop g).frames = (.java g :: mid) ++ below := by rw [State.frames_setTop' g h.top, hmid]; rfl
  obtain ⟨o, s₂, hsteps, -, hend, hq⟩ := Steps.callFree hM p X.admits X.cas X.clock (acts := []) hfr happ hPc trivial
  have hq' : vx_Q Qc XC mc ms free a (U.calling g mk a) o s₂ := hq
  rw [State.frames_setTop' g h.top] at hend
  obtain ⟨g₀, hg0⟩ := Option.isSome_iff_exists.mp h.top
  obtain ⟨r, hr⟩ := State.topJava?_eq_some.mp hg0
  have hr' : (({ U with heap := s₂.heap, slotsUsed := s₂.slotsUsed } : State).setVm s₂.vm).frames = .java g₀ :: r := hr
  rcases hq' with ⟨hqc, L, hfe, hL⟩ | ⟨q, rfl, E, ce, L, hx, hce, hcv, hcl, hW₂, hsm, hL⟩
  · obtain ⟨⟨v, rfl⟩, hW₂, e2, q2, q3, q4, q5, q6⟩ := id hfe
    have e3 : s₂ = ({ (U.calling g mk a).setFrames s₂.frames with heap := s₂.heap, slotsUsed := s₂.slotsUsed } : State).setVm s₂.vm := by
      have : s₂ = ({ s₂ with vm := (U.calling g mk a).vm } : State).setVm s₂.vm := rfl
      rw [e2] at this
      exact this
    obtain ⟨c₂, i₂, len₂, hc₂, hd₂, hf₂⟩ := hend
    have hW' : U.WarmedH s₂.vm := hW₂
    have hcc : c₂ = c := by
      have h1 : s₂.code? g.method = U.code? g.method := by
        rw [State.code?_eq, State.code?_eq, hW'.alike.method?]
      exact Option.some.inj (hc₂.symm.trans (h1.trans h.code))
    subst hcc
    have hlen : len₂ = len := by rw [hdg] at hd₂; cases hd₂; rfl
    subst hlen
    have hs₂ : s₂ = (({ U with heap := s₂.heap, slotsUsed := s₂.slotsUsed } : State).setVm s₂.vm).setTop { g with pc := g.pc + len₂, stack := v.toList ++ g.stack } := by
      refine e3.trans ?_
      rw [hf₂, State.calling_eq h.top, State.setFrames_setFrames, State.setTop_of_frames _ hr', hr]
      rfl
    have hsame : U.sameButNew ({ U with heap := s₂.heap, slotsUsed := s₂.slotsUsed } : State) L mc ms := by
      refine ⟨?_, q2, q3, q4, q5, q6⟩
      obtain ⟨t, ht, -⟩ := State.frames_cons hr
      show ({ U with heap := s₂.heap, slotsUsed := s₂.slotsUsed } : State) = { U.setFrames U.frames with heap := s₂.heap, slotsUsed := s₂.slotsUsed }
      rw [State.setFrames_self ht]
    subst hg
    refine Or.inl ⟨v, ⟨(({ U with heap := s₂.heap, slotsUsed := s₂.slotsUsed } : State).setVm s₂.vm), Ls ++ L, c0 + mc, s0 + ms⟩,
      ⟨X.admits, X.cas, X.clock, X.frames, X.room, X.hears, X.method, X.code, (X.here.setHeapUsed s₂.heap s₂.slotsUsed).setVm hW'.alike, X.tail, State.WarmedH.trans X.warmed hW', X.limits, X.bytes, X.same.trans (hsame.setVm s.vm)⟩,
      ⟨g, mk, s₂, L, rfl, rfl, hqc, rfl, hL, rfl, rfl⟩, ?_⟩
    show Steps p.tables e below _ ((({ U with heap := s₂.heap, slotsUsed := s₂.slotsUsed } : State).setVm s₂.vm).setTop { g with pc := g.pc + len₂, stack := v.toList ++ g.stack })
    rw [← hs₂]
    exact hsteps
  · obtain ⟨e2, q2, q3, q4, q5, q6⟩ := id hsm
    have e3 : s₂ = ({ (U.calling g mk a).setFrames s₂.frames with heap := s₂.heap, slotsUsed := s₂.slotsUsed } : State).setVm s₂.vm := by
      have : s₂ = ({ s₂ with vm := (U.calling g mk a).vm } : State).setVm s₂.vm := rfl
      rw [e2] at this
      exact this
    have hf₂ : s₂.frames = .throwing q :: .java g :: U.frames.tail := hend
    have hW' : U.WarmedH s₂.vm := hW₂
    have hs₂ : s₂ = ((({ U with heap := s₂.heap, slotsUsed := s₂.slotsUsed } : State).setVm s₂.vm).setTop g).pushFrame (.throwing q) := by
      refine e3.trans ?_
      rw [hf₂, State.calling_eq h.top, State.setFrames_setFrames, State.pushFrame, State.frames_setTop _ hr', State.setTop_of_frames _ hr', State.setFrames_setFrames, hr]
      rfl
    have hsame : U.sameButNew ({ U with heap := s₂.heap, slotsUsed := s₂.slotsUsed } : State) L mc ms := by
      refine ⟨?_, q2, q3, q4, q5, q6⟩
      obtain ⟨t, ht, -⟩ := State.frames_cons hr
      show ({ U with heap := s₂.heap, slotsUsed := s₂.slotsUsed } : State) = { U.setFrames U.frames with heap := s₂.heap, slotsUsed := s₂.slotsUsed }
      rw [State.setFrames_self ht]
    subst hg
    refine Or.inr ⟨q, ⟨(({ U with heap := s₂.heap, slotsUsed := s₂.slotsUsed } : State).setVm s₂.vm), Ls ++ L, c0 + mc, s0 + ms⟩,
      ⟨X.admits, X.cas, X.clock, X.frames, X.room, X.hears, X.method, X.code, (X.here.setHeapUsed s₂.heap s₂.slotsUsed).setVm hW'.alike, X.tail, State.WarmedH.trans X.warmed hW', X.limits, X.bytes, X.same.trans (hsame.setVm s.vm)⟩,
      ⟨g, mk, s₂, L, E, ce, rfl, rfl, hx, hce, hcv, hcl, rfl, hL, rfl, rfl⟩, ?_⟩
    show Steps p.tables e below _ (((({ U with heap := s₂.heap, slotsUsed := s₂.slotsUsed } : State).setVm s₂.vm).setTop g).pushFrame (.throwing q))
    rw [← hs₂]
    exact hsteps
end Payer
section Calls
variable {p : Program} {l : Launch} {e : Env} {R : Room} {s : State} {m : MethodId} {args : Array Value} {below : List Frame} {meth : Method} {c : Code} {T : State} {locs : List Loc} {cells slots : Nat}
theorem vx_callV (X : Stand p l e R s m args below meth c T locs cells slots) (hexec : p.tables.exec = Jvm.exec) {own C : String} {index : Nat} {y : MethodName} {bytes : ByteArray} {maxL : Nat} {ret : Option FieldType}
    (hown : s.vm.findClass own = some m.cls) (hlink : (Cond.methodLink own index y).before args s = true) (hinst : (Cond.instanceMethod y).before args s = true) (hsel : (Cond.selects C y y).before args s = true)
    (hcode : (Cond.code y bytes maxL ret).before args s = true) (hy : y.cls ≠ "java/lang/invoke/MethodHandle" ∧ y.cls ≠ "java/lang/invoke/VarHandle")
    {W9 : Nat} {Pre : Pt → Array Value → Prop} {Post : Pt → Array Value → Option Value → Pt → Prop} {PostX : Pt → Array Value → Addr → Pt → Prop} (hK : vx_Back l R p e below s args y 3 W9 Pre Post PostX)
    {b : Addr} {cellB : Cell} (hcell : T.heap[b]? = some cellB) (hobj : cellB.vm.isStatics = false) (hcls : s.vm.findClass C = some cellB.cls)
    {g : JFrame} (hg : g.method = m) (hsize : g.locals.size = c.maxLocals) {argsL rest : List Value} (hlen : ∀ sig, parseMethodDescriptor y.desc = some sig → argsL.length = sig.parameters.length)
    (hstack : g.stack = argsL.reverse ++ .ref b :: rest) (hW : 2 * g.monitorRoom + (rest.map fun v => v.category).sum ≤ W9) (hdg : decode c.code g.pc = .ok (.invokevirtual index, 3))
    (hpre : ∀ vm₁, s.WarmedH vm₁ → Pre ⟨T.setVm vm₁, locs, cells, slots⟩ (Value.ref b :: argsL).toArray) :
    (∃ (v : Option Value) (vm₁ : Vm) (B : Pt), s.WarmedH vm₁ ∧ Stand p l e R s m args below meth c B.U B.locs B.cells B.slots ∧ Post ⟨T.setVm vm₁, locs, cells, slots⟩ (Value.ref b :: argsL).toArray v B ∧
      ∀ target, Steps p.tables e below (B.U.setTop { g with pc := g.pc + 3, stack := v.toList ++ rest }) target → Steps p.tables e below (T.setTop g) target) ∨
    (∃ (q : Addr) (vm₁ : Vm) (B : Pt), s.WarmedH vm₁ ∧ Stand p l e R s m args below meth c B.U B.locs B.cells B.slots ∧ PostX ⟨T.setVm vm₁, locs, cells, slots⟩ (Value.ref b :: argsL).toArray q B ∧
      Steps p.tables e below (T.setTop g) ((B.U.setTop { g with stack := rest }).pushFrame (.throwing q))) := by
  obtain ⟨mk, methM, hnamed, hmethM, hstM, habM⟩ := Cond.instanceMethod_spec hinst
  obtain ⟨methM', cM, hmethM', -, -, -, -, -, -, hsigM⟩ := Cond.code_spec hnamed hcode
  cases hmethM.symm.trans hmethM'
  obtain ⟨c2, r2, m2, q1, q2, q3, q4, kP, hkP, hkPi⟩ := Cond.selects_spec hsel
  cases hcls.symm.trans q1
  cases (State.methodFound?_of_named hnamed hy).symm.trans q2
  cases hnamed.symm.trans q3
  have hselP : selectMethod e.platform s.vm cellB.cls mk = .method mk := by rw [Launch.admits_selectMethod X.admits]; exact q4
  obtain ⟨vm₁, X₁, hstep₁⟩ := X.invokevirtual hexec hown hlink hnamed hmethM hstM hkP hkPi hy (a := b) (cell := cellB) hcell
    (fun z h => by rw [h] at hobj; cases hobj) hselP hmethM habM hkP hkPi (g := g) hg (argsL := argsL) (rest := rest) (hlen _ hsigM) hstack hdg
  rcases hK m meth c ⟨T.setVm vm₁, locs, cells, slots⟩ { g with stack := rest } (.invokevirtual index) mk (Value.ref b :: argsL).toArray X₁ hg hsize hdg hW (X₁.named hnamed) (hpre vm₁ X₁.warmed) with ⟨v, B, X', hpost, hsteps⟩ | ⟨q, B, X', hpost, hsteps⟩
  · exact Or.inl ⟨v, vm₁, B, X₁.warmed, X', hpost, fun target h => hstep₁ _ fun acts => by rw [doInvoke_state]; exact hsteps.trans h⟩
  · exact Or.inr ⟨q, vm₁, B, X₁.warmed, X', hpost, hstep₁ _ fun acts => by rw [doInvoke_state]; exact hsteps⟩
theorem vx_callS (X : Stand p l e R s m args below meth c T locs cells slots) (hexec : p.tables.exec = Jvm.exec) {own : String} {index : Nat} {y : MethodName} {bytes : ByteArray} {maxL : Nat} {ret : Option FieldType}
    (hown : s.vm.findClass own = some m.cls) (hlink : (Cond.methodLink own index y).before args s = true) (hstat : (Cond.static y).before args s = true) (hinit : (Cond.initialized y.cls).before args s = true)
    (hcode : (Cond.code y bytes maxL ret).before args s = true) (hy : y.cls ≠ "java/lang/invoke/MethodHandle" ∧ y.cls ≠ "java/lang/invoke/VarHandle")
    {W9 : Nat} {Pre : Pt → Array Value → Prop} {Post : Pt → Array Value → Option Value → Pt → Prop} {PostX : Pt → Array Value → Addr → Pt → Prop} (hK : vx_Back l R p e below s args y 3 W9 Pre Post PostX)
    {g : JFrame} (hg : g.method = m) (hsize : g.locals.size = c.maxLocals) {argsL rest : List Value} (hlen : ∀ sig, parseMethodDescriptor y.desc = some sig → argsL.length = sig.parameters.length)
    (hstack : g.stack = argsL.reverse ++ rest) (hW : 2 * g.monitorRoom + (rest.map fun v => v.category).sum ≤ W9) (hdg : decode c.code g.pc = .ok (.invokestatic index, 3))
    (hpre : ∀ vm₁, s.WarmedH vm₁ → Pre ⟨T.setVm vm₁, locs, cells, slots⟩ argsL.toArray) :
    (∃ (v : Option Value) (vm₁ : Vm) (B : Pt), s.WarmedH vm₁ ∧ Stand p l e R s m args below meth c B.U B.locs B.cells B.slots ∧ Post ⟨T.setVm vm₁, locs, cells, slots⟩ argsL.toArray v B ∧
      ∀ target, Steps p.tables e below (B.U.setTop { g with pc := g.pc + 3, stack := v.toList ++ rest }) target → Steps p.tables e below (T.setTop g) target) ∨
    (∃ (q : Addr) (vm₁ : Vm) (B : Pt), s.WarmedH vm₁ ∧ Stand p l e R s m args below meth c B.U B.locs B.cells B.slots ∧ PostX ⟨T.setVm vm₁, locs, cells, slots⟩ argsL.toArray q B ∧
      Steps p.tables e below (T.setTop g) ((B.U.setTop { g with stack := rest }).pushFrame (.throwing q))) := by
  obtain ⟨mk, hnamed⟩ := Cond.code_named hcode
  obtain ⟨methM, cM, hmethM, -, -, -, -, -, -, hsigM⟩ := Cond.code_spec hnamed hcode
  have hstatic : methM.isStatic = true := Cond.static_spec hnamed hmethM hstat
  obtain ⟨kP, hkP, -⟩ := className_of_methodNamed hnamed
  have hinitP : kP.init = .initialized := Cond.initialized_spec (findClass_of_methodNamed hnamed) hkP hinit
  obtain ⟨vm₁, X₁, hstep₁⟩ := X.invokestatic hexec hown hlink hnamed hmethM hstatic hkP hinitP hy (g := g) hg (argsL := argsL) (rest := rest) (hlen _ hsigM) hstack hdg
  rcases hK m meth c ⟨T.setVm vm₁, locs, cells, slots⟩ { g with stack := rest } (.invokestatic index) mk argsL.toArray X₁ hg hsize hdg hW (X₁.named hnamed) (hpre vm₁ X₁.warmed) with ⟨v, B, X', hpost, hsteps⟩ | ⟨q, B, X', hpost, hsteps⟩
  · exact Or.inl ⟨v, vm₁, B, X₁.warmed, X', hpost, fun target h => hstep₁ _ fun acts => by rw [doInvoke_state]; exact hsteps.trans h⟩
  · exact Or.inr ⟨q, vm₁, B, X₁.warmed, X', hpost, hstep₁ _ fun acts => by rw [doInvoke_state]; exact hsteps⟩
end Calls
theorem vx_cls {s : State} {T : State} {vm₁ : Vm} {E : String} {k : ClassId} (hW : s.WarmedH vm₁) (h : (T.setVm vm₁).vm.findClass E = some k) : s.vm.findClass E = some k := by
  have h1 : vm₁.findClass E = some k := h
  rw [hW.alike.findClass] at h1
  exact h1
/-- the method's frame g, with q thrown over it -/
def vx_W (p : Program) (l : Launch) (e : Env) (R : Room) (s : State) (m : MethodId) (args : Array Value) (below : List Frame) (meth : Method) (c : Code) (H : Heap) (locs : List Loc) (cells slots : Nat) (Q : State → Prop) (g : JFrame) (q : Addr) : Prop :=
  ∀ T : State, T.heap = H → Stand p l e R s m args below meth c T locs cells slots → ∃ t, Steps p.tables e below ((T.setTop g).pushFrame (.throwing q)) t ∧ Q t
def vx_Run (p : Program) (l : Launch) (e : Env) (R : Room) (s : State) (m : MethodId) (args : Array Value) (below : List Frame) (meth : Method) (c : Code) (H : Heap) (locs : List Loc) (cells slots mc ms : Nat) (g : JFrame) (rest : List Value) (Qa : State → Outcome → State → Prop) (XC : String → State → State → Prop) (free : Addr → Prop) : Prop :=
  ∀ T : State, T.heap = H → Stand p l e R s m args below meth c T locs cells slots →
    (∃ (v : Option Value) (st₀ t T' : State) (L : List Loc), st₀.heap = H ∧ Stand p l e R s m args below meth c T' (locs ++ L) (cells + mc) (slots + ms) ∧ (∀ q ∈ L, free q.base) ∧ T'.heap = t.heap ∧ T'.vm = t.vm ∧ Qa st₀ (.returned v) t ∧
      Goes p e below T g T' { g with pc := g.pc + 3, stack := v.toList ++ rest }) ∨
    (∃ (q : Addr) (st₀ t T' : State) (L : List Loc) (E : String) (ce : Cell), st₀.heap = H ∧ Stand p l e R s m args below meth c T' (locs ++ L) (cells + mc) (slots + ms) ∧ (∀ z ∈ L, free z.base) ∧ T'.heap = t.heap ∧ T'.vm = t.vm ∧ XC E st₀ t ∧ t.heap[q]? = some ce ∧ ce.vm = .none ∧ s.vm.findClass E = some ce.cls ∧
      Steps p.tables e below (T.setTop g) ((T'.setTop { g with stack := rest }).pushFrame (.throwing q)))
def vx_X {S : Type} (px : S → Prop) (B : String → S → State → Prop) (A : Nat → Prop) : String → State → State → Prop := fun E st t => ∃ u : S, px u ∧ B E u t ∧ va_F A st t
section Runs
variable {p : Program} {l : Launch} {e : Env} {R : Room} {s : State} {m : MethodId} {args : Array Value} {below : List Frame} {meth : Method} {c : Code} {H : Heap} {locs : List Loc} {cells slots : Nat}
variable {y : MethodName} {bytes cc : ByteArray} {maxL nL mc ms n index : Nat} {ret : Option FieldType} {ws : List Cond} {rm : Room} {Pc : Array Value → State → Prop} {Qc : Array Value → State → Outcome → State → Prop} {XC : String → State → State → Prop} {free : Addr → Prop} {Ts : List Cond} {own C : String} {b : Addr} {As rest : List Value} {g : JFrame}
theorem vx_callBack (cb : CallB R s args own index y bytes maxL ret ws rm mc ms n) (hM : vx_Met l y ws rm Pc Qc XC mc ms free) (hbl : FrameBlind Pc) : vx_Back l R p e below s args y 3 8 (PreOf R mc ms Pc) (PostOf Qc mc ms free) (vx_Post XC mc ms free) := by
  obtain ⟨hrc, hrs, hfr, hlo, hws, hcw, -, hini, -⟩ := cb
  exact vx_back (bytes := bytes) (maxL := maxL) (ret := ret) hM hbl hrc hrs hfr hlo hws hcw (fun a' U hW => word_at hW (Or.inl (by first | rfl | simp [Cond.onTables, Cond.keeps, Cond.steady])) hini)
theorem vx_runV (S : CallFix p m c cc nL s args Ts own) (hM : vx_Met l y ws rm Pc Qc XC mc ms free) (cw : CallW R s args own C index y bytes maxL ret ws rm mc ms n) (hp : PreV s H C b Pc As)
    (hg : g.method = m) (hn : As.length = n) (hsize : g.locals.size = nL) (hstack : g.stack = As.reverse ++ .ref b :: rest) (hW : 2 * g.monitorRoom + (rest.map fun v => v.category).sum ≤ 8) (hdg : decode cc g.pc = .ok (.invokevirtual index, 3)) (hf : cells + mc ≤ R.cells ∧ slots + ms ≤ R.slots) :
    vx_Run p l e R s m args below meth c H locs cells slots mc ms g rest (Qc (Value.ref b :: As).toArray) XC free := by
  have hK : vx_Back l R p e below s args y 3 8 (PreOf R mc ms Pc) (PostOf Qc mc ms free) (vx_Post XC mc ms free) := vx_callBack cw.1 hM hp.1
  obtain ⟨⟨-, -, -, -, -, -, hcode, -, hy, hlen, hl⟩, hin, hse⟩ := cw
  obtain ⟨hx, hb, hml, ho, -⟩ := S
  obtain ⟨-, ⟨cellB, hcB, hoB, hclB⟩, hPc⟩ := hp
  intro T hT X
  rcases vx_callV X hx (C := C) (bytes := bytes) (maxL := maxL) (ret := ret) ho hl hin hse hcode hy hK (by rw [hT]; exact hcB) hoB hclB hg (hsize.trans hml.symm) (argsL := As) (rest := rest) (fun sig h => hn.trans (hlen sig h)) hstack hW (by rw [hb]; exact hdg)
    (fun vm₁ hW₁ => ⟨hf.1, hf.2, hPc (T.setVm vm₁) hT hW₁⟩) with ⟨v, vm₁, ⟨U', l2, c2, s2⟩, hW₁, X', ⟨g', mk, t, L, e1, e2, hq, h1, hL, h2, h3⟩, st⟩ | ⟨q, vm₁, ⟨U', l2, c2, s2⟩, hW₁, X', ⟨g', mk, t, L, E, ce, e1, e2, hq, hce, hcv, hcl, h1, hL, h2, h3⟩, st⟩
  · dsimp only [Pt.U, Pt.locs, Pt.cells, Pt.slots] at X' e1 e2 h1 h2 h3 st
    subst h1; subst h2; subst h3
    exact Or.inl ⟨v, (T.setVm vm₁).calling g' mk (Value.ref b :: As).toArray, t, U', L, hT, X', hL, e1, e2, hq, st⟩
  · dsimp only [Pt.U, Pt.locs, Pt.cells, Pt.slots] at X' e1 e2 h1 h2 h3 st hcl
    subst h1; subst h2; subst h3
    exact Or.inr ⟨q, (T.setVm vm₁).calling g' mk (Value.ref b :: As).toArray, t, U', L, E, ce, hT, X', hL, e1, e2, hq, hce, hcv, vx_cls hW₁ hcl, st⟩
theorem vx_runS (S : CallFix p m c cc nL s args Ts own) (hM : vx_Met l y ws rm Pc Qc XC mc ms free) (cw : CallB R s args own index y bytes maxL ret ws rm mc ms n ∧ (Cond.static y).before args s = true) (hp : PreS s H Pc As)
    (hg : g.method = m) (hn : As.length = n) (hsize : g.locals.size = nL) (hstack : g.stack = As.reverse ++ rest) (hW : 2 * g.monitorRoom + (rest.map fun v => v.category).sum ≤ 8) (hdg : decode cc g.pc = .ok (.invokestatic index, 3)) (hf : cells + mc ≤ R.cells ∧ slots + ms ≤ R.slots) :
    vx_Run p l e R s m args below meth c H locs cells slots mc ms g rest (Qc As.toArray) XC free := by
  have hK : vx_Back l R p e below s args y 3 8 (PreOf R mc ms Pc) (PostOf Qc mc ms free) (vx_Post XC mc ms free) := vx_callBack cw.1 hM hp.1
  obtain ⟨⟨-, -, -, -, -, -, hcode, hini, hy, hlen, hl⟩, hstt⟩ := cw
  obtain ⟨hx, hb, hml, ho, -⟩ := S
  intro T hT X
  rcases vx_callS X hx (bytes := bytes) (maxL := maxL) (ret := ret) ho hl hstt hini hcode hy hK hg (hsize.trans hml.symm) (argsL := As) (rest := rest) (fun sig h => hn.trans (hlen sig h)) hstack hW (by rw [hb]; exact hdg)
    (fun vm₁ hW₁ => ⟨hf.1, hf.2, hp.2 (T.setVm vm₁) hT hW₁⟩) with ⟨v, vm₁, ⟨U', l2, c2, s2⟩, hW₁, X', ⟨g', mk, t, L, e1, e2, hq, h1, hL, h2, h3⟩, st⟩ | ⟨q, vm₁, ⟨U', l2, c2, s2⟩, hW₁, X', ⟨g', mk, t, L, E, ce, e1, e2, hq, hce, hcv, hcl, h1, hL, h2, h3⟩, st⟩
  · dsimp only [Pt.U, Pt.locs, Pt.cells, Pt.slots] at X' e1 e2 h1 h2 h3 st
    subst h1; subst h2; subst h3
    exact Or.inl ⟨v, (T.setVm vm₁).calling g' mk As.toArray, t, U', L, hT, X', hL, e1, e2, hq, st⟩
  · dsimp only [Pt.U, Pt.locs, Pt.cells, Pt.slots] at X' e1 e2 h1 h2 h3 st hcl
    subst h1; subst h2; subst h3
    exact Or.inr ⟨q, (T.setVm vm₁).calling g' mk As.toArray, t, U', L, E, ce, hT, X', hL, e1, e2, hq, hce, hcv, vx_cls hW₁ hcl, st⟩
end Runs
section Rows
variable {p : Program} {l : Launch} {e : Env} {R : Room} {s : State} {m : MethodId} {args : Array Value} {below : List Frame} {meth : Method} {c : Code} {H : Heap} {locs : List Loc} {cells slots : Nat} {Q : State → Prop}
variable {mc ms : Nat} {free : Addr → Prop} {A0 A1 : Nat → Prop} {H0 : Heap} {a : Array Value} {pc : Nat} {ls : Array Slot} {st0 rest : List Value}
theorem vx_keep {st₀ t T' : State} {L : List Loc} (h0 : st₀.heap = H) (e1 : T'.heap = t.heap) (hS : va_S A0 H0 H locs) (hA : ∀ q, q < H.size → A1 q → A0 q) (hf : ∀ q, free q → A0 q) (hL : ∀ q ∈ L, free q.base) (hF : va_F A1 st₀ t) :
    H.size ≤ T'.heap.size ∧ (∀ q : Nat, q < H.size → ¬ A1 q → T'.heap[q]? = H[q]?) ∧ va_S A0 H0 T'.heap (locs ++ L) := by
  obtain ⟨hz, hk⟩ := hF
  rw [h0] at hz hk
  exact ⟨by rw [e1]; exact hz, fun q h1 h2 => by rw [e1]; exact hk q h1 h2,
    ⟨Nat.le_trans hS.1 (by rw [e1]; exact hz), fun q h1 h2 => by rw [e1, hk q (Nat.lt_of_lt_of_le h1 hS.1) (fun z => h2 (hA q (Nat.lt_of_lt_of_le h1 hS.1) z))]; exact hS.2.1 q h1 h2, fun q hq => by
      rcases List.mem_append.mp hq with h | h
      · exact hS.2.2 q h
      · exact hf _ (hL q h)⟩⟩
theorem vx_calli {S SX : Type} {post : Int32 → S → Prop} {px : SX → Prop} {B : S → State → Prop} {BX : String → SX → State → Prop} {AX : Nat → Prop} (hr : vx_Run p l e R s m args below meth c H locs cells slots mc ms (F0 m pc ls st0) rest (va_Qi post B A1 a) (vx_X px BX AX) free) (hS : va_S A0 H0 H locs) (hA : ∀ q, q < H.size → A1 q → A0 q) (hf : ∀ q, free q → A0 q) (hAX : ∀ q, q < H.size → AX q → A0 q)
    (kx : ∀ (E : String) (ce : Cell) (q9 : Addr) (u : SX) (t : State) (H1 : Heap) (locs1 : List Loc), t.heap = H1 → s.vm.Alike t.vm → px u → BX E u t → H.size ≤ H1.size → (∀ q : Nat, q < H.size → ¬ AX q → H1[q]? = H[q]?) → va_S A0 H0 H1 locs1 → H1[q9]? = some ce → ce.vm = .none → s.vm.findClass E = some ce.cls → vx_W p l e R s m args below meth c H1 locs1 (cells + mc) (slots + ms) Q (F0 m pc ls rest) q9)
    (kk : ∀ (r : Int32) (u : S) (t : State) (H1 : Heap) (locs1 : List Loc), t.heap = H1 → s.vm.Alike t.vm → post r u → B u t → H.size ≤ H1.size → (∀ q : Nat, q < H.size → ¬ A1 q → H1[q]? = H[q]?) → va_S A0 H0 H1 locs1 → W p l e R s m args below meth c H1 locs1 (cells + mc) (slots + ms) Q (F0 m (pc + 3) ls (.int r :: rest))) : W p l e R s m args below meth c H locs cells slots Q (F0 m pc ls st0) := by
  intro T hT X
  rcases hr T hT X with ⟨v, st₀, t, T', L, h0, X', hL, e1, e2, ⟨⟨r, u, hv, hp, hb⟩, hF⟩, st⟩ | ⟨q, st₀, t, T', L, E, ce, h0, X', hL, e1, e2, ⟨u, hp, hb, hF⟩, hce, hcv, hcl, st⟩
  · cases hv
    obtain ⟨k1, k2, k3⟩ := vx_keep h0 e1 hS hA hf hL hF
    obtain ⟨t2, a1, b1⟩ := kk r u t T'.heap (locs ++ L) e1.symm (by rw [← e2]; exact X'.warmed.alike) hp hb k1 k2 k3 T' rfl X'
    exact ⟨t2, st t2 a1, b1⟩
  · obtain ⟨k1, k2, k3⟩ := vx_keep h0 e1 hS hAX hf hL hF
    obtain ⟨t2, a1, b1⟩ := kx E ce q u t T'.heap (locs ++ L) e1.symm (by rw [← e2]; exact X'.warmed.alike) hp hb k1 k2 k3 (by rw [e1]; exact hce) hcv hcl T' rfl X'
    exact ⟨t2, st.trans a1, b1⟩
theorem vx_calll {S SX : Type} {post : Int64 → S → Prop} {px : SX → Prop} {B : S → State → Prop} {BX : String → SX → State → Prop} {AX : Nat → Prop} (hr : vx_Run p l e R s m args below meth c H locs cells slots mc ms (F0 m pc ls st0) rest (va_Ql post B A1 a) (vx_X px BX AX) free) (hS : va_S A0 H0 H locs) (hA : ∀ q, q < H.size → A1 q → A0 q) (hf : ∀ q, free q → A0 q) (hAX : ∀ q, q < H.size → AX q → A0 q)
    (kx : ∀ (E : String) (ce : Cell) (q9 : Addr) (u : SX) (t : State) (H1 : Heap) (locs1 : List Loc), t.heap = H1 → s.vm.Alike t.vm → px u → BX E u t → H.size ≤ H1.size → (∀ q : Nat, q < H.size → ¬ AX q → H1[q]? = H[q]?) → va_S A0 H0 H1 locs1 → H1[q9]? = some ce → ce.vm = .none → s.vm.findClass E = some ce.cls → vx_W p l e R s m args below meth c H1 locs1 (cells + mc) (slots + ms) Q (F0 m pc ls rest) q9)
    (kk : ∀ (r : Int64) (u : S) (t : State) (H1 : Heap) (locs1 : List Loc), t.heap = H1 → s.vm.Alike t.vm → post r u → B u t → H.size ≤ H1.size → (∀ q : Nat, q < H.size → ¬ A1 q → H1[q]? = H[q]?) → va_S A0 H0 H1 locs1 → W p l e R s m args below meth c H1 locs1 (cells + mc) (slots + ms) Q (F0 m (pc + 3) ls (.long r :: rest))) : W p l e R s m args below meth c H locs cells slots Q (F0 m pc ls st0) := by
  intro T hT X
  rcases hr T hT X with ⟨v, st₀, t, T', L, h0, X', hL, e1, e2, ⟨⟨r, u, hv, hp, hb⟩, hF⟩, st⟩ | ⟨q, st₀, t, T', L, E, ce, h0, X', hL, e1, e2, ⟨u, hp, hb, hF⟩, hce, hcv, hcl, st⟩
  · cases hv
    obtain ⟨k1, k2, k3⟩ := vx_keep h0 e1 hS hA hf hL hF
    obtain ⟨t2, a1, b1⟩ := kk r u t T'.heap (locs ++ L) e1.symm (by rw [← e2]; exact X'.warmed.alike) hp hb k1 k2 k3 T' rfl X'
    exact ⟨t2, st t2 a1, b1⟩
  · obtain ⟨k1, k2, k3⟩ := vx_keep h0 e1 hS hAX hf hL hF
    obtain ⟨t2, a1, b1⟩ := kx E ce q u t T'.heap (locs ++ L) e1.symm (by rw [← e2]; exact X'.warmed.alike) hp hb k1 k2 k3 (by rw [e1]; exact hce) hcv hcl T' rfl X'
    exact ⟨t2, st.trans a1, b1⟩
theorem vx_callf {S SX : Type} {post : UInt32 → S → Prop} {px : SX → Prop} {B : S → State → Prop} {BX : String → SX → State → Prop} {AX : Nat → Prop} (hr : vx_Run p l e R s m args below meth c H locs cells slots mc ms (F0 m pc ls st0) rest (va_Qf post B A1 a) (vx_X px BX AX) free) (hS : va_S A0 H0 H locs) (hA : ∀ q, q < H.size → A1 q → A0 q) (hf : ∀ q, free q → A0 q) (hAX : ∀ q, q < H.size → AX q → A0 q)
    (kx : ∀ (E : String) (ce : Cell) (q9 : Addr) (u : SX) (t : State) (H1 : Heap) (locs1 : List Loc), t.heap = H1 → s.vm.Alike t.vm → px u → BX E u t → H.size ≤ H1.size → (∀ q : Nat, q < H.size → ¬ AX q → H1[q]? = H[q]?) → va_S A0 H0 H1 locs1 → H1[q9]? = some ce → ce.vm = .none → s.vm.findClass E = some ce.cls → vx_W p l e R s m args below meth c H1 locs1 (cells + mc) (slots + ms) Q (F0 m pc ls rest) q9)
    (kk : ∀ (r : UInt32) (u : S) (t : State) (H1 : Heap) (locs1 : List Loc), t.heap = H1 → s.vm.Alike t.vm → post r u → B u t → H.size ≤ H1.size → (∀ q : Nat, q < H.size → ¬ A1 q → H1[q]? = H[q]?) → va_S A0 H0 H1 locs1 → W p l e R s m args below meth c H1 locs1 (cells + mc) (slots + ms) Q (F0 m (pc + 3) ls (.float r :: rest))) : W p l e R s m args below meth c H locs cells slots Q (F0 m pc ls st0) := by
  intro T hT X
  rcases hr T hT X with ⟨v, st₀, t, T', L, h0, X', hL, e1, e2, ⟨⟨r, u, hv, hp, hb⟩, hF⟩, st⟩ | ⟨q, st₀, t, T', L, E, ce, h0, X', hL, e1, e2, ⟨u, hp, hb, hF⟩, hce, hcv, hcl, st⟩
  · cases hv
    obtain ⟨k1, k2, k3⟩ := vx_keep h0 e1 hS hA hf hL hF
    obtain ⟨t2, a1, b1⟩ := kk r u t T'.heap (locs ++ L) e1.symm (by rw [← e2]; exact X'.warmed.alike) hp hb k1 k2 k3 T' rfl X'
    exact ⟨t2, st t2 a1, b1⟩
  · obtain ⟨k1, k2, k3⟩ := vx_keep h0 e1 hS hAX hf hL hF
    obtain ⟨t2, a1, b1⟩ := kx E ce q u t T'.heap (locs ++ L) e1.symm (by rw [← e2]; exact X'.warmed.alike) hp hb k1 k2 k3 (by rw [e1]; exact hce) hcv hcl T' rfl X'
    exact ⟨t2, st.trans a1, b1⟩
theorem vx_calld {S SX : Type} {post : UInt64 → S → Prop} {px : SX → Prop} {B : S → State → Prop} {BX : String → SX → State → Prop} {AX : Nat → Prop} (hr : vx_Run p l e R s m args below meth c H locs cells slots mc ms (F0 m pc ls st0) rest (va_Qd post B A1 a) (vx_X px BX AX) free) (hS : va_S A0 H0 H locs) (hA : ∀ q, q < H.size → A1 q → A0 q) (hf : ∀ q, free q → A0 q) (hAX : ∀ q, q < H.size → AX q → A0 q)
    (kx : ∀ (E : String) (ce : Cell) (q9 : Addr) (u : SX) (t : State) (H1 : Heap) (locs1 : List Loc), t.heap = H1 → s.vm.Alike t.vm → px u → BX E u t → H.size ≤ H1.size → (∀ q : Nat, q < H.size → ¬ AX q → H1[q]? = H[q]?) → va_S A0 H0 H1 locs1 → H1[q9]? = some ce → ce.vm = .none → s.vm.findClass E = some ce.cls → vx_W p l e R s m args below meth c H1 locs1 (cells + mc) (slots + ms) Q (F0 m pc ls rest) q9)
    (kk : ∀ (r : UInt64) (u : S) (t : State) (H1 : Heap) (locs1 : List Loc), t.heap = H1 → s.vm.Alike t.vm → post r u → B u t → H.size ≤ H1.size → (∀ q : Nat, q < H.size → ¬ A1 q → H1[q]? = H[q]?) → va_S A0 H0 H1 locs1 → W p l e R s m args below meth c H1 locs1 (cells + mc) (slots + ms) Q (F0 m (pc + 3) ls (.double r :: rest))) : W p l e R s m args below meth c H locs cells slots Q (F0 m pc ls st0) := by
  intro T hT X
  rcases hr T hT X with ⟨v, st₀, t, T', L, h0, X', hL, e1, e2, ⟨⟨r, u, hv, hp, hb⟩, hF⟩, st⟩ | ⟨q, st₀, t, T', L, E, ce, h0, X', hL, e1, e2, ⟨u, hp, hb, hF⟩, hce, hcv, hcl, st⟩
  · cases hv
    obtain ⟨k1, k2, k3⟩ := vx_keep h0 e1 hS hA hf hL hF
    obtain ⟨t2, a1, b1⟩ := kk r u t T'.heap (locs ++ L) e1.symm (by rw [← e2]; exact X'.warmed.alike) hp hb k1 k2 k3 T' rfl X'
    exact ⟨t2, st t2 a1, b1⟩
  · obtain ⟨k1, k2, k3⟩ := vx_keep h0 e1 hS hAX hf hL hF
    obtain ⟨t2, a1, b1⟩ := kx E ce q u t T'.heap (locs ++ L) e1.symm (by rw [← e2]; exact X'.warmed.alike) hp hb k1 k2 k3 (by rw [e1]; exact hce) hcv hcl T' rfl X'
    exact ⟨t2, st.trans a1, b1⟩
theorem vx_callv {S SX : Type} {post : S → Prop} {px : SX → Prop} {B : S → State → Prop} {BX : String → SX → State → Prop} {AX : Nat → Prop} (hr : vx_Run p l e R s m args below meth c H locs cells slots mc ms (F0 m pc ls st0) rest (va_Qv post B A1 a) (vx_X px BX AX) free) (hS : va_S A0 H0 H locs) (hA : ∀ q, q < H.size → A1 q → A0 q) (hf : ∀ q, free q → A0 q) (hAX : ∀ q, q < H.size → AX q → A0 q)
    (kx : ∀ (E : String) (ce : Cell) (q9 : Addr) (u : SX) (t : State) (H1 : Heap) (locs1 : List Loc), t.heap = H1 → s.vm.Alike t.vm → px u → BX E u t → H.size ≤ H1.size → (∀ q : Nat, q < H.size → ¬ AX q → H1[q]? = H[q]?) → va_S A0 H0 H1 locs1 → H1[q9]? = some ce → ce.vm = .none → s.vm.findClass E = some ce.cls → vx_W p l e R s m args below meth c H1 locs1 (cells + mc) (slots + ms) Q (F0 m pc ls rest) q9)
    (kk : ∀ (u : S) (t : State) (H1 : Heap) (locs1 : List Loc), t.heap = H1 → s.vm.Alike t.vm → post u → B u t → H.size ≤ H1.size → (∀ q : Nat, q < H.size → ¬ A1 q → H1[q]? = H[q]?) → va_S A0 H0 H1 locs1 → W p l e R s m args below meth c H1 locs1 (cells + mc) (slots + ms) Q (F0 m (pc + 3) ls (rest))) : W p l e R s m args below meth c H locs cells slots Q (F0 m pc ls st0) := by
  intro T hT X
  rcases hr T hT X with ⟨v, st₀, t, T', L, h0, X', hL, e1, e2, ⟨⟨u, hv, hp, hb⟩, hF⟩, st⟩ | ⟨q, st₀, t, T', L, E, ce, h0, X', hL, e1, e2, ⟨u, hp, hb, hF⟩, hce, hcv, hcl, st⟩
  · cases hv
    obtain ⟨k1, k2, k3⟩ := vx_keep h0 e1 hS hA hf hL hF
    obtain ⟨t2, a1, b1⟩ := kk u t T'.heap (locs ++ L) e1.symm (by rw [← e2]; exact X'.warmed.alike) hp hb k1 k2 k3 T' rfl X'
    exact ⟨t2, st t2 a1, b1⟩
  · obtain ⟨k1, k2, k3⟩ := vx_keep h0 e1 hS hAX hf hL hF
    obtain ⟨t2, a1, b1⟩ := kx E ce q u t T'.heap (locs ++ L) e1.symm (by rw [← e2]; exact X'.warmed.alike) hp hb k1 k2 k3 (by rw [e1]; exact hce) hcv hcl T' rfl X'
    exact ⟨t2, st.trans a1, b1⟩
/-- caught by the row x of this method's table; the rows ahead don't take it -/
theorem vx_catch {own name : String} {E : String} {ce : Cell} {q : Addr} (hown : s.vm.findClass own = some m.cls) (pre : List ExceptionTableEntry) (x : ExceptionTableEntry) (suf : List ExceptionTableEntry) (hsplit : c.exceptionTable.toList = pre ++ x :: suf)
    (hpass : ∀ z ∈ pre, covers z pc = false ∨ (z.catchType ≠ 0 ∧ ∃ nm : String, (Cond.classLink own z.catchType nm).before args s = true ∧ va_Nc E nm s)) (hx : covers x pc = true) (h0 : x.catchType ≠ 0)
    (hlink : (Cond.classLink own x.catchType name).before args s = true) (hcast : (Cond.castable E name).before args s = true) (hcell : H[q]? = some ce) (hv : ce.vm = .none) (hcl : s.vm.findClass E = some ce.cls)
    (kk : W p l e R s m args below meth c H locs cells slots Q (F0 m x.handlerPc ls [.ref q])) : vx_W p l e R s m args below meth c H locs cells slots Q (F0 m pc ls rest) q := by
  intro T hT X
  have hpl : e.platform.magicAccessors = ({} : Platform).magicAccessors := by rw [X.admits.platform]
  obtain ⟨c3, c4, hc3, hc4, hasg⟩ := Cond.castable_spec hcast
  cases Option.some.inj (hc3.symm.trans hcl)
  obtain ⟨c5, hc5, hcl5⟩ := Cond.classLink_spec hown hlink e.platform hpl
  cases Option.some.inj (hc4.symm.trans hc5)
  obtain ⟨vm', X', st⟩ := X.thenCaughtThrough q (g := F0 m pc ls rest) rfl (Steps.refl _) (by rw [hT]; exact hcell) (by rw [hv]; rfl) (by obtain ⟨k9, h9, -⟩ := Vm.findClass_spec hcl; exact ⟨k9, h9⟩) pre x suf hsplit
    (fun z hz => by
      rcases hpass z hz with h | ⟨hz0, nm, hl1, hn1⟩
      · exact Or.inl h
      · obtain ⟨c6, hc6, hcl6⟩ := Cond.classLink_spec hown hl1 e.platform hpl
        obtain ⟨a8, b8, h1, h2, h3⟩ := hn1
        cases Option.some.inj (h1.symm.trans hcl)
        cases Option.some.inj (h2.symm.trans hc6)
        exact Or.inr ⟨hz0, _, hcl6, h3⟩) hx (Or.inr ⟨h0, c4, hcl5, hasg⟩)
  obtain ⟨t, a1, b1⟩ := kk (T.setVm vm') hT X'
  exact ⟨t, st.trans a1, b1⟩
end Rows
section Ends
variable {p : Program} {l : Launch} {e : Env} {R : Room} {s : State} {m : MethodId} {args : Array Value} {below : List Frame} {meth : Method} {c : Code} {H : Heap} {locs : List Loc} {cells slots : Nat} {Q : State → Prop}
variable {mc ms : Nat} {free : Addr → Prop} {A0 A1 : Nat → Prop} {H0 : Heap} {a : Array Value} {ls : Array Slot} {st0 rest : List Value}
variable {Qc : Array Value → State → Outcome → State → Prop} {XC : String → State → State → Prop}
/-- what a body that may throw owes at its end -/
def vx_MQ (below : List Frame) (Qc : Array Value → State → Outcome → State → Prop) (XC : String → State → State → Prop) (a : Array Value) (s : State) (mc ms : Nat) (free : Addr → Prop) : State → Prop := fun t =>
  ∃ o, t.status = .running ∧ Ended t below o ∧ vx_Q Qc XC mc ms free a s o t
theorem vx_ret {g : JFrame} {mc ms : Nat} (k : W p l e R s m args below meth c H locs cells slots (MQ below Qc args s mc ms free) g) : W p l e R s m args below meth c H locs cells slots (vx_MQ below Qc XC args s mc ms free) g := by
  intro T hT X
  obtain ⟨t, a1, o, b1, b2, b3, b4⟩ := k T hT X
  exact ⟨t, a1, o, b1, b2, Or.inl ⟨b3, b4⟩⟩
/-- not caught here: it goes on to the caller -/
theorem vx_widen {g : JFrame} {q : Addr} {k n : Nat} (h1 : cells ≤ k) (h2 : slots ≤ n) (kk : vx_W p l e R s m args below meth c H locs k n Q g q) : vx_W p l e R s m args below meth c H locs cells slots Q g q := fun T hT X => kk T hT (stand_widen X h1 h2)
theorem vx_out {pc : Nat} {E : String} {ce : Cell} {q : Addr} {mc ms : Nat} (hout : ∀ x ∈ c.exceptionTable.toList, covers x pc = false) (hlocks : meth.locks = false) (hcell : H[q]? = some ce) (hv : ce.vm = .none) (hcl : s.vm.findClass E = some ce.cls)
    (hx : ∀ t : State, t.heap = H → s.vm.Alike t.vm → XC E s t) (hf : ∀ z ∈ locs, free z.base) (hc : cells ≤ mc) (hs : slots ≤ ms) :
    vx_W p l e R s m args below meth c H locs cells slots (vx_MQ below Qc XC args s mc ms free) (F0 m pc ls rest) q := by
  intro T hT X
  obtain ⟨st1, hrun, hend, hW, hsm⟩ := X.leaveThrown q (g := F0 m pc ls rest) rfl rfl rfl hout hlocks
  have hcell9 : (T.setFrames (.throwing q :: below)).heap[q]? = some ce := by
    show T.heap[q]? = some ce
    rw [hT]; exact hcell
  exact ⟨_, st1, .threw q, hrun, hend, Or.inr ⟨q, rfl, E, ce, locs, hx _ hT hW.alike, hcell9, hv, hcl, hW, hsm.mono hc hs, hf⟩⟩
theorem vx_frame {U : State} {k n : Nat} (h : s.sameButNew ({ U with vm := s.vm } : State) locs k n) : s.heap.size ≤ U.heap.size ∧ ∀ q : Nat, q < s.heap.size → (∀ z ∈ locs, z.base ≠ q) → U.heap[q]? = s.heap[q]? := by
  obtain ⟨-, h2, -, -, -, h6⟩ := h
  refine ⟨h2, fun q hq hz => ?_⟩
  obtain ⟨c9, e1, e2, e3, e4⟩ := h6 q _ (Array.getElem?_eq_getElem hq)
  have hs : c9.slots = (s.heap[q]).slots := Array.ext_getElem? fun i => e4 i fun hm => hz _ hm rfl
  have h9 : c9 = s.heap[q] := by
    rw [hs] at e2
    exact e2
  have e5 : U.heap[q]? = some c9 := e1
  rw [e5, h9, Array.getElem?_eq_getElem hq]
/-- the words of a throw but the four that speak of the heap -/
def vx_no (w : Cond) : Bool := decide (w ≠ .isRef (.static Bundle.tN "UNASSIGNED_STACK" Bundle.steD)) && decide (w ≠ .isRef (.static Bundle.tN "SUPPRESSED_SENTINEL" Bundle.listD)) && decide (w ≠ .laysStatic Bundle.tN "UNASSIGNED_STACK" Bundle.steD) && decide (w ≠ .laysStatic Bundle.tN "SUPPRESSED_SENTINEL" Bundle.listD)
def vx_at0 (own : String) (ic : Nat) (X : String) (names : List String) : List Cond := (Bundle.ownAtoms0 own ic X names).filter vx_no
def vx_atS (own : String) (ic : Nat) (X : String) (names : List String) : List Cond := (Bundle.ownAtoms own ic X names).filter vx_no
/-- a word that the tables alone decide, or a good one -/
def vx_ot (w : Cond) : Bool := w.onTables || goodWord w
theorem vx_ot_at {args a' : Array Value} {s U : State} {w : Cond} (hW : s.WarmedH U.vm) (hvm : s.vm = U.vm) (hg : vx_ot w = true) (h : w.before args s = true) : w.before a' U = true := by
  simp only [vx_ot, Bool.or_eq_true] at hg
  rcases hg with hg | hg
  · exact va_tabs hg hvm h
  · exact word_at hW (good_of_word hg) h
/-- a list's words: the good ones out of the method's own list, the others by premises of their own -/
theorem vx_hat {args : Array Value} {s : State} {L B : List Cond} (h1 : ∀ w ∈ L.filter goodWord, w.before args s = true) (h2 : ∀ w ∈ L.filter (fun w => !goodWord w), w ∈ B) (h3 : ∀ w ∈ B, w.before args s = true) : ∀ w ∈ L, w.before args s = true := by
  intro w hw
  by_cases g : goodWord w = true
  · exact h1 w (List.mem_filter.mpr ⟨hw, g⟩)
  · refine h3 w (h2 w (List.mem_filter.mpr ⟨hw, ?_⟩))
    show (!goodWord w) = true
    cases hgw : goodWord w
    · rfl
    · exact absurd hgw g
theorem vx_c {args : Array Value} {s : State} {w : Cond} {B : List Cond} (h : w.before args s = true) (t : ∀ w ∈ B, w.before args s = true) : ∀ w' ∈ w :: B, w'.before args s = true := fun w' h' => (List.mem_cons.mp h').elim (fun e => by rw [e]; exact h) (t w')
theorem vx_n {args : Array Value} {s : State} : ∀ w ∈ ([] : List Cond), w.before args s = true := fun _ h => nomatch h
theorem vx_own {args : Array Value} {s : State} {L : List Cond} (h1 : ∀ w ∈ L.filter vx_no, w.before args s = true)
    (hU : (Cond.isRef (.static Bundle.tN "UNASSIGNED_STACK" Bundle.steD)).before args s = true) (hN : (Cond.isRef (.static Bundle.tN "SUPPRESSED_SENTINEL" Bundle.listD)).before args s = true)
    (lU : (Cond.laysStatic Bundle.tN "UNASSIGNED_STACK" Bundle.steD).before args s = true) (lN : (Cond.laysStatic Bundle.tN "SUPPRESSED_SENTINEL" Bundle.listD).before args s = true) : ∀ w ∈ L, w.before args s = true := by
  intro w hw
  by_cases e1 : w = .isRef (.static Bundle.tN "UNASSIGNED_STACK" Bundle.steD)
  · rw [e1]; exact hU
  · by_cases e2 : w = .isRef (.static Bundle.tN "SUPPRESSED_SENTINEL" Bundle.listD)
    · rw [e2]; exact hN
    · by_cases e3 : w = .laysStatic Bundle.tN "UNASSIGNED_STACK" Bundle.steD
      · rw [e3]; exact lU
      · by_cases e4 : w = .laysStatic Bundle.tN "SUPPRESSED_SENTINEL" Bundle.listD
        · rw [e4]; exact lN
        · exact h1 w (List.mem_filter.mpr ⟨hw, by unfold vx_no; rw [decide_eq_true e1, decide_eq_true e2, decide_eq_true e3, decide_eq_true e4]; rfl⟩)
/-- where a static field lies, its class's statics cell in H -/
def vx_L (C n d : String) (A : Nat → Prop) (U : State) (H : Heap) : Prop := ∃ (c : ClassId) (k : Class) (i : Nat) (f : Field) (a : Nat) (cell : Cell), U.vm.findClass C = some c ∧ U.fieldFound? C n d = some (c, k, i, f) ∧ f.isStatic = true ∧ k.statics = some a ∧ H[a]? = some cell ∧ cell.vm.isStatics = true ∧ cell.cls = c ∧ f.slot < cell.slots.size ∧ k.staticTypes[f.slot]? = some f.type ∧ ¬ A a
theorem vx_L.moved {C n d : String} {A : Nat → Prop} {u U : State} {H : Heap} (hvm : u.vm.Alike U.vm) (h : vx_L C n d A u H) : vx_L C n d A U H := by
  obtain ⟨c, k, i, f, a, cell, h1, h2, h3, h4, h5, h6, h7, h8, h9, h10⟩ := h
  obtain ⟨k', hi', he⟩ := State.fieldFound?_setVm hvm h2
  exact ⟨c, k', i, f, a, cell, by rw [hvm.findClass]; exact h1, hi', h3, by rw [he]; exact h4, h5, h6, h7, h8, by rw [he]; exact h9, h10⟩
theorem vx_L.kept {C n d : String} {A : Nat → Prop} {U : State} {H H1 : Heap} (h : vx_L C n d A U H) (hq : ∀ a : Nat, a < H.size → ¬ A a → H1[a]? = H[a]?) : vx_L C n d A U H1 := by
  obtain ⟨c, k, i, f, a, cell, h1, h2, h3, h4, h5, h6, h7, h8, h9, h10⟩ := h
  exact ⟨c, k, i, f, a, cell, h1, h2, h3, h4, by rw [hq a (Array.getElem?_eq_some_iff.mp h5).1 h10]; exact h5, h6, h7, h8, h9, h10⟩
theorem vx_L.narrow {C n d : String} {A B : Nat → Prop} {U : State} {H : Heap} (h : vx_L C n d A U H) (hAB : ∀ q, B q → A q) : vx_L C n d B U H := by
  obtain ⟨c, k, i, f, a, cell, h1, h2, h3, h4, h5, h6, h7, h8, h9, h10⟩ := h
  exact ⟨c, k, i, f, a, cell, h1, h2, h3, h4, h5, h6, h7, h8, h9, fun z => h10 (hAB _ z)⟩
theorem vx_L.word {C n d : String} {A : Nat → Prop} {s : State} {args : Array Value} (h : vx_L C n d A s s.heap) : (Cond.laysStatic C n d).before args s = true := by
  obtain ⟨c, k, i, f, a, cell, h1, h2, h3, h4, h5, h6, h7, h8, h9, -⟩ := h
  show (Cond.laysStatic C n d).holds args s none s [] = true
  exact Cond.laysStatic_of h1 h2 h3 h4 h5 h6 h7 h8 h9
/-- .. and what it holds: null or some reference -/
def vx_Zq (C n d : String) (A : Nat → Prop) (U : State) (H : Heap) : Prop := va_Zq C n d A U H ∧ vx_L C n d A U H
theorem vx_Zq.moved {C n d : String} {A : Nat → Prop} {u U : State} {H : Heap} (hvm : u.vm.Alike U.vm) (h : vx_Zq C n d A u H) : vx_Zq C n d A U H := ⟨va_Zq.moved hvm h.1, vx_L.moved hvm h.2⟩
theorem vx_Zq.kept {C n d : String} {A : Nat → Prop} {U : State} {H H1 : Heap} (h : vx_Zq C n d A U H) (hq : ∀ a : Nat, a < H.size → ¬ A a → H1[a]? = H[a]?) : vx_Zq C n d A U H1 := ⟨va_Zq.kept h.1 hq, vx_L.kept h.2 hq⟩
theorem vx_Zq.narrow {C n d : String} {A B : Nat → Prop} {U : State} {H : Heap} (h : vx_Zq C n d A U H) (hAB : ∀ q, B q → A q) : vx_Zq C n d B U H := ⟨va_Zq.narrow h.1 hAB, vx_L.narrow h.2 hAB⟩
theorem vx_Zqof {args : Array Value} {s : State} {C n d : String} {A : Nat → Prop} (hl : (Cond.laysStatic C n d).before args s = true) (hini : (Cond.initialized C).before args s = true) (h : (Cond.isRef (.static C n d)).before args s = true) (hA : ∀ a : Nat, a < s.heap.size → ¬ A a) : vx_Zq C n d A s s.heap := by
  refine ⟨va_Zqof hl hini h hA, ?_⟩
  obtain ⟨c, k, i, f, a, cell, h1, h2, h3, h4, h5, h6, h7, h8, h9⟩ := Cond.laysStatic_spec hl
  exact ⟨c, k, i, f, a, cell, h1, h2, h3, h4, h5, h6, h7, h8, h9, hA a (Array.getElem?_eq_some_iff.mp h5).1⟩
theorem vx_isRef {C n d : String} {v : Value} {A : Nat → Prop} {s : State} {args : Array Value} (h : va_Z C n d v A s s.heap) (hv : v.isRef = true) : (Cond.isRef (.static C n d)).before args s = true := by
  obtain ⟨cf, kf, fi, f, a, cell, h1, h2, h3, h4, h5, h6, h7, -⟩ := h
  have he : (Term.static C n d).eval args s none [] s = some v := by
    simp [Term.eval, State.fieldNamed?, h1, h2, h4, h5, h6, h7]
  simp only [Cond.before, Cond.holds, Cond.value, he]
  cases v <;> simp_all [Value.isRef]
theorem vx_isRefq {C n d : String} {A : Nat → Prop} {s : State} {args : Array Value} (h : va_Zq C n d A s s.heap) : (Cond.isRef (.static C n d)).before args s = true := by
  rcases h with h | ⟨t, h⟩
  · exact vx_isRef h rfl
  · exact vx_isRef h rfl
/-- the same frame, seen from here: as if the method were called anew in this heap -/
theorem vx_rebase {T : State} (X : Stand p l e R s m args below meth c T locs cells slots) {R' : Room} (hf : R'.frames ≤ R.frames) (hl : R'.locals ≤ R.locals) (hc : cells + R'.cells ≤ R.cells) (hs : slots + R'.slots ≤ R.slots) :
    Stand p l e R' ((T.setVm s.vm).setFrames (.invoking m args :: below)) m args below meth c T [] 0 0 := by
  have htop : (T.setVm s.vm).topJava?.isSome := X.here.top
  have hF : ((T.setVm s.vm).setFrames (.invoking m args :: below)).frames = .invoking m args :: below := State.frames_setFrames _ (State.cur_lt_of_top htop)
  obtain ⟨g₀, hg0⟩ := Option.isSome_iff_exists.mp htop
  obtain ⟨r, hr⟩ := State.topJava?_eq_some.mp hg0
  have hl9 : e.platform.stackLimits (T.setVm s.vm).me = e.platform.stackLimits s.me := X.limits
  have hb9 : (T.setVm s.vm).me.stackBytes = s.me.stackBytes := X.bytes
  refine ⟨X.admits, X.cas, X.clock, hF, ?_, X.hears, X.method, X.code, X.here, X.tail, X.warmed, ?_, ?_, ?_⟩
  · have h := X.room
    have hU : ((T.setVm s.vm).setFrames (.invoking m args :: below)).localsInUse = s.localsInUse := by
      rw [State.localsInUse_invoking hF (meth := meth) (c := c) X.method X.code, State.localsInUse_invoking X.frames X.method X.code]
    simp only [State.hasRoom, Bool.and_eq_true, decide_eq_true_eq] at h ⊢
    obtain ⟨⟨⟨⟨h1, h2, h3, h4, h5, h6⟩, h7⟩, h8⟩, h9⟩ := h
    rw [X.frames, List.length_cons] at h2 h3
    have q1 := X.heapSize
    have q2 := X.used
    simp only [hF, hU, List.length_cons, State.stackLimits_setFrames, State.stackBytes_setFrames, hl9, hb9]
    refine ⟨⟨⟨⟨by omega, by omega, by omega, by omega, by omega, h6⟩, ?_⟩, ?_⟩, X.book⟩
    · show T.heap.size + R'.cells ≤ e.platform.maxCells
      omega
    · show T.slotsUsed + R'.slots ≤ e.platform.maxSlots
      omega
  · rw [State.stackLimits_setFrames]; rfl
  · rw [State.stackBytes_setFrames]; rfl
  · refine ⟨?_, Nat.le_refl _, Nat.le_refl _, ?_, ?_, fun a c9 h9 => ⟨c9, h9, rfl, rfl, fun _ _ => rfl⟩⟩
    · obtain ⟨t, ht, -⟩ := State.frames_cons hr
      show T.setVm s.vm = { ((T.setVm s.vm).setFrames (.invoking m args :: below)).setFrames (T.setVm s.vm).frames with heap := T.heap, slotsUsed := T.slotsUsed }
      rw [State.setFrames_setFrames, State.setFrames_self ht]
      rfl
    · show T.slotsUsed = T.slotsUsed + ((T.heap.toList.drop T.heap.size).map (·.slots.size)).sum
      rw [List.drop_eq_nil_of_le (Nat.le_of_eq Array.length_toList)]
      rfl
    · show ((T.heap.toList.drop T.heap.size).map (·.slots.size)).sum ≤ 0
      rw [List.drop_eq_nil_of_le (Nat.le_of_eq Array.length_toList)]
      exact Nat.le_refl _
/-- 'throw new E()': new; dup; invokespecial; athrow -/
theorem vx_throw0 {cc : ByteArray} {pc : Nat} (hexec : p.tables.exec = Jvm.exec) (hb : c.code = cc) (hl : l.stackTraces = false) {own cls : String} {names : List String} {ik ic mc ms : Nat} {A : Nat → Prop}
    (hown : s.vm.findClass own = some m.cls) (hcls : Bundle.fit cls = true) (hnames : ∀ n ∈ names, Bundle.fit n = true)
    (hk : (Cond.classLink own ik cls).before args s = true) (hini : (Cond.initialized cls).before args s = true) (hat : ∀ w ∈ vx_at0 own ic cls names, w.before args s = true)
    (hgood : ∀ w ∈ Cond.classLink own ik cls :: Cond.initialized cls :: vx_at0 own ic cls names, vx_ot w = true)
    (hU : vx_Zq Bundle.tN "UNASSIGNED_STACK" Bundle.steD A s s.heap) (hN : vx_Zq Bundle.tN "SUPPRESSED_SENTINEL" Bundle.listD A s s.heap) (hS : va_S A s.heap H locs) (hsize : ls.size = c.maxLocals)
    (d0 : decode cc pc = .ok (.new ik, 3)) (d3 : decode cc (pc + 3) = .ok (.dup, 1)) (d4 : decode cc (pc + 4) = .ok (.invokespecial ic, 3)) (d7 : decode cc (pc + 7) = .ok (.athrow, 1))
    (hout : ∀ x ∈ c.exceptionTable.toList, covers x (pc + 7) = false)
    (hRframes : names.length + 3 < R.frames) (hRlocals : (rest.map fun v => v.category).sum + (13 * (names.length + 1) + 42) ≤ R.locals) (hRcells : cells + 1 ≤ R.cells) (hRslots : slots + 6 ≤ R.slots) (hlocks : meth.locks = false)
    (hx : ∀ t : State, s.vm.Alike t.vm → H.size ≤ t.heap.size → (∀ q : Nat, q < H.size → t.heap[q]? = H[q]?) → XC cls s t)
    (hf : ∀ z ∈ locs, free z.base) (hc : cells + 1 ≤ mc) (hs : slots + 6 ≤ ms) :
    W p l e R s m args below meth c H locs cells slots (vx_MQ below Qc XC args s mc ms free) (F0 m pc ls rest) := by
  intro T hT X
  have htr : e.platform.stackTraces = false := (show e.platform.stackTraces = l.stackTraces by rw [X.admits.platform]).trans hl
  have Y := vx_rebase X (R' := { frames := R.frames, locals := R.locals, cells := 1, slots := 6 }) (Nat.le_refl _) (Nat.le_refl _) hRcells hRslots
  obtain ⟨s', hA⟩ : ∃ z, z = (T.setVm s.vm).setFrames (.invoking m args :: below) := ⟨_, rfl⟩
  rw [← hA] at Y
  have hvm : s'.vm = s.vm := by rw [hA]; rfl
  have hhp : s'.heap = H := by rw [hA]; exact hT
  have hW0 : s.WarmedH s'.vm := by rw [hvm]; exact State.WarmedH.refl s
  have hat' : ∀ w ∈ vx_at0 own ic cls names, w.before args s' = true := fun w hw => vx_ot_at hW0 hvm.symm (hgood w (List.mem_cons_of_mem _ (List.mem_cons_of_mem _ hw))) (hat w hw)
  have hk' : (Cond.classLink own ik cls).before args s' = true := vx_ot_at hW0 hvm.symm (hgood _ List.mem_cons_self) hk
  have hini' : (Cond.initialized cls).before args s' = true := vx_ot_at hW0 hvm.symm (hgood _ (List.mem_cons_of_mem _ List.mem_cons_self)) hini
  have hU' : vx_Zq Bundle.tN "UNASSIGNED_STACK" Bundle.steD A s' s'.heap := by rw [hhp]; exact vx_Zq.moved hW0.alike (hU.kept hS.2.1)
  have hN' : vx_Zq Bundle.tN "SUPPRESSED_SENTINEL" Bundle.listD A s' s'.heap := by rw [hhp]; exact vx_Zq.moved hW0.alike (hN.kept hS.2.1)
  have h : ∀ w ∈ Bundle.ownAtoms0 own ic cls names, w.before args s' = true := vx_own hat' (vx_isRefq hU'.1) (vx_isRefq hN'.1) hU'.2.word hN'.2.word
  have hown' : s'.vm.findClass own = some m.cls := by rw [hvm]; exact hown
  have hins : (Cond.instantiable cls 6).before args s' = true := h _ (by simp [Bundle.ownAtoms0])
  obtain ⟨vm₁, cX, kX, hfX, hkX, -, -, X₁, st1⟩ := Y.newCold hexec (own := own) (C := cls) (index := ik) (n := 6) hown' hk' hins hini'
    (g := F0 m pc ls rest) rfl (by rw [hb]; exact d0) (Nat.le_refl _) (Nat.le_refl _)
  generalize hT1 : (T.setVm vm₁).pushCell { cls := cX, slots := kX.instanceTypes.map defaultValue, vm := .none } = T1 at X₁ st1
  have hcat : (Value.ref T.heap.size).category = 1 := rfl
  have hcellA : T1.heap[T.heap.size]? = some (freshCell cX kX) := by rw [← hT1]; exact State.heap_pushCell_size _ _
  have d3' : decode c.code (pc + 3) = .ok (.dup, 1) := by rw [hb]; exact d3
  obtain ⟨U, hsteps, hrun, hend, hW, hsame, ce, hce, hO⟩ := X₁.ctorThrow0 hexec htr (own := own) (cls := cls) (names := names) (ic := ic) hown' hcls hnames h (fun x hx => nomatch hx) hfX hkX hcellA (by rw [hhp, hT]; exact Nat.le_refl _)
    (g := { method := m, pc := pc + 4, locals := ls, stack := .ref T.heap.size :: .ref T.heap.size :: rest, locked := none }) rfl hsize rfl rfl (rest := rest) rfl
    (by rw [hb]; exact d4) (by rw [hb]; exact d7) hout hRframes (by simp only [List.map_cons, List.sum_cons, hcat]; omega) hlocks
  obtain ⟨f1, f2⟩ := vx_frame hsame
  rw [hhp] at f1 f2
  have hWs : s.WarmedH U.vm := State.WarmedH.trans hW0 hW
  have hcl : s.vm.findClass cls = some ce.cls := by
    have h9 := hO.cls
    rw [hvm] at h9
    exact h9
  have hall : s.sameButNew ({ U with vm := s.vm } : State) locs mc ms := by
    subst hA
    obtain ⟨e1, e2⟩ := hsame
    rw [State.setFrames_setFrames] at e1
    have h2 : (T.setVm s.vm).sameButNew ({ U with vm := s.vm } : State) [] (0 + 1) (0 + 6) := ⟨e1, e2⟩
    have h3 := X.same.trans h2
    rw [List.append_nil] at h3
    exact h3.mono hc hs
  refine ⟨U, ?_, .threw T.heap.size, hrun, hend, Or.inr ⟨T.heap.size, rfl, cls, ce, locs, hx U hWs.alike f1 (fun q hq => f2 q hq (fun z hz => nomatch hz)), hce, hO.vm, hcl, hWs, hall, hf⟩⟩
  refine st1 _ ?_
  show Steps p.tables e below (T1.setTop { method := m, pc := pc + 3, locals := ls, stack := .ref T.heap.size :: rest, locked := none }) _
  jvm_step X₁.here [X₁.here.top, hexec, d3', Value.category]
  exact hsteps
/-- 'throw new E("text")': new; dup; ldc; invokespecial; athrow -/
theorem vx_throwS {cc : ByteArray} {pc : Nat} (hexec : p.tables.exec = Jvm.exec) (hb : c.code = cc) (hl : l.stackTraces = false) {own cls text : String} {names : List String} {ik is ic mc ms sa : Nat} {A : Nat → Prop}
    (hown : s.vm.findClass own = some m.cls) (hcls : Bundle.fit cls = true) (hnames : ∀ n ∈ names, Bundle.fit n = true)
    (hk : (Cond.classLink own ik cls).before args s = true) (hini : (Cond.initialized cls).before args s = true) (hstr : vk_R own is text sa s) (hat : ∀ w ∈ vx_atS own ic cls names, w.before args s = true)
    (hgood : ∀ w ∈ Cond.classLink own ik cls :: Cond.initialized cls :: vx_atS own ic cls names, vx_ot w = true)
    (hU : vx_Zq Bundle.tN "UNASSIGNED_STACK" Bundle.steD A s s.heap) (hN : vx_Zq Bundle.tN "SUPPRESSED_SENTINEL" Bundle.listD A s s.heap) (hS : va_S A s.heap H locs) (hsize : ls.size = c.maxLocals)
    (d0 : decode cc pc = .ok (.new ik, 3)) (d3 : decode cc (pc + 3) = .ok (.dup, 1)) (d4 : decode cc (pc + 4) = .ok (.ldc is, 2)) (d6 : decode cc (pc + 6) = .ok (.invokespecial ic, 3)) (d9 : decode cc (pc + 9) = .ok (.athrow, 1))
    (hout : ∀ x ∈ c.exceptionTable.toList, covers x (pc + 9) = false)
    (hRframes : names.length + 3 < R.frames) (hRlocals : (rest.map fun v => v.category).sum + (13 * (names.length + 1) + 43) ≤ R.locals) (hRcells : cells + 1 ≤ R.cells) (hRslots : slots + 6 ≤ R.slots) (hlocks : meth.locks = false)
    (hx : ∀ t : State, s.vm.Alike t.vm → H.size ≤ t.heap.size → (∀ q : Nat, q < H.size → t.heap[q]? = H[q]?) → XC cls s t)
    (hf : ∀ z ∈ locs, free z.base) (hc : cells + 1 ≤ mc) (hs : slots + 6 ≤ ms) :
    W p l e R s m args below meth c H locs cells slots (vx_MQ below Qc XC args s mc ms free) (F0 m pc ls rest) := by
  intro T hT X
  have htr : e.platform.stackTraces = false := (show e.platform.stackTraces = l.stackTraces by rw [X.admits.platform]).trans hl
  have Y := vx_rebase X (R' := { frames := R.frames, locals := R.locals, cells := 1, slots := 6 }) (Nat.le_refl _) (Nat.le_refl _) hRcells hRslots
  obtain ⟨s', hA⟩ : ∃ z, z = (T.setVm s.vm).setFrames (.invoking m args :: below) := ⟨_, rfl⟩
  rw [← hA] at Y
  have hvm : s'.vm = s.vm := by rw [hA]; rfl
  have hhp : s'.heap = H := by rw [hA]; exact hT
  have hW0 : s.WarmedH s'.vm := by rw [hvm]; exact State.WarmedH.refl s
  have hat' : ∀ w ∈ vx_atS own ic cls names, w.before args s' = true := fun w hw => vx_ot_at hW0 hvm.symm (hgood w (List.mem_cons_of_mem _ (List.mem_cons_of_mem _ hw))) (hat w hw)
  have hk' : (Cond.classLink own ik cls).before args s' = true := vx_ot_at hW0 hvm.symm (hgood _ List.mem_cons_self) hk
  have hini' : (Cond.initialized cls).before args s' = true := vx_ot_at hW0 hvm.symm (hgood _ (List.mem_cons_of_mem _ List.mem_cons_self)) hini
  have hU' : vx_Zq Bundle.tN "UNASSIGNED_STACK" Bundle.steD A s' s'.heap := by rw [hhp]; exact vx_Zq.moved hW0.alike (hU.kept hS.2.1)
  have hN' : vx_Zq Bundle.tN "SUPPRESSED_SENTINEL" Bundle.listD A s' s'.heap := by rw [hhp]; exact vx_Zq.moved hW0.alike (hN.kept hS.2.1)
  have h : ∀ w ∈ Bundle.ownAtoms own ic cls names, w.before args s' = true := vx_own hat' (vx_isRefq hU'.1) (vx_isRefq hN'.1) hU'.2.word hN'.2.word
  have hown' : s'.vm.findClass own = some m.cls := by rw [hvm]; exact hown
  have hins : (Cond.instantiable cls 6).before args s' = true := h _ (by simp [Bundle.ownAtoms])
  obtain ⟨vm₁, cX, kX, hfX, hkX, -, -, X₁, st1⟩ := Y.newCold hexec (own := own) (C := cls) (index := ik) (n := 6) hown' hk' hins hini'
    (g := F0 m pc ls rest) rfl (by rw [hb]; exact d0) (Nat.le_refl _) (Nat.le_refl _)
  generalize hT1 : (T.setVm vm₁).pushCell { cls := cX, slots := kX.instanceTypes.map defaultValue, vm := .none } = T1 at X₁ st1
  have hcat : (Value.ref T.heap.size).category = 1 := rfl
  have hcellA : T1.heap[T.heap.size]? = some (freshCell cX kX) := by rw [← hT1]; exact State.heap_pushCell_size _ _
  have d3' : decode c.code (pc + 3) = .ok (.dup, 1) := by rw [hb]; exact d3
  have d4' : decode c.code (pc + 4) = .ok (.ldc is, 2) := by rw [hb]; exact d4
  have hstr' : vk_R own is text sa s' := vk_R.warm hW0 hstr
  obtain ⟨U, hsteps, hrun, hend, hW, hsame, ce, hce, hO⟩ := X₁.ctorThrowS hexec htr (own := own) (cls := cls) (names := names) (ic := ic) hown' hcls hnames h (fun x hx => nomatch hx) hfX hkX hcellA (by rw [hhp, hT]; exact Nat.le_refl _) (msg := .ref sa) rfl
    (g := { method := m, pc := pc + 6, locals := ls, stack := .ref sa :: .ref T.heap.size :: .ref T.heap.size :: rest, locked := none }) rfl hsize rfl rfl (rest := rest) rfl
    (by rw [hb]; exact d6) (by rw [hb]; exact d9) hout hRframes (by simp only [List.map_cons, List.sum_cons, hcat]; omega) hlocks
  obtain ⟨f1, f2⟩ := vx_frame hsame
  rw [hhp] at f1 f2
  have hWs : s.WarmedH U.vm := State.WarmedH.trans hW0 hW
  have hcl : s.vm.findClass cls = some ce.cls := by
    have h9 := hO.cls
    rw [hvm] at h9
    exact h9
  have hall : s.sameButNew ({ U with vm := s.vm } : State) locs mc ms := by
    subst hA
    obtain ⟨e1, e2⟩ := hsame
    rw [State.setFrames_setFrames] at e1
    have h2 : (T.setVm s.vm).sameButNew ({ U with vm := s.vm } : State) [] (0 + 1) (0 + 6) := ⟨e1, e2⟩
    have h3 := X.same.trans h2
    rw [List.append_nil] at h3
    exact h3.mono hc hs
  refine ⟨U, ?_, .threw T.heap.size, hrun, hend, Or.inr ⟨T.heap.size, rfl, cls, ce, locs, hx U hWs.alike f1 (fun q hq => f2 q hq (fun z hz => nomatch hz)), hce, hO.vm, hcl, hWs, hall, hf⟩⟩
  refine st1 _ ?_
  show Steps p.tables e below (T1.setTop { method := m, pc := pc + 3, locals := ls, stack := .ref T.heap.size :: rest, locked := none }) _
  jvm_step X₁.here [X₁.here.top, hexec, d3', Value.category]
  exact X₁.ldcString hexec (own := own) (text := text) (index := is) (a := sa) hown' hstr'.1 hstr'.2
    (g := { method := m, pc := pc + 4, locals := ls, stack := .ref T.heap.size :: .ref T.heap.size :: rest, locked := none }) rfl d4' _ hsteps
/-- 'throw new E("text")', the text by a wide index -/
theorem vx_throwSW {cc : ByteArray} {pc : Nat} (hexec : p.tables.exec = Jvm.exec) (hb : c.code = cc) (hl : l.stackTraces = false) {own cls text : String} {names : List String} {ik is ic mc ms sa : Nat} {A : Nat → Prop}
    (hown : s.vm.findClass own = some m.cls) (hcls : Bundle.fit cls = true) (hnames : ∀ n ∈ names, Bundle.fit n = true)
    (hk : (Cond.classLink own ik cls).before args s = true) (hini : (Cond.initialized cls).before args s = true) (hstr : vk_R own is text sa s) (hat : ∀ w ∈ vx_atS own ic cls names, w.before args s = true)
    (hgood : ∀ w ∈ Cond.classLink own ik cls :: Cond.initialized cls :: vx_atS own ic cls names, vx_ot w = true)
    (hU : vx_Zq Bundle.tN "UNASSIGNED_STACK" Bundle.steD A s s.heap) (hN : vx_Zq Bundle.tN "SUPPRESSED_SENTINEL" Bundle.listD A s s.heap) (hS : va_S A s.heap H locs) (hsize : ls.size = c.maxLocals)
    (d0 : decode cc pc = .ok (.new ik, 3)) (d3 : decode cc (pc + 3) = .ok (.dup, 1)) (d4 : decode cc (pc + 4) = .ok (.ldc_w is, 3)) (d7 : decode cc (pc + 7) = .ok (.invokespecial ic, 3)) (d10 : decode cc (pc + 10) = .ok (.athrow, 1))
    (hout : ∀ x ∈ c.exceptionTable.toList, covers x (pc + 10) = false)
    (hRframes : names.length + 3 < R.frames) (hRlocals : (rest.map fun v => v.category).sum + (13 * (names.length + 1) + 43) ≤ R.locals) (hRcells : cells + 1 ≤ R.cells) (hRslots : slots + 6 ≤ R.slots) (hlocks : meth.locks = false)
    (hx : ∀ t : State, s.vm.Alike t.vm → H.size ≤ t.heap.size → (∀ q : Nat, q < H.size → t.heap[q]? = H[q]?) → XC cls s t)
    (hf : ∀ z ∈ locs, free z.base) (hc : cells + 1 ≤ mc) (hs : slots + 6 ≤ ms) :
    W p l e R s m args below meth c H locs cells slots (vx_MQ below Qc XC args s mc ms free) (F0 m pc ls rest) := by
  intro T hT X
  have htr : e.platform.stackTraces = false := (show e.platform.stackTraces = l.stackTraces by rw [X.admits.platform]).trans hl
  have Y := vx_rebase X (R' := { frames := R.frames, locals := R.locals, cells := 1, slots := 6 }) (Nat.le_refl _) (Nat.le_refl _) hRcells hRslots
  obtain ⟨s', hA⟩ : ∃ z, z = (T.setVm s.vm).setFrames (.invoking m args :: below) := ⟨_, rfl⟩
  rw [← hA] at Y
  have hvm : s'.vm = s.vm := by rw [hA]; rfl
  have hhp : s'.heap = H := by rw [hA]; exact hT
  have hW0 : s.WarmedH s'.vm := by rw [hvm]; exact State.WarmedH.refl s
  have hat' : ∀ w ∈ vx_atS own ic cls names, w.before args s' = true := fun w hw => vx_ot_at hW0 hvm.symm (hgood w (List.mem_cons_of_mem _ (List.mem_cons_of_mem _ hw))) (hat w hw)
  have hk' : (Cond.classLink own ik cls).before args s' = true := vx_ot_at hW0 hvm.symm (hgood _ List.mem_cons_self) hk
  have hini' : (Cond.initialized cls).before args s' = true := vx_ot_at hW0 hvm.symm (hgood _ (List.mem_cons_of_mem _ List.mem_cons_self)) hini
  have hU' : vx_Zq Bundle.tN "UNASSIGNED_STACK" Bundle.steD A s' s'.heap := by rw [hhp]; exact vx_Zq.moved hW0.alike (hU.kept hS.2.1)
  have hN' : vx_Zq Bundle.tN "SUPPRESSED_SENTINEL" Bundle.listD A s' s'.heap := by rw [hhp]; exact vx_Zq.moved hW0.alike (hN.kept hS.2.1)
  have h : ∀ w ∈ Bundle.ownAtoms own ic cls names, w.before args s' = true := vx_own hat' (vx_isRefq hU'.1) (vx_isRefq hN'.1) hU'.2.word hN'.2.word
  have hown' : s'.vm.findClass own = some m.cls := by rw [hvm]; exact hown
  have hins : (Cond.instantiable cls 6).before args s' = true := h _ (by simp [Bundle.ownAtoms])
  obtain ⟨vm₁, cX, kX, hfX, hkX, -, -, X₁, st1⟩ := Y.newCold hexec (own := own) (C := cls) (index := ik) (n := 6) hown' hk' hins hini'
    (g := F0 m pc ls rest) rfl (by rw [hb]; exact d0) (Nat.le_refl _) (Nat.le_refl _)
  generalize hT1 : (T.setVm vm₁).pushCell { cls := cX, slots := kX.instanceTypes.map defaultValue, vm := .none } = T1 at X₁ st1
  have hcat : (Value.ref T.heap.size).category = 1 := rfl
  have hcellA : T1.heap[T.heap.size]? = some (freshCell cX kX) := by rw [← hT1]; exact State.heap_pushCell_size _ _
  have d3' : decode c.code (pc + 3) = .ok (.dup, 1) := by rw [hb]; exact d3
  have d4' : decode c.code (pc + 4) = .ok (.ldc_w is, 3) := by rw [hb]; exact d4
  have hstr' : vk_R own is text sa s' := vk_R.warm hW0 hstr
  obtain ⟨U, hsteps, hrun, hend, hW, hsame, ce, hce, hO⟩ := X₁.ctorThrowS hexec htr (own := own) (cls := cls) (names := names) (ic := ic) hown' hcls hnames h (fun x hx => nomatch hx) hfX hkX hcellA (by rw [hhp, hT]; exact Nat.le_refl _) (msg := .ref sa) rfl
    (g := { method := m, pc := pc + 7, locals := ls, stack := .ref sa :: .ref T.heap.size :: .ref T.heap.size :: rest, locked := none }) rfl hsize rfl rfl (rest := rest) rfl
    (by rw [hb]; exact d7) (by rw [hb]; exact d10) hout hRframes (by simp only [List.map_cons, List.sum_cons, hcat]; omega) hlocks
  obtain ⟨f1, f2⟩ := vx_frame hsame
  rw [hhp] at f1 f2
  have hWs : s.WarmedH U.vm := State.WarmedH.trans hW0 hW
  have hcl : s.vm.findClass cls = some ce.cls := by
    have h9 := hO.cls
    rw [hvm] at h9
    exact h9
  have hall : s.sameButNew ({ U with vm := s.vm } : State) locs mc ms := by
    subst hA
    obtain ⟨e1, e2⟩ := hsame
    rw [State.setFrames_setFrames] at e1
    have h2 : (T.setVm s.vm).sameButNew ({ U with vm := s.vm } : State) [] (0 + 1) (0 + 6) := ⟨e1, e2⟩
    have h3 := X.same.trans h2
    rw [List.append_nil] at h3
    exact h3.mono hc hs
  refine ⟨U, ?_, .threw T.heap.size, hrun, hend, Or.inr ⟨T.heap.size, rfl, cls, ce, locs, hx U hWs.alike f1 (fun q hq => f2 q hq (fun z hz => nomatch hz)), hce, hO.vm, hcl, hWs, hall, hf⟩⟩
  refine st1 _ ?_
  show Steps p.tables e below (T1.setTop { method := m, pc := pc + 3, locals := ls, stack := .ref T.heap.size :: rest, locked := none }) _
  jvm_step X₁.here [X₁.here.top, hexec, d3', Value.category]
  exact X₁.ldcStringW hexec (own := own) (text := text) (index := is) (a := sa) hown' hstr'.1 hstr'.2
    (g := { method := m, pc := pc + 4, locals := ls, stack := .ref T.heap.size :: .ref T.heap.size :: rest, locked := none }) rfl d4' _ hsteps
end Ends
section Bodies
variable {l : Launch}
theorem vx_ofW {y : MethodName} {ws ws' : List Cond} {rm : Room} {Pc : Array Value → State → Prop} {Qc : Array Value → State → Outcome → State → Prop} {XC : String → State → State → Prop} {mc ms : Nat} {free : Addr → Prop} {cc : ByteArray} {maxL : Nat} {ret : Option FieldType}
    (hy : plainName y.cls = true) (hw : ws = Cond.code y cc maxL ret :: ws')
    (body : ∀ p e s m args below meth c s₁, BodyLoose p l y (headSpec ws rm) cc maxL ret e s m args below meth c s₁ → c.maxLocals = maxL → (∀ x ∈ c.exceptionTable.toList, False) → Pc args s →
      W p l e (headSpec ws rm).room s m args below meth c s.heap [] 0 0 (vx_MQ below Qc XC args s mc ms free) (entryFrame m args maxL)) : vx_Met l y ws rm Pc Qc XC mc ms free := by
  refine MetFree.of_bodyS (code := cc) (maxLocals := maxL) (ret := ret) hy ?_ ?_
  · intro args s m h hn
    obtain ⟨meth, c, h1, h2, h3, h4, h5, h6, -, -⟩ := Cond.code_spec hn (atoms_spec (ws := ws) h _ (by rw [hw]; exact List.mem_cons_self))
    exact ⟨meth, c, h1, h2, h3, h4, h5, h6⟩
  · intro p e s m args below meth c s₁ B hml hP _
    have hh0 : s₁.heap = s.heap := by rw [B.state]; rfl
    have ht : ∀ x ∈ c.exceptionTable.toList, False := by
      obtain ⟨meth9, c9, h1, h2, -, -, -, -, h7, -⟩ := Cond.code_spec B.named (atoms_spec (ws := ws) B.pre _ (by rw [hw]; exact List.mem_cons_self))
      cases Option.some.inj (h1.symm.trans B.method)
      cases Option.some.inj (h2.symm.trans (Stand.of_body B).code)
      intro x hx
      rw [Array.isEmpty_iff.mp h7] at hx
      cases hx
    obtain ⟨t, a1, o, b1, b2, b3⟩ := body p e s m args below meth c s₁ B hml ht hP s₁ hh0 (Stand.of_body B)
    exact ⟨t, o, a1, b1, b2, b3⟩
/-- the table of a body with handlers -/
theorem vx_table {p : Program} {x y : MethodName} {S : Spec} {cc bytes : ByteArray} {maxL maxL' : Nat} {ret ret' : Option FieldType} {e : Env} {s s₁ : State} {m : MethodId} {args : Array Value} {below : List Frame} {meth : Method} {c : Code} {hh : List (Nat × Nat × Nat × Nat)}
    (B : BodyLoose p l y S cc maxL ret e s m args below meth c s₁) (h : (Cond.codeWith y bytes maxL' ret' hh).before args s = true) : c.exceptionTable.toList = tableOf hh := by
  obtain ⟨m9, meth9, c9, hn9, h1, h2, -, -, h6, -⟩ := Cond.codeWith_spec h
  cases Option.some.inj (hn9.symm.trans B.named)
  cases Option.some.inj (h1.symm.trans B.method)
  cases Option.some.inj (h2.symm.trans (Stand.of_body B).code)
  rw [← h6, table_eq]
end Bodies
end VXA
/-! ===== END ===== -/
/-! ===== BEGIN a static call of a method with an exception table ===== -/
section VXS
variable {p : Program} {l : Launch} {e : Env} {R : Room} {s : State} {m : MethodId} {args : Array Value} {below : List Frame} {meth : Method} {c : Code} {T : State} {H : Heap} {locs : List Loc} {cells slots : Nat}
abbrev vx_CSW (R : Room) (s : State) (args : Array Value) (own : String) (index : Nat) (y : MethodName) (bytes : ByteArray) (maxL : Nat) (ret : Option FieldType) (hh : List (Nat × Nat × Nat × Nat)) (ws : List Cond) (rm : Room) (mc ms n : Nat) : Prop :=
  (rm.cells = mc ∧ rm.slots = ms ∧ rm.frames + 1 ≤ R.frames ∧ 8 + (maxL + 11) + rm.locals ≤ R.locals ∧ (∀ w ∈ ws, ∀ (a' : Array Value) (U : State), s.WarmedH U.vm → w.before a' U = true) ∧ Cond.codeWith y bytes maxL ret hh ∈ ws) ∧
  (Cond.codeWith y bytes maxL ret hh).before args s = true ∧ (Cond.initialized y.cls).before args s = true ∧ (y.cls ≠ "java/lang/invoke/MethodHandle" ∧ y.cls ≠ "java/lang/invoke/VarHandle") ∧
  (∀ sig, parseMethodDescriptor y.desc = some sig → n = sig.parameters.length) ∧ (Cond.methodLink own index y).before args s = true ∧ (Cond.static y).before args s = true
theorem vx_cwSW {own : String} {index maxL mc ms : Nat} {y : MethodName} {bytes : ByteArray} {ret : Option FieldType} {hh : List (Nat × Nat × Nat × Nat)} {Ts ws ws' : List Cond} {rm : Room} (n : Nat) (ht : ∀ w ∈ Ts, w.before args s = true) (hT : GoodIn Ts (va_wsS own index y ws)) (hw : ws = Cond.codeWith y bytes maxL ret hh :: ws') (hrc : rm.cells = mc) (hrs : rm.slots = ms)
    (hd : y.cls ≠ "java/lang/invoke/MethodHandle" ∧ y.cls ≠ "java/lang/invoke/VarHandle" ∧ (parseMethodDescriptor y.desc).map (fun d => d.parameters.length) = some n) (hR : rm.frames + 1 ≤ R.frames ∧ 8 + (maxL + 11) + rm.locals ≤ R.locals) :
    vx_CSW R s args own index y bytes maxL ret hh ws rm mc ms n := by
  have ok : ∀ w ∈ va_wsS own index y ws, w.before args s = true := fun w h => ht w (hT w h).1
  have hG : GoodIn Ts ws := fun w h => hT w (by unfold va_wsS; exact List.mem_append_right _ h)
  have hc : Cond.codeWith y bytes maxL ret hh ∈ ws := by rw [hw]; exact List.mem_cons_self
  refine ⟨⟨hrc, hrs, hR.1, hR.2, pay_in ht hG, hc⟩, ht _ (hG _ hc).1, ok _ (by simp [va_wsS]), ⟨hd.1, hd.2.1⟩, fun sig h => ?_, ok _ (by simp [va_wsS]), ok _ (by simp [va_wsS])⟩
  have h2 := hd.2.2
  rw [h] at h2
  exact (Option.some.inj h2).symm
theorem vx_callSW (X : Stand p l e R s m args below meth c T locs cells slots) (hexec : p.tables.exec = Jvm.exec) {own : String} {index : Nat} {y : MethodName} {bytes : ByteArray} {maxL : Nat} {ret : Option FieldType} {hh : List (Nat × Nat × Nat × Nat)}
    (hown : s.vm.findClass own = some m.cls) (hlink : (Cond.methodLink own index y).before args s = true) (hstat : (Cond.static y).before args s = true) (hinit : (Cond.initialized y.cls).before args s = true)
    (hcode : (Cond.codeWith y bytes maxL ret hh).before args s = true) (hy : y.cls ≠ "java/lang/invoke/MethodHandle" ∧ y.cls ≠ "java/lang/invoke/VarHandle")
    {W9 : Nat} {Pre : Pt → Array Value → Prop} {Post : Pt → Array Value → Option Value → Pt → Prop} (hK : Back l R p e below s args y 3 W9 Pre Post)
    {g : JFrame} (hg : g.method = m) (hsize : g.locals.size = c.maxLocals) {argsL rest : List Value} (hlen : ∀ sig, parseMethodDescriptor y.desc = some sig → argsL.length = sig.parameters.length)
    (hstack : g.stack = argsL.reverse ++ rest) (hW : 2 * g.monitorRoom + (rest.map fun v => v.category).sum ≤ W9) (hdg : decode c.code g.pc = .ok (.invokestatic index, 3))
    (hpre : ∀ vm₁, s.WarmedH vm₁ → Pre ⟨T.setVm vm₁, locs, cells, slots⟩ argsL.toArray) :
    ∃ (v : Option Value) (vm₁ : Vm) (B : Pt), s.WarmedH vm₁ ∧ Stand p l e R s m args below meth c B.U B.locs B.cells B.slots ∧ Post ⟨T.setVm vm₁, locs, cells, slots⟩ argsL.toArray v B ∧
      ∀ target, Steps p.tables e below (B.U.setTop { g with pc := g.pc + 3, stack := v.toList ++ rest }) target → Steps p.tables e below (T.setTop g) target := by
  obtain ⟨mk, methM, cM, hnamed, hmethM, -, -, -, -, -, -, hsigM⟩ := Cond.codeWith_spec hcode
  have hstatic : methM.isStatic = true := Cond.static_spec hnamed hmethM hstat
  obtain ⟨kP, hkP, -⟩ := className_of_methodNamed hnamed
  have hinitP : kP.init = .initialized := Cond.initialized_spec (findClass_of_methodNamed hnamed) hkP hinit
  obtain ⟨vm₁, X₁, hstep₁⟩ := X.invokestatic hexec hown hlink hnamed hmethM hstatic hkP hinitP hy (g := g) hg (argsL := argsL) (rest := rest) (hlen _ hsigM) hstack hdg
  obtain ⟨v, B, X', hpost, hsteps⟩ := hK m meth c ⟨T.setVm vm₁, locs, cells, slots⟩ { g with stack := rest } (.invokestatic index) mk argsL.toArray X₁ hg hsize hdg hW (X₁.named hnamed) (hpre vm₁ X₁.warmed)
  exact ⟨v, vm₁, B, X₁.warmed, X', hpost, fun target h => hstep₁ _ fun acts => by rw [doInvoke_state]; exact hsteps.trans h⟩
theorem vx_runSW {y : MethodName} {bytes cc : ByteArray} {maxL nL mc ms n index : Nat} {ret : Option FieldType} {hh : List (Nat × Nat × Nat × Nat)} {ws : List Cond} {rm : Room} {Pc : Array Value → State → Prop} {Qc : Array Value → State → Outcome → State → Prop} {free : Addr → Prop} {Ts : List Cond} {own : String} {As rest : List Value} {g : JFrame}
    (S : CallFix p m c cc nL s args Ts own) (hM : Met l y ws rm Pc Qc mc ms free) (cw : vx_CSW R s args own index y bytes maxL ret hh ws rm mc ms n) (hp : PreS s H Pc As)
    (hg : g.method = m) (hn : As.length = n) (hsize : g.locals.size = nL) (hstack : g.stack = As.reverse ++ rest) (hW : 2 * g.monitorRoom + (rest.map fun v => v.category).sum ≤ 8) (hdg : decode cc g.pc = .ok (.invokestatic index, 3)) (hf : cells + mc ≤ R.cells ∧ slots + ms ≤ R.slots) :
    va_Run p l e R s m args below meth c H locs cells slots mc ms g rest (Qc As.toArray) (free) := by
  obtain ⟨⟨hrc, hrs, hfr, hlo, hws, hcw⟩, hcode, hini, hy, hlen, hl, hstt⟩ := cw
  have hK : Back l R p e below s args y 3 8 (PreOf R mc ms Pc) (PostOf Qc mc ms free) := va_backW (hh := hh) (bytes := bytes) (maxL := maxL) (ret := ret) hM hp.1 hrc hrs hfr hlo hws hcw (fun a' U hW => word_at hW (Or.inl (by first | rfl | simp [Cond.onTables, Cond.keeps, Cond.steady])) hini)
  obtain ⟨hx, hb, hml, ho, -⟩ := S
  intro T hT X
  obtain ⟨v, vm₁, ⟨U', l2, c2, s2⟩, hW₁, X', ⟨g', mk, t, L, e1, e2, hq, h1, hL, h2, h3⟩, st⟩ := vx_callSW X hx (hh := hh) (bytes := bytes) (maxL := maxL) (ret := ret) ho hl hstt hini hcode hy hK hg (hsize.trans hml.symm) (argsL := As) (rest := rest) (fun sig h => hn.trans (hlen sig h)) hstack hW (by rw [hb]; exact hdg)
    (fun vm₁ hW₁ => ⟨hf.1, hf.2, hp.2 (T.setVm vm₁) hT hW₁⟩)
  dsimp only [Pt.U, Pt.locs, Pt.cells, Pt.slots] at X' e1 e2 h1 h2 h3 st
  subst h1; subst h2; subst h3
  exact ⟨v, (T.setVm vm₁).calling g' mk As.toArray, t, U', L, hT, X', hL, e1, e2, hq, st⟩
/-- not caught here, past rows that name other classes: it goes on to the caller -/
theorem vx_outP {p : Program} {l : Launch} {e : Env} {R : Room} {s : State} {m : MethodId} {args : Array Value} {below : List Frame} {meth : Method} {c : Code} {H : Heap} {locs : List Loc} {cells slots : Nat} {free : Addr → Prop} {ls : Array Slot} {rest : List Value} {Qc : Array Value → State → Outcome → State → Prop} {XC : String → State → State → Prop}
    {pc : Nat} {own E : String} {ce : Cell} {q : Addr} {mc ms : Nat} (hown : s.vm.findClass own = some m.cls) (hlocks : meth.locks = false)
    (hpass : ∀ z ∈ c.exceptionTable.toList, covers z pc = false ∨ (z.catchType ≠ 0 ∧ ∃ nm : String, (Cond.classLink own z.catchType nm).before args s = true ∧ va_Nc E nm s)) (hcell : H[q]? = some ce) (hv : ce.vm = .none) (hcl : s.vm.findClass E = some ce.cls)
    (hx : ∀ t : State, t.heap = H → s.vm.Alike t.vm → XC E s t) (hf : ∀ z ∈ locs, free z.base) (hc : cells ≤ mc) (hs : slots ≤ ms) :
    vx_W p l e R s m args below meth c H locs cells slots (vx_MQ below Qc XC args s mc ms free) (F0 m pc ls rest) q := by
  intro T hT X
  have hpl : e.platform.magicAccessors = ({} : Platform).magicAccessors := by rw [X.admits.platform]
  obtain ⟨vm', hW', X', st⟩ := X.outThrough hlocks q (g := F0 m pc ls rest) rfl rfl rfl (cell := ce) (by rw [hT]; exact hcell) (by rw [hv]; rfl)
    (by obtain ⟨k9, h9, -⟩ := Vm.findClass_spec hcl; exact ⟨k9, h9⟩) (fun z hz => by
      rcases hpass z hz with h | ⟨hz0, nm, hl1, hn1⟩
      · exact Or.inl h
      · obtain ⟨c6, hc6, hcl6⟩ := Cond.classLink_spec hown hl1 e.platform hpl
        obtain ⟨a8, b8, h1, h2, h3⟩ := hn1
        cases Option.some.inj (h1.symm.trans hcl)
        cases Option.some.inj (h2.symm.trans hc6)
        exact Or.inr ⟨hz0, _, hcl6, h3⟩)
  obtain ⟨g₀, hfr⟩ := X'.frames_eq
  have hcell9 : ((T.setVm vm').setFrames (.throwing q :: below)).heap[q]? = some ce := by
    show T.heap[q]? = some ce
    rw [hT]; exact hcell
  have hend : Ended ((T.setVm vm').setFrames (.throwing q :: below)) below (.threw q) := State.frames_setFrames _ (State.cur_lt_of_frames hfr)
  refine ⟨(T.setVm vm').setFrames (.throwing q :: below), ?_, .threw q, X'.here.running, hend, Or.inr ⟨q, rfl, E, ce, locs, hx _ hT (X'.ends _).1.alike, hcell9, hv, hcl, (X'.ends _).1, (X'.ends _).2.mono hc hs, hf⟩⟩
  rw [X.pushThrowing_eq]
  exact st
/-- a thing of a world lies in the heap -/
theorem vx_lt {D : va_G} {cl : List vw_C} {ws : va_W} {H1 : Heap} (h : va_P D cl ws H1) {k : Nat} {q : Nat × va_E} (hk : ws[k]? = some q) : q.1 < H1.size := (h k q hk).lt
end VXS
/-! ===== END ===== -/
/-! ===== BEGIN methods with a table of their own: called by a name, returning or throwing ===== -/
section VXH
/-! vx_backW, vx_callVX, vx_callSX, vx_callVW, vx_runVW, vx_runVX, vx_runSX, vx_ofWH follow the same proofs as their sisters above (Free/Laws.lean, Shelf42/LK1.lean); vx_outP calls Shelf42/NT130.lean (outThrough). -/
section
variable {l : Launch} {R : Room} {p : Program} {e : Env} {below : List Frame} {s : State} {sargs : Array Value} {y : MethodName} {len W9 : Nat}
theorem vx_backW {ws : List Cond} {rm : Room} {Pc : Array Value → State → Prop} {Qc : Array Value → State → Outcome → State → Prop} {XC : String → State → State → Prop} {mc ms : Nat} {free : Addr → Prop} {bytes : ByteArray} {maxL : Nat} {ret : Option FieldType} {hh : List (Nat × Nat × Nat × Nat)}
    (hM : vx_Met l y ws rm Pc Qc XC mc ms free) (hblind : FrameBlind Pc) (hrc : rm.cells = mc) (hrs : rm.slots = ms)
    (hframes : rm.frames + 1 ≤ R.frames) (hlocals : W9 + (maxL + 11) + rm.locals ≤ R.locals)
    (hws : ∀ w ∈ ws, ∀ a' U, s.WarmedH U.vm → w.before a' U = true) (hcode : Cond.codeWith y bytes maxL ret hh ∈ ws) (hinit : ∀ a' U, s.WarmedH U.vm → (Cond.initialized y.cls).before a' U = true) :
    vx_Back l R p e below s sargs y len W9 (PreOf R mc ms Pc) (PostOf Qc mc ms free) (vx_Post XC mc ms free) := by
  intro m meth c A g ig mk a X hg hsize hdg hW hn hp
  have h1 : (headSpec ws rm).pre.before a A.U = true := atoms_intro fun w hw => hws w hw _ _ X.warmed
  have h2 : (Cond.codeWith y bytes maxL ret hh).before a A.U = true := hws _ hcode _ _ X.warmed
  have h3 : (Cond.initialized y.cls).before a A.U = true := hinit _ _ X.warmed
  have h4 : A.cells + (headSpec ws rm).room.cells ≤ R.cells := by rw [show (headSpec ws rm).room.cells = mc from hrc]; exact hp.1
  have h5 : A.slots + (headSpec ws rm).room.slots ≤ R.slots := by rw [show (headSpec ws rm).room.slots = ms from hrs]; exact hp.2.1
  have hPc : Pc a (A.U.calling g mk a) := hblind _ _ _ _ hp.2.2
  obtain ⟨U, Ls, c0, s0⟩ := A
  dsimp only [Pt.U, Pt.locs, Pt.cells, Pt.slots] at h1 h2 h3 h4 h5 X hn hPc ⊢
  obtain ⟨m9, methY, cY, hn9, hmY, hcY, -, hlY, -⟩ := Cond.codeWith_spec h2
  cases Option.some.inj (hn9.symm.trans hn)
  obtain ⟨kY, hkY, -⟩ := className_of_methodNamed hn
  have hinitY : kY.init = .initialized := Cond.initialized_spec (findClass_of_methodNamed hn) hkY h3
  have h : At U g.method c below := by rw [hg]; exact X.here
  have hlocals9 : W9 + (maxL + 11) + (headSpec ws rm).room.locals ≤ R.locals := hlocals
  have happ : (headSpec ws rm).appliesLoose y e.platform (U.calling g mk a) = true :=
    Spec.appliesLoose_calling (g := g) h hdg hn hkY hinitY
      (X.room_calling (g := g) (R' := (headSpec ws rm).room) hsize hmY hcY hframes (by rw [hlY]; omega) h4 h5) h1
  obtain ⟨mid, hmid⟩ := h.above
  have hfr : (U.setTop g).frames = (.java g :: mid) ++ below := by rw [State.frames_setTop' g h.top, hmid]; rfl
  obtain ⟨o, s₂, hsteps, -, hend, hq⟩ := Steps.callFree hM p X.admits X.cas X.clock (acts := []) hfr happ hPc trivial
  have hq' : vx_Q Qc XC mc ms free a (U.calling g mk a) o s₂ := hq
  rw [State.frames_setTop' g h.top] at hend
  obtain ⟨g₀, hg0⟩ := Option.isSome_iff_exists.mp h.top
  obtain ⟨r, hr⟩ := State.topJava?_eq_some.mp hg0
  have hr' : (({ U with heap := s₂.heap, slotsUsed := s₂.slotsUsed } : State).setVm s₂.vm).frames = .java g₀ :: r := hr
  rcases hq' with ⟨hqc, L, hfe, hL⟩ | ⟨q, rfl, E, ce, L, hx, hce, hcv, hcl, hW₂, hsm, hL⟩
  · obtain ⟨⟨v, rfl⟩, hW₂, e2, q2, q3, q4, q5, q6⟩ := id hfe
    have e3 : s₂ = ({ (U.calling g mk a).setFrames s₂.frames with heap := s₂.heap, slotsUsed := s₂.slotsUsed } : State).setVm s₂.vm := by
      have : s₂ = ({ s₂ with vm := (U.calling g mk a).vm } : State).setVm s₂.vm := rfl
      rw [e2] at this
      exact this
    obtain ⟨c₂, i₂, len₂, hc₂, hd₂, hf₂⟩ := hend
    have hW' : U.WarmedH s₂.vm := hW₂
    have hcc : c₂ = c := by
      have h1 : s₂.code? g.method = U.code? g.method := by
        rw [State.code?_eq, State.code?_eq, hW'.alike.method?]
      exact Option.some.inj (hc₂.symm.trans (h1.trans h.code))
    subst hcc
    have hlen : len₂ = len := by rw [hdg] at hd₂; cases hd₂; rfl
    subst hlen
    have hs₂ : s₂ = (({ U with heap := s₂.heap, slotsUsed := s₂.slotsUsed } : State).setVm s₂.vm).setTop { g with pc := g.pc + len₂, stack := v.toList ++ g.stack } := by
      refine e3.trans ?_
      rw [hf₂, State.calling_eq h.top, State.setFrames_setFrames, State.setTop_of_frames _ hr', hr]
      rfl
    have hsame : U.sameButNew ({ U with heap := s₂.heap, slotsUsed := s₂.slotsUsed } : State) L mc ms := by
      refine ⟨?_, q2, q3, q4, q5, q6⟩
      obtain ⟨t, ht, -⟩ := State.frames_cons hr
      show ({ U with heap := s₂.heap, slotsUsed := s₂.slotsUsed } : State) = { U.setFrames U.frames with heap := s₂.heap, slotsUsed := s₂.slotsUsed }
      rw [State.setFrames_self ht]
    subst hg
    refine Or.inl ⟨v, ⟨(({ U with heap := s₂.heap, slotsUsed := s₂.slotsUsed } : State).setVm s₂.vm), Ls ++ L, c0 + mc, s0 + ms⟩,
      ⟨X.admits, X.cas, X.clock, X.frames, X.room, X.hears, X.method, X.code, (X.here.setHeapUsed s₂.heap s₂.slotsUsed).setVm hW'.alike, X.tail, State.WarmedH.trans X.warmed hW', X.limits, X.bytes, X.same.trans (hsame.setVm s.vm)⟩,
      ⟨g, mk, s₂, L, rfl, rfl, hqc, rfl, hL, rfl, rfl⟩, ?_⟩
    show Steps p.tables e below _ ((({ U with heap := s₂.heap, slotsUsed := s₂.slotsUsed } : State).setVm s₂.vm).setTop { g with pc := g.pc + len₂, stack := v.toList ++ g.stack })
    rw [← hs₂]
    exact hsteps
  · obtain ⟨e2, q2, q3, q4, q5, q6⟩ := id hsm
    have e3 : s₂ = ({ (U.calling g mk a).setFrames s₂.frames with heap := s₂.heap, slotsUsed := s₂.slotsUsed } : State).setVm s₂.vm := by
      have : s₂ = ({ s₂ with vm := (U.calling g mk a).vm } : State).setVm s₂.vm := rfl
      rw [e2] at this
      exact this
    have hf₂ : s₂.frames = .throwing q :: .java g :: U.frames.tail := hend
    have hW' : U.WarmedH s₂.vm := hW₂
    have hs₂ : s₂ = ((({ U with heap := s₂.heap, slotsUsed := s₂.slotsUsed } : State).setVm s₂.vm).setTop g).pushFrame (.throwing q) := by
      refine e3.trans ?_
      rw [hf₂, State.calling_eq h.top, State.setFrames_setFrames, State.pushFrame, State.frames_setTop _ hr', State.setTop_of_frames _ hr', State.setFrames_setFrames, hr]
      rfl
    have hsame : U.sameButNew ({ U with heap := s₂.heap, slotsUsed := s₂.slotsUsed } : State) L mc ms := by
      refine ⟨?_, q2, q3, q4, q5, q6⟩
      obtain ⟨t, ht, -⟩ := State.frames_cons hr
      show ({ U with heap := s₂.heap, slotsUsed := s₂.slotsUsed } : State) = { U.setFrames U.frames with heap := s₂.heap, slotsUsed := s₂.slotsUsed }
      rw [State.setFrames_self ht]
    subst hg
    refine Or.inr ⟨q, ⟨(({ U with heap := s₂.heap, slotsUsed := s₂.slotsUsed } : State).setVm s₂.vm), Ls ++ L, c0 + mc, s0 + ms⟩,
      ⟨X.admits, X.cas, X.clock, X.frames, X.room, X.hears, X.method, X.code, (X.here.setHeapUsed s₂.heap s₂.slotsUsed).setVm hW'.alike, X.tail, State.WarmedH.trans X.warmed hW', X.limits, X.bytes, X.same.trans (hsame.setVm s.vm)⟩,
      ⟨g, mk, s₂, L, E, ce, rfl, rfl, hx, hce, hcv, hcl, rfl, hL, rfl, rfl⟩, ?_⟩
    show Steps p.tables e below _ (((({ U with heap := s₂.heap, slotsUsed := s₂.slotsUsed } : State).setVm s₂.vm).setTop g).pushFrame (.throwing q))
    rw [← hs₂]
    exact hsteps
end
variable {p : Program} {l : Launch} {e : Env} {R : Room} {s : State} {m : MethodId} {args : Array Value} {below : List Frame} {meth : Method} {c : Code} {T : State} {H : Heap} {locs : List Loc} {cells slots : Nat}
theorem vx_callVX (X : Stand p l e R s m args below meth c T locs cells slots) (hexec : p.tables.exec = Jvm.exec) {own C : String} {index : Nat} {y : MethodName} {bytes : ByteArray} {maxL : Nat} {ret : Option FieldType} {hh : List (Nat × Nat × Nat × Nat)}
    (hown : s.vm.findClass own = some m.cls) (hlink : (Cond.methodLink own index y).before args s = true) (hinst : (Cond.instanceMethod y).before args s = true) (hsel : (Cond.selects C y y).before args s = true)
    (hcode : (Cond.codeWith y bytes maxL ret hh).before args s = true) (hy : y.cls ≠ "java/lang/invoke/MethodHandle" ∧ y.cls ≠ "java/lang/invoke/VarHandle")
    {W9 : Nat} {Pre : Pt → Array Value → Prop} {Post : Pt → Array Value → Option Value → Pt → Prop} {PostX : Pt → Array Value → Addr → Pt → Prop} (hK : vx_Back l R p e below s args y 3 W9 Pre Post PostX)
    {b : Addr} {cellB : Cell} (hcell : T.heap[b]? = some cellB) (hobj : cellB.vm.isStatics = false) (hcls : s.vm.findClass C = some cellB.cls)
    {g : JFrame} (hg : g.method = m) (hsize : g.locals.size = c.maxLocals) {argsL rest : List Value} (hlen : ∀ sig, parseMethodDescriptor y.desc = some sig → argsL.length = sig.parameters.length)
    (hstack : g.stack = argsL.reverse ++ .ref b :: rest) (hW : 2 * g.monitorRoom + (rest.map fun v => v.category).sum ≤ W9) (hdg : decode c.code g.pc = .ok (.invokevirtual index, 3))
    (hpre : ∀ vm₁, s.WarmedH vm₁ → Pre ⟨T.setVm vm₁, locs, cells, slots⟩ (Value.ref b :: argsL).toArray) :
    (∃ (v : Option Value) (vm₁ : Vm) (B : Pt), s.WarmedH vm₁ ∧ Stand p l e R s m args below meth c B.U B.locs B.cells B.slots ∧ Post ⟨T.setVm vm₁, locs, cells, slots⟩ (Value.ref b :: argsL).toArray v B ∧
      ∀ target, Steps p.tables e below (B.U.setTop { g with pc := g.pc + 3, stack := v.toList ++ rest }) target → Steps p.tables e below (T.setTop g) target) ∨
    (∃ (q : Addr) (vm₁ : Vm) (B : Pt), s.WarmedH vm₁ ∧ Stand p l e R s m args below meth c B.U B.locs B.cells B.slots ∧ PostX ⟨T.setVm vm₁, locs, cells, slots⟩ (Value.ref b :: argsL).toArray q B ∧
      Steps p.tables e below (T.setTop g) ((B.U.setTop { g with stack := rest }).pushFrame (.throwing q))) := by
  obtain ⟨mk, methM, hnamed, hmethM, hstM, habM⟩ := Cond.instanceMethod_spec hinst
  obtain ⟨m8, methM', cM, hn8, hmethM', -, -, -, -, -, -, hsigM⟩ := Cond.codeWith_spec hcode
  cases Option.some.inj (hn8.symm.trans hnamed)
  cases hmethM.symm.trans hmethM'
  obtain ⟨c2, r2, m2, q1, q2, q3, q4, kP, hkP, hkPi⟩ := Cond.selects_spec hsel
  cases hcls.symm.trans q1
  cases (State.methodFound?_of_named hnamed hy).symm.trans q2
  cases hnamed.symm.trans q3
  have hselP : selectMethod e.platform s.vm cellB.cls mk = .method mk := by rw [Launch.admits_selectMethod X.admits]; exact q4
  obtain ⟨vm₁, X₁, hstep₁⟩ := X.invokevirtual hexec hown hlink hnamed hmethM hstM hkP hkPi hy (a := b) (cell := cellB) hcell
    (fun z h => by rw [h] at hobj; cases hobj) hselP hmethM habM hkP hkPi (g := g) hg (argsL := argsL) (rest := rest) (hlen _ hsigM) hstack hdg
  rcases hK m meth c ⟨T.setVm vm₁, locs, cells, slots⟩ { g with stack := rest } (.invokevirtual index) mk (Value.ref b :: argsL).toArray X₁ hg hsize hdg hW (X₁.named hnamed) (hpre vm₁ X₁.warmed) with ⟨v, B, X', hpost, hsteps⟩ | ⟨q, B, X', hpost, hsteps⟩
  · exact Or.inl ⟨v, vm₁, B, X₁.warmed, X', hpost, fun target h => hstep₁ _ fun acts => by rw [doInvoke_state]; exact hsteps.trans h⟩
  · exact Or.inr ⟨q, vm₁, B, X₁.warmed, X', hpost, hstep₁ _ fun acts => by rw [doInvoke_state]; exact hsteps⟩
theorem vx_callSX (X : Stand p l e R s m args below meth c T locs cells slots) (hexec : p.tables.exec = Jvm.exec) {own : String} {index : Nat} {y : MethodName} {bytes : ByteArray} {maxL : Nat} {ret : Option FieldType} {hh : List (Nat × Nat × Nat × Nat)}
    (hown : s.vm.findClass own = some m.cls) (hlink : (Cond.methodLink own index y).before args s = true) (hstat : (Cond.static y).before args s = true) (hinit : (Cond.initialized y.cls).before args s = true)
    (hcode : (Cond.codeWith y bytes maxL ret hh).before args s = true) (hy : y.cls ≠ "java/lang/invoke/MethodHandle" ∧ y.cls ≠ "java/lang/invoke/VarHandle")
    {W9 : Nat} {Pre : Pt → Array Value → Prop} {Post : Pt → Array Value → Option Value → Pt → Prop} {PostX : Pt → Array Value → Addr → Pt → Prop} (hK : vx_Back l R p e below s args y 3 W9 Pre Post PostX)
    {g : JFrame} (hg : g.method = m) (hsize : g.locals.size = c.maxLocals) {argsL rest : List Value} (hlen : ∀ sig, parseMethodDescriptor y.desc = some sig → argsL.length = sig.parameters.length)
    (hstack : g.stack = argsL.reverse ++ rest) (hW : 2 * g.monitorRoom + (rest.map fun v => v.category).sum ≤ W9) (hdg : decode c.code g.pc = .ok (.invokestatic index, 3))
    (hpre : ∀ vm₁, s.WarmedH vm₁ → Pre ⟨T.setVm vm₁, locs, cells, slots⟩ argsL.toArray) :
    (∃ (v : Option Value) (vm₁ : Vm) (B : Pt), s.WarmedH vm₁ ∧ Stand p l e R s m args below meth c B.U B.locs B.cells B.slots ∧ Post ⟨T.setVm vm₁, locs, cells, slots⟩ argsL.toArray v B ∧
      ∀ target, Steps p.tables e below (B.U.setTop { g with pc := g.pc + 3, stack := v.toList ++ rest }) target → Steps p.tables e below (T.setTop g) target) ∨
    (∃ (q : Addr) (vm₁ : Vm) (B : Pt), s.WarmedH vm₁ ∧ Stand p l e R s m args below meth c B.U B.locs B.cells B.slots ∧ PostX ⟨T.setVm vm₁, locs, cells, slots⟩ argsL.toArray q B ∧
      Steps p.tables e below (T.setTop g) ((B.U.setTop { g with stack := rest }).pushFrame (.throwing q))) := by
  obtain ⟨mk, methM, cM, hnamed, hmethM, -, -, -, -, -, -, hsigM⟩ := Cond.codeWith_spec hcode
  have hstatic : methM.isStatic = true := Cond.static_spec hnamed hmethM hstat
  obtain ⟨kP, hkP, -⟩ := className_of_methodNamed hnamed
  have hinitP : kP.init = .initialized := Cond.initialized_spec (findClass_of_methodNamed hnamed) hkP hinit
  obtain ⟨vm₁, X₁, hstep₁⟩ := X.invokestatic hexec hown hlink hnamed hmethM hstatic hkP hinitP hy (g := g) hg (argsL := argsL) (rest := rest) (hlen _ hsigM) hstack hdg
  rcases hK m meth c ⟨T.setVm vm₁, locs, cells, slots⟩ { g with stack := rest } (.invokestatic index) mk argsL.toArray X₁ hg hsize hdg hW (X₁.named hnamed) (hpre vm₁ X₁.warmed) with ⟨v, B, X', hpost, hsteps⟩ | ⟨q, B, X', hpost, hsteps⟩
  · exact Or.inl ⟨v, vm₁, B, X₁.warmed, X', hpost, fun target h => hstep₁ _ fun acts => by rw [doInvoke_state]; exact hsteps.trans h⟩
  · exact Or.inr ⟨q, vm₁, B, X₁.warmed, X', hpost, hstep₁ _ fun acts => by rw [doInvoke_state]; exact hsteps⟩
theorem vx_callVW (X : Stand p l e R s m args below meth c T locs cells slots) (hexec : p.tables.exec = Jvm.exec) {own C : String} {index : Nat} {y : MethodName} {bytes : ByteArray} {maxL : Nat} {ret : Option FieldType} {hh : List (Nat × Nat × Nat × Nat)}
    (hown : s.vm.findClass own = some m.cls) (hlink : (Cond.methodLink own index y).before args s = true) (hinst : (Cond.instanceMethod y).before args s = true) (hsel : (Cond.selects C y y).before args s = true)
    (hcode : (Cond.codeWith y bytes maxL ret hh).before args s = true) (hy : y.cls ≠ "java/lang/invoke/MethodHandle" ∧ y.cls ≠ "java/lang/invoke/VarHandle")
    {W9 : Nat} {Pre : Pt → Array Value → Prop} {Post : Pt → Array Value → Option Value → Pt → Prop} (hK : Back l R p e below s args y 3 W9 Pre Post)
    {b : Addr} {cellB : Cell} (hcell : T.heap[b]? = some cellB) (hobj : cellB.vm.isStatics = false) (hcls : s.vm.findClass C = some cellB.cls)
    {g : JFrame} (hg : g.method = m) (hsize : g.locals.size = c.maxLocals) {argsL rest : List Value} (hlen : ∀ sig, parseMethodDescriptor y.desc = some sig → argsL.length = sig.parameters.length)
    (hstack : g.stack = argsL.reverse ++ .ref b :: rest) (hW : 2 * g.monitorRoom + (rest.map fun v => v.category).sum ≤ W9) (hdg : decode c.code g.pc = .ok (.invokevirtual index, 3))
    (hpre : ∀ vm₁, s.WarmedH vm₁ → Pre ⟨T.setVm vm₁, locs, cells, slots⟩ (Value.ref b :: argsL).toArray) :
    ∃ (v : Option Value) (vm₁ : Vm) (B : Pt), s.WarmedH vm₁ ∧ Stand p l e R s m args below meth c B.U B.locs B.cells B.slots ∧ Post ⟨T.setVm vm₁, locs, cells, slots⟩ (Value.ref b :: argsL).toArray v B ∧
      ∀ target, Steps p.tables e below (B.U.setTop { g with pc := g.pc + 3, stack := v.toList ++ rest }) target → Steps p.tables e below (T.setTop g) target := by
  obtain ⟨mk, methM, hnamed, hmethM, hstM, habM⟩ := Cond.instanceMethod_spec hinst
  obtain ⟨m8, methM', cM, hn8, hmethM', -, -, -, -, -, -, hsigM⟩ := Cond.codeWith_spec hcode
  cases Option.some.inj (hn8.symm.trans hnamed)
  cases hmethM.symm.trans hmethM'
  obtain ⟨c2, r2, m2, q1, q2, q3, q4, kP, hkP, hkPi⟩ := Cond.selects_spec hsel
  cases hcls.symm.trans q1
  cases (State.methodFound?_of_named hnamed hy).symm.trans q2
  cases hnamed.symm.trans q3
  have hselP : selectMethod e.platform s.vm cellB.cls mk = .method mk := by rw [Launch.admits_selectMethod X.admits]; exact q4
  obtain ⟨vm₁, X₁, hstep₁⟩ := X.invokevirtual hexec hown hlink hnamed hmethM hstM hkP hkPi hy (a := b) (cell := cellB) hcell
    (fun z h => by rw [h] at hobj; cases hobj) hselP hmethM habM hkP hkPi (g := g) hg (argsL := argsL) (rest := rest) (hlen _ hsigM) hstack hdg
  obtain ⟨v, B, X', hpost, hsteps⟩ := hK m meth c ⟨T.setVm vm₁, locs, cells, slots⟩ { g with stack := rest } (.invokevirtual index) mk (Value.ref b :: argsL).toArray X₁ hg hsize hdg hW (X₁.named hnamed) (hpre vm₁ X₁.warmed)
  exact ⟨v, vm₁, B, X₁.warmed, X', hpost, fun target h => hstep₁ _ fun acts => by rw [doInvoke_state]; exact hsteps.trans h⟩
abbrev vx_CVW (R : Room) (s : State) (args : Array Value) (own C : String) (index : Nat) (y : MethodName) (bytes : ByteArray) (maxL : Nat) (ret : Option FieldType) (hh : List (Nat × Nat × Nat × Nat)) (ws : List Cond) (rm : Room) (mc ms n : Nat) : Prop :=
  (rm.cells = mc ∧ rm.slots = ms ∧ rm.frames + 1 ≤ R.frames ∧ 8 + (maxL + 11) + rm.locals ≤ R.locals ∧ (∀ w ∈ ws, ∀ (a' : Array Value) (U : State), s.WarmedH U.vm → w.before a' U = true) ∧ Cond.codeWith y bytes maxL ret hh ∈ ws) ∧
  (Cond.codeWith y bytes maxL ret hh).before args s = true ∧ (Cond.initialized y.cls).before args s = true ∧ (y.cls ≠ "java/lang/invoke/MethodHandle" ∧ y.cls ≠ "java/lang/invoke/VarHandle") ∧
  (∀ sig, parseMethodDescriptor y.desc = some sig → n = sig.parameters.length) ∧ (Cond.methodLink own index y).before args s = true ∧ (Cond.instanceMethod y).before args s = true ∧ (Cond.selects C y y).before args s = true
theorem vx_cwVW {own C : String} {index maxL mc ms : Nat} {y : MethodName} {bytes : ByteArray} {ret : Option FieldType} {hh : List (Nat × Nat × Nat × Nat)} {Ts ws ws' : List Cond} {rm : Room} (n : Nat) (ht : ∀ w ∈ Ts, w.before args s = true) (hT : GoodIn Ts (wsV own index C y ws)) (hw : ws = Cond.codeWith y bytes maxL ret hh :: ws') (hrc : rm.cells = mc) (hrs : rm.slots = ms)
    (hd : y.cls = C ∧ y.cls ≠ "java/lang/invoke/MethodHandle" ∧ y.cls ≠ "java/lang/invoke/VarHandle" ∧ (parseMethodDescriptor y.desc).map (fun d => d.parameters.length) = some n) (hR : rm.frames + 1 ≤ R.frames ∧ 8 + (maxL + 11) + rm.locals ≤ R.locals) :
    vx_CVW R s args own C index y bytes maxL ret hh ws rm mc ms n := by
  obtain ⟨hC, hd⟩ := hd
  subst hC
  have ok : ∀ w ∈ wsV own index y.cls y ws, w.before args s = true := fun w h => ht w (hT w h).1
  have hG : GoodIn Ts ws := fun w h => hT w (by unfold wsV; exact List.mem_append_right _ h)
  have hc : Cond.codeWith y bytes maxL ret hh ∈ ws := by rw [hw]; exact List.mem_cons_self
  refine ⟨⟨hrc, hrs, hR.1, hR.2, pay_in ht hG, hc⟩, ht _ (hG _ hc).1, ok _ (by simp [wsV]), ⟨hd.1, hd.2.1⟩, fun sig h => ?_, ok _ (by simp [wsV]), ok _ (by simp [wsV]), ok _ (by simp [wsV])⟩
  have h2 := hd.2.2
  rw [h] at h2
  exact (Option.some.inj h2).symm
theorem vx_runVW {y : MethodName} {bytes cc : ByteArray} {maxL nL mc ms n index : Nat} {ret : Option FieldType} {hh : List (Nat × Nat × Nat × Nat)} {ws : List Cond} {rm : Room} {Pc : Array Value → State → Prop} {Qc : Array Value → State → Outcome → State → Prop} {free : Addr → Prop} {Ts : List Cond} {own C : String} {b : Addr} {As rest : List Value} {g : JFrame}
    (S : CallFix p m c cc nL s args Ts own) (hM : Met l y ws rm Pc Qc mc ms free) (cw : vx_CVW R s args own C index y bytes maxL ret hh ws rm mc ms n) (hp : PreV s H C b Pc As)
    (hg : g.method = m) (hn : As.length = n) (hsize : g.locals.size = nL) (hstack : g.stack = As.reverse ++ .ref b :: rest) (hW : 2 * g.monitorRoom + (rest.map fun v => v.category).sum ≤ 8) (hdg : decode cc g.pc = .ok (.invokevirtual index, 3)) (hf : cells + mc ≤ R.cells ∧ slots + ms ≤ R.slots) :
    va_Run p l e R s m args below meth c H locs cells slots mc ms g rest (Qc (Value.ref b :: As).toArray) free := by
  obtain ⟨⟨hrc, hrs, hfr, hlo, hws, hcw⟩, hcode, hini, hy, hlen, hl, hin, hse⟩ := cw
  have hK : Back l R p e below s args y 3 8 (PreOf R mc ms Pc) (PostOf Qc mc ms free) := va_backW (hh := hh) (bytes := bytes) (maxL := maxL) (ret := ret) hM hp.1 hrc hrs hfr hlo hws hcw (fun a' U hW => word_at hW (Or.inl (by first | rfl | simp [Cond.onTables, Cond.keeps, Cond.steady])) hini)
  obtain ⟨hx, hb, hml, ho, -⟩ := S
  obtain ⟨-, ⟨cellB, hcB, hoB, hclB⟩, hPc⟩ := hp
  intro T hT X
  obtain ⟨v, vm₁, ⟨U', l2, c2, s2⟩, hW₁, X', ⟨g', mk, t, L, e1, e2, hq, h1, hL, h2, h3⟩, st⟩ := vx_callVW X hx (C := C) (hh := hh) (bytes := bytes) (maxL := maxL) (ret := ret) ho hl hin hse hcode hy hK (by rw [hT]; exact hcB) hoB hclB hg (hsize.trans hml.symm) (argsL := As) (rest := rest) (fun sig h => hn.trans (hlen sig h)) hstack hW (by rw [hb]; exact hdg)
    (fun vm₁ hW₁ => ⟨hf.1, hf.2, hPc (T.setVm vm₁) hT hW₁⟩)
  dsimp only [Pt.U, Pt.locs, Pt.cells, Pt.slots] at X' e1 e2 h1 h2 h3 st
  subst h1; subst h2; subst h3
  exact ⟨v, (T.setVm vm₁).calling g' mk (Value.ref b :: As).toArray, t, U', L, hT, X', hL, e1, e2, hq, st⟩
section
variable {y : MethodName} {bytes cc : ByteArray} {maxL nL mc ms n index : Nat} {ret : Option FieldType} {ws : List Cond} {rm : Room} {Pc : Array Value → State → Prop} {Qc : Array Value → State → Outcome → State → Prop} {XC : String → State → State → Prop} {free : Addr → Prop} {Ts : List Cond} {own C : String} {b : Addr} {As rest : List Value} {g : JFrame}
theorem vx_runVX {hh : List (Nat × Nat × Nat × Nat)} (S : CallFix p m c cc nL s args Ts own) (hM : vx_Met l y ws rm Pc Qc XC mc ms free) (cw : vx_CVW R s args own C index y bytes maxL ret hh ws rm mc ms n) (hp : PreV s H C b Pc As)
    (hg : g.method = m) (hn : As.length = n) (hsize : g.locals.size = nL) (hstack : g.stack = As.reverse ++ .ref b :: rest) (hW : 2 * g.monitorRoom + (rest.map fun v => v.category).sum ≤ 8) (hdg : decode cc g.pc = .ok (.invokevirtual index, 3)) (hf : cells + mc ≤ R.cells ∧ slots + ms ≤ R.slots) :
    vx_Run p l e R s m args below meth c H locs cells slots mc ms g rest (Qc (Value.ref b :: As).toArray) XC free := by
  obtain ⟨⟨hrc, hrs, hfr, hlo, hws, hcw⟩, hcode, hini, hy, hlen, hl, hin, hse⟩ := cw
  have hK : vx_Back l R p e below s args y 3 8 (PreOf R mc ms Pc) (PostOf Qc mc ms free) (vx_Post XC mc ms free) := vx_backW (hh := hh) (bytes := bytes) (maxL := maxL) (ret := ret) hM hp.1 hrc hrs hfr hlo hws hcw (fun a' U hW => word_at hW (Or.inl (by first | rfl | simp [Cond.onTables, Cond.keeps, Cond.steady])) hini)
  obtain ⟨hx, hb, hml, ho, -⟩ := S
  obtain ⟨-, ⟨cellB, hcB, hoB, hclB⟩, hPc⟩ := hp
  intro T hT X
  rcases vx_callVX X hx (C := C) (hh := hh) (bytes := bytes) (maxL := maxL) (ret := ret) ho hl hin hse hcode hy hK (by rw [hT]; exact hcB) hoB hclB hg (hsize.trans hml.symm) (argsL := As) (rest := rest) (fun sig h => hn.trans (hlen sig h)) hstack hW (by rw [hb]; exact hdg)
    (fun vm₁ hW₁ => ⟨hf.1, hf.2, hPc (T.setVm vm₁) hT hW₁⟩) with ⟨v, vm₁, ⟨U', l2, c2, s2⟩, hW₁, X', ⟨g', mk, t, L, e1, e2, hq, h1, hL, h2, h3⟩, st⟩ | ⟨q, vm₁, ⟨U', l2, c2, s2⟩, hW₁, X', ⟨g', mk, t, L, E, ce, e1, e2, hq, hce, hcv, hcl, h1, hL, h2, h3⟩, st⟩
  · dsimp only [Pt.U, Pt.locs, Pt.cells, Pt.slots] at X' e1 e2 h1 h2 h3 st
    subst h1; subst h2; subst h3
    exact Or.inl ⟨v, (T.setVm vm₁).calling g' mk (Value.ref b :: As).toArray, t, U', L, hT, X', hL, e1, e2, hq, st⟩
  · dsimp only [Pt.U, Pt.locs, Pt.cells, Pt.slots] at X' e1 e2 h1 h2 h3 st hcl
    subst h1; subst h2; subst h3
    exact Or.inr ⟨q, (T.setVm vm₁).calling g' mk (Value.ref b :: As).toArray, t, U', L, E, ce, hT, X', hL, e1, e2, hq, hce, hcv, vx_cls hW₁ hcl, st⟩
theorem vx_runSX {hh : List (Nat × Nat × Nat × Nat)} (S : CallFix p m c cc nL s args Ts own) (hM : vx_Met l y ws rm Pc Qc XC mc ms free) (cw : vx_CSW R s args own index y bytes maxL ret hh ws rm mc ms n) (hp : PreS s H Pc As)
    (hg : g.method = m) (hn : As.length = n) (hsize : g.locals.size = nL) (hstack : g.stack = As.reverse ++ rest) (hW : 2 * g.monitorRoom + (rest.map fun v => v.category).sum ≤ 8) (hdg : decode cc g.pc = .ok (.invokestatic index, 3)) (hf : cells + mc ≤ R.cells ∧ slots + ms ≤ R.slots) :
    vx_Run p l e R s m args below meth c H locs cells slots mc ms g rest (Qc As.toArray) XC free := by
  obtain ⟨⟨hrc, hrs, hfr, hlo, hws, hcw⟩, hcode, hini, hy, hlen, hl, hstt⟩ := cw
  have hK : vx_Back l R p e below s args y 3 8 (PreOf R mc ms Pc) (PostOf Qc mc ms free) (vx_Post XC mc ms free) := vx_backW (hh := hh) (bytes := bytes) (maxL := maxL) (ret := ret) hM hp.1 hrc hrs hfr hlo hws hcw (fun a' U hW => word_at hW (Or.inl (by first | rfl | simp [Cond.onTables, Cond.keeps, Cond.steady])) hini)
  obtain ⟨hx, hb, hml, ho, -⟩ := S
  intro T hT X
  rcases vx_callSX X hx (hh := hh) (bytes := bytes) (maxL := maxL) (ret := ret) ho hl hstt hini hcode hy hK hg (hsize.trans hml.symm) (argsL := As) (rest := rest) (fun sig h => hn.trans (hlen sig h)) hstack hW (by rw [hb]; exact hdg)
    (fun vm₁ hW₁ => ⟨hf.1, hf.2, hp.2 (T.setVm vm₁) hT hW₁⟩) with ⟨v, vm₁, ⟨U', l2, c2, s2⟩, hW₁, X', ⟨g', mk, t, L, e1, e2, hq, h1, hL, h2, h3⟩, st⟩ | ⟨q, vm₁, ⟨U', l2, c2, s2⟩, hW₁, X', ⟨g', mk, t, L, E, ce, e1, e2, hq, hce, hcv, hcl, h1, hL, h2, h3⟩, st⟩
  · dsimp only [Pt.U, Pt.locs, Pt.cells, Pt.slots] at X' e1 e2 h1 h2 h3 st
    subst h1; subst h2; subst h3
    exact Or.inl ⟨v, (T.setVm vm₁).calling g' mk As.toArray, t, U', L, hT, X', hL, e1, e2, hq, st⟩
  · dsimp only [Pt.U, Pt.locs, Pt.cells, Pt.slots] at X' e1 e2 h1 h2 h3 st hcl
    subst h1; subst h2; subst h3
    exact Or.inr ⟨q, (T.setVm vm₁).calling g' mk As.toArray, t, U', L, E, ce, hT, X', hL, e1, e2, hq, hce, hcv, vx_cls hW₁ hcl, st⟩
end
end VXH
theorem vx_ofWH {l : Launch} {y : MethodName} {ws ws' : List Cond} {rm : Room} {Pc : Array Value → State → Prop} {Qc : Array Value → State → Outcome → State → Prop} {XC : String → State → State → Prop} {mc ms : Nat} {free : Addr → Prop} {cc : ByteArray} {maxL : Nat} {ret : Option FieldType} {hh : List (Nat × Nat × Nat × Nat)}
    (hy : plainName y.cls = true) (hw : ws = Cond.codeWith y cc maxL ret hh :: ws')
    (body : ∀ p e s m args below meth c s₁, BodyLoose p l y (headSpec ws rm) cc maxL ret e s m args below meth c s₁ → c.maxLocals = maxL → Pc args s →
      W p l e (headSpec ws rm).room s m args below meth c s.heap [] 0 0 (vx_MQ below Qc XC args s mc ms free) (entryFrame m args maxL)) : vx_Met l y ws rm Pc Qc XC mc ms free := by
  refine MetFree.of_bodyS (code := cc) (maxLocals := maxL) (ret := ret) hy ?_ ?_
  · intro args s m h hn
    obtain ⟨m9, meth, c, hn9, h1, h2, h3, h4, -, h5, h6, -⟩ := Cond.codeWith_spec (atoms_spec (ws := ws) h _ (by rw [hw]; exact List.mem_cons_self))
    cases hn.symm.trans hn9
    exact ⟨meth, c, h1, h2, h3, h4, h5, h6⟩
  · intro p e s m args below meth c s₁ B hml hP _
    have hh0 : s₁.heap = s.heap := by rw [B.state]; rfl
    obtain ⟨t, a1, o, b1, b2, b3⟩ := body p e s m args below meth c s₁ B hml hP s₁ hh0 (Stand.of_body B)
    exact ⟨t, o, a1, b1, b2, b3⟩
/-! ===== END ===== -/
end
section
/-! ===== BEGIN printed: names, fields, word lists, decode rows ===== -/
def RX0 : String := "PushNotices"
def TX0 : u_T := fun k => match k with
  | 0 => ("PushNotices", "devicesOfUser", "[I", true)
  | 1 => ("PushNotices", "devicesOfTopic", "[I", true)
  | 2 => ("PushNotices", "alive", "I", false)
  | 3 => ("PushNotices", "online", "I", false)
  | 4 => ("PushNotices", "dozing", "I", false)
  | 5 => ("PushNotices", "zoneOffset", "[I", true)
  | 6 => ("PushNotices", "quietFrom", "[I", true)
  | 7 => ("PushNotices", "quietTo", "[I", true)
  | 8 => ("PushNotices", "quotaDay", "[I", true)
  | 9 => ("PushNotices", "quotaSpent", "[I", true)
  | 10 => ("PushNotices", "deviceCount", "I", false)
  | 11 => ("PushNotices", "isHighNotice", "[Z", true)
  | 12 => ("PushNotices", "fallsAt", "[I", true)
  | 13 => ("PushNotices", "waitSet", "[I", true)
  | 14 => ("PushNotices", "deliveredSet", "[I", true)
  | 15 => ("PushNotices", "lastWithKey", "[I", true)
  | 16 => ("PushNotices", "noticeCount", "I", false)
  | 17 => ("PushNotices", "minute", "I", false)
  | _ => ("PushNotices", "deliveryCount", "I", false)
def tyX0 : Nat → FieldType := fun k => match k with
  | 0 => .array .int
  | 1 => .array .int
  | 2 => .int
  | 3 => .int
  | 4 => .int
  | 5 => .array .int
  | 6 => .array .int
  | 7 => .array .int
  | 8 => .array .int
  | 9 => .array .int
  | 10 => .int
  | 11 => .array .boolean
  | 12 => .array .int
  | 13 => .array .int
  | 14 => .array .int
  | 15 => .array .int
  | 16 => .int
  | 17 => .int
  | _ => .int
abbrev wsX00 : List Cond := u_ws RX0 TX0 19
theorem nmX0 : ∀ a, a < 19 → ∀ b, b < 19 → a ≠ b → (TX0 a).2.1 ≠ (TX0 b).2.1 := by decide +kernel
theorem tyX0_ok : ∀ k, k < 19 → parseFieldDescriptor (TX0 k).2.2.1 = some (tyX0 k) := by decide +kernel
abbrev cX0_init : ByteArray := prog_1_method_1_code
def yX0_init : MethodName := ⟨RX0, "<init>", "()V"⟩
abbrev cX0_addDevice : ByteArray := prog_1_method_2_code
def yX0_addDevice : MethodName := ⟨RX0, "addDevice", "(II)I"⟩
abbrev cX0_setOnline : ByteArray := prog_1_method_3_code
def yX0_setOnline : MethodName := ⟨RX0, "setOnline", "(IZ)I"⟩
abbrev cX0_setDozing : ByteArray := prog_1_method_4_code
def yX0_setDozing : MethodName := ⟨RX0, "setDozing", "(IZ)I"⟩
abbrev cX0_setQuiet : ByteArray := prog_1_method_5_code
def yX0_setQuiet : MethodName := ⟨RX0, "setQuiet", "(III)I"⟩
abbrev cX0_join : ByteArray := prog_1_method_6_code
def yX0_join : MethodName := ⟨RX0, "join", "(IIZ)Z"⟩
abbrev cX0_kill : ByteArray := prog_1_method_7_code
def yX0_kill : MethodName := ⟨RX0, "kill", "(I)I"⟩
abbrev cX0_devices : ByteArray := prog_1_method_8_code
def yX0_devices : MethodName := ⟨RX0, "devices", "()I"⟩
abbrev cX0_isQuiet : ByteArray := prog_1_method_9_code
def yX0_isQuiet : MethodName := ⟨RX0, "isQuiet", "(I)Z"⟩
abbrev cX0_send : ByteArray := prog_1_method_10_code
def yX0_send : MethodName := ⟨RX0, "send", "(IIZI)I"⟩
abbrev cX0_sendBy : ByteArray := prog_1_method_11_code
def yX0_sendBy : MethodName := ⟨RX0, "sendBy", "(IIIZI)I"⟩
abbrev cX0_read : ByteArray := prog_1_method_12_code
def yX0_read : MethodName := ⟨RX0, "read", "(II)I"⟩
abbrev cX0_sent : ByteArray := prog_1_method_13_code
def yX0_sent : MethodName := ⟨RX0, "sent", "()I"⟩
abbrev cX0_stands : ByteArray := prog_1_method_14_code
def yX0_stands : MethodName := ⟨RX0, "stands", "(I)Z"⟩
abbrev cX0_waitsFor : ByteArray := prog_1_method_15_code
def yX0_waitsFor : MethodName := ⟨RX0, "waitsFor", "(I)I"⟩
abbrev cX0_deliveredTo : ByteArray := prog_1_method_16_code
def yX0_deliveredTo : MethodName := ⟨RX0, "deliveredTo", "(I)I"⟩
abbrev cX0_standing : ByteArray := prog_1_method_17_code
def yX0_standing : MethodName := ⟨RX0, "standing", "(II)I"⟩
abbrev cX0_badge : ByteArray := prog_1_method_18_code
def yX0_badge : MethodName := ⟨RX0, "badge", "(I)I"⟩
abbrev cX0_waiting : ByteArray := prog_1_method_19_code
def yX0_waiting : MethodName := ⟨RX0, "waiting", "(I)I"⟩
abbrev cX0_quota : ByteArray := prog_1_method_20_code
def yX0_quota : MethodName := ⟨RX0, "quota", "(I)I"⟩
abbrev cX0_pass : ByteArray := prog_1_method_21_code
def yX0_pass : MethodName := ⟨RX0, "pass", "(I)I"⟩
abbrev cX0_clock : ByteArray := prog_1_method_22_code
def yX0_clock : MethodName := ⟨RX0, "clock", "()I"⟩
abbrev cX0_deliveries : ByteArray := prog_1_method_23_code
def yX0_deliveries : MethodName := ⟨RX0, "deliveries", "()I"⟩
abbrev cX0_requireWithin : ByteArray := prog_1_method_24_code
def yX0_requireWithin : MethodName := ⟨RX0, "requireWithin", "(III)V"⟩
abbrev cX0_requireDevice : ByteArray := prog_1_method_25_code
def yX0_requireDevice : MethodName := ⟨RX0, "requireDevice", "(I)V"⟩
abbrev cX0_requireNotice : ByteArray := prog_1_method_26_code
def yX0_requireNotice : MethodName := ⟨RX0, "requireNotice", "(I)V"⟩
abbrev cX0_requireRoomForNotice : ByteArray := prog_1_method_27_code
def yX0_requireRoomForNotice : MethodName := ⟨RX0, "requireRoomForNotice", "()V"⟩
abbrev cX0_bitOf : ByteArray := prog_1_method_28_code
def yX0_bitOf : MethodName := ⟨RX0, "bitOf", "(I)I"⟩
abbrev cX0_has : ByteArray := prog_1_method_29_code
def yX0_has : MethodName := ⟨RX0, "has", "(II)Z"⟩
abbrev cX0_changed : ByteArray := prog_1_method_30_code
def yX0_changed : MethodName := ⟨RX0, "changed", "(IIZ)I"⟩
abbrev cX0_devicesThatFulfil : ByteArray := prog_1_method_31_code
def yX0_devicesThatFulfil : MethodName := ⟨RX0, "devicesThatFulfil", "(III)I"⟩
abbrev cX0_placeOf : ByteArray := prog_1_method_32_code
def yX0_placeOf : MethodName := ⟨RX0, "placeOf", "(II)I"⟩
abbrev cX0_replaceKey : ByteArray := prog_1_method_33_code
def yX0_replaceKey : MethodName := ⟨RX0, "replaceKey", "(II)V"⟩
abbrev cX0_sendTo : ByteArray := prog_1_method_34_code
def yX0_sendTo : MethodName := ⟨RX0, "sendTo", "(IZI)I"⟩
abbrev cX0_withdraw : ByteArray := prog_1_method_35_code
def yX0_withdraw : MethodName := ⟨RX0, "withdraw", "(I)V"⟩
abbrev cX0_isStanding : ByteArray := prog_1_method_36_code
def yX0_isStanding : MethodName := ⟨RX0, "isStanding", "(I)Z"⟩
abbrev cX0_waitsNow : ByteArray := prog_1_method_37_code
def yX0_waitsNow : MethodName := ⟨RX0, "waitsNow", "(I)I"⟩
abbrev cX0_countWaiting : ByteArray := prog_1_method_38_code
def yX0_countWaiting : MethodName := ⟨RX0, "countWaiting", "(I)I"⟩
abbrev cX0_localTime : ByteArray := prog_1_method_39_code
def yX0_localTime : MethodName := ⟨RX0, "localTime", "(I)I"⟩
abbrev cX0_isInQuietHours : ByteArray := prog_1_method_40_code
def yX0_isInQuietHours : MethodName := ⟨RX0, "isInQuietHours", "(I)Z"⟩
abbrev cX0_spentToday : ByteArray := prog_1_method_41_code
def yX0_spentToday : MethodName := ⟨RX0, "spentToday", "(I)I"⟩
abbrev cX0_spendQuota : ByteArray := prog_1_method_42_code
def yX0_spendQuota : MethodName := ⟨RX0, "spendQuota", "(I)V"⟩
abbrev cX0_deliverNow : ByteArray := prog_1_method_43_code
def yX0_deliverNow : MethodName := ⟨RX0, "deliverNow", "()I"⟩
abbrev cX0_deliver : ByteArray := prog_1_method_44_code
def yX0_deliver : MethodName := ⟨RX0, "deliver", "(II)V"⟩
abbrev cX0_openToNormal : ByteArray := prog_1_method_45_code
def yX0_openToNormal : MethodName := ⟨RX0, "openToNormal", "()I"⟩
abbrev cX0_openToHigh : ByteArray := prog_1_method_46_code
def yX0_openToHigh : MethodName := ⟨RX0, "openToHigh", "()I"⟩
abbrev cX0_nextChance : ByteArray := prog_1_method_47_code
def yX0_nextChance : MethodName := ⟨RX0, "nextChance", "()I"⟩
def RX1 : String := "PushNoticesModel"
def TX1 : u_T := fun k => match k with
  | _ => ("", "", "", false)
def tyX1 : Nat → FieldType := fun k => match k with
  | _ => .int
abbrev wsX10 : List Cond := u_ws RX1 TX1 0
theorem nmX1 : ∀ a, a < 0 → ∀ b, b < 0 → a ≠ b → (TX1 a).2.1 ≠ (TX1 b).2.1 := by decide +kernel
theorem tyX1_ok : ∀ k, k < 0 → parseFieldDescriptor (TX1 k).2.2.1 = some (tyX1 k) := by decide +kernel
def RJ6 : String := "java/lang/Integer"
def TJ6 : u_T := fun k => match k with
  | _ => ("", "", "", false)
def tyJ6 : Nat → FieldType := fun k => match k with
  | _ => .int
abbrev wsJ60 : List Cond := u_ws RJ6 TJ6 0
theorem nmJ6 : ∀ a, a < 0 → ∀ b, b < 0 → a ≠ b → (TJ6 a).2.1 ≠ (TJ6 b).2.1 := by decide +kernel
theorem tyJ6_ok : ∀ k, k < 0 → parseFieldDescriptor (TJ6 k).2.2.1 = some (tyJ6 k) := by decide +kernel
abbrev cJ6_bitCount_0f7a4 : ByteArray := prog_8_method_49_code
def yJ6_bitCount_0f7a4 : MethodName := ⟨RJ6, "bitCount", "(I)I"⟩
def RJ9 : String := "java/lang/Math"
def TJ9 : u_T := fun k => match k with
  | _ => ("", "", "", false)
def tyJ9 : Nat → FieldType := fun k => match k with
  | _ => .int
abbrev wsJ90 : List Cond := u_ws RJ9 TJ9 0
theorem nmJ9 : ∀ a, a < 0 → ∀ b, b < 0 → a ≠ b → (TJ9 a).2.1 ≠ (TJ9 b).2.1 := by decide +kernel
theorem tyJ9_ok : ∀ k, k < 0 → parseFieldDescriptor (TJ9 k).2.2.1 = some (tyJ9 k) := by decide +kernel
abbrev cJ9_floorMod_7cf53 : ByteArray := prog_9_method_50_code
def yJ9_floorMod_7cf53 : MethodName := ⟨RJ9, "floorMod", "(II)I"⟩
abbrev cJ9_min_7cf53 : ByteArray := prog_9_method_69_code
def yJ9_min_7cf53 : MethodName := ⟨RJ9, "min", "(II)I"⟩
def RJ0 : String := "java/lang/String"
def TJ0 : u_T := fun k => match k with
  | _ => ("", "", "", false)
def tyJ0 : Nat → FieldType := fun k => match k with
  | _ => .int
abbrev wsJ00 : List Cond := u_ws RJ0 TJ0 0
theorem nmJ0 : ∀ a, a < 0 → ∀ b, b < 0 → a ≠ b → (TJ0 a).2.1 ≠ (TJ0 b).2.1 := by decide +kernel
theorem tyJ0_ok : ∀ k, k < 0 → parseFieldDescriptor (TJ0 k).2.2.1 = some (tyJ0 k) := by decide +kernel
def RL : String := "PushNoticesLaw"
abbrev cL_adds : ByteArray := method_2_code
def yL_adds : MethodName := ⟨RL, "adds", "(LPushNotices;II)I"⟩
abbrev cL_online : ByteArray := method_3_code
def yL_online : MethodName := ⟨RL, "online", "(LPushNotices;IZ)I"⟩
abbrev cL_dozes : ByteArray := method_4_code
def yL_dozes : MethodName := ⟨RL, "dozes", "(LPushNotices;IZ)I"⟩
abbrev cL_quiets : ByteArray := method_5_code
def yL_quiets : MethodName := ⟨RL, "quiets", "(LPushNotices;III)I"⟩
abbrev cL_joins : ByteArray := method_6_code
def yL_joins : MethodName := ⟨RL, "joins", "(LPushNotices;IIZ)I"⟩
abbrev cL_kills : ByteArray := method_7_code
def yL_kills : MethodName := ⟨RL, "kills", "(LPushNotices;I)I"⟩
abbrev cL_quiet : ByteArray := method_8_code
def yL_quiet : MethodName := ⟨RL, "quiet", "(LPushNotices;I)I"⟩
abbrev cL_sends : ByteArray := method_9_code
def yL_sends : MethodName := ⟨RL, "sends", "(LPushNotices;IIZI)I"⟩
abbrev cL_sendsBy : ByteArray := method_10_code
def yL_sendsBy : MethodName := ⟨RL, "sendsBy", "(LPushNotices;IIIZI)I"⟩
abbrev cL_reads : ByteArray := method_11_code
def yL_reads : MethodName := ⟨RL, "reads", "(LPushNotices;II)I"⟩
abbrev cL_stands : ByteArray := method_12_code
def yL_stands : MethodName := ⟨RL, "stands", "(LPushNotices;I)I"⟩
abbrev cL_waits : ByteArray := method_13_code
def yL_waits : MethodName := ⟨RL, "waits", "(LPushNotices;I)I"⟩
abbrev cL_delivered : ByteArray := method_14_code
def yL_delivered : MethodName := ⟨RL, "delivered", "(LPushNotices;I)I"⟩
abbrev cL_standing : ByteArray := method_15_code
def yL_standing : MethodName := ⟨RL, "standing", "(LPushNotices;II)I"⟩
abbrev cL_badge : ByteArray := method_16_code
def yL_badge : MethodName := ⟨RL, "badge", "(LPushNotices;I)I"⟩
abbrev cL_waiting : ByteArray := method_17_code
def yL_waiting : MethodName := ⟨RL, "waiting", "(LPushNotices;I)I"⟩
abbrev cL_quota : ByteArray := method_18_code
def yL_quota : MethodName := ⟨RL, "quota", "(LPushNotices;I)I"⟩
abbrev cL_passes : ByteArray := method_19_code
def yL_passes : MethodName := ⟨RL, "passes", "(LPushNotices;I)I"⟩
abbrev cL_drawn : ByteArray := method_20_code
def yL_drawn : MethodName := ⟨RL, "drawn", "([II)I"⟩
abbrev cL_refuses : ByteArray := method_21_code
def yL_refuses : MethodName := ⟨RL, "refuses", "(LPushNotices;I)Z"⟩
abbrev cL_act : ByteArray := method_22_code
def yL_act : MethodName := ⟨RL, "act", "(LPushNotices;IZ)I"⟩
abbrev cL_alike : ByteArray := method_23_code
def yL_alike : MethodName := ⟨RL, "alike", "(LPushNotices;LPushNotices;)Z"⟩
abbrev cL_bits : ByteArray := method_24_code
def yL_bits : MethodName := ⟨RL, "bits", "(I)I"⟩
abbrev cL_holds : ByteArray := method_25_code
def yL_holds : MethodName := ⟨RL, "holds", "(LPushNotices;)Z"⟩
abbrev cL_wakes : ByteArray := method_26_code
def yL_wakes : MethodName := ⟨RL, "wakes", "(LPushNotices;)Z"⟩
abbrev cL_law : ByteArray := code
def yL_law : MethodName := ⟨RL, "law", "([I)Z"⟩
def wsX0_init : List Cond := .code yX0_init cX0_init 2 none :: ([.methodLink RX0 1 objectInit, .instanceMethod objectInit, .code objectInit ⟨#[0xb1]⟩ 1 none, .arrayClass .int, .fieldLink RX0 9 "PushNotices" "devicesOfUser" "[I", .fieldLink RX0 13 "PushNotices" "devicesOfTopic" "[I", .fieldLink RX0 16 "PushNotices" "alive" "I", .fieldLink RX0 20 "PushNotices" "online" "I", .fieldLink RX0 23 "PushNotices" "dozing" "I", .fieldLink RX0 26 "PushNotices" "zoneOffset" "[I", .fieldLink RX0 29 "PushNotices" "quietFrom" "[I", .fieldLink RX0 32 "PushNotices" "quietTo" "[I", .fieldLink RX0 35 "PushNotices" "quotaDay" "[I", .fieldLink RX0 38 "PushNotices" "quotaSpent" "[I", .fieldLink RX0 41 "PushNotices" "deviceCount" "I", .arrayClass .boolean, .fieldLink RX0 44 "PushNotices" "isHighNotice" "[Z", .fieldLink RX0 48 "PushNotices" "fallsAt" "[I", .fieldLink RX0 51 "PushNotices" "waitSet" "[I", .fieldLink RX0 54 "PushNotices" "deliveredSet" "[I", .fieldLink RX0 57 "PushNotices" "lastWithKey" "[I", .fieldLink RX0 60 "PushNotices" "noticeCount" "I", .fieldLink RX0 63 "PushNotices" "minute" "I", .fieldLink RX0 66 "PushNotices" "deliveryCount" "I"] ++ wsX00)
def wsX0_requireWithin : List Cond := .code yX0_requireWithin cX0_requireWithin 3 none :: ([.classLink RX0 161 "java/lang/IllegalArgumentException", .initialized "java/lang/IllegalArgumentException"] ++ (vx_atS RX0 165 "java/lang/IllegalArgumentException" ["java/lang/RuntimeException", "java/lang/Exception"]).filter goodWord)
def wsX0_bitOf : List Cond := .code yX0_bitOf cX0_bitOf 1 (some .int) :: ([])
def wsX0_addDevice : List Cond := .code yX0_addDevice cX0_addDevice 4 (some .int) :: ([.classLink RX0 73 "java/lang/IllegalStateException", .initialized "java/lang/IllegalStateException", .fieldLink RX0 41 "PushNotices" "deviceCount" "I", .fieldLink RX0 26 "PushNotices" "zoneOffset" "[I", .fieldLink RX0 9 "PushNotices" "devicesOfUser" "[I", .fieldLink RX0 16 "PushNotices" "alive" "I", .fieldLink RX0 20 "PushNotices" "online" "I", .methodLink RX0 69 yX0_requireWithin, .static yX0_requireWithin, .initialized RX0, .code yX0_requireWithin cX0_requireWithin 3 none, .classLink RX0 161 "java/lang/IllegalArgumentException", .initialized "java/lang/IllegalArgumentException", .methodLink RX0 80 yX0_bitOf, .static yX0_bitOf, .code yX0_bitOf cX0_bitOf 1 (some .int)] ++ wsX00 ++ (vx_atS RX0 77 "java/lang/IllegalStateException" ["java/lang/RuntimeException", "java/lang/Exception"]).filter goodWord ++ (vx_atS RX0 165 "java/lang/IllegalArgumentException" ["java/lang/RuntimeException", "java/lang/Exception"]).filter goodWord)
def wsX0_requireDevice : List Cond := .code yX0_requireDevice cX0_requireDevice 2 none :: ([.classLink RX0 166 "java/lang/IndexOutOfBoundsException", .initialized "java/lang/IndexOutOfBoundsException", .fieldLink RX0 41 "PushNotices" "deviceCount" "I"] ++ wsX00 ++ (vx_atS RX0 170 "java/lang/IndexOutOfBoundsException" ["java/lang/RuntimeException", "java/lang/Exception"]).filter goodWord)
def wsX0_changed : List Cond := .code yX0_changed cX0_changed 3 (some .int) :: ([.methodLink RX0 80 yX0_bitOf, .static yX0_bitOf, .initialized RX0, .code yX0_bitOf cX0_bitOf 1 (some .int)])
def wsJ9_floorMod_7cf53 : List Cond := .code yJ9_floorMod_7cf53 cJ9_floorMod_7cf53 3 (some .int) :: ([])
def wsX0_localTime : List Cond := .code yX0_localTime cX0_localTime 2 (some .int) :: ([.fieldLink RX0 63 "PushNotices" "minute" "I", .fieldLink RX0 26 "PushNotices" "zoneOffset" "[I", .methodLink RX0 175 yJ9_floorMod_7cf53, .static yJ9_floorMod_7cf53, .initialized RJ9, .code yJ9_floorMod_7cf53 cJ9_floorMod_7cf53 3 (some .int)] ++ wsX00)
def wsX0_isInQuietHours : List Cond := .code yX0_isInQuietHours cX0_isInQuietHours 4 (some .boolean) :: ([.fieldLink RX0 29 "PushNotices" "quietFrom" "[I", .fieldLink RX0 32 "PushNotices" "quietTo" "[I", .methodLink RX0 178 yX0_localTime, .instanceMethod yX0_localTime, .selects RX0 yX0_localTime yX0_localTime, .initialized RX0, .code yX0_localTime cX0_localTime 2 (some .int), .fieldLink RX0 63 "PushNotices" "minute" "I", .fieldLink RX0 26 "PushNotices" "zoneOffset" "[I", .methodLink RX0 175 yJ9_floorMod_7cf53, .static yJ9_floorMod_7cf53, .initialized RJ9, .code yJ9_floorMod_7cf53 cJ9_floorMod_7cf53 3 (some .int)] ++ wsX00)
def wsX0_openToNormal_r1 : List Cond := [Cond.fieldLink RX0 63 "PushNotices" "minute" "I", Cond.fieldLink RX0 20 "PushNotices" "online" "I", Cond.fieldLink RX0 23 "PushNotices" "dozing" "I", Cond.fieldLink RX0 41 "PushNotices" "deviceCount" "I", Cond.methodLink RX0 105 yX0_isInQuietHours, Cond.instanceMethod yX0_isInQuietHours, Cond.selects RX0 yX0_isInQuietHours yX0_isInQuietHours, Cond.initialized RX0, Cond.code yX0_isInQuietHours cX0_isInQuietHours 4 (some .boolean), Cond.fieldLink RX0 29 "PushNotices" "quietFrom" "[I", Cond.fieldLink RX0 32 "PushNotices" "quietTo" "[I", Cond.methodLink RX0 178 yX0_localTime, Cond.instanceMethod yX0_localTime, Cond.selects RX0 yX0_localTime yX0_localTime, Cond.code yX0_localTime cX0_localTime 2 (some .int), Cond.fieldLink RX0 26 "PushNotices" "zoneOffset" "[I", Cond.methodLink RX0 175 yJ9_floorMod_7cf53, Cond.static yJ9_floorMod_7cf53, Cond.initialized RJ9, Cond.code yJ9_floorMod_7cf53 cJ9_floorMod_7cf53 3 (some .int), Cond.methodLink RX0 88 yX0_changed, Cond.static yX0_changed, Cond.code yX0_changed cX0_changed 3 (some .int), Cond.methodLink RX0 80 yX0_bitOf]
def wsX0_openToNormal_r2 : List Cond := [Cond.static yX0_bitOf, Cond.code yX0_bitOf cX0_bitOf 1 (some .int)]
def wsX0_openToNormal : List Cond := .code yX0_openToNormal cX0_openToNormal 3 (some .int) :: ((wsX0_openToNormal_r1 ++ wsX0_openToNormal_r2) ++ wsX00)
def wsX0_isStanding : List Cond := .code yX0_isStanding cX0_isStanding 2 (some .boolean) :: ([.fieldLink RX0 63 "PushNotices" "minute" "I", .fieldLink RX0 48 "PushNotices" "fallsAt" "[I"] ++ wsX00)
def wsX0_waitsNow : List Cond := .code yX0_waitsNow cX0_waitsNow 2 (some .int) :: ([.fieldLink RX0 51 "PushNotices" "waitSet" "[I", .methodLink RX0 127 yX0_isStanding, .instanceMethod yX0_isStanding, .selects RX0 yX0_isStanding yX0_isStanding, .initialized RX0, .code yX0_isStanding cX0_isStanding 2 (some .boolean), .fieldLink RX0 63 "PushNotices" "minute" "I", .fieldLink RX0 48 "PushNotices" "fallsAt" "[I"] ++ wsX00)
def wsX0_has : List Cond := .code yX0_has cX0_has 2 (some .boolean) :: ([.methodLink RX0 80 yX0_bitOf, .static yX0_bitOf, .initialized RX0, .code yX0_bitOf cX0_bitOf 1 (some .int)])
def wsX0_spentToday : List Cond := .code yX0_spentToday cX0_spentToday 2 (some .int) :: ([.fieldLink RX0 35 "PushNotices" "quotaDay" "[I", .fieldLink RX0 63 "PushNotices" "minute" "I", .fieldLink RX0 38 "PushNotices" "quotaSpent" "[I"] ++ wsX00)
def wsX0_openToHigh : List Cond := .code yX0_openToHigh cX0_openToHigh 3 (some .int) :: ([.fieldLink RX0 20 "PushNotices" "online" "I", .fieldLink RX0 41 "PushNotices" "deviceCount" "I", .fieldLink RX0 23 "PushNotices" "dozing" "I", .methodLink RX0 96 yX0_has, .static yX0_has, .initialized RX0, .code yX0_has cX0_has 2 (some .boolean), .methodLink RX0 80 yX0_bitOf, .static yX0_bitOf, .code yX0_bitOf cX0_bitOf 1 (some .int), .methodLink RX0 147 yX0_spentToday, .instanceMethod yX0_spentToday, .selects RX0 yX0_spentToday yX0_spentToday, .code yX0_spentToday cX0_spentToday 2 (some .int), .fieldLink RX0 35 "PushNotices" "quotaDay" "[I", .fieldLink RX0 63 "PushNotices" "minute" "I", .fieldLink RX0 38 "PushNotices" "quotaSpent" "[I", .methodLink RX0 88 yX0_changed, .static yX0_changed, .code yX0_changed cX0_changed 3 (some .int)] ++ wsX00)
def wsJ6_bitCount_0f7a4 : List Cond := .code yJ6_bitCount_0f7a4 cJ6_bitCount_0f7a4 1 (some .int) :: ([.constant RJ6 265 (1431655765), .constant RJ6 266 (858993459), .constant RJ6 267 (252645135)])
def wsX0_spendQuota : List Cond := .code yX0_spendQuota cX0_spendQuota 3 none :: ([.fieldLink RX0 41 "PushNotices" "deviceCount" "I", .fieldLink RX0 38 "PushNotices" "quotaSpent" "[I", .fieldLink RX0 35 "PushNotices" "quotaDay" "[I", .fieldLink RX0 63 "PushNotices" "minute" "I", .methodLink RX0 96 yX0_has, .static yX0_has, .initialized RX0, .code yX0_has cX0_has 2 (some .boolean), .methodLink RX0 80 yX0_bitOf, .static yX0_bitOf, .code yX0_bitOf cX0_bitOf 1 (some .int), .methodLink RX0 147 yX0_spentToday, .instanceMethod yX0_spentToday, .selects RX0 yX0_spentToday yX0_spentToday, .code yX0_spentToday cX0_spentToday 2 (some .int)] ++ wsX00)
def wsX0_deliver_r1 : List Cond := [Cond.fieldLink RX0 51 "PushNotices" "waitSet" "[I", Cond.fieldLink RX0 54 "PushNotices" "deliveredSet" "[I", Cond.fieldLink RX0 66 "PushNotices" "deliveryCount" "I", Cond.fieldLink RX0 44 "PushNotices" "isHighNotice" "[Z", Cond.fieldLink RX0 23 "PushNotices" "dozing" "I", Cond.methodLink RX0 135 yJ6_bitCount_0f7a4, Cond.static yJ6_bitCount_0f7a4, Cond.initialized RJ6, Cond.code yJ6_bitCount_0f7a4 cJ6_bitCount_0f7a4 1 (some .int), Cond.constant RJ6 265 (1431655765), Cond.constant RJ6 266 (858993459), Cond.constant RJ6 267 (252645135), Cond.methodLink RX0 190 yX0_spendQuota, Cond.instanceMethod yX0_spendQuota, Cond.selects RX0 yX0_spendQuota yX0_spendQuota, Cond.initialized RX0, Cond.code yX0_spendQuota cX0_spendQuota 3 none, Cond.fieldLink RX0 41 "PushNotices" "deviceCount" "I", Cond.fieldLink RX0 38 "PushNotices" "quotaSpent" "[I", Cond.fieldLink RX0 35 "PushNotices" "quotaDay" "[I", Cond.fieldLink RX0 63 "PushNotices" "minute" "I", Cond.methodLink RX0 96 yX0_has, Cond.static yX0_has, Cond.code yX0_has cX0_has 2 (some .boolean)]
def wsX0_deliver_r2 : List Cond := [Cond.methodLink RX0 80 yX0_bitOf, Cond.static yX0_bitOf, Cond.code yX0_bitOf cX0_bitOf 1 (some .int), Cond.methodLink RX0 147 yX0_spentToday, Cond.instanceMethod yX0_spentToday, Cond.selects RX0 yX0_spentToday yX0_spentToday, Cond.code yX0_spentToday cX0_spentToday 2 (some .int)]
def wsX0_deliver : List Cond := .code yX0_deliver cX0_deliver 3 none :: ((wsX0_deliver_r1 ++ wsX0_deliver_r2) ++ wsX00)
def wsX0_deliverNow_r1 : List Cond := [Cond.fieldLink RX0 66 "PushNotices" "deliveryCount" "I", Cond.fieldLink RX0 60 "PushNotices" "noticeCount" "I", Cond.fieldLink RX0 44 "PushNotices" "isHighNotice" "[Z", Cond.methodLink RX0 181 yX0_openToNormal, Cond.instanceMethod yX0_openToNormal, Cond.selects RX0 yX0_openToNormal yX0_openToNormal, Cond.initialized RX0, Cond.code yX0_openToNormal cX0_openToNormal 3 (some .int), Cond.fieldLink RX0 63 "PushNotices" "minute" "I", Cond.fieldLink RX0 20 "PushNotices" "online" "I", Cond.fieldLink RX0 23 "PushNotices" "dozing" "I", Cond.fieldLink RX0 41 "PushNotices" "deviceCount" "I", Cond.methodLink RX0 105 yX0_isInQuietHours, Cond.instanceMethod yX0_isInQuietHours, Cond.selects RX0 yX0_isInQuietHours yX0_isInQuietHours, Cond.code yX0_isInQuietHours cX0_isInQuietHours 4 (some .boolean), Cond.fieldLink RX0 29 "PushNotices" "quietFrom" "[I", Cond.fieldLink RX0 32 "PushNotices" "quietTo" "[I", Cond.methodLink RX0 178 yX0_localTime, Cond.instanceMethod yX0_localTime, Cond.selects RX0 yX0_localTime yX0_localTime, Cond.code yX0_localTime cX0_localTime 2 (some .int), Cond.fieldLink RX0 26 "PushNotices" "zoneOffset" "[I", Cond.methodLink RX0 175 yJ9_floorMod_7cf53]
def wsX0_deliverNow_r2 : List Cond := [Cond.static yJ9_floorMod_7cf53, Cond.initialized RJ9, Cond.code yJ9_floorMod_7cf53 cJ9_floorMod_7cf53 3 (some .int), Cond.methodLink RX0 88 yX0_changed, Cond.static yX0_changed, Cond.code yX0_changed cX0_changed 3 (some .int), Cond.methodLink RX0 80 yX0_bitOf, Cond.static yX0_bitOf, Cond.code yX0_bitOf cX0_bitOf 1 (some .int), Cond.methodLink RX0 132 yX0_waitsNow, Cond.instanceMethod yX0_waitsNow, Cond.selects RX0 yX0_waitsNow yX0_waitsNow, Cond.code yX0_waitsNow cX0_waitsNow 2 (some .int), Cond.fieldLink RX0 51 "PushNotices" "waitSet" "[I", Cond.methodLink RX0 127 yX0_isStanding, Cond.instanceMethod yX0_isStanding, Cond.selects RX0 yX0_isStanding yX0_isStanding, Cond.code yX0_isStanding cX0_isStanding 2 (some .boolean), Cond.fieldLink RX0 48 "PushNotices" "fallsAt" "[I", Cond.methodLink RX0 184 yX0_openToHigh, Cond.instanceMethod yX0_openToHigh, Cond.selects RX0 yX0_openToHigh yX0_openToHigh, Cond.code yX0_openToHigh cX0_openToHigh 3 (some .int), Cond.methodLink RX0 96 yX0_has]
def wsX0_deliverNow_r3 : List Cond := [Cond.static yX0_has, Cond.code yX0_has cX0_has 2 (some .boolean), Cond.methodLink RX0 147 yX0_spentToday, Cond.instanceMethod yX0_spentToday, Cond.selects RX0 yX0_spentToday yX0_spentToday, Cond.code yX0_spentToday cX0_spentToday 2 (some .int), Cond.fieldLink RX0 35 "PushNotices" "quotaDay" "[I", Cond.fieldLink RX0 38 "PushNotices" "quotaSpent" "[I", Cond.methodLink RX0 187 yX0_deliver, Cond.instanceMethod yX0_deliver, Cond.selects RX0 yX0_deliver yX0_deliver, Cond.code yX0_deliver cX0_deliver 3 none, Cond.fieldLink RX0 54 "PushNotices" "deliveredSet" "[I", Cond.methodLink RX0 135 yJ6_bitCount_0f7a4, Cond.static yJ6_bitCount_0f7a4, Cond.initialized RJ6, Cond.code yJ6_bitCount_0f7a4 cJ6_bitCount_0f7a4 1 (some .int), Cond.constant RJ6 265 (1431655765), Cond.constant RJ6 266 (858993459), Cond.constant RJ6 267 (252645135), Cond.methodLink RX0 190 yX0_spendQuota, Cond.instanceMethod yX0_spendQuota, Cond.selects RX0 yX0_spendQuota yX0_spendQuota, Cond.code yX0_spendQuota cX0_spendQuota 3 none]
def wsX0_deliverNow : List Cond := .code yX0_deliverNow cX0_deliverNow 5 (some .int) :: ((wsX0_deliverNow_r1 ++ (wsX0_deliverNow_r2 ++ wsX0_deliverNow_r3)) ++ wsX00)
def wsX0_setOnline_r1 : List Cond := [Cond.fieldLink RX0 20 "PushNotices" "online" "I", Cond.methodLink RX0 84 yX0_requireDevice, Cond.instanceMethod yX0_requireDevice, Cond.selects RX0 yX0_requireDevice yX0_requireDevice, Cond.initialized RX0, Cond.code yX0_requireDevice cX0_requireDevice 2 none, Cond.classLink RX0 166 "java/lang/IndexOutOfBoundsException", Cond.initialized "java/lang/IndexOutOfBoundsException", Cond.fieldLink RX0 41 "PushNotices" "deviceCount" "I", Cond.methodLink RX0 88 yX0_changed, Cond.static yX0_changed, Cond.code yX0_changed cX0_changed 3 (some .int), Cond.methodLink RX0 80 yX0_bitOf, Cond.static yX0_bitOf, Cond.code yX0_bitOf cX0_bitOf 1 (some .int), Cond.methodLink RX0 92 yX0_deliverNow, Cond.instanceMethod yX0_deliverNow, Cond.selects RX0 yX0_deliverNow yX0_deliverNow, Cond.code yX0_deliverNow cX0_deliverNow 5 (some .int), Cond.fieldLink RX0 66 "PushNotices" "deliveryCount" "I", Cond.fieldLink RX0 60 "PushNotices" "noticeCount" "I", Cond.fieldLink RX0 44 "PushNotices" "isHighNotice" "[Z", Cond.methodLink RX0 181 yX0_openToNormal, Cond.instanceMethod yX0_openToNormal]
def wsX0_setOnline_r2 : List Cond := [Cond.selects RX0 yX0_openToNormal yX0_openToNormal, Cond.code yX0_openToNormal cX0_openToNormal 3 (some .int), Cond.fieldLink RX0 63 "PushNotices" "minute" "I", Cond.fieldLink RX0 23 "PushNotices" "dozing" "I", Cond.methodLink RX0 105 yX0_isInQuietHours, Cond.instanceMethod yX0_isInQuietHours, Cond.selects RX0 yX0_isInQuietHours yX0_isInQuietHours, Cond.code yX0_isInQuietHours cX0_isInQuietHours 4 (some .boolean), Cond.fieldLink RX0 29 "PushNotices" "quietFrom" "[I", Cond.fieldLink RX0 32 "PushNotices" "quietTo" "[I", Cond.methodLink RX0 178 yX0_localTime, Cond.instanceMethod yX0_localTime, Cond.selects RX0 yX0_localTime yX0_localTime, Cond.code yX0_localTime cX0_localTime 2 (some .int), Cond.fieldLink RX0 26 "PushNotices" "zoneOffset" "[I", Cond.methodLink RX0 175 yJ9_floorMod_7cf53, Cond.static yJ9_floorMod_7cf53, Cond.initialized RJ9, Cond.code yJ9_floorMod_7cf53 cJ9_floorMod_7cf53 3 (some .int), Cond.methodLink RX0 132 yX0_waitsNow, Cond.instanceMethod yX0_waitsNow, Cond.selects RX0 yX0_waitsNow yX0_waitsNow, Cond.code yX0_waitsNow cX0_waitsNow 2 (some .int), Cond.fieldLink RX0 51 "PushNotices" "waitSet" "[I"]
def wsX0_setOnline_r3 : List Cond := [Cond.methodLink RX0 127 yX0_isStanding, Cond.instanceMethod yX0_isStanding, Cond.selects RX0 yX0_isStanding yX0_isStanding, Cond.code yX0_isStanding cX0_isStanding 2 (some .boolean), Cond.fieldLink RX0 48 "PushNotices" "fallsAt" "[I", Cond.methodLink RX0 184 yX0_openToHigh, Cond.instanceMethod yX0_openToHigh, Cond.selects RX0 yX0_openToHigh yX0_openToHigh, Cond.code yX0_openToHigh cX0_openToHigh 3 (some .int), Cond.methodLink RX0 96 yX0_has, Cond.static yX0_has, Cond.code yX0_has cX0_has 2 (some .boolean), Cond.methodLink RX0 147 yX0_spentToday, Cond.instanceMethod yX0_spentToday, Cond.selects RX0 yX0_spentToday yX0_spentToday, Cond.code yX0_spentToday cX0_spentToday 2 (some .int), Cond.fieldLink RX0 35 "PushNotices" "quotaDay" "[I", Cond.fieldLink RX0 38 "PushNotices" "quotaSpent" "[I", Cond.methodLink RX0 187 yX0_deliver, Cond.instanceMethod yX0_deliver, Cond.selects RX0 yX0_deliver yX0_deliver, Cond.code yX0_deliver cX0_deliver 3 none, Cond.fieldLink RX0 54 "PushNotices" "deliveredSet" "[I", Cond.methodLink RX0 135 yJ6_bitCount_0f7a4]
def wsX0_setOnline_r4 : List Cond := [Cond.static yJ6_bitCount_0f7a4, Cond.initialized RJ6, Cond.code yJ6_bitCount_0f7a4 cJ6_bitCount_0f7a4 1 (some .int), Cond.constant RJ6 265 (1431655765), Cond.constant RJ6 266 (858993459), Cond.constant RJ6 267 (252645135), Cond.methodLink RX0 190 yX0_spendQuota, Cond.instanceMethod yX0_spendQuota, Cond.selects RX0 yX0_spendQuota yX0_spendQuota, Cond.code yX0_spendQuota cX0_spendQuota 3 none]
def wsX0_setOnline : List Cond := .code yX0_setOnline cX0_setOnline 3 (some .int) :: ((wsX0_setOnline_r1 ++ (wsX0_setOnline_r2 ++ (wsX0_setOnline_r3 ++ wsX0_setOnline_r4))) ++ wsX00 ++ (vx_atS RX0 170 "java/lang/IndexOutOfBoundsException" ["java/lang/RuntimeException", "java/lang/Exception"]).filter goodWord)
def wsX0_setDozing_r1 : List Cond := [Cond.fieldLink RX0 23 "PushNotices" "dozing" "I", Cond.methodLink RX0 84 yX0_requireDevice, Cond.instanceMethod yX0_requireDevice, Cond.selects RX0 yX0_requireDevice yX0_requireDevice, Cond.initialized RX0, Cond.code yX0_requireDevice cX0_requireDevice 2 none, Cond.classLink RX0 166 "java/lang/IndexOutOfBoundsException", Cond.initialized "java/lang/IndexOutOfBoundsException", Cond.fieldLink RX0 41 "PushNotices" "deviceCount" "I", Cond.methodLink RX0 88 yX0_changed, Cond.static yX0_changed, Cond.code yX0_changed cX0_changed 3 (some .int), Cond.methodLink RX0 80 yX0_bitOf, Cond.static yX0_bitOf, Cond.code yX0_bitOf cX0_bitOf 1 (some .int), Cond.methodLink RX0 92 yX0_deliverNow, Cond.instanceMethod yX0_deliverNow, Cond.selects RX0 yX0_deliverNow yX0_deliverNow, Cond.code yX0_deliverNow cX0_deliverNow 5 (some .int), Cond.fieldLink RX0 66 "PushNotices" "deliveryCount" "I", Cond.fieldLink RX0 60 "PushNotices" "noticeCount" "I", Cond.fieldLink RX0 44 "PushNotices" "isHighNotice" "[Z", Cond.methodLink RX0 181 yX0_openToNormal, Cond.instanceMethod yX0_openToNormal]
def wsX0_setDozing_r2 : List Cond := [Cond.selects RX0 yX0_openToNormal yX0_openToNormal, Cond.code yX0_openToNormal cX0_openToNormal 3 (some .int), Cond.fieldLink RX0 63 "PushNotices" "minute" "I", Cond.fieldLink RX0 20 "PushNotices" "online" "I", Cond.methodLink RX0 105 yX0_isInQuietHours, Cond.instanceMethod yX0_isInQuietHours, Cond.selects RX0 yX0_isInQuietHours yX0_isInQuietHours, Cond.code yX0_isInQuietHours cX0_isInQuietHours 4 (some .boolean), Cond.fieldLink RX0 29 "PushNotices" "quietFrom" "[I", Cond.fieldLink RX0 32 "PushNotices" "quietTo" "[I", Cond.methodLink RX0 178 yX0_localTime, Cond.instanceMethod yX0_localTime, Cond.selects RX0 yX0_localTime yX0_localTime, Cond.code yX0_localTime cX0_localTime 2 (some .int), Cond.fieldLink RX0 26 "PushNotices" "zoneOffset" "[I", Cond.methodLink RX0 175 yJ9_floorMod_7cf53, Cond.static yJ9_floorMod_7cf53, Cond.initialized RJ9, Cond.code yJ9_floorMod_7cf53 cJ9_floorMod_7cf53 3 (some .int), Cond.methodLink RX0 132 yX0_waitsNow, Cond.instanceMethod yX0_waitsNow, Cond.selects RX0 yX0_waitsNow yX0_waitsNow, Cond.code yX0_waitsNow cX0_waitsNow 2 (some .int), Cond.fieldLink RX0 51 "PushNotices" "waitSet" "[I"]
def wsX0_setDozing_r3 : List Cond := [Cond.methodLink RX0 127 yX0_isStanding, Cond.instanceMethod yX0_isStanding, Cond.selects RX0 yX0_isStanding yX0_isStanding, Cond.code yX0_isStanding cX0_isStanding 2 (some .boolean), Cond.fieldLink RX0 48 "PushNotices" "fallsAt" "[I", Cond.methodLink RX0 184 yX0_openToHigh, Cond.instanceMethod yX0_openToHigh, Cond.selects RX0 yX0_openToHigh yX0_openToHigh, Cond.code yX0_openToHigh cX0_openToHigh 3 (some .int), Cond.methodLink RX0 96 yX0_has, Cond.static yX0_has, Cond.code yX0_has cX0_has 2 (some .boolean), Cond.methodLink RX0 147 yX0_spentToday, Cond.instanceMethod yX0_spentToday, Cond.selects RX0 yX0_spentToday yX0_spentToday, Cond.code yX0_spentToday cX0_spentToday 2 (some .int), Cond.fieldLink RX0 35 "PushNotices" "quotaDay" "[I", Cond.fieldLink RX0 38 "PushNotices" "quotaSpent" "[I", Cond.methodLink RX0 187 yX0_deliver, Cond.instanceMethod yX0_deliver, Cond.selects RX0 yX0_deliver yX0_deliver, Cond.code yX0_deliver cX0_deliver 3 none, Cond.fieldLink RX0 54 "PushNotices" "deliveredSet" "[I", Cond.methodLink RX0 135 yJ6_bitCount_0f7a4]
def wsX0_setDozing_r4 : List Cond := [Cond.static yJ6_bitCount_0f7a4, Cond.initialized RJ6, Cond.code yJ6_bitCount_0f7a4 cJ6_bitCount_0f7a4 1 (some .int), Cond.constant RJ6 265 (1431655765), Cond.constant RJ6 266 (858993459), Cond.constant RJ6 267 (252645135), Cond.methodLink RX0 190 yX0_spendQuota, Cond.instanceMethod yX0_spendQuota, Cond.selects RX0 yX0_spendQuota yX0_spendQuota, Cond.code yX0_spendQuota cX0_spendQuota 3 none]
def wsX0_setDozing : List Cond := .code yX0_setDozing cX0_setDozing 3 (some .int) :: ((wsX0_setDozing_r1 ++ (wsX0_setDozing_r2 ++ (wsX0_setDozing_r3 ++ wsX0_setDozing_r4))) ++ wsX00 ++ (vx_atS RX0 170 "java/lang/IndexOutOfBoundsException" ["java/lang/RuntimeException", "java/lang/Exception"]).filter goodWord)
def wsX0_setQuiet_r1 : List Cond := [Cond.fieldLink RX0 29 "PushNotices" "quietFrom" "[I", Cond.fieldLink RX0 32 "PushNotices" "quietTo" "[I", Cond.methodLink RX0 84 yX0_requireDevice, Cond.instanceMethod yX0_requireDevice, Cond.selects RX0 yX0_requireDevice yX0_requireDevice, Cond.initialized RX0, Cond.code yX0_requireDevice cX0_requireDevice 2 none, Cond.classLink RX0 166 "java/lang/IndexOutOfBoundsException", Cond.initialized "java/lang/IndexOutOfBoundsException", Cond.fieldLink RX0 41 "PushNotices" "deviceCount" "I", Cond.methodLink RX0 69 yX0_requireWithin, Cond.static yX0_requireWithin, Cond.code yX0_requireWithin cX0_requireWithin 3 none, Cond.classLink RX0 161 "java/lang/IllegalArgumentException", Cond.initialized "java/lang/IllegalArgumentException", Cond.methodLink RX0 92 yX0_deliverNow, Cond.instanceMethod yX0_deliverNow, Cond.selects RX0 yX0_deliverNow yX0_deliverNow, Cond.code yX0_deliverNow cX0_deliverNow 5 (some .int), Cond.fieldLink RX0 66 "PushNotices" "deliveryCount" "I", Cond.fieldLink RX0 60 "PushNotices" "noticeCount" "I", Cond.fieldLink RX0 44 "PushNotices" "isHighNotice" "[Z", Cond.methodLink RX0 181 yX0_openToNormal, Cond.instanceMethod yX0_openToNormal]
def wsX0_setQuiet_r2 : List Cond := [Cond.selects RX0 yX0_openToNormal yX0_openToNormal, Cond.code yX0_openToNormal cX0_openToNormal 3 (some .int), Cond.fieldLink RX0 63 "PushNotices" "minute" "I", Cond.fieldLink RX0 20 "PushNotices" "online" "I", Cond.fieldLink RX0 23 "PushNotices" "dozing" "I", Cond.methodLink RX0 105 yX0_isInQuietHours, Cond.instanceMethod yX0_isInQuietHours, Cond.selects RX0 yX0_isInQuietHours yX0_isInQuietHours, Cond.code yX0_isInQuietHours cX0_isInQuietHours 4 (some .boolean), Cond.methodLink RX0 178 yX0_localTime, Cond.instanceMethod yX0_localTime, Cond.selects RX0 yX0_localTime yX0_localTime, Cond.code yX0_localTime cX0_localTime 2 (some .int), Cond.fieldLink RX0 26 "PushNotices" "zoneOffset" "[I", Cond.methodLink RX0 175 yJ9_floorMod_7cf53, Cond.static yJ9_floorMod_7cf53, Cond.initialized RJ9, Cond.code yJ9_floorMod_7cf53 cJ9_floorMod_7cf53 3 (some .int), Cond.methodLink RX0 88 yX0_changed, Cond.static yX0_changed, Cond.code yX0_changed cX0_changed 3 (some .int), Cond.methodLink RX0 80 yX0_bitOf, Cond.static yX0_bitOf, Cond.code yX0_bitOf cX0_bitOf 1 (some .int)]
def wsX0_setQuiet_r3 : List Cond := [Cond.methodLink RX0 132 yX0_waitsNow, Cond.instanceMethod yX0_waitsNow, Cond.selects RX0 yX0_waitsNow yX0_waitsNow, Cond.code yX0_waitsNow cX0_waitsNow 2 (some .int), Cond.fieldLink RX0 51 "PushNotices" "waitSet" "[I", Cond.methodLink RX0 127 yX0_isStanding, Cond.instanceMethod yX0_isStanding, Cond.selects RX0 yX0_isStanding yX0_isStanding, Cond.code yX0_isStanding cX0_isStanding 2 (some .boolean), Cond.fieldLink RX0 48 "PushNotices" "fallsAt" "[I", Cond.methodLink RX0 184 yX0_openToHigh, Cond.instanceMethod yX0_openToHigh, Cond.selects RX0 yX0_openToHigh yX0_openToHigh, Cond.code yX0_openToHigh cX0_openToHigh 3 (some .int), Cond.methodLink RX0 96 yX0_has, Cond.static yX0_has, Cond.code yX0_has cX0_has 2 (some .boolean), Cond.methodLink RX0 147 yX0_spentToday, Cond.instanceMethod yX0_spentToday, Cond.selects RX0 yX0_spentToday yX0_spentToday, Cond.code yX0_spentToday cX0_spentToday 2 (some .int), Cond.fieldLink RX0 35 "PushNotices" "quotaDay" "[I", Cond.fieldLink RX0 38 "PushNotices" "quotaSpent" "[I", Cond.methodLink RX0 187 yX0_deliver]
def wsX0_setQuiet_r4 : List Cond := [Cond.instanceMethod yX0_deliver, Cond.selects RX0 yX0_deliver yX0_deliver, Cond.code yX0_deliver cX0_deliver 3 none, Cond.fieldLink RX0 54 "PushNotices" "deliveredSet" "[I", Cond.methodLink RX0 135 yJ6_bitCount_0f7a4, Cond.static yJ6_bitCount_0f7a4, Cond.initialized RJ6, Cond.code yJ6_bitCount_0f7a4 cJ6_bitCount_0f7a4 1 (some .int), Cond.constant RJ6 265 (1431655765), Cond.constant RJ6 266 (858993459), Cond.constant RJ6 267 (252645135), Cond.methodLink RX0 190 yX0_spendQuota, Cond.instanceMethod yX0_spendQuota, Cond.selects RX0 yX0_spendQuota yX0_spendQuota, Cond.code yX0_spendQuota cX0_spendQuota 3 none]
def wsX0_setQuiet : List Cond := .code yX0_setQuiet cX0_setQuiet 4 (some .int) :: ((wsX0_setQuiet_r1 ++ (wsX0_setQuiet_r2 ++ (wsX0_setQuiet_r3 ++ wsX0_setQuiet_r4))) ++ wsX00 ++ (vx_atS RX0 170 "java/lang/IndexOutOfBoundsException" ["java/lang/RuntimeException", "java/lang/Exception"]).filter goodWord ++ (vx_atS RX0 165 "java/lang/IllegalArgumentException" ["java/lang/RuntimeException", "java/lang/Exception"]).filter goodWord)
def wsX0_join : List Cond := .code yX0_join cX0_join 5 (some .boolean) :: ([.fieldLink RX0 13 "PushNotices" "devicesOfTopic" "[I", .methodLink RX0 84 yX0_requireDevice, .instanceMethod yX0_requireDevice, .selects RX0 yX0_requireDevice yX0_requireDevice, .initialized RX0, .code yX0_requireDevice cX0_requireDevice 2 none, .classLink RX0 166 "java/lang/IndexOutOfBoundsException", .initialized "java/lang/IndexOutOfBoundsException", .fieldLink RX0 41 "PushNotices" "deviceCount" "I", .methodLink RX0 69 yX0_requireWithin, .static yX0_requireWithin, .code yX0_requireWithin cX0_requireWithin 3 none, .classLink RX0 161 "java/lang/IllegalArgumentException", .initialized "java/lang/IllegalArgumentException", .methodLink RX0 96 yX0_has, .static yX0_has, .code yX0_has cX0_has 2 (some .boolean), .methodLink RX0 80 yX0_bitOf, .static yX0_bitOf, .code yX0_bitOf cX0_bitOf 1 (some .int), .methodLink RX0 88 yX0_changed, .static yX0_changed, .code yX0_changed cX0_changed 3 (some .int)] ++ wsX00 ++ (vx_atS RX0 170 "java/lang/IndexOutOfBoundsException" ["java/lang/RuntimeException", "java/lang/Exception"]).filter goodWord ++ (vx_atS RX0 165 "java/lang/IllegalArgumentException" ["java/lang/RuntimeException", "java/lang/Exception"]).filter goodWord)
def wsX0_countWaiting : List Cond := .code yX0_countWaiting cX0_countWaiting 4 (some .int) :: ([.fieldLink RX0 60 "PushNotices" "noticeCount" "I", .methodLink RX0 132 yX0_waitsNow, .instanceMethod yX0_waitsNow, .selects RX0 yX0_waitsNow yX0_waitsNow, .initialized RX0, .code yX0_waitsNow cX0_waitsNow 2 (some .int), .fieldLink RX0 51 "PushNotices" "waitSet" "[I", .methodLink RX0 127 yX0_isStanding, .instanceMethod yX0_isStanding, .selects RX0 yX0_isStanding yX0_isStanding, .code yX0_isStanding cX0_isStanding 2 (some .boolean), .fieldLink RX0 63 "PushNotices" "minute" "I", .fieldLink RX0 48 "PushNotices" "fallsAt" "[I", .methodLink RX0 96 yX0_has, .static yX0_has, .code yX0_has cX0_has 2 (some .boolean), .methodLink RX0 80 yX0_bitOf, .static yX0_bitOf, .code yX0_bitOf cX0_bitOf 1 (some .int)] ++ wsX00)
def wsX0_kill_r1 : List Cond := [Cond.classLink RX0 73 "java/lang/IllegalStateException", Cond.initialized "java/lang/IllegalStateException", Cond.fieldLink RX0 16 "PushNotices" "alive" "I", Cond.fieldLink RX0 60 "PushNotices" "noticeCount" "I", Cond.fieldLink RX0 51 "PushNotices" "waitSet" "[I", Cond.methodLink RX0 84 yX0_requireDevice, Cond.instanceMethod yX0_requireDevice, Cond.selects RX0 yX0_requireDevice yX0_requireDevice, Cond.initialized RX0, Cond.code yX0_requireDevice cX0_requireDevice 2 none, Cond.classLink RX0 166 "java/lang/IndexOutOfBoundsException", Cond.initialized "java/lang/IndexOutOfBoundsException", Cond.fieldLink RX0 41 "PushNotices" "deviceCount" "I", Cond.methodLink RX0 96 yX0_has, Cond.static yX0_has, Cond.code yX0_has cX0_has 2 (some .boolean), Cond.methodLink RX0 80 yX0_bitOf, Cond.static yX0_bitOf, Cond.code yX0_bitOf cX0_bitOf 1 (some .int), Cond.methodLink RX0 102 yX0_countWaiting, Cond.instanceMethod yX0_countWaiting, Cond.selects RX0 yX0_countWaiting yX0_countWaiting, Cond.code yX0_countWaiting cX0_countWaiting 4 (some .int), Cond.methodLink RX0 132 yX0_waitsNow]
def wsX0_kill_r2 : List Cond := [Cond.instanceMethod yX0_waitsNow, Cond.selects RX0 yX0_waitsNow yX0_waitsNow, Cond.code yX0_waitsNow cX0_waitsNow 2 (some .int), Cond.methodLink RX0 127 yX0_isStanding, Cond.instanceMethod yX0_isStanding, Cond.selects RX0 yX0_isStanding yX0_isStanding, Cond.code yX0_isStanding cX0_isStanding 2 (some .boolean), Cond.fieldLink RX0 63 "PushNotices" "minute" "I", Cond.fieldLink RX0 48 "PushNotices" "fallsAt" "[I", Cond.methodLink RX0 88 yX0_changed, Cond.static yX0_changed, Cond.code yX0_changed cX0_changed 3 (some .int)]
def wsX0_kill : List Cond := .code yX0_kill cX0_kill 4 (some .int) :: ((wsX0_kill_r1 ++ wsX0_kill_r2) ++ wsX00 ++ (vx_atS RX0 77 "java/lang/IllegalStateException" ["java/lang/RuntimeException", "java/lang/Exception"]).filter goodWord ++ (vx_atS RX0 170 "java/lang/IndexOutOfBoundsException" ["java/lang/RuntimeException", "java/lang/Exception"]).filter goodWord)
def wsX0_devices : List Cond := .code yX0_devices cX0_devices 1 (some .int) :: ([.fieldLink RX0 41 "PushNotices" "deviceCount" "I"] ++ wsX00)
def wsX0_isQuiet : List Cond := .code yX0_isQuiet cX0_isQuiet 2 (some .boolean) :: ([.methodLink RX0 84 yX0_requireDevice, .instanceMethod yX0_requireDevice, .selects RX0 yX0_requireDevice yX0_requireDevice, .initialized RX0, .code yX0_requireDevice cX0_requireDevice 2 none, .classLink RX0 166 "java/lang/IndexOutOfBoundsException", .initialized "java/lang/IndexOutOfBoundsException", .fieldLink RX0 41 "PushNotices" "deviceCount" "I", .methodLink RX0 105 yX0_isInQuietHours, .instanceMethod yX0_isInQuietHours, .selects RX0 yX0_isInQuietHours yX0_isInQuietHours, .code yX0_isInQuietHours cX0_isInQuietHours 4 (some .boolean), .fieldLink RX0 29 "PushNotices" "quietFrom" "[I", .fieldLink RX0 32 "PushNotices" "quietTo" "[I", .methodLink RX0 178 yX0_localTime, .instanceMethod yX0_localTime, .selects RX0 yX0_localTime yX0_localTime, .code yX0_localTime cX0_localTime 2 (some .int), .fieldLink RX0 63 "PushNotices" "minute" "I", .fieldLink RX0 26 "PushNotices" "zoneOffset" "[I", .methodLink RX0 175 yJ9_floorMod_7cf53, .static yJ9_floorMod_7cf53, .initialized RJ9, .code yJ9_floorMod_7cf53 cJ9_floorMod_7cf53 3 (some .int)] ++ wsX00 ++ (vx_atS RX0 170 "java/lang/IndexOutOfBoundsException" ["java/lang/RuntimeException", "java/lang/Exception"]).filter goodWord)
def wsX0_requireRoomForNotice : List Cond := .code yX0_requireRoomForNotice cX0_requireRoomForNotice 1 none :: ([.classLink RX0 73 "java/lang/IllegalStateException", .initialized "java/lang/IllegalStateException", .fieldLink RX0 60 "PushNotices" "noticeCount" "I"] ++ wsX00 ++ (vx_atS RX0 77 "java/lang/IllegalStateException" ["java/lang/RuntimeException", "java/lang/Exception"]).filter goodWord)
def wsX0_placeOf : List Cond := .code yX0_placeOf cX0_placeOf 2 (some .int) :: ([])
def wsX0_withdraw : List Cond := .code yX0_withdraw cX0_withdraw 2 none :: ([.fieldLink RX0 48 "PushNotices" "fallsAt" "[I", .fieldLink RX0 63 "PushNotices" "minute" "I"] ++ wsX00)
def wsX0_replaceKey : List Cond := .code yX0_replaceKey cX0_replaceKey 5 none :: ([.fieldLink RX0 57 "PushNotices" "lastWithKey" "[I", .fieldLink RX0 60 "PushNotices" "noticeCount" "I", .methodLink RX0 143 yX0_placeOf, .static yX0_placeOf, .initialized RX0, .code yX0_placeOf cX0_placeOf 2 (some .int), .methodLink RX0 127 yX0_isStanding, .instanceMethod yX0_isStanding, .selects RX0 yX0_isStanding yX0_isStanding, .code yX0_isStanding cX0_isStanding 2 (some .boolean), .fieldLink RX0 63 "PushNotices" "minute" "I", .fieldLink RX0 48 "PushNotices" "fallsAt" "[I", .methodLink RX0 140 yX0_withdraw, .instanceMethod yX0_withdraw, .selects RX0 yX0_withdraw yX0_withdraw, .code yX0_withdraw cX0_withdraw 2 none] ++ wsX00)
def wsX0_sendTo_r1 : List Cond := [Cond.fieldLink RX0 60 "PushNotices" "noticeCount" "I", Cond.fieldLink RX0 44 "PushNotices" "isHighNotice" "[Z", Cond.fieldLink RX0 48 "PushNotices" "fallsAt" "[I", Cond.fieldLink RX0 63 "PushNotices" "minute" "I", Cond.fieldLink RX0 51 "PushNotices" "waitSet" "[I", Cond.fieldLink RX0 16 "PushNotices" "alive" "I", Cond.methodLink RX0 92 yX0_deliverNow, Cond.instanceMethod yX0_deliverNow, Cond.selects RX0 yX0_deliverNow yX0_deliverNow, Cond.initialized RX0, Cond.code yX0_deliverNow cX0_deliverNow 5 (some .int), Cond.fieldLink RX0 66 "PushNotices" "deliveryCount" "I", Cond.methodLink RX0 181 yX0_openToNormal, Cond.instanceMethod yX0_openToNormal, Cond.selects RX0 yX0_openToNormal yX0_openToNormal, Cond.code yX0_openToNormal cX0_openToNormal 3 (some .int), Cond.fieldLink RX0 20 "PushNotices" "online" "I", Cond.fieldLink RX0 23 "PushNotices" "dozing" "I", Cond.fieldLink RX0 41 "PushNotices" "deviceCount" "I", Cond.methodLink RX0 105 yX0_isInQuietHours, Cond.instanceMethod yX0_isInQuietHours, Cond.selects RX0 yX0_isInQuietHours yX0_isInQuietHours, Cond.code yX0_isInQuietHours cX0_isInQuietHours 4 (some .boolean), Cond.fieldLink RX0 29 "PushNotices" "quietFrom" "[I"]
def wsX0_sendTo_r2 : List Cond := [Cond.fieldLink RX0 32 "PushNotices" "quietTo" "[I", Cond.methodLink RX0 178 yX0_localTime, Cond.instanceMethod yX0_localTime, Cond.selects RX0 yX0_localTime yX0_localTime, Cond.code yX0_localTime cX0_localTime 2 (some .int), Cond.fieldLink RX0 26 "PushNotices" "zoneOffset" "[I", Cond.methodLink RX0 175 yJ9_floorMod_7cf53, Cond.static yJ9_floorMod_7cf53, Cond.initialized RJ9, Cond.code yJ9_floorMod_7cf53 cJ9_floorMod_7cf53 3 (some .int), Cond.methodLink RX0 88 yX0_changed, Cond.static yX0_changed, Cond.code yX0_changed cX0_changed 3 (some .int), Cond.methodLink RX0 80 yX0_bitOf, Cond.static yX0_bitOf, Cond.code yX0_bitOf cX0_bitOf 1 (some .int), Cond.methodLink RX0 132 yX0_waitsNow, Cond.instanceMethod yX0_waitsNow, Cond.selects RX0 yX0_waitsNow yX0_waitsNow, Cond.code yX0_waitsNow cX0_waitsNow 2 (some .int), Cond.methodLink RX0 127 yX0_isStanding, Cond.instanceMethod yX0_isStanding, Cond.selects RX0 yX0_isStanding yX0_isStanding, Cond.code yX0_isStanding cX0_isStanding 2 (some .boolean)]
def wsX0_sendTo_r3 : List Cond := [Cond.methodLink RX0 184 yX0_openToHigh, Cond.instanceMethod yX0_openToHigh, Cond.selects RX0 yX0_openToHigh yX0_openToHigh, Cond.code yX0_openToHigh cX0_openToHigh 3 (some .int), Cond.methodLink RX0 96 yX0_has, Cond.static yX0_has, Cond.code yX0_has cX0_has 2 (some .boolean), Cond.methodLink RX0 147 yX0_spentToday, Cond.instanceMethod yX0_spentToday, Cond.selects RX0 yX0_spentToday yX0_spentToday, Cond.code yX0_spentToday cX0_spentToday 2 (some .int), Cond.fieldLink RX0 35 "PushNotices" "quotaDay" "[I", Cond.fieldLink RX0 38 "PushNotices" "quotaSpent" "[I", Cond.methodLink RX0 187 yX0_deliver, Cond.instanceMethod yX0_deliver, Cond.selects RX0 yX0_deliver yX0_deliver, Cond.code yX0_deliver cX0_deliver 3 none, Cond.fieldLink RX0 54 "PushNotices" "deliveredSet" "[I", Cond.methodLink RX0 135 yJ6_bitCount_0f7a4, Cond.static yJ6_bitCount_0f7a4, Cond.initialized RJ6, Cond.code yJ6_bitCount_0f7a4 cJ6_bitCount_0f7a4 1 (some .int), Cond.constant RJ6 265 (1431655765), Cond.constant RJ6 266 (858993459)]
def wsX0_sendTo_r4 : List Cond := [Cond.constant RJ6 267 (252645135), Cond.methodLink RX0 190 yX0_spendQuota, Cond.instanceMethod yX0_spendQuota, Cond.selects RX0 yX0_spendQuota yX0_spendQuota, Cond.code yX0_spendQuota cX0_spendQuota 3 none]
def wsX0_sendTo : List Cond := .code yX0_sendTo cX0_sendTo 5 (some .int) :: ((wsX0_sendTo_r1 ++ (wsX0_sendTo_r2 ++ (wsX0_sendTo_r3 ++ wsX0_sendTo_r4))) ++ wsX00)
def wsX0_send_r1 : List Cond := [Cond.fieldLink RX0 9 "PushNotices" "devicesOfUser" "[I", Cond.methodLink RX0 69 yX0_requireWithin, Cond.static yX0_requireWithin, Cond.initialized RX0, Cond.code yX0_requireWithin cX0_requireWithin 3 none, Cond.classLink RX0 161 "java/lang/IllegalArgumentException", Cond.initialized "java/lang/IllegalArgumentException", Cond.methodLink RX0 109 yX0_requireRoomForNotice, Cond.instanceMethod yX0_requireRoomForNotice, Cond.selects RX0 yX0_requireRoomForNotice yX0_requireRoomForNotice, Cond.code yX0_requireRoomForNotice cX0_requireRoomForNotice 1 none, Cond.classLink RX0 73 "java/lang/IllegalStateException", Cond.initialized "java/lang/IllegalStateException", Cond.fieldLink RX0 60 "PushNotices" "noticeCount" "I", Cond.methodLink RX0 112 yX0_replaceKey, Cond.instanceMethod yX0_replaceKey, Cond.selects RX0 yX0_replaceKey yX0_replaceKey, Cond.code yX0_replaceKey cX0_replaceKey 5 none, Cond.fieldLink RX0 57 "PushNotices" "lastWithKey" "[I", Cond.methodLink RX0 143 yX0_placeOf, Cond.static yX0_placeOf, Cond.code yX0_placeOf cX0_placeOf 2 (some .int), Cond.methodLink RX0 127 yX0_isStanding, Cond.instanceMethod yX0_isStanding]
def wsX0_send_r2 : List Cond := [Cond.selects RX0 yX0_isStanding yX0_isStanding, Cond.code yX0_isStanding cX0_isStanding 2 (some .boolean), Cond.fieldLink RX0 63 "PushNotices" "minute" "I", Cond.fieldLink RX0 48 "PushNotices" "fallsAt" "[I", Cond.methodLink RX0 140 yX0_withdraw, Cond.instanceMethod yX0_withdraw, Cond.selects RX0 yX0_withdraw yX0_withdraw, Cond.code yX0_withdraw cX0_withdraw 2 none, Cond.methodLink RX0 116 yX0_sendTo, Cond.instanceMethod yX0_sendTo, Cond.selects RX0 yX0_sendTo yX0_sendTo, Cond.code yX0_sendTo cX0_sendTo 5 (some .int), Cond.fieldLink RX0 44 "PushNotices" "isHighNotice" "[Z", Cond.fieldLink RX0 51 "PushNotices" "waitSet" "[I", Cond.fieldLink RX0 16 "PushNotices" "alive" "I", Cond.methodLink RX0 92 yX0_deliverNow, Cond.instanceMethod yX0_deliverNow, Cond.selects RX0 yX0_deliverNow yX0_deliverNow, Cond.code yX0_deliverNow cX0_deliverNow 5 (some .int), Cond.fieldLink RX0 66 "PushNotices" "deliveryCount" "I", Cond.methodLink RX0 181 yX0_openToNormal, Cond.instanceMethod yX0_openToNormal, Cond.selects RX0 yX0_openToNormal yX0_openToNormal, Cond.code yX0_openToNormal cX0_openToNormal 3 (some .int)]
def wsX0_send_r3 : List Cond := [Cond.fieldLink RX0 20 "PushNotices" "online" "I", Cond.fieldLink RX0 23 "PushNotices" "dozing" "I", Cond.fieldLink RX0 41 "PushNotices" "deviceCount" "I", Cond.methodLink RX0 105 yX0_isInQuietHours, Cond.instanceMethod yX0_isInQuietHours, Cond.selects RX0 yX0_isInQuietHours yX0_isInQuietHours, Cond.code yX0_isInQuietHours cX0_isInQuietHours 4 (some .boolean), Cond.fieldLink RX0 29 "PushNotices" "quietFrom" "[I", Cond.fieldLink RX0 32 "PushNotices" "quietTo" "[I", Cond.methodLink RX0 178 yX0_localTime, Cond.instanceMethod yX0_localTime, Cond.selects RX0 yX0_localTime yX0_localTime, Cond.code yX0_localTime cX0_localTime 2 (some .int), Cond.fieldLink RX0 26 "PushNotices" "zoneOffset" "[I", Cond.methodLink RX0 175 yJ9_floorMod_7cf53, Cond.static yJ9_floorMod_7cf53, Cond.initialized RJ9, Cond.code yJ9_floorMod_7cf53 cJ9_floorMod_7cf53 3 (some .int), Cond.methodLink RX0 88 yX0_changed, Cond.static yX0_changed, Cond.code yX0_changed cX0_changed 3 (some .int), Cond.methodLink RX0 80 yX0_bitOf, Cond.static yX0_bitOf, Cond.code yX0_bitOf cX0_bitOf 1 (some .int)]
def wsX0_send_r4 : List Cond := [Cond.methodLink RX0 132 yX0_waitsNow, Cond.instanceMethod yX0_waitsNow, Cond.selects RX0 yX0_waitsNow yX0_waitsNow, Cond.code yX0_waitsNow cX0_waitsNow 2 (some .int), Cond.methodLink RX0 184 yX0_openToHigh, Cond.instanceMethod yX0_openToHigh, Cond.selects RX0 yX0_openToHigh yX0_openToHigh, Cond.code yX0_openToHigh cX0_openToHigh 3 (some .int), Cond.methodLink RX0 96 yX0_has, Cond.static yX0_has, Cond.code yX0_has cX0_has 2 (some .boolean), Cond.methodLink RX0 147 yX0_spentToday, Cond.instanceMethod yX0_spentToday, Cond.selects RX0 yX0_spentToday yX0_spentToday, Cond.code yX0_spentToday cX0_spentToday 2 (some .int), Cond.fieldLink RX0 35 "PushNotices" "quotaDay" "[I", Cond.fieldLink RX0 38 "PushNotices" "quotaSpent" "[I", Cond.methodLink RX0 187 yX0_deliver, Cond.instanceMethod yX0_deliver, Cond.selects RX0 yX0_deliver yX0_deliver, Cond.code yX0_deliver cX0_deliver 3 none, Cond.fieldLink RX0 54 "PushNotices" "deliveredSet" "[I", Cond.methodLink RX0 135 yJ6_bitCount_0f7a4, Cond.static yJ6_bitCount_0f7a4]
def wsX0_send_r5 : List Cond := [Cond.initialized RJ6, Cond.code yJ6_bitCount_0f7a4 cJ6_bitCount_0f7a4 1 (some .int), Cond.constant RJ6 265 (1431655765), Cond.constant RJ6 266 (858993459), Cond.constant RJ6 267 (252645135), Cond.methodLink RX0 190 yX0_spendQuota, Cond.instanceMethod yX0_spendQuota, Cond.selects RX0 yX0_spendQuota yX0_spendQuota, Cond.code yX0_spendQuota cX0_spendQuota 3 none]
def wsX0_send : List Cond := .code yX0_send cX0_send 5 (some .int) :: ((wsX0_send_r1 ++ (wsX0_send_r2 ++ (wsX0_send_r3 ++ (wsX0_send_r4 ++ wsX0_send_r5)))) ++ wsX00 ++ (vx_atS RX0 165 "java/lang/IllegalArgumentException" ["java/lang/RuntimeException", "java/lang/Exception"]).filter goodWord ++ (vx_atS RX0 77 "java/lang/IllegalStateException" ["java/lang/RuntimeException", "java/lang/Exception"]).filter goodWord)
def wsX0_devicesThatFulfil : List Cond := .code yX0_devicesThatFulfil cX0_devicesThatFulfil 4 (some .int) :: ([.fieldLink RX0 13 "PushNotices" "devicesOfTopic" "[I"] ++ wsX00)
def wsX0_sendBy_r1 : List Cond := [Cond.methodLink RX0 69 yX0_requireWithin, Cond.static yX0_requireWithin, Cond.initialized RX0, Cond.code yX0_requireWithin cX0_requireWithin 3 none, Cond.classLink RX0 161 "java/lang/IllegalArgumentException", Cond.initialized "java/lang/IllegalArgumentException", Cond.methodLink RX0 109 yX0_requireRoomForNotice, Cond.instanceMethod yX0_requireRoomForNotice, Cond.selects RX0 yX0_requireRoomForNotice yX0_requireRoomForNotice, Cond.code yX0_requireRoomForNotice cX0_requireRoomForNotice 1 none, Cond.classLink RX0 73 "java/lang/IllegalStateException", Cond.initialized "java/lang/IllegalStateException", Cond.fieldLink RX0 60 "PushNotices" "noticeCount" "I", Cond.methodLink RX0 120 yX0_devicesThatFulfil, Cond.instanceMethod yX0_devicesThatFulfil, Cond.selects RX0 yX0_devicesThatFulfil yX0_devicesThatFulfil, Cond.code yX0_devicesThatFulfil cX0_devicesThatFulfil 4 (some .int), Cond.fieldLink RX0 13 "PushNotices" "devicesOfTopic" "[I", Cond.methodLink RX0 116 yX0_sendTo, Cond.instanceMethod yX0_sendTo, Cond.selects RX0 yX0_sendTo yX0_sendTo, Cond.code yX0_sendTo cX0_sendTo 5 (some .int), Cond.fieldLink RX0 44 "PushNotices" "isHighNotice" "[Z", Cond.fieldLink RX0 48 "PushNotices" "fallsAt" "[I"]
def wsX0_sendBy_r2 : List Cond := [Cond.fieldLink RX0 63 "PushNotices" "minute" "I", Cond.fieldLink RX0 51 "PushNotices" "waitSet" "[I", Cond.fieldLink RX0 16 "PushNotices" "alive" "I", Cond.methodLink RX0 92 yX0_deliverNow, Cond.instanceMethod yX0_deliverNow, Cond.selects RX0 yX0_deliverNow yX0_deliverNow, Cond.code yX0_deliverNow cX0_deliverNow 5 (some .int), Cond.fieldLink RX0 66 "PushNotices" "deliveryCount" "I", Cond.methodLink RX0 181 yX0_openToNormal, Cond.instanceMethod yX0_openToNormal, Cond.selects RX0 yX0_openToNormal yX0_openToNormal, Cond.code yX0_openToNormal cX0_openToNormal 3 (some .int), Cond.fieldLink RX0 20 "PushNotices" "online" "I", Cond.fieldLink RX0 23 "PushNotices" "dozing" "I", Cond.fieldLink RX0 41 "PushNotices" "deviceCount" "I", Cond.methodLink RX0 105 yX0_isInQuietHours, Cond.instanceMethod yX0_isInQuietHours, Cond.selects RX0 yX0_isInQuietHours yX0_isInQuietHours, Cond.code yX0_isInQuietHours cX0_isInQuietHours 4 (some .boolean), Cond.fieldLink RX0 29 "PushNotices" "quietFrom" "[I", Cond.fieldLink RX0 32 "PushNotices" "quietTo" "[I", Cond.methodLink RX0 178 yX0_localTime, Cond.instanceMethod yX0_localTime, Cond.selects RX0 yX0_localTime yX0_localTime]
def wsX0_sendBy_r3 : List Cond := [Cond.code yX0_localTime cX0_localTime 2 (some .int), Cond.fieldLink RX0 26 "PushNotices" "zoneOffset" "[I", Cond.methodLink RX0 175 yJ9_floorMod_7cf53, Cond.static yJ9_floorMod_7cf53, Cond.initialized RJ9, Cond.code yJ9_floorMod_7cf53 cJ9_floorMod_7cf53 3 (some .int), Cond.methodLink RX0 88 yX0_changed, Cond.static yX0_changed, Cond.code yX0_changed cX0_changed 3 (some .int), Cond.methodLink RX0 80 yX0_bitOf, Cond.static yX0_bitOf, Cond.code yX0_bitOf cX0_bitOf 1 (some .int), Cond.methodLink RX0 132 yX0_waitsNow, Cond.instanceMethod yX0_waitsNow, Cond.selects RX0 yX0_waitsNow yX0_waitsNow, Cond.code yX0_waitsNow cX0_waitsNow 2 (some .int), Cond.methodLink RX0 127 yX0_isStanding, Cond.instanceMethod yX0_isStanding, Cond.selects RX0 yX0_isStanding yX0_isStanding, Cond.code yX0_isStanding cX0_isStanding 2 (some .boolean), Cond.methodLink RX0 184 yX0_openToHigh, Cond.instanceMethod yX0_openToHigh, Cond.selects RX0 yX0_openToHigh yX0_openToHigh, Cond.code yX0_openToHigh cX0_openToHigh 3 (some .int)]
def wsX0_sendBy_r4 : List Cond := [Cond.methodLink RX0 96 yX0_has, Cond.static yX0_has, Cond.code yX0_has cX0_has 2 (some .boolean), Cond.methodLink RX0 147 yX0_spentToday, Cond.instanceMethod yX0_spentToday, Cond.selects RX0 yX0_spentToday yX0_spentToday, Cond.code yX0_spentToday cX0_spentToday 2 (some .int), Cond.fieldLink RX0 35 "PushNotices" "quotaDay" "[I", Cond.fieldLink RX0 38 "PushNotices" "quotaSpent" "[I", Cond.methodLink RX0 187 yX0_deliver, Cond.instanceMethod yX0_deliver, Cond.selects RX0 yX0_deliver yX0_deliver, Cond.code yX0_deliver cX0_deliver 3 none, Cond.fieldLink RX0 54 "PushNotices" "deliveredSet" "[I", Cond.methodLink RX0 135 yJ6_bitCount_0f7a4, Cond.static yJ6_bitCount_0f7a4, Cond.initialized RJ6, Cond.code yJ6_bitCount_0f7a4 cJ6_bitCount_0f7a4 1 (some .int), Cond.constant RJ6 265 (1431655765), Cond.constant RJ6 266 (858993459), Cond.constant RJ6 267 (252645135), Cond.methodLink RX0 190 yX0_spendQuota, Cond.instanceMethod yX0_spendQuota, Cond.selects RX0 yX0_spendQuota yX0_spendQuota]
def wsX0_sendBy_r5 : List Cond := [Cond.code yX0_spendQuota cX0_spendQuota 3 none]
def wsX0_sendBy : List Cond := .code yX0_sendBy cX0_sendBy 6 (some .int) :: ((wsX0_sendBy_r1 ++ (wsX0_sendBy_r2 ++ (wsX0_sendBy_r3 ++ (wsX0_sendBy_r4 ++ wsX0_sendBy_r5)))) ++ wsX00 ++ (vx_atS RX0 165 "java/lang/IllegalArgumentException" ["java/lang/RuntimeException", "java/lang/Exception"]).filter goodWord ++ (vx_atS RX0 77 "java/lang/IllegalStateException" ["java/lang/RuntimeException", "java/lang/Exception"]).filter goodWord)
def wsX0_requireNotice : List Cond := .code yX0_requireNotice cX0_requireNotice 2 none :: ([.classLink RX0 166 "java/lang/IndexOutOfBoundsException", .initialized "java/lang/IndexOutOfBoundsException", .fieldLink RX0 60 "PushNotices" "noticeCount" "I"] ++ wsX00 ++ (vx_atS RX0 170 "java/lang/IndexOutOfBoundsException" ["java/lang/RuntimeException", "java/lang/Exception"]).filter goodWord)
def wsX0_read_r1 : List Cond := [Cond.classLink RX0 73 "java/lang/IllegalStateException", Cond.initialized "java/lang/IllegalStateException", Cond.fieldLink RX0 54 "PushNotices" "deliveredSet" "[I", Cond.methodLink RX0 84 yX0_requireDevice, Cond.instanceMethod yX0_requireDevice, Cond.selects RX0 yX0_requireDevice yX0_requireDevice, Cond.initialized RX0, Cond.code yX0_requireDevice cX0_requireDevice 2 none, Cond.classLink RX0 166 "java/lang/IndexOutOfBoundsException", Cond.initialized "java/lang/IndexOutOfBoundsException", Cond.fieldLink RX0 41 "PushNotices" "deviceCount" "I", Cond.methodLink RX0 124 yX0_requireNotice, Cond.instanceMethod yX0_requireNotice, Cond.selects RX0 yX0_requireNotice yX0_requireNotice, Cond.code yX0_requireNotice cX0_requireNotice 2 none, Cond.fieldLink RX0 60 "PushNotices" "noticeCount" "I", Cond.methodLink RX0 96 yX0_has, Cond.static yX0_has, Cond.code yX0_has cX0_has 2 (some .boolean), Cond.methodLink RX0 80 yX0_bitOf, Cond.static yX0_bitOf, Cond.code yX0_bitOf cX0_bitOf 1 (some .int), Cond.methodLink RX0 127 yX0_isStanding, Cond.instanceMethod yX0_isStanding]
def wsX0_read_r2 : List Cond := [Cond.selects RX0 yX0_isStanding yX0_isStanding, Cond.code yX0_isStanding cX0_isStanding 2 (some .boolean), Cond.fieldLink RX0 63 "PushNotices" "minute" "I", Cond.fieldLink RX0 48 "PushNotices" "fallsAt" "[I", Cond.methodLink RX0 132 yX0_waitsNow, Cond.instanceMethod yX0_waitsNow, Cond.selects RX0 yX0_waitsNow yX0_waitsNow, Cond.code yX0_waitsNow cX0_waitsNow 2 (some .int), Cond.fieldLink RX0 51 "PushNotices" "waitSet" "[I", Cond.methodLink RX0 135 yJ6_bitCount_0f7a4, Cond.static yJ6_bitCount_0f7a4, Cond.initialized RJ6, Cond.code yJ6_bitCount_0f7a4 cJ6_bitCount_0f7a4 1 (some .int), Cond.constant RJ6 265 (1431655765), Cond.constant RJ6 266 (858993459), Cond.constant RJ6 267 (252645135), Cond.methodLink RX0 140 yX0_withdraw, Cond.instanceMethod yX0_withdraw, Cond.selects RX0 yX0_withdraw yX0_withdraw, Cond.code yX0_withdraw cX0_withdraw 2 none]
def wsX0_read : List Cond := .code yX0_read cX0_read 4 (some .int) :: ((wsX0_read_r1 ++ wsX0_read_r2) ++ wsX00 ++ (vx_atS RX0 77 "java/lang/IllegalStateException" ["java/lang/RuntimeException", "java/lang/Exception"]).filter goodWord ++ (vx_atS RX0 170 "java/lang/IndexOutOfBoundsException" ["java/lang/RuntimeException", "java/lang/Exception"]).filter goodWord)
def wsX0_sent : List Cond := .code yX0_sent cX0_sent 1 (some .int) :: ([.fieldLink RX0 60 "PushNotices" "noticeCount" "I"] ++ wsX00)
def wsX0_stands : List Cond := .code yX0_stands cX0_stands 2 (some .boolean) :: ([.methodLink RX0 124 yX0_requireNotice, .instanceMethod yX0_requireNotice, .selects RX0 yX0_requireNotice yX0_requireNotice, .initialized RX0, .code yX0_requireNotice cX0_requireNotice 2 none, .classLink RX0 166 "java/lang/IndexOutOfBoundsException", .initialized "java/lang/IndexOutOfBoundsException", .fieldLink RX0 60 "PushNotices" "noticeCount" "I", .methodLink RX0 127 yX0_isStanding, .instanceMethod yX0_isStanding, .selects RX0 yX0_isStanding yX0_isStanding, .code yX0_isStanding cX0_isStanding 2 (some .boolean), .fieldLink RX0 63 "PushNotices" "minute" "I", .fieldLink RX0 48 "PushNotices" "fallsAt" "[I"] ++ wsX00 ++ (vx_atS RX0 170 "java/lang/IndexOutOfBoundsException" ["java/lang/RuntimeException", "java/lang/Exception"]).filter goodWord)
def wsX0_waitsFor : List Cond := .code yX0_waitsFor cX0_waitsFor 2 (some .int) :: ([.methodLink RX0 124 yX0_requireNotice, .instanceMethod yX0_requireNotice, .selects RX0 yX0_requireNotice yX0_requireNotice, .initialized RX0, .code yX0_requireNotice cX0_requireNotice 2 none, .classLink RX0 166 "java/lang/IndexOutOfBoundsException", .initialized "java/lang/IndexOutOfBoundsException", .fieldLink RX0 60 "PushNotices" "noticeCount" "I", .methodLink RX0 132 yX0_waitsNow, .instanceMethod yX0_waitsNow, .selects RX0 yX0_waitsNow yX0_waitsNow, .code yX0_waitsNow cX0_waitsNow 2 (some .int), .fieldLink RX0 51 "PushNotices" "waitSet" "[I", .methodLink RX0 127 yX0_isStanding, .instanceMethod yX0_isStanding, .selects RX0 yX0_isStanding yX0_isStanding, .code yX0_isStanding cX0_isStanding 2 (some .boolean), .fieldLink RX0 63 "PushNotices" "minute" "I", .fieldLink RX0 48 "PushNotices" "fallsAt" "[I"] ++ wsX00 ++ (vx_atS RX0 170 "java/lang/IndexOutOfBoundsException" ["java/lang/RuntimeException", "java/lang/Exception"]).filter goodWord)
def wsX0_deliveredTo : List Cond := .code yX0_deliveredTo cX0_deliveredTo 2 (some .int) :: ([.fieldLink RX0 54 "PushNotices" "deliveredSet" "[I", .methodLink RX0 124 yX0_requireNotice, .instanceMethod yX0_requireNotice, .selects RX0 yX0_requireNotice yX0_requireNotice, .initialized RX0, .code yX0_requireNotice cX0_requireNotice 2 none, .classLink RX0 166 "java/lang/IndexOutOfBoundsException", .initialized "java/lang/IndexOutOfBoundsException", .fieldLink RX0 60 "PushNotices" "noticeCount" "I"] ++ wsX00 ++ (vx_atS RX0 170 "java/lang/IndexOutOfBoundsException" ["java/lang/RuntimeException", "java/lang/Exception"]).filter goodWord)
def wsX0_standing : List Cond := .code yX0_standing cX0_standing 4 (some .int) :: ([.fieldLink RX0 57 "PushNotices" "lastWithKey" "[I", .methodLink RX0 69 yX0_requireWithin, .static yX0_requireWithin, .initialized RX0, .code yX0_requireWithin cX0_requireWithin 3 none, .classLink RX0 161 "java/lang/IllegalArgumentException", .initialized "java/lang/IllegalArgumentException", .methodLink RX0 143 yX0_placeOf, .static yX0_placeOf, .code yX0_placeOf cX0_placeOf 2 (some .int), .methodLink RX0 127 yX0_isStanding, .instanceMethod yX0_isStanding, .selects RX0 yX0_isStanding yX0_isStanding, .code yX0_isStanding cX0_isStanding 2 (some .boolean), .fieldLink RX0 63 "PushNotices" "minute" "I", .fieldLink RX0 48 "PushNotices" "fallsAt" "[I"] ++ wsX00 ++ (vx_atS RX0 165 "java/lang/IllegalArgumentException" ["java/lang/RuntimeException", "java/lang/Exception"]).filter goodWord)
def wsX0_badge : List Cond := .code yX0_badge cX0_badge 4 (some .int) :: ([.fieldLink RX0 60 "PushNotices" "noticeCount" "I", .fieldLink RX0 54 "PushNotices" "deliveredSet" "[I", .methodLink RX0 84 yX0_requireDevice, .instanceMethod yX0_requireDevice, .selects RX0 yX0_requireDevice yX0_requireDevice, .initialized RX0, .code yX0_requireDevice cX0_requireDevice 2 none, .classLink RX0 166 "java/lang/IndexOutOfBoundsException", .initialized "java/lang/IndexOutOfBoundsException", .fieldLink RX0 41 "PushNotices" "deviceCount" "I", .methodLink RX0 96 yX0_has, .static yX0_has, .code yX0_has cX0_has 2 (some .boolean), .methodLink RX0 80 yX0_bitOf, .static yX0_bitOf, .code yX0_bitOf cX0_bitOf 1 (some .int), .methodLink RX0 127 yX0_isStanding, .instanceMethod yX0_isStanding, .selects RX0 yX0_isStanding yX0_isStanding, .code yX0_isStanding cX0_isStanding 2 (some .boolean), .fieldLink RX0 63 "PushNotices" "minute" "I", .fieldLink RX0 48 "PushNotices" "fallsAt" "[I"] ++ wsX00 ++ (vx_atS RX0 170 "java/lang/IndexOutOfBoundsException" ["java/lang/RuntimeException", "java/lang/Exception"]).filter goodWord)
def wsX0_waiting_r1 : List Cond := [Cond.methodLink RX0 84 yX0_requireDevice, Cond.instanceMethod yX0_requireDevice, Cond.selects RX0 yX0_requireDevice yX0_requireDevice, Cond.initialized RX0, Cond.code yX0_requireDevice cX0_requireDevice 2 none, Cond.classLink RX0 166 "java/lang/IndexOutOfBoundsException", Cond.initialized "java/lang/IndexOutOfBoundsException", Cond.fieldLink RX0 41 "PushNotices" "deviceCount" "I", Cond.methodLink RX0 102 yX0_countWaiting, Cond.instanceMethod yX0_countWaiting, Cond.selects RX0 yX0_countWaiting yX0_countWaiting, Cond.code yX0_countWaiting cX0_countWaiting 4 (some .int), Cond.fieldLink RX0 60 "PushNotices" "noticeCount" "I", Cond.methodLink RX0 132 yX0_waitsNow, Cond.instanceMethod yX0_waitsNow, Cond.selects RX0 yX0_waitsNow yX0_waitsNow, Cond.code yX0_waitsNow cX0_waitsNow 2 (some .int), Cond.fieldLink RX0 51 "PushNotices" "waitSet" "[I", Cond.methodLink RX0 127 yX0_isStanding, Cond.instanceMethod yX0_isStanding, Cond.selects RX0 yX0_isStanding yX0_isStanding, Cond.code yX0_isStanding cX0_isStanding 2 (some .boolean), Cond.fieldLink RX0 63 "PushNotices" "minute" "I", Cond.fieldLink RX0 48 "PushNotices" "fallsAt" "[I"]
def wsX0_waiting_r2 : List Cond := [Cond.methodLink RX0 96 yX0_has, Cond.static yX0_has, Cond.code yX0_has cX0_has 2 (some .boolean), Cond.methodLink RX0 80 yX0_bitOf, Cond.static yX0_bitOf, Cond.code yX0_bitOf cX0_bitOf 1 (some .int)]
def wsX0_waiting : List Cond := .code yX0_waiting cX0_waiting 2 (some .int) :: ((wsX0_waiting_r1 ++ wsX0_waiting_r2) ++ wsX00 ++ (vx_atS RX0 170 "java/lang/IndexOutOfBoundsException" ["java/lang/RuntimeException", "java/lang/Exception"]).filter goodWord)
def wsX0_quota : List Cond := .code yX0_quota cX0_quota 2 (some .int) :: ([.methodLink RX0 84 yX0_requireDevice, .instanceMethod yX0_requireDevice, .selects RX0 yX0_requireDevice yX0_requireDevice, .initialized RX0, .code yX0_requireDevice cX0_requireDevice 2 none, .classLink RX0 166 "java/lang/IndexOutOfBoundsException", .initialized "java/lang/IndexOutOfBoundsException", .fieldLink RX0 41 "PushNotices" "deviceCount" "I", .methodLink RX0 147 yX0_spentToday, .instanceMethod yX0_spentToday, .selects RX0 yX0_spentToday yX0_spentToday, .code yX0_spentToday cX0_spentToday 2 (some .int), .fieldLink RX0 35 "PushNotices" "quotaDay" "[I", .fieldLink RX0 63 "PushNotices" "minute" "I", .fieldLink RX0 38 "PushNotices" "quotaSpent" "[I"] ++ wsX00 ++ (vx_atS RX0 170 "java/lang/IndexOutOfBoundsException" ["java/lang/RuntimeException", "java/lang/Exception"]).filter goodWord)
def wsX0_nextChance : List Cond := .code yX0_nextChance cX0_nextChance 4 (some .int) :: ([.fieldLink RX0 63 "PushNotices" "minute" "I", .fieldLink RX0 41 "PushNotices" "deviceCount" "I", .fieldLink RX0 32 "PushNotices" "quietTo" "[I", .methodLink RX0 156 Lib.Math.min.name, .static Lib.Math.min.name, .initialized "java/lang/Math", .code Lib.Math.min.name Lib.Math.min.code 2 (some .int), .methodLink RX0 105 yX0_isInQuietHours, .instanceMethod yX0_isInQuietHours, .selects RX0 yX0_isInQuietHours yX0_isInQuietHours, .initialized RX0, .code yX0_isInQuietHours cX0_isInQuietHours 4 (some .boolean), .fieldLink RX0 29 "PushNotices" "quietFrom" "[I", .methodLink RX0 178 yX0_localTime, .instanceMethod yX0_localTime, .selects RX0 yX0_localTime yX0_localTime, .code yX0_localTime cX0_localTime 2 (some .int), .fieldLink RX0 26 "PushNotices" "zoneOffset" "[I", .methodLink RX0 175 yJ9_floorMod_7cf53, .static yJ9_floorMod_7cf53, .initialized RJ9, .code yJ9_floorMod_7cf53 cJ9_floorMod_7cf53 3 (some .int)] ++ wsX00)
def wsX0_pass_r1 : List Cond := [Cond.classLink RX0 73 "java/lang/IllegalStateException", Cond.initialized "java/lang/IllegalStateException", Cond.fieldLink RX0 63 "PushNotices" "minute" "I", Cond.constant RX0 150 (100000), Cond.methodLink RX0 156 Lib.Math.min.name, Cond.static Lib.Math.min.name, Cond.initialized "java/lang/Math", Cond.code Lib.Math.min.name Lib.Math.min.code 2 (some .int), Cond.methodLink RX0 69 yX0_requireWithin, Cond.static yX0_requireWithin, Cond.initialized RX0, Cond.code yX0_requireWithin cX0_requireWithin 3 none, Cond.classLink RX0 161 "java/lang/IllegalArgumentException", Cond.initialized "java/lang/IllegalArgumentException", Cond.methodLink RX0 153 yX0_nextChance, Cond.instanceMethod yX0_nextChance, Cond.selects RX0 yX0_nextChance yX0_nextChance, Cond.code yX0_nextChance cX0_nextChance 4 (some .int), Cond.fieldLink RX0 41 "PushNotices" "deviceCount" "I", Cond.fieldLink RX0 32 "PushNotices" "quietTo" "[I", Cond.methodLink RX0 105 yX0_isInQuietHours, Cond.instanceMethod yX0_isInQuietHours, Cond.selects RX0 yX0_isInQuietHours yX0_isInQuietHours, Cond.code yX0_isInQuietHours cX0_isInQuietHours 4 (some .boolean)]
def wsX0_pass_r2 : List Cond := [Cond.fieldLink RX0 29 "PushNotices" "quietFrom" "[I", Cond.methodLink RX0 178 yX0_localTime, Cond.instanceMethod yX0_localTime, Cond.selects RX0 yX0_localTime yX0_localTime, Cond.code yX0_localTime cX0_localTime 2 (some .int), Cond.fieldLink RX0 26 "PushNotices" "zoneOffset" "[I", Cond.methodLink RX0 175 yJ9_floorMod_7cf53, Cond.static yJ9_floorMod_7cf53, Cond.initialized RJ9, Cond.code yJ9_floorMod_7cf53 cJ9_floorMod_7cf53 3 (some .int), Cond.methodLink RX0 92 yX0_deliverNow, Cond.instanceMethod yX0_deliverNow, Cond.selects RX0 yX0_deliverNow yX0_deliverNow, Cond.code yX0_deliverNow cX0_deliverNow 5 (some .int), Cond.fieldLink RX0 66 "PushNotices" "deliveryCount" "I", Cond.fieldLink RX0 60 "PushNotices" "noticeCount" "I", Cond.fieldLink RX0 44 "PushNotices" "isHighNotice" "[Z", Cond.methodLink RX0 181 yX0_openToNormal, Cond.instanceMethod yX0_openToNormal, Cond.selects RX0 yX0_openToNormal yX0_openToNormal, Cond.code yX0_openToNormal cX0_openToNormal 3 (some .int), Cond.fieldLink RX0 20 "PushNotices" "online" "I", Cond.fieldLink RX0 23 "PushNotices" "dozing" "I", Cond.methodLink RX0 88 yX0_changed]
def wsX0_pass_r3 : List Cond := [Cond.static yX0_changed, Cond.code yX0_changed cX0_changed 3 (some .int), Cond.methodLink RX0 80 yX0_bitOf, Cond.static yX0_bitOf, Cond.code yX0_bitOf cX0_bitOf 1 (some .int), Cond.methodLink RX0 132 yX0_waitsNow, Cond.instanceMethod yX0_waitsNow, Cond.selects RX0 yX0_waitsNow yX0_waitsNow, Cond.code yX0_waitsNow cX0_waitsNow 2 (some .int), Cond.fieldLink RX0 51 "PushNotices" "waitSet" "[I", Cond.methodLink RX0 127 yX0_isStanding, Cond.instanceMethod yX0_isStanding, Cond.selects RX0 yX0_isStanding yX0_isStanding, Cond.code yX0_isStanding cX0_isStanding 2 (some .boolean), Cond.fieldLink RX0 48 "PushNotices" "fallsAt" "[I", Cond.methodLink RX0 184 yX0_openToHigh, Cond.instanceMethod yX0_openToHigh, Cond.selects RX0 yX0_openToHigh yX0_openToHigh, Cond.code yX0_openToHigh cX0_openToHigh 3 (some .int), Cond.methodLink RX0 96 yX0_has, Cond.static yX0_has, Cond.code yX0_has cX0_has 2 (some .boolean), Cond.methodLink RX0 147 yX0_spentToday, Cond.instanceMethod yX0_spentToday]
def wsX0_pass_r4 : List Cond := [Cond.selects RX0 yX0_spentToday yX0_spentToday, Cond.code yX0_spentToday cX0_spentToday 2 (some .int), Cond.fieldLink RX0 35 "PushNotices" "quotaDay" "[I", Cond.fieldLink RX0 38 "PushNotices" "quotaSpent" "[I", Cond.methodLink RX0 187 yX0_deliver, Cond.instanceMethod yX0_deliver, Cond.selects RX0 yX0_deliver yX0_deliver, Cond.code yX0_deliver cX0_deliver 3 none, Cond.fieldLink RX0 54 "PushNotices" "deliveredSet" "[I", Cond.methodLink RX0 135 yJ6_bitCount_0f7a4, Cond.static yJ6_bitCount_0f7a4, Cond.initialized RJ6, Cond.code yJ6_bitCount_0f7a4 cJ6_bitCount_0f7a4 1 (some .int), Cond.constant RJ6 265 (1431655765), Cond.constant RJ6 266 (858993459), Cond.constant RJ6 267 (252645135), Cond.methodLink RX0 190 yX0_spendQuota, Cond.instanceMethod yX0_spendQuota, Cond.selects RX0 yX0_spendQuota yX0_spendQuota, Cond.code yX0_spendQuota cX0_spendQuota 3 none]
def wsX0_pass : List Cond := .code yX0_pass cX0_pass 5 (some .int) :: ((wsX0_pass_r1 ++ (wsX0_pass_r2 ++ (wsX0_pass_r3 ++ wsX0_pass_r4))) ++ wsX00 ++ (vx_atS RX0 77 "java/lang/IllegalStateException" ["java/lang/RuntimeException", "java/lang/Exception"]).filter goodWord ++ (vx_atS RX0 165 "java/lang/IllegalArgumentException" ["java/lang/RuntimeException", "java/lang/Exception"]).filter goodWord)
def wsX0_clock : List Cond := .code yX0_clock cX0_clock 1 (some .int) :: ([.fieldLink RX0 63 "PushNotices" "minute" "I"] ++ wsX00)
def wsX0_deliveries : List Cond := .code yX0_deliveries cX0_deliveries 1 (some .int) :: ([.fieldLink RX0 66 "PushNotices" "deliveryCount" "I"] ++ wsX00)
def wsJ9_min_7cf53 : List Cond := .code yJ9_min_7cf53 cJ9_min_7cf53 2 (some .int) :: ([])
def wsL_adds : List Cond := .codeWith yL_adds cL_adds 4 (some .int) [(0, 6, 7, 13), (0, 6, 11, 16)] :: ([.classLink RL 13 "java/lang/IllegalArgumentException", .classLink RL 16 "java/lang/IllegalStateException", .constant RL 15 (-2000000002), .constant RL 18 (-2000000003), .methodLink RL 7 yX0_addDevice, .instanceMethod yX0_addDevice, .selects RX0 yX0_addDevice yX0_addDevice, .initialized RX0, .code yX0_addDevice cX0_addDevice 4 (some .int), .classLink RX0 73 "java/lang/IllegalStateException", .initialized "java/lang/IllegalStateException", .fieldLink RX0 41 "PushNotices" "deviceCount" "I", .fieldLink RX0 26 "PushNotices" "zoneOffset" "[I", .fieldLink RX0 9 "PushNotices" "devicesOfUser" "[I", .fieldLink RX0 16 "PushNotices" "alive" "I", .fieldLink RX0 20 "PushNotices" "online" "I", .methodLink RX0 69 yX0_requireWithin, .static yX0_requireWithin, .code yX0_requireWithin cX0_requireWithin 3 none, .classLink RX0 161 "java/lang/IllegalArgumentException", .initialized "java/lang/IllegalArgumentException", .methodLink RX0 80 yX0_bitOf, .static yX0_bitOf, .code yX0_bitOf cX0_bitOf 1 (some .int)] ++ wsX00 ++ (vx_atS RX0 77 "java/lang/IllegalStateException" ["java/lang/RuntimeException", "java/lang/Exception"]).filter goodWord ++ (vx_atS RX0 165 "java/lang/IllegalArgumentException" ["java/lang/RuntimeException", "java/lang/Exception"]).filter goodWord)
def wsL_online_r1 : List Cond := [Cond.classLink RL 23 "java/lang/IndexOutOfBoundsException", Cond.constant RL 25 (-2000000001), Cond.methodLink RL 19 yX0_setOnline, Cond.instanceMethod yX0_setOnline, Cond.selects RX0 yX0_setOnline yX0_setOnline, Cond.initialized RX0, Cond.code yX0_setOnline cX0_setOnline 3 (some .int), Cond.fieldLink RX0 20 "PushNotices" "online" "I", Cond.methodLink RX0 84 yX0_requireDevice, Cond.instanceMethod yX0_requireDevice, Cond.selects RX0 yX0_requireDevice yX0_requireDevice, Cond.code yX0_requireDevice cX0_requireDevice 2 none, Cond.classLink RX0 166 "java/lang/IndexOutOfBoundsException", Cond.initialized "java/lang/IndexOutOfBoundsException", Cond.fieldLink RX0 41 "PushNotices" "deviceCount" "I", Cond.methodLink RX0 88 yX0_changed, Cond.static yX0_changed, Cond.code yX0_changed cX0_changed 3 (some .int), Cond.methodLink RX0 80 yX0_bitOf, Cond.static yX0_bitOf, Cond.code yX0_bitOf cX0_bitOf 1 (some .int), Cond.methodLink RX0 92 yX0_deliverNow, Cond.instanceMethod yX0_deliverNow, Cond.selects RX0 yX0_deliverNow yX0_deliverNow]
def wsL_online_r2 : List Cond := [Cond.code yX0_deliverNow cX0_deliverNow 5 (some .int), Cond.fieldLink RX0 66 "PushNotices" "deliveryCount" "I", Cond.fieldLink RX0 60 "PushNotices" "noticeCount" "I", Cond.fieldLink RX0 44 "PushNotices" "isHighNotice" "[Z", Cond.methodLink RX0 181 yX0_openToNormal, Cond.instanceMethod yX0_openToNormal, Cond.selects RX0 yX0_openToNormal yX0_openToNormal, Cond.code yX0_openToNormal cX0_openToNormal 3 (some .int), Cond.fieldLink RX0 63 "PushNotices" "minute" "I", Cond.fieldLink RX0 23 "PushNotices" "dozing" "I", Cond.methodLink RX0 105 yX0_isInQuietHours, Cond.instanceMethod yX0_isInQuietHours, Cond.selects RX0 yX0_isInQuietHours yX0_isInQuietHours, Cond.code yX0_isInQuietHours cX0_isInQuietHours 4 (some .boolean), Cond.fieldLink RX0 29 "PushNotices" "quietFrom" "[I", Cond.fieldLink RX0 32 "PushNotices" "quietTo" "[I", Cond.methodLink RX0 178 yX0_localTime, Cond.instanceMethod yX0_localTime, Cond.selects RX0 yX0_localTime yX0_localTime, Cond.code yX0_localTime cX0_localTime 2 (some .int), Cond.fieldLink RX0 26 "PushNotices" "zoneOffset" "[I", Cond.methodLink RX0 175 yJ9_floorMod_7cf53, Cond.static yJ9_floorMod_7cf53, Cond.initialized RJ9]
def wsL_online_r3 : List Cond := [Cond.code yJ9_floorMod_7cf53 cJ9_floorMod_7cf53 3 (some .int), Cond.methodLink RX0 132 yX0_waitsNow, Cond.instanceMethod yX0_waitsNow, Cond.selects RX0 yX0_waitsNow yX0_waitsNow, Cond.code yX0_waitsNow cX0_waitsNow 2 (some .int), Cond.fieldLink RX0 51 "PushNotices" "waitSet" "[I", Cond.methodLink RX0 127 yX0_isStanding, Cond.instanceMethod yX0_isStanding, Cond.selects RX0 yX0_isStanding yX0_isStanding, Cond.code yX0_isStanding cX0_isStanding 2 (some .boolean), Cond.fieldLink RX0 48 "PushNotices" "fallsAt" "[I", Cond.methodLink RX0 184 yX0_openToHigh, Cond.instanceMethod yX0_openToHigh, Cond.selects RX0 yX0_openToHigh yX0_openToHigh, Cond.code yX0_openToHigh cX0_openToHigh 3 (some .int), Cond.methodLink RX0 96 yX0_has, Cond.static yX0_has, Cond.code yX0_has cX0_has 2 (some .boolean), Cond.methodLink RX0 147 yX0_spentToday, Cond.instanceMethod yX0_spentToday, Cond.selects RX0 yX0_spentToday yX0_spentToday, Cond.code yX0_spentToday cX0_spentToday 2 (some .int), Cond.fieldLink RX0 35 "PushNotices" "quotaDay" "[I", Cond.fieldLink RX0 38 "PushNotices" "quotaSpent" "[I"]
def wsL_online_r4 : List Cond := [Cond.methodLink RX0 187 yX0_deliver, Cond.instanceMethod yX0_deliver, Cond.selects RX0 yX0_deliver yX0_deliver, Cond.code yX0_deliver cX0_deliver 3 none, Cond.fieldLink RX0 54 "PushNotices" "deliveredSet" "[I", Cond.methodLink RX0 135 yJ6_bitCount_0f7a4, Cond.static yJ6_bitCount_0f7a4, Cond.initialized RJ6, Cond.code yJ6_bitCount_0f7a4 cJ6_bitCount_0f7a4 1 (some .int), Cond.constant RJ6 265 (1431655765), Cond.constant RJ6 266 (858993459), Cond.constant RJ6 267 (252645135), Cond.methodLink RX0 190 yX0_spendQuota, Cond.instanceMethod yX0_spendQuota, Cond.selects RX0 yX0_spendQuota yX0_spendQuota, Cond.code yX0_spendQuota cX0_spendQuota 3 none]
def wsL_online : List Cond := .codeWith yL_online cL_online 4 (some .int) [(0, 6, 7, 23)] :: ((wsL_online_r1 ++ (wsL_online_r2 ++ (wsL_online_r3 ++ wsL_online_r4))) ++ wsX00 ++ (vx_atS RX0 170 "java/lang/IndexOutOfBoundsException" ["java/lang/RuntimeException", "java/lang/Exception"]).filter goodWord)
def wsL_dozes_r1 : List Cond := [Cond.classLink RL 23 "java/lang/IndexOutOfBoundsException", Cond.constant RL 25 (-2000000001), Cond.methodLink RL 26 yX0_setDozing, Cond.instanceMethod yX0_setDozing, Cond.selects RX0 yX0_setDozing yX0_setDozing, Cond.initialized RX0, Cond.code yX0_setDozing cX0_setDozing 3 (some .int), Cond.fieldLink RX0 23 "PushNotices" "dozing" "I", Cond.methodLink RX0 84 yX0_requireDevice, Cond.instanceMethod yX0_requireDevice, Cond.selects RX0 yX0_requireDevice yX0_requireDevice, Cond.code yX0_requireDevice cX0_requireDevice 2 none, Cond.classLink RX0 166 "java/lang/IndexOutOfBoundsException", Cond.initialized "java/lang/IndexOutOfBoundsException", Cond.fieldLink RX0 41 "PushNotices" "deviceCount" "I", Cond.methodLink RX0 88 yX0_changed, Cond.static yX0_changed, Cond.code yX0_changed cX0_changed 3 (some .int), Cond.methodLink RX0 80 yX0_bitOf, Cond.static yX0_bitOf, Cond.code yX0_bitOf cX0_bitOf 1 (some .int), Cond.methodLink RX0 92 yX0_deliverNow, Cond.instanceMethod yX0_deliverNow, Cond.selects RX0 yX0_deliverNow yX0_deliverNow]
def wsL_dozes_r2 : List Cond := [Cond.code yX0_deliverNow cX0_deliverNow 5 (some .int), Cond.fieldLink RX0 66 "PushNotices" "deliveryCount" "I", Cond.fieldLink RX0 60 "PushNotices" "noticeCount" "I", Cond.fieldLink RX0 44 "PushNotices" "isHighNotice" "[Z", Cond.methodLink RX0 181 yX0_openToNormal, Cond.instanceMethod yX0_openToNormal, Cond.selects RX0 yX0_openToNormal yX0_openToNormal, Cond.code yX0_openToNormal cX0_openToNormal 3 (some .int), Cond.fieldLink RX0 63 "PushNotices" "minute" "I", Cond.fieldLink RX0 20 "PushNotices" "online" "I", Cond.methodLink RX0 105 yX0_isInQuietHours, Cond.instanceMethod yX0_isInQuietHours, Cond.selects RX0 yX0_isInQuietHours yX0_isInQuietHours, Cond.code yX0_isInQuietHours cX0_isInQuietHours 4 (some .boolean), Cond.fieldLink RX0 29 "PushNotices" "quietFrom" "[I", Cond.fieldLink RX0 32 "PushNotices" "quietTo" "[I", Cond.methodLink RX0 178 yX0_localTime, Cond.instanceMethod yX0_localTime, Cond.selects RX0 yX0_localTime yX0_localTime, Cond.code yX0_localTime cX0_localTime 2 (some .int), Cond.fieldLink RX0 26 "PushNotices" "zoneOffset" "[I", Cond.methodLink RX0 175 yJ9_floorMod_7cf53, Cond.static yJ9_floorMod_7cf53, Cond.initialized RJ9]
def wsL_dozes_r3 : List Cond := [Cond.code yJ9_floorMod_7cf53 cJ9_floorMod_7cf53 3 (some .int), Cond.methodLink RX0 132 yX0_waitsNow, Cond.instanceMethod yX0_waitsNow, Cond.selects RX0 yX0_waitsNow yX0_waitsNow, Cond.code yX0_waitsNow cX0_waitsNow 2 (some .int), Cond.fieldLink RX0 51 "PushNotices" "waitSet" "[I", Cond.methodLink RX0 127 yX0_isStanding, Cond.instanceMethod yX0_isStanding, Cond.selects RX0 yX0_isStanding yX0_isStanding, Cond.code yX0_isStanding cX0_isStanding 2 (some .boolean), Cond.fieldLink RX0 48 "PushNotices" "fallsAt" "[I", Cond.methodLink RX0 184 yX0_openToHigh, Cond.instanceMethod yX0_openToHigh, Cond.selects RX0 yX0_openToHigh yX0_openToHigh, Cond.code yX0_openToHigh cX0_openToHigh 3 (some .int), Cond.methodLink RX0 96 yX0_has, Cond.static yX0_has, Cond.code yX0_has cX0_has 2 (some .boolean), Cond.methodLink RX0 147 yX0_spentToday, Cond.instanceMethod yX0_spentToday, Cond.selects RX0 yX0_spentToday yX0_spentToday, Cond.code yX0_spentToday cX0_spentToday 2 (some .int), Cond.fieldLink RX0 35 "PushNotices" "quotaDay" "[I", Cond.fieldLink RX0 38 "PushNotices" "quotaSpent" "[I"]
def wsL_dozes_r4 : List Cond := [Cond.methodLink RX0 187 yX0_deliver, Cond.instanceMethod yX0_deliver, Cond.selects RX0 yX0_deliver yX0_deliver, Cond.code yX0_deliver cX0_deliver 3 none, Cond.fieldLink RX0 54 "PushNotices" "deliveredSet" "[I", Cond.methodLink RX0 135 yJ6_bitCount_0f7a4, Cond.static yJ6_bitCount_0f7a4, Cond.initialized RJ6, Cond.code yJ6_bitCount_0f7a4 cJ6_bitCount_0f7a4 1 (some .int), Cond.constant RJ6 265 (1431655765), Cond.constant RJ6 266 (858993459), Cond.constant RJ6 267 (252645135), Cond.methodLink RX0 190 yX0_spendQuota, Cond.instanceMethod yX0_spendQuota, Cond.selects RX0 yX0_spendQuota yX0_spendQuota, Cond.code yX0_spendQuota cX0_spendQuota 3 none]
def wsL_dozes : List Cond := .codeWith yL_dozes cL_dozes 4 (some .int) [(0, 6, 7, 23)] :: ((wsL_dozes_r1 ++ (wsL_dozes_r2 ++ (wsL_dozes_r3 ++ wsL_dozes_r4))) ++ wsX00 ++ (vx_atS RX0 170 "java/lang/IndexOutOfBoundsException" ["java/lang/RuntimeException", "java/lang/Exception"]).filter goodWord)
def wsL_quiets_r1 : List Cond := [Cond.classLink RL 23 "java/lang/IndexOutOfBoundsException", Cond.classLink RL 13 "java/lang/IllegalArgumentException", Cond.constant RL 25 (-2000000001), Cond.constant RL 15 (-2000000002), Cond.methodLink RL 29 yX0_setQuiet, Cond.instanceMethod yX0_setQuiet, Cond.selects RX0 yX0_setQuiet yX0_setQuiet, Cond.initialized RX0, Cond.code yX0_setQuiet cX0_setQuiet 4 (some .int), Cond.fieldLink RX0 29 "PushNotices" "quietFrom" "[I", Cond.fieldLink RX0 32 "PushNotices" "quietTo" "[I", Cond.methodLink RX0 84 yX0_requireDevice, Cond.instanceMethod yX0_requireDevice, Cond.selects RX0 yX0_requireDevice yX0_requireDevice, Cond.code yX0_requireDevice cX0_requireDevice 2 none, Cond.classLink RX0 166 "java/lang/IndexOutOfBoundsException", Cond.initialized "java/lang/IndexOutOfBoundsException", Cond.fieldLink RX0 41 "PushNotices" "deviceCount" "I", Cond.methodLink RX0 69 yX0_requireWithin, Cond.static yX0_requireWithin, Cond.code yX0_requireWithin cX0_requireWithin 3 none, Cond.classLink RX0 161 "java/lang/IllegalArgumentException", Cond.initialized "java/lang/IllegalArgumentException", Cond.methodLink RX0 92 yX0_deliverNow]
def wsL_quiets_r2 : List Cond := [Cond.instanceMethod yX0_deliverNow, Cond.selects RX0 yX0_deliverNow yX0_deliverNow, Cond.code yX0_deliverNow cX0_deliverNow 5 (some .int), Cond.fieldLink RX0 66 "PushNotices" "deliveryCount" "I", Cond.fieldLink RX0 60 "PushNotices" "noticeCount" "I", Cond.fieldLink RX0 44 "PushNotices" "isHighNotice" "[Z", Cond.methodLink RX0 181 yX0_openToNormal, Cond.instanceMethod yX0_openToNormal, Cond.selects RX0 yX0_openToNormal yX0_openToNormal, Cond.code yX0_openToNormal cX0_openToNormal 3 (some .int), Cond.fieldLink RX0 63 "PushNotices" "minute" "I", Cond.fieldLink RX0 20 "PushNotices" "online" "I", Cond.fieldLink RX0 23 "PushNotices" "dozing" "I", Cond.methodLink RX0 105 yX0_isInQuietHours, Cond.instanceMethod yX0_isInQuietHours, Cond.selects RX0 yX0_isInQuietHours yX0_isInQuietHours, Cond.code yX0_isInQuietHours cX0_isInQuietHours 4 (some .boolean), Cond.methodLink RX0 178 yX0_localTime, Cond.instanceMethod yX0_localTime, Cond.selects RX0 yX0_localTime yX0_localTime, Cond.code yX0_localTime cX0_localTime 2 (some .int), Cond.fieldLink RX0 26 "PushNotices" "zoneOffset" "[I", Cond.methodLink RX0 175 yJ9_floorMod_7cf53, Cond.static yJ9_floorMod_7cf53]
def wsL_quiets_r3 : List Cond := [Cond.initialized RJ9, Cond.code yJ9_floorMod_7cf53 cJ9_floorMod_7cf53 3 (some .int), Cond.methodLink RX0 88 yX0_changed, Cond.static yX0_changed, Cond.code yX0_changed cX0_changed 3 (some .int), Cond.methodLink RX0 80 yX0_bitOf, Cond.static yX0_bitOf, Cond.code yX0_bitOf cX0_bitOf 1 (some .int), Cond.methodLink RX0 132 yX0_waitsNow, Cond.instanceMethod yX0_waitsNow, Cond.selects RX0 yX0_waitsNow yX0_waitsNow, Cond.code yX0_waitsNow cX0_waitsNow 2 (some .int), Cond.fieldLink RX0 51 "PushNotices" "waitSet" "[I", Cond.methodLink RX0 127 yX0_isStanding, Cond.instanceMethod yX0_isStanding, Cond.selects RX0 yX0_isStanding yX0_isStanding, Cond.code yX0_isStanding cX0_isStanding 2 (some .boolean), Cond.fieldLink RX0 48 "PushNotices" "fallsAt" "[I", Cond.methodLink RX0 184 yX0_openToHigh, Cond.instanceMethod yX0_openToHigh, Cond.selects RX0 yX0_openToHigh yX0_openToHigh, Cond.code yX0_openToHigh cX0_openToHigh 3 (some .int), Cond.methodLink RX0 96 yX0_has, Cond.static yX0_has]
def wsL_quiets_r4 : List Cond := [Cond.code yX0_has cX0_has 2 (some .boolean), Cond.methodLink RX0 147 yX0_spentToday, Cond.instanceMethod yX0_spentToday, Cond.selects RX0 yX0_spentToday yX0_spentToday, Cond.code yX0_spentToday cX0_spentToday 2 (some .int), Cond.fieldLink RX0 35 "PushNotices" "quotaDay" "[I", Cond.fieldLink RX0 38 "PushNotices" "quotaSpent" "[I", Cond.methodLink RX0 187 yX0_deliver, Cond.instanceMethod yX0_deliver, Cond.selects RX0 yX0_deliver yX0_deliver, Cond.code yX0_deliver cX0_deliver 3 none, Cond.fieldLink RX0 54 "PushNotices" "deliveredSet" "[I", Cond.methodLink RX0 135 yJ6_bitCount_0f7a4, Cond.static yJ6_bitCount_0f7a4, Cond.initialized RJ6, Cond.code yJ6_bitCount_0f7a4 cJ6_bitCount_0f7a4 1 (some .int), Cond.constant RJ6 265 (1431655765), Cond.constant RJ6 266 (858993459), Cond.constant RJ6 267 (252645135), Cond.methodLink RX0 190 yX0_spendQuota, Cond.instanceMethod yX0_spendQuota, Cond.selects RX0 yX0_spendQuota yX0_spendQuota, Cond.code yX0_spendQuota cX0_spendQuota 3 none]
def wsL_quiets : List Cond := .codeWith yL_quiets cL_quiets 5 (some .int) [(0, 7, 8, 23), (0, 7, 13, 13)] :: ((wsL_quiets_r1 ++ (wsL_quiets_r2 ++ (wsL_quiets_r3 ++ wsL_quiets_r4))) ++ wsX00 ++ (vx_atS RX0 170 "java/lang/IndexOutOfBoundsException" ["java/lang/RuntimeException", "java/lang/Exception"]).filter goodWord ++ (vx_atS RX0 165 "java/lang/IllegalArgumentException" ["java/lang/RuntimeException", "java/lang/Exception"]).filter goodWord)
def wsL_joins_r1 : List Cond := [Cond.classLink RL 23 "java/lang/IndexOutOfBoundsException", Cond.classLink RL 13 "java/lang/IllegalArgumentException", Cond.constant RL 25 (-2000000001), Cond.constant RL 15 (-2000000002), Cond.methodLink RL 33 yX0_join, Cond.instanceMethod yX0_join, Cond.selects RX0 yX0_join yX0_join, Cond.initialized RX0, Cond.code yX0_join cX0_join 5 (some .boolean), Cond.fieldLink RX0 13 "PushNotices" "devicesOfTopic" "[I", Cond.methodLink RX0 84 yX0_requireDevice, Cond.instanceMethod yX0_requireDevice, Cond.selects RX0 yX0_requireDevice yX0_requireDevice, Cond.code yX0_requireDevice cX0_requireDevice 2 none, Cond.classLink RX0 166 "java/lang/IndexOutOfBoundsException", Cond.initialized "java/lang/IndexOutOfBoundsException", Cond.fieldLink RX0 41 "PushNotices" "deviceCount" "I", Cond.methodLink RX0 69 yX0_requireWithin, Cond.static yX0_requireWithin, Cond.code yX0_requireWithin cX0_requireWithin 3 none, Cond.classLink RX0 161 "java/lang/IllegalArgumentException", Cond.initialized "java/lang/IllegalArgumentException", Cond.methodLink RX0 96 yX0_has, Cond.static yX0_has]
def wsL_joins_r2 : List Cond := [Cond.code yX0_has cX0_has 2 (some .boolean), Cond.methodLink RX0 80 yX0_bitOf, Cond.static yX0_bitOf, Cond.code yX0_bitOf cX0_bitOf 1 (some .int), Cond.methodLink RX0 88 yX0_changed, Cond.static yX0_changed, Cond.code yX0_changed cX0_changed 3 (some .int)]
def wsL_joins : List Cond := .codeWith yL_joins cL_joins 5 (some .int) [(0, 15, 16, 23), (0, 15, 21, 13)] :: ((wsL_joins_r1 ++ wsL_joins_r2) ++ wsX00 ++ (vx_atS RX0 170 "java/lang/IndexOutOfBoundsException" ["java/lang/RuntimeException", "java/lang/Exception"]).filter goodWord ++ (vx_atS RX0 165 "java/lang/IllegalArgumentException" ["java/lang/RuntimeException", "java/lang/Exception"]).filter goodWord)
def wsL_kills_r1 : List Cond := [Cond.classLink RL 23 "java/lang/IndexOutOfBoundsException", Cond.classLink RL 16 "java/lang/IllegalStateException", Cond.constant RL 25 (-2000000001), Cond.constant RL 18 (-2000000003), Cond.methodLink RL 37 yX0_kill, Cond.instanceMethod yX0_kill, Cond.selects RX0 yX0_kill yX0_kill, Cond.initialized RX0, Cond.code yX0_kill cX0_kill 4 (some .int), Cond.classLink RX0 73 "java/lang/IllegalStateException", Cond.initialized "java/lang/IllegalStateException", Cond.fieldLink RX0 16 "PushNotices" "alive" "I", Cond.fieldLink RX0 60 "PushNotices" "noticeCount" "I", Cond.fieldLink RX0 51 "PushNotices" "waitSet" "[I", Cond.methodLink RX0 84 yX0_requireDevice, Cond.instanceMethod yX0_requireDevice, Cond.selects RX0 yX0_requireDevice yX0_requireDevice, Cond.code yX0_requireDevice cX0_requireDevice 2 none, Cond.classLink RX0 166 "java/lang/IndexOutOfBoundsException", Cond.initialized "java/lang/IndexOutOfBoundsException", Cond.fieldLink RX0 41 "PushNotices" "deviceCount" "I", Cond.methodLink RX0 96 yX0_has, Cond.static yX0_has, Cond.code yX0_has cX0_has 2 (some .boolean)]
def wsL_kills_r2 : List Cond := [Cond.methodLink RX0 80 yX0_bitOf, Cond.static yX0_bitOf, Cond.code yX0_bitOf cX0_bitOf 1 (some .int), Cond.methodLink RX0 102 yX0_countWaiting, Cond.instanceMethod yX0_countWaiting, Cond.selects RX0 yX0_countWaiting yX0_countWaiting, Cond.code yX0_countWaiting cX0_countWaiting 4 (some .int), Cond.methodLink RX0 132 yX0_waitsNow, Cond.instanceMethod yX0_waitsNow, Cond.selects RX0 yX0_waitsNow yX0_waitsNow, Cond.code yX0_waitsNow cX0_waitsNow 2 (some .int), Cond.methodLink RX0 127 yX0_isStanding, Cond.instanceMethod yX0_isStanding, Cond.selects RX0 yX0_isStanding yX0_isStanding, Cond.code yX0_isStanding cX0_isStanding 2 (some .boolean), Cond.fieldLink RX0 63 "PushNotices" "minute" "I", Cond.fieldLink RX0 48 "PushNotices" "fallsAt" "[I", Cond.methodLink RX0 88 yX0_changed, Cond.static yX0_changed, Cond.code yX0_changed cX0_changed 3 (some .int)]
def wsL_kills : List Cond := .codeWith yL_kills cL_kills 3 (some .int) [(0, 5, 6, 23), (0, 5, 10, 16)] :: ((wsL_kills_r1 ++ wsL_kills_r2) ++ wsX00 ++ (vx_atS RX0 77 "java/lang/IllegalStateException" ["java/lang/RuntimeException", "java/lang/Exception"]).filter goodWord ++ (vx_atS RX0 170 "java/lang/IndexOutOfBoundsException" ["java/lang/RuntimeException", "java/lang/Exception"]).filter goodWord)
def wsL_quiet_r1 : List Cond := [Cond.classLink RL 23 "java/lang/IndexOutOfBoundsException", Cond.constant RL 25 (-2000000001), Cond.methodLink RL 41 yX0_isQuiet, Cond.instanceMethod yX0_isQuiet, Cond.selects RX0 yX0_isQuiet yX0_isQuiet, Cond.initialized RX0, Cond.code yX0_isQuiet cX0_isQuiet 2 (some .boolean), Cond.methodLink RX0 84 yX0_requireDevice, Cond.instanceMethod yX0_requireDevice, Cond.selects RX0 yX0_requireDevice yX0_requireDevice, Cond.code yX0_requireDevice cX0_requireDevice 2 none, Cond.classLink RX0 166 "java/lang/IndexOutOfBoundsException", Cond.initialized "java/lang/IndexOutOfBoundsException", Cond.fieldLink RX0 41 "PushNotices" "deviceCount" "I", Cond.methodLink RX0 105 yX0_isInQuietHours, Cond.instanceMethod yX0_isInQuietHours, Cond.selects RX0 yX0_isInQuietHours yX0_isInQuietHours, Cond.code yX0_isInQuietHours cX0_isInQuietHours 4 (some .boolean), Cond.fieldLink RX0 29 "PushNotices" "quietFrom" "[I", Cond.fieldLink RX0 32 "PushNotices" "quietTo" "[I", Cond.methodLink RX0 178 yX0_localTime, Cond.instanceMethod yX0_localTime, Cond.selects RX0 yX0_localTime yX0_localTime, Cond.code yX0_localTime cX0_localTime 2 (some .int)]
def wsL_quiet_r2 : List Cond := [Cond.fieldLink RX0 63 "PushNotices" "minute" "I", Cond.fieldLink RX0 26 "PushNotices" "zoneOffset" "[I", Cond.methodLink RX0 175 yJ9_floorMod_7cf53, Cond.static yJ9_floorMod_7cf53, Cond.initialized RJ9, Cond.code yJ9_floorMod_7cf53 cJ9_floorMod_7cf53 3 (some .int)]
def wsL_quiet : List Cond := .codeWith yL_quiet cL_quiet 3 (some .int) [(0, 13, 14, 23)] :: ((wsL_quiet_r1 ++ wsL_quiet_r2) ++ wsX00 ++ (vx_atS RX0 170 "java/lang/IndexOutOfBoundsException" ["java/lang/RuntimeException", "java/lang/Exception"]).filter goodWord)
def wsL_sends_r1 : List Cond := [Cond.classLink RL 13 "java/lang/IllegalArgumentException", Cond.classLink RL 16 "java/lang/IllegalStateException", Cond.constant RL 15 (-2000000002), Cond.constant RL 18 (-2000000003), Cond.methodLink RL 45 yX0_send, Cond.instanceMethod yX0_send, Cond.selects RX0 yX0_send yX0_send, Cond.initialized RX0, Cond.code yX0_send cX0_send 5 (some .int), Cond.fieldLink RX0 9 "PushNotices" "devicesOfUser" "[I", Cond.methodLink RX0 69 yX0_requireWithin, Cond.static yX0_requireWithin, Cond.code yX0_requireWithin cX0_requireWithin 3 none, Cond.classLink RX0 161 "java/lang/IllegalArgumentException", Cond.initialized "java/lang/IllegalArgumentException", Cond.methodLink RX0 109 yX0_requireRoomForNotice, Cond.instanceMethod yX0_requireRoomForNotice, Cond.selects RX0 yX0_requireRoomForNotice yX0_requireRoomForNotice, Cond.code yX0_requireRoomForNotice cX0_requireRoomForNotice 1 none, Cond.classLink RX0 73 "java/lang/IllegalStateException", Cond.initialized "java/lang/IllegalStateException", Cond.fieldLink RX0 60 "PushNotices" "noticeCount" "I", Cond.methodLink RX0 112 yX0_replaceKey, Cond.instanceMethod yX0_replaceKey]
def wsL_sends_r2 : List Cond := [Cond.selects RX0 yX0_replaceKey yX0_replaceKey, Cond.code yX0_replaceKey cX0_replaceKey 5 none, Cond.fieldLink RX0 57 "PushNotices" "lastWithKey" "[I", Cond.methodLink RX0 143 yX0_placeOf, Cond.static yX0_placeOf, Cond.code yX0_placeOf cX0_placeOf 2 (some .int), Cond.methodLink RX0 127 yX0_isStanding, Cond.instanceMethod yX0_isStanding, Cond.selects RX0 yX0_isStanding yX0_isStanding, Cond.code yX0_isStanding cX0_isStanding 2 (some .boolean), Cond.fieldLink RX0 63 "PushNotices" "minute" "I", Cond.fieldLink RX0 48 "PushNotices" "fallsAt" "[I", Cond.methodLink RX0 140 yX0_withdraw, Cond.instanceMethod yX0_withdraw, Cond.selects RX0 yX0_withdraw yX0_withdraw, Cond.code yX0_withdraw cX0_withdraw 2 none, Cond.methodLink RX0 116 yX0_sendTo, Cond.instanceMethod yX0_sendTo, Cond.selects RX0 yX0_sendTo yX0_sendTo, Cond.code yX0_sendTo cX0_sendTo 5 (some .int), Cond.fieldLink RX0 44 "PushNotices" "isHighNotice" "[Z", Cond.fieldLink RX0 51 "PushNotices" "waitSet" "[I", Cond.fieldLink RX0 16 "PushNotices" "alive" "I", Cond.methodLink RX0 92 yX0_deliverNow]
def wsL_sends_r3 : List Cond := [Cond.instanceMethod yX0_deliverNow, Cond.selects RX0 yX0_deliverNow yX0_deliverNow, Cond.code yX0_deliverNow cX0_deliverNow 5 (some .int), Cond.fieldLink RX0 66 "PushNotices" "deliveryCount" "I", Cond.methodLink RX0 181 yX0_openToNormal, Cond.instanceMethod yX0_openToNormal, Cond.selects RX0 yX0_openToNormal yX0_openToNormal, Cond.code yX0_openToNormal cX0_openToNormal 3 (some .int), Cond.fieldLink RX0 20 "PushNotices" "online" "I", Cond.fieldLink RX0 23 "PushNotices" "dozing" "I", Cond.fieldLink RX0 41 "PushNotices" "deviceCount" "I", Cond.methodLink RX0 105 yX0_isInQuietHours, Cond.instanceMethod yX0_isInQuietHours, Cond.selects RX0 yX0_isInQuietHours yX0_isInQuietHours, Cond.code yX0_isInQuietHours cX0_isInQuietHours 4 (some .boolean), Cond.fieldLink RX0 29 "PushNotices" "quietFrom" "[I", Cond.fieldLink RX0 32 "PushNotices" "quietTo" "[I", Cond.methodLink RX0 178 yX0_localTime, Cond.instanceMethod yX0_localTime, Cond.selects RX0 yX0_localTime yX0_localTime, Cond.code yX0_localTime cX0_localTime 2 (some .int), Cond.fieldLink RX0 26 "PushNotices" "zoneOffset" "[I", Cond.methodLink RX0 175 yJ9_floorMod_7cf53, Cond.static yJ9_floorMod_7cf53]
def wsL_sends_r4 : List Cond := [Cond.initialized RJ9, Cond.code yJ9_floorMod_7cf53 cJ9_floorMod_7cf53 3 (some .int), Cond.methodLink RX0 88 yX0_changed, Cond.static yX0_changed, Cond.code yX0_changed cX0_changed 3 (some .int), Cond.methodLink RX0 80 yX0_bitOf, Cond.static yX0_bitOf, Cond.code yX0_bitOf cX0_bitOf 1 (some .int), Cond.methodLink RX0 132 yX0_waitsNow, Cond.instanceMethod yX0_waitsNow, Cond.selects RX0 yX0_waitsNow yX0_waitsNow, Cond.code yX0_waitsNow cX0_waitsNow 2 (some .int), Cond.methodLink RX0 184 yX0_openToHigh, Cond.instanceMethod yX0_openToHigh, Cond.selects RX0 yX0_openToHigh yX0_openToHigh, Cond.code yX0_openToHigh cX0_openToHigh 3 (some .int), Cond.methodLink RX0 96 yX0_has, Cond.static yX0_has, Cond.code yX0_has cX0_has 2 (some .boolean), Cond.methodLink RX0 147 yX0_spentToday, Cond.instanceMethod yX0_spentToday, Cond.selects RX0 yX0_spentToday yX0_spentToday, Cond.code yX0_spentToday cX0_spentToday 2 (some .int), Cond.fieldLink RX0 35 "PushNotices" "quotaDay" "[I"]
def wsL_sends_r5 : List Cond := [Cond.fieldLink RX0 38 "PushNotices" "quotaSpent" "[I", Cond.methodLink RX0 187 yX0_deliver, Cond.instanceMethod yX0_deliver, Cond.selects RX0 yX0_deliver yX0_deliver, Cond.code yX0_deliver cX0_deliver 3 none, Cond.fieldLink RX0 54 "PushNotices" "deliveredSet" "[I", Cond.methodLink RX0 135 yJ6_bitCount_0f7a4, Cond.static yJ6_bitCount_0f7a4, Cond.initialized RJ6, Cond.code yJ6_bitCount_0f7a4 cJ6_bitCount_0f7a4 1 (some .int), Cond.constant RJ6 265 (1431655765), Cond.constant RJ6 266 (858993459), Cond.constant RJ6 267 (252645135), Cond.methodLink RX0 190 yX0_spendQuota, Cond.instanceMethod yX0_spendQuota, Cond.selects RX0 yX0_spendQuota yX0_spendQuota, Cond.code yX0_spendQuota cX0_spendQuota 3 none]
def wsL_sends : List Cond := .codeWith yL_sends cL_sends 6 (some .int) [(0, 9, 10, 13), (0, 9, 15, 16)] :: ((wsL_sends_r1 ++ (wsL_sends_r2 ++ (wsL_sends_r3 ++ (wsL_sends_r4 ++ wsL_sends_r5)))) ++ wsX00 ++ (vx_atS RX0 165 "java/lang/IllegalArgumentException" ["java/lang/RuntimeException", "java/lang/Exception"]).filter goodWord ++ (vx_atS RX0 77 "java/lang/IllegalStateException" ["java/lang/RuntimeException", "java/lang/Exception"]).filter goodWord)
def wsL_sendsBy_r1 : List Cond := [Cond.classLink RL 13 "java/lang/IllegalArgumentException", Cond.classLink RL 16 "java/lang/IllegalStateException", Cond.constant RL 15 (-2000000002), Cond.constant RL 18 (-2000000003), Cond.methodLink RL 49 yX0_sendBy, Cond.instanceMethod yX0_sendBy, Cond.selects RX0 yX0_sendBy yX0_sendBy, Cond.initialized RX0, Cond.code yX0_sendBy cX0_sendBy 6 (some .int), Cond.methodLink RX0 69 yX0_requireWithin, Cond.static yX0_requireWithin, Cond.code yX0_requireWithin cX0_requireWithin 3 none, Cond.classLink RX0 161 "java/lang/IllegalArgumentException", Cond.initialized "java/lang/IllegalArgumentException", Cond.methodLink RX0 109 yX0_requireRoomForNotice, Cond.instanceMethod yX0_requireRoomForNotice, Cond.selects RX0 yX0_requireRoomForNotice yX0_requireRoomForNotice, Cond.code yX0_requireRoomForNotice cX0_requireRoomForNotice 1 none, Cond.classLink RX0 73 "java/lang/IllegalStateException", Cond.initialized "java/lang/IllegalStateException", Cond.fieldLink RX0 60 "PushNotices" "noticeCount" "I", Cond.methodLink RX0 120 yX0_devicesThatFulfil, Cond.instanceMethod yX0_devicesThatFulfil, Cond.selects RX0 yX0_devicesThatFulfil yX0_devicesThatFulfil]
def wsL_sendsBy_r2 : List Cond := [Cond.code yX0_devicesThatFulfil cX0_devicesThatFulfil 4 (some .int), Cond.fieldLink RX0 13 "PushNotices" "devicesOfTopic" "[I", Cond.methodLink RX0 116 yX0_sendTo, Cond.instanceMethod yX0_sendTo, Cond.selects RX0 yX0_sendTo yX0_sendTo, Cond.code yX0_sendTo cX0_sendTo 5 (some .int), Cond.fieldLink RX0 44 "PushNotices" "isHighNotice" "[Z", Cond.fieldLink RX0 48 "PushNotices" "fallsAt" "[I", Cond.fieldLink RX0 63 "PushNotices" "minute" "I", Cond.fieldLink RX0 51 "PushNotices" "waitSet" "[I", Cond.fieldLink RX0 16 "PushNotices" "alive" "I", Cond.methodLink RX0 92 yX0_deliverNow, Cond.instanceMethod yX0_deliverNow, Cond.selects RX0 yX0_deliverNow yX0_deliverNow, Cond.code yX0_deliverNow cX0_deliverNow 5 (some .int), Cond.fieldLink RX0 66 "PushNotices" "deliveryCount" "I", Cond.methodLink RX0 181 yX0_openToNormal, Cond.instanceMethod yX0_openToNormal, Cond.selects RX0 yX0_openToNormal yX0_openToNormal, Cond.code yX0_openToNormal cX0_openToNormal 3 (some .int), Cond.fieldLink RX0 20 "PushNotices" "online" "I", Cond.fieldLink RX0 23 "PushNotices" "dozing" "I", Cond.fieldLink RX0 41 "PushNotices" "deviceCount" "I", Cond.methodLink RX0 105 yX0_isInQuietHours]
def wsL_sendsBy_r3 : List Cond := [Cond.instanceMethod yX0_isInQuietHours, Cond.selects RX0 yX0_isInQuietHours yX0_isInQuietHours, Cond.code yX0_isInQuietHours cX0_isInQuietHours 4 (some .boolean), Cond.fieldLink RX0 29 "PushNotices" "quietFrom" "[I", Cond.fieldLink RX0 32 "PushNotices" "quietTo" "[I", Cond.methodLink RX0 178 yX0_localTime, Cond.instanceMethod yX0_localTime, Cond.selects RX0 yX0_localTime yX0_localTime, Cond.code yX0_localTime cX0_localTime 2 (some .int), Cond.fieldLink RX0 26 "PushNotices" "zoneOffset" "[I", Cond.methodLink RX0 175 yJ9_floorMod_7cf53, Cond.static yJ9_floorMod_7cf53, Cond.initialized RJ9, Cond.code yJ9_floorMod_7cf53 cJ9_floorMod_7cf53 3 (some .int), Cond.methodLink RX0 88 yX0_changed, Cond.static yX0_changed, Cond.code yX0_changed cX0_changed 3 (some .int), Cond.methodLink RX0 80 yX0_bitOf, Cond.static yX0_bitOf, Cond.code yX0_bitOf cX0_bitOf 1 (some .int), Cond.methodLink RX0 132 yX0_waitsNow, Cond.instanceMethod yX0_waitsNow, Cond.selects RX0 yX0_waitsNow yX0_waitsNow, Cond.code yX0_waitsNow cX0_waitsNow 2 (some .int)]
def wsL_sendsBy_r4 : List Cond := [Cond.methodLink RX0 127 yX0_isStanding, Cond.instanceMethod yX0_isStanding, Cond.selects RX0 yX0_isStanding yX0_isStanding, Cond.code yX0_isStanding cX0_isStanding 2 (some .boolean), Cond.methodLink RX0 184 yX0_openToHigh, Cond.instanceMethod yX0_openToHigh, Cond.selects RX0 yX0_openToHigh yX0_openToHigh, Cond.code yX0_openToHigh cX0_openToHigh 3 (some .int), Cond.methodLink RX0 96 yX0_has, Cond.static yX0_has, Cond.code yX0_has cX0_has 2 (some .boolean), Cond.methodLink RX0 147 yX0_spentToday, Cond.instanceMethod yX0_spentToday, Cond.selects RX0 yX0_spentToday yX0_spentToday, Cond.code yX0_spentToday cX0_spentToday 2 (some .int), Cond.fieldLink RX0 35 "PushNotices" "quotaDay" "[I", Cond.fieldLink RX0 38 "PushNotices" "quotaSpent" "[I", Cond.methodLink RX0 187 yX0_deliver, Cond.instanceMethod yX0_deliver, Cond.selects RX0 yX0_deliver yX0_deliver, Cond.code yX0_deliver cX0_deliver 3 none, Cond.fieldLink RX0 54 "PushNotices" "deliveredSet" "[I", Cond.methodLink RX0 135 yJ6_bitCount_0f7a4, Cond.static yJ6_bitCount_0f7a4]
def wsL_sendsBy_r5 : List Cond := [Cond.initialized RJ6, Cond.code yJ6_bitCount_0f7a4 cJ6_bitCount_0f7a4 1 (some .int), Cond.constant RJ6 265 (1431655765), Cond.constant RJ6 266 (858993459), Cond.constant RJ6 267 (252645135), Cond.methodLink RX0 190 yX0_spendQuota, Cond.instanceMethod yX0_spendQuota, Cond.selects RX0 yX0_spendQuota yX0_spendQuota, Cond.code yX0_spendQuota cX0_spendQuota 3 none]
def wsL_sendsBy : List Cond := .codeWith yL_sendsBy cL_sendsBy 7 (some .int) [(0, 11, 12, 13), (0, 11, 17, 16)] :: ((wsL_sendsBy_r1 ++ (wsL_sendsBy_r2 ++ (wsL_sendsBy_r3 ++ (wsL_sendsBy_r4 ++ wsL_sendsBy_r5)))) ++ wsX00 ++ (vx_atS RX0 165 "java/lang/IllegalArgumentException" ["java/lang/RuntimeException", "java/lang/Exception"]).filter goodWord ++ (vx_atS RX0 77 "java/lang/IllegalStateException" ["java/lang/RuntimeException", "java/lang/Exception"]).filter goodWord)
def wsL_reads_r1 : List Cond := [Cond.classLink RL 23 "java/lang/IndexOutOfBoundsException", Cond.classLink RL 16 "java/lang/IllegalStateException", Cond.constant RL 25 (-2000000001), Cond.constant RL 18 (-2000000003), Cond.methodLink RL 53 yX0_read, Cond.instanceMethod yX0_read, Cond.selects RX0 yX0_read yX0_read, Cond.initialized RX0, Cond.code yX0_read cX0_read 4 (some .int), Cond.classLink RX0 73 "java/lang/IllegalStateException", Cond.initialized "java/lang/IllegalStateException", Cond.fieldLink RX0 54 "PushNotices" "deliveredSet" "[I", Cond.methodLink RX0 84 yX0_requireDevice, Cond.instanceMethod yX0_requireDevice, Cond.selects RX0 yX0_requireDevice yX0_requireDevice, Cond.code yX0_requireDevice cX0_requireDevice 2 none, Cond.classLink RX0 166 "java/lang/IndexOutOfBoundsException", Cond.initialized "java/lang/IndexOutOfBoundsException", Cond.fieldLink RX0 41 "PushNotices" "deviceCount" "I", Cond.methodLink RX0 124 yX0_requireNotice, Cond.instanceMethod yX0_requireNotice, Cond.selects RX0 yX0_requireNotice yX0_requireNotice, Cond.code yX0_requireNotice cX0_requireNotice 2 none, Cond.fieldLink RX0 60 "PushNotices" "noticeCount" "I"]
def wsL_reads_r2 : List Cond := [Cond.methodLink RX0 96 yX0_has, Cond.static yX0_has, Cond.code yX0_has cX0_has 2 (some .boolean), Cond.methodLink RX0 80 yX0_bitOf, Cond.static yX0_bitOf, Cond.code yX0_bitOf cX0_bitOf 1 (some .int), Cond.methodLink RX0 127 yX0_isStanding, Cond.instanceMethod yX0_isStanding, Cond.selects RX0 yX0_isStanding yX0_isStanding, Cond.code yX0_isStanding cX0_isStanding 2 (some .boolean), Cond.fieldLink RX0 63 "PushNotices" "minute" "I", Cond.fieldLink RX0 48 "PushNotices" "fallsAt" "[I", Cond.methodLink RX0 132 yX0_waitsNow, Cond.instanceMethod yX0_waitsNow, Cond.selects RX0 yX0_waitsNow yX0_waitsNow, Cond.code yX0_waitsNow cX0_waitsNow 2 (some .int), Cond.fieldLink RX0 51 "PushNotices" "waitSet" "[I", Cond.methodLink RX0 135 yJ6_bitCount_0f7a4, Cond.static yJ6_bitCount_0f7a4, Cond.initialized RJ6, Cond.code yJ6_bitCount_0f7a4 cJ6_bitCount_0f7a4 1 (some .int), Cond.constant RJ6 265 (1431655765), Cond.constant RJ6 266 (858993459), Cond.constant RJ6 267 (252645135)]
def wsL_reads_r3 : List Cond := [Cond.methodLink RX0 140 yX0_withdraw, Cond.instanceMethod yX0_withdraw, Cond.selects RX0 yX0_withdraw yX0_withdraw, Cond.code yX0_withdraw cX0_withdraw 2 none]
def wsL_reads : List Cond := .codeWith yL_reads cL_reads 4 (some .int) [(0, 6, 7, 23), (0, 6, 11, 16)] :: ((wsL_reads_r1 ++ (wsL_reads_r2 ++ wsL_reads_r3)) ++ wsX00 ++ (vx_atS RX0 77 "java/lang/IllegalStateException" ["java/lang/RuntimeException", "java/lang/Exception"]).filter goodWord ++ (vx_atS RX0 170 "java/lang/IndexOutOfBoundsException" ["java/lang/RuntimeException", "java/lang/Exception"]).filter goodWord)
def wsL_stands : List Cond := .codeWith yL_stands cL_stands 3 (some .int) [(0, 13, 14, 23)] :: ([.classLink RL 23 "java/lang/IndexOutOfBoundsException", .constant RL 25 (-2000000001), .methodLink RL 56 yX0_stands, .instanceMethod yX0_stands, .selects RX0 yX0_stands yX0_stands, .initialized RX0, .code yX0_stands cX0_stands 2 (some .boolean), .methodLink RX0 124 yX0_requireNotice, .instanceMethod yX0_requireNotice, .selects RX0 yX0_requireNotice yX0_requireNotice, .code yX0_requireNotice cX0_requireNotice 2 none, .classLink RX0 166 "java/lang/IndexOutOfBoundsException", .initialized "java/lang/IndexOutOfBoundsException", .fieldLink RX0 60 "PushNotices" "noticeCount" "I", .methodLink RX0 127 yX0_isStanding, .instanceMethod yX0_isStanding, .selects RX0 yX0_isStanding yX0_isStanding, .code yX0_isStanding cX0_isStanding 2 (some .boolean), .fieldLink RX0 63 "PushNotices" "minute" "I", .fieldLink RX0 48 "PushNotices" "fallsAt" "[I"] ++ wsX00 ++ (vx_atS RX0 170 "java/lang/IndexOutOfBoundsException" ["java/lang/RuntimeException", "java/lang/Exception"]).filter goodWord)
def wsL_waits_r1 : List Cond := [Cond.classLink RL 23 "java/lang/IndexOutOfBoundsException", Cond.constant RL 25 (-2000000001), Cond.methodLink RL 59 yX0_waitsFor, Cond.instanceMethod yX0_waitsFor, Cond.selects RX0 yX0_waitsFor yX0_waitsFor, Cond.initialized RX0, Cond.code yX0_waitsFor cX0_waitsFor 2 (some .int), Cond.methodLink RX0 124 yX0_requireNotice, Cond.instanceMethod yX0_requireNotice, Cond.selects RX0 yX0_requireNotice yX0_requireNotice, Cond.code yX0_requireNotice cX0_requireNotice 2 none, Cond.classLink RX0 166 "java/lang/IndexOutOfBoundsException", Cond.initialized "java/lang/IndexOutOfBoundsException", Cond.fieldLink RX0 60 "PushNotices" "noticeCount" "I", Cond.methodLink RX0 132 yX0_waitsNow, Cond.instanceMethod yX0_waitsNow, Cond.selects RX0 yX0_waitsNow yX0_waitsNow, Cond.code yX0_waitsNow cX0_waitsNow 2 (some .int), Cond.fieldLink RX0 51 "PushNotices" "waitSet" "[I", Cond.methodLink RX0 127 yX0_isStanding, Cond.instanceMethod yX0_isStanding, Cond.selects RX0 yX0_isStanding yX0_isStanding, Cond.code yX0_isStanding cX0_isStanding 2 (some .boolean), Cond.fieldLink RX0 63 "PushNotices" "minute" "I"]
def wsL_waits_r2 : List Cond := [Cond.fieldLink RX0 48 "PushNotices" "fallsAt" "[I"]
def wsL_waits : List Cond := .codeWith yL_waits cL_waits 3 (some .int) [(0, 5, 6, 23)] :: ((wsL_waits_r1 ++ wsL_waits_r2) ++ wsX00 ++ (vx_atS RX0 170 "java/lang/IndexOutOfBoundsException" ["java/lang/RuntimeException", "java/lang/Exception"]).filter goodWord)
def wsL_delivered : List Cond := .codeWith yL_delivered cL_delivered 3 (some .int) [(0, 5, 6, 23)] :: ([.classLink RL 23 "java/lang/IndexOutOfBoundsException", .constant RL 25 (-2000000001), .methodLink RL 62 yX0_deliveredTo, .instanceMethod yX0_deliveredTo, .selects RX0 yX0_deliveredTo yX0_deliveredTo, .initialized RX0, .code yX0_deliveredTo cX0_deliveredTo 2 (some .int), .fieldLink RX0 54 "PushNotices" "deliveredSet" "[I", .methodLink RX0 124 yX0_requireNotice, .instanceMethod yX0_requireNotice, .selects RX0 yX0_requireNotice yX0_requireNotice, .code yX0_requireNotice cX0_requireNotice 2 none, .classLink RX0 166 "java/lang/IndexOutOfBoundsException", .initialized "java/lang/IndexOutOfBoundsException", .fieldLink RX0 60 "PushNotices" "noticeCount" "I"] ++ wsX00 ++ (vx_atS RX0 170 "java/lang/IndexOutOfBoundsException" ["java/lang/RuntimeException", "java/lang/Exception"]).filter goodWord)
def wsL_standing : List Cond := .codeWith yL_standing cL_standing 4 (some .int) [(0, 6, 7, 13)] :: ([.classLink RL 13 "java/lang/IllegalArgumentException", .constant RL 15 (-2000000002), .methodLink RL 65 yX0_standing, .instanceMethod yX0_standing, .selects RX0 yX0_standing yX0_standing, .initialized RX0, .code yX0_standing cX0_standing 4 (some .int), .fieldLink RX0 57 "PushNotices" "lastWithKey" "[I", .methodLink RX0 69 yX0_requireWithin, .static yX0_requireWithin, .code yX0_requireWithin cX0_requireWithin 3 none, .classLink RX0 161 "java/lang/IllegalArgumentException", .initialized "java/lang/IllegalArgumentException", .methodLink RX0 143 yX0_placeOf, .static yX0_placeOf, .code yX0_placeOf cX0_placeOf 2 (some .int), .methodLink RX0 127 yX0_isStanding, .instanceMethod yX0_isStanding, .selects RX0 yX0_isStanding yX0_isStanding, .code yX0_isStanding cX0_isStanding 2 (some .boolean), .fieldLink RX0 63 "PushNotices" "minute" "I", .fieldLink RX0 48 "PushNotices" "fallsAt" "[I"] ++ wsX00 ++ (vx_atS RX0 165 "java/lang/IllegalArgumentException" ["java/lang/RuntimeException", "java/lang/Exception"]).filter goodWord)
def wsL_badge_r1 : List Cond := [Cond.classLink RL 23 "java/lang/IndexOutOfBoundsException", Cond.constant RL 25 (-2000000001), Cond.methodLink RL 68 yX0_badge, Cond.instanceMethod yX0_badge, Cond.selects RX0 yX0_badge yX0_badge, Cond.initialized RX0, Cond.code yX0_badge cX0_badge 4 (some .int), Cond.fieldLink RX0 60 "PushNotices" "noticeCount" "I", Cond.fieldLink RX0 54 "PushNotices" "deliveredSet" "[I", Cond.methodLink RX0 84 yX0_requireDevice, Cond.instanceMethod yX0_requireDevice, Cond.selects RX0 yX0_requireDevice yX0_requireDevice, Cond.code yX0_requireDevice cX0_requireDevice 2 none, Cond.classLink RX0 166 "java/lang/IndexOutOfBoundsException", Cond.initialized "java/lang/IndexOutOfBoundsException", Cond.fieldLink RX0 41 "PushNotices" "deviceCount" "I", Cond.methodLink RX0 96 yX0_has, Cond.static yX0_has, Cond.code yX0_has cX0_has 2 (some .boolean), Cond.methodLink RX0 80 yX0_bitOf, Cond.static yX0_bitOf, Cond.code yX0_bitOf cX0_bitOf 1 (some .int), Cond.methodLink RX0 127 yX0_isStanding, Cond.instanceMethod yX0_isStanding]
def wsL_badge_r2 : List Cond := [Cond.selects RX0 yX0_isStanding yX0_isStanding, Cond.code yX0_isStanding cX0_isStanding 2 (some .boolean), Cond.fieldLink RX0 63 "PushNotices" "minute" "I", Cond.fieldLink RX0 48 "PushNotices" "fallsAt" "[I"]
def wsL_badge : List Cond := .codeWith yL_badge cL_badge 3 (some .int) [(0, 5, 6, 23)] :: ((wsL_badge_r1 ++ wsL_badge_r2) ++ wsX00 ++ (vx_atS RX0 170 "java/lang/IndexOutOfBoundsException" ["java/lang/RuntimeException", "java/lang/Exception"]).filter goodWord)
def wsL_waiting_r1 : List Cond := [Cond.classLink RL 23 "java/lang/IndexOutOfBoundsException", Cond.constant RL 25 (-2000000001), Cond.methodLink RL 71 yX0_waiting, Cond.instanceMethod yX0_waiting, Cond.selects RX0 yX0_waiting yX0_waiting, Cond.initialized RX0, Cond.code yX0_waiting cX0_waiting 2 (some .int), Cond.methodLink RX0 84 yX0_requireDevice, Cond.instanceMethod yX0_requireDevice, Cond.selects RX0 yX0_requireDevice yX0_requireDevice, Cond.code yX0_requireDevice cX0_requireDevice 2 none, Cond.classLink RX0 166 "java/lang/IndexOutOfBoundsException", Cond.initialized "java/lang/IndexOutOfBoundsException", Cond.fieldLink RX0 41 "PushNotices" "deviceCount" "I", Cond.methodLink RX0 102 yX0_countWaiting, Cond.instanceMethod yX0_countWaiting, Cond.selects RX0 yX0_countWaiting yX0_countWaiting, Cond.code yX0_countWaiting cX0_countWaiting 4 (some .int), Cond.fieldLink RX0 60 "PushNotices" "noticeCount" "I", Cond.methodLink RX0 132 yX0_waitsNow, Cond.instanceMethod yX0_waitsNow, Cond.selects RX0 yX0_waitsNow yX0_waitsNow, Cond.code yX0_waitsNow cX0_waitsNow 2 (some .int), Cond.fieldLink RX0 51 "PushNotices" "waitSet" "[I"]
def wsL_waiting_r2 : List Cond := [Cond.methodLink RX0 127 yX0_isStanding, Cond.instanceMethod yX0_isStanding, Cond.selects RX0 yX0_isStanding yX0_isStanding, Cond.code yX0_isStanding cX0_isStanding 2 (some .boolean), Cond.fieldLink RX0 63 "PushNotices" "minute" "I", Cond.fieldLink RX0 48 "PushNotices" "fallsAt" "[I", Cond.methodLink RX0 96 yX0_has, Cond.static yX0_has, Cond.code yX0_has cX0_has 2 (some .boolean), Cond.methodLink RX0 80 yX0_bitOf, Cond.static yX0_bitOf, Cond.code yX0_bitOf cX0_bitOf 1 (some .int)]
def wsL_waiting : List Cond := .codeWith yL_waiting cL_waiting 3 (some .int) [(0, 5, 6, 23)] :: ((wsL_waiting_r1 ++ wsL_waiting_r2) ++ wsX00 ++ (vx_atS RX0 170 "java/lang/IndexOutOfBoundsException" ["java/lang/RuntimeException", "java/lang/Exception"]).filter goodWord)
def wsL_quota : List Cond := .codeWith yL_quota cL_quota 3 (some .int) [(0, 5, 6, 23)] :: ([.classLink RL 23 "java/lang/IndexOutOfBoundsException", .constant RL 25 (-2000000001), .methodLink RL 74 yX0_quota, .instanceMethod yX0_quota, .selects RX0 yX0_quota yX0_quota, .initialized RX0, .code yX0_quota cX0_quota 2 (some .int), .methodLink RX0 84 yX0_requireDevice, .instanceMethod yX0_requireDevice, .selects RX0 yX0_requireDevice yX0_requireDevice, .code yX0_requireDevice cX0_requireDevice 2 none, .classLink RX0 166 "java/lang/IndexOutOfBoundsException", .initialized "java/lang/IndexOutOfBoundsException", .fieldLink RX0 41 "PushNotices" "deviceCount" "I", .methodLink RX0 147 yX0_spentToday, .instanceMethod yX0_spentToday, .selects RX0 yX0_spentToday yX0_spentToday, .code yX0_spentToday cX0_spentToday 2 (some .int), .fieldLink RX0 35 "PushNotices" "quotaDay" "[I", .fieldLink RX0 63 "PushNotices" "minute" "I", .fieldLink RX0 38 "PushNotices" "quotaSpent" "[I"] ++ wsX00 ++ (vx_atS RX0 170 "java/lang/IndexOutOfBoundsException" ["java/lang/RuntimeException", "java/lang/Exception"]).filter goodWord)
def wsL_passes_r1 : List Cond := [Cond.classLink RL 13 "java/lang/IllegalArgumentException", Cond.classLink RL 16 "java/lang/IllegalStateException", Cond.constant RL 15 (-2000000002), Cond.constant RL 18 (-2000000003), Cond.methodLink RL 77 yX0_pass, Cond.instanceMethod yX0_pass, Cond.selects RX0 yX0_pass yX0_pass, Cond.initialized RX0, Cond.code yX0_pass cX0_pass 5 (some .int), Cond.classLink RX0 73 "java/lang/IllegalStateException", Cond.initialized "java/lang/IllegalStateException", Cond.fieldLink RX0 63 "PushNotices" "minute" "I", Cond.constant RX0 150 (100000), Cond.methodLink RX0 156 Lib.Math.min.name, Cond.static Lib.Math.min.name, Cond.initialized "java/lang/Math", Cond.code Lib.Math.min.name Lib.Math.min.code 2 (some .int), Cond.methodLink RX0 69 yX0_requireWithin, Cond.static yX0_requireWithin, Cond.code yX0_requireWithin cX0_requireWithin 3 none, Cond.classLink RX0 161 "java/lang/IllegalArgumentException", Cond.initialized "java/lang/IllegalArgumentException", Cond.methodLink RX0 153 yX0_nextChance, Cond.instanceMethod yX0_nextChance]
def wsL_passes_r2 : List Cond := [Cond.selects RX0 yX0_nextChance yX0_nextChance, Cond.code yX0_nextChance cX0_nextChance 4 (some .int), Cond.fieldLink RX0 41 "PushNotices" "deviceCount" "I", Cond.fieldLink RX0 32 "PushNotices" "quietTo" "[I", Cond.methodLink RX0 105 yX0_isInQuietHours, Cond.instanceMethod yX0_isInQuietHours, Cond.selects RX0 yX0_isInQuietHours yX0_isInQuietHours, Cond.code yX0_isInQuietHours cX0_isInQuietHours 4 (some .boolean), Cond.fieldLink RX0 29 "PushNotices" "quietFrom" "[I", Cond.methodLink RX0 178 yX0_localTime, Cond.instanceMethod yX0_localTime, Cond.selects RX0 yX0_localTime yX0_localTime, Cond.code yX0_localTime cX0_localTime 2 (some .int), Cond.fieldLink RX0 26 "PushNotices" "zoneOffset" "[I", Cond.methodLink RX0 175 yJ9_floorMod_7cf53, Cond.static yJ9_floorMod_7cf53, Cond.initialized RJ9, Cond.code yJ9_floorMod_7cf53 cJ9_floorMod_7cf53 3 (some .int), Cond.methodLink RX0 92 yX0_deliverNow, Cond.instanceMethod yX0_deliverNow, Cond.selects RX0 yX0_deliverNow yX0_deliverNow, Cond.code yX0_deliverNow cX0_deliverNow 5 (some .int), Cond.fieldLink RX0 66 "PushNotices" "deliveryCount" "I", Cond.fieldLink RX0 60 "PushNotices" "noticeCount" "I"]
def wsL_passes_r3 : List Cond := [Cond.fieldLink RX0 44 "PushNotices" "isHighNotice" "[Z", Cond.methodLink RX0 181 yX0_openToNormal, Cond.instanceMethod yX0_openToNormal, Cond.selects RX0 yX0_openToNormal yX0_openToNormal, Cond.code yX0_openToNormal cX0_openToNormal 3 (some .int), Cond.fieldLink RX0 20 "PushNotices" "online" "I", Cond.fieldLink RX0 23 "PushNotices" "dozing" "I", Cond.methodLink RX0 88 yX0_changed, Cond.static yX0_changed, Cond.code yX0_changed cX0_changed 3 (some .int), Cond.methodLink RX0 80 yX0_bitOf, Cond.static yX0_bitOf, Cond.code yX0_bitOf cX0_bitOf 1 (some .int), Cond.methodLink RX0 132 yX0_waitsNow, Cond.instanceMethod yX0_waitsNow, Cond.selects RX0 yX0_waitsNow yX0_waitsNow, Cond.code yX0_waitsNow cX0_waitsNow 2 (some .int), Cond.fieldLink RX0 51 "PushNotices" "waitSet" "[I", Cond.methodLink RX0 127 yX0_isStanding, Cond.instanceMethod yX0_isStanding, Cond.selects RX0 yX0_isStanding yX0_isStanding, Cond.code yX0_isStanding cX0_isStanding 2 (some .boolean), Cond.fieldLink RX0 48 "PushNotices" "fallsAt" "[I", Cond.methodLink RX0 184 yX0_openToHigh]
def wsL_passes_r4 : List Cond := [Cond.instanceMethod yX0_openToHigh, Cond.selects RX0 yX0_openToHigh yX0_openToHigh, Cond.code yX0_openToHigh cX0_openToHigh 3 (some .int), Cond.methodLink RX0 96 yX0_has, Cond.static yX0_has, Cond.code yX0_has cX0_has 2 (some .boolean), Cond.methodLink RX0 147 yX0_spentToday, Cond.instanceMethod yX0_spentToday, Cond.selects RX0 yX0_spentToday yX0_spentToday, Cond.code yX0_spentToday cX0_spentToday 2 (some .int), Cond.fieldLink RX0 35 "PushNotices" "quotaDay" "[I", Cond.fieldLink RX0 38 "PushNotices" "quotaSpent" "[I", Cond.methodLink RX0 187 yX0_deliver, Cond.instanceMethod yX0_deliver, Cond.selects RX0 yX0_deliver yX0_deliver, Cond.code yX0_deliver cX0_deliver 3 none, Cond.fieldLink RX0 54 "PushNotices" "deliveredSet" "[I", Cond.methodLink RX0 135 yJ6_bitCount_0f7a4, Cond.static yJ6_bitCount_0f7a4, Cond.initialized RJ6, Cond.code yJ6_bitCount_0f7a4 cJ6_bitCount_0f7a4 1 (some .int), Cond.constant RJ6 265 (1431655765), Cond.constant RJ6 266 (858993459), Cond.constant RJ6 267 (252645135)]
def wsL_passes_r5 : List Cond := [Cond.methodLink RX0 190 yX0_spendQuota, Cond.instanceMethod yX0_spendQuota, Cond.selects RX0 yX0_spendQuota yX0_spendQuota, Cond.code yX0_spendQuota cX0_spendQuota 3 none]
def wsL_passes : List Cond := .codeWith yL_passes cL_passes 3 (some .int) [(0, 5, 6, 13), (0, 5, 10, 16)] :: ((wsL_passes_r1 ++ (wsL_passes_r2 ++ (wsL_passes_r3 ++ (wsL_passes_r4 ++ wsL_passes_r5)))) ++ wsX00 ++ (vx_atS RX0 77 "java/lang/IllegalStateException" ["java/lang/RuntimeException", "java/lang/Exception"]).filter goodWord ++ (vx_atS RX0 165 "java/lang/IllegalArgumentException" ["java/lang/RuntimeException", "java/lang/Exception"]).filter goodWord)
def wsL_drawn : List Cond := .code yL_drawn cL_drawn 2 (some .int) :: ([.constant RL 80 (15524329), .constant RL 81 (2147483647)])
def wsL_refuses_r1 : List Cond := [Cond.constant RL 15 (-2000000002), Cond.constant RL 25 (-2000000001), Cond.constant RL 18 (-2000000003), Cond.methodLink RL 82 yX0_devices, Cond.instanceMethod yX0_devices, Cond.selects RX0 yX0_devices yX0_devices, Cond.initialized RX0, Cond.code yX0_devices cX0_devices 1 (some .int), Cond.fieldLink RX0 41 "PushNotices" "deviceCount" "I", Cond.methodLink RL 86 yX0_sent, Cond.instanceMethod yX0_sent, Cond.selects RX0 yX0_sent yX0_sent, Cond.code yX0_sent cX0_sent 1 (some .int), Cond.fieldLink RX0 60 "PushNotices" "noticeCount" "I", Cond.methodLink RL 89 yL_adds, Cond.static yL_adds, Cond.initialized RL, Cond.codeWith yL_adds cL_adds 4 (some .int) [(0, 6, 7, 13), (0, 6, 11, 16)], Cond.classLink RL 13 "java/lang/IllegalArgumentException", Cond.classLink RL 16 "java/lang/IllegalStateException", Cond.methodLink RL 7 yX0_addDevice, Cond.instanceMethod yX0_addDevice, Cond.selects RX0 yX0_addDevice yX0_addDevice, Cond.code yX0_addDevice cX0_addDevice 4 (some .int)]
def wsL_refuses_r2 : List Cond := [Cond.classLink RX0 73 "java/lang/IllegalStateException", Cond.initialized "java/lang/IllegalStateException", Cond.fieldLink RX0 26 "PushNotices" "zoneOffset" "[I", Cond.fieldLink RX0 9 "PushNotices" "devicesOfUser" "[I", Cond.fieldLink RX0 16 "PushNotices" "alive" "I", Cond.fieldLink RX0 20 "PushNotices" "online" "I", Cond.methodLink RX0 69 yX0_requireWithin, Cond.static yX0_requireWithin, Cond.code yX0_requireWithin cX0_requireWithin 3 none, Cond.classLink RX0 161 "java/lang/IllegalArgumentException", Cond.initialized "java/lang/IllegalArgumentException", Cond.methodLink RX0 80 yX0_bitOf, Cond.static yX0_bitOf, Cond.code yX0_bitOf cX0_bitOf 1 (some .int), Cond.methodLink RL 95 yL_online, Cond.static yL_online, Cond.codeWith yL_online cL_online 4 (some .int) [(0, 6, 7, 23)], Cond.classLink RL 23 "java/lang/IndexOutOfBoundsException", Cond.methodLink RL 19 yX0_setOnline, Cond.instanceMethod yX0_setOnline, Cond.selects RX0 yX0_setOnline yX0_setOnline, Cond.code yX0_setOnline cX0_setOnline 3 (some .int), Cond.methodLink RX0 84 yX0_requireDevice, Cond.instanceMethod yX0_requireDevice]
def wsL_refuses_r3 : List Cond := [Cond.selects RX0 yX0_requireDevice yX0_requireDevice, Cond.code yX0_requireDevice cX0_requireDevice 2 none, Cond.classLink RX0 166 "java/lang/IndexOutOfBoundsException", Cond.initialized "java/lang/IndexOutOfBoundsException", Cond.methodLink RX0 88 yX0_changed, Cond.static yX0_changed, Cond.code yX0_changed cX0_changed 3 (some .int), Cond.methodLink RX0 92 yX0_deliverNow, Cond.instanceMethod yX0_deliverNow, Cond.selects RX0 yX0_deliverNow yX0_deliverNow, Cond.code yX0_deliverNow cX0_deliverNow 5 (some .int), Cond.fieldLink RX0 66 "PushNotices" "deliveryCount" "I", Cond.fieldLink RX0 44 "PushNotices" "isHighNotice" "[Z", Cond.methodLink RX0 181 yX0_openToNormal, Cond.instanceMethod yX0_openToNormal, Cond.selects RX0 yX0_openToNormal yX0_openToNormal, Cond.code yX0_openToNormal cX0_openToNormal 3 (some .int), Cond.fieldLink RX0 63 "PushNotices" "minute" "I", Cond.fieldLink RX0 23 "PushNotices" "dozing" "I", Cond.methodLink RX0 105 yX0_isInQuietHours, Cond.instanceMethod yX0_isInQuietHours, Cond.selects RX0 yX0_isInQuietHours yX0_isInQuietHours, Cond.code yX0_isInQuietHours cX0_isInQuietHours 4 (some .boolean), Cond.fieldLink RX0 29 "PushNotices" "quietFrom" "[I"]
def wsL_refuses_r4 : List Cond := [Cond.fieldLink RX0 32 "PushNotices" "quietTo" "[I", Cond.methodLink RX0 178 yX0_localTime, Cond.instanceMethod yX0_localTime, Cond.selects RX0 yX0_localTime yX0_localTime, Cond.code yX0_localTime cX0_localTime 2 (some .int), Cond.methodLink RX0 175 yJ9_floorMod_7cf53, Cond.static yJ9_floorMod_7cf53, Cond.initialized RJ9, Cond.code yJ9_floorMod_7cf53 cJ9_floorMod_7cf53 3 (some .int), Cond.methodLink RX0 132 yX0_waitsNow, Cond.instanceMethod yX0_waitsNow, Cond.selects RX0 yX0_waitsNow yX0_waitsNow, Cond.code yX0_waitsNow cX0_waitsNow 2 (some .int), Cond.fieldLink RX0 51 "PushNotices" "waitSet" "[I", Cond.methodLink RX0 127 yX0_isStanding, Cond.instanceMethod yX0_isStanding, Cond.selects RX0 yX0_isStanding yX0_isStanding, Cond.code yX0_isStanding cX0_isStanding 2 (some .boolean), Cond.fieldLink RX0 48 "PushNotices" "fallsAt" "[I", Cond.methodLink RX0 184 yX0_openToHigh, Cond.instanceMethod yX0_openToHigh, Cond.selects RX0 yX0_openToHigh yX0_openToHigh, Cond.code yX0_openToHigh cX0_openToHigh 3 (some .int), Cond.methodLink RX0 96 yX0_has]
def wsL_refuses_r5 : List Cond := [Cond.static yX0_has, Cond.code yX0_has cX0_has 2 (some .boolean), Cond.methodLink RX0 147 yX0_spentToday, Cond.instanceMethod yX0_spentToday, Cond.selects RX0 yX0_spentToday yX0_spentToday, Cond.code yX0_spentToday cX0_spentToday 2 (some .int), Cond.fieldLink RX0 35 "PushNotices" "quotaDay" "[I", Cond.fieldLink RX0 38 "PushNotices" "quotaSpent" "[I", Cond.methodLink RX0 187 yX0_deliver, Cond.instanceMethod yX0_deliver, Cond.selects RX0 yX0_deliver yX0_deliver, Cond.code yX0_deliver cX0_deliver 3 none, Cond.fieldLink RX0 54 "PushNotices" "deliveredSet" "[I", Cond.methodLink RX0 135 yJ6_bitCount_0f7a4, Cond.static yJ6_bitCount_0f7a4, Cond.initialized RJ6, Cond.code yJ6_bitCount_0f7a4 cJ6_bitCount_0f7a4 1 (some .int), Cond.constant RJ6 265 (1431655765), Cond.constant RJ6 266 (858993459), Cond.constant RJ6 267 (252645135), Cond.methodLink RX0 190 yX0_spendQuota, Cond.instanceMethod yX0_spendQuota, Cond.selects RX0 yX0_spendQuota yX0_spendQuota, Cond.code yX0_spendQuota cX0_spendQuota 3 none]
def wsL_refuses_r6 : List Cond := [Cond.methodLink RL 99 yL_dozes, Cond.static yL_dozes, Cond.codeWith yL_dozes cL_dozes 4 (some .int) [(0, 6, 7, 23)], Cond.methodLink RL 26 yX0_setDozing, Cond.instanceMethod yX0_setDozing, Cond.selects RX0 yX0_setDozing yX0_setDozing, Cond.code yX0_setDozing cX0_setDozing 3 (some .int), Cond.methodLink RL 102 yL_quiets, Cond.static yL_quiets, Cond.codeWith yL_quiets cL_quiets 5 (some .int) [(0, 7, 8, 23), (0, 7, 13, 13)], Cond.methodLink RL 29 yX0_setQuiet, Cond.instanceMethod yX0_setQuiet, Cond.selects RX0 yX0_setQuiet yX0_setQuiet, Cond.code yX0_setQuiet cX0_setQuiet 4 (some .int), Cond.methodLink RL 106 yL_joins, Cond.static yL_joins, Cond.codeWith yL_joins cL_joins 5 (some .int) [(0, 15, 16, 23), (0, 15, 21, 13)], Cond.methodLink RL 33 yX0_join, Cond.instanceMethod yX0_join, Cond.selects RX0 yX0_join yX0_join, Cond.code yX0_join cX0_join 5 (some .boolean), Cond.fieldLink RX0 13 "PushNotices" "devicesOfTopic" "[I", Cond.methodLink RL 110 yL_kills, Cond.static yL_kills]
def wsL_refuses_r7 : List Cond := [Cond.codeWith yL_kills cL_kills 3 (some .int) [(0, 5, 6, 23), (0, 5, 10, 16)], Cond.methodLink RL 37 yX0_kill, Cond.instanceMethod yX0_kill, Cond.selects RX0 yX0_kill yX0_kill, Cond.code yX0_kill cX0_kill 4 (some .int), Cond.methodLink RX0 102 yX0_countWaiting, Cond.instanceMethod yX0_countWaiting, Cond.selects RX0 yX0_countWaiting yX0_countWaiting, Cond.code yX0_countWaiting cX0_countWaiting 4 (some .int), Cond.methodLink RL 114 yL_quiet, Cond.static yL_quiet, Cond.codeWith yL_quiet cL_quiet 3 (some .int) [(0, 13, 14, 23)], Cond.methodLink RL 41 yX0_isQuiet, Cond.instanceMethod yX0_isQuiet, Cond.selects RX0 yX0_isQuiet yX0_isQuiet, Cond.code yX0_isQuiet cX0_isQuiet 2 (some .boolean), Cond.methodLink RL 117 yL_sends, Cond.static yL_sends, Cond.codeWith yL_sends cL_sends 6 (some .int) [(0, 9, 10, 13), (0, 9, 15, 16)], Cond.methodLink RL 45 yX0_send, Cond.instanceMethod yX0_send, Cond.selects RX0 yX0_send yX0_send, Cond.code yX0_send cX0_send 5 (some .int), Cond.methodLink RX0 109 yX0_requireRoomForNotice]
def wsL_refuses_r8 : List Cond := [Cond.instanceMethod yX0_requireRoomForNotice, Cond.selects RX0 yX0_requireRoomForNotice yX0_requireRoomForNotice, Cond.code yX0_requireRoomForNotice cX0_requireRoomForNotice 1 none, Cond.methodLink RX0 112 yX0_replaceKey, Cond.instanceMethod yX0_replaceKey, Cond.selects RX0 yX0_replaceKey yX0_replaceKey, Cond.code yX0_replaceKey cX0_replaceKey 5 none, Cond.fieldLink RX0 57 "PushNotices" "lastWithKey" "[I", Cond.methodLink RX0 143 yX0_placeOf, Cond.static yX0_placeOf, Cond.code yX0_placeOf cX0_placeOf 2 (some .int), Cond.methodLink RX0 140 yX0_withdraw, Cond.instanceMethod yX0_withdraw, Cond.selects RX0 yX0_withdraw yX0_withdraw, Cond.code yX0_withdraw cX0_withdraw 2 none, Cond.methodLink RX0 116 yX0_sendTo, Cond.instanceMethod yX0_sendTo, Cond.selects RX0 yX0_sendTo yX0_sendTo, Cond.code yX0_sendTo cX0_sendTo 5 (some .int), Cond.methodLink RL 121 yL_sendsBy, Cond.static yL_sendsBy, Cond.codeWith yL_sendsBy cL_sendsBy 7 (some .int) [(0, 11, 12, 13), (0, 11, 17, 16)], Cond.methodLink RL 49 yX0_sendBy, Cond.instanceMethod yX0_sendBy]
def wsL_refuses_r9 : List Cond := [Cond.selects RX0 yX0_sendBy yX0_sendBy, Cond.code yX0_sendBy cX0_sendBy 6 (some .int), Cond.methodLink RX0 120 yX0_devicesThatFulfil, Cond.instanceMethod yX0_devicesThatFulfil, Cond.selects RX0 yX0_devicesThatFulfil yX0_devicesThatFulfil, Cond.code yX0_devicesThatFulfil cX0_devicesThatFulfil 4 (some .int), Cond.methodLink RL 125 yL_reads, Cond.static yL_reads, Cond.codeWith yL_reads cL_reads 4 (some .int) [(0, 6, 7, 23), (0, 6, 11, 16)], Cond.methodLink RL 53 yX0_read, Cond.instanceMethod yX0_read, Cond.selects RX0 yX0_read yX0_read, Cond.code yX0_read cX0_read 4 (some .int), Cond.methodLink RX0 124 yX0_requireNotice, Cond.instanceMethod yX0_requireNotice, Cond.selects RX0 yX0_requireNotice yX0_requireNotice, Cond.code yX0_requireNotice cX0_requireNotice 2 none, Cond.methodLink RL 128 yL_stands, Cond.static yL_stands, Cond.codeWith yL_stands cL_stands 3 (some .int) [(0, 13, 14, 23)], Cond.methodLink RL 56 yX0_stands, Cond.instanceMethod yX0_stands, Cond.selects RX0 yX0_stands yX0_stands, Cond.code yX0_stands cX0_stands 2 (some .boolean)]
def wsL_refuses_r10 : List Cond := [Cond.methodLink RL 130 yL_waits, Cond.static yL_waits, Cond.codeWith yL_waits cL_waits 3 (some .int) [(0, 5, 6, 23)], Cond.methodLink RL 59 yX0_waitsFor, Cond.instanceMethod yX0_waitsFor, Cond.selects RX0 yX0_waitsFor yX0_waitsFor, Cond.code yX0_waitsFor cX0_waitsFor 2 (some .int), Cond.methodLink RL 133 yL_delivered, Cond.static yL_delivered, Cond.codeWith yL_delivered cL_delivered 3 (some .int) [(0, 5, 6, 23)], Cond.methodLink RL 62 yX0_deliveredTo, Cond.instanceMethod yX0_deliveredTo, Cond.selects RX0 yX0_deliveredTo yX0_deliveredTo, Cond.code yX0_deliveredTo cX0_deliveredTo 2 (some .int), Cond.methodLink RL 136 yL_standing, Cond.static yL_standing, Cond.codeWith yL_standing cL_standing 4 (some .int) [(0, 6, 7, 13)], Cond.methodLink RL 65 yX0_standing, Cond.instanceMethod yX0_standing, Cond.selects RX0 yX0_standing yX0_standing, Cond.code yX0_standing cX0_standing 4 (some .int), Cond.methodLink RL 138 yL_badge, Cond.static yL_badge, Cond.codeWith yL_badge cL_badge 3 (some .int) [(0, 5, 6, 23)]]
def wsL_refuses_r11 : List Cond := [Cond.methodLink RL 68 yX0_badge, Cond.instanceMethod yX0_badge, Cond.selects RX0 yX0_badge yX0_badge, Cond.code yX0_badge cX0_badge 4 (some .int), Cond.methodLink RL 140 yL_waiting, Cond.static yL_waiting, Cond.codeWith yL_waiting cL_waiting 3 (some .int) [(0, 5, 6, 23)], Cond.methodLink RL 71 yX0_waiting, Cond.instanceMethod yX0_waiting, Cond.selects RX0 yX0_waiting yX0_waiting, Cond.code yX0_waiting cX0_waiting 2 (some .int), Cond.methodLink RL 142 yL_quota, Cond.static yL_quota, Cond.codeWith yL_quota cL_quota 3 (some .int) [(0, 5, 6, 23)], Cond.methodLink RL 74 yX0_quota, Cond.instanceMethod yX0_quota, Cond.selects RX0 yX0_quota yX0_quota, Cond.code yX0_quota cX0_quota 2 (some .int), Cond.methodLink RL 144 yL_passes, Cond.static yL_passes, Cond.codeWith yL_passes cL_passes 3 (some .int) [(0, 5, 6, 13), (0, 5, 10, 16)], Cond.methodLink RL 77 yX0_pass, Cond.instanceMethod yX0_pass, Cond.selects RX0 yX0_pass yX0_pass]
def wsL_refuses_r12 : List Cond := [Cond.code yX0_pass cX0_pass 5 (some .int), Cond.constant RX0 150 (100000), Cond.methodLink RX0 156 Lib.Math.min.name, Cond.static Lib.Math.min.name, Cond.initialized "java/lang/Math", Cond.code Lib.Math.min.name Lib.Math.min.code 2 (some .int), Cond.methodLink RX0 153 yX0_nextChance, Cond.instanceMethod yX0_nextChance, Cond.selects RX0 yX0_nextChance yX0_nextChance, Cond.code yX0_nextChance cX0_nextChance 4 (some .int)]
def wsL_refuses : List Cond := .code yL_refuses cL_refuses 8 (some .boolean) :: ((wsL_refuses_r1 ++ (wsL_refuses_r2 ++ (wsL_refuses_r3 ++ (wsL_refuses_r4 ++ (wsL_refuses_r5 ++ (wsL_refuses_r6 ++ (wsL_refuses_r7 ++ (wsL_refuses_r8 ++ (wsL_refuses_r9 ++ (wsL_refuses_r10 ++ (wsL_refuses_r11 ++ wsL_refuses_r12))))))))))) ++ wsX00 ++ (vx_atS RX0 77 "java/lang/IllegalStateException" ["java/lang/RuntimeException", "java/lang/Exception"]).filter goodWord ++ (vx_atS RX0 165 "java/lang/IllegalArgumentException" ["java/lang/RuntimeException", "java/lang/Exception"]).filter goodWord ++ (vx_atS RX0 170 "java/lang/IndexOutOfBoundsException" ["java/lang/RuntimeException", "java/lang/Exception"]).filter goodWord)
def wsL_act_r1 : List Cond := [Cond.methodLink RL 82 yX0_devices, Cond.instanceMethod yX0_devices, Cond.selects RX0 yX0_devices yX0_devices, Cond.initialized RX0, Cond.code yX0_devices cX0_devices 1 (some .int), Cond.fieldLink RX0 41 "PushNotices" "deviceCount" "I", Cond.methodLink RL 89 yL_adds, Cond.static yL_adds, Cond.initialized RL, Cond.codeWith yL_adds cL_adds 4 (some .int) [(0, 6, 7, 13), (0, 6, 11, 16)], Cond.classLink RL 13 "java/lang/IllegalArgumentException", Cond.classLink RL 16 "java/lang/IllegalStateException", Cond.constant RL 15 (-2000000002), Cond.constant RL 18 (-2000000003), Cond.methodLink RL 7 yX0_addDevice, Cond.instanceMethod yX0_addDevice, Cond.selects RX0 yX0_addDevice yX0_addDevice, Cond.code yX0_addDevice cX0_addDevice 4 (some .int), Cond.classLink RX0 73 "java/lang/IllegalStateException", Cond.initialized "java/lang/IllegalStateException", Cond.fieldLink RX0 26 "PushNotices" "zoneOffset" "[I", Cond.fieldLink RX0 9 "PushNotices" "devicesOfUser" "[I", Cond.fieldLink RX0 16 "PushNotices" "alive" "I", Cond.fieldLink RX0 20 "PushNotices" "online" "I"]
def wsL_act_r2 : List Cond := [Cond.methodLink RX0 69 yX0_requireWithin, Cond.static yX0_requireWithin, Cond.code yX0_requireWithin cX0_requireWithin 3 none, Cond.classLink RX0 161 "java/lang/IllegalArgumentException", Cond.initialized "java/lang/IllegalArgumentException", Cond.methodLink RX0 80 yX0_bitOf, Cond.static yX0_bitOf, Cond.code yX0_bitOf cX0_bitOf 1 (some .int), Cond.methodLink RL 95 yL_online, Cond.static yL_online, Cond.codeWith yL_online cL_online 4 (some .int) [(0, 6, 7, 23)], Cond.classLink RL 23 "java/lang/IndexOutOfBoundsException", Cond.constant RL 25 (-2000000001), Cond.methodLink RL 19 yX0_setOnline, Cond.instanceMethod yX0_setOnline, Cond.selects RX0 yX0_setOnline yX0_setOnline, Cond.code yX0_setOnline cX0_setOnline 3 (some .int), Cond.methodLink RX0 84 yX0_requireDevice, Cond.instanceMethod yX0_requireDevice, Cond.selects RX0 yX0_requireDevice yX0_requireDevice, Cond.code yX0_requireDevice cX0_requireDevice 2 none, Cond.classLink RX0 166 "java/lang/IndexOutOfBoundsException", Cond.initialized "java/lang/IndexOutOfBoundsException", Cond.methodLink RX0 88 yX0_changed]
def wsL_act_r3 : List Cond := [Cond.static yX0_changed, Cond.code yX0_changed cX0_changed 3 (some .int), Cond.methodLink RX0 92 yX0_deliverNow, Cond.instanceMethod yX0_deliverNow, Cond.selects RX0 yX0_deliverNow yX0_deliverNow, Cond.code yX0_deliverNow cX0_deliverNow 5 (some .int), Cond.fieldLink RX0 66 "PushNotices" "deliveryCount" "I", Cond.fieldLink RX0 60 "PushNotices" "noticeCount" "I", Cond.fieldLink RX0 44 "PushNotices" "isHighNotice" "[Z", Cond.methodLink RX0 181 yX0_openToNormal, Cond.instanceMethod yX0_openToNormal, Cond.selects RX0 yX0_openToNormal yX0_openToNormal, Cond.code yX0_openToNormal cX0_openToNormal 3 (some .int), Cond.fieldLink RX0 63 "PushNotices" "minute" "I", Cond.fieldLink RX0 23 "PushNotices" "dozing" "I", Cond.methodLink RX0 105 yX0_isInQuietHours, Cond.instanceMethod yX0_isInQuietHours, Cond.selects RX0 yX0_isInQuietHours yX0_isInQuietHours, Cond.code yX0_isInQuietHours cX0_isInQuietHours 4 (some .boolean), Cond.fieldLink RX0 29 "PushNotices" "quietFrom" "[I", Cond.fieldLink RX0 32 "PushNotices" "quietTo" "[I", Cond.methodLink RX0 178 yX0_localTime, Cond.instanceMethod yX0_localTime, Cond.selects RX0 yX0_localTime yX0_localTime]
def wsL_act_r4 : List Cond := [Cond.code yX0_localTime cX0_localTime 2 (some .int), Cond.methodLink RX0 175 yJ9_floorMod_7cf53, Cond.static yJ9_floorMod_7cf53, Cond.initialized RJ9, Cond.code yJ9_floorMod_7cf53 cJ9_floorMod_7cf53 3 (some .int), Cond.methodLink RX0 132 yX0_waitsNow, Cond.instanceMethod yX0_waitsNow, Cond.selects RX0 yX0_waitsNow yX0_waitsNow, Cond.code yX0_waitsNow cX0_waitsNow 2 (some .int), Cond.fieldLink RX0 51 "PushNotices" "waitSet" "[I", Cond.methodLink RX0 127 yX0_isStanding, Cond.instanceMethod yX0_isStanding, Cond.selects RX0 yX0_isStanding yX0_isStanding, Cond.code yX0_isStanding cX0_isStanding 2 (some .boolean), Cond.fieldLink RX0 48 "PushNotices" "fallsAt" "[I", Cond.methodLink RX0 184 yX0_openToHigh, Cond.instanceMethod yX0_openToHigh, Cond.selects RX0 yX0_openToHigh yX0_openToHigh, Cond.code yX0_openToHigh cX0_openToHigh 3 (some .int), Cond.methodLink RX0 96 yX0_has, Cond.static yX0_has, Cond.code yX0_has cX0_has 2 (some .boolean), Cond.methodLink RX0 147 yX0_spentToday, Cond.instanceMethod yX0_spentToday]
def wsL_act_r5 : List Cond := [Cond.selects RX0 yX0_spentToday yX0_spentToday, Cond.code yX0_spentToday cX0_spentToday 2 (some .int), Cond.fieldLink RX0 35 "PushNotices" "quotaDay" "[I", Cond.fieldLink RX0 38 "PushNotices" "quotaSpent" "[I", Cond.methodLink RX0 187 yX0_deliver, Cond.instanceMethod yX0_deliver, Cond.selects RX0 yX0_deliver yX0_deliver, Cond.code yX0_deliver cX0_deliver 3 none, Cond.fieldLink RX0 54 "PushNotices" "deliveredSet" "[I", Cond.methodLink RX0 135 yJ6_bitCount_0f7a4, Cond.static yJ6_bitCount_0f7a4, Cond.initialized RJ6, Cond.code yJ6_bitCount_0f7a4 cJ6_bitCount_0f7a4 1 (some .int), Cond.constant RJ6 265 (1431655765), Cond.constant RJ6 266 (858993459), Cond.constant RJ6 267 (252645135), Cond.methodLink RX0 190 yX0_spendQuota, Cond.instanceMethod yX0_spendQuota, Cond.selects RX0 yX0_spendQuota yX0_spendQuota, Cond.code yX0_spendQuota cX0_spendQuota 3 none, Cond.methodLink RL 99 yL_dozes, Cond.static yL_dozes, Cond.codeWith yL_dozes cL_dozes 4 (some .int) [(0, 6, 7, 23)], Cond.methodLink RL 26 yX0_setDozing]
def wsL_act_r6 : List Cond := [Cond.instanceMethod yX0_setDozing, Cond.selects RX0 yX0_setDozing yX0_setDozing, Cond.code yX0_setDozing cX0_setDozing 3 (some .int), Cond.methodLink RL 102 yL_quiets, Cond.static yL_quiets, Cond.codeWith yL_quiets cL_quiets 5 (some .int) [(0, 7, 8, 23), (0, 7, 13, 13)], Cond.methodLink RL 29 yX0_setQuiet, Cond.instanceMethod yX0_setQuiet, Cond.selects RX0 yX0_setQuiet yX0_setQuiet, Cond.code yX0_setQuiet cX0_setQuiet 4 (some .int), Cond.methodLink RL 106 yL_joins, Cond.static yL_joins, Cond.codeWith yL_joins cL_joins 5 (some .int) [(0, 15, 16, 23), (0, 15, 21, 13)], Cond.methodLink RL 33 yX0_join, Cond.instanceMethod yX0_join, Cond.selects RX0 yX0_join yX0_join, Cond.code yX0_join cX0_join 5 (some .boolean), Cond.fieldLink RX0 13 "PushNotices" "devicesOfTopic" "[I", Cond.methodLink RL 110 yL_kills, Cond.static yL_kills, Cond.codeWith yL_kills cL_kills 3 (some .int) [(0, 5, 6, 23), (0, 5, 10, 16)], Cond.methodLink RL 37 yX0_kill, Cond.instanceMethod yX0_kill, Cond.selects RX0 yX0_kill yX0_kill]
def wsL_act_r7 : List Cond := [Cond.code yX0_kill cX0_kill 4 (some .int), Cond.methodLink RX0 102 yX0_countWaiting, Cond.instanceMethod yX0_countWaiting, Cond.selects RX0 yX0_countWaiting yX0_countWaiting, Cond.code yX0_countWaiting cX0_countWaiting 4 (some .int), Cond.methodLink RL 142 yL_quota, Cond.static yL_quota, Cond.codeWith yL_quota cL_quota 3 (some .int) [(0, 5, 6, 23)], Cond.methodLink RL 74 yX0_quota, Cond.instanceMethod yX0_quota, Cond.selects RX0 yX0_quota yX0_quota, Cond.code yX0_quota cX0_quota 2 (some .int), Cond.methodLink RL 117 yL_sends, Cond.static yL_sends, Cond.codeWith yL_sends cL_sends 6 (some .int) [(0, 9, 10, 13), (0, 9, 15, 16)], Cond.methodLink RL 45 yX0_send, Cond.instanceMethod yX0_send, Cond.selects RX0 yX0_send yX0_send, Cond.code yX0_send cX0_send 5 (some .int), Cond.methodLink RX0 109 yX0_requireRoomForNotice, Cond.instanceMethod yX0_requireRoomForNotice, Cond.selects RX0 yX0_requireRoomForNotice yX0_requireRoomForNotice, Cond.code yX0_requireRoomForNotice cX0_requireRoomForNotice 1 none, Cond.methodLink RX0 112 yX0_replaceKey]
def wsL_act_r8 : List Cond := [Cond.instanceMethod yX0_replaceKey, Cond.selects RX0 yX0_replaceKey yX0_replaceKey, Cond.code yX0_replaceKey cX0_replaceKey 5 none, Cond.fieldLink RX0 57 "PushNotices" "lastWithKey" "[I", Cond.methodLink RX0 143 yX0_placeOf, Cond.static yX0_placeOf, Cond.code yX0_placeOf cX0_placeOf 2 (some .int), Cond.methodLink RX0 140 yX0_withdraw, Cond.instanceMethod yX0_withdraw, Cond.selects RX0 yX0_withdraw yX0_withdraw, Cond.code yX0_withdraw cX0_withdraw 2 none, Cond.methodLink RX0 116 yX0_sendTo, Cond.instanceMethod yX0_sendTo, Cond.selects RX0 yX0_sendTo yX0_sendTo, Cond.code yX0_sendTo cX0_sendTo 5 (some .int), Cond.methodLink RL 121 yL_sendsBy, Cond.static yL_sendsBy, Cond.codeWith yL_sendsBy cL_sendsBy 7 (some .int) [(0, 11, 12, 13), (0, 11, 17, 16)], Cond.methodLink RL 49 yX0_sendBy, Cond.instanceMethod yX0_sendBy, Cond.selects RX0 yX0_sendBy yX0_sendBy, Cond.code yX0_sendBy cX0_sendBy 6 (some .int), Cond.methodLink RX0 120 yX0_devicesThatFulfil, Cond.instanceMethod yX0_devicesThatFulfil]
def wsL_act_r9 : List Cond := [Cond.selects RX0 yX0_devicesThatFulfil yX0_devicesThatFulfil, Cond.code yX0_devicesThatFulfil cX0_devicesThatFulfil 4 (some .int), Cond.methodLink RL 86 yX0_sent, Cond.instanceMethod yX0_sent, Cond.selects RX0 yX0_sent yX0_sent, Cond.code yX0_sent cX0_sent 1 (some .int), Cond.methodLink RL 125 yL_reads, Cond.static yL_reads, Cond.codeWith yL_reads cL_reads 4 (some .int) [(0, 6, 7, 23), (0, 6, 11, 16)], Cond.methodLink RL 53 yX0_read, Cond.instanceMethod yX0_read, Cond.selects RX0 yX0_read yX0_read, Cond.code yX0_read cX0_read 4 (some .int), Cond.methodLink RX0 124 yX0_requireNotice, Cond.instanceMethod yX0_requireNotice, Cond.selects RX0 yX0_requireNotice yX0_requireNotice, Cond.code yX0_requireNotice cX0_requireNotice 2 none, Cond.methodLink RL 144 yL_passes, Cond.static yL_passes, Cond.codeWith yL_passes cL_passes 3 (some .int) [(0, 5, 6, 13), (0, 5, 10, 16)], Cond.methodLink RL 77 yX0_pass, Cond.instanceMethod yX0_pass, Cond.selects RX0 yX0_pass yX0_pass, Cond.code yX0_pass cX0_pass 5 (some .int)]
def wsL_act_r10 : List Cond := [Cond.constant RX0 150 (100000), Cond.methodLink RX0 156 Lib.Math.min.name, Cond.static Lib.Math.min.name, Cond.initialized "java/lang/Math", Cond.code Lib.Math.min.name Lib.Math.min.code 2 (some .int), Cond.methodLink RX0 153 yX0_nextChance, Cond.instanceMethod yX0_nextChance, Cond.selects RX0 yX0_nextChance yX0_nextChance, Cond.code yX0_nextChance cX0_nextChance 4 (some .int)]
def wsL_act : List Cond := .code yL_act cL_act 9 (some .int) :: ((wsL_act_r1 ++ (wsL_act_r2 ++ (wsL_act_r3 ++ (wsL_act_r4 ++ (wsL_act_r5 ++ (wsL_act_r6 ++ (wsL_act_r7 ++ (wsL_act_r8 ++ (wsL_act_r9 ++ wsL_act_r10))))))))) ++ wsX00 ++ (vx_atS RX0 77 "java/lang/IllegalStateException" ["java/lang/RuntimeException", "java/lang/Exception"]).filter goodWord ++ (vx_atS RX0 165 "java/lang/IllegalArgumentException" ["java/lang/RuntimeException", "java/lang/Exception"]).filter goodWord ++ (vx_atS RX0 170 "java/lang/IndexOutOfBoundsException" ["java/lang/RuntimeException", "java/lang/Exception"]).filter goodWord)
def wsL_alike_r1 : List Cond := [Cond.methodLink RL 147 yX0_clock, Cond.instanceMethod yX0_clock, Cond.selects RX0 yX0_clock yX0_clock, Cond.initialized RX0, Cond.code yX0_clock cX0_clock 1 (some .int), Cond.fieldLink RX0 63 "PushNotices" "minute" "I", Cond.methodLink RL 82 yX0_devices, Cond.instanceMethod yX0_devices, Cond.selects RX0 yX0_devices yX0_devices, Cond.code yX0_devices cX0_devices 1 (some .int), Cond.fieldLink RX0 41 "PushNotices" "deviceCount" "I", Cond.methodLink RL 86 yX0_sent, Cond.instanceMethod yX0_sent, Cond.selects RX0 yX0_sent yX0_sent, Cond.code yX0_sent cX0_sent 1 (some .int), Cond.fieldLink RX0 60 "PushNotices" "noticeCount" "I", Cond.methodLink RL 150 yX0_deliveries, Cond.instanceMethod yX0_deliveries, Cond.selects RX0 yX0_deliveries yX0_deliveries, Cond.code yX0_deliveries cX0_deliveries 1 (some .int), Cond.fieldLink RX0 66 "PushNotices" "deliveryCount" "I", Cond.methodLink RL 138 yL_badge, Cond.static yL_badge, Cond.initialized RL]
def wsL_alike_r2 : List Cond := [Cond.codeWith yL_badge cL_badge 3 (some .int) [(0, 5, 6, 23)], Cond.classLink RL 23 "java/lang/IndexOutOfBoundsException", Cond.constant RL 25 (-2000000001), Cond.methodLink RL 68 yX0_badge, Cond.instanceMethod yX0_badge, Cond.selects RX0 yX0_badge yX0_badge, Cond.code yX0_badge cX0_badge 4 (some .int), Cond.fieldLink RX0 54 "PushNotices" "deliveredSet" "[I", Cond.methodLink RX0 84 yX0_requireDevice, Cond.instanceMethod yX0_requireDevice, Cond.selects RX0 yX0_requireDevice yX0_requireDevice, Cond.code yX0_requireDevice cX0_requireDevice 2 none, Cond.classLink RX0 166 "java/lang/IndexOutOfBoundsException", Cond.initialized "java/lang/IndexOutOfBoundsException", Cond.methodLink RX0 96 yX0_has, Cond.static yX0_has, Cond.code yX0_has cX0_has 2 (some .boolean), Cond.methodLink RX0 80 yX0_bitOf, Cond.static yX0_bitOf, Cond.code yX0_bitOf cX0_bitOf 1 (some .int), Cond.methodLink RX0 127 yX0_isStanding, Cond.instanceMethod yX0_isStanding, Cond.selects RX0 yX0_isStanding yX0_isStanding, Cond.code yX0_isStanding cX0_isStanding 2 (some .boolean)]
def wsL_alike_r3 : List Cond := [Cond.fieldLink RX0 48 "PushNotices" "fallsAt" "[I", Cond.methodLink RL 140 yL_waiting, Cond.static yL_waiting, Cond.codeWith yL_waiting cL_waiting 3 (some .int) [(0, 5, 6, 23)], Cond.methodLink RL 71 yX0_waiting, Cond.instanceMethod yX0_waiting, Cond.selects RX0 yX0_waiting yX0_waiting, Cond.code yX0_waiting cX0_waiting 2 (some .int), Cond.methodLink RX0 102 yX0_countWaiting, Cond.instanceMethod yX0_countWaiting, Cond.selects RX0 yX0_countWaiting yX0_countWaiting, Cond.code yX0_countWaiting cX0_countWaiting 4 (some .int), Cond.methodLink RX0 132 yX0_waitsNow, Cond.instanceMethod yX0_waitsNow, Cond.selects RX0 yX0_waitsNow yX0_waitsNow, Cond.code yX0_waitsNow cX0_waitsNow 2 (some .int), Cond.fieldLink RX0 51 "PushNotices" "waitSet" "[I", Cond.methodLink RL 142 yL_quota, Cond.static yL_quota, Cond.codeWith yL_quota cL_quota 3 (some .int) [(0, 5, 6, 23)], Cond.methodLink RL 74 yX0_quota, Cond.instanceMethod yX0_quota, Cond.selects RX0 yX0_quota yX0_quota, Cond.code yX0_quota cX0_quota 2 (some .int)]
def wsL_alike_r4 : List Cond := [Cond.methodLink RX0 147 yX0_spentToday, Cond.instanceMethod yX0_spentToday, Cond.selects RX0 yX0_spentToday yX0_spentToday, Cond.code yX0_spentToday cX0_spentToday 2 (some .int), Cond.fieldLink RX0 35 "PushNotices" "quotaDay" "[I", Cond.fieldLink RX0 38 "PushNotices" "quotaSpent" "[I", Cond.methodLink RL 114 yL_quiet, Cond.static yL_quiet, Cond.codeWith yL_quiet cL_quiet 3 (some .int) [(0, 13, 14, 23)], Cond.methodLink RL 41 yX0_isQuiet, Cond.instanceMethod yX0_isQuiet, Cond.selects RX0 yX0_isQuiet yX0_isQuiet, Cond.code yX0_isQuiet cX0_isQuiet 2 (some .boolean), Cond.methodLink RX0 105 yX0_isInQuietHours, Cond.instanceMethod yX0_isInQuietHours, Cond.selects RX0 yX0_isInQuietHours yX0_isInQuietHours, Cond.code yX0_isInQuietHours cX0_isInQuietHours 4 (some .boolean), Cond.fieldLink RX0 29 "PushNotices" "quietFrom" "[I", Cond.fieldLink RX0 32 "PushNotices" "quietTo" "[I", Cond.methodLink RX0 178 yX0_localTime, Cond.instanceMethod yX0_localTime, Cond.selects RX0 yX0_localTime yX0_localTime, Cond.code yX0_localTime cX0_localTime 2 (some .int), Cond.fieldLink RX0 26 "PushNotices" "zoneOffset" "[I"]
def wsL_alike_r5 : List Cond := [Cond.methodLink RX0 175 yJ9_floorMod_7cf53, Cond.static yJ9_floorMod_7cf53, Cond.initialized RJ9, Cond.code yJ9_floorMod_7cf53 cJ9_floorMod_7cf53 3 (some .int), Cond.methodLink RL 128 yL_stands, Cond.static yL_stands, Cond.codeWith yL_stands cL_stands 3 (some .int) [(0, 13, 14, 23)], Cond.methodLink RL 56 yX0_stands, Cond.instanceMethod yX0_stands, Cond.selects RX0 yX0_stands yX0_stands, Cond.code yX0_stands cX0_stands 2 (some .boolean), Cond.methodLink RX0 124 yX0_requireNotice, Cond.instanceMethod yX0_requireNotice, Cond.selects RX0 yX0_requireNotice yX0_requireNotice, Cond.code yX0_requireNotice cX0_requireNotice 2 none, Cond.methodLink RL 130 yL_waits, Cond.static yL_waits, Cond.codeWith yL_waits cL_waits 3 (some .int) [(0, 5, 6, 23)], Cond.methodLink RL 59 yX0_waitsFor, Cond.instanceMethod yX0_waitsFor, Cond.selects RX0 yX0_waitsFor yX0_waitsFor, Cond.code yX0_waitsFor cX0_waitsFor 2 (some .int), Cond.methodLink RL 133 yL_delivered, Cond.static yL_delivered]
def wsL_alike_r6 : List Cond := [Cond.codeWith yL_delivered cL_delivered 3 (some .int) [(0, 5, 6, 23)], Cond.methodLink RL 62 yX0_deliveredTo, Cond.instanceMethod yX0_deliveredTo, Cond.selects RX0 yX0_deliveredTo yX0_deliveredTo, Cond.code yX0_deliveredTo cX0_deliveredTo 2 (some .int)]
def wsL_alike : List Cond := .code yL_alike cL_alike 4 (some .boolean) :: ((wsL_alike_r1 ++ (wsL_alike_r2 ++ (wsL_alike_r3 ++ (wsL_alike_r4 ++ (wsL_alike_r5 ++ wsL_alike_r6))))) ++ wsX00 ++ (vx_atS RX0 170 "java/lang/IndexOutOfBoundsException" ["java/lang/RuntimeException", "java/lang/Exception"]).filter goodWord)
def wsL_bits : List Cond := .code yL_bits cL_bits 3 (some .int) :: ([])
def wsL_holds_r1 : List Cond := [Cond.methodLink RL 86 yX0_sent, Cond.instanceMethod yX0_sent, Cond.selects RX0 yX0_sent yX0_sent, Cond.initialized RX0, Cond.code yX0_sent cX0_sent 1 (some .int), Cond.fieldLink RX0 60 "PushNotices" "noticeCount" "I", Cond.methodLink RL 128 yL_stands, Cond.static yL_stands, Cond.initialized RL, Cond.codeWith yL_stands cL_stands 3 (some .int) [(0, 13, 14, 23)], Cond.classLink RL 23 "java/lang/IndexOutOfBoundsException", Cond.constant RL 25 (-2000000001), Cond.methodLink RL 56 yX0_stands, Cond.instanceMethod yX0_stands, Cond.selects RX0 yX0_stands yX0_stands, Cond.code yX0_stands cX0_stands 2 (some .boolean), Cond.methodLink RX0 124 yX0_requireNotice, Cond.instanceMethod yX0_requireNotice, Cond.selects RX0 yX0_requireNotice yX0_requireNotice, Cond.code yX0_requireNotice cX0_requireNotice 2 none, Cond.classLink RX0 166 "java/lang/IndexOutOfBoundsException", Cond.initialized "java/lang/IndexOutOfBoundsException", Cond.methodLink RX0 127 yX0_isStanding, Cond.instanceMethod yX0_isStanding]
def wsL_holds_r2 : List Cond := [Cond.selects RX0 yX0_isStanding yX0_isStanding, Cond.code yX0_isStanding cX0_isStanding 2 (some .boolean), Cond.fieldLink RX0 63 "PushNotices" "minute" "I", Cond.fieldLink RX0 48 "PushNotices" "fallsAt" "[I", Cond.methodLink RL 130 yL_waits, Cond.static yL_waits, Cond.codeWith yL_waits cL_waits 3 (some .int) [(0, 5, 6, 23)], Cond.methodLink RL 59 yX0_waitsFor, Cond.instanceMethod yX0_waitsFor, Cond.selects RX0 yX0_waitsFor yX0_waitsFor, Cond.code yX0_waitsFor cX0_waitsFor 2 (some .int), Cond.methodLink RX0 132 yX0_waitsNow, Cond.instanceMethod yX0_waitsNow, Cond.selects RX0 yX0_waitsNow yX0_waitsNow, Cond.code yX0_waitsNow cX0_waitsNow 2 (some .int), Cond.fieldLink RX0 51 "PushNotices" "waitSet" "[I", Cond.methodLink RL 153 yL_bits, Cond.static yL_bits, Cond.code yL_bits cL_bits 3 (some .int), Cond.methodLink RL 133 yL_delivered, Cond.static yL_delivered, Cond.codeWith yL_delivered cL_delivered 3 (some .int) [(0, 5, 6, 23)], Cond.methodLink RL 62 yX0_deliveredTo, Cond.instanceMethod yX0_deliveredTo]
def wsL_holds_r3 : List Cond := [Cond.selects RX0 yX0_deliveredTo yX0_deliveredTo, Cond.code yX0_deliveredTo cX0_deliveredTo 2 (some .int), Cond.fieldLink RX0 54 "PushNotices" "deliveredSet" "[I", Cond.methodLink RL 82 yX0_devices, Cond.instanceMethod yX0_devices, Cond.selects RX0 yX0_devices yX0_devices, Cond.code yX0_devices cX0_devices 1 (some .int), Cond.fieldLink RX0 41 "PushNotices" "deviceCount" "I", Cond.methodLink RL 140 yL_waiting, Cond.static yL_waiting, Cond.codeWith yL_waiting cL_waiting 3 (some .int) [(0, 5, 6, 23)], Cond.methodLink RL 71 yX0_waiting, Cond.instanceMethod yX0_waiting, Cond.selects RX0 yX0_waiting yX0_waiting, Cond.code yX0_waiting cX0_waiting 2 (some .int), Cond.methodLink RX0 84 yX0_requireDevice, Cond.instanceMethod yX0_requireDevice, Cond.selects RX0 yX0_requireDevice yX0_requireDevice, Cond.code yX0_requireDevice cX0_requireDevice 2 none, Cond.methodLink RX0 102 yX0_countWaiting, Cond.instanceMethod yX0_countWaiting, Cond.selects RX0 yX0_countWaiting yX0_countWaiting, Cond.code yX0_countWaiting cX0_countWaiting 4 (some .int), Cond.methodLink RX0 96 yX0_has]
def wsL_holds_r4 : List Cond := [Cond.static yX0_has, Cond.code yX0_has cX0_has 2 (some .boolean), Cond.methodLink RX0 80 yX0_bitOf, Cond.static yX0_bitOf, Cond.code yX0_bitOf cX0_bitOf 1 (some .int), Cond.methodLink RL 138 yL_badge, Cond.static yL_badge, Cond.codeWith yL_badge cL_badge 3 (some .int) [(0, 5, 6, 23)], Cond.methodLink RL 68 yX0_badge, Cond.instanceMethod yX0_badge, Cond.selects RX0 yX0_badge yX0_badge, Cond.code yX0_badge cX0_badge 4 (some .int), Cond.methodLink RL 142 yL_quota, Cond.static yL_quota, Cond.codeWith yL_quota cL_quota 3 (some .int) [(0, 5, 6, 23)], Cond.methodLink RL 74 yX0_quota, Cond.instanceMethod yX0_quota, Cond.selects RX0 yX0_quota yX0_quota, Cond.code yX0_quota cX0_quota 2 (some .int), Cond.methodLink RX0 147 yX0_spentToday, Cond.instanceMethod yX0_spentToday, Cond.selects RX0 yX0_spentToday yX0_spentToday, Cond.code yX0_spentToday cX0_spentToday 2 (some .int), Cond.fieldLink RX0 35 "PushNotices" "quotaDay" "[I"]
def wsL_holds_r5 : List Cond := [Cond.fieldLink RX0 38 "PushNotices" "quotaSpent" "[I", Cond.methodLink RL 136 yL_standing, Cond.static yL_standing, Cond.codeWith yL_standing cL_standing 4 (some .int) [(0, 6, 7, 13)], Cond.classLink RL 13 "java/lang/IllegalArgumentException", Cond.constant RL 15 (-2000000002), Cond.methodLink RL 65 yX0_standing, Cond.instanceMethod yX0_standing, Cond.selects RX0 yX0_standing yX0_standing, Cond.code yX0_standing cX0_standing 4 (some .int), Cond.fieldLink RX0 57 "PushNotices" "lastWithKey" "[I", Cond.methodLink RX0 69 yX0_requireWithin, Cond.static yX0_requireWithin, Cond.code yX0_requireWithin cX0_requireWithin 3 none, Cond.classLink RX0 161 "java/lang/IllegalArgumentException", Cond.initialized "java/lang/IllegalArgumentException", Cond.methodLink RX0 143 yX0_placeOf, Cond.static yX0_placeOf, Cond.code yX0_placeOf cX0_placeOf 2 (some .int), Cond.methodLink RL 150 yX0_deliveries, Cond.instanceMethod yX0_deliveries, Cond.selects RX0 yX0_deliveries yX0_deliveries, Cond.code yX0_deliveries cX0_deliveries 1 (some .int), Cond.fieldLink RX0 66 "PushNotices" "deliveryCount" "I"]
def wsL_holds : List Cond := .code yL_holds cL_holds 9 (some .boolean) :: ((wsL_holds_r1 ++ (wsL_holds_r2 ++ (wsL_holds_r3 ++ (wsL_holds_r4 ++ wsL_holds_r5)))) ++ wsX00 ++ (vx_atS RX0 170 "java/lang/IndexOutOfBoundsException" ["java/lang/RuntimeException", "java/lang/Exception"]).filter goodWord ++ (vx_atS RX0 165 "java/lang/IllegalArgumentException" ["java/lang/RuntimeException", "java/lang/Exception"]).filter goodWord)
def wsL_wakes_r1 : List Cond := [Cond.methodLink RL 82 yX0_devices, Cond.instanceMethod yX0_devices, Cond.selects RX0 yX0_devices yX0_devices, Cond.initialized RX0, Cond.code yX0_devices cX0_devices 1 (some .int), Cond.fieldLink RX0 41 "PushNotices" "deviceCount" "I", Cond.methodLink RL 140 yL_waiting, Cond.static yL_waiting, Cond.initialized RL, Cond.codeWith yL_waiting cL_waiting 3 (some .int) [(0, 5, 6, 23)], Cond.classLink RL 23 "java/lang/IndexOutOfBoundsException", Cond.constant RL 25 (-2000000001), Cond.methodLink RL 71 yX0_waiting, Cond.instanceMethod yX0_waiting, Cond.selects RX0 yX0_waiting yX0_waiting, Cond.code yX0_waiting cX0_waiting 2 (some .int), Cond.methodLink RX0 84 yX0_requireDevice, Cond.instanceMethod yX0_requireDevice, Cond.selects RX0 yX0_requireDevice yX0_requireDevice, Cond.code yX0_requireDevice cX0_requireDevice 2 none, Cond.classLink RX0 166 "java/lang/IndexOutOfBoundsException", Cond.initialized "java/lang/IndexOutOfBoundsException", Cond.methodLink RX0 102 yX0_countWaiting, Cond.instanceMethod yX0_countWaiting]
def wsL_wakes_r2 : List Cond := [Cond.selects RX0 yX0_countWaiting yX0_countWaiting, Cond.code yX0_countWaiting cX0_countWaiting 4 (some .int), Cond.fieldLink RX0 60 "PushNotices" "noticeCount" "I", Cond.methodLink RX0 132 yX0_waitsNow, Cond.instanceMethod yX0_waitsNow, Cond.selects RX0 yX0_waitsNow yX0_waitsNow, Cond.code yX0_waitsNow cX0_waitsNow 2 (some .int), Cond.fieldLink RX0 51 "PushNotices" "waitSet" "[I", Cond.methodLink RX0 127 yX0_isStanding, Cond.instanceMethod yX0_isStanding, Cond.selects RX0 yX0_isStanding yX0_isStanding, Cond.code yX0_isStanding cX0_isStanding 2 (some .boolean), Cond.fieldLink RX0 63 "PushNotices" "minute" "I", Cond.fieldLink RX0 48 "PushNotices" "fallsAt" "[I", Cond.methodLink RX0 96 yX0_has, Cond.static yX0_has, Cond.code yX0_has cX0_has 2 (some .boolean), Cond.methodLink RX0 80 yX0_bitOf, Cond.static yX0_bitOf, Cond.code yX0_bitOf cX0_bitOf 1 (some .int), Cond.methodLink RL 138 yL_badge, Cond.static yL_badge, Cond.codeWith yL_badge cL_badge 3 (some .int) [(0, 5, 6, 23)], Cond.methodLink RL 68 yX0_badge]
def wsL_wakes_r3 : List Cond := [Cond.instanceMethod yX0_badge, Cond.selects RX0 yX0_badge yX0_badge, Cond.code yX0_badge cX0_badge 4 (some .int), Cond.fieldLink RX0 54 "PushNotices" "deliveredSet" "[I", Cond.methodLink RL 99 yL_dozes, Cond.static yL_dozes, Cond.codeWith yL_dozes cL_dozes 4 (some .int) [(0, 6, 7, 23)], Cond.methodLink RL 26 yX0_setDozing, Cond.instanceMethod yX0_setDozing, Cond.selects RX0 yX0_setDozing yX0_setDozing, Cond.code yX0_setDozing cX0_setDozing 3 (some .int), Cond.fieldLink RX0 23 "PushNotices" "dozing" "I", Cond.methodLink RX0 88 yX0_changed, Cond.static yX0_changed, Cond.code yX0_changed cX0_changed 3 (some .int), Cond.methodLink RX0 92 yX0_deliverNow, Cond.instanceMethod yX0_deliverNow, Cond.selects RX0 yX0_deliverNow yX0_deliverNow, Cond.code yX0_deliverNow cX0_deliverNow 5 (some .int), Cond.fieldLink RX0 66 "PushNotices" "deliveryCount" "I", Cond.fieldLink RX0 44 "PushNotices" "isHighNotice" "[Z", Cond.methodLink RX0 181 yX0_openToNormal, Cond.instanceMethod yX0_openToNormal, Cond.selects RX0 yX0_openToNormal yX0_openToNormal]
def wsL_wakes_r4 : List Cond := [Cond.code yX0_openToNormal cX0_openToNormal 3 (some .int), Cond.fieldLink RX0 20 "PushNotices" "online" "I", Cond.methodLink RX0 105 yX0_isInQuietHours, Cond.instanceMethod yX0_isInQuietHours, Cond.selects RX0 yX0_isInQuietHours yX0_isInQuietHours, Cond.code yX0_isInQuietHours cX0_isInQuietHours 4 (some .boolean), Cond.fieldLink RX0 29 "PushNotices" "quietFrom" "[I", Cond.fieldLink RX0 32 "PushNotices" "quietTo" "[I", Cond.methodLink RX0 178 yX0_localTime, Cond.instanceMethod yX0_localTime, Cond.selects RX0 yX0_localTime yX0_localTime, Cond.code yX0_localTime cX0_localTime 2 (some .int), Cond.fieldLink RX0 26 "PushNotices" "zoneOffset" "[I", Cond.methodLink RX0 175 yJ9_floorMod_7cf53, Cond.static yJ9_floorMod_7cf53, Cond.initialized RJ9, Cond.code yJ9_floorMod_7cf53 cJ9_floorMod_7cf53 3 (some .int), Cond.methodLink RX0 184 yX0_openToHigh, Cond.instanceMethod yX0_openToHigh, Cond.selects RX0 yX0_openToHigh yX0_openToHigh, Cond.code yX0_openToHigh cX0_openToHigh 3 (some .int), Cond.methodLink RX0 147 yX0_spentToday, Cond.instanceMethod yX0_spentToday, Cond.selects RX0 yX0_spentToday yX0_spentToday]
def wsL_wakes_r5 : List Cond := [Cond.code yX0_spentToday cX0_spentToday 2 (some .int), Cond.fieldLink RX0 35 "PushNotices" "quotaDay" "[I", Cond.fieldLink RX0 38 "PushNotices" "quotaSpent" "[I", Cond.methodLink RX0 187 yX0_deliver, Cond.instanceMethod yX0_deliver, Cond.selects RX0 yX0_deliver yX0_deliver, Cond.code yX0_deliver cX0_deliver 3 none, Cond.methodLink RX0 135 yJ6_bitCount_0f7a4, Cond.static yJ6_bitCount_0f7a4, Cond.initialized RJ6, Cond.code yJ6_bitCount_0f7a4 cJ6_bitCount_0f7a4 1 (some .int), Cond.constant RJ6 265 (1431655765), Cond.constant RJ6 266 (858993459), Cond.constant RJ6 267 (252645135), Cond.methodLink RX0 190 yX0_spendQuota, Cond.instanceMethod yX0_spendQuota, Cond.selects RX0 yX0_spendQuota yX0_spendQuota, Cond.code yX0_spendQuota cX0_spendQuota 3 none, Cond.methodLink RL 102 yL_quiets, Cond.static yL_quiets, Cond.codeWith yL_quiets cL_quiets 5 (some .int) [(0, 7, 8, 23), (0, 7, 13, 13)], Cond.classLink RL 13 "java/lang/IllegalArgumentException", Cond.constant RL 15 (-2000000002), Cond.methodLink RL 29 yX0_setQuiet]
def wsL_wakes_r6 : List Cond := [Cond.instanceMethod yX0_setQuiet, Cond.selects RX0 yX0_setQuiet yX0_setQuiet, Cond.code yX0_setQuiet cX0_setQuiet 4 (some .int), Cond.methodLink RX0 69 yX0_requireWithin, Cond.static yX0_requireWithin, Cond.code yX0_requireWithin cX0_requireWithin 3 none, Cond.classLink RX0 161 "java/lang/IllegalArgumentException", Cond.initialized "java/lang/IllegalArgumentException", Cond.methodLink RL 95 yL_online, Cond.static yL_online, Cond.codeWith yL_online cL_online 4 (some .int) [(0, 6, 7, 23)], Cond.methodLink RL 19 yX0_setOnline, Cond.instanceMethod yX0_setOnline, Cond.selects RX0 yX0_setOnline yX0_setOnline, Cond.code yX0_setOnline cX0_setOnline 3 (some .int), Cond.methodLink RL 86 yX0_sent, Cond.instanceMethod yX0_sent, Cond.selects RX0 yX0_sent yX0_sent, Cond.code yX0_sent cX0_sent 1 (some .int), Cond.methodLink RL 150 yX0_deliveries, Cond.instanceMethod yX0_deliveries, Cond.selects RX0 yX0_deliveries yX0_deliveries, Cond.code yX0_deliveries cX0_deliveries 1 (some .int), Cond.methodLink RL 117 yL_sends]
def wsL_wakes_r7 : List Cond := [Cond.static yL_sends, Cond.codeWith yL_sends cL_sends 6 (some .int) [(0, 9, 10, 13), (0, 9, 15, 16)], Cond.classLink RL 16 "java/lang/IllegalStateException", Cond.constant RL 18 (-2000000003), Cond.methodLink RL 45 yX0_send, Cond.instanceMethod yX0_send, Cond.selects RX0 yX0_send yX0_send, Cond.code yX0_send cX0_send 5 (some .int), Cond.fieldLink RX0 9 "PushNotices" "devicesOfUser" "[I", Cond.methodLink RX0 109 yX0_requireRoomForNotice, Cond.instanceMethod yX0_requireRoomForNotice, Cond.selects RX0 yX0_requireRoomForNotice yX0_requireRoomForNotice, Cond.code yX0_requireRoomForNotice cX0_requireRoomForNotice 1 none, Cond.classLink RX0 73 "java/lang/IllegalStateException", Cond.initialized "java/lang/IllegalStateException", Cond.methodLink RX0 112 yX0_replaceKey, Cond.instanceMethod yX0_replaceKey, Cond.selects RX0 yX0_replaceKey yX0_replaceKey, Cond.code yX0_replaceKey cX0_replaceKey 5 none, Cond.fieldLink RX0 57 "PushNotices" "lastWithKey" "[I", Cond.methodLink RX0 143 yX0_placeOf, Cond.static yX0_placeOf, Cond.code yX0_placeOf cX0_placeOf 2 (some .int), Cond.methodLink RX0 140 yX0_withdraw]
def wsL_wakes_r8 : List Cond := [Cond.instanceMethod yX0_withdraw, Cond.selects RX0 yX0_withdraw yX0_withdraw, Cond.code yX0_withdraw cX0_withdraw 2 none, Cond.methodLink RX0 116 yX0_sendTo, Cond.instanceMethod yX0_sendTo, Cond.selects RX0 yX0_sendTo yX0_sendTo, Cond.code yX0_sendTo cX0_sendTo 5 (some .int), Cond.fieldLink RX0 16 "PushNotices" "alive" "I", Cond.methodLink RL 130 yL_waits, Cond.static yL_waits, Cond.codeWith yL_waits cL_waits 3 (some .int) [(0, 5, 6, 23)], Cond.methodLink RL 59 yX0_waitsFor, Cond.instanceMethod yX0_waitsFor, Cond.selects RX0 yX0_waitsFor yX0_waitsFor, Cond.code yX0_waitsFor cX0_waitsFor 2 (some .int), Cond.methodLink RX0 124 yX0_requireNotice, Cond.instanceMethod yX0_requireNotice, Cond.selects RX0 yX0_requireNotice yX0_requireNotice, Cond.code yX0_requireNotice cX0_requireNotice 2 none, Cond.methodLink RL 133 yL_delivered, Cond.static yL_delivered, Cond.codeWith yL_delivered cL_delivered 3 (some .int) [(0, 5, 6, 23)], Cond.methodLink RL 62 yX0_deliveredTo, Cond.instanceMethod yX0_deliveredTo]
def wsL_wakes_r9 : List Cond := [Cond.selects RX0 yX0_deliveredTo yX0_deliveredTo, Cond.code yX0_deliveredTo cX0_deliveredTo 2 (some .int), Cond.methodLink RL 153 yL_bits, Cond.static yL_bits, Cond.code yL_bits cL_bits 3 (some .int), Cond.methodLink RL 144 yL_passes, Cond.static yL_passes, Cond.codeWith yL_passes cL_passes 3 (some .int) [(0, 5, 6, 13), (0, 5, 10, 16)], Cond.methodLink RL 77 yX0_pass, Cond.instanceMethod yX0_pass, Cond.selects RX0 yX0_pass yX0_pass, Cond.code yX0_pass cX0_pass 5 (some .int), Cond.constant RX0 150 (100000), Cond.methodLink RX0 156 Lib.Math.min.name, Cond.static Lib.Math.min.name, Cond.initialized "java/lang/Math", Cond.code Lib.Math.min.name Lib.Math.min.code 2 (some .int), Cond.methodLink RX0 153 yX0_nextChance, Cond.instanceMethod yX0_nextChance, Cond.selects RX0 yX0_nextChance yX0_nextChance, Cond.code yX0_nextChance cX0_nextChance 4 (some .int)]
def wsL_wakes : List Cond := .code yL_wakes cL_wakes 8 (some .boolean) :: ((wsL_wakes_r1 ++ (wsL_wakes_r2 ++ (wsL_wakes_r3 ++ (wsL_wakes_r4 ++ (wsL_wakes_r5 ++ (wsL_wakes_r6 ++ (wsL_wakes_r7 ++ (wsL_wakes_r8 ++ wsL_wakes_r9)))))))) ++ wsX00 ++ (vx_atS RX0 170 "java/lang/IndexOutOfBoundsException" ["java/lang/RuntimeException", "java/lang/Exception"]).filter goodWord ++ (vx_atS RX0 165 "java/lang/IllegalArgumentException" ["java/lang/RuntimeException", "java/lang/Exception"]).filter goodWord ++ (vx_atS RX0 77 "java/lang/IllegalStateException" ["java/lang/RuntimeException", "java/lang/Exception"]).filter goodWord)
def wsL_law0_r1 : List Cond := [Cond.classLink RL 8 RX0, Cond.instantiable RX0 19, Cond.initialized RX0, Cond.methodLink RL 156 yX0_init, Cond.instanceMethod yX0_init, Cond.code yX0_init cX0_init 2 none, Cond.methodLink RX0 1 objectInit, Cond.instanceMethod objectInit, Cond.code objectInit ⟨#[0xb1]⟩ 1 none, Cond.arrayClass .int, Cond.fieldLink RX0 9 "PushNotices" "devicesOfUser" "[I", Cond.fieldLink RX0 13 "PushNotices" "devicesOfTopic" "[I", Cond.fieldLink RX0 16 "PushNotices" "alive" "I", Cond.fieldLink RX0 20 "PushNotices" "online" "I", Cond.fieldLink RX0 23 "PushNotices" "dozing" "I", Cond.fieldLink RX0 26 "PushNotices" "zoneOffset" "[I", Cond.fieldLink RX0 29 "PushNotices" "quietFrom" "[I", Cond.fieldLink RX0 32 "PushNotices" "quietTo" "[I", Cond.fieldLink RX0 35 "PushNotices" "quotaDay" "[I", Cond.fieldLink RX0 38 "PushNotices" "quotaSpent" "[I", Cond.fieldLink RX0 41 "PushNotices" "deviceCount" "I", Cond.arrayClass .boolean, Cond.fieldLink RX0 44 "PushNotices" "isHighNotice" "[Z", Cond.fieldLink RX0 48 "PushNotices" "fallsAt" "[I"]
def wsL_law0_r2 : List Cond := [Cond.fieldLink RX0 51 "PushNotices" "waitSet" "[I", Cond.fieldLink RX0 54 "PushNotices" "deliveredSet" "[I", Cond.fieldLink RX0 57 "PushNotices" "lastWithKey" "[I", Cond.fieldLink RX0 60 "PushNotices" "noticeCount" "I", Cond.fieldLink RX0 63 "PushNotices" "minute" "I", Cond.fieldLink RX0 66 "PushNotices" "deliveryCount" "I", Cond.methodLink RL 157 yL_drawn, Cond.static yL_drawn, Cond.initialized RL, Cond.code yL_drawn cL_drawn 2 (some .int), Cond.constant RL 80 (15524329), Cond.constant RL 81 (2147483647), Cond.methodLink RL 161 yL_refuses, Cond.static yL_refuses, Cond.code yL_refuses cL_refuses 8 (some .boolean), Cond.constant RL 15 (-2000000002), Cond.constant RL 25 (-2000000001), Cond.constant RL 18 (-2000000003), Cond.methodLink RL 82 yX0_devices, Cond.instanceMethod yX0_devices, Cond.selects RX0 yX0_devices yX0_devices, Cond.code yX0_devices cX0_devices 1 (some .int), Cond.methodLink RL 86 yX0_sent, Cond.instanceMethod yX0_sent]
def wsL_law0_r3 : List Cond := [Cond.selects RX0 yX0_sent yX0_sent, Cond.code yX0_sent cX0_sent 1 (some .int), Cond.methodLink RL 89 yL_adds, Cond.static yL_adds, Cond.codeWith yL_adds cL_adds 4 (some .int) [(0, 6, 7, 13), (0, 6, 11, 16)], Cond.classLink RL 13 "java/lang/IllegalArgumentException", Cond.classLink RL 16 "java/lang/IllegalStateException", Cond.methodLink RL 7 yX0_addDevice, Cond.instanceMethod yX0_addDevice, Cond.selects RX0 yX0_addDevice yX0_addDevice, Cond.code yX0_addDevice cX0_addDevice 4 (some .int), Cond.classLink RX0 73 "java/lang/IllegalStateException", Cond.initialized "java/lang/IllegalStateException", Cond.methodLink RX0 69 yX0_requireWithin, Cond.static yX0_requireWithin, Cond.code yX0_requireWithin cX0_requireWithin 3 none, Cond.classLink RX0 161 "java/lang/IllegalArgumentException", Cond.initialized "java/lang/IllegalArgumentException", Cond.methodLink RX0 80 yX0_bitOf, Cond.static yX0_bitOf, Cond.code yX0_bitOf cX0_bitOf 1 (some .int), Cond.methodLink RL 95 yL_online, Cond.static yL_online, Cond.codeWith yL_online cL_online 4 (some .int) [(0, 6, 7, 23)]]
def wsL_law0_r4 : List Cond := [Cond.classLink RL 23 "java/lang/IndexOutOfBoundsException", Cond.methodLink RL 19 yX0_setOnline, Cond.instanceMethod yX0_setOnline, Cond.selects RX0 yX0_setOnline yX0_setOnline, Cond.code yX0_setOnline cX0_setOnline 3 (some .int), Cond.methodLink RX0 84 yX0_requireDevice, Cond.instanceMethod yX0_requireDevice, Cond.selects RX0 yX0_requireDevice yX0_requireDevice, Cond.code yX0_requireDevice cX0_requireDevice 2 none, Cond.classLink RX0 166 "java/lang/IndexOutOfBoundsException", Cond.initialized "java/lang/IndexOutOfBoundsException", Cond.methodLink RX0 88 yX0_changed, Cond.static yX0_changed, Cond.code yX0_changed cX0_changed 3 (some .int), Cond.methodLink RX0 92 yX0_deliverNow, Cond.instanceMethod yX0_deliverNow, Cond.selects RX0 yX0_deliverNow yX0_deliverNow, Cond.code yX0_deliverNow cX0_deliverNow 5 (some .int), Cond.methodLink RX0 181 yX0_openToNormal, Cond.instanceMethod yX0_openToNormal, Cond.selects RX0 yX0_openToNormal yX0_openToNormal, Cond.code yX0_openToNormal cX0_openToNormal 3 (some .int), Cond.methodLink RX0 105 yX0_isInQuietHours, Cond.instanceMethod yX0_isInQuietHours]
def wsL_law0_r5 : List Cond := [Cond.selects RX0 yX0_isInQuietHours yX0_isInQuietHours, Cond.code yX0_isInQuietHours cX0_isInQuietHours 4 (some .boolean), Cond.methodLink RX0 178 yX0_localTime, Cond.instanceMethod yX0_localTime, Cond.selects RX0 yX0_localTime yX0_localTime, Cond.code yX0_localTime cX0_localTime 2 (some .int), Cond.methodLink RX0 175 yJ9_floorMod_7cf53, Cond.static yJ9_floorMod_7cf53, Cond.initialized RJ9, Cond.code yJ9_floorMod_7cf53 cJ9_floorMod_7cf53 3 (some .int), Cond.methodLink RX0 132 yX0_waitsNow, Cond.instanceMethod yX0_waitsNow, Cond.selects RX0 yX0_waitsNow yX0_waitsNow, Cond.code yX0_waitsNow cX0_waitsNow 2 (some .int), Cond.methodLink RX0 127 yX0_isStanding, Cond.instanceMethod yX0_isStanding, Cond.selects RX0 yX0_isStanding yX0_isStanding, Cond.code yX0_isStanding cX0_isStanding 2 (some .boolean), Cond.methodLink RX0 184 yX0_openToHigh, Cond.instanceMethod yX0_openToHigh, Cond.selects RX0 yX0_openToHigh yX0_openToHigh, Cond.code yX0_openToHigh cX0_openToHigh 3 (some .int), Cond.methodLink RX0 96 yX0_has, Cond.static yX0_has]
def wsL_law0_r6 : List Cond := [Cond.code yX0_has cX0_has 2 (some .boolean), Cond.methodLink RX0 147 yX0_spentToday, Cond.instanceMethod yX0_spentToday, Cond.selects RX0 yX0_spentToday yX0_spentToday, Cond.code yX0_spentToday cX0_spentToday 2 (some .int), Cond.methodLink RX0 187 yX0_deliver, Cond.instanceMethod yX0_deliver, Cond.selects RX0 yX0_deliver yX0_deliver, Cond.code yX0_deliver cX0_deliver 3 none, Cond.methodLink RX0 135 yJ6_bitCount_0f7a4, Cond.static yJ6_bitCount_0f7a4, Cond.initialized RJ6, Cond.code yJ6_bitCount_0f7a4 cJ6_bitCount_0f7a4 1 (some .int), Cond.constant RJ6 265 (1431655765), Cond.constant RJ6 266 (858993459), Cond.constant RJ6 267 (252645135), Cond.methodLink RX0 190 yX0_spendQuota, Cond.instanceMethod yX0_spendQuota, Cond.selects RX0 yX0_spendQuota yX0_spendQuota, Cond.code yX0_spendQuota cX0_spendQuota 3 none, Cond.methodLink RL 99 yL_dozes, Cond.static yL_dozes, Cond.codeWith yL_dozes cL_dozes 4 (some .int) [(0, 6, 7, 23)], Cond.methodLink RL 26 yX0_setDozing]
def wsL_law0_r7 : List Cond := [Cond.instanceMethod yX0_setDozing, Cond.selects RX0 yX0_setDozing yX0_setDozing, Cond.code yX0_setDozing cX0_setDozing 3 (some .int), Cond.methodLink RL 102 yL_quiets, Cond.static yL_quiets, Cond.codeWith yL_quiets cL_quiets 5 (some .int) [(0, 7, 8, 23), (0, 7, 13, 13)], Cond.methodLink RL 29 yX0_setQuiet, Cond.instanceMethod yX0_setQuiet, Cond.selects RX0 yX0_setQuiet yX0_setQuiet, Cond.code yX0_setQuiet cX0_setQuiet 4 (some .int), Cond.methodLink RL 106 yL_joins, Cond.static yL_joins, Cond.codeWith yL_joins cL_joins 5 (some .int) [(0, 15, 16, 23), (0, 15, 21, 13)], Cond.methodLink RL 33 yX0_join, Cond.instanceMethod yX0_join, Cond.selects RX0 yX0_join yX0_join, Cond.code yX0_join cX0_join 5 (some .boolean), Cond.methodLink RL 110 yL_kills, Cond.static yL_kills, Cond.codeWith yL_kills cL_kills 3 (some .int) [(0, 5, 6, 23), (0, 5, 10, 16)], Cond.methodLink RL 37 yX0_kill, Cond.instanceMethod yX0_kill, Cond.selects RX0 yX0_kill yX0_kill, Cond.code yX0_kill cX0_kill 4 (some .int)]
def wsL_law0_r8 : List Cond := [Cond.methodLink RX0 102 yX0_countWaiting, Cond.instanceMethod yX0_countWaiting, Cond.selects RX0 yX0_countWaiting yX0_countWaiting, Cond.code yX0_countWaiting cX0_countWaiting 4 (some .int), Cond.methodLink RL 114 yL_quiet, Cond.static yL_quiet, Cond.codeWith yL_quiet cL_quiet 3 (some .int) [(0, 13, 14, 23)], Cond.methodLink RL 41 yX0_isQuiet, Cond.instanceMethod yX0_isQuiet, Cond.selects RX0 yX0_isQuiet yX0_isQuiet, Cond.code yX0_isQuiet cX0_isQuiet 2 (some .boolean), Cond.methodLink RL 117 yL_sends, Cond.static yL_sends, Cond.codeWith yL_sends cL_sends 6 (some .int) [(0, 9, 10, 13), (0, 9, 15, 16)], Cond.methodLink RL 45 yX0_send, Cond.instanceMethod yX0_send, Cond.selects RX0 yX0_send yX0_send, Cond.code yX0_send cX0_send 5 (some .int), Cond.methodLink RX0 109 yX0_requireRoomForNotice, Cond.instanceMethod yX0_requireRoomForNotice, Cond.selects RX0 yX0_requireRoomForNotice yX0_requireRoomForNotice, Cond.code yX0_requireRoomForNotice cX0_requireRoomForNotice 1 none, Cond.methodLink RX0 112 yX0_replaceKey, Cond.instanceMethod yX0_replaceKey]
def wsL_law0_r9 : List Cond := [Cond.selects RX0 yX0_replaceKey yX0_replaceKey, Cond.code yX0_replaceKey cX0_replaceKey 5 none, Cond.methodLink RX0 143 yX0_placeOf, Cond.static yX0_placeOf, Cond.code yX0_placeOf cX0_placeOf 2 (some .int), Cond.methodLink RX0 140 yX0_withdraw, Cond.instanceMethod yX0_withdraw, Cond.selects RX0 yX0_withdraw yX0_withdraw, Cond.code yX0_withdraw cX0_withdraw 2 none, Cond.methodLink RX0 116 yX0_sendTo, Cond.instanceMethod yX0_sendTo, Cond.selects RX0 yX0_sendTo yX0_sendTo, Cond.code yX0_sendTo cX0_sendTo 5 (some .int), Cond.methodLink RL 121 yL_sendsBy, Cond.static yL_sendsBy, Cond.codeWith yL_sendsBy cL_sendsBy 7 (some .int) [(0, 11, 12, 13), (0, 11, 17, 16)], Cond.methodLink RL 49 yX0_sendBy, Cond.instanceMethod yX0_sendBy, Cond.selects RX0 yX0_sendBy yX0_sendBy, Cond.code yX0_sendBy cX0_sendBy 6 (some .int), Cond.methodLink RX0 120 yX0_devicesThatFulfil, Cond.instanceMethod yX0_devicesThatFulfil, Cond.selects RX0 yX0_devicesThatFulfil yX0_devicesThatFulfil, Cond.code yX0_devicesThatFulfil cX0_devicesThatFulfil 4 (some .int)]
def wsL_law0_r10 : List Cond := [Cond.methodLink RL 125 yL_reads, Cond.static yL_reads, Cond.codeWith yL_reads cL_reads 4 (some .int) [(0, 6, 7, 23), (0, 6, 11, 16)], Cond.methodLink RL 53 yX0_read, Cond.instanceMethod yX0_read, Cond.selects RX0 yX0_read yX0_read, Cond.code yX0_read cX0_read 4 (some .int), Cond.methodLink RX0 124 yX0_requireNotice, Cond.instanceMethod yX0_requireNotice, Cond.selects RX0 yX0_requireNotice yX0_requireNotice, Cond.code yX0_requireNotice cX0_requireNotice 2 none, Cond.methodLink RL 128 yL_stands, Cond.static yL_stands, Cond.codeWith yL_stands cL_stands 3 (some .int) [(0, 13, 14, 23)], Cond.methodLink RL 56 yX0_stands, Cond.instanceMethod yX0_stands, Cond.selects RX0 yX0_stands yX0_stands, Cond.code yX0_stands cX0_stands 2 (some .boolean), Cond.methodLink RL 130 yL_waits, Cond.static yL_waits, Cond.codeWith yL_waits cL_waits 3 (some .int) [(0, 5, 6, 23)], Cond.methodLink RL 59 yX0_waitsFor, Cond.instanceMethod yX0_waitsFor, Cond.selects RX0 yX0_waitsFor yX0_waitsFor]
def wsL_law0_r11 : List Cond := [Cond.code yX0_waitsFor cX0_waitsFor 2 (some .int), Cond.methodLink RL 133 yL_delivered, Cond.static yL_delivered, Cond.codeWith yL_delivered cL_delivered 3 (some .int) [(0, 5, 6, 23)], Cond.methodLink RL 62 yX0_deliveredTo, Cond.instanceMethod yX0_deliveredTo, Cond.selects RX0 yX0_deliveredTo yX0_deliveredTo, Cond.code yX0_deliveredTo cX0_deliveredTo 2 (some .int), Cond.methodLink RL 136 yL_standing, Cond.static yL_standing, Cond.codeWith yL_standing cL_standing 4 (some .int) [(0, 6, 7, 13)], Cond.methodLink RL 65 yX0_standing, Cond.instanceMethod yX0_standing, Cond.selects RX0 yX0_standing yX0_standing, Cond.code yX0_standing cX0_standing 4 (some .int), Cond.methodLink RL 138 yL_badge, Cond.static yL_badge, Cond.codeWith yL_badge cL_badge 3 (some .int) [(0, 5, 6, 23)], Cond.methodLink RL 68 yX0_badge, Cond.instanceMethod yX0_badge, Cond.selects RX0 yX0_badge yX0_badge, Cond.code yX0_badge cX0_badge 4 (some .int), Cond.methodLink RL 140 yL_waiting, Cond.static yL_waiting]
def wsL_law0_r12 : List Cond := [Cond.codeWith yL_waiting cL_waiting 3 (some .int) [(0, 5, 6, 23)], Cond.methodLink RL 71 yX0_waiting, Cond.instanceMethod yX0_waiting, Cond.selects RX0 yX0_waiting yX0_waiting, Cond.code yX0_waiting cX0_waiting 2 (some .int), Cond.methodLink RL 142 yL_quota, Cond.static yL_quota, Cond.codeWith yL_quota cL_quota 3 (some .int) [(0, 5, 6, 23)], Cond.methodLink RL 74 yX0_quota, Cond.instanceMethod yX0_quota, Cond.selects RX0 yX0_quota yX0_quota, Cond.code yX0_quota cX0_quota 2 (some .int), Cond.methodLink RL 144 yL_passes, Cond.static yL_passes, Cond.codeWith yL_passes cL_passes 3 (some .int) [(0, 5, 6, 13), (0, 5, 10, 16)], Cond.methodLink RL 77 yX0_pass, Cond.instanceMethod yX0_pass, Cond.selects RX0 yX0_pass yX0_pass, Cond.code yX0_pass cX0_pass 5 (some .int), Cond.constant RX0 150 (100000), Cond.methodLink RX0 156 Lib.Math.min.name, Cond.static Lib.Math.min.name, Cond.initialized "java/lang/Math", Cond.code Lib.Math.min.name Lib.Math.min.code 2 (some .int)]
def wsL_law0_r13 : List Cond := [Cond.methodLink RX0 153 yX0_nextChance, Cond.instanceMethod yX0_nextChance, Cond.selects RX0 yX0_nextChance yX0_nextChance, Cond.code yX0_nextChance cX0_nextChance 4 (some .int), Cond.methodLink RL 165 yL_act, Cond.static yL_act, Cond.code yL_act cL_act 9 (some .int), Cond.methodLink RL 168 yL_alike, Cond.static yL_alike, Cond.code yL_alike cL_alike 4 (some .boolean), Cond.methodLink RL 147 yX0_clock, Cond.instanceMethod yX0_clock, Cond.selects RX0 yX0_clock yX0_clock, Cond.code yX0_clock cX0_clock 1 (some .int), Cond.methodLink RL 150 yX0_deliveries, Cond.instanceMethod yX0_deliveries, Cond.selects RX0 yX0_deliveries yX0_deliveries, Cond.code yX0_deliveries cX0_deliveries 1 (some .int), Cond.methodLink RL 172 yL_holds, Cond.static yL_holds, Cond.code yL_holds cL_holds 9 (some .boolean), Cond.methodLink RL 153 yL_bits, Cond.static yL_bits, Cond.code yL_bits cL_bits 3 (some .int)]
def wsL_law0_r14 : List Cond := [Cond.methodLink RL 176 yL_wakes, Cond.static yL_wakes, Cond.code yL_wakes cL_wakes 8 (some .boolean)]
def wsL_law0 : List Cond := (wsL_law0_r1 ++ (wsL_law0_r2 ++ (wsL_law0_r3 ++ (wsL_law0_r4 ++ (wsL_law0_r5 ++ (wsL_law0_r6 ++ (wsL_law0_r7 ++ (wsL_law0_r8 ++ (wsL_law0_r9 ++ (wsL_law0_r10 ++ (wsL_law0_r11 ++ (wsL_law0_r12 ++ (wsL_law0_r13 ++ wsL_law0_r14))))))))))))) ++ wsX00 ++ ([] : List Cond)
end
section
set_option maxRecDepth 100000 in
set_option maxHeartbeats 4000000 in
theorem lwc_1 : ∀ w ∈ wsL_law0_r1, w ∈ lw_tbl := fun w h => (goodIn_p wsL_law0_r1 [34, 37] rfl (by decide +kernel) w h).1
set_option maxRecDepth 100000 in
set_option maxHeartbeats 4000000 in
theorem lwc_2 : ∀ w ∈ wsL_law0_r2, w ∈ lw_tbl := fun w h => (goodIn_p wsL_law0_r2 [100, 105, 109] rfl (by decide +kernel) w h).1
set_option maxRecDepth 100000 in
set_option maxHeartbeats 4000000 in
theorem lwc_3 : ∀ w ∈ wsL_law0_r3, w ∈ lw_tbl := fun w h => (goodIn_p wsL_law0_r3 [113, 122, 125, 212] rfl (by decide +kernel) w h).1
set_option maxRecDepth 100000 in
set_option maxHeartbeats 4000000 in
theorem lwc_4 : ∀ w ∈ wsL_law0_r4, w ∈ lw_tbl := fun w h => (goodIn_p wsL_law0_r4 [222, 226, 245, 249, 253] rfl (by decide +kernel) w h).1
set_option maxRecDepth 100000 in
set_option maxHeartbeats 4000000 in
theorem lwc_5 : ∀ w ∈ wsL_law0_r5, w ∈ lw_tbl := fun w h => (goodIn_p wsL_law0_r5 [257, 261, 264, 268, 272, 276] rfl (by decide +kernel) w h).1
set_option maxRecDepth 100000 in
set_option maxHeartbeats 4000000 in
theorem lwc_6 : ∀ w ∈ wsL_law0_r6, w ∈ lw_tbl := fun w h => (goodIn_p wsL_law0_r6 [279, 283, 287, 290, 297] rfl (by decide +kernel) w h).1
set_option maxRecDepth 100000 in
set_option maxHeartbeats 4000000 in
theorem lwc_7 : ∀ w ∈ wsL_law0_r7, w ∈ lw_tbl := fun w h => (goodIn_p wsL_law0_r7 [305, 312, 319, 326] rfl (by decide +kernel) w h).1
end
section
set_option maxRecDepth 100000 in
set_option maxHeartbeats 4000000 in
theorem lwc_8 : ∀ w ∈ wsL_law0_r8, w ∈ lw_tbl := fun w h => (goodIn_p wsL_law0_r8 [331, 338, 345, 349] rfl (by decide +kernel) w h).1
set_option maxRecDepth 100000 in
set_option maxHeartbeats 4000000 in
theorem lwc_9 : ∀ w ∈ wsL_law0_r9, w ∈ lw_tbl := fun w h => (goodIn_p wsL_law0_r9 [354, 357, 361, 365, 372, 376] rfl (by decide +kernel) w h).1
set_option maxRecDepth 100000 in
set_option maxHeartbeats 4000000 in
theorem lwc_10 : ∀ w ∈ wsL_law0_r10, w ∈ lw_tbl := fun w h => (goodIn_p wsL_law0_r10 [383, 387, 396] rfl (by decide +kernel) w h).1
set_option maxRecDepth 100000 in
set_option maxHeartbeats 4000000 in
theorem lwc_11 : ∀ w ∈ wsL_law0_r11, w ∈ lw_tbl := fun w h => (goodIn_p wsL_law0_r11 [403, 410, 417, 424] rfl (by decide +kernel) w h).1
set_option maxRecDepth 100000 in
set_option maxHeartbeats 4000000 in
theorem lwc_12 : ∀ w ∈ wsL_law0_r12, w ∈ lw_tbl := fun w h => (goodIn_p wsL_law0_r12 [431, 438, 445, 454] rfl (by decide +kernel) w h).1
set_option maxRecDepth 100000 in
set_option maxHeartbeats 4000000 in
theorem lwc_13 : ∀ w ∈ wsL_law0_r13, w ∈ lw_tbl := fun w h => (goodIn_p wsL_law0_r13 [451, 457, 460, 464, 468, 471, 474] rfl (by decide +kernel) w h).1
set_option maxRecDepth 100000 in
set_option maxHeartbeats 4000000 in
theorem lwc_14 : ∀ w ∈ wsL_law0_r14, w ∈ lw_tbl := fun w h => (goodIn_p wsL_law0_r14 [477] rfl (by decide +kernel) w h).1
set_option maxRecDepth 20000 in
theorem lwc_X0 : ∀ w ∈ wsX00, w ∈ lw_tbl := by decide +kernel
end
section
def wsL_law : List Cond := wsL_law0 ++ (vx_atS RX0 77 "java/lang/IllegalStateException" ["java/lang/RuntimeException", "java/lang/Exception"]).filter goodWord ++ (vx_atS RX0 165 "java/lang/IllegalArgumentException" ["java/lang/RuntimeException", "java/lang/Exception"]).filter goodWord ++ (vx_atS RX0 170 "java/lang/IndexOutOfBoundsException" ["java/lang/RuntimeException", "java/lang/Exception"]).filter goodWord
set_option maxRecDepth 20000 in
theorem wsL_law_in0 : ∀ w ∈ wsL_law0, w ∈ lw_tbl := fun w h => (List.mem_append.mp h).elim (fun h => (List.mem_append.mp h).elim (fun h => (List.mem_append.mp h).elim (lwc_1 w) (fun h => (List.mem_append.mp h).elim (lwc_2 w) (fun h => (List.mem_append.mp h).elim (lwc_3 w) (fun h => (List.mem_append.mp h).elim (lwc_4 w) (fun h => (List.mem_append.mp h).elim (lwc_5 w) (fun h => (List.mem_append.mp h).elim (lwc_6 w) (fun h => (List.mem_append.mp h).elim (lwc_7 w) (fun h => (List.mem_append.mp h).elim (lwc_8 w) (fun h => (List.mem_append.mp h).elim (lwc_9 w) (fun h => (List.mem_append.mp h).elim (lwc_10 w) (fun h => (List.mem_append.mp h).elim (lwc_11 w) (fun h => (List.mem_append.mp h).elim (lwc_12 w) (fun h => (List.mem_append.mp h).elim (lwc_13 w) (lwc_14 w)))))))))))))) (lwc_X0 w)) (fun h => nomatch h)
theorem wsL_law_x0 : ∀ w ∈ (vx_atS RX0 77 "java/lang/IllegalStateException" ["java/lang/RuntimeException", "java/lang/Exception"]).filter goodWord, w ∈ lw_tbl := by decide +kernel
theorem wsL_law_x1 : ∀ w ∈ (vx_atS RX0 165 "java/lang/IllegalArgumentException" ["java/lang/RuntimeException", "java/lang/Exception"]).filter goodWord, w ∈ lw_tbl := by decide +kernel
theorem wsL_law_x2 : ∀ w ∈ (vx_atS RX0 170 "java/lang/IndexOutOfBoundsException" ["java/lang/RuntimeException", "java/lang/Exception"]).filter goodWord, w ∈ lw_tbl := by decide +kernel
theorem wsL_law_in : ∀ w ∈ wsL_law, w ∈ lw_tbl := fun w h => (List.mem_append.mp h).elim (fun h => (List.mem_append.mp h).elim (fun h => (List.mem_append.mp h).elim (fun h => wsL_law_in0 w h) (fun h => wsL_law_x0 w h)) (fun h => wsL_law_x1 w h)) (fun h => wsL_law_x2 w h)
theorem inlX0 : ∀ w ∈ wsX00, w ∈ wsL_law := fun _ h => List.mem_append_left _ (List.mem_append_left _ (List.mem_append_left _ (List.mem_append_left _ (List.mem_append_right _ h))))
theorem inX0 : ∀ w ∈ wsX00, w ∈ lw_tbl := fun w h => wsL_law_in w (inlX0 w h)
theorem inX1 : ∀ w ∈ wsX10, w ∈ lw_tbl := by decide +kernel
theorem inJ6 : ∀ w ∈ wsJ60, w ∈ lw_tbl := by decide +kernel
theorem inJ9 : ∀ w ∈ wsJ90, w ∈ lw_tbl := by decide +kernel
theorem inJ0 : ∀ w ∈ wsJ00, w ∈ lw_tbl := by decide +kernel
end
section
theorem dX0_init_0 : decode cX0_init 0 = .ok (.aload_n 0, 1) := by decide +kernel
theorem dX0_init_1 : decode cX0_init 1 = .ok (.invokespecial 1, 3) := by decide +kernel
theorem dX0_init_4 : decode cX0_init 4 = .ok (.aload_n 0, 1) := by decide +kernel
theorem dX0_init_5 : decode cX0_init 5 = .ok (.bipush 8, 2) := by decide +kernel
theorem dX0_init_7 : decode cX0_init 7 = .ok (.newarray .int, 2) := by decide +kernel
theorem dX0_init_9 : decode cX0_init 9 = .ok (.putfield 9, 3) := by decide +kernel
theorem dX0_init_12 : decode cX0_init 12 = .ok (.aload_n 0, 1) := by decide +kernel
theorem dX0_init_13 : decode cX0_init 13 = .ok (.bipush 6, 2) := by decide +kernel
theorem dX0_init_15 : decode cX0_init 15 = .ok (.newarray .int, 2) := by decide +kernel
theorem dX0_init_17 : decode cX0_init 17 = .ok (.putfield 13, 3) := by decide +kernel
theorem dX0_init_20 : decode cX0_init 20 = .ok (.aload_n 0, 1) := by decide +kernel
theorem dX0_init_21 : decode cX0_init 21 = .ok (.iconst 0, 1) := by decide +kernel
theorem dX0_init_22 : decode cX0_init 22 = .ok (.putfield 16, 3) := by decide +kernel
theorem dX0_init_25 : decode cX0_init 25 = .ok (.aload_n 0, 1) := by decide +kernel
theorem dX0_init_26 : decode cX0_init 26 = .ok (.iconst 0, 1) := by decide +kernel
theorem dX0_init_27 : decode cX0_init 27 = .ok (.putfield 20, 3) := by decide +kernel
theorem dX0_init_30 : decode cX0_init 30 = .ok (.aload_n 0, 1) := by decide +kernel
theorem dX0_init_31 : decode cX0_init 31 = .ok (.iconst 0, 1) := by decide +kernel
theorem dX0_init_32 : decode cX0_init 32 = .ok (.putfield 23, 3) := by decide +kernel
theorem dX0_init_35 : decode cX0_init 35 = .ok (.aload_n 0, 1) := by decide +kernel
theorem dX0_init_36 : decode cX0_init 36 = .ok (.bipush 16, 2) := by decide +kernel
theorem dX0_init_38 : decode cX0_init 38 = .ok (.newarray .int, 2) := by decide +kernel
theorem dX0_init_40 : decode cX0_init 40 = .ok (.putfield 26, 3) := by decide +kernel
theorem dX0_init_43 : decode cX0_init 43 = .ok (.aload_n 0, 1) := by decide +kernel
theorem dX0_init_44 : decode cX0_init 44 = .ok (.bipush 16, 2) := by decide +kernel
theorem dX0_init_46 : decode cX0_init 46 = .ok (.newarray .int, 2) := by decide +kernel
theorem dX0_init_48 : decode cX0_init 48 = .ok (.putfield 29, 3) := by decide +kernel
theorem dX0_init_51 : decode cX0_init 51 = .ok (.aload_n 0, 1) := by decide +kernel
theorem dX0_init_52 : decode cX0_init 52 = .ok (.bipush 16, 2) := by decide +kernel
theorem dX0_init_54 : decode cX0_init 54 = .ok (.newarray .int, 2) := by decide +kernel
theorem dX0_init_56 : decode cX0_init 56 = .ok (.putfield 32, 3) := by decide +kernel
theorem dX0_init_59 : decode cX0_init 59 = .ok (.aload_n 0, 1) := by decide +kernel
theorem dX0_init_60 : decode cX0_init 60 = .ok (.bipush 16, 2) := by decide +kernel
theorem dX0_init_62 : decode cX0_init 62 = .ok (.newarray .int, 2) := by decide +kernel
theorem dX0_init_64 : decode cX0_init 64 = .ok (.putfield 35, 3) := by decide +kernel
theorem dX0_init_67 : decode cX0_init 67 = .ok (.aload_n 0, 1) := by decide +kernel
theorem dX0_init_68 : decode cX0_init 68 = .ok (.bipush 16, 2) := by decide +kernel
theorem dX0_init_70 : decode cX0_init 70 = .ok (.newarray .int, 2) := by decide +kernel
theorem dX0_init_72 : decode cX0_init 72 = .ok (.putfield 38, 3) := by decide +kernel
theorem dX0_init_75 : decode cX0_init 75 = .ok (.aload_n 0, 1) := by decide +kernel
theorem dX0_init_76 : decode cX0_init 76 = .ok (.iconst 0, 1) := by decide +kernel
theorem dX0_init_77 : decode cX0_init 77 = .ok (.putfield 41, 3) := by decide +kernel
theorem dX0_init_80 : decode cX0_init 80 = .ok (.aload_n 0, 1) := by decide +kernel
theorem dX0_init_81 : decode cX0_init 81 = .ok (.bipush 120, 2) := by decide +kernel
theorem dX0_init_83 : decode cX0_init 83 = .ok (.newarray .boolean, 2) := by decide +kernel
theorem dX0_init_85 : decode cX0_init 85 = .ok (.putfield 44, 3) := by decide +kernel
theorem dX0_init_88 : decode cX0_init 88 = .ok (.aload_n 0, 1) := by decide +kernel
theorem dX0_init_89 : decode cX0_init 89 = .ok (.bipush 120, 2) := by decide +kernel
theorem dX0_init_91 : decode cX0_init 91 = .ok (.newarray .int, 2) := by decide +kernel
theorem dX0_init_93 : decode cX0_init 93 = .ok (.putfield 48, 3) := by decide +kernel
theorem dX0_init_96 : decode cX0_init 96 = .ok (.aload_n 0, 1) := by decide +kernel
theorem dX0_init_97 : decode cX0_init 97 = .ok (.bipush 120, 2) := by decide +kernel
theorem dX0_init_99 : decode cX0_init 99 = .ok (.newarray .int, 2) := by decide +kernel
theorem dX0_init_101 : decode cX0_init 101 = .ok (.putfield 51, 3) := by decide +kernel
theorem dX0_init_104 : decode cX0_init 104 = .ok (.aload_n 0, 1) := by decide +kernel
theorem dX0_init_105 : decode cX0_init 105 = .ok (.bipush 120, 2) := by decide +kernel
theorem dX0_init_107 : decode cX0_init 107 = .ok (.newarray .int, 2) := by decide +kernel
theorem dX0_init_109 : decode cX0_init 109 = .ok (.putfield 54, 3) := by decide +kernel
theorem dX0_init_112 : decode cX0_init 112 = .ok (.aload_n 0, 1) := by decide +kernel
theorem dX0_init_113 : decode cX0_init 113 = .ok (.bipush 80, 2) := by decide +kernel
theorem dX0_init_115 : decode cX0_init 115 = .ok (.newarray .int, 2) := by decide +kernel
theorem dX0_init_117 : decode cX0_init 117 = .ok (.putfield 57, 3) := by decide +kernel
theorem dX0_init_120 : decode cX0_init 120 = .ok (.aload_n 0, 1) := by decide +kernel
theorem dX0_init_121 : decode cX0_init 121 = .ok (.iconst 0, 1) := by decide +kernel
theorem dX0_init_122 : decode cX0_init 122 = .ok (.putfield 60, 3) := by decide +kernel
theorem dX0_init_125 : decode cX0_init 125 = .ok (.aload_n 0, 1) := by decide +kernel
theorem dX0_init_126 : decode cX0_init 126 = .ok (.iconst 0, 1) := by decide +kernel
theorem dX0_init_127 : decode cX0_init 127 = .ok (.putfield 63, 3) := by decide +kernel
theorem dX0_init_130 : decode cX0_init 130 = .ok (.aload_n 0, 1) := by decide +kernel
theorem dX0_init_131 : decode cX0_init 131 = .ok (.iconst 0, 1) := by decide +kernel
theorem dX0_init_132 : decode cX0_init 132 = .ok (.putfield 66, 3) := by decide +kernel
theorem dX0_init_135 : decode cX0_init 135 = .ok (.iconst 0, 1) := by decide +kernel
theorem dX0_init_136 : decode cX0_init 136 = .ok (.istore_n 1, 1) := by decide +kernel
theorem dX0_init_137 : decode cX0_init 137 = .ok (.iload_n 1, 1) := by decide +kernel
theorem dX0_init_138 : decode cX0_init 138 = .ok (.bipush 80, 2) := by decide +kernel
theorem dX0_init_140 : decode cX0_init 140 = .ok (.if_icmp .ge 16, 3) := by decide +kernel
theorem dX0_init_143 : decode cX0_init 143 = .ok (.aload_n 0, 1) := by decide +kernel
theorem dX0_init_144 : decode cX0_init 144 = .ok (.getfield 57, 3) := by decide +kernel
theorem dX0_init_147 : decode cX0_init 147 = .ok (.iload_n 1, 1) := by decide +kernel
theorem dX0_init_148 : decode cX0_init 148 = .ok (.iconst (-1), 1) := by decide +kernel
theorem dX0_init_149 : decode cX0_init 149 = .ok (.iastore, 1) := by decide +kernel
theorem dX0_init_150 : decode cX0_init 150 = .ok (.iinc 1 1, 3) := by decide +kernel
theorem dX0_init_153 : decode cX0_init 153 = .ok (.goto (-16), 3) := by decide +kernel
theorem dX0_init_156 : decode cX0_init 156 = .ok (.return_, 1) := by decide +kernel
set_option maxRecDepth 20000 in
theorem ggX0_addDevice_X0_requireWithin : GoodIn wsX0_addDevice wsX0_requireWithin := goodIn_ca (goodIn_r _ [11, 12, 13] (by decide +kernel) (by decide +kernel)) (goodIn_sub (fun _ h => List.mem_cons_of_mem _ (List.mem_append_right _ h)) (by decide +kernel))
set_option maxRecDepth 20000 in
theorem gX0_addDevice_X0_requireWithin : GoodIn wsX0_addDevice (va_wsS RX0 69 yX0_requireWithin wsX0_requireWithin) := goodIn_app (goodIn_of _ (by decide +kernel)) ggX0_addDevice_X0_requireWithin
set_option maxRecDepth 20000 in
theorem ggX0_addDevice_X0_bitOf : GoodIn wsX0_addDevice wsX0_bitOf := goodIn_r _ [16] (by decide +kernel) (by decide +kernel)
set_option maxRecDepth 20000 in
theorem gX0_addDevice_X0_bitOf : GoodIn wsX0_addDevice (va_wsS RX0 80 yX0_bitOf wsX0_bitOf) := goodIn_app (goodIn_of _ (by decide +kernel)) ggX0_addDevice_X0_bitOf
theorem dX0_addDevice_0 : decode cX0_addDevice 0 = .ok (.iload_n 1, 1) := by decide +kernel
theorem dX0_addDevice_1 : decode cX0_addDevice 1 = .ok (.iconst 0, 1) := by decide +kernel
theorem dX0_addDevice_2 : decode cX0_addDevice 2 = .ok (.bipush 7, 2) := by decide +kernel
theorem dX0_addDevice_4 : decode cX0_addDevice 4 = .ok (.invokestatic 69, 3) := by decide +kernel
theorem dX0_addDevice_7 : decode cX0_addDevice 7 = .ok (.iload_n 2, 1) := by decide +kernel
theorem dX0_addDevice_8 : decode cX0_addDevice 8 = .ok (.sipush (-720), 3) := by decide +kernel
theorem dX0_addDevice_11 : decode cX0_addDevice 11 = .ok (.sipush 840, 3) := by decide +kernel
theorem dX0_addDevice_14 : decode cX0_addDevice 14 = .ok (.invokestatic 69, 3) := by decide +kernel
theorem dX0_addDevice_17 : decode cX0_addDevice 17 = .ok (.aload_n 0, 1) := by decide +kernel
theorem dX0_addDevice_18 : decode cX0_addDevice 18 = .ok (.getfield 41, 3) := by decide +kernel
theorem dX0_addDevice_21 : decode cX0_addDevice 21 = .ok (.bipush 16, 2) := by decide +kernel
theorem dX0_addDevice_23 : decode cX0_addDevice 23 = .ok (.if_icmp .lt 13, 3) := by decide +kernel
theorem dX0_addDevice_26 : decode cX0_addDevice 26 = .ok (.new 73, 3) := by decide +kernel
theorem dX0_addDevice_29 : decode cX0_addDevice 29 = .ok (.dup, 1) := by decide +kernel
theorem dX0_addDevice_30 : decode cX0_addDevice 30 = .ok (.ldc 75, 2) := by decide +kernel
theorem dX0_addDevice_32 : decode cX0_addDevice 32 = .ok (.invokespecial 77, 3) := by decide +kernel
theorem dX0_addDevice_35 : decode cX0_addDevice 35 = .ok (.athrow, 1) := by decide +kernel
theorem dX0_addDevice_36 : decode cX0_addDevice 36 = .ok (.aload_n 0, 1) := by decide +kernel
theorem dX0_addDevice_37 : decode cX0_addDevice 37 = .ok (.getfield 41, 3) := by decide +kernel
theorem dX0_addDevice_40 : decode cX0_addDevice 40 = .ok (.istore_n 3, 1) := by decide +kernel
theorem dX0_addDevice_41 : decode cX0_addDevice 41 = .ok (.aload_n 0, 1) := by decide +kernel
theorem dX0_addDevice_42 : decode cX0_addDevice 42 = .ok (.dup, 1) := by decide +kernel
theorem dX0_addDevice_43 : decode cX0_addDevice 43 = .ok (.getfield 41, 3) := by decide +kernel
theorem dX0_addDevice_46 : decode cX0_addDevice 46 = .ok (.iconst 1, 1) := by decide +kernel
theorem dX0_addDevice_47 : decode cX0_addDevice 47 = .ok (.iadd, 1) := by decide +kernel
theorem dX0_addDevice_48 : decode cX0_addDevice 48 = .ok (.putfield 41, 3) := by decide +kernel
theorem dX0_addDevice_51 : decode cX0_addDevice 51 = .ok (.aload_n 0, 1) := by decide +kernel
theorem dX0_addDevice_52 : decode cX0_addDevice 52 = .ok (.getfield 26, 3) := by decide +kernel
theorem dX0_addDevice_55 : decode cX0_addDevice 55 = .ok (.iload_n 3, 1) := by decide +kernel
theorem dX0_addDevice_56 : decode cX0_addDevice 56 = .ok (.iload_n 2, 1) := by decide +kernel
theorem dX0_addDevice_57 : decode cX0_addDevice 57 = .ok (.iastore, 1) := by decide +kernel
theorem dX0_addDevice_58 : decode cX0_addDevice 58 = .ok (.aload_n 0, 1) := by decide +kernel
theorem dX0_addDevice_59 : decode cX0_addDevice 59 = .ok (.getfield 9, 3) := by decide +kernel
theorem dX0_addDevice_62 : decode cX0_addDevice 62 = .ok (.iload_n 1, 1) := by decide +kernel
theorem dX0_addDevice_63 : decode cX0_addDevice 63 = .ok (.dup2, 1) := by decide +kernel
theorem dX0_addDevice_64 : decode cX0_addDevice 64 = .ok (.iaload, 1) := by decide +kernel
theorem dX0_addDevice_65 : decode cX0_addDevice 65 = .ok (.iload_n 3, 1) := by decide +kernel
theorem dX0_addDevice_66 : decode cX0_addDevice 66 = .ok (.invokestatic 80, 3) := by decide +kernel
theorem dX0_addDevice_69 : decode cX0_addDevice 69 = .ok (.ior, 1) := by decide +kernel
theorem dX0_addDevice_70 : decode cX0_addDevice 70 = .ok (.iastore, 1) := by decide +kernel
theorem dX0_addDevice_71 : decode cX0_addDevice 71 = .ok (.aload_n 0, 1) := by decide +kernel
theorem dX0_addDevice_72 : decode cX0_addDevice 72 = .ok (.dup, 1) := by decide +kernel
theorem dX0_addDevice_73 : decode cX0_addDevice 73 = .ok (.getfield 16, 3) := by decide +kernel
theorem dX0_addDevice_76 : decode cX0_addDevice 76 = .ok (.iload_n 3, 1) := by decide +kernel
theorem dX0_addDevice_77 : decode cX0_addDevice 77 = .ok (.invokestatic 80, 3) := by decide +kernel
theorem dX0_addDevice_80 : decode cX0_addDevice 80 = .ok (.ior, 1) := by decide +kernel
theorem dX0_addDevice_81 : decode cX0_addDevice 81 = .ok (.putfield 16, 3) := by decide +kernel
theorem dX0_addDevice_84 : decode cX0_addDevice 84 = .ok (.aload_n 0, 1) := by decide +kernel
theorem dX0_addDevice_85 : decode cX0_addDevice 85 = .ok (.dup, 1) := by decide +kernel
theorem dX0_addDevice_86 : decode cX0_addDevice 86 = .ok (.getfield 20, 3) := by decide +kernel
theorem dX0_addDevice_89 : decode cX0_addDevice 89 = .ok (.iload_n 3, 1) := by decide +kernel
theorem dX0_addDevice_90 : decode cX0_addDevice 90 = .ok (.invokestatic 80, 3) := by decide +kernel
theorem dX0_addDevice_93 : decode cX0_addDevice 93 = .ok (.ior, 1) := by decide +kernel
theorem dX0_addDevice_94 : decode cX0_addDevice 94 = .ok (.putfield 20, 3) := by decide +kernel
theorem dX0_addDevice_97 : decode cX0_addDevice 97 = .ok (.iload_n 3, 1) := by decide +kernel
theorem dX0_addDevice_98 : decode cX0_addDevice 98 = .ok (.ireturn, 1) := by decide +kernel
set_option maxRecDepth 20000 in
theorem ggX0_setOnline_X0_requireDevice : GoodIn wsX0_setOnline wsX0_requireDevice := goodIn_ca (goodIn_r _ [6, 7, 8, 9, 83, 84, 85, 86, 87, 88, 89, 90, 91, 92, 93, 94, 95, 96, 97, 98, 99, 100, 101] (by decide +kernel) (by decide +kernel)) (goodIn_sub (fun _ h => List.mem_cons_of_mem _ (List.mem_append_right _ h)) (by decide +kernel))
set_option maxRecDepth 20000 in
theorem gX0_setOnline_X0_requireDevice : GoodIn wsX0_setOnline (wsV RX0 84 RX0 yX0_requireDevice wsX0_requireDevice) := goodIn_app (goodIn_of _ (by decide +kernel)) ggX0_setOnline_X0_requireDevice
set_option maxRecDepth 20000 in
theorem ggX0_setOnline_X0_changed : GoodIn wsX0_setOnline wsX0_changed := goodIn_r _ [12, 13, 14, 5, 15] (by decide +kernel) (by decide +kernel)
set_option maxRecDepth 20000 in
theorem gX0_setOnline_X0_changed : GoodIn wsX0_setOnline (va_wsS RX0 88 yX0_changed wsX0_changed) := goodIn_app (goodIn_of _ (by decide +kernel)) ggX0_setOnline_X0_changed
set_option maxRecDepth 20000 in
theorem ggX0_setOnline_X0_deliverNow : GoodIn wsX0_setOnline wsX0_deliverNow := goodIn_r _ [19, 20, 21, 22, 23, 24, 25, 5, 26, 27, 1, 28, 9, 29, 30, 31, 32, 33, 34, 35, 36, 37, 38, 39, 40, 41, 42, 43, 10, 11, 12, 13, 14, 15, 44, 45, 46, 47, 48, 49, 50, 51, 52, 53, 54, 55, 56, 57, 58, 59, 60, 61, 62, 63, 64, 65, 66, 67, 68, 69, 70, 71, 72, 73, 74, 75, 76, 77, 78, 79, 80, 81, 82, 83, 84, 85, 86, 87, 88, 89, 90, 91, 92, 93, 94, 95, 96, 97, 98, 99, 100, 101] (by decide +kernel) (by decide +kernel)
set_option maxRecDepth 20000 in
theorem gX0_setOnline_X0_deliverNow : GoodIn wsX0_setOnline (wsV RX0 92 RX0 yX0_deliverNow wsX0_deliverNow) := goodIn_app (goodIn_of _ (by decide +kernel)) ggX0_setOnline_X0_deliverNow
theorem dX0_setOnline_0 : decode cX0_setOnline 0 = .ok (.aload_n 0, 1) := by decide +kernel
theorem dX0_setOnline_1 : decode cX0_setOnline 1 = .ok (.iload_n 1, 1) := by decide +kernel
theorem dX0_setOnline_2 : decode cX0_setOnline 2 = .ok (.invokevirtual 84, 3) := by decide +kernel
theorem dX0_setOnline_5 : decode cX0_setOnline 5 = .ok (.aload_n 0, 1) := by decide +kernel
theorem dX0_setOnline_6 : decode cX0_setOnline 6 = .ok (.aload_n 0, 1) := by decide +kernel
theorem dX0_setOnline_7 : decode cX0_setOnline 7 = .ok (.getfield 20, 3) := by decide +kernel
theorem dX0_setOnline_10 : decode cX0_setOnline 10 = .ok (.iload_n 1, 1) := by decide +kernel
theorem dX0_setOnline_11 : decode cX0_setOnline 11 = .ok (.iload_n 2, 1) := by decide +kernel
theorem dX0_setOnline_12 : decode cX0_setOnline 12 = .ok (.invokestatic 88, 3) := by decide +kernel
theorem dX0_setOnline_15 : decode cX0_setOnline 15 = .ok (.putfield 20, 3) := by decide +kernel
theorem dX0_setOnline_18 : decode cX0_setOnline 18 = .ok (.aload_n 0, 1) := by decide +kernel
theorem dX0_setOnline_19 : decode cX0_setOnline 19 = .ok (.invokevirtual 92, 3) := by decide +kernel
theorem dX0_setOnline_22 : decode cX0_setOnline 22 = .ok (.ireturn, 1) := by decide +kernel
set_option maxRecDepth 20000 in
theorem ggX0_setDozing_X0_requireDevice : GoodIn wsX0_setDozing wsX0_requireDevice := goodIn_ca (goodIn_r _ [6, 7, 8, 9, 83, 84, 85, 86, 87, 88, 89, 90, 91, 92, 93, 94, 95, 96, 97, 98, 99, 100, 101] (by decide +kernel) (by decide +kernel)) (goodIn_sub (fun _ h => List.mem_cons_of_mem _ (List.mem_append_right _ h)) (by decide +kernel))
set_option maxRecDepth 20000 in
theorem gX0_setDozing_X0_requireDevice : GoodIn wsX0_setDozing (wsV RX0 84 RX0 yX0_requireDevice wsX0_requireDevice) := goodIn_app (goodIn_of _ (by decide +kernel)) ggX0_setDozing_X0_requireDevice
set_option maxRecDepth 20000 in
theorem ggX0_setDozing_X0_changed : GoodIn wsX0_setDozing wsX0_changed := goodIn_r _ [12, 13, 14, 5, 15] (by decide +kernel) (by decide +kernel)
set_option maxRecDepth 20000 in
theorem gX0_setDozing_X0_changed : GoodIn wsX0_setDozing (va_wsS RX0 88 yX0_changed wsX0_changed) := goodIn_app (goodIn_of _ (by decide +kernel)) ggX0_setDozing_X0_changed
set_option maxRecDepth 20000 in
theorem ggX0_setDozing_X0_deliverNow : GoodIn wsX0_setDozing wsX0_deliverNow := goodIn_r _ [19, 20, 21, 22, 23, 24, 25, 5, 26, 27, 28, 1, 9, 29, 30, 31, 32, 33, 34, 35, 36, 37, 38, 39, 40, 41, 42, 43, 10, 11, 12, 13, 14, 15, 44, 45, 46, 47, 48, 49, 50, 51, 52, 53, 54, 55, 56, 57, 58, 59, 60, 61, 62, 63, 64, 65, 66, 67, 68, 69, 70, 71, 72, 73, 74, 75, 76, 77, 78, 79, 80, 81, 82, 83, 84, 85, 86, 87, 88, 89, 90, 91, 92, 93, 94, 95, 96, 97, 98, 99, 100, 101] (by decide +kernel) (by decide +kernel)
set_option maxRecDepth 20000 in
theorem gX0_setDozing_X0_deliverNow : GoodIn wsX0_setDozing (wsV RX0 92 RX0 yX0_deliverNow wsX0_deliverNow) := goodIn_app (goodIn_of _ (by decide +kernel)) ggX0_setDozing_X0_deliverNow
theorem dX0_setDozing_0 : decode cX0_setDozing 0 = .ok (.aload_n 0, 1) := by decide +kernel
theorem dX0_setDozing_1 : decode cX0_setDozing 1 = .ok (.iload_n 1, 1) := by decide +kernel
theorem dX0_setDozing_2 : decode cX0_setDozing 2 = .ok (.invokevirtual 84, 3) := by decide +kernel
theorem dX0_setDozing_5 : decode cX0_setDozing 5 = .ok (.aload_n 0, 1) := by decide +kernel
theorem dX0_setDozing_6 : decode cX0_setDozing 6 = .ok (.aload_n 0, 1) := by decide +kernel
theorem dX0_setDozing_7 : decode cX0_setDozing 7 = .ok (.getfield 23, 3) := by decide +kernel
theorem dX0_setDozing_10 : decode cX0_setDozing 10 = .ok (.iload_n 1, 1) := by decide +kernel
theorem dX0_setDozing_11 : decode cX0_setDozing 11 = .ok (.iload_n 2, 1) := by decide +kernel
theorem dX0_setDozing_12 : decode cX0_setDozing 12 = .ok (.invokestatic 88, 3) := by decide +kernel
theorem dX0_setDozing_15 : decode cX0_setDozing 15 = .ok (.putfield 23, 3) := by decide +kernel
theorem dX0_setDozing_18 : decode cX0_setDozing 18 = .ok (.aload_n 0, 1) := by decide +kernel
theorem dX0_setDozing_19 : decode cX0_setDozing 19 = .ok (.invokevirtual 92, 3) := by decide +kernel
theorem dX0_setDozing_22 : decode cX0_setDozing 22 = .ok (.ireturn, 1) := by decide +kernel
set_option maxRecDepth 20000 in
theorem ggX0_setQuiet_X0_requireDevice : GoodIn wsX0_setQuiet wsX0_requireDevice := goodIn_ca (goodIn_r _ [7, 8, 9, 10, 88, 89, 90, 91, 92, 93, 94, 95, 96, 97, 98, 99, 100, 101, 102, 103, 104, 105, 106] (by decide +kernel) (by decide +kernel)) (goodIn_sub (fun _ h => List.mem_cons_of_mem _ (List.mem_append_left _ (List.mem_append_right _ h))) (by decide +kernel))
set_option maxRecDepth 20000 in
theorem gX0_setQuiet_X0_requireDevice : GoodIn wsX0_setQuiet (wsV RX0 84 RX0 yX0_requireDevice wsX0_requireDevice) := goodIn_app (goodIn_of _ (by decide +kernel)) ggX0_setQuiet_X0_requireDevice
set_option maxRecDepth 20000 in
theorem ggX0_setQuiet_X0_requireWithin : GoodIn wsX0_setQuiet wsX0_requireWithin := goodIn_ca (goodIn_r _ [13, 14, 15] (by decide +kernel) (by decide +kernel)) (goodIn_sub (fun _ h => List.mem_cons_of_mem _ (List.mem_append_right _ h)) (by decide +kernel))
set_option maxRecDepth 20000 in
theorem gX0_setQuiet_X0_requireWithin : GoodIn wsX0_setQuiet (va_wsS RX0 69 yX0_requireWithin wsX0_requireWithin) := goodIn_app (goodIn_of _ (by decide +kernel)) ggX0_setQuiet_X0_requireWithin
set_option maxRecDepth 20000 in
theorem ggX0_setQuiet_X0_deliverNow : GoodIn wsX0_setQuiet wsX0_deliverNow := goodIn_r _ [19, 20, 21, 22, 23, 24, 25, 6, 26, 27, 28, 29, 10, 30, 31, 32, 33, 1, 2, 34, 35, 36, 37, 38, 39, 40, 41, 42, 43, 44, 45, 46, 47, 48, 49, 50, 51, 52, 53, 54, 55, 56, 57, 58, 59, 60, 61, 62, 63, 64, 65, 66, 67, 68, 69, 70, 71, 72, 73, 74, 75, 76, 77, 78, 79, 80, 81, 82, 83, 84, 85, 86, 87, 88, 89, 90, 91, 92, 93, 94, 95, 96, 97, 98, 99, 100, 101, 102, 103, 104, 105, 106] (by decide +kernel) (by decide +kernel)
set_option maxRecDepth 20000 in
theorem gX0_setQuiet_X0_deliverNow : GoodIn wsX0_setQuiet (wsV RX0 92 RX0 yX0_deliverNow wsX0_deliverNow) := goodIn_app (goodIn_of _ (by decide +kernel)) ggX0_setQuiet_X0_deliverNow
theorem dX0_setQuiet_0 : decode cX0_setQuiet 0 = .ok (.aload_n 0, 1) := by decide +kernel
theorem dX0_setQuiet_1 : decode cX0_setQuiet 1 = .ok (.iload_n 1, 1) := by decide +kernel
theorem dX0_setQuiet_2 : decode cX0_setQuiet 2 = .ok (.invokevirtual 84, 3) := by decide +kernel
theorem dX0_setQuiet_5 : decode cX0_setQuiet 5 = .ok (.iload_n 2, 1) := by decide +kernel
theorem dX0_setQuiet_6 : decode cX0_setQuiet 6 = .ok (.iconst 0, 1) := by decide +kernel
theorem dX0_setQuiet_7 : decode cX0_setQuiet 7 = .ok (.sipush 1439, 3) := by decide +kernel
theorem dX0_setQuiet_10 : decode cX0_setQuiet 10 = .ok (.invokestatic 69, 3) := by decide +kernel
theorem dX0_setQuiet_13 : decode cX0_setQuiet 13 = .ok (.iload_n 3, 1) := by decide +kernel
theorem dX0_setQuiet_14 : decode cX0_setQuiet 14 = .ok (.iconst 0, 1) := by decide +kernel
theorem dX0_setQuiet_15 : decode cX0_setQuiet 15 = .ok (.sipush 1439, 3) := by decide +kernel
theorem dX0_setQuiet_18 : decode cX0_setQuiet 18 = .ok (.invokestatic 69, 3) := by decide +kernel
theorem dX0_setQuiet_21 : decode cX0_setQuiet 21 = .ok (.aload_n 0, 1) := by decide +kernel
theorem dX0_setQuiet_22 : decode cX0_setQuiet 22 = .ok (.getfield 29, 3) := by decide +kernel
theorem dX0_setQuiet_25 : decode cX0_setQuiet 25 = .ok (.iload_n 1, 1) := by decide +kernel
theorem dX0_setQuiet_26 : decode cX0_setQuiet 26 = .ok (.iload_n 2, 1) := by decide +kernel
theorem dX0_setQuiet_27 : decode cX0_setQuiet 27 = .ok (.iastore, 1) := by decide +kernel
theorem dX0_setQuiet_28 : decode cX0_setQuiet 28 = .ok (.aload_n 0, 1) := by decide +kernel
theorem dX0_setQuiet_29 : decode cX0_setQuiet 29 = .ok (.getfield 32, 3) := by decide +kernel
theorem dX0_setQuiet_32 : decode cX0_setQuiet 32 = .ok (.iload_n 1, 1) := by decide +kernel
theorem dX0_setQuiet_33 : decode cX0_setQuiet 33 = .ok (.iload_n 3, 1) := by decide +kernel
theorem dX0_setQuiet_34 : decode cX0_setQuiet 34 = .ok (.iastore, 1) := by decide +kernel
theorem dX0_setQuiet_35 : decode cX0_setQuiet 35 = .ok (.aload_n 0, 1) := by decide +kernel
theorem dX0_setQuiet_36 : decode cX0_setQuiet 36 = .ok (.invokevirtual 92, 3) := by decide +kernel
theorem dX0_setQuiet_39 : decode cX0_setQuiet 39 = .ok (.ireturn, 1) := by decide +kernel
set_option maxRecDepth 20000 in
theorem ggX0_join_X0_requireDevice : GoodIn wsX0_join wsX0_requireDevice := goodIn_ca (goodIn_r _ [6, 7, 8, 9, 24, 25, 26, 27, 28, 29, 30, 31, 32, 33, 34, 35, 36, 37, 38, 39, 40, 41, 42] (by decide +kernel) (by decide +kernel)) (goodIn_sub (fun _ h => List.mem_cons_of_mem _ (List.mem_append_left _ (List.mem_append_right _ h))) (by decide +kernel))
set_option maxRecDepth 20000 in
theorem gX0_join_X0_requireDevice : GoodIn wsX0_join (wsV RX0 84 RX0 yX0_requireDevice wsX0_requireDevice) := goodIn_app (goodIn_of _ (by decide +kernel)) ggX0_join_X0_requireDevice
set_option maxRecDepth 20000 in
theorem ggX0_join_X0_requireWithin : GoodIn wsX0_join wsX0_requireWithin := goodIn_ca (goodIn_r _ [12, 13, 14] (by decide +kernel) (by decide +kernel)) (goodIn_sub (fun _ h => List.mem_cons_of_mem _ (List.mem_append_right _ h)) (by decide +kernel))
set_option maxRecDepth 20000 in
theorem gX0_join_X0_requireWithin : GoodIn wsX0_join (va_wsS RX0 69 yX0_requireWithin wsX0_requireWithin) := goodIn_app (goodIn_of _ (by decide +kernel)) ggX0_join_X0_requireWithin
set_option maxRecDepth 20000 in
theorem ggX0_join_X0_has : GoodIn wsX0_join wsX0_has := goodIn_r _ [17, 18, 19, 5, 20] (by decide +kernel) (by decide +kernel)
set_option maxRecDepth 20000 in
theorem gX0_join_X0_has : GoodIn wsX0_join (va_wsS RX0 96 yX0_has wsX0_has) := goodIn_app (goodIn_of _ (by decide +kernel)) ggX0_join_X0_has
set_option maxRecDepth 20000 in
theorem ggX0_join_X0_changed : GoodIn wsX0_join wsX0_changed := goodIn_r _ [23, 18, 19, 5, 20] (by decide +kernel) (by decide +kernel)
set_option maxRecDepth 20000 in
theorem gX0_join_X0_changed : GoodIn wsX0_join (va_wsS RX0 88 yX0_changed wsX0_changed) := goodIn_app (goodIn_of _ (by decide +kernel)) ggX0_join_X0_changed
theorem dX0_join_0 : decode cX0_join 0 = .ok (.aload_n 0, 1) := by decide +kernel
theorem dX0_join_1 : decode cX0_join 1 = .ok (.iload_n 1, 1) := by decide +kernel
theorem dX0_join_2 : decode cX0_join 2 = .ok (.invokevirtual 84, 3) := by decide +kernel
theorem dX0_join_5 : decode cX0_join 5 = .ok (.iload_n 2, 1) := by decide +kernel
theorem dX0_join_6 : decode cX0_join 6 = .ok (.iconst 0, 1) := by decide +kernel
theorem dX0_join_7 : decode cX0_join 7 = .ok (.iconst 5, 1) := by decide +kernel
theorem dX0_join_8 : decode cX0_join 8 = .ok (.invokestatic 69, 3) := by decide +kernel
theorem dX0_join_11 : decode cX0_join 11 = .ok (.aload_n 0, 1) := by decide +kernel
theorem dX0_join_12 : decode cX0_join 12 = .ok (.getfield 13, 3) := by decide +kernel
theorem dX0_join_15 : decode cX0_join 15 = .ok (.iload_n 2, 1) := by decide +kernel
theorem dX0_join_16 : decode cX0_join 16 = .ok (.iaload, 1) := by decide +kernel
theorem dX0_join_17 : decode cX0_join 17 = .ok (.iload_n 1, 1) := by decide +kernel
theorem dX0_join_18 : decode cX0_join 18 = .ok (.invokestatic 96, 3) := by decide +kernel
theorem dX0_join_21 : decode cX0_join 21 = .ok (.istore 4, 2) := by decide +kernel
theorem dX0_join_23 : decode cX0_join 23 = .ok (.aload_n 0, 1) := by decide +kernel
theorem dX0_join_24 : decode cX0_join 24 = .ok (.getfield 13, 3) := by decide +kernel
theorem dX0_join_27 : decode cX0_join 27 = .ok (.iload_n 2, 1) := by decide +kernel
theorem dX0_join_28 : decode cX0_join 28 = .ok (.aload_n 0, 1) := by decide +kernel
theorem dX0_join_29 : decode cX0_join 29 = .ok (.getfield 13, 3) := by decide +kernel
theorem dX0_join_32 : decode cX0_join 32 = .ok (.iload_n 2, 1) := by decide +kernel
theorem dX0_join_33 : decode cX0_join 33 = .ok (.iaload, 1) := by decide +kernel
theorem dX0_join_34 : decode cX0_join 34 = .ok (.iload_n 1, 1) := by decide +kernel
theorem dX0_join_35 : decode cX0_join 35 = .ok (.iload_n 3, 1) := by decide +kernel
theorem dX0_join_36 : decode cX0_join 36 = .ok (.invokestatic 88, 3) := by decide +kernel
theorem dX0_join_39 : decode cX0_join 39 = .ok (.iastore, 1) := by decide +kernel
theorem dX0_join_40 : decode cX0_join 40 = .ok (.iload 4, 2) := by decide +kernel
theorem dX0_join_42 : decode cX0_join 42 = .ok (.ireturn, 1) := by decide +kernel
set_option maxRecDepth 20000 in
theorem ggX0_kill_X0_requireDevice : GoodIn wsX0_kill wsX0_requireDevice := goodIn_ca (goodIn_r _ [10, 11, 12, 13, 37, 38, 39, 40, 41, 42, 43, 44, 45, 46, 47, 48, 49, 50, 51, 52, 53, 54, 55] (by decide +kernel) (by decide +kernel)) (goodIn_sub (fun _ h => List.mem_cons_of_mem _ (List.mem_append_right _ h)) (by decide +kernel))
set_option maxRecDepth 20000 in
theorem gX0_kill_X0_requireDevice : GoodIn wsX0_kill (wsV RX0 84 RX0 yX0_requireDevice wsX0_requireDevice) := goodIn_app (goodIn_of _ (by decide +kernel)) ggX0_kill_X0_requireDevice
set_option maxRecDepth 20000 in
theorem ggX0_kill_X0_has : GoodIn wsX0_kill wsX0_has := goodIn_r _ [16, 17, 18, 9, 19] (by decide +kernel) (by decide +kernel)
set_option maxRecDepth 20000 in
theorem gX0_kill_X0_has : GoodIn wsX0_kill (va_wsS RX0 96 yX0_has wsX0_has) := goodIn_app (goodIn_of _ (by decide +kernel)) ggX0_kill_X0_has
set_option maxRecDepth 20000 in
theorem ggX0_kill_X0_countWaiting : GoodIn wsX0_kill wsX0_countWaiting := goodIn_r _ [23, 4, 24, 25, 26, 9, 27, 5, 28, 29, 30, 31, 32, 33, 14, 15, 16, 17, 18, 19, 37, 38, 39, 40, 41, 42, 43, 44, 45, 46, 47, 48, 49, 50, 51, 52, 53, 54, 55] (by decide +kernel) (by decide +kernel)
set_option maxRecDepth 20000 in
theorem gX0_kill_X0_countWaiting : GoodIn wsX0_kill (wsV RX0 102 RX0 yX0_countWaiting wsX0_countWaiting) := goodIn_app (goodIn_of _ (by decide +kernel)) ggX0_kill_X0_countWaiting
set_option maxRecDepth 20000 in
theorem ggX0_kill_X0_changed : GoodIn wsX0_kill wsX0_changed := goodIn_r _ [36, 17, 18, 9, 19] (by decide +kernel) (by decide +kernel)
set_option maxRecDepth 20000 in
theorem gX0_kill_X0_changed : GoodIn wsX0_kill (va_wsS RX0 88 yX0_changed wsX0_changed) := goodIn_app (goodIn_of _ (by decide +kernel)) ggX0_kill_X0_changed
theorem dX0_kill_0 : decode cX0_kill 0 = .ok (.aload_n 0, 1) := by decide +kernel
theorem dX0_kill_1 : decode cX0_kill 1 = .ok (.iload_n 1, 1) := by decide +kernel
theorem dX0_kill_2 : decode cX0_kill 2 = .ok (.invokevirtual 84, 3) := by decide +kernel
theorem dX0_kill_5 : decode cX0_kill 5 = .ok (.aload_n 0, 1) := by decide +kernel
theorem dX0_kill_6 : decode cX0_kill 6 = .ok (.getfield 16, 3) := by decide +kernel
theorem dX0_kill_9 : decode cX0_kill 9 = .ok (.iload_n 1, 1) := by decide +kernel
theorem dX0_kill_10 : decode cX0_kill 10 = .ok (.invokestatic 96, 3) := by decide +kernel
theorem dX0_kill_13 : decode cX0_kill 13 = .ok (.ifCond .ne 13, 3) := by decide +kernel
theorem dX0_kill_16 : decode cX0_kill 16 = .ok (.new 73, 3) := by decide +kernel
theorem dX0_kill_19 : decode cX0_kill 19 = .ok (.dup, 1) := by decide +kernel
theorem dX0_kill_20 : decode cX0_kill 20 = .ok (.ldc 100, 2) := by decide +kernel
theorem dX0_kill_22 : decode cX0_kill 22 = .ok (.invokespecial 77, 3) := by decide +kernel
theorem dX0_kill_25 : decode cX0_kill 25 = .ok (.athrow, 1) := by decide +kernel
theorem dX0_kill_26 : decode cX0_kill 26 = .ok (.aload_n 0, 1) := by decide +kernel
theorem dX0_kill_27 : decode cX0_kill 27 = .ok (.iload_n 1, 1) := by decide +kernel
theorem dX0_kill_28 : decode cX0_kill 28 = .ok (.invokevirtual 102, 3) := by decide +kernel
theorem dX0_kill_31 : decode cX0_kill 31 = .ok (.istore_n 2, 1) := by decide +kernel
theorem dX0_kill_32 : decode cX0_kill 32 = .ok (.aload_n 0, 1) := by decide +kernel
theorem dX0_kill_33 : decode cX0_kill 33 = .ok (.aload_n 0, 1) := by decide +kernel
theorem dX0_kill_34 : decode cX0_kill 34 = .ok (.getfield 16, 3) := by decide +kernel
theorem dX0_kill_37 : decode cX0_kill 37 = .ok (.iload_n 1, 1) := by decide +kernel
theorem dX0_kill_38 : decode cX0_kill 38 = .ok (.iconst 0, 1) := by decide +kernel
theorem dX0_kill_39 : decode cX0_kill 39 = .ok (.invokestatic 88, 3) := by decide +kernel
theorem dX0_kill_42 : decode cX0_kill 42 = .ok (.putfield 16, 3) := by decide +kernel
theorem dX0_kill_45 : decode cX0_kill 45 = .ok (.iconst 0, 1) := by decide +kernel
theorem dX0_kill_46 : decode cX0_kill 46 = .ok (.istore_n 3, 1) := by decide +kernel
theorem dX0_kill_47 : decode cX0_kill 47 = .ok (.iload_n 3, 1) := by decide +kernel
theorem dX0_kill_48 : decode cX0_kill 48 = .ok (.aload_n 0, 1) := by decide +kernel
theorem dX0_kill_49 : decode cX0_kill 49 = .ok (.getfield 60, 3) := by decide +kernel
theorem dX0_kill_52 : decode cX0_kill 52 = .ok (.if_icmp .ge 26, 3) := by decide +kernel
theorem dX0_kill_55 : decode cX0_kill 55 = .ok (.aload_n 0, 1) := by decide +kernel
theorem dX0_kill_56 : decode cX0_kill 56 = .ok (.getfield 51, 3) := by decide +kernel
theorem dX0_kill_59 : decode cX0_kill 59 = .ok (.iload_n 3, 1) := by decide +kernel
theorem dX0_kill_60 : decode cX0_kill 60 = .ok (.aload_n 0, 1) := by decide +kernel
theorem dX0_kill_61 : decode cX0_kill 61 = .ok (.getfield 51, 3) := by decide +kernel
theorem dX0_kill_64 : decode cX0_kill 64 = .ok (.iload_n 3, 1) := by decide +kernel
theorem dX0_kill_65 : decode cX0_kill 65 = .ok (.iaload, 1) := by decide +kernel
theorem dX0_kill_66 : decode cX0_kill 66 = .ok (.iload_n 1, 1) := by decide +kernel
theorem dX0_kill_67 : decode cX0_kill 67 = .ok (.iconst 0, 1) := by decide +kernel
theorem dX0_kill_68 : decode cX0_kill 68 = .ok (.invokestatic 88, 3) := by decide +kernel
theorem dX0_kill_71 : decode cX0_kill 71 = .ok (.iastore, 1) := by decide +kernel
theorem dX0_kill_72 : decode cX0_kill 72 = .ok (.iinc 3 1, 3) := by decide +kernel
theorem dX0_kill_75 : decode cX0_kill 75 = .ok (.goto (-28), 3) := by decide +kernel
theorem dX0_kill_78 : decode cX0_kill 78 = .ok (.iload_n 2, 1) := by decide +kernel
theorem dX0_kill_79 : decode cX0_kill 79 = .ok (.ireturn, 1) := by decide +kernel
theorem dX0_devices_0 : decode cX0_devices 0 = .ok (.aload_n 0, 1) := by decide +kernel
theorem dX0_devices_1 : decode cX0_devices 1 = .ok (.getfield 41, 3) := by decide +kernel
theorem dX0_devices_4 : decode cX0_devices 4 = .ok (.ireturn, 1) := by decide +kernel
set_option maxRecDepth 20000 in
theorem ggX0_isQuiet_X0_requireDevice : GoodIn wsX0_isQuiet wsX0_requireDevice := goodIn_ca (goodIn_r _ [5, 6, 7, 8, 25, 26, 27, 28, 29, 30, 31, 32, 33, 34, 35, 36, 37, 38, 39, 40, 41, 42, 43] (by decide +kernel) (by decide +kernel)) (goodIn_sub (fun _ h => List.mem_cons_of_mem _ (List.mem_append_right _ h)) (by decide +kernel))
set_option maxRecDepth 20000 in
theorem gX0_isQuiet_X0_requireDevice : GoodIn wsX0_isQuiet (wsV RX0 84 RX0 yX0_requireDevice wsX0_requireDevice) := goodIn_app (goodIn_of _ (by decide +kernel)) ggX0_isQuiet_X0_requireDevice
set_option maxRecDepth 20000 in
theorem ggX0_isQuiet_X0_isInQuietHours : GoodIn wsX0_isQuiet wsX0_isInQuietHours := goodIn_r _ [12, 13, 14, 15, 16, 17, 4, 18, 19, 20, 21, 22, 23, 24, 25, 26, 27, 28, 29, 30, 31, 32, 33, 34, 35, 36, 37, 38, 39, 40, 41, 42, 43] (by decide +kernel) (by decide +kernel)
set_option maxRecDepth 20000 in
theorem gX0_isQuiet_X0_isInQuietHours : GoodIn wsX0_isQuiet (wsV RX0 105 RX0 yX0_isInQuietHours wsX0_isInQuietHours) := goodIn_app (goodIn_of _ (by decide +kernel)) ggX0_isQuiet_X0_isInQuietHours
theorem dX0_isQuiet_0 : decode cX0_isQuiet 0 = .ok (.aload_n 0, 1) := by decide +kernel
theorem dX0_isQuiet_1 : decode cX0_isQuiet 1 = .ok (.iload_n 1, 1) := by decide +kernel
theorem dX0_isQuiet_2 : decode cX0_isQuiet 2 = .ok (.invokevirtual 84, 3) := by decide +kernel
theorem dX0_isQuiet_5 : decode cX0_isQuiet 5 = .ok (.aload_n 0, 1) := by decide +kernel
theorem dX0_isQuiet_6 : decode cX0_isQuiet 6 = .ok (.iload_n 1, 1) := by decide +kernel
theorem dX0_isQuiet_7 : decode cX0_isQuiet 7 = .ok (.invokevirtual 105, 3) := by decide +kernel
theorem dX0_isQuiet_10 : decode cX0_isQuiet 10 = .ok (.ireturn, 1) := by decide +kernel
set_option maxRecDepth 20000 in
theorem ggX0_send_X0_requireWithin : GoodIn wsX0_send wsX0_requireWithin := goodIn_ca (goodIn_r _ [5, 6, 7] (by decide +kernel) (by decide +kernel)) (goodIn_sub (fun _ h => List.mem_cons_of_mem _ (List.mem_append_left _ (List.mem_append_right _ h))) (by decide +kernel))
set_option maxRecDepth 20000 in
theorem gX0_send_X0_requireWithin : GoodIn wsX0_send (va_wsS RX0 69 yX0_requireWithin wsX0_requireWithin) := goodIn_app (goodIn_of _ (by decide +kernel)) ggX0_send_X0_requireWithin
set_option maxRecDepth 20000 in
theorem ggX0_send_X0_requireRoomForNotice : GoodIn wsX0_send wsX0_requireRoomForNotice := goodIn_ca (goodIn_r _ [11, 12, 13, 14, 106, 107, 108, 109, 110, 111, 112, 113, 114, 115, 116, 117, 118, 119, 120, 121, 122, 123, 124] (by decide +kernel) (by decide +kernel)) (goodIn_sub (fun _ h => List.mem_cons_of_mem _ (List.mem_append_right _ h)) (by decide +kernel))
set_option maxRecDepth 20000 in
theorem gX0_send_X0_requireRoomForNotice : GoodIn wsX0_send (wsV RX0 109 RX0 yX0_requireRoomForNotice wsX0_requireRoomForNotice) := goodIn_app (goodIn_of _ (by decide +kernel)) ggX0_send_X0_requireRoomForNotice
set_option maxRecDepth 20000 in
theorem ggX0_send_X0_replaceKey : GoodIn wsX0_send wsX0_replaceKey := goodIn_r _ [18, 19, 14, 20, 21, 4, 22, 23, 24, 25, 26, 27, 28, 29, 30, 31, 32, 106, 107, 108, 109, 110, 111, 112, 113, 114, 115, 116, 117, 118, 119, 120, 121, 122, 123, 124] (by decide +kernel) (by decide +kernel)
set_option maxRecDepth 20000 in
theorem gX0_send_X0_replaceKey : GoodIn wsX0_send (wsV RX0 112 RX0 yX0_replaceKey wsX0_replaceKey) := goodIn_app (goodIn_of _ (by decide +kernel)) ggX0_send_X0_replaceKey
set_option maxRecDepth 20000 in
theorem ggX0_send_X0_sendTo : GoodIn wsX0_send wsX0_sendTo := goodIn_r _ [36, 14, 37, 28, 27, 38, 39, 40, 41, 42, 4, 43, 44, 45, 46, 47, 48, 49, 50, 51, 52, 53, 54, 55, 56, 57, 58, 59, 60, 61, 62, 63, 64, 65, 66, 67, 68, 69, 70, 71, 72, 73, 74, 75, 76, 23, 24, 25, 26, 77, 78, 79, 80, 81, 82, 83, 84, 85, 86, 87, 88, 89, 90, 91, 92, 93, 94, 95, 96, 97, 98, 99, 100, 101, 102, 103, 104, 105, 106, 107, 108, 109, 110, 111, 112, 113, 114, 115, 116, 117, 118, 119, 120, 121, 122, 123, 124] (by decide +kernel) (by decide +kernel)
set_option maxRecDepth 20000 in
theorem gX0_send_X0_sendTo : GoodIn wsX0_send (wsV RX0 116 RX0 yX0_sendTo wsX0_sendTo) := goodIn_app (goodIn_of _ (by decide +kernel)) ggX0_send_X0_sendTo
theorem dX0_send_0 : decode cX0_send 0 = .ok (.iload_n 1, 1) := by decide +kernel
theorem dX0_send_1 : decode cX0_send 1 = .ok (.iconst 0, 1) := by decide +kernel
theorem dX0_send_2 : decode cX0_send 2 = .ok (.bipush 7, 2) := by decide +kernel
theorem dX0_send_4 : decode cX0_send 4 = .ok (.invokestatic 69, 3) := by decide +kernel
theorem dX0_send_7 : decode cX0_send 7 = .ok (.iload_n 2, 1) := by decide +kernel
theorem dX0_send_8 : decode cX0_send 8 = .ok (.iconst (-1), 1) := by decide +kernel
theorem dX0_send_9 : decode cX0_send 9 = .ok (.if_icmp .eq 10, 3) := by decide +kernel
theorem dX0_send_12 : decode cX0_send 12 = .ok (.iload_n 2, 1) := by decide +kernel
theorem dX0_send_13 : decode cX0_send 13 = .ok (.iconst 0, 1) := by decide +kernel
theorem dX0_send_14 : decode cX0_send 14 = .ok (.bipush 9, 2) := by decide +kernel
theorem dX0_send_16 : decode cX0_send 16 = .ok (.invokestatic 69, 3) := by decide +kernel
theorem dX0_send_19 : decode cX0_send 19 = .ok (.iload 4, 2) := by decide +kernel
theorem dX0_send_21 : decode cX0_send 21 = .ok (.iconst 1, 1) := by decide +kernel
theorem dX0_send_22 : decode cX0_send 22 = .ok (.sipush 10000, 3) := by decide +kernel
theorem dX0_send_25 : decode cX0_send 25 = .ok (.invokestatic 69, 3) := by decide +kernel
theorem dX0_send_28 : decode cX0_send 28 = .ok (.aload_n 0, 1) := by decide +kernel
theorem dX0_send_29 : decode cX0_send 29 = .ok (.invokevirtual 109, 3) := by decide +kernel
theorem dX0_send_32 : decode cX0_send 32 = .ok (.iload_n 2, 1) := by decide +kernel
theorem dX0_send_33 : decode cX0_send 33 = .ok (.iconst (-1), 1) := by decide +kernel
theorem dX0_send_34 : decode cX0_send 34 = .ok (.if_icmp .eq 9, 3) := by decide +kernel
theorem dX0_send_37 : decode cX0_send 37 = .ok (.aload_n 0, 1) := by decide +kernel
theorem dX0_send_38 : decode cX0_send 38 = .ok (.iload_n 1, 1) := by decide +kernel
theorem dX0_send_39 : decode cX0_send 39 = .ok (.iload_n 2, 1) := by decide +kernel
theorem dX0_send_40 : decode cX0_send 40 = .ok (.invokevirtual 112, 3) := by decide +kernel
theorem dX0_send_43 : decode cX0_send 43 = .ok (.aload_n 0, 1) := by decide +kernel
theorem dX0_send_44 : decode cX0_send 44 = .ok (.aload_n 0, 1) := by decide +kernel
theorem dX0_send_45 : decode cX0_send 45 = .ok (.getfield 9, 3) := by decide +kernel
theorem dX0_send_48 : decode cX0_send 48 = .ok (.iload_n 1, 1) := by decide +kernel
theorem dX0_send_49 : decode cX0_send 49 = .ok (.iaload, 1) := by decide +kernel
theorem dX0_send_50 : decode cX0_send 50 = .ok (.iload_n 3, 1) := by decide +kernel
theorem dX0_send_51 : decode cX0_send 51 = .ok (.iload 4, 2) := by decide +kernel
theorem dX0_send_53 : decode cX0_send 53 = .ok (.invokevirtual 116, 3) := by decide +kernel
theorem dX0_send_56 : decode cX0_send 56 = .ok (.ireturn, 1) := by decide +kernel
set_option maxRecDepth 20000 in
theorem ggX0_sendBy_X0_requireWithin : GoodIn wsX0_sendBy wsX0_requireWithin := goodIn_ca (goodIn_r _ [4, 5, 6] (by decide +kernel) (by decide +kernel)) (goodIn_sub (fun _ h => List.mem_cons_of_mem _ (List.mem_append_left _ (List.mem_append_right _ h))) (by decide +kernel))
set_option maxRecDepth 20000 in
theorem gX0_sendBy_X0_requireWithin : GoodIn wsX0_sendBy (va_wsS RX0 69 yX0_requireWithin wsX0_requireWithin) := goodIn_app (goodIn_of _ (by decide +kernel)) ggX0_sendBy_X0_requireWithin
set_option maxRecDepth 20000 in
theorem ggX0_sendBy_X0_requireRoomForNotice : GoodIn wsX0_sendBy wsX0_requireRoomForNotice := goodIn_ca (goodIn_r _ [10, 11, 12, 13, 98, 99, 100, 101, 102, 103, 104, 105, 106, 107, 108, 109, 110, 111, 112, 113, 114, 115, 116] (by decide +kernel) (by decide +kernel)) (goodIn_sub (fun _ h => List.mem_cons_of_mem _ (List.mem_append_right _ h)) (by decide +kernel))
set_option maxRecDepth 20000 in
theorem gX0_sendBy_X0_requireRoomForNotice : GoodIn wsX0_sendBy (wsV RX0 109 RX0 yX0_requireRoomForNotice wsX0_requireRoomForNotice) := goodIn_app (goodIn_of _ (by decide +kernel)) ggX0_sendBy_X0_requireRoomForNotice
set_option maxRecDepth 20000 in
theorem ggX0_sendBy_X0_devicesThatFulfil : GoodIn wsX0_sendBy wsX0_devicesThatFulfil := goodIn_r _ [17, 18, 98, 99, 100, 101, 102, 103, 104, 105, 106, 107, 108, 109, 110, 111, 112, 113, 114, 115, 116] (by decide +kernel) (by decide +kernel)
set_option maxRecDepth 20000 in
theorem gX0_sendBy_X0_devicesThatFulfil : GoodIn wsX0_sendBy (wsV RX0 120 RX0 yX0_devicesThatFulfil wsX0_devicesThatFulfil) := goodIn_app (goodIn_of _ (by decide +kernel)) ggX0_sendBy_X0_devicesThatFulfil
set_option maxRecDepth 20000 in
theorem ggX0_sendBy_X0_sendTo : GoodIn wsX0_sendBy wsX0_sendTo := goodIn_r _ [22, 13, 23, 24, 25, 26, 27, 28, 29, 30, 3, 31, 32, 33, 34, 35, 36, 37, 38, 39, 40, 41, 42, 43, 44, 45, 46, 47, 48, 49, 50, 51, 52, 53, 54, 55, 56, 57, 58, 59, 60, 61, 62, 63, 64, 65, 66, 67, 68, 69, 70, 71, 72, 73, 74, 75, 76, 77, 78, 79, 80, 81, 82, 83, 84, 85, 86, 87, 88, 89, 90, 91, 92, 93, 94, 95, 96, 97, 98, 99, 100, 101, 102, 103, 104, 105, 106, 107, 108, 109, 110, 111, 112, 113, 114, 115, 116] (by decide +kernel) (by decide +kernel)
set_option maxRecDepth 20000 in
theorem gX0_sendBy_X0_sendTo : GoodIn wsX0_sendBy (wsV RX0 116 RX0 yX0_sendTo wsX0_sendTo) := goodIn_app (goodIn_of _ (by decide +kernel)) ggX0_sendBy_X0_sendTo
theorem dX0_sendBy_0 : decode cX0_sendBy 0 = .ok (.iload_n 1, 1) := by decide +kernel
theorem dX0_sendBy_1 : decode cX0_sendBy 1 = .ok (.iconst 0, 1) := by decide +kernel
theorem dX0_sendBy_2 : decode cX0_sendBy 2 = .ok (.iconst 2, 1) := by decide +kernel
theorem dX0_sendBy_3 : decode cX0_sendBy 3 = .ok (.invokestatic 69, 3) := by decide +kernel
theorem dX0_sendBy_6 : decode cX0_sendBy 6 = .ok (.iload_n 2, 1) := by decide +kernel
theorem dX0_sendBy_7 : decode cX0_sendBy 7 = .ok (.iconst 0, 1) := by decide +kernel
theorem dX0_sendBy_8 : decode cX0_sendBy 8 = .ok (.iconst 5, 1) := by decide +kernel
theorem dX0_sendBy_9 : decode cX0_sendBy 9 = .ok (.invokestatic 69, 3) := by decide +kernel
theorem dX0_sendBy_12 : decode cX0_sendBy 12 = .ok (.iload_n 3, 1) := by decide +kernel
theorem dX0_sendBy_13 : decode cX0_sendBy 13 = .ok (.iconst 0, 1) := by decide +kernel
theorem dX0_sendBy_14 : decode cX0_sendBy 14 = .ok (.iconst 5, 1) := by decide +kernel
theorem dX0_sendBy_15 : decode cX0_sendBy 15 = .ok (.invokestatic 69, 3) := by decide +kernel
theorem dX0_sendBy_18 : decode cX0_sendBy 18 = .ok (.iload 5, 2) := by decide +kernel
theorem dX0_sendBy_20 : decode cX0_sendBy 20 = .ok (.iconst 1, 1) := by decide +kernel
theorem dX0_sendBy_21 : decode cX0_sendBy 21 = .ok (.sipush 10000, 3) := by decide +kernel
theorem dX0_sendBy_24 : decode cX0_sendBy 24 = .ok (.invokestatic 69, 3) := by decide +kernel
theorem dX0_sendBy_27 : decode cX0_sendBy 27 = .ok (.aload_n 0, 1) := by decide +kernel
theorem dX0_sendBy_28 : decode cX0_sendBy 28 = .ok (.invokevirtual 109, 3) := by decide +kernel
theorem dX0_sendBy_31 : decode cX0_sendBy 31 = .ok (.aload_n 0, 1) := by decide +kernel
theorem dX0_sendBy_32 : decode cX0_sendBy 32 = .ok (.aload_n 0, 1) := by decide +kernel
theorem dX0_sendBy_33 : decode cX0_sendBy 33 = .ok (.iload_n 1, 1) := by decide +kernel
theorem dX0_sendBy_34 : decode cX0_sendBy 34 = .ok (.iload_n 2, 1) := by decide +kernel
theorem dX0_sendBy_35 : decode cX0_sendBy 35 = .ok (.iload_n 3, 1) := by decide +kernel
theorem dX0_sendBy_36 : decode cX0_sendBy 36 = .ok (.invokevirtual 120, 3) := by decide +kernel
theorem dX0_sendBy_39 : decode cX0_sendBy 39 = .ok (.iload 4, 2) := by decide +kernel
theorem dX0_sendBy_41 : decode cX0_sendBy 41 = .ok (.iload 5, 2) := by decide +kernel
theorem dX0_sendBy_43 : decode cX0_sendBy 43 = .ok (.invokevirtual 116, 3) := by decide +kernel
theorem dX0_sendBy_46 : decode cX0_sendBy 46 = .ok (.ireturn, 1) := by decide +kernel
set_option maxRecDepth 20000 in
theorem ggX0_read_X0_requireDevice : GoodIn wsX0_read wsX0_requireDevice := goodIn_ca (goodIn_r _ [8, 9, 10, 11, 45, 46, 47, 48, 49, 50, 51, 52, 53, 54, 55, 56, 57, 58, 59, 60, 61, 62, 63] (by decide +kernel) (by decide +kernel)) (goodIn_sub (fun _ h => List.mem_cons_of_mem _ (List.mem_append_right _ h)) (by decide +kernel))
set_option maxRecDepth 20000 in
theorem gX0_read_X0_requireDevice : GoodIn wsX0_read (wsV RX0 84 RX0 yX0_requireDevice wsX0_requireDevice) := goodIn_app (goodIn_of _ (by decide +kernel)) ggX0_read_X0_requireDevice
set_option maxRecDepth 20000 in
theorem ggX0_read_X0_requireNotice : GoodIn wsX0_read wsX0_requireNotice := goodIn_ca (goodIn_r _ [15, 9, 10, 16, 45, 46, 47, 48, 49, 50, 51, 52, 53, 54, 55, 56, 57, 58, 59, 60, 61, 62, 63] (by decide +kernel) (by decide +kernel)) (goodIn_sub (fun _ h => List.mem_cons_of_mem _ (List.mem_append_right _ h)) (by decide +kernel))
set_option maxRecDepth 20000 in
theorem gX0_read_X0_requireNotice : GoodIn wsX0_read (wsV RX0 124 RX0 yX0_requireNotice wsX0_requireNotice) := goodIn_app (goodIn_of _ (by decide +kernel)) ggX0_read_X0_requireNotice
set_option maxRecDepth 20000 in
theorem ggX0_read_X0_has : GoodIn wsX0_read wsX0_has := goodIn_r _ [19, 20, 21, 7, 22] (by decide +kernel) (by decide +kernel)
set_option maxRecDepth 20000 in
theorem gX0_read_X0_has : GoodIn wsX0_read (va_wsS RX0 96 yX0_has wsX0_has) := goodIn_app (goodIn_of _ (by decide +kernel)) ggX0_read_X0_has
set_option maxRecDepth 20000 in
theorem ggX0_read_X0_isStanding : GoodIn wsX0_read wsX0_isStanding := goodIn_r _ [26, 27, 28, 45, 46, 47, 48, 49, 50, 51, 52, 53, 54, 55, 56, 57, 58, 59, 60, 61, 62, 63] (by decide +kernel) (by decide +kernel)
set_option maxRecDepth 20000 in
theorem gX0_read_X0_isStanding : GoodIn wsX0_read (wsV RX0 127 RX0 yX0_isStanding wsX0_isStanding) := goodIn_app (goodIn_of _ (by decide +kernel)) ggX0_read_X0_isStanding
set_option maxRecDepth 20000 in
theorem ggX0_read_X0_waitsNow : GoodIn wsX0_read wsX0_waitsNow := goodIn_r _ [32, 33, 23, 24, 25, 7, 26, 27, 28, 45, 46, 47, 48, 49, 50, 51, 52, 53, 54, 55, 56, 57, 58, 59, 60, 61, 62, 63] (by decide +kernel) (by decide +kernel)
set_option maxRecDepth 20000 in
theorem gX0_read_X0_waitsNow : GoodIn wsX0_read (wsV RX0 132 RX0 yX0_waitsNow wsX0_waitsNow) := goodIn_app (goodIn_of _ (by decide +kernel)) ggX0_read_X0_waitsNow
set_option maxRecDepth 20000 in
theorem ggX0_read_J6_bitCount_0f7a4 : GoodIn wsX0_read wsJ6_bitCount_0f7a4 := goodIn_r _ [37, 38, 39, 40] (by decide +kernel) (by decide +kernel)
set_option maxRecDepth 20000 in
theorem gX0_read_J6_bitCount_0f7a4 : GoodIn wsX0_read (va_wsS RX0 135 yJ6_bitCount_0f7a4 wsJ6_bitCount_0f7a4) := goodIn_app (goodIn_of _ (by decide +kernel)) ggX0_read_J6_bitCount_0f7a4
set_option maxRecDepth 20000 in
theorem ggX0_read_X0_withdraw : GoodIn wsX0_read wsX0_withdraw := goodIn_r _ [44, 28, 27, 45, 46, 47, 48, 49, 50, 51, 52, 53, 54, 55, 56, 57, 58, 59, 60, 61, 62, 63] (by decide +kernel) (by decide +kernel)
set_option maxRecDepth 20000 in
theorem gX0_read_X0_withdraw : GoodIn wsX0_read (wsV RX0 140 RX0 yX0_withdraw wsX0_withdraw) := goodIn_app (goodIn_of _ (by decide +kernel)) ggX0_read_X0_withdraw
theorem dX0_read_0 : decode cX0_read 0 = .ok (.aload_n 0, 1) := by decide +kernel
theorem dX0_read_1 : decode cX0_read 1 = .ok (.iload_n 1, 1) := by decide +kernel
theorem dX0_read_2 : decode cX0_read 2 = .ok (.invokevirtual 84, 3) := by decide +kernel
theorem dX0_read_5 : decode cX0_read 5 = .ok (.aload_n 0, 1) := by decide +kernel
theorem dX0_read_6 : decode cX0_read 6 = .ok (.iload_n 2, 1) := by decide +kernel
theorem dX0_read_7 : decode cX0_read 7 = .ok (.invokevirtual 124, 3) := by decide +kernel
theorem dX0_read_10 : decode cX0_read 10 = .ok (.aload_n 0, 1) := by decide +kernel
theorem dX0_read_11 : decode cX0_read 11 = .ok (.getfield 54, 3) := by decide +kernel
theorem dX0_read_14 : decode cX0_read 14 = .ok (.iload_n 2, 1) := by decide +kernel
theorem dX0_read_15 : decode cX0_read 15 = .ok (.iaload, 1) := by decide +kernel
theorem dX0_read_16 : decode cX0_read 16 = .ok (.iload_n 1, 1) := by decide +kernel
theorem dX0_read_17 : decode cX0_read 17 = .ok (.invokestatic 96, 3) := by decide +kernel
theorem dX0_read_20 : decode cX0_read 20 = .ok (.ifCond .eq 11, 3) := by decide +kernel
theorem dX0_read_23 : decode cX0_read 23 = .ok (.aload_n 0, 1) := by decide +kernel
theorem dX0_read_24 : decode cX0_read 24 = .ok (.iload_n 2, 1) := by decide +kernel
theorem dX0_read_25 : decode cX0_read 25 = .ok (.invokevirtual 127, 3) := by decide +kernel
theorem dX0_read_28 : decode cX0_read 28 = .ok (.ifCond .ne 13, 3) := by decide +kernel
theorem dX0_read_31 : decode cX0_read 31 = .ok (.new 73, 3) := by decide +kernel
theorem dX0_read_34 : decode cX0_read 34 = .ok (.dup, 1) := by decide +kernel
theorem dX0_read_35 : decode cX0_read 35 = .ok (.ldc 130, 2) := by decide +kernel
theorem dX0_read_37 : decode cX0_read 37 = .ok (.invokespecial 77, 3) := by decide +kernel
theorem dX0_read_40 : decode cX0_read 40 = .ok (.athrow, 1) := by decide +kernel
theorem dX0_read_41 : decode cX0_read 41 = .ok (.aload_n 0, 1) := by decide +kernel
theorem dX0_read_42 : decode cX0_read 42 = .ok (.iload_n 2, 1) := by decide +kernel
end
section
theorem dX0_read_43 : decode cX0_read 43 = .ok (.invokevirtual 132, 3) := by decide +kernel
theorem dX0_read_46 : decode cX0_read 46 = .ok (.invokestatic 135, 3) := by decide +kernel
theorem dX0_read_49 : decode cX0_read 49 = .ok (.istore_n 3, 1) := by decide +kernel
theorem dX0_read_50 : decode cX0_read 50 = .ok (.aload_n 0, 1) := by decide +kernel
theorem dX0_read_51 : decode cX0_read 51 = .ok (.iload_n 2, 1) := by decide +kernel
theorem dX0_read_52 : decode cX0_read 52 = .ok (.invokevirtual 140, 3) := by decide +kernel
theorem dX0_read_55 : decode cX0_read 55 = .ok (.iload_n 3, 1) := by decide +kernel
theorem dX0_read_56 : decode cX0_read 56 = .ok (.ireturn, 1) := by decide +kernel
theorem dX0_sent_0 : decode cX0_sent 0 = .ok (.aload_n 0, 1) := by decide +kernel
theorem dX0_sent_1 : decode cX0_sent 1 = .ok (.getfield 60, 3) := by decide +kernel
theorem dX0_sent_4 : decode cX0_sent 4 = .ok (.ireturn, 1) := by decide +kernel
set_option maxRecDepth 20000 in
theorem ggX0_stands_X0_requireNotice : GoodIn wsX0_stands wsX0_requireNotice := goodIn_ca (goodIn_r _ [5, 6, 7, 8, 15, 16, 17, 18, 19, 20, 21, 22, 23, 24, 25, 26, 27, 28, 29, 30, 31, 32, 33] (by decide +kernel) (by decide +kernel)) (goodIn_sub (fun _ h => List.mem_cons_of_mem _ (List.mem_append_right _ h)) (by decide +kernel))
set_option maxRecDepth 20000 in
theorem gX0_stands_X0_requireNotice : GoodIn wsX0_stands (wsV RX0 124 RX0 yX0_requireNotice wsX0_requireNotice) := goodIn_app (goodIn_of _ (by decide +kernel)) ggX0_stands_X0_requireNotice
set_option maxRecDepth 20000 in
theorem ggX0_stands_X0_isStanding : GoodIn wsX0_stands wsX0_isStanding := goodIn_r _ [12, 13, 14, 15, 16, 17, 18, 19, 20, 21, 22, 23, 24, 25, 26, 27, 28, 29, 30, 31, 32, 33] (by decide +kernel) (by decide +kernel)
set_option maxRecDepth 20000 in
theorem gX0_stands_X0_isStanding : GoodIn wsX0_stands (wsV RX0 127 RX0 yX0_isStanding wsX0_isStanding) := goodIn_app (goodIn_of _ (by decide +kernel)) ggX0_stands_X0_isStanding
theorem dX0_stands_0 : decode cX0_stands 0 = .ok (.aload_n 0, 1) := by decide +kernel
theorem dX0_stands_1 : decode cX0_stands 1 = .ok (.iload_n 1, 1) := by decide +kernel
theorem dX0_stands_2 : decode cX0_stands 2 = .ok (.invokevirtual 124, 3) := by decide +kernel
theorem dX0_stands_5 : decode cX0_stands 5 = .ok (.aload_n 0, 1) := by decide +kernel
theorem dX0_stands_6 : decode cX0_stands 6 = .ok (.iload_n 1, 1) := by decide +kernel
theorem dX0_stands_7 : decode cX0_stands 7 = .ok (.invokevirtual 127, 3) := by decide +kernel
theorem dX0_stands_10 : decode cX0_stands 10 = .ok (.ireturn, 1) := by decide +kernel
set_option maxRecDepth 20000 in
theorem ggX0_waitsFor_X0_requireNotice : GoodIn wsX0_waitsFor wsX0_requireNotice := goodIn_ca (goodIn_r _ [5, 6, 7, 8, 20, 21, 22, 23, 24, 25, 26, 27, 28, 29, 30, 31, 32, 33, 34, 35, 36, 37, 38] (by decide +kernel) (by decide +kernel)) (goodIn_sub (fun _ h => List.mem_cons_of_mem _ (List.mem_append_right _ h)) (by decide +kernel))
set_option maxRecDepth 20000 in
theorem gX0_waitsFor_X0_requireNotice : GoodIn wsX0_waitsFor (wsV RX0 124 RX0 yX0_requireNotice wsX0_requireNotice) := goodIn_app (goodIn_of _ (by decide +kernel)) ggX0_waitsFor_X0_requireNotice
set_option maxRecDepth 20000 in
theorem ggX0_waitsFor_X0_waitsNow : GoodIn wsX0_waitsFor wsX0_waitsNow := goodIn_r _ [12, 13, 14, 15, 16, 4, 17, 18, 19, 20, 21, 22, 23, 24, 25, 26, 27, 28, 29, 30, 31, 32, 33, 34, 35, 36, 37, 38] (by decide +kernel) (by decide +kernel)
set_option maxRecDepth 20000 in
theorem gX0_waitsFor_X0_waitsNow : GoodIn wsX0_waitsFor (wsV RX0 132 RX0 yX0_waitsNow wsX0_waitsNow) := goodIn_app (goodIn_of _ (by decide +kernel)) ggX0_waitsFor_X0_waitsNow
theorem dX0_waitsFor_0 : decode cX0_waitsFor 0 = .ok (.aload_n 0, 1) := by decide +kernel
theorem dX0_waitsFor_1 : decode cX0_waitsFor 1 = .ok (.iload_n 1, 1) := by decide +kernel
theorem dX0_waitsFor_2 : decode cX0_waitsFor 2 = .ok (.invokevirtual 124, 3) := by decide +kernel
theorem dX0_waitsFor_5 : decode cX0_waitsFor 5 = .ok (.aload_n 0, 1) := by decide +kernel
theorem dX0_waitsFor_6 : decode cX0_waitsFor 6 = .ok (.iload_n 1, 1) := by decide +kernel
theorem dX0_waitsFor_7 : decode cX0_waitsFor 7 = .ok (.invokevirtual 132, 3) := by decide +kernel
theorem dX0_waitsFor_10 : decode cX0_waitsFor 10 = .ok (.ireturn, 1) := by decide +kernel
set_option maxRecDepth 20000 in
theorem ggX0_deliveredTo_X0_requireNotice : GoodIn wsX0_deliveredTo wsX0_requireNotice := goodIn_ca (goodIn_r _ [6, 7, 8, 9, 10, 11, 12, 13, 14, 15, 16, 17, 18, 19, 20, 21, 22, 23, 24, 25, 26, 27, 28] (by decide +kernel) (by decide +kernel)) (goodIn_sub (fun _ h => List.mem_cons_of_mem _ (List.mem_append_right _ h)) (by decide +kernel))
set_option maxRecDepth 20000 in
theorem gX0_deliveredTo_X0_requireNotice : GoodIn wsX0_deliveredTo (wsV RX0 124 RX0 yX0_requireNotice wsX0_requireNotice) := goodIn_app (goodIn_of _ (by decide +kernel)) ggX0_deliveredTo_X0_requireNotice
theorem dX0_deliveredTo_0 : decode cX0_deliveredTo 0 = .ok (.aload_n 0, 1) := by decide +kernel
theorem dX0_deliveredTo_1 : decode cX0_deliveredTo 1 = .ok (.iload_n 1, 1) := by decide +kernel
theorem dX0_deliveredTo_2 : decode cX0_deliveredTo 2 = .ok (.invokevirtual 124, 3) := by decide +kernel
theorem dX0_deliveredTo_5 : decode cX0_deliveredTo 5 = .ok (.aload_n 0, 1) := by decide +kernel
theorem dX0_deliveredTo_6 : decode cX0_deliveredTo 6 = .ok (.getfield 54, 3) := by decide +kernel
theorem dX0_deliveredTo_9 : decode cX0_deliveredTo 9 = .ok (.iload_n 1, 1) := by decide +kernel
theorem dX0_deliveredTo_10 : decode cX0_deliveredTo 10 = .ok (.iaload, 1) := by decide +kernel
theorem dX0_deliveredTo_11 : decode cX0_deliveredTo 11 = .ok (.ireturn, 1) := by decide +kernel
set_option maxRecDepth 20000 in
theorem ggX0_standing_X0_requireWithin : GoodIn wsX0_standing wsX0_requireWithin := goodIn_ca (goodIn_r _ [5, 6, 7] (by decide +kernel) (by decide +kernel)) (goodIn_sub (fun _ h => List.mem_cons_of_mem _ (List.mem_append_right _ h)) (by decide +kernel))
set_option maxRecDepth 20000 in
theorem gX0_standing_X0_requireWithin : GoodIn wsX0_standing (va_wsS RX0 69 yX0_requireWithin wsX0_requireWithin) := goodIn_app (goodIn_of _ (by decide +kernel)) ggX0_standing_X0_requireWithin
set_option maxRecDepth 20000 in
theorem ggX0_standing_X0_placeOf : GoodIn wsX0_standing wsX0_placeOf := goodIn_r _ [10] (by decide +kernel) (by decide +kernel)
set_option maxRecDepth 20000 in
theorem gX0_standing_X0_placeOf : GoodIn wsX0_standing (va_wsS RX0 143 yX0_placeOf wsX0_placeOf) := goodIn_app (goodIn_of _ (by decide +kernel)) ggX0_standing_X0_placeOf
set_option maxRecDepth 20000 in
theorem ggX0_standing_X0_isStanding : GoodIn wsX0_standing wsX0_isStanding := goodIn_r _ [14, 15, 16, 17, 18, 19, 20, 21, 22, 23, 24, 25, 26, 27, 28, 29, 30, 31, 32, 33, 34, 35] (by decide +kernel) (by decide +kernel)
set_option maxRecDepth 20000 in
theorem gX0_standing_X0_isStanding : GoodIn wsX0_standing (wsV RX0 127 RX0 yX0_isStanding wsX0_isStanding) := goodIn_app (goodIn_of _ (by decide +kernel)) ggX0_standing_X0_isStanding
theorem dX0_standing_0 : decode cX0_standing 0 = .ok (.iload_n 1, 1) := by decide +kernel
theorem dX0_standing_1 : decode cX0_standing 1 = .ok (.iconst 0, 1) := by decide +kernel
theorem dX0_standing_2 : decode cX0_standing 2 = .ok (.bipush 7, 2) := by decide +kernel
theorem dX0_standing_4 : decode cX0_standing 4 = .ok (.invokestatic 69, 3) := by decide +kernel
theorem dX0_standing_7 : decode cX0_standing 7 = .ok (.iload_n 2, 1) := by decide +kernel
theorem dX0_standing_8 : decode cX0_standing 8 = .ok (.iconst 0, 1) := by decide +kernel
theorem dX0_standing_9 : decode cX0_standing 9 = .ok (.bipush 9, 2) := by decide +kernel
theorem dX0_standing_11 : decode cX0_standing 11 = .ok (.invokestatic 69, 3) := by decide +kernel
theorem dX0_standing_14 : decode cX0_standing 14 = .ok (.aload_n 0, 1) := by decide +kernel
theorem dX0_standing_15 : decode cX0_standing 15 = .ok (.getfield 57, 3) := by decide +kernel
theorem dX0_standing_18 : decode cX0_standing 18 = .ok (.iload_n 1, 1) := by decide +kernel
theorem dX0_standing_19 : decode cX0_standing 19 = .ok (.iload_n 2, 1) := by decide +kernel
theorem dX0_standing_20 : decode cX0_standing 20 = .ok (.invokestatic 143, 3) := by decide +kernel
theorem dX0_standing_23 : decode cX0_standing 23 = .ok (.iaload, 1) := by decide +kernel
theorem dX0_standing_24 : decode cX0_standing 24 = .ok (.istore_n 3, 1) := by decide +kernel
theorem dX0_standing_25 : decode cX0_standing 25 = .ok (.iload_n 3, 1) := by decide +kernel
theorem dX0_standing_26 : decode cX0_standing 26 = .ok (.iconst (-1), 1) := by decide +kernel
theorem dX0_standing_27 : decode cX0_standing 27 = .ok (.if_icmp .eq 15, 3) := by decide +kernel
theorem dX0_standing_30 : decode cX0_standing 30 = .ok (.aload_n 0, 1) := by decide +kernel
theorem dX0_standing_31 : decode cX0_standing 31 = .ok (.iload_n 3, 1) := by decide +kernel
theorem dX0_standing_32 : decode cX0_standing 32 = .ok (.invokevirtual 127, 3) := by decide +kernel
theorem dX0_standing_35 : decode cX0_standing 35 = .ok (.ifCond .eq 7, 3) := by decide +kernel
theorem dX0_standing_38 : decode cX0_standing 38 = .ok (.iload_n 3, 1) := by decide +kernel
theorem dX0_standing_39 : decode cX0_standing 39 = .ok (.goto 4, 3) := by decide +kernel
theorem dX0_standing_42 : decode cX0_standing 42 = .ok (.iconst (-1), 1) := by decide +kernel
theorem dX0_standing_43 : decode cX0_standing 43 = .ok (.ireturn, 1) := by decide +kernel
set_option maxRecDepth 20000 in
theorem ggX0_badge_X0_requireDevice : GoodIn wsX0_badge wsX0_requireDevice := goodIn_ca (goodIn_r _ [7, 8, 9, 10, 23, 24, 25, 26, 27, 28, 29, 30, 31, 32, 33, 34, 35, 36, 37, 38, 39, 40, 41] (by decide +kernel) (by decide +kernel)) (goodIn_sub (fun _ h => List.mem_cons_of_mem _ (List.mem_append_right _ h)) (by decide +kernel))
set_option maxRecDepth 20000 in
theorem gX0_badge_X0_requireDevice : GoodIn wsX0_badge (wsV RX0 84 RX0 yX0_requireDevice wsX0_requireDevice) := goodIn_app (goodIn_of _ (by decide +kernel)) ggX0_badge_X0_requireDevice
set_option maxRecDepth 20000 in
theorem ggX0_badge_X0_has : GoodIn wsX0_badge wsX0_has := goodIn_r _ [13, 14, 15, 6, 16] (by decide +kernel) (by decide +kernel)
set_option maxRecDepth 20000 in
theorem gX0_badge_X0_has : GoodIn wsX0_badge (va_wsS RX0 96 yX0_has wsX0_has) := goodIn_app (goodIn_of _ (by decide +kernel)) ggX0_badge_X0_has
set_option maxRecDepth 20000 in
theorem ggX0_badge_X0_isStanding : GoodIn wsX0_badge wsX0_isStanding := goodIn_r _ [20, 21, 22, 23, 24, 25, 26, 27, 28, 29, 30, 31, 32, 33, 34, 35, 36, 37, 38, 39, 40, 41] (by decide +kernel) (by decide +kernel)
set_option maxRecDepth 20000 in
theorem gX0_badge_X0_isStanding : GoodIn wsX0_badge (wsV RX0 127 RX0 yX0_isStanding wsX0_isStanding) := goodIn_app (goodIn_of _ (by decide +kernel)) ggX0_badge_X0_isStanding
theorem dX0_badge_0 : decode cX0_badge 0 = .ok (.aload_n 0, 1) := by decide +kernel
theorem dX0_badge_1 : decode cX0_badge 1 = .ok (.iload_n 1, 1) := by decide +kernel
theorem dX0_badge_2 : decode cX0_badge 2 = .ok (.invokevirtual 84, 3) := by decide +kernel
theorem dX0_badge_5 : decode cX0_badge 5 = .ok (.iconst 0, 1) := by decide +kernel
theorem dX0_badge_6 : decode cX0_badge 6 = .ok (.istore_n 2, 1) := by decide +kernel
theorem dX0_badge_7 : decode cX0_badge 7 = .ok (.iconst 0, 1) := by decide +kernel
theorem dX0_badge_8 : decode cX0_badge 8 = .ok (.istore_n 3, 1) := by decide +kernel
theorem dX0_badge_9 : decode cX0_badge 9 = .ok (.iload_n 3, 1) := by decide +kernel
theorem dX0_badge_10 : decode cX0_badge 10 = .ok (.aload_n 0, 1) := by decide +kernel
theorem dX0_badge_11 : decode cX0_badge 11 = .ok (.getfield 60, 3) := by decide +kernel
theorem dX0_badge_14 : decode cX0_badge 14 = .ok (.if_icmp .ge 33, 3) := by decide +kernel
theorem dX0_badge_17 : decode cX0_badge 17 = .ok (.aload_n 0, 1) := by decide +kernel
theorem dX0_badge_18 : decode cX0_badge 18 = .ok (.getfield 54, 3) := by decide +kernel
theorem dX0_badge_21 : decode cX0_badge 21 = .ok (.iload_n 3, 1) := by decide +kernel
theorem dX0_badge_22 : decode cX0_badge 22 = .ok (.iaload, 1) := by decide +kernel
theorem dX0_badge_23 : decode cX0_badge 23 = .ok (.iload_n 1, 1) := by decide +kernel
theorem dX0_badge_24 : decode cX0_badge 24 = .ok (.invokestatic 96, 3) := by decide +kernel
theorem dX0_badge_27 : decode cX0_badge 27 = .ok (.ifCond .eq 14, 3) := by decide +kernel
theorem dX0_badge_30 : decode cX0_badge 30 = .ok (.aload_n 0, 1) := by decide +kernel
theorem dX0_badge_31 : decode cX0_badge 31 = .ok (.iload_n 3, 1) := by decide +kernel
theorem dX0_badge_32 : decode cX0_badge 32 = .ok (.invokevirtual 127, 3) := by decide +kernel
theorem dX0_badge_35 : decode cX0_badge 35 = .ok (.ifCond .eq 6, 3) := by decide +kernel
theorem dX0_badge_38 : decode cX0_badge 38 = .ok (.iinc 2 1, 3) := by decide +kernel
theorem dX0_badge_41 : decode cX0_badge 41 = .ok (.iinc 3 1, 3) := by decide +kernel
theorem dX0_badge_44 : decode cX0_badge 44 = .ok (.goto (-35), 3) := by decide +kernel
theorem dX0_badge_47 : decode cX0_badge 47 = .ok (.iload_n 2, 1) := by decide +kernel
theorem dX0_badge_48 : decode cX0_badge 48 = .ok (.ireturn, 1) := by decide +kernel
set_option maxRecDepth 20000 in
theorem ggX0_waiting_X0_requireDevice : GoodIn wsX0_waiting wsX0_requireDevice := goodIn_ca (goodIn_r _ [5, 6, 7, 8, 31, 32, 33, 34, 35, 36, 37, 38, 39, 40, 41, 42, 43, 44, 45, 46, 47, 48, 49] (by decide +kernel) (by decide +kernel)) (goodIn_sub (fun _ h => List.mem_cons_of_mem _ (List.mem_append_right _ h)) (by decide +kernel))
set_option maxRecDepth 20000 in
theorem gX0_waiting_X0_requireDevice : GoodIn wsX0_waiting (wsV RX0 84 RX0 yX0_requireDevice wsX0_requireDevice) := goodIn_app (goodIn_of _ (by decide +kernel)) ggX0_waiting_X0_requireDevice
set_option maxRecDepth 20000 in
theorem ggX0_waiting_X0_countWaiting : GoodIn wsX0_waiting wsX0_countWaiting := goodIn_r _ [12, 13, 14, 15, 16, 4, 17, 18, 19, 20, 21, 22, 23, 24, 25, 26, 27, 28, 29, 30, 31, 32, 33, 34, 35, 36, 37, 38, 39, 40, 41, 42, 43, 44, 45, 46, 47, 48, 49] (by decide +kernel) (by decide +kernel)
set_option maxRecDepth 20000 in
theorem gX0_waiting_X0_countWaiting : GoodIn wsX0_waiting (wsV RX0 102 RX0 yX0_countWaiting wsX0_countWaiting) := goodIn_app (goodIn_of _ (by decide +kernel)) ggX0_waiting_X0_countWaiting
theorem dX0_waiting_0 : decode cX0_waiting 0 = .ok (.aload_n 0, 1) := by decide +kernel
theorem dX0_waiting_1 : decode cX0_waiting 1 = .ok (.iload_n 1, 1) := by decide +kernel
theorem dX0_waiting_2 : decode cX0_waiting 2 = .ok (.invokevirtual 84, 3) := by decide +kernel
theorem dX0_waiting_5 : decode cX0_waiting 5 = .ok (.aload_n 0, 1) := by decide +kernel
theorem dX0_waiting_6 : decode cX0_waiting 6 = .ok (.iload_n 1, 1) := by decide +kernel
theorem dX0_waiting_7 : decode cX0_waiting 7 = .ok (.invokevirtual 102, 3) := by decide +kernel
theorem dX0_waiting_10 : decode cX0_waiting 10 = .ok (.ireturn, 1) := by decide +kernel
set_option maxRecDepth 20000 in
theorem ggX0_quota_X0_requireDevice : GoodIn wsX0_quota wsX0_requireDevice := goodIn_ca (goodIn_r _ [5, 6, 7, 8, 16, 17, 18, 19, 20, 21, 22, 23, 24, 25, 26, 27, 28, 29, 30, 31, 32, 33, 34] (by decide +kernel) (by decide +kernel)) (goodIn_sub (fun _ h => List.mem_cons_of_mem _ (List.mem_append_right _ h)) (by decide +kernel))
set_option maxRecDepth 20000 in
theorem gX0_quota_X0_requireDevice : GoodIn wsX0_quota (wsV RX0 84 RX0 yX0_requireDevice wsX0_requireDevice) := goodIn_app (goodIn_of _ (by decide +kernel)) ggX0_quota_X0_requireDevice
set_option maxRecDepth 20000 in
theorem ggX0_quota_X0_spentToday : GoodIn wsX0_quota wsX0_spentToday := goodIn_r _ [12, 13, 14, 15, 16, 17, 18, 19, 20, 21, 22, 23, 24, 25, 26, 27, 28, 29, 30, 31, 32, 33, 34] (by decide +kernel) (by decide +kernel)
set_option maxRecDepth 20000 in
theorem gX0_quota_X0_spentToday : GoodIn wsX0_quota (wsV RX0 147 RX0 yX0_spentToday wsX0_spentToday) := goodIn_app (goodIn_of _ (by decide +kernel)) ggX0_quota_X0_spentToday
theorem dX0_quota_0 : decode cX0_quota 0 = .ok (.aload_n 0, 1) := by decide +kernel
theorem dX0_quota_1 : decode cX0_quota 1 = .ok (.iload_n 1, 1) := by decide +kernel
theorem dX0_quota_2 : decode cX0_quota 2 = .ok (.invokevirtual 84, 3) := by decide +kernel
theorem dX0_quota_5 : decode cX0_quota 5 = .ok (.iconst 3, 1) := by decide +kernel
theorem dX0_quota_6 : decode cX0_quota 6 = .ok (.aload_n 0, 1) := by decide +kernel
theorem dX0_quota_7 : decode cX0_quota 7 = .ok (.iload_n 1, 1) := by decide +kernel
theorem dX0_quota_8 : decode cX0_quota 8 = .ok (.invokevirtual 147, 3) := by decide +kernel
theorem dX0_quota_11 : decode cX0_quota 11 = .ok (.isub, 1) := by decide +kernel
theorem dX0_quota_12 : decode cX0_quota 12 = .ok (.ireturn, 1) := by decide +kernel
set_option maxRecDepth 20000 in
theorem ggX0_pass_X0_requireWithin : GoodIn wsX0_pass wsX0_requireWithin := goodIn_ca (goodIn_r _ [12, 13, 14] (by decide +kernel) (by decide +kernel)) (goodIn_sub (fun _ h => List.mem_cons_of_mem _ (List.mem_append_right _ h)) (by decide +kernel))
set_option maxRecDepth 20000 in
theorem gX0_pass_X0_requireWithin : GoodIn wsX0_pass (va_wsS RX0 69 yX0_requireWithin wsX0_requireWithin) := goodIn_app (goodIn_of _ (by decide +kernel)) ggX0_pass_X0_requireWithin
set_option maxRecDepth 20000 in
theorem ggX0_pass_X0_nextChance : GoodIn wsX0_pass wsX0_nextChance := goodIn_r _ [18, 3, 19, 20, 5, 6, 7, 8, 21, 22, 23, 11, 24, 25, 26, 27, 28, 29, 30, 31, 32, 33, 34, 93, 94, 95, 96, 97, 98, 99, 100, 101, 102, 103, 104, 105, 106, 107, 108, 109, 110, 111] (by decide +kernel) (by decide +kernel)
set_option maxRecDepth 20000 in
theorem gX0_pass_X0_nextChance : GoodIn wsX0_pass (wsV RX0 153 RX0 yX0_nextChance wsX0_nextChance) := goodIn_app (goodIn_of _ (by decide +kernel)) ggX0_pass_X0_nextChance
set_option maxRecDepth 20000 in
theorem ggX0_pass_X0_deliverNow : GoodIn wsX0_pass wsX0_deliverNow := goodIn_r _ [38, 39, 40, 41, 42, 43, 44, 11, 45, 3, 46, 47, 19, 21, 22, 23, 24, 25, 20, 26, 27, 28, 29, 30, 31, 32, 33, 34, 48, 49, 50, 51, 52, 53, 54, 55, 56, 57, 58, 59, 60, 61, 62, 63, 64, 65, 66, 67, 68, 69, 70, 71, 72, 73, 74, 75, 76, 77, 78, 79, 80, 81, 82, 83, 84, 85, 86, 87, 88, 89, 90, 91, 92, 93, 94, 95, 96, 97, 98, 99, 100, 101, 102, 103, 104, 105, 106, 107, 108, 109, 110, 111] (by decide +kernel) (by decide +kernel)
set_option maxRecDepth 20000 in
theorem gX0_pass_X0_deliverNow : GoodIn wsX0_pass (wsV RX0 92 RX0 yX0_deliverNow wsX0_deliverNow) := goodIn_app (goodIn_of _ (by decide +kernel)) ggX0_pass_X0_deliverNow
theorem dX0_pass_0 : decode cX0_pass 0 = .ok (.iload_n 1, 1) := by decide +kernel
theorem dX0_pass_1 : decode cX0_pass 1 = .ok (.iconst 1, 1) := by decide +kernel
theorem dX0_pass_2 : decode cX0_pass 2 = .ok (.sipush 3000, 3) := by decide +kernel
theorem dX0_pass_5 : decode cX0_pass 5 = .ok (.invokestatic 69, 3) := by decide +kernel
theorem dX0_pass_8 : decode cX0_pass 8 = .ok (.aload_n 0, 1) := by decide +kernel
theorem dX0_pass_9 : decode cX0_pass 9 = .ok (.getfield 63, 3) := by decide +kernel
theorem dX0_pass_12 : decode cX0_pass 12 = .ok (.iload_n 1, 1) := by decide +kernel
theorem dX0_pass_13 : decode cX0_pass 13 = .ok (.iadd, 1) := by decide +kernel
theorem dX0_pass_14 : decode cX0_pass 14 = .ok (.ldc 150, 2) := by decide +kernel
theorem dX0_pass_16 : decode cX0_pass 16 = .ok (.if_icmp .le 13, 3) := by decide +kernel
theorem dX0_pass_19 : decode cX0_pass 19 = .ok (.new 73, 3) := by decide +kernel
theorem dX0_pass_22 : decode cX0_pass 22 = .ok (.dup, 1) := by decide +kernel
theorem dX0_pass_23 : decode cX0_pass 23 = .ok (.ldc 151, 2) := by decide +kernel
theorem dX0_pass_25 : decode cX0_pass 25 = .ok (.invokespecial 77, 3) := by decide +kernel
theorem dX0_pass_28 : decode cX0_pass 28 = .ok (.athrow, 1) := by decide +kernel
theorem dX0_pass_29 : decode cX0_pass 29 = .ok (.aload_n 0, 1) := by decide +kernel
theorem dX0_pass_30 : decode cX0_pass 30 = .ok (.getfield 63, 3) := by decide +kernel
theorem dX0_pass_33 : decode cX0_pass 33 = .ok (.iload_n 1, 1) := by decide +kernel
theorem dX0_pass_34 : decode cX0_pass 34 = .ok (.iadd, 1) := by decide +kernel
theorem dX0_pass_35 : decode cX0_pass 35 = .ok (.istore_n 2, 1) := by decide +kernel
theorem dX0_pass_36 : decode cX0_pass 36 = .ok (.iconst 0, 1) := by decide +kernel
theorem dX0_pass_37 : decode cX0_pass 37 = .ok (.istore_n 3, 1) := by decide +kernel
theorem dX0_pass_38 : decode cX0_pass 38 = .ok (.iconst 0, 1) := by decide +kernel
theorem dX0_pass_39 : decode cX0_pass 39 = .ok (.istore 4, 2) := by decide +kernel
theorem dX0_pass_41 : decode cX0_pass 41 = .ok (.iload 4, 2) := by decide +kernel
theorem dX0_pass_43 : decode cX0_pass 43 = .ok (.iload_n 1, 1) := by decide +kernel
theorem dX0_pass_44 : decode cX0_pass 44 = .ok (.if_icmp .ge 36, 3) := by decide +kernel
theorem dX0_pass_47 : decode cX0_pass 47 = .ok (.aload_n 0, 1) := by decide +kernel
theorem dX0_pass_48 : decode cX0_pass 48 = .ok (.getfield 63, 3) := by decide +kernel
theorem dX0_pass_51 : decode cX0_pass 51 = .ok (.iload_n 2, 1) := by decide +kernel
theorem dX0_pass_52 : decode cX0_pass 52 = .ok (.if_icmp .ge 28, 3) := by decide +kernel
theorem dX0_pass_55 : decode cX0_pass 55 = .ok (.aload_n 0, 1) := by decide +kernel
theorem dX0_pass_56 : decode cX0_pass 56 = .ok (.iload_n 2, 1) := by decide +kernel
theorem dX0_pass_57 : decode cX0_pass 57 = .ok (.aload_n 0, 1) := by decide +kernel
theorem dX0_pass_58 : decode cX0_pass 58 = .ok (.invokevirtual 153, 3) := by decide +kernel
theorem dX0_pass_61 : decode cX0_pass 61 = .ok (.invokestatic 156, 3) := by decide +kernel
theorem dX0_pass_64 : decode cX0_pass 64 = .ok (.putfield 63, 3) := by decide +kernel
theorem dX0_pass_67 : decode cX0_pass 67 = .ok (.iload_n 3, 1) := by decide +kernel
theorem dX0_pass_68 : decode cX0_pass 68 = .ok (.aload_n 0, 1) := by decide +kernel
theorem dX0_pass_69 : decode cX0_pass 69 = .ok (.invokevirtual 92, 3) := by decide +kernel
theorem dX0_pass_72 : decode cX0_pass 72 = .ok (.iadd, 1) := by decide +kernel
theorem dX0_pass_73 : decode cX0_pass 73 = .ok (.istore_n 3, 1) := by decide +kernel
theorem dX0_pass_74 : decode cX0_pass 74 = .ok (.iinc 4 1, 3) := by decide +kernel
theorem dX0_pass_77 : decode cX0_pass 77 = .ok (.goto (-36), 3) := by decide +kernel
theorem dX0_pass_80 : decode cX0_pass 80 = .ok (.iload_n 3, 1) := by decide +kernel
theorem dX0_pass_81 : decode cX0_pass 81 = .ok (.ireturn, 1) := by decide +kernel
theorem dX0_clock_0 : decode cX0_clock 0 = .ok (.aload_n 0, 1) := by decide +kernel
theorem dX0_clock_1 : decode cX0_clock 1 = .ok (.getfield 63, 3) := by decide +kernel
theorem dX0_clock_4 : decode cX0_clock 4 = .ok (.ireturn, 1) := by decide +kernel
theorem dX0_deliveries_0 : decode cX0_deliveries 0 = .ok (.aload_n 0, 1) := by decide +kernel
theorem dX0_deliveries_1 : decode cX0_deliveries 1 = .ok (.getfield 66, 3) := by decide +kernel
theorem dX0_deliveries_4 : decode cX0_deliveries 4 = .ok (.ireturn, 1) := by decide +kernel
theorem dX0_requireWithin_0 : decode cX0_requireWithin 0 = .ok (.iload_n 0, 1) := by decide +kernel
theorem dX0_requireWithin_1 : decode cX0_requireWithin 1 = .ok (.iload_n 1, 1) := by decide +kernel
theorem dX0_requireWithin_2 : decode cX0_requireWithin 2 = .ok (.if_icmp .lt 8, 3) := by decide +kernel
theorem dX0_requireWithin_5 : decode cX0_requireWithin 5 = .ok (.iload_n 0, 1) := by decide +kernel
theorem dX0_requireWithin_6 : decode cX0_requireWithin 6 = .ok (.iload_n 2, 1) := by decide +kernel
theorem dX0_requireWithin_7 : decode cX0_requireWithin 7 = .ok (.if_icmp .le 13, 3) := by decide +kernel
theorem dX0_requireWithin_10 : decode cX0_requireWithin 10 = .ok (.new 161, 3) := by decide +kernel
theorem dX0_requireWithin_13 : decode cX0_requireWithin 13 = .ok (.dup, 1) := by decide +kernel
theorem dX0_requireWithin_14 : decode cX0_requireWithin 14 = .ok (.ldc 163, 2) := by decide +kernel
theorem dX0_requireWithin_16 : decode cX0_requireWithin 16 = .ok (.invokespecial 165, 3) := by decide +kernel
theorem dX0_requireWithin_19 : decode cX0_requireWithin 19 = .ok (.athrow, 1) := by decide +kernel
theorem dX0_requireWithin_20 : decode cX0_requireWithin 20 = .ok (.return_, 1) := by decide +kernel
theorem dX0_requireDevice_0 : decode cX0_requireDevice 0 = .ok (.iload_n 1, 1) := by decide +kernel
theorem dX0_requireDevice_1 : decode cX0_requireDevice 1 = .ok (.ifCond .lt 11, 3) := by decide +kernel
theorem dX0_requireDevice_4 : decode cX0_requireDevice 4 = .ok (.iload_n 1, 1) := by decide +kernel
theorem dX0_requireDevice_5 : decode cX0_requireDevice 5 = .ok (.aload_n 0, 1) := by decide +kernel
theorem dX0_requireDevice_6 : decode cX0_requireDevice 6 = .ok (.getfield 41, 3) := by decide +kernel
theorem dX0_requireDevice_9 : decode cX0_requireDevice 9 = .ok (.if_icmp .lt 13, 3) := by decide +kernel
theorem dX0_requireDevice_12 : decode cX0_requireDevice 12 = .ok (.new 166, 3) := by decide +kernel
theorem dX0_requireDevice_15 : decode cX0_requireDevice 15 = .ok (.dup, 1) := by decide +kernel
theorem dX0_requireDevice_16 : decode cX0_requireDevice 16 = .ok (.ldc 168, 2) := by decide +kernel
theorem dX0_requireDevice_18 : decode cX0_requireDevice 18 = .ok (.invokespecial 170, 3) := by decide +kernel
theorem dX0_requireDevice_21 : decode cX0_requireDevice 21 = .ok (.athrow, 1) := by decide +kernel
theorem dX0_requireDevice_22 : decode cX0_requireDevice 22 = .ok (.return_, 1) := by decide +kernel
theorem dX0_requireNotice_0 : decode cX0_requireNotice 0 = .ok (.iload_n 1, 1) := by decide +kernel
theorem dX0_requireNotice_1 : decode cX0_requireNotice 1 = .ok (.ifCond .lt 11, 3) := by decide +kernel
theorem dX0_requireNotice_4 : decode cX0_requireNotice 4 = .ok (.iload_n 1, 1) := by decide +kernel
theorem dX0_requireNotice_5 : decode cX0_requireNotice 5 = .ok (.aload_n 0, 1) := by decide +kernel
theorem dX0_requireNotice_6 : decode cX0_requireNotice 6 = .ok (.getfield 60, 3) := by decide +kernel
theorem dX0_requireNotice_9 : decode cX0_requireNotice 9 = .ok (.if_icmp .lt 13, 3) := by decide +kernel
theorem dX0_requireNotice_12 : decode cX0_requireNotice 12 = .ok (.new 166, 3) := by decide +kernel
theorem dX0_requireNotice_15 : decode cX0_requireNotice 15 = .ok (.dup, 1) := by decide +kernel
theorem dX0_requireNotice_16 : decode cX0_requireNotice 16 = .ok (.ldc 171, 2) := by decide +kernel
theorem dX0_requireNotice_18 : decode cX0_requireNotice 18 = .ok (.invokespecial 170, 3) := by decide +kernel
theorem dX0_requireNotice_21 : decode cX0_requireNotice 21 = .ok (.athrow, 1) := by decide +kernel
theorem dX0_requireNotice_22 : decode cX0_requireNotice 22 = .ok (.return_, 1) := by decide +kernel
theorem dX0_requireRoomForNotice_0 : decode cX0_requireRoomForNotice 0 = .ok (.aload_n 0, 1) := by decide +kernel
theorem dX0_requireRoomForNotice_1 : decode cX0_requireRoomForNotice 1 = .ok (.getfield 60, 3) := by decide +kernel
theorem dX0_requireRoomForNotice_4 : decode cX0_requireRoomForNotice 4 = .ok (.bipush 120, 2) := by decide +kernel
theorem dX0_requireRoomForNotice_6 : decode cX0_requireRoomForNotice 6 = .ok (.if_icmp .lt 13, 3) := by decide +kernel
theorem dX0_requireRoomForNotice_9 : decode cX0_requireRoomForNotice 9 = .ok (.new 73, 3) := by decide +kernel
theorem dX0_requireRoomForNotice_12 : decode cX0_requireRoomForNotice 12 = .ok (.dup, 1) := by decide +kernel
theorem dX0_requireRoomForNotice_13 : decode cX0_requireRoomForNotice 13 = .ok (.ldc 173, 2) := by decide +kernel
theorem dX0_requireRoomForNotice_15 : decode cX0_requireRoomForNotice 15 = .ok (.invokespecial 77, 3) := by decide +kernel
theorem dX0_requireRoomForNotice_18 : decode cX0_requireRoomForNotice 18 = .ok (.athrow, 1) := by decide +kernel
theorem dX0_requireRoomForNotice_19 : decode cX0_requireRoomForNotice 19 = .ok (.return_, 1) := by decide +kernel
theorem dX0_bitOf_0 : decode cX0_bitOf 0 = .ok (.iconst 1, 1) := by decide +kernel
theorem dX0_bitOf_1 : decode cX0_bitOf 1 = .ok (.iload_n 0, 1) := by decide +kernel
theorem dX0_bitOf_2 : decode cX0_bitOf 2 = .ok (.ishl, 1) := by decide +kernel
theorem dX0_bitOf_3 : decode cX0_bitOf 3 = .ok (.ireturn, 1) := by decide +kernel
set_option maxRecDepth 20000 in
theorem ggX0_has_X0_bitOf : GoodIn wsX0_has wsX0_bitOf := goodIn_r _ [4] (by decide +kernel) (by decide +kernel)
set_option maxRecDepth 20000 in
theorem gX0_has_X0_bitOf : GoodIn wsX0_has (va_wsS RX0 80 yX0_bitOf wsX0_bitOf) := goodIn_app (goodIn_of _ (by decide +kernel)) ggX0_has_X0_bitOf
theorem dX0_has_0 : decode cX0_has 0 = .ok (.iload_n 0, 1) := by decide +kernel
theorem dX0_has_1 : decode cX0_has 1 = .ok (.iload_n 1, 1) := by decide +kernel
theorem dX0_has_2 : decode cX0_has 2 = .ok (.invokestatic 80, 3) := by decide +kernel
theorem dX0_has_5 : decode cX0_has 5 = .ok (.iand, 1) := by decide +kernel
theorem dX0_has_6 : decode cX0_has 6 = .ok (.ifCond .eq 7, 3) := by decide +kernel
theorem dX0_has_9 : decode cX0_has 9 = .ok (.iconst 1, 1) := by decide +kernel
theorem dX0_has_10 : decode cX0_has 10 = .ok (.goto 4, 3) := by decide +kernel
theorem dX0_has_13 : decode cX0_has 13 = .ok (.iconst 0, 1) := by decide +kernel
theorem dX0_has_14 : decode cX0_has 14 = .ok (.ireturn, 1) := by decide +kernel
set_option maxRecDepth 20000 in
theorem ggX0_changed_X0_bitOf : GoodIn wsX0_changed wsX0_bitOf := goodIn_r _ [4] (by decide +kernel) (by decide +kernel)
set_option maxRecDepth 20000 in
theorem gX0_changed_X0_bitOf : GoodIn wsX0_changed (va_wsS RX0 80 yX0_bitOf wsX0_bitOf) := goodIn_app (goodIn_of _ (by decide +kernel)) ggX0_changed_X0_bitOf
theorem dX0_changed_0 : decode cX0_changed 0 = .ok (.iload_n 2, 1) := by decide +kernel
theorem dX0_changed_1 : decode cX0_changed 1 = .ok (.ifCond .eq 12, 3) := by decide +kernel
theorem dX0_changed_4 : decode cX0_changed 4 = .ok (.iload_n 0, 1) := by decide +kernel
theorem dX0_changed_5 : decode cX0_changed 5 = .ok (.iload_n 1, 1) := by decide +kernel
theorem dX0_changed_6 : decode cX0_changed 6 = .ok (.invokestatic 80, 3) := by decide +kernel
theorem dX0_changed_9 : decode cX0_changed 9 = .ok (.ior, 1) := by decide +kernel
theorem dX0_changed_10 : decode cX0_changed 10 = .ok (.goto 11, 3) := by decide +kernel
theorem dX0_changed_13 : decode cX0_changed 13 = .ok (.iload_n 0, 1) := by decide +kernel
theorem dX0_changed_14 : decode cX0_changed 14 = .ok (.iload_n 1, 1) := by decide +kernel
theorem dX0_changed_15 : decode cX0_changed 15 = .ok (.invokestatic 80, 3) := by decide +kernel
theorem dX0_changed_18 : decode cX0_changed 18 = .ok (.iconst (-1), 1) := by decide +kernel
theorem dX0_changed_19 : decode cX0_changed 19 = .ok (.ixor, 1) := by decide +kernel
theorem dX0_changed_20 : decode cX0_changed 20 = .ok (.iand, 1) := by decide +kernel
theorem dX0_changed_21 : decode cX0_changed 21 = .ok (.ireturn, 1) := by decide +kernel
theorem dX0_devicesThatFulfil_0 : decode cX0_devicesThatFulfil 0 = .ok (.iload_n 1, 1) := by decide +kernel
theorem dX0_devicesThatFulfil_1 : decode cX0_devicesThatFulfil 1 = .ok (.lookupswitch 55 #[(0, 27), (1, 41)], 27) := by decide +kernel
theorem dX0_devicesThatFulfil_28 : decode cX0_devicesThatFulfil 28 = .ok (.aload_n 0, 1) := by decide +kernel
theorem dX0_devicesThatFulfil_29 : decode cX0_devicesThatFulfil 29 = .ok (.getfield 13, 3) := by decide +kernel
theorem dX0_devicesThatFulfil_32 : decode cX0_devicesThatFulfil 32 = .ok (.iload_n 2, 1) := by decide +kernel
theorem dX0_devicesThatFulfil_33 : decode cX0_devicesThatFulfil 33 = .ok (.iaload, 1) := by decide +kernel
theorem dX0_devicesThatFulfil_34 : decode cX0_devicesThatFulfil 34 = .ok (.aload_n 0, 1) := by decide +kernel
theorem dX0_devicesThatFulfil_35 : decode cX0_devicesThatFulfil 35 = .ok (.getfield 13, 3) := by decide +kernel
theorem dX0_devicesThatFulfil_38 : decode cX0_devicesThatFulfil 38 = .ok (.iload_n 3, 1) := by decide +kernel
theorem dX0_devicesThatFulfil_39 : decode cX0_devicesThatFulfil 39 = .ok (.iaload, 1) := by decide +kernel
theorem dX0_devicesThatFulfil_40 : decode cX0_devicesThatFulfil 40 = .ok (.iand, 1) := by decide +kernel
theorem dX0_devicesThatFulfil_41 : decode cX0_devicesThatFulfil 41 = .ok (.ireturn, 1) := by decide +kernel
theorem dX0_devicesThatFulfil_42 : decode cX0_devicesThatFulfil 42 = .ok (.aload_n 0, 1) := by decide +kernel
theorem dX0_devicesThatFulfil_43 : decode cX0_devicesThatFulfil 43 = .ok (.getfield 13, 3) := by decide +kernel
theorem dX0_devicesThatFulfil_46 : decode cX0_devicesThatFulfil 46 = .ok (.iload_n 2, 1) := by decide +kernel
theorem dX0_devicesThatFulfil_47 : decode cX0_devicesThatFulfil 47 = .ok (.iaload, 1) := by decide +kernel
theorem dX0_devicesThatFulfil_48 : decode cX0_devicesThatFulfil 48 = .ok (.aload_n 0, 1) := by decide +kernel
theorem dX0_devicesThatFulfil_49 : decode cX0_devicesThatFulfil 49 = .ok (.getfield 13, 3) := by decide +kernel
theorem dX0_devicesThatFulfil_52 : decode cX0_devicesThatFulfil 52 = .ok (.iload_n 3, 1) := by decide +kernel
theorem dX0_devicesThatFulfil_53 : decode cX0_devicesThatFulfil 53 = .ok (.iaload, 1) := by decide +kernel
theorem dX0_devicesThatFulfil_54 : decode cX0_devicesThatFulfil 54 = .ok (.ior, 1) := by decide +kernel
theorem dX0_devicesThatFulfil_55 : decode cX0_devicesThatFulfil 55 = .ok (.ireturn, 1) := by decide +kernel
theorem dX0_devicesThatFulfil_56 : decode cX0_devicesThatFulfil 56 = .ok (.aload_n 0, 1) := by decide +kernel
theorem dX0_devicesThatFulfil_57 : decode cX0_devicesThatFulfil 57 = .ok (.getfield 13, 3) := by decide +kernel
theorem dX0_devicesThatFulfil_60 : decode cX0_devicesThatFulfil 60 = .ok (.iload_n 2, 1) := by decide +kernel
theorem dX0_devicesThatFulfil_61 : decode cX0_devicesThatFulfil 61 = .ok (.iaload, 1) := by decide +kernel
theorem dX0_devicesThatFulfil_62 : decode cX0_devicesThatFulfil 62 = .ok (.aload_n 0, 1) := by decide +kernel
theorem dX0_devicesThatFulfil_63 : decode cX0_devicesThatFulfil 63 = .ok (.getfield 13, 3) := by decide +kernel
theorem dX0_devicesThatFulfil_66 : decode cX0_devicesThatFulfil 66 = .ok (.iload_n 3, 1) := by decide +kernel
theorem dX0_devicesThatFulfil_67 : decode cX0_devicesThatFulfil 67 = .ok (.iaload, 1) := by decide +kernel
theorem dX0_devicesThatFulfil_68 : decode cX0_devicesThatFulfil 68 = .ok (.iconst (-1), 1) := by decide +kernel
theorem dX0_devicesThatFulfil_69 : decode cX0_devicesThatFulfil 69 = .ok (.ixor, 1) := by decide +kernel
theorem dX0_devicesThatFulfil_70 : decode cX0_devicesThatFulfil 70 = .ok (.iand, 1) := by decide +kernel
theorem dX0_devicesThatFulfil_71 : decode cX0_devicesThatFulfil 71 = .ok (.ireturn, 1) := by decide +kernel
theorem dX0_placeOf_0 : decode cX0_placeOf 0 = .ok (.iload_n 0, 1) := by decide +kernel
theorem dX0_placeOf_1 : decode cX0_placeOf 1 = .ok (.bipush 10, 2) := by decide +kernel
theorem dX0_placeOf_3 : decode cX0_placeOf 3 = .ok (.imul, 1) := by decide +kernel
theorem dX0_placeOf_4 : decode cX0_placeOf 4 = .ok (.iload_n 1, 1) := by decide +kernel
theorem dX0_placeOf_5 : decode cX0_placeOf 5 = .ok (.iadd, 1) := by decide +kernel
theorem dX0_placeOf_6 : decode cX0_placeOf 6 = .ok (.ireturn, 1) := by decide +kernel
set_option maxRecDepth 20000 in
theorem ggX0_replaceKey_X0_placeOf : GoodIn wsX0_replaceKey wsX0_placeOf := goodIn_r _ [6] (by decide +kernel) (by decide +kernel)
set_option maxRecDepth 20000 in
theorem gX0_replaceKey_X0_placeOf : GoodIn wsX0_replaceKey (va_wsS RX0 143 yX0_placeOf wsX0_placeOf) := goodIn_app (goodIn_of _ (by decide +kernel)) ggX0_replaceKey_X0_placeOf
set_option maxRecDepth 20000 in
theorem ggX0_replaceKey_X0_isStanding : GoodIn wsX0_replaceKey wsX0_isStanding := goodIn_r _ [10, 11, 12, 17, 18, 19, 20, 21, 22, 23, 24, 25, 26, 27, 28, 29, 30, 31, 32, 33, 34, 35] (by decide +kernel) (by decide +kernel)
set_option maxRecDepth 20000 in
theorem gX0_replaceKey_X0_isStanding : GoodIn wsX0_replaceKey (wsV RX0 127 RX0 yX0_isStanding wsX0_isStanding) := goodIn_app (goodIn_of _ (by decide +kernel)) ggX0_replaceKey_X0_isStanding
set_option maxRecDepth 20000 in
theorem ggX0_replaceKey_X0_withdraw : GoodIn wsX0_replaceKey wsX0_withdraw := goodIn_r _ [16, 12, 11, 17, 18, 19, 20, 21, 22, 23, 24, 25, 26, 27, 28, 29, 30, 31, 32, 33, 34, 35] (by decide +kernel) (by decide +kernel)
set_option maxRecDepth 20000 in
theorem gX0_replaceKey_X0_withdraw : GoodIn wsX0_replaceKey (wsV RX0 140 RX0 yX0_withdraw wsX0_withdraw) := goodIn_app (goodIn_of _ (by decide +kernel)) ggX0_replaceKey_X0_withdraw
theorem dX0_replaceKey_0 : decode cX0_replaceKey 0 = .ok (.iload_n 1, 1) := by decide +kernel
theorem dX0_replaceKey_1 : decode cX0_replaceKey 1 = .ok (.iload_n 2, 1) := by decide +kernel
theorem dX0_replaceKey_2 : decode cX0_replaceKey 2 = .ok (.invokestatic 143, 3) := by decide +kernel
theorem dX0_replaceKey_5 : decode cX0_replaceKey 5 = .ok (.istore_n 3, 1) := by decide +kernel
theorem dX0_replaceKey_6 : decode cX0_replaceKey 6 = .ok (.aload_n 0, 1) := by decide +kernel
theorem dX0_replaceKey_7 : decode cX0_replaceKey 7 = .ok (.getfield 57, 3) := by decide +kernel
theorem dX0_replaceKey_10 : decode cX0_replaceKey 10 = .ok (.iload_n 3, 1) := by decide +kernel
theorem dX0_replaceKey_11 : decode cX0_replaceKey 11 = .ok (.iaload, 1) := by decide +kernel
theorem dX0_replaceKey_12 : decode cX0_replaceKey 12 = .ok (.istore 4, 2) := by decide +kernel
theorem dX0_replaceKey_14 : decode cX0_replaceKey 14 = .ok (.iload 4, 2) := by decide +kernel
theorem dX0_replaceKey_16 : decode cX0_replaceKey 16 = .ok (.iconst (-1), 1) := by decide +kernel
theorem dX0_replaceKey_17 : decode cX0_replaceKey 17 = .ok (.if_icmp .eq 18, 3) := by decide +kernel
theorem dX0_replaceKey_20 : decode cX0_replaceKey 20 = .ok (.aload_n 0, 1) := by decide +kernel
theorem dX0_replaceKey_21 : decode cX0_replaceKey 21 = .ok (.iload 4, 2) := by decide +kernel
theorem dX0_replaceKey_23 : decode cX0_replaceKey 23 = .ok (.invokevirtual 127, 3) := by decide +kernel
theorem dX0_replaceKey_26 : decode cX0_replaceKey 26 = .ok (.ifCond .eq 9, 3) := by decide +kernel
theorem dX0_replaceKey_29 : decode cX0_replaceKey 29 = .ok (.aload_n 0, 1) := by decide +kernel
theorem dX0_replaceKey_30 : decode cX0_replaceKey 30 = .ok (.iload 4, 2) := by decide +kernel
theorem dX0_replaceKey_32 : decode cX0_replaceKey 32 = .ok (.invokevirtual 140, 3) := by decide +kernel
theorem dX0_replaceKey_35 : decode cX0_replaceKey 35 = .ok (.aload_n 0, 1) := by decide +kernel
theorem dX0_replaceKey_36 : decode cX0_replaceKey 36 = .ok (.getfield 57, 3) := by decide +kernel
theorem dX0_replaceKey_39 : decode cX0_replaceKey 39 = .ok (.iload_n 3, 1) := by decide +kernel
theorem dX0_replaceKey_40 : decode cX0_replaceKey 40 = .ok (.aload_n 0, 1) := by decide +kernel
theorem dX0_replaceKey_41 : decode cX0_replaceKey 41 = .ok (.getfield 60, 3) := by decide +kernel
theorem dX0_replaceKey_44 : decode cX0_replaceKey 44 = .ok (.iastore, 1) := by decide +kernel
theorem dX0_replaceKey_45 : decode cX0_replaceKey 45 = .ok (.return_, 1) := by decide +kernel
set_option maxRecDepth 20000 in
theorem ggX0_sendTo_X0_deliverNow : GoodIn wsX0_sendTo wsX0_deliverNow := goodIn_r _ [11, 12, 1, 2, 13, 14, 15, 10, 16, 4, 17, 18, 19, 20, 21, 22, 23, 24, 25, 26, 27, 28, 29, 30, 31, 32, 33, 34, 35, 36, 37, 38, 39, 40, 41, 42, 43, 44, 5, 45, 46, 47, 48, 3, 49, 50, 51, 52, 53, 54, 55, 56, 57, 58, 59, 60, 61, 62, 63, 64, 65, 66, 67, 68, 69, 70, 71, 72, 73, 74, 75, 76, 77, 78, 79, 80, 81, 82, 83, 84, 85, 86, 87, 88, 89, 90, 91, 92, 93, 94, 95, 96] (by decide +kernel) (by decide +kernel)
set_option maxRecDepth 20000 in
theorem gX0_sendTo_X0_deliverNow : GoodIn wsX0_sendTo (wsV RX0 92 RX0 yX0_deliverNow wsX0_deliverNow) := goodIn_app (goodIn_of _ (by decide +kernel)) ggX0_sendTo_X0_deliverNow
theorem dX0_sendTo_0 : decode cX0_sendTo 0 = .ok (.aload_n 0, 1) := by decide +kernel
theorem dX0_sendTo_1 : decode cX0_sendTo 1 = .ok (.getfield 60, 3) := by decide +kernel
theorem dX0_sendTo_4 : decode cX0_sendTo 4 = .ok (.istore 4, 2) := by decide +kernel
theorem dX0_sendTo_6 : decode cX0_sendTo 6 = .ok (.aload_n 0, 1) := by decide +kernel
theorem dX0_sendTo_7 : decode cX0_sendTo 7 = .ok (.dup, 1) := by decide +kernel
theorem dX0_sendTo_8 : decode cX0_sendTo 8 = .ok (.getfield 60, 3) := by decide +kernel
theorem dX0_sendTo_11 : decode cX0_sendTo 11 = .ok (.iconst 1, 1) := by decide +kernel
theorem dX0_sendTo_12 : decode cX0_sendTo 12 = .ok (.iadd, 1) := by decide +kernel
theorem dX0_sendTo_13 : decode cX0_sendTo 13 = .ok (.putfield 60, 3) := by decide +kernel
theorem dX0_sendTo_16 : decode cX0_sendTo 16 = .ok (.aload_n 0, 1) := by decide +kernel
theorem dX0_sendTo_17 : decode cX0_sendTo 17 = .ok (.getfield 44, 3) := by decide +kernel
theorem dX0_sendTo_20 : decode cX0_sendTo 20 = .ok (.iload 4, 2) := by decide +kernel
theorem dX0_sendTo_22 : decode cX0_sendTo 22 = .ok (.iload_n 2, 1) := by decide +kernel
theorem dX0_sendTo_23 : decode cX0_sendTo 23 = .ok (.bastore, 1) := by decide +kernel
theorem dX0_sendTo_24 : decode cX0_sendTo 24 = .ok (.aload_n 0, 1) := by decide +kernel
theorem dX0_sendTo_25 : decode cX0_sendTo 25 = .ok (.getfield 48, 3) := by decide +kernel
theorem dX0_sendTo_28 : decode cX0_sendTo 28 = .ok (.iload 4, 2) := by decide +kernel
theorem dX0_sendTo_30 : decode cX0_sendTo 30 = .ok (.aload_n 0, 1) := by decide +kernel
theorem dX0_sendTo_31 : decode cX0_sendTo 31 = .ok (.getfield 63, 3) := by decide +kernel
theorem dX0_sendTo_34 : decode cX0_sendTo 34 = .ok (.iload_n 3, 1) := by decide +kernel
theorem dX0_sendTo_35 : decode cX0_sendTo 35 = .ok (.iadd, 1) := by decide +kernel
theorem dX0_sendTo_36 : decode cX0_sendTo 36 = .ok (.iastore, 1) := by decide +kernel
theorem dX0_sendTo_37 : decode cX0_sendTo 37 = .ok (.aload_n 0, 1) := by decide +kernel
theorem dX0_sendTo_38 : decode cX0_sendTo 38 = .ok (.getfield 51, 3) := by decide +kernel
theorem dX0_sendTo_41 : decode cX0_sendTo 41 = .ok (.iload 4, 2) := by decide +kernel
theorem dX0_sendTo_43 : decode cX0_sendTo 43 = .ok (.iload_n 1, 1) := by decide +kernel
theorem dX0_sendTo_44 : decode cX0_sendTo 44 = .ok (.aload_n 0, 1) := by decide +kernel
theorem dX0_sendTo_45 : decode cX0_sendTo 45 = .ok (.getfield 16, 3) := by decide +kernel
theorem dX0_sendTo_48 : decode cX0_sendTo 48 = .ok (.iand, 1) := by decide +kernel
theorem dX0_sendTo_49 : decode cX0_sendTo 49 = .ok (.iastore, 1) := by decide +kernel
theorem dX0_sendTo_50 : decode cX0_sendTo 50 = .ok (.aload_n 0, 1) := by decide +kernel
theorem dX0_sendTo_51 : decode cX0_sendTo 51 = .ok (.invokevirtual 92, 3) := by decide +kernel
theorem dX0_sendTo_54 : decode cX0_sendTo 54 = .ok (.pop, 1) := by decide +kernel
theorem dX0_sendTo_55 : decode cX0_sendTo 55 = .ok (.iload 4, 2) := by decide +kernel
theorem dX0_sendTo_57 : decode cX0_sendTo 57 = .ok (.ireturn, 1) := by decide +kernel
theorem dX0_withdraw_0 : decode cX0_withdraw 0 = .ok (.aload_n 0, 1) := by decide +kernel
theorem dX0_withdraw_1 : decode cX0_withdraw 1 = .ok (.getfield 48, 3) := by decide +kernel
theorem dX0_withdraw_4 : decode cX0_withdraw 4 = .ok (.iload_n 1, 1) := by decide +kernel
theorem dX0_withdraw_5 : decode cX0_withdraw 5 = .ok (.aload_n 0, 1) := by decide +kernel
theorem dX0_withdraw_6 : decode cX0_withdraw 6 = .ok (.getfield 63, 3) := by decide +kernel
theorem dX0_withdraw_9 : decode cX0_withdraw 9 = .ok (.iastore, 1) := by decide +kernel
theorem dX0_withdraw_10 : decode cX0_withdraw 10 = .ok (.return_, 1) := by decide +kernel
theorem dX0_isStanding_0 : decode cX0_isStanding 0 = .ok (.aload_n 0, 1) := by decide +kernel
theorem dX0_isStanding_1 : decode cX0_isStanding 1 = .ok (.getfield 63, 3) := by decide +kernel
theorem dX0_isStanding_4 : decode cX0_isStanding 4 = .ok (.aload_n 0, 1) := by decide +kernel
theorem dX0_isStanding_5 : decode cX0_isStanding 5 = .ok (.getfield 48, 3) := by decide +kernel
theorem dX0_isStanding_8 : decode cX0_isStanding 8 = .ok (.iload_n 1, 1) := by decide +kernel
theorem dX0_isStanding_9 : decode cX0_isStanding 9 = .ok (.iaload, 1) := by decide +kernel
theorem dX0_isStanding_10 : decode cX0_isStanding 10 = .ok (.if_icmp .ge 7, 3) := by decide +kernel
theorem dX0_isStanding_13 : decode cX0_isStanding 13 = .ok (.iconst 1, 1) := by decide +kernel
theorem dX0_isStanding_14 : decode cX0_isStanding 14 = .ok (.goto 4, 3) := by decide +kernel
theorem dX0_isStanding_17 : decode cX0_isStanding 17 = .ok (.iconst 0, 1) := by decide +kernel
theorem dX0_isStanding_18 : decode cX0_isStanding 18 = .ok (.ireturn, 1) := by decide +kernel
set_option maxRecDepth 20000 in
theorem ggX0_waitsNow_X0_isStanding : GoodIn wsX0_waitsNow wsX0_isStanding := goodIn_r _ [6, 7, 8, 9, 10, 11, 12, 13, 14, 15, 16, 17, 18, 19, 20, 21, 22, 23, 24, 25, 26, 27] (by decide +kernel) (by decide +kernel)
set_option maxRecDepth 20000 in
theorem gX0_waitsNow_X0_isStanding : GoodIn wsX0_waitsNow (wsV RX0 127 RX0 yX0_isStanding wsX0_isStanding) := goodIn_app (goodIn_of _ (by decide +kernel)) ggX0_waitsNow_X0_isStanding
theorem dX0_waitsNow_0 : decode cX0_waitsNow 0 = .ok (.aload_n 0, 1) := by decide +kernel
theorem dX0_waitsNow_1 : decode cX0_waitsNow 1 = .ok (.iload_n 1, 1) := by decide +kernel
theorem dX0_waitsNow_2 : decode cX0_waitsNow 2 = .ok (.invokevirtual 127, 3) := by decide +kernel
theorem dX0_waitsNow_5 : decode cX0_waitsNow 5 = .ok (.ifCond .eq 12, 3) := by decide +kernel
theorem dX0_waitsNow_8 : decode cX0_waitsNow 8 = .ok (.aload_n 0, 1) := by decide +kernel
theorem dX0_waitsNow_9 : decode cX0_waitsNow 9 = .ok (.getfield 51, 3) := by decide +kernel
theorem dX0_waitsNow_12 : decode cX0_waitsNow 12 = .ok (.iload_n 1, 1) := by decide +kernel
theorem dX0_waitsNow_13 : decode cX0_waitsNow 13 = .ok (.iaload, 1) := by decide +kernel
theorem dX0_waitsNow_14 : decode cX0_waitsNow 14 = .ok (.goto 4, 3) := by decide +kernel
theorem dX0_waitsNow_17 : decode cX0_waitsNow 17 = .ok (.iconst 0, 1) := by decide +kernel
theorem dX0_waitsNow_18 : decode cX0_waitsNow 18 = .ok (.ireturn, 1) := by decide +kernel
set_option maxRecDepth 20000 in
theorem ggX0_countWaiting_X0_waitsNow : GoodIn wsX0_countWaiting wsX0_waitsNow := goodIn_r _ [6, 7, 8, 9, 10, 5, 11, 12, 13, 20, 21, 22, 23, 24, 25, 26, 27, 28, 29, 30, 31, 32, 33, 34, 35, 36, 37, 38] (by decide +kernel) (by decide +kernel)
set_option maxRecDepth 20000 in
theorem gX0_countWaiting_X0_waitsNow : GoodIn wsX0_countWaiting (wsV RX0 132 RX0 yX0_waitsNow wsX0_waitsNow) := goodIn_app (goodIn_of _ (by decide +kernel)) ggX0_countWaiting_X0_waitsNow
set_option maxRecDepth 20000 in
theorem ggX0_countWaiting_X0_has : GoodIn wsX0_countWaiting wsX0_has := goodIn_r _ [16, 17, 18, 5, 19] (by decide +kernel) (by decide +kernel)
set_option maxRecDepth 20000 in
theorem gX0_countWaiting_X0_has : GoodIn wsX0_countWaiting (va_wsS RX0 96 yX0_has wsX0_has) := goodIn_app (goodIn_of _ (by decide +kernel)) ggX0_countWaiting_X0_has
theorem dX0_countWaiting_0 : decode cX0_countWaiting 0 = .ok (.iconst 0, 1) := by decide +kernel
theorem dX0_countWaiting_1 : decode cX0_countWaiting 1 = .ok (.istore_n 2, 1) := by decide +kernel
theorem dX0_countWaiting_2 : decode cX0_countWaiting 2 = .ok (.iconst 0, 1) := by decide +kernel
theorem dX0_countWaiting_3 : decode cX0_countWaiting 3 = .ok (.istore_n 3, 1) := by decide +kernel
theorem dX0_countWaiting_4 : decode cX0_countWaiting 4 = .ok (.iload_n 3, 1) := by decide +kernel
theorem dX0_countWaiting_5 : decode cX0_countWaiting 5 = .ok (.aload_n 0, 1) := by decide +kernel
theorem dX0_countWaiting_6 : decode cX0_countWaiting 6 = .ok (.getfield 60, 3) := by decide +kernel
theorem dX0_countWaiting_9 : decode cX0_countWaiting 9 = .ok (.if_icmp .ge 24, 3) := by decide +kernel
theorem dX0_countWaiting_12 : decode cX0_countWaiting 12 = .ok (.aload_n 0, 1) := by decide +kernel
theorem dX0_countWaiting_13 : decode cX0_countWaiting 13 = .ok (.iload_n 3, 1) := by decide +kernel
theorem dX0_countWaiting_14 : decode cX0_countWaiting 14 = .ok (.invokevirtual 132, 3) := by decide +kernel
theorem dX0_countWaiting_17 : decode cX0_countWaiting 17 = .ok (.iload_n 1, 1) := by decide +kernel
theorem dX0_countWaiting_18 : decode cX0_countWaiting 18 = .ok (.invokestatic 96, 3) := by decide +kernel
theorem dX0_countWaiting_21 : decode cX0_countWaiting 21 = .ok (.ifCond .eq 6, 3) := by decide +kernel
theorem dX0_countWaiting_24 : decode cX0_countWaiting 24 = .ok (.iinc 2 1, 3) := by decide +kernel
theorem dX0_countWaiting_27 : decode cX0_countWaiting 27 = .ok (.iinc 3 1, 3) := by decide +kernel
theorem dX0_countWaiting_30 : decode cX0_countWaiting 30 = .ok (.goto (-26), 3) := by decide +kernel
theorem dX0_countWaiting_33 : decode cX0_countWaiting 33 = .ok (.iload_n 2, 1) := by decide +kernel
theorem dX0_countWaiting_34 : decode cX0_countWaiting 34 = .ok (.ireturn, 1) := by decide +kernel
set_option maxRecDepth 20000 in
theorem ggX0_localTime_J9_floorMod_7cf53 : GoodIn wsX0_localTime wsJ9_floorMod_7cf53 := goodIn_r _ [6] (by decide +kernel) (by decide +kernel)
set_option maxRecDepth 20000 in
theorem gX0_localTime_J9_floorMod_7cf53 : GoodIn wsX0_localTime (va_wsS RX0 175 yJ9_floorMod_7cf53 wsJ9_floorMod_7cf53) := goodIn_app (goodIn_of _ (by decide +kernel)) ggX0_localTime_J9_floorMod_7cf53
theorem dX0_localTime_0 : decode cX0_localTime 0 = .ok (.aload_n 0, 1) := by decide +kernel
theorem dX0_localTime_1 : decode cX0_localTime 1 = .ok (.getfield 63, 3) := by decide +kernel
theorem dX0_localTime_4 : decode cX0_localTime 4 = .ok (.aload_n 0, 1) := by decide +kernel
theorem dX0_localTime_5 : decode cX0_localTime 5 = .ok (.getfield 26, 3) := by decide +kernel
theorem dX0_localTime_8 : decode cX0_localTime 8 = .ok (.iload_n 1, 1) := by decide +kernel
theorem dX0_localTime_9 : decode cX0_localTime 9 = .ok (.iaload, 1) := by decide +kernel
theorem dX0_localTime_10 : decode cX0_localTime 10 = .ok (.iadd, 1) := by decide +kernel
theorem dX0_localTime_11 : decode cX0_localTime 11 = .ok (.sipush 1440, 3) := by decide +kernel
theorem dX0_localTime_14 : decode cX0_localTime 14 = .ok (.invokestatic 175, 3) := by decide +kernel
theorem dX0_localTime_17 : decode cX0_localTime 17 = .ok (.ireturn, 1) := by decide +kernel
set_option maxRecDepth 20000 in
theorem ggX0_isInQuietHours_X0_localTime : GoodIn wsX0_isInQuietHours wsX0_localTime := goodIn_r _ [7, 8, 9, 10, 11, 12, 13, 14, 15, 16, 17, 18, 19, 20, 21, 22, 23, 24, 25, 26, 27, 28, 29, 30, 31, 32] (by decide +kernel) (by decide +kernel)
set_option maxRecDepth 20000 in
theorem gX0_isInQuietHours_X0_localTime : GoodIn wsX0_isInQuietHours (wsV RX0 178 RX0 yX0_localTime wsX0_localTime) := goodIn_app (goodIn_of _ (by decide +kernel)) ggX0_isInQuietHours_X0_localTime
set_option maxRecDepth 20000 in
theorem ggX0_isInQuietHours_J9_floorMod_7cf53 : GoodIn wsX0_isInQuietHours wsJ9_floorMod_7cf53 := goodIn_r _ [13] (by decide +kernel) (by decide +kernel)
end
section
set_option maxRecDepth 20000 in
theorem gX0_isInQuietHours_J9_floorMod_7cf53 : GoodIn wsX0_isInQuietHours (va_wsS RX0 175 yJ9_floorMod_7cf53 wsJ9_floorMod_7cf53) := goodIn_app (goodIn_of _ (by decide +kernel)) ggX0_isInQuietHours_J9_floorMod_7cf53
theorem dX0_isInQuietHours_0 : decode cX0_isInQuietHours 0 = .ok (.aload_n 0, 1) := by decide +kernel
theorem dX0_isInQuietHours_1 : decode cX0_isInQuietHours 1 = .ok (.iload_n 1, 1) := by decide +kernel
theorem dX0_isInQuietHours_2 : decode cX0_isInQuietHours 2 = .ok (.invokevirtual 178, 3) := by decide +kernel
theorem dX0_isInQuietHours_5 : decode cX0_isInQuietHours 5 = .ok (.aload_n 0, 1) := by decide +kernel
theorem dX0_isInQuietHours_6 : decode cX0_isInQuietHours 6 = .ok (.getfield 29, 3) := by decide +kernel
theorem dX0_isInQuietHours_9 : decode cX0_isInQuietHours 9 = .ok (.iload_n 1, 1) := by decide +kernel
theorem dX0_isInQuietHours_10 : decode cX0_isInQuietHours 10 = .ok (.iaload, 1) := by decide +kernel
theorem dX0_isInQuietHours_11 : decode cX0_isInQuietHours 11 = .ok (.isub, 1) := by decide +kernel
theorem dX0_isInQuietHours_12 : decode cX0_isInQuietHours 12 = .ok (.sipush 1440, 3) := by decide +kernel
theorem dX0_isInQuietHours_15 : decode cX0_isInQuietHours 15 = .ok (.invokestatic 175, 3) := by decide +kernel
theorem dX0_isInQuietHours_18 : decode cX0_isInQuietHours 18 = .ok (.istore_n 2, 1) := by decide +kernel
theorem dX0_isInQuietHours_19 : decode cX0_isInQuietHours 19 = .ok (.aload_n 0, 1) := by decide +kernel
theorem dX0_isInQuietHours_20 : decode cX0_isInQuietHours 20 = .ok (.getfield 32, 3) := by decide +kernel
theorem dX0_isInQuietHours_23 : decode cX0_isInQuietHours 23 = .ok (.iload_n 1, 1) := by decide +kernel
theorem dX0_isInQuietHours_24 : decode cX0_isInQuietHours 24 = .ok (.iaload, 1) := by decide +kernel
theorem dX0_isInQuietHours_25 : decode cX0_isInQuietHours 25 = .ok (.aload_n 0, 1) := by decide +kernel
theorem dX0_isInQuietHours_26 : decode cX0_isInQuietHours 26 = .ok (.getfield 29, 3) := by decide +kernel
theorem dX0_isInQuietHours_29 : decode cX0_isInQuietHours 29 = .ok (.iload_n 1, 1) := by decide +kernel
theorem dX0_isInQuietHours_30 : decode cX0_isInQuietHours 30 = .ok (.iaload, 1) := by decide +kernel
theorem dX0_isInQuietHours_31 : decode cX0_isInQuietHours 31 = .ok (.isub, 1) := by decide +kernel
theorem dX0_isInQuietHours_32 : decode cX0_isInQuietHours 32 = .ok (.sipush 1440, 3) := by decide +kernel
theorem dX0_isInQuietHours_35 : decode cX0_isInQuietHours 35 = .ok (.invokestatic 175, 3) := by decide +kernel
theorem dX0_isInQuietHours_38 : decode cX0_isInQuietHours 38 = .ok (.istore_n 3, 1) := by decide +kernel
theorem dX0_isInQuietHours_39 : decode cX0_isInQuietHours 39 = .ok (.iload_n 2, 1) := by decide +kernel
theorem dX0_isInQuietHours_40 : decode cX0_isInQuietHours 40 = .ok (.iload_n 3, 1) := by decide +kernel
theorem dX0_isInQuietHours_41 : decode cX0_isInQuietHours 41 = .ok (.if_icmp .ge 7, 3) := by decide +kernel
theorem dX0_isInQuietHours_44 : decode cX0_isInQuietHours 44 = .ok (.iconst 1, 1) := by decide +kernel
theorem dX0_isInQuietHours_45 : decode cX0_isInQuietHours 45 = .ok (.goto 4, 3) := by decide +kernel
theorem dX0_isInQuietHours_48 : decode cX0_isInQuietHours 48 = .ok (.iconst 0, 1) := by decide +kernel
theorem dX0_isInQuietHours_49 : decode cX0_isInQuietHours 49 = .ok (.ireturn, 1) := by decide +kernel
theorem dX0_spentToday_0 : decode cX0_spentToday 0 = .ok (.aload_n 0, 1) := by decide +kernel
theorem dX0_spentToday_1 : decode cX0_spentToday 1 = .ok (.getfield 35, 3) := by decide +kernel
theorem dX0_spentToday_4 : decode cX0_spentToday 4 = .ok (.iload_n 1, 1) := by decide +kernel
theorem dX0_spentToday_5 : decode cX0_spentToday 5 = .ok (.iaload, 1) := by decide +kernel
theorem dX0_spentToday_6 : decode cX0_spentToday 6 = .ok (.aload_n 0, 1) := by decide +kernel
theorem dX0_spentToday_7 : decode cX0_spentToday 7 = .ok (.getfield 63, 3) := by decide +kernel
theorem dX0_spentToday_10 : decode cX0_spentToday 10 = .ok (.sipush 1440, 3) := by decide +kernel
theorem dX0_spentToday_13 : decode cX0_spentToday 13 = .ok (.idiv, 1) := by decide +kernel
theorem dX0_spentToday_14 : decode cX0_spentToday 14 = .ok (.if_icmp .ne 12, 3) := by decide +kernel
theorem dX0_spentToday_17 : decode cX0_spentToday 17 = .ok (.aload_n 0, 1) := by decide +kernel
theorem dX0_spentToday_18 : decode cX0_spentToday 18 = .ok (.getfield 38, 3) := by decide +kernel
theorem dX0_spentToday_21 : decode cX0_spentToday 21 = .ok (.iload_n 1, 1) := by decide +kernel
theorem dX0_spentToday_22 : decode cX0_spentToday 22 = .ok (.iaload, 1) := by decide +kernel
theorem dX0_spentToday_23 : decode cX0_spentToday 23 = .ok (.goto 4, 3) := by decide +kernel
theorem dX0_spentToday_26 : decode cX0_spentToday 26 = .ok (.iconst 0, 1) := by decide +kernel
theorem dX0_spentToday_27 : decode cX0_spentToday 27 = .ok (.ireturn, 1) := by decide +kernel
set_option maxRecDepth 20000 in
theorem ggX0_spendQuota_X0_has : GoodIn wsX0_spendQuota wsX0_has := goodIn_r _ [8, 9, 10, 7, 11] (by decide +kernel) (by decide +kernel)
set_option maxRecDepth 20000 in
theorem gX0_spendQuota_X0_has : GoodIn wsX0_spendQuota (va_wsS RX0 96 yX0_has wsX0_has) := goodIn_app (goodIn_of _ (by decide +kernel)) ggX0_spendQuota_X0_has
set_option maxRecDepth 20000 in
theorem ggX0_spendQuota_X0_spentToday : GoodIn wsX0_spendQuota wsX0_spentToday := goodIn_r _ [15, 3, 4, 2, 16, 17, 18, 19, 20, 21, 22, 23, 24, 25, 26, 27, 28, 29, 30, 31, 32, 33, 34] (by decide +kernel) (by decide +kernel)
set_option maxRecDepth 20000 in
theorem gX0_spendQuota_X0_spentToday : GoodIn wsX0_spendQuota (wsV RX0 147 RX0 yX0_spentToday wsX0_spentToday) := goodIn_app (goodIn_of _ (by decide +kernel)) ggX0_spendQuota_X0_spentToday
theorem dX0_spendQuota_0 : decode cX0_spendQuota 0 = .ok (.iconst 0, 1) := by decide +kernel
theorem dX0_spendQuota_1 : decode cX0_spendQuota 1 = .ok (.istore_n 2, 1) := by decide +kernel
theorem dX0_spendQuota_2 : decode cX0_spendQuota 2 = .ok (.iload_n 2, 1) := by decide +kernel
theorem dX0_spendQuota_3 : decode cX0_spendQuota 3 = .ok (.aload_n 0, 1) := by decide +kernel
theorem dX0_spendQuota_4 : decode cX0_spendQuota 4 = .ok (.getfield 41, 3) := by decide +kernel
theorem dX0_spendQuota_7 : decode cX0_spendQuota 7 = .ok (.if_icmp .ge 44, 3) := by decide +kernel
theorem dX0_spendQuota_10 : decode cX0_spendQuota 10 = .ok (.iload_n 1, 1) := by decide +kernel
theorem dX0_spendQuota_11 : decode cX0_spendQuota 11 = .ok (.iload_n 2, 1) := by decide +kernel
theorem dX0_spendQuota_12 : decode cX0_spendQuota 12 = .ok (.invokestatic 96, 3) := by decide +kernel
theorem dX0_spendQuota_15 : decode cX0_spendQuota 15 = .ok (.ifCond .eq 30, 3) := by decide +kernel
theorem dX0_spendQuota_18 : decode cX0_spendQuota 18 = .ok (.aload_n 0, 1) := by decide +kernel
theorem dX0_spendQuota_19 : decode cX0_spendQuota 19 = .ok (.getfield 38, 3) := by decide +kernel
theorem dX0_spendQuota_22 : decode cX0_spendQuota 22 = .ok (.iload_n 2, 1) := by decide +kernel
theorem dX0_spendQuota_23 : decode cX0_spendQuota 23 = .ok (.aload_n 0, 1) := by decide +kernel
theorem dX0_spendQuota_24 : decode cX0_spendQuota 24 = .ok (.iload_n 2, 1) := by decide +kernel
theorem dX0_spendQuota_25 : decode cX0_spendQuota 25 = .ok (.invokevirtual 147, 3) := by decide +kernel
theorem dX0_spendQuota_28 : decode cX0_spendQuota 28 = .ok (.iconst 1, 1) := by decide +kernel
theorem dX0_spendQuota_29 : decode cX0_spendQuota 29 = .ok (.iadd, 1) := by decide +kernel
theorem dX0_spendQuota_30 : decode cX0_spendQuota 30 = .ok (.iastore, 1) := by decide +kernel
theorem dX0_spendQuota_31 : decode cX0_spendQuota 31 = .ok (.aload_n 0, 1) := by decide +kernel
theorem dX0_spendQuota_32 : decode cX0_spendQuota 32 = .ok (.getfield 35, 3) := by decide +kernel
theorem dX0_spendQuota_35 : decode cX0_spendQuota 35 = .ok (.iload_n 2, 1) := by decide +kernel
theorem dX0_spendQuota_36 : decode cX0_spendQuota 36 = .ok (.aload_n 0, 1) := by decide +kernel
theorem dX0_spendQuota_37 : decode cX0_spendQuota 37 = .ok (.getfield 63, 3) := by decide +kernel
theorem dX0_spendQuota_40 : decode cX0_spendQuota 40 = .ok (.sipush 1440, 3) := by decide +kernel
theorem dX0_spendQuota_43 : decode cX0_spendQuota 43 = .ok (.idiv, 1) := by decide +kernel
theorem dX0_spendQuota_44 : decode cX0_spendQuota 44 = .ok (.iastore, 1) := by decide +kernel
theorem dX0_spendQuota_45 : decode cX0_spendQuota 45 = .ok (.iinc 2 1, 3) := by decide +kernel
theorem dX0_spendQuota_48 : decode cX0_spendQuota 48 = .ok (.goto (-46), 3) := by decide +kernel
theorem dX0_spendQuota_51 : decode cX0_spendQuota 51 = .ok (.return_, 1) := by decide +kernel
set_option maxRecDepth 20000 in
theorem ggX0_deliverNow_X0_openToNormal : GoodIn wsX0_deliverNow wsX0_openToNormal := goodIn_r _ [8, 9, 10, 11, 12, 13, 14, 15, 7, 16, 17, 18, 19, 20, 21, 22, 23, 24, 25, 26, 27, 28, 29, 30, 31, 32, 33, 73, 74, 75, 76, 77, 78, 79, 80, 81, 82, 83, 84, 85, 86, 87, 88, 89, 90, 91] (by decide +kernel) (by decide +kernel)
set_option maxRecDepth 20000 in
theorem gX0_deliverNow_X0_openToNormal : GoodIn wsX0_deliverNow (wsV RX0 181 RX0 yX0_openToNormal wsX0_openToNormal) := goodIn_app (goodIn_of _ (by decide +kernel)) ggX0_deliverNow_X0_openToNormal
set_option maxRecDepth 20000 in
theorem ggX0_deliverNow_X0_waitsNow : GoodIn wsX0_deliverNow wsX0_waitsNow := goodIn_r _ [37, 38, 39, 40, 41, 7, 42, 9, 43, 73, 74, 75, 76, 77, 78, 79, 80, 81, 82, 83, 84, 85, 86, 87, 88, 89, 90, 91] (by decide +kernel) (by decide +kernel)
set_option maxRecDepth 20000 in
theorem gX0_deliverNow_X0_waitsNow : GoodIn wsX0_deliverNow (wsV RX0 132 RX0 yX0_waitsNow wsX0_waitsNow) := goodIn_app (goodIn_of _ (by decide +kernel)) ggX0_deliverNow_X0_waitsNow
set_option maxRecDepth 20000 in
theorem ggX0_deliverNow_X0_openToHigh : GoodIn wsX0_deliverNow wsX0_openToHigh := goodIn_r _ [47, 10, 12, 11, 48, 49, 7, 50, 31, 32, 33, 51, 52, 53, 54, 55, 9, 56, 28, 29, 30, 73, 74, 75, 76, 77, 78, 79, 80, 81, 82, 83, 84, 85, 86, 87, 88, 89, 90, 91] (by decide +kernel) (by decide +kernel)
set_option maxRecDepth 20000 in
theorem gX0_deliverNow_X0_openToHigh : GoodIn wsX0_deliverNow (wsV RX0 184 RX0 yX0_openToHigh wsX0_openToHigh) := goodIn_app (goodIn_of _ (by decide +kernel)) ggX0_deliverNow_X0_openToHigh
set_option maxRecDepth 20000 in
theorem ggX0_deliverNow_X0_deliver : GoodIn wsX0_deliverNow wsX0_deliver := goodIn_r _ [60, 38, 61, 1, 3, 11, 62, 63, 64, 65, 66, 67, 68, 69, 70, 71, 7, 72, 12, 56, 55, 9, 48, 49, 50, 31, 32, 33, 51, 52, 53, 54, 73, 74, 75, 76, 77, 78, 79, 80, 81, 82, 83, 84, 85, 86, 87, 88, 89, 90, 91] (by decide +kernel) (by decide +kernel)
set_option maxRecDepth 20000 in
theorem gX0_deliverNow_X0_deliver : GoodIn wsX0_deliverNow (wsV RX0 187 RX0 yX0_deliver wsX0_deliver) := goodIn_app (goodIn_of _ (by decide +kernel)) ggX0_deliverNow_X0_deliver
theorem dX0_deliverNow_0 : decode cX0_deliverNow 0 = .ok (.aload_n 0, 1) := by decide +kernel
theorem dX0_deliverNow_1 : decode cX0_deliverNow 1 = .ok (.getfield 66, 3) := by decide +kernel
theorem dX0_deliverNow_4 : decode cX0_deliverNow 4 = .ok (.istore_n 1, 1) := by decide +kernel
theorem dX0_deliverNow_5 : decode cX0_deliverNow 5 = .ok (.aload_n 0, 1) := by decide +kernel
theorem dX0_deliverNow_6 : decode cX0_deliverNow 6 = .ok (.invokevirtual 181, 3) := by decide +kernel
theorem dX0_deliverNow_9 : decode cX0_deliverNow 9 = .ok (.istore_n 2, 1) := by decide +kernel
theorem dX0_deliverNow_10 : decode cX0_deliverNow 10 = .ok (.iconst 0, 1) := by decide +kernel
theorem dX0_deliverNow_11 : decode cX0_deliverNow 11 = .ok (.istore_n 3, 1) := by decide +kernel
theorem dX0_deliverNow_12 : decode cX0_deliverNow 12 = .ok (.iload_n 3, 1) := by decide +kernel
theorem dX0_deliverNow_13 : decode cX0_deliverNow 13 = .ok (.aload_n 0, 1) := by decide +kernel
theorem dX0_deliverNow_14 : decode cX0_deliverNow 14 = .ok (.getfield 60, 3) := by decide +kernel
theorem dX0_deliverNow_17 : decode cX0_deliverNow 17 = .ok (.if_icmp .ge 46, 3) := by decide +kernel
theorem dX0_deliverNow_20 : decode cX0_deliverNow 20 = .ok (.aload_n 0, 1) := by decide +kernel
theorem dX0_deliverNow_21 : decode cX0_deliverNow 21 = .ok (.iload_n 3, 1) := by decide +kernel
theorem dX0_deliverNow_22 : decode cX0_deliverNow 22 = .ok (.invokevirtual 132, 3) := by decide +kernel
theorem dX0_deliverNow_25 : decode cX0_deliverNow 25 = .ok (.istore 4, 2) := by decide +kernel
theorem dX0_deliverNow_27 : decode cX0_deliverNow 27 = .ok (.iload 4, 2) := by decide +kernel
theorem dX0_deliverNow_29 : decode cX0_deliverNow 29 = .ok (.ifCond .eq 28, 3) := by decide +kernel
theorem dX0_deliverNow_32 : decode cX0_deliverNow 32 = .ok (.aload_n 0, 1) := by decide +kernel
theorem dX0_deliverNow_33 : decode cX0_deliverNow 33 = .ok (.iload_n 3, 1) := by decide +kernel
theorem dX0_deliverNow_34 : decode cX0_deliverNow 34 = .ok (.iload 4, 2) := by decide +kernel
theorem dX0_deliverNow_36 : decode cX0_deliverNow 36 = .ok (.aload_n 0, 1) := by decide +kernel
theorem dX0_deliverNow_37 : decode cX0_deliverNow 37 = .ok (.getfield 44, 3) := by decide +kernel
theorem dX0_deliverNow_40 : decode cX0_deliverNow 40 = .ok (.iload_n 3, 1) := by decide +kernel
theorem dX0_deliverNow_41 : decode cX0_deliverNow 41 = .ok (.baload, 1) := by decide +kernel
theorem dX0_deliverNow_42 : decode cX0_deliverNow 42 = .ok (.ifCond .eq 10, 3) := by decide +kernel
theorem dX0_deliverNow_45 : decode cX0_deliverNow 45 = .ok (.aload_n 0, 1) := by decide +kernel
theorem dX0_deliverNow_46 : decode cX0_deliverNow 46 = .ok (.invokevirtual 184, 3) := by decide +kernel
theorem dX0_deliverNow_49 : decode cX0_deliverNow 49 = .ok (.goto 4, 3) := by decide +kernel
theorem dX0_deliverNow_52 : decode cX0_deliverNow 52 = .ok (.iload_n 2, 1) := by decide +kernel
theorem dX0_deliverNow_53 : decode cX0_deliverNow 53 = .ok (.iand, 1) := by decide +kernel
theorem dX0_deliverNow_54 : decode cX0_deliverNow 54 = .ok (.invokevirtual 187, 3) := by decide +kernel
theorem dX0_deliverNow_57 : decode cX0_deliverNow 57 = .ok (.iinc 3 1, 3) := by decide +kernel
theorem dX0_deliverNow_60 : decode cX0_deliverNow 60 = .ok (.goto (-48), 3) := by decide +kernel
theorem dX0_deliverNow_63 : decode cX0_deliverNow 63 = .ok (.aload_n 0, 1) := by decide +kernel
theorem dX0_deliverNow_64 : decode cX0_deliverNow 64 = .ok (.getfield 66, 3) := by decide +kernel
theorem dX0_deliverNow_67 : decode cX0_deliverNow 67 = .ok (.iload_n 1, 1) := by decide +kernel
theorem dX0_deliverNow_68 : decode cX0_deliverNow 68 = .ok (.isub, 1) := by decide +kernel
theorem dX0_deliverNow_69 : decode cX0_deliverNow 69 = .ok (.ireturn, 1) := by decide +kernel
set_option maxRecDepth 20000 in
theorem ggX0_deliver_J6_bitCount_0f7a4 : GoodIn wsX0_deliver wsJ6_bitCount_0f7a4 := goodIn_r _ [9, 10, 11, 12] (by decide +kernel) (by decide +kernel)
set_option maxRecDepth 20000 in
theorem gX0_deliver_J6_bitCount_0f7a4 : GoodIn wsX0_deliver (va_wsS RX0 135 yJ6_bitCount_0f7a4 wsJ6_bitCount_0f7a4) := goodIn_app (goodIn_of _ (by decide +kernel)) ggX0_deliver_J6_bitCount_0f7a4
set_option maxRecDepth 20000 in
theorem ggX0_deliver_X0_spendQuota : GoodIn wsX0_deliver wsX0_spendQuota := goodIn_r _ [17, 18, 19, 20, 21, 22, 23, 16, 24, 25, 26, 27, 28, 29, 30, 31, 32, 33, 34, 35, 36, 37, 38, 39, 40, 41, 42, 43, 44, 45, 46, 47, 48, 49, 50] (by decide +kernel) (by decide +kernel)
set_option maxRecDepth 20000 in
theorem gX0_deliver_X0_spendQuota : GoodIn wsX0_deliver (wsV RX0 190 RX0 yX0_spendQuota wsX0_spendQuota) := goodIn_app (goodIn_of _ (by decide +kernel)) ggX0_deliver_X0_spendQuota
theorem dX0_deliver_0 : decode cX0_deliver 0 = .ok (.aload_n 0, 1) := by decide +kernel
theorem dX0_deliver_1 : decode cX0_deliver 1 = .ok (.getfield 51, 3) := by decide +kernel
theorem dX0_deliver_4 : decode cX0_deliver 4 = .ok (.iload_n 1, 1) := by decide +kernel
theorem dX0_deliver_5 : decode cX0_deliver 5 = .ok (.dup2, 1) := by decide +kernel
theorem dX0_deliver_6 : decode cX0_deliver 6 = .ok (.iaload, 1) := by decide +kernel
theorem dX0_deliver_7 : decode cX0_deliver 7 = .ok (.iload_n 2, 1) := by decide +kernel
theorem dX0_deliver_8 : decode cX0_deliver 8 = .ok (.iconst (-1), 1) := by decide +kernel
theorem dX0_deliver_9 : decode cX0_deliver 9 = .ok (.ixor, 1) := by decide +kernel
theorem dX0_deliver_10 : decode cX0_deliver 10 = .ok (.iand, 1) := by decide +kernel
theorem dX0_deliver_11 : decode cX0_deliver 11 = .ok (.iastore, 1) := by decide +kernel
theorem dX0_deliver_12 : decode cX0_deliver 12 = .ok (.aload_n 0, 1) := by decide +kernel
theorem dX0_deliver_13 : decode cX0_deliver 13 = .ok (.getfield 54, 3) := by decide +kernel
theorem dX0_deliver_16 : decode cX0_deliver 16 = .ok (.iload_n 1, 1) := by decide +kernel
theorem dX0_deliver_17 : decode cX0_deliver 17 = .ok (.dup2, 1) := by decide +kernel
theorem dX0_deliver_18 : decode cX0_deliver 18 = .ok (.iaload, 1) := by decide +kernel
theorem dX0_deliver_19 : decode cX0_deliver 19 = .ok (.iload_n 2, 1) := by decide +kernel
theorem dX0_deliver_20 : decode cX0_deliver 20 = .ok (.ior, 1) := by decide +kernel
theorem dX0_deliver_21 : decode cX0_deliver 21 = .ok (.iastore, 1) := by decide +kernel
theorem dX0_deliver_22 : decode cX0_deliver 22 = .ok (.aload_n 0, 1) := by decide +kernel
theorem dX0_deliver_23 : decode cX0_deliver 23 = .ok (.dup, 1) := by decide +kernel
theorem dX0_deliver_24 : decode cX0_deliver 24 = .ok (.getfield 66, 3) := by decide +kernel
theorem dX0_deliver_27 : decode cX0_deliver 27 = .ok (.iload_n 2, 1) := by decide +kernel
theorem dX0_deliver_28 : decode cX0_deliver 28 = .ok (.invokestatic 135, 3) := by decide +kernel
theorem dX0_deliver_31 : decode cX0_deliver 31 = .ok (.iadd, 1) := by decide +kernel
theorem dX0_deliver_32 : decode cX0_deliver 32 = .ok (.putfield 66, 3) := by decide +kernel
theorem dX0_deliver_35 : decode cX0_deliver 35 = .ok (.aload_n 0, 1) := by decide +kernel
theorem dX0_deliver_36 : decode cX0_deliver 36 = .ok (.getfield 44, 3) := by decide +kernel
theorem dX0_deliver_39 : decode cX0_deliver 39 = .ok (.iload_n 1, 1) := by decide +kernel
theorem dX0_deliver_40 : decode cX0_deliver 40 = .ok (.baload, 1) := by decide +kernel
theorem dX0_deliver_41 : decode cX0_deliver 41 = .ok (.ifCond .eq 13, 3) := by decide +kernel
theorem dX0_deliver_44 : decode cX0_deliver 44 = .ok (.aload_n 0, 1) := by decide +kernel
theorem dX0_deliver_45 : decode cX0_deliver 45 = .ok (.iload_n 2, 1) := by decide +kernel
theorem dX0_deliver_46 : decode cX0_deliver 46 = .ok (.aload_n 0, 1) := by decide +kernel
theorem dX0_deliver_47 : decode cX0_deliver 47 = .ok (.getfield 23, 3) := by decide +kernel
theorem dX0_deliver_50 : decode cX0_deliver 50 = .ok (.iand, 1) := by decide +kernel
theorem dX0_deliver_51 : decode cX0_deliver 51 = .ok (.invokevirtual 190, 3) := by decide +kernel
theorem dX0_deliver_54 : decode cX0_deliver 54 = .ok (.return_, 1) := by decide +kernel
set_option maxRecDepth 20000 in
theorem ggX0_openToNormal_X0_isInQuietHours : GoodIn wsX0_openToNormal wsX0_isInQuietHours := goodIn_r _ [9, 10, 11, 12, 13, 14, 8, 15, 1, 16, 17, 18, 19, 20, 27, 28, 29, 30, 31, 32, 33, 34, 35, 36, 37, 38, 39, 40, 41, 42, 43, 44, 45] (by decide +kernel) (by decide +kernel)
set_option maxRecDepth 20000 in
theorem gX0_openToNormal_X0_isInQuietHours : GoodIn wsX0_openToNormal (wsV RX0 105 RX0 yX0_isInQuietHours wsX0_isInQuietHours) := goodIn_app (goodIn_of _ (by decide +kernel)) ggX0_openToNormal_X0_isInQuietHours
set_option maxRecDepth 20000 in
theorem ggX0_openToNormal_X0_changed : GoodIn wsX0_openToNormal wsX0_changed := goodIn_r _ [23, 24, 25, 8, 26] (by decide +kernel) (by decide +kernel)
set_option maxRecDepth 20000 in
theorem gX0_openToNormal_X0_changed : GoodIn wsX0_openToNormal (va_wsS RX0 88 yX0_changed wsX0_changed) := goodIn_app (goodIn_of _ (by decide +kernel)) ggX0_openToNormal_X0_changed
theorem dX0_openToNormal_0 : decode cX0_openToNormal 0 = .ok (.aload_n 0, 1) := by decide +kernel
theorem dX0_openToNormal_1 : decode cX0_openToNormal 1 = .ok (.getfield 63, 3) := by decide +kernel
theorem dX0_openToNormal_4 : decode cX0_openToNormal 4 = .ok (.bipush 60, 2) := by decide +kernel
theorem dX0_openToNormal_6 : decode cX0_openToNormal 6 = .ok (.irem, 1) := by decide +kernel
theorem dX0_openToNormal_7 : decode cX0_openToNormal 7 = .ok (.ifCond .ne 10, 3) := by decide +kernel
theorem dX0_openToNormal_10 : decode cX0_openToNormal 10 = .ok (.aload_n 0, 1) := by decide +kernel
theorem dX0_openToNormal_11 : decode cX0_openToNormal 11 = .ok (.getfield 20, 3) := by decide +kernel
theorem dX0_openToNormal_14 : decode cX0_openToNormal 14 = .ok (.goto 14, 3) := by decide +kernel
theorem dX0_openToNormal_17 : decode cX0_openToNormal 17 = .ok (.aload_n 0, 1) := by decide +kernel
theorem dX0_openToNormal_18 : decode cX0_openToNormal 18 = .ok (.getfield 20, 3) := by decide +kernel
theorem dX0_openToNormal_21 : decode cX0_openToNormal 21 = .ok (.aload_n 0, 1) := by decide +kernel
theorem dX0_openToNormal_22 : decode cX0_openToNormal 22 = .ok (.getfield 23, 3) := by decide +kernel
theorem dX0_openToNormal_25 : decode cX0_openToNormal 25 = .ok (.iconst (-1), 1) := by decide +kernel
theorem dX0_openToNormal_26 : decode cX0_openToNormal 26 = .ok (.ixor, 1) := by decide +kernel
theorem dX0_openToNormal_27 : decode cX0_openToNormal 27 = .ok (.iand, 1) := by decide +kernel
theorem dX0_openToNormal_28 : decode cX0_openToNormal 28 = .ok (.istore_n 1, 1) := by decide +kernel
theorem dX0_openToNormal_29 : decode cX0_openToNormal 29 = .ok (.iconst 0, 1) := by decide +kernel
theorem dX0_openToNormal_30 : decode cX0_openToNormal 30 = .ok (.istore_n 2, 1) := by decide +kernel
theorem dX0_openToNormal_31 : decode cX0_openToNormal 31 = .ok (.iload_n 2, 1) := by decide +kernel
theorem dX0_openToNormal_32 : decode cX0_openToNormal 32 = .ok (.aload_n 0, 1) := by decide +kernel
theorem dX0_openToNormal_33 : decode cX0_openToNormal 33 = .ok (.getfield 41, 3) := by decide +kernel
theorem dX0_openToNormal_36 : decode cX0_openToNormal 36 = .ok (.if_icmp .ge 24, 3) := by decide +kernel
theorem dX0_openToNormal_39 : decode cX0_openToNormal 39 = .ok (.aload_n 0, 1) := by decide +kernel
theorem dX0_openToNormal_40 : decode cX0_openToNormal 40 = .ok (.iload_n 2, 1) := by decide +kernel
theorem dX0_openToNormal_41 : decode cX0_openToNormal 41 = .ok (.invokevirtual 105, 3) := by decide +kernel
theorem dX0_openToNormal_44 : decode cX0_openToNormal 44 = .ok (.ifCond .eq 10, 3) := by decide +kernel
theorem dX0_openToNormal_47 : decode cX0_openToNormal 47 = .ok (.iload_n 1, 1) := by decide +kernel
theorem dX0_openToNormal_48 : decode cX0_openToNormal 48 = .ok (.iload_n 2, 1) := by decide +kernel
theorem dX0_openToNormal_49 : decode cX0_openToNormal 49 = .ok (.iconst 0, 1) := by decide +kernel
theorem dX0_openToNormal_50 : decode cX0_openToNormal 50 = .ok (.invokestatic 88, 3) := by decide +kernel
theorem dX0_openToNormal_53 : decode cX0_openToNormal 53 = .ok (.istore_n 1, 1) := by decide +kernel
theorem dX0_openToNormal_54 : decode cX0_openToNormal 54 = .ok (.iinc 2 1, 3) := by decide +kernel
theorem dX0_openToNormal_57 : decode cX0_openToNormal 57 = .ok (.goto (-26), 3) := by decide +kernel
theorem dX0_openToNormal_60 : decode cX0_openToNormal 60 = .ok (.iload_n 1, 1) := by decide +kernel
theorem dX0_openToNormal_61 : decode cX0_openToNormal 61 = .ok (.ireturn, 1) := by decide +kernel
set_option maxRecDepth 20000 in
theorem ggX0_openToHigh_X0_has : GoodIn wsX0_openToHigh wsX0_has := goodIn_r _ [7, 8, 9, 6, 10] (by decide +kernel) (by decide +kernel)
set_option maxRecDepth 20000 in
theorem gX0_openToHigh_X0_has : GoodIn wsX0_openToHigh (va_wsS RX0 96 yX0_has wsX0_has) := goodIn_app (goodIn_of _ (by decide +kernel)) ggX0_openToHigh_X0_has
set_option maxRecDepth 20000 in
theorem ggX0_openToHigh_X0_spentToday : GoodIn wsX0_openToHigh wsX0_spentToday := goodIn_r _ [14, 15, 16, 17, 21, 22, 23, 24, 25, 26, 27, 28, 29, 30, 31, 32, 33, 34, 35, 36, 37, 38, 39] (by decide +kernel) (by decide +kernel)
set_option maxRecDepth 20000 in
theorem gX0_openToHigh_X0_spentToday : GoodIn wsX0_openToHigh (wsV RX0 147 RX0 yX0_spentToday wsX0_spentToday) := goodIn_app (goodIn_of _ (by decide +kernel)) ggX0_openToHigh_X0_spentToday
set_option maxRecDepth 20000 in
theorem ggX0_openToHigh_X0_changed : GoodIn wsX0_openToHigh wsX0_changed := goodIn_r _ [20, 8, 9, 6, 10] (by decide +kernel) (by decide +kernel)
set_option maxRecDepth 20000 in
theorem gX0_openToHigh_X0_changed : GoodIn wsX0_openToHigh (va_wsS RX0 88 yX0_changed wsX0_changed) := goodIn_app (goodIn_of _ (by decide +kernel)) ggX0_openToHigh_X0_changed
theorem dX0_openToHigh_0 : decode cX0_openToHigh 0 = .ok (.aload_n 0, 1) := by decide +kernel
theorem dX0_openToHigh_1 : decode cX0_openToHigh 1 = .ok (.getfield 20, 3) := by decide +kernel
theorem dX0_openToHigh_4 : decode cX0_openToHigh 4 = .ok (.istore_n 1, 1) := by decide +kernel
theorem dX0_openToHigh_5 : decode cX0_openToHigh 5 = .ok (.iconst 0, 1) := by decide +kernel
theorem dX0_openToHigh_6 : decode cX0_openToHigh 6 = .ok (.istore_n 2, 1) := by decide +kernel
theorem dX0_openToHigh_7 : decode cX0_openToHigh 7 = .ok (.iload_n 2, 1) := by decide +kernel
theorem dX0_openToHigh_8 : decode cX0_openToHigh 8 = .ok (.aload_n 0, 1) := by decide +kernel
theorem dX0_openToHigh_9 : decode cX0_openToHigh 9 = .ok (.getfield 41, 3) := by decide +kernel
theorem dX0_openToHigh_12 : decode cX0_openToHigh 12 = .ok (.if_icmp .ge 36, 3) := by decide +kernel
theorem dX0_openToHigh_15 : decode cX0_openToHigh 15 = .ok (.aload_n 0, 1) := by decide +kernel
theorem dX0_openToHigh_16 : decode cX0_openToHigh 16 = .ok (.getfield 23, 3) := by decide +kernel
theorem dX0_openToHigh_19 : decode cX0_openToHigh 19 = .ok (.iload_n 2, 1) := by decide +kernel
theorem dX0_openToHigh_20 : decode cX0_openToHigh 20 = .ok (.invokestatic 96, 3) := by decide +kernel
theorem dX0_openToHigh_23 : decode cX0_openToHigh 23 = .ok (.ifCond .eq 19, 3) := by decide +kernel
theorem dX0_openToHigh_26 : decode cX0_openToHigh 26 = .ok (.aload_n 0, 1) := by decide +kernel
theorem dX0_openToHigh_27 : decode cX0_openToHigh 27 = .ok (.iload_n 2, 1) := by decide +kernel
theorem dX0_openToHigh_28 : decode cX0_openToHigh 28 = .ok (.invokevirtual 147, 3) := by decide +kernel
theorem dX0_openToHigh_31 : decode cX0_openToHigh 31 = .ok (.iconst 3, 1) := by decide +kernel
theorem dX0_openToHigh_32 : decode cX0_openToHigh 32 = .ok (.if_icmp .lt 10, 3) := by decide +kernel
theorem dX0_openToHigh_35 : decode cX0_openToHigh 35 = .ok (.iload_n 1, 1) := by decide +kernel
theorem dX0_openToHigh_36 : decode cX0_openToHigh 36 = .ok (.iload_n 2, 1) := by decide +kernel
theorem dX0_openToHigh_37 : decode cX0_openToHigh 37 = .ok (.iconst 0, 1) := by decide +kernel
theorem dX0_openToHigh_38 : decode cX0_openToHigh 38 = .ok (.invokestatic 88, 3) := by decide +kernel
theorem dX0_openToHigh_41 : decode cX0_openToHigh 41 = .ok (.istore_n 1, 1) := by decide +kernel
theorem dX0_openToHigh_42 : decode cX0_openToHigh 42 = .ok (.iinc 2 1, 3) := by decide +kernel
theorem dX0_openToHigh_45 : decode cX0_openToHigh 45 = .ok (.goto (-38), 3) := by decide +kernel
theorem dX0_openToHigh_48 : decode cX0_openToHigh 48 = .ok (.iload_n 1, 1) := by decide +kernel
theorem dX0_openToHigh_49 : decode cX0_openToHigh 49 = .ok (.ireturn, 1) := by decide +kernel
set_option maxRecDepth 20000 in
theorem ggX0_nextChance_X0_isInQuietHours : GoodIn wsX0_nextChance wsX0_isInQuietHours := goodIn_r _ [12, 13, 3, 14, 15, 16, 11, 17, 1, 18, 19, 20, 21, 22, 23, 24, 25, 26, 27, 28, 29, 30, 31, 32, 33, 34, 35, 36, 37, 38, 39, 40, 41] (by decide +kernel) (by decide +kernel)
set_option maxRecDepth 20000 in
theorem gX0_nextChance_X0_isInQuietHours : GoodIn wsX0_nextChance (wsV RX0 105 RX0 yX0_isInQuietHours wsX0_isInQuietHours) := goodIn_app (goodIn_of _ (by decide +kernel)) ggX0_nextChance_X0_isInQuietHours
set_option maxRecDepth 20000 in
theorem ggX0_nextChance_X0_localTime : GoodIn wsX0_nextChance wsX0_localTime := goodIn_r _ [17, 1, 18, 19, 20, 21, 22, 23, 24, 25, 26, 27, 28, 29, 30, 31, 32, 33, 34, 35, 36, 37, 38, 39, 40, 41] (by decide +kernel) (by decide +kernel)
set_option maxRecDepth 20000 in
theorem gX0_nextChance_X0_localTime : GoodIn wsX0_nextChance (wsV RX0 178 RX0 yX0_localTime wsX0_localTime) := goodIn_app (goodIn_of _ (by decide +kernel)) ggX0_nextChance_X0_localTime
set_option maxRecDepth 20000 in
theorem ggX0_nextChance_J9_floorMod_7cf53 : GoodIn wsX0_nextChance wsJ9_floorMod_7cf53 := goodIn_r _ [22] (by decide +kernel) (by decide +kernel)
set_option maxRecDepth 20000 in
theorem gX0_nextChance_J9_floorMod_7cf53 : GoodIn wsX0_nextChance (va_wsS RX0 175 yJ9_floorMod_7cf53 wsJ9_floorMod_7cf53) := goodIn_app (goodIn_of _ (by decide +kernel)) ggX0_nextChance_J9_floorMod_7cf53
theorem dX0_nextChance_0 : decode cX0_nextChance 0 = .ok (.aload_n 0, 1) := by decide +kernel
theorem dX0_nextChance_1 : decode cX0_nextChance 1 = .ok (.getfield 63, 3) := by decide +kernel
theorem dX0_nextChance_4 : decode cX0_nextChance 4 = .ok (.aload_n 0, 1) := by decide +kernel
theorem dX0_nextChance_5 : decode cX0_nextChance 5 = .ok (.getfield 63, 3) := by decide +kernel
theorem dX0_nextChance_8 : decode cX0_nextChance 8 = .ok (.bipush 60, 2) := by decide +kernel
theorem dX0_nextChance_10 : decode cX0_nextChance 10 = .ok (.irem, 1) := by decide +kernel
theorem dX0_nextChance_11 : decode cX0_nextChance 11 = .ok (.isub, 1) := by decide +kernel
theorem dX0_nextChance_12 : decode cX0_nextChance 12 = .ok (.bipush 60, 2) := by decide +kernel
theorem dX0_nextChance_14 : decode cX0_nextChance 14 = .ok (.iadd, 1) := by decide +kernel
theorem dX0_nextChance_15 : decode cX0_nextChance 15 = .ok (.istore_n 1, 1) := by decide +kernel
theorem dX0_nextChance_16 : decode cX0_nextChance 16 = .ok (.iconst 0, 1) := by decide +kernel
theorem dX0_nextChance_17 : decode cX0_nextChance 17 = .ok (.istore_n 2, 1) := by decide +kernel
theorem dX0_nextChance_18 : decode cX0_nextChance 18 = .ok (.iload_n 2, 1) := by decide +kernel
theorem dX0_nextChance_19 : decode cX0_nextChance 19 = .ok (.aload_n 0, 1) := by decide +kernel
theorem dX0_nextChance_20 : decode cX0_nextChance 20 = .ok (.getfield 41, 3) := by decide +kernel
theorem dX0_nextChance_23 : decode cX0_nextChance 23 = .ok (.if_icmp .ge 47, 3) := by decide +kernel
theorem dX0_nextChance_26 : decode cX0_nextChance 26 = .ok (.aload_n 0, 1) := by decide +kernel
theorem dX0_nextChance_27 : decode cX0_nextChance 27 = .ok (.iload_n 2, 1) := by decide +kernel
theorem dX0_nextChance_28 : decode cX0_nextChance 28 = .ok (.invokevirtual 105, 3) := by decide +kernel
theorem dX0_nextChance_31 : decode cX0_nextChance 31 = .ok (.ifCond .eq 33, 3) := by decide +kernel
theorem dX0_nextChance_34 : decode cX0_nextChance 34 = .ok (.aload_n 0, 1) := by decide +kernel
theorem dX0_nextChance_35 : decode cX0_nextChance 35 = .ok (.getfield 32, 3) := by decide +kernel
theorem dX0_nextChance_38 : decode cX0_nextChance 38 = .ok (.iload_n 2, 1) := by decide +kernel
theorem dX0_nextChance_39 : decode cX0_nextChance 39 = .ok (.iaload, 1) := by decide +kernel
theorem dX0_nextChance_40 : decode cX0_nextChance 40 = .ok (.aload_n 0, 1) := by decide +kernel
theorem dX0_nextChance_41 : decode cX0_nextChance 41 = .ok (.iload_n 2, 1) := by decide +kernel
theorem dX0_nextChance_42 : decode cX0_nextChance 42 = .ok (.invokevirtual 178, 3) := by decide +kernel
theorem dX0_nextChance_45 : decode cX0_nextChance 45 = .ok (.isub, 1) := by decide +kernel
theorem dX0_nextChance_46 : decode cX0_nextChance 46 = .ok (.sipush 1440, 3) := by decide +kernel
theorem dX0_nextChance_49 : decode cX0_nextChance 49 = .ok (.invokestatic 175, 3) := by decide +kernel
theorem dX0_nextChance_52 : decode cX0_nextChance 52 = .ok (.istore_n 3, 1) := by decide +kernel
theorem dX0_nextChance_53 : decode cX0_nextChance 53 = .ok (.iload_n 1, 1) := by decide +kernel
theorem dX0_nextChance_54 : decode cX0_nextChance 54 = .ok (.aload_n 0, 1) := by decide +kernel
theorem dX0_nextChance_55 : decode cX0_nextChance 55 = .ok (.getfield 63, 3) := by decide +kernel
theorem dX0_nextChance_58 : decode cX0_nextChance 58 = .ok (.iload_n 3, 1) := by decide +kernel
theorem dX0_nextChance_59 : decode cX0_nextChance 59 = .ok (.iadd, 1) := by decide +kernel
theorem dX0_nextChance_60 : decode cX0_nextChance 60 = .ok (.invokestatic 156, 3) := by decide +kernel
theorem dX0_nextChance_63 : decode cX0_nextChance 63 = .ok (.istore_n 1, 1) := by decide +kernel
theorem dX0_nextChance_64 : decode cX0_nextChance 64 = .ok (.iinc 2 1, 3) := by decide +kernel
theorem dX0_nextChance_67 : decode cX0_nextChance 67 = .ok (.goto (-49), 3) := by decide +kernel
theorem dX0_nextChance_70 : decode cX0_nextChance 70 = .ok (.iload_n 1, 1) := by decide +kernel
theorem dX0_nextChance_71 : decode cX0_nextChance 71 = .ok (.ireturn, 1) := by decide +kernel
theorem dJ6_bitCount_0f7a4_0 : decode cJ6_bitCount_0f7a4 0 = .ok (.iload_n 0, 1) := by decide +kernel
theorem dJ6_bitCount_0f7a4_1 : decode cJ6_bitCount_0f7a4 1 = .ok (.iload_n 0, 1) := by decide +kernel
theorem dJ6_bitCount_0f7a4_2 : decode cJ6_bitCount_0f7a4 2 = .ok (.iconst 1, 1) := by decide +kernel
theorem dJ6_bitCount_0f7a4_3 : decode cJ6_bitCount_0f7a4 3 = .ok (.iushr, 1) := by decide +kernel
theorem dJ6_bitCount_0f7a4_4 : decode cJ6_bitCount_0f7a4 4 = .ok (.ldc_w 265, 3) := by decide +kernel
theorem dJ6_bitCount_0f7a4_7 : decode cJ6_bitCount_0f7a4 7 = .ok (.iand, 1) := by decide +kernel
theorem dJ6_bitCount_0f7a4_8 : decode cJ6_bitCount_0f7a4 8 = .ok (.isub, 1) := by decide +kernel
theorem dJ6_bitCount_0f7a4_9 : decode cJ6_bitCount_0f7a4 9 = .ok (.istore_n 0, 1) := by decide +kernel
theorem dJ6_bitCount_0f7a4_10 : decode cJ6_bitCount_0f7a4 10 = .ok (.iload_n 0, 1) := by decide +kernel
theorem dJ6_bitCount_0f7a4_11 : decode cJ6_bitCount_0f7a4 11 = .ok (.ldc_w 266, 3) := by decide +kernel
theorem dJ6_bitCount_0f7a4_14 : decode cJ6_bitCount_0f7a4 14 = .ok (.iand, 1) := by decide +kernel
theorem dJ6_bitCount_0f7a4_15 : decode cJ6_bitCount_0f7a4 15 = .ok (.iload_n 0, 1) := by decide +kernel
theorem dJ6_bitCount_0f7a4_16 : decode cJ6_bitCount_0f7a4 16 = .ok (.iconst 2, 1) := by decide +kernel
theorem dJ6_bitCount_0f7a4_17 : decode cJ6_bitCount_0f7a4 17 = .ok (.iushr, 1) := by decide +kernel
theorem dJ6_bitCount_0f7a4_18 : decode cJ6_bitCount_0f7a4 18 = .ok (.ldc_w 266, 3) := by decide +kernel
theorem dJ6_bitCount_0f7a4_21 : decode cJ6_bitCount_0f7a4 21 = .ok (.iand, 1) := by decide +kernel
theorem dJ6_bitCount_0f7a4_22 : decode cJ6_bitCount_0f7a4 22 = .ok (.iadd, 1) := by decide +kernel
theorem dJ6_bitCount_0f7a4_23 : decode cJ6_bitCount_0f7a4 23 = .ok (.istore_n 0, 1) := by decide +kernel
theorem dJ6_bitCount_0f7a4_24 : decode cJ6_bitCount_0f7a4 24 = .ok (.iload_n 0, 1) := by decide +kernel
theorem dJ6_bitCount_0f7a4_25 : decode cJ6_bitCount_0f7a4 25 = .ok (.iload_n 0, 1) := by decide +kernel
theorem dJ6_bitCount_0f7a4_26 : decode cJ6_bitCount_0f7a4 26 = .ok (.iconst 4, 1) := by decide +kernel
theorem dJ6_bitCount_0f7a4_27 : decode cJ6_bitCount_0f7a4 27 = .ok (.iushr, 1) := by decide +kernel
theorem dJ6_bitCount_0f7a4_28 : decode cJ6_bitCount_0f7a4 28 = .ok (.iadd, 1) := by decide +kernel
theorem dJ6_bitCount_0f7a4_29 : decode cJ6_bitCount_0f7a4 29 = .ok (.ldc_w 267, 3) := by decide +kernel
theorem dJ6_bitCount_0f7a4_32 : decode cJ6_bitCount_0f7a4 32 = .ok (.iand, 1) := by decide +kernel
theorem dJ6_bitCount_0f7a4_33 : decode cJ6_bitCount_0f7a4 33 = .ok (.istore_n 0, 1) := by decide +kernel
theorem dJ6_bitCount_0f7a4_34 : decode cJ6_bitCount_0f7a4 34 = .ok (.iload_n 0, 1) := by decide +kernel
theorem dJ6_bitCount_0f7a4_35 : decode cJ6_bitCount_0f7a4 35 = .ok (.iload_n 0, 1) := by decide +kernel
theorem dJ6_bitCount_0f7a4_36 : decode cJ6_bitCount_0f7a4 36 = .ok (.bipush 8, 2) := by decide +kernel
theorem dJ6_bitCount_0f7a4_38 : decode cJ6_bitCount_0f7a4 38 = .ok (.iushr, 1) := by decide +kernel
theorem dJ6_bitCount_0f7a4_39 : decode cJ6_bitCount_0f7a4 39 = .ok (.iadd, 1) := by decide +kernel
theorem dJ6_bitCount_0f7a4_40 : decode cJ6_bitCount_0f7a4 40 = .ok (.istore_n 0, 1) := by decide +kernel
theorem dJ6_bitCount_0f7a4_41 : decode cJ6_bitCount_0f7a4 41 = .ok (.iload_n 0, 1) := by decide +kernel
theorem dJ6_bitCount_0f7a4_42 : decode cJ6_bitCount_0f7a4 42 = .ok (.iload_n 0, 1) := by decide +kernel
theorem dJ6_bitCount_0f7a4_43 : decode cJ6_bitCount_0f7a4 43 = .ok (.bipush 16, 2) := by decide +kernel
theorem dJ6_bitCount_0f7a4_45 : decode cJ6_bitCount_0f7a4 45 = .ok (.iushr, 1) := by decide +kernel
theorem dJ6_bitCount_0f7a4_46 : decode cJ6_bitCount_0f7a4 46 = .ok (.iadd, 1) := by decide +kernel
theorem dJ6_bitCount_0f7a4_47 : decode cJ6_bitCount_0f7a4 47 = .ok (.istore_n 0, 1) := by decide +kernel
theorem dJ6_bitCount_0f7a4_48 : decode cJ6_bitCount_0f7a4 48 = .ok (.iload_n 0, 1) := by decide +kernel
theorem dJ6_bitCount_0f7a4_49 : decode cJ6_bitCount_0f7a4 49 = .ok (.bipush 63, 2) := by decide +kernel
theorem dJ6_bitCount_0f7a4_51 : decode cJ6_bitCount_0f7a4 51 = .ok (.iand, 1) := by decide +kernel
theorem dJ6_bitCount_0f7a4_52 : decode cJ6_bitCount_0f7a4 52 = .ok (.ireturn, 1) := by decide +kernel
theorem dJ9_floorMod_7cf53_0 : decode cJ9_floorMod_7cf53 0 = .ok (.iload_n 0, 1) := by decide +kernel
theorem dJ9_floorMod_7cf53_1 : decode cJ9_floorMod_7cf53 1 = .ok (.iload_n 1, 1) := by decide +kernel
theorem dJ9_floorMod_7cf53_2 : decode cJ9_floorMod_7cf53 2 = .ok (.irem, 1) := by decide +kernel
theorem dJ9_floorMod_7cf53_3 : decode cJ9_floorMod_7cf53 3 = .ok (.istore_n 2, 1) := by decide +kernel
theorem dJ9_floorMod_7cf53_4 : decode cJ9_floorMod_7cf53 4 = .ok (.iload_n 0, 1) := by decide +kernel
theorem dJ9_floorMod_7cf53_5 : decode cJ9_floorMod_7cf53 5 = .ok (.iload_n 1, 1) := by decide +kernel
theorem dJ9_floorMod_7cf53_6 : decode cJ9_floorMod_7cf53 6 = .ok (.ixor, 1) := by decide +kernel
theorem dJ9_floorMod_7cf53_7 : decode cJ9_floorMod_7cf53 7 = .ok (.ifCond .ge 11, 3) := by decide +kernel
theorem dJ9_floorMod_7cf53_10 : decode cJ9_floorMod_7cf53 10 = .ok (.iload_n 2, 1) := by decide +kernel
theorem dJ9_floorMod_7cf53_11 : decode cJ9_floorMod_7cf53 11 = .ok (.ifCond .eq 7, 3) := by decide +kernel
theorem dJ9_floorMod_7cf53_14 : decode cJ9_floorMod_7cf53 14 = .ok (.iload_n 2, 1) := by decide +kernel
theorem dJ9_floorMod_7cf53_15 : decode cJ9_floorMod_7cf53 15 = .ok (.iload_n 1, 1) := by decide +kernel
theorem dJ9_floorMod_7cf53_16 : decode cJ9_floorMod_7cf53 16 = .ok (.iadd, 1) := by decide +kernel
theorem dJ9_floorMod_7cf53_17 : decode cJ9_floorMod_7cf53 17 = .ok (.ireturn, 1) := by decide +kernel
theorem dJ9_floorMod_7cf53_18 : decode cJ9_floorMod_7cf53 18 = .ok (.iload_n 2, 1) := by decide +kernel
theorem dJ9_floorMod_7cf53_19 : decode cJ9_floorMod_7cf53 19 = .ok (.ireturn, 1) := by decide +kernel
theorem dJ9_min_7cf53_0 : decode cJ9_min_7cf53 0 = .ok (.iload_n 0, 1) := by decide +kernel
theorem dJ9_min_7cf53_1 : decode cJ9_min_7cf53 1 = .ok (.iload_n 1, 1) := by decide +kernel
theorem dJ9_min_7cf53_2 : decode cJ9_min_7cf53 2 = .ok (.if_icmp .gt 7, 3) := by decide +kernel
theorem dJ9_min_7cf53_5 : decode cJ9_min_7cf53 5 = .ok (.iload_n 0, 1) := by decide +kernel
theorem dJ9_min_7cf53_6 : decode cJ9_min_7cf53 6 = .ok (.goto 4, 3) := by decide +kernel
theorem dJ9_min_7cf53_9 : decode cJ9_min_7cf53 9 = .ok (.iload_n 1, 1) := by decide +kernel
theorem dJ9_min_7cf53_10 : decode cJ9_min_7cf53 10 = .ok (.ireturn, 1) := by decide +kernel
set_option maxRecDepth 20000 in
theorem ggL_adds_X0_addDevice : GoodIn wsL_adds wsX0_addDevice := goodIn_ca (goodIn_ca (goodIn_r _ [9, 10, 11, 12, 13, 14, 15, 16, 17, 18, 8, 19, 20, 21, 22, 23, 24, 25, 26, 27, 28, 29, 30, 31, 32, 33, 34, 35, 36, 37, 38, 39, 40, 41, 42, 43] (by decide +kernel) (by decide +kernel)) (goodIn_sub (fun _ h => List.mem_cons_of_mem _ (List.mem_append_left _ (List.mem_append_right _ h))) (by decide +kernel))) (goodIn_sub (fun _ h => List.mem_cons_of_mem _ (List.mem_append_right _ h)) (by decide +kernel))
set_option maxRecDepth 20000 in
theorem gL_adds_X0_addDevice : GoodIn wsL_adds (wsV RL 7 RX0 yX0_addDevice wsX0_addDevice) := goodIn_app (goodIn_of _ (by decide +kernel)) ggL_adds_X0_addDevice
theorem dL_adds_0 : decode cL_adds 0 = .ok (.aload_n 0, 1) := by decide +kernel
theorem dL_adds_1 : decode cL_adds 1 = .ok (.iload_n 1, 1) := by decide +kernel
theorem dL_adds_2 : decode cL_adds 2 = .ok (.iload_n 2, 1) := by decide +kernel
theorem dL_adds_3 : decode cL_adds 3 = .ok (.invokevirtual 7, 3) := by decide +kernel
theorem dL_adds_6 : decode cL_adds 6 = .ok (.ireturn, 1) := by decide +kernel
theorem dL_adds_7 : decode cL_adds 7 = .ok (.astore_n 3, 1) := by decide +kernel
theorem dL_adds_8 : decode cL_adds 8 = .ok (.ldc 15, 2) := by decide +kernel
theorem dL_adds_10 : decode cL_adds 10 = .ok (.ireturn, 1) := by decide +kernel
theorem dL_adds_11 : decode cL_adds 11 = .ok (.astore_n 3, 1) := by decide +kernel
theorem dL_adds_12 : decode cL_adds 12 = .ok (.ldc 18, 2) := by decide +kernel
theorem dL_adds_14 : decode cL_adds 14 = .ok (.ireturn, 1) := by decide +kernel
set_option maxRecDepth 20000 in
theorem ggL_online_X0_setOnline : GoodIn wsL_online wsX0_setOnline := goodIn_ca (goodIn_r _ [7, 8, 9, 10, 11, 6, 12, 13, 14, 15, 16, 17, 18, 19, 20, 21, 22, 23, 24, 25, 26, 27, 28, 29, 30, 31, 32, 33, 34, 35, 36, 37, 38, 39, 40, 41, 42, 43, 44, 45, 46, 47, 48, 49, 50, 51, 52, 53, 54, 55, 56, 57, 58, 59, 60, 61, 62, 63, 64, 65, 66, 67, 68, 69, 70, 71, 72, 73, 74, 75, 76, 77, 78, 79, 80, 81, 82, 83, 84, 85, 86, 87, 88, 89, 90, 91, 92, 93, 94, 95, 96, 97, 98, 99, 100, 101, 102, 103, 104, 105, 106, 107] (by decide +kernel) (by decide +kernel)) (goodIn_sub (fun _ h => List.mem_cons_of_mem _ (List.mem_append_right _ h)) (by decide +kernel))
set_option maxRecDepth 20000 in
theorem gL_online_X0_setOnline : GoodIn wsL_online (wsV RL 19 RX0 yX0_setOnline wsX0_setOnline) := goodIn_app (goodIn_of _ (by decide +kernel)) ggL_online_X0_setOnline
theorem dL_online_0 : decode cL_online 0 = .ok (.aload_n 0, 1) := by decide +kernel
theorem dL_online_1 : decode cL_online 1 = .ok (.iload_n 1, 1) := by decide +kernel
theorem dL_online_2 : decode cL_online 2 = .ok (.iload_n 2, 1) := by decide +kernel
theorem dL_online_3 : decode cL_online 3 = .ok (.invokevirtual 19, 3) := by decide +kernel
theorem dL_online_6 : decode cL_online 6 = .ok (.ireturn, 1) := by decide +kernel
theorem dL_online_7 : decode cL_online 7 = .ok (.astore_n 3, 1) := by decide +kernel
theorem dL_online_8 : decode cL_online 8 = .ok (.ldc 25, 2) := by decide +kernel
theorem dL_online_10 : decode cL_online 10 = .ok (.ireturn, 1) := by decide +kernel
set_option maxRecDepth 20000 in
theorem ggL_dozes_X0_setDozing : GoodIn wsL_dozes wsX0_setDozing := goodIn_ca (goodIn_r _ [7, 8, 9, 10, 11, 6, 12, 13, 14, 15, 16, 17, 18, 19, 20, 21, 22, 23, 24, 25, 26, 27, 28, 29, 30, 31, 32, 33, 34, 35, 36, 37, 38, 39, 40, 41, 42, 43, 44, 45, 46, 47, 48, 49, 50, 51, 52, 53, 54, 55, 56, 57, 58, 59, 60, 61, 62, 63, 64, 65, 66, 67, 68, 69, 70, 71, 72, 73, 74, 75, 76, 77, 78, 79, 80, 81, 82, 83, 84, 85, 86, 87, 88, 89, 90, 91, 92, 93, 94, 95, 96, 97, 98, 99, 100, 101, 102, 103, 104, 105, 106, 107] (by decide +kernel) (by decide +kernel)) (goodIn_sub (fun _ h => List.mem_cons_of_mem _ (List.mem_append_right _ h)) (by decide +kernel))
set_option maxRecDepth 20000 in
theorem gL_dozes_X0_setDozing : GoodIn wsL_dozes (wsV RL 26 RX0 yX0_setDozing wsX0_setDozing) := goodIn_app (goodIn_of _ (by decide +kernel)) ggL_dozes_X0_setDozing
theorem dL_dozes_0 : decode cL_dozes 0 = .ok (.aload_n 0, 1) := by decide +kernel
theorem dL_dozes_1 : decode cL_dozes 1 = .ok (.iload_n 1, 1) := by decide +kernel
theorem dL_dozes_2 : decode cL_dozes 2 = .ok (.iload_n 2, 1) := by decide +kernel
theorem dL_dozes_3 : decode cL_dozes 3 = .ok (.invokevirtual 26, 3) := by decide +kernel
theorem dL_dozes_6 : decode cL_dozes 6 = .ok (.ireturn, 1) := by decide +kernel
theorem dL_dozes_7 : decode cL_dozes 7 = .ok (.astore_n 3, 1) := by decide +kernel
theorem dL_dozes_8 : decode cL_dozes 8 = .ok (.ldc 25, 2) := by decide +kernel
theorem dL_dozes_10 : decode cL_dozes 10 = .ok (.ireturn, 1) := by decide +kernel
set_option maxRecDepth 20000 in
theorem ggL_quiets_X0_setQuiet : GoodIn wsL_quiets wsX0_setQuiet := goodIn_ca (goodIn_ca (goodIn_r _ [9, 10, 11, 12, 13, 14, 8, 15, 16, 17, 18, 19, 20, 21, 22, 23, 24, 25, 26, 27, 28, 29, 30, 31, 32, 33, 34, 35, 36, 37, 38, 39, 40, 41, 42, 43, 44, 45, 46, 47, 48, 49, 50, 51, 52, 53, 54, 55, 56, 57, 58, 59, 60, 61, 62, 63, 64, 65, 66, 67, 68, 69, 70, 71, 72, 73, 74, 75, 76, 77, 78, 79, 80, 81, 82, 83, 84, 85, 86, 87, 88, 89, 90, 91, 92, 93, 94, 95, 96, 97, 98, 99, 100, 101, 102, 103, 104, 105, 106, 107, 108, 109, 110, 111, 112, 113, 114] (by decide +kernel) (by decide +kernel)) (goodIn_sub (fun _ h => List.mem_cons_of_mem _ (List.mem_append_left _ (List.mem_append_right _ h))) (by decide +kernel))) (goodIn_sub (fun _ h => List.mem_cons_of_mem _ (List.mem_append_right _ h)) (by decide +kernel))
set_option maxRecDepth 20000 in
theorem gL_quiets_X0_setQuiet : GoodIn wsL_quiets (wsV RL 29 RX0 yX0_setQuiet wsX0_setQuiet) := goodIn_app (goodIn_of _ (by decide +kernel)) ggL_quiets_X0_setQuiet
theorem dL_quiets_0 : decode cL_quiets 0 = .ok (.aload_n 0, 1) := by decide +kernel
theorem dL_quiets_1 : decode cL_quiets 1 = .ok (.iload_n 1, 1) := by decide +kernel
theorem dL_quiets_2 : decode cL_quiets 2 = .ok (.iload_n 2, 1) := by decide +kernel
theorem dL_quiets_3 : decode cL_quiets 3 = .ok (.iload_n 3, 1) := by decide +kernel
theorem dL_quiets_4 : decode cL_quiets 4 = .ok (.invokevirtual 29, 3) := by decide +kernel
theorem dL_quiets_7 : decode cL_quiets 7 = .ok (.ireturn, 1) := by decide +kernel
theorem dL_quiets_8 : decode cL_quiets 8 = .ok (.astore 4, 2) := by decide +kernel
theorem dL_quiets_10 : decode cL_quiets 10 = .ok (.ldc 25, 2) := by decide +kernel
theorem dL_quiets_12 : decode cL_quiets 12 = .ok (.ireturn, 1) := by decide +kernel
theorem dL_quiets_13 : decode cL_quiets 13 = .ok (.astore 4, 2) := by decide +kernel
theorem dL_quiets_15 : decode cL_quiets 15 = .ok (.ldc 15, 2) := by decide +kernel
theorem dL_quiets_17 : decode cL_quiets 17 = .ok (.ireturn, 1) := by decide +kernel
set_option maxRecDepth 20000 in
theorem ggL_joins_X0_join : GoodIn wsL_joins wsX0_join := goodIn_ca (goodIn_ca (goodIn_r _ [9, 10, 11, 12, 13, 8, 14, 15, 16, 17, 18, 19, 20, 21, 22, 23, 24, 25, 26, 27, 28, 29, 30, 31, 32, 33, 34, 35, 36, 37, 38, 39, 40, 41, 42, 43, 44, 45, 46, 47, 48, 49, 50] (by decide +kernel) (by decide +kernel)) (goodIn_sub (fun _ h => List.mem_cons_of_mem _ (List.mem_append_left _ (List.mem_append_right _ h))) (by decide +kernel))) (goodIn_sub (fun _ h => List.mem_cons_of_mem _ (List.mem_append_right _ h)) (by decide +kernel))
set_option maxRecDepth 20000 in
theorem gL_joins_X0_join : GoodIn wsL_joins (wsV RL 33 RX0 yX0_join wsX0_join) := goodIn_app (goodIn_of _ (by decide +kernel)) ggL_joins_X0_join
theorem dL_joins_0 : decode cL_joins 0 = .ok (.aload_n 0, 1) := by decide +kernel
theorem dL_joins_1 : decode cL_joins 1 = .ok (.iload_n 1, 1) := by decide +kernel
theorem dL_joins_2 : decode cL_joins 2 = .ok (.iload_n 2, 1) := by decide +kernel
theorem dL_joins_3 : decode cL_joins 3 = .ok (.iload_n 3, 1) := by decide +kernel
theorem dL_joins_4 : decode cL_joins 4 = .ok (.invokevirtual 33, 3) := by decide +kernel
theorem dL_joins_7 : decode cL_joins 7 = .ok (.ifCond .eq 7, 3) := by decide +kernel
theorem dL_joins_10 : decode cL_joins 10 = .ok (.iconst 1, 1) := by decide +kernel
theorem dL_joins_11 : decode cL_joins 11 = .ok (.goto 4, 3) := by decide +kernel
theorem dL_joins_14 : decode cL_joins 14 = .ok (.iconst 0, 1) := by decide +kernel
theorem dL_joins_15 : decode cL_joins 15 = .ok (.ireturn, 1) := by decide +kernel
theorem dL_joins_16 : decode cL_joins 16 = .ok (.astore 4, 2) := by decide +kernel
theorem dL_joins_18 : decode cL_joins 18 = .ok (.ldc 25, 2) := by decide +kernel
theorem dL_joins_20 : decode cL_joins 20 = .ok (.ireturn, 1) := by decide +kernel
theorem dL_joins_21 : decode cL_joins 21 = .ok (.astore 4, 2) := by decide +kernel
theorem dL_joins_23 : decode cL_joins 23 = .ok (.ldc 15, 2) := by decide +kernel
theorem dL_joins_25 : decode cL_joins 25 = .ok (.ireturn, 1) := by decide +kernel
set_option maxRecDepth 20000 in
theorem ggL_kills_X0_kill : GoodIn wsL_kills wsX0_kill := goodIn_ca (goodIn_ca (goodIn_r _ [9, 10, 11, 12, 13, 14, 15, 16, 17, 8, 18, 19, 20, 21, 22, 23, 24, 25, 26, 27, 28, 29, 30, 31, 32, 33, 34, 35, 36, 37, 38, 39, 40, 41, 42, 43, 44, 45, 46, 47, 48, 49, 50, 51, 52, 53, 54, 55, 56, 57, 58, 59, 60, 61, 62, 63] (by decide +kernel) (by decide +kernel)) (goodIn_sub (fun _ h => List.mem_cons_of_mem _ (List.mem_append_left _ (List.mem_append_right _ h))) (by decide +kernel))) (goodIn_sub (fun _ h => List.mem_cons_of_mem _ (List.mem_append_right _ h)) (by decide +kernel))
set_option maxRecDepth 20000 in
theorem gL_kills_X0_kill : GoodIn wsL_kills (wsV RL 37 RX0 yX0_kill wsX0_kill) := goodIn_app (goodIn_of _ (by decide +kernel)) ggL_kills_X0_kill
theorem dL_kills_0 : decode cL_kills 0 = .ok (.aload_n 0, 1) := by decide +kernel
theorem dL_kills_1 : decode cL_kills 1 = .ok (.iload_n 1, 1) := by decide +kernel
theorem dL_kills_2 : decode cL_kills 2 = .ok (.invokevirtual 37, 3) := by decide +kernel
theorem dL_kills_5 : decode cL_kills 5 = .ok (.ireturn, 1) := by decide +kernel
theorem dL_kills_6 : decode cL_kills 6 = .ok (.astore_n 2, 1) := by decide +kernel
theorem dL_kills_7 : decode cL_kills 7 = .ok (.ldc 25, 2) := by decide +kernel
theorem dL_kills_9 : decode cL_kills 9 = .ok (.ireturn, 1) := by decide +kernel
theorem dL_kills_10 : decode cL_kills 10 = .ok (.astore_n 2, 1) := by decide +kernel
theorem dL_kills_11 : decode cL_kills 11 = .ok (.ldc 18, 2) := by decide +kernel
theorem dL_kills_13 : decode cL_kills 13 = .ok (.ireturn, 1) := by decide +kernel
set_option maxRecDepth 20000 in
theorem ggL_quiet_X0_isQuiet : GoodIn wsL_quiet wsX0_isQuiet := goodIn_ca (goodIn_r _ [7, 8, 9, 10, 6, 11, 12, 13, 14, 15, 16, 17, 18, 19, 20, 21, 22, 23, 24, 25, 26, 27, 28, 29, 30, 31, 32, 33, 34, 35, 36, 37, 38, 39, 40, 41, 42, 43, 44, 45, 46, 47, 48, 49] (by decide +kernel) (by decide +kernel)) (goodIn_sub (fun _ h => List.mem_cons_of_mem _ (List.mem_append_right _ h)) (by decide +kernel))
set_option maxRecDepth 20000 in
theorem gL_quiet_X0_isQuiet : GoodIn wsL_quiet (wsV RL 41 RX0 yX0_isQuiet wsX0_isQuiet) := goodIn_app (goodIn_of _ (by decide +kernel)) ggL_quiet_X0_isQuiet
theorem dL_quiet_0 : decode cL_quiet 0 = .ok (.aload_n 0, 1) := by decide +kernel
theorem dL_quiet_1 : decode cL_quiet 1 = .ok (.iload_n 1, 1) := by decide +kernel
end
section
theorem dL_quiet_2 : decode cL_quiet 2 = .ok (.invokevirtual 41, 3) := by decide +kernel
theorem dL_quiet_5 : decode cL_quiet 5 = .ok (.ifCond .eq 7, 3) := by decide +kernel
theorem dL_quiet_8 : decode cL_quiet 8 = .ok (.iconst 1, 1) := by decide +kernel
theorem dL_quiet_9 : decode cL_quiet 9 = .ok (.goto 4, 3) := by decide +kernel
theorem dL_quiet_12 : decode cL_quiet 12 = .ok (.iconst 0, 1) := by decide +kernel
theorem dL_quiet_13 : decode cL_quiet 13 = .ok (.ireturn, 1) := by decide +kernel
theorem dL_quiet_14 : decode cL_quiet 14 = .ok (.astore_n 2, 1) := by decide +kernel
theorem dL_quiet_15 : decode cL_quiet 15 = .ok (.ldc 25, 2) := by decide +kernel
theorem dL_quiet_17 : decode cL_quiet 17 = .ok (.ireturn, 1) := by decide +kernel
set_option maxRecDepth 20000 in
theorem ggL_sends_X0_send : GoodIn wsL_sends wsX0_send := goodIn_ca (goodIn_ca (goodIn_r _ [9, 10, 11, 12, 8, 13, 14, 15, 16, 17, 18, 19, 20, 21, 22, 23, 24, 25, 26, 27, 28, 29, 30, 31, 32, 33, 34, 35, 36, 37, 38, 39, 40, 41, 42, 43, 44, 45, 46, 47, 48, 49, 50, 51, 52, 53, 54, 55, 56, 57, 58, 59, 60, 61, 62, 63, 64, 65, 66, 67, 68, 69, 70, 71, 72, 73, 74, 75, 76, 77, 78, 79, 80, 81, 82, 83, 84, 85, 86, 87, 88, 89, 90, 91, 92, 93, 94, 95, 96, 97, 98, 99, 100, 101, 102, 103, 104, 105, 106, 107, 108, 109, 110, 111, 112, 113, 114, 115, 116, 117, 118, 119, 120, 121, 122, 123, 124, 125, 126, 127, 128, 129, 130, 131, 132] (by decide +kernel) (by decide +kernel)) (goodIn_sub (fun _ h => List.mem_cons_of_mem _ (List.mem_append_left _ (List.mem_append_right _ h))) (by decide +kernel))) (goodIn_sub (fun _ h => List.mem_cons_of_mem _ (List.mem_append_right _ h)) (by decide +kernel))
set_option maxRecDepth 20000 in
theorem gL_sends_X0_send : GoodIn wsL_sends (wsV RL 45 RX0 yX0_send wsX0_send) := goodIn_app (goodIn_of _ (by decide +kernel)) ggL_sends_X0_send
theorem dL_sends_0 : decode cL_sends 0 = .ok (.aload_n 0, 1) := by decide +kernel
theorem dL_sends_1 : decode cL_sends 1 = .ok (.iload_n 1, 1) := by decide +kernel
theorem dL_sends_2 : decode cL_sends 2 = .ok (.iload_n 2, 1) := by decide +kernel
theorem dL_sends_3 : decode cL_sends 3 = .ok (.iload_n 3, 1) := by decide +kernel
theorem dL_sends_4 : decode cL_sends 4 = .ok (.iload 4, 2) := by decide +kernel
theorem dL_sends_6 : decode cL_sends 6 = .ok (.invokevirtual 45, 3) := by decide +kernel
theorem dL_sends_9 : decode cL_sends 9 = .ok (.ireturn, 1) := by decide +kernel
theorem dL_sends_10 : decode cL_sends 10 = .ok (.astore 5, 2) := by decide +kernel
theorem dL_sends_12 : decode cL_sends 12 = .ok (.ldc 15, 2) := by decide +kernel
theorem dL_sends_14 : decode cL_sends 14 = .ok (.ireturn, 1) := by decide +kernel
theorem dL_sends_15 : decode cL_sends 15 = .ok (.astore 5, 2) := by decide +kernel
theorem dL_sends_17 : decode cL_sends 17 = .ok (.ldc 18, 2) := by decide +kernel
theorem dL_sends_19 : decode cL_sends 19 = .ok (.ireturn, 1) := by decide +kernel
set_option maxRecDepth 20000 in
theorem ggL_sendsBy_X0_sendBy : GoodIn wsL_sendsBy wsX0_sendBy := goodIn_ca (goodIn_ca (goodIn_r _ [9, 10, 11, 8, 12, 13, 14, 15, 16, 17, 18, 19, 20, 21, 22, 23, 24, 25, 26, 27, 28, 29, 30, 31, 32, 33, 34, 35, 36, 37, 38, 39, 40, 41, 42, 43, 44, 45, 46, 47, 48, 49, 50, 51, 52, 53, 54, 55, 56, 57, 58, 59, 60, 61, 62, 63, 64, 65, 66, 67, 68, 69, 70, 71, 72, 73, 74, 75, 76, 77, 78, 79, 80, 81, 82, 83, 84, 85, 86, 87, 88, 89, 90, 91, 92, 93, 94, 95, 96, 97, 98, 99, 100, 101, 102, 103, 104, 105, 106, 107, 108, 109, 110, 111, 112, 113, 114, 115, 116, 117, 118, 119, 120, 121, 122, 123, 124] (by decide +kernel) (by decide +kernel)) (goodIn_sub (fun _ h => List.mem_cons_of_mem _ (List.mem_append_left _ (List.mem_append_right _ h))) (by decide +kernel))) (goodIn_sub (fun _ h => List.mem_cons_of_mem _ (List.mem_append_right _ h)) (by decide +kernel))
set_option maxRecDepth 20000 in
theorem gL_sendsBy_X0_sendBy : GoodIn wsL_sendsBy (wsV RL 49 RX0 yX0_sendBy wsX0_sendBy) := goodIn_app (goodIn_of _ (by decide +kernel)) ggL_sendsBy_X0_sendBy
theorem dL_sendsBy_0 : decode cL_sendsBy 0 = .ok (.aload_n 0, 1) := by decide +kernel
theorem dL_sendsBy_1 : decode cL_sendsBy 1 = .ok (.iload_n 1, 1) := by decide +kernel
theorem dL_sendsBy_2 : decode cL_sendsBy 2 = .ok (.iload_n 2, 1) := by decide +kernel
theorem dL_sendsBy_3 : decode cL_sendsBy 3 = .ok (.iload_n 3, 1) := by decide +kernel
theorem dL_sendsBy_4 : decode cL_sendsBy 4 = .ok (.iload 4, 2) := by decide +kernel
theorem dL_sendsBy_6 : decode cL_sendsBy 6 = .ok (.iload 5, 2) := by decide +kernel
theorem dL_sendsBy_8 : decode cL_sendsBy 8 = .ok (.invokevirtual 49, 3) := by decide +kernel
theorem dL_sendsBy_11 : decode cL_sendsBy 11 = .ok (.ireturn, 1) := by decide +kernel
theorem dL_sendsBy_12 : decode cL_sendsBy 12 = .ok (.astore 6, 2) := by decide +kernel
theorem dL_sendsBy_14 : decode cL_sendsBy 14 = .ok (.ldc 15, 2) := by decide +kernel
theorem dL_sendsBy_16 : decode cL_sendsBy 16 = .ok (.ireturn, 1) := by decide +kernel
theorem dL_sendsBy_17 : decode cL_sendsBy 17 = .ok (.astore 6, 2) := by decide +kernel
theorem dL_sendsBy_19 : decode cL_sendsBy 19 = .ok (.ldc 18, 2) := by decide +kernel
theorem dL_sendsBy_21 : decode cL_sendsBy 21 = .ok (.ireturn, 1) := by decide +kernel
set_option maxRecDepth 20000 in
theorem ggL_reads_X0_read : GoodIn wsL_reads wsX0_read := goodIn_ca (goodIn_ca (goodIn_r _ [9, 10, 11, 12, 13, 14, 15, 8, 16, 17, 18, 19, 20, 21, 22, 23, 24, 25, 26, 27, 28, 29, 30, 31, 32, 33, 34, 35, 36, 37, 38, 39, 40, 41, 42, 43, 44, 45, 46, 47, 48, 49, 50, 51, 52, 53, 54, 55, 56, 57, 58, 59, 60, 61, 62, 63, 64, 65, 66, 67, 68, 69, 70, 71] (by decide +kernel) (by decide +kernel)) (goodIn_sub (fun _ h => List.mem_cons_of_mem _ (List.mem_append_left _ (List.mem_append_right _ h))) (by decide +kernel))) (goodIn_sub (fun _ h => List.mem_cons_of_mem _ (List.mem_append_right _ h)) (by decide +kernel))
set_option maxRecDepth 20000 in
theorem gL_reads_X0_read : GoodIn wsL_reads (wsV RL 53 RX0 yX0_read wsX0_read) := goodIn_app (goodIn_of _ (by decide +kernel)) ggL_reads_X0_read
theorem dL_reads_0 : decode cL_reads 0 = .ok (.aload_n 0, 1) := by decide +kernel
theorem dL_reads_1 : decode cL_reads 1 = .ok (.iload_n 1, 1) := by decide +kernel
theorem dL_reads_2 : decode cL_reads 2 = .ok (.iload_n 2, 1) := by decide +kernel
theorem dL_reads_3 : decode cL_reads 3 = .ok (.invokevirtual 53, 3) := by decide +kernel
theorem dL_reads_6 : decode cL_reads 6 = .ok (.ireturn, 1) := by decide +kernel
theorem dL_reads_7 : decode cL_reads 7 = .ok (.astore_n 3, 1) := by decide +kernel
theorem dL_reads_8 : decode cL_reads 8 = .ok (.ldc 25, 2) := by decide +kernel
theorem dL_reads_10 : decode cL_reads 10 = .ok (.ireturn, 1) := by decide +kernel
theorem dL_reads_11 : decode cL_reads 11 = .ok (.astore_n 3, 1) := by decide +kernel
theorem dL_reads_12 : decode cL_reads 12 = .ok (.ldc 18, 2) := by decide +kernel
theorem dL_reads_14 : decode cL_reads 14 = .ok (.ireturn, 1) := by decide +kernel
set_option maxRecDepth 20000 in
theorem ggL_stands_X0_stands : GoodIn wsL_stands wsX0_stands := goodIn_ca (goodIn_r _ [7, 8, 9, 10, 6, 11, 12, 13, 14, 15, 16, 17, 18, 19, 20, 21, 22, 23, 24, 25, 26, 27, 28, 29, 30, 31, 32, 33, 34, 35, 36, 37, 38, 39] (by decide +kernel) (by decide +kernel)) (goodIn_sub (fun _ h => List.mem_cons_of_mem _ (List.mem_append_right _ h)) (by decide +kernel))
set_option maxRecDepth 20000 in
theorem gL_stands_X0_stands : GoodIn wsL_stands (wsV RL 56 RX0 yX0_stands wsX0_stands) := goodIn_app (goodIn_of _ (by decide +kernel)) ggL_stands_X0_stands
theorem dL_stands_0 : decode cL_stands 0 = .ok (.aload_n 0, 1) := by decide +kernel
theorem dL_stands_1 : decode cL_stands 1 = .ok (.iload_n 1, 1) := by decide +kernel
theorem dL_stands_2 : decode cL_stands 2 = .ok (.invokevirtual 56, 3) := by decide +kernel
theorem dL_stands_5 : decode cL_stands 5 = .ok (.ifCond .eq 7, 3) := by decide +kernel
theorem dL_stands_8 : decode cL_stands 8 = .ok (.iconst 1, 1) := by decide +kernel
theorem dL_stands_9 : decode cL_stands 9 = .ok (.goto 4, 3) := by decide +kernel
theorem dL_stands_12 : decode cL_stands 12 = .ok (.iconst 0, 1) := by decide +kernel
theorem dL_stands_13 : decode cL_stands 13 = .ok (.ireturn, 1) := by decide +kernel
theorem dL_stands_14 : decode cL_stands 14 = .ok (.astore_n 2, 1) := by decide +kernel
theorem dL_stands_15 : decode cL_stands 15 = .ok (.ldc 25, 2) := by decide +kernel
theorem dL_stands_17 : decode cL_stands 17 = .ok (.ireturn, 1) := by decide +kernel
set_option maxRecDepth 20000 in
theorem ggL_waits_X0_waitsFor : GoodIn wsL_waits wsX0_waitsFor := goodIn_ca (goodIn_r _ [7, 8, 9, 10, 6, 11, 12, 13, 14, 15, 16, 17, 18, 19, 20, 21, 22, 23, 24, 25, 26, 27, 28, 29, 30, 31, 32, 33, 34, 35, 36, 37, 38, 39, 40, 41, 42, 43, 44] (by decide +kernel) (by decide +kernel)) (goodIn_sub (fun _ h => List.mem_cons_of_mem _ (List.mem_append_right _ h)) (by decide +kernel))
set_option maxRecDepth 20000 in
theorem gL_waits_X0_waitsFor : GoodIn wsL_waits (wsV RL 59 RX0 yX0_waitsFor wsX0_waitsFor) := goodIn_app (goodIn_of _ (by decide +kernel)) ggL_waits_X0_waitsFor
theorem dL_waits_0 : decode cL_waits 0 = .ok (.aload_n 0, 1) := by decide +kernel
theorem dL_waits_1 : decode cL_waits 1 = .ok (.iload_n 1, 1) := by decide +kernel
theorem dL_waits_2 : decode cL_waits 2 = .ok (.invokevirtual 59, 3) := by decide +kernel
theorem dL_waits_5 : decode cL_waits 5 = .ok (.ireturn, 1) := by decide +kernel
theorem dL_waits_6 : decode cL_waits 6 = .ok (.astore_n 2, 1) := by decide +kernel
theorem dL_waits_7 : decode cL_waits 7 = .ok (.ldc 25, 2) := by decide +kernel
theorem dL_waits_9 : decode cL_waits 9 = .ok (.ireturn, 1) := by decide +kernel
set_option maxRecDepth 20000 in
theorem ggL_delivered_X0_deliveredTo : GoodIn wsL_delivered wsX0_deliveredTo := goodIn_ca (goodIn_r _ [7, 8, 9, 10, 11, 6, 12, 13, 14, 15, 16, 17, 18, 19, 20, 21, 22, 23, 24, 25, 26, 27, 28, 29, 30, 31, 32, 33, 34] (by decide +kernel) (by decide +kernel)) (goodIn_sub (fun _ h => List.mem_cons_of_mem _ (List.mem_append_right _ h)) (by decide +kernel))
set_option maxRecDepth 20000 in
theorem gL_delivered_X0_deliveredTo : GoodIn wsL_delivered (wsV RL 62 RX0 yX0_deliveredTo wsX0_deliveredTo) := goodIn_app (goodIn_of _ (by decide +kernel)) ggL_delivered_X0_deliveredTo
theorem dL_delivered_0 : decode cL_delivered 0 = .ok (.aload_n 0, 1) := by decide +kernel
theorem dL_delivered_1 : decode cL_delivered 1 = .ok (.iload_n 1, 1) := by decide +kernel
theorem dL_delivered_2 : decode cL_delivered 2 = .ok (.invokevirtual 62, 3) := by decide +kernel
theorem dL_delivered_5 : decode cL_delivered 5 = .ok (.ireturn, 1) := by decide +kernel
theorem dL_delivered_6 : decode cL_delivered 6 = .ok (.astore_n 2, 1) := by decide +kernel
theorem dL_delivered_7 : decode cL_delivered 7 = .ok (.ldc 25, 2) := by decide +kernel
theorem dL_delivered_9 : decode cL_delivered 9 = .ok (.ireturn, 1) := by decide +kernel
set_option maxRecDepth 20000 in
theorem ggL_standing_X0_standing : GoodIn wsL_standing wsX0_standing := goodIn_ca (goodIn_r _ [7, 8, 9, 10, 6, 11, 12, 13, 14, 15, 16, 17, 18, 19, 20, 21, 22, 23, 24, 25, 26, 27, 28, 29, 30, 31, 32, 33, 34, 35, 36, 37, 38, 39, 40, 41] (by decide +kernel) (by decide +kernel)) (goodIn_sub (fun _ h => List.mem_cons_of_mem _ (List.mem_append_right _ h)) (by decide +kernel))
set_option maxRecDepth 20000 in
theorem gL_standing_X0_standing : GoodIn wsL_standing (wsV RL 65 RX0 yX0_standing wsX0_standing) := goodIn_app (goodIn_of _ (by decide +kernel)) ggL_standing_X0_standing
theorem dL_standing_0 : decode cL_standing 0 = .ok (.aload_n 0, 1) := by decide +kernel
theorem dL_standing_1 : decode cL_standing 1 = .ok (.iload_n 1, 1) := by decide +kernel
theorem dL_standing_2 : decode cL_standing 2 = .ok (.iload_n 2, 1) := by decide +kernel
theorem dL_standing_3 : decode cL_standing 3 = .ok (.invokevirtual 65, 3) := by decide +kernel
theorem dL_standing_6 : decode cL_standing 6 = .ok (.ireturn, 1) := by decide +kernel
theorem dL_standing_7 : decode cL_standing 7 = .ok (.astore_n 3, 1) := by decide +kernel
theorem dL_standing_8 : decode cL_standing 8 = .ok (.ldc 15, 2) := by decide +kernel
theorem dL_standing_10 : decode cL_standing 10 = .ok (.ireturn, 1) := by decide +kernel
set_option maxRecDepth 20000 in
theorem ggL_badge_X0_badge : GoodIn wsL_badge wsX0_badge := goodIn_ca (goodIn_r _ [7, 8, 9, 10, 11, 12, 6, 13, 14, 15, 16, 17, 18, 19, 20, 21, 22, 23, 24, 25, 26, 27, 28, 29, 30, 31, 32, 33, 34, 35, 36, 37, 38, 39, 40, 41, 42, 43, 44, 45, 46, 47] (by decide +kernel) (by decide +kernel)) (goodIn_sub (fun _ h => List.mem_cons_of_mem _ (List.mem_append_right _ h)) (by decide +kernel))
set_option maxRecDepth 20000 in
theorem gL_badge_X0_badge : GoodIn wsL_badge (wsV RL 68 RX0 yX0_badge wsX0_badge) := goodIn_app (goodIn_of _ (by decide +kernel)) ggL_badge_X0_badge
theorem dL_badge_0 : decode cL_badge 0 = .ok (.aload_n 0, 1) := by decide +kernel
theorem dL_badge_1 : decode cL_badge 1 = .ok (.iload_n 1, 1) := by decide +kernel
theorem dL_badge_2 : decode cL_badge 2 = .ok (.invokevirtual 68, 3) := by decide +kernel
theorem dL_badge_5 : decode cL_badge 5 = .ok (.ireturn, 1) := by decide +kernel
theorem dL_badge_6 : decode cL_badge 6 = .ok (.astore_n 2, 1) := by decide +kernel
theorem dL_badge_7 : decode cL_badge 7 = .ok (.ldc 25, 2) := by decide +kernel
theorem dL_badge_9 : decode cL_badge 9 = .ok (.ireturn, 1) := by decide +kernel
set_option maxRecDepth 20000 in
theorem ggL_waiting_X0_waiting : GoodIn wsL_waiting wsX0_waiting := goodIn_ca (goodIn_r _ [7, 8, 9, 10, 6, 11, 12, 13, 14, 15, 16, 17, 18, 19, 20, 21, 22, 23, 24, 25, 26, 27, 28, 29, 30, 31, 32, 33, 34, 35, 36, 37, 38, 39, 40, 41, 42, 43, 44, 45, 46, 47, 48, 49, 50, 51, 52, 53, 54, 55] (by decide +kernel) (by decide +kernel)) (goodIn_sub (fun _ h => List.mem_cons_of_mem _ (List.mem_append_right _ h)) (by decide +kernel))
set_option maxRecDepth 20000 in
theorem gL_waiting_X0_waiting : GoodIn wsL_waiting (wsV RL 71 RX0 yX0_waiting wsX0_waiting) := goodIn_app (goodIn_of _ (by decide +kernel)) ggL_waiting_X0_waiting
theorem dL_waiting_0 : decode cL_waiting 0 = .ok (.aload_n 0, 1) := by decide +kernel
theorem dL_waiting_1 : decode cL_waiting 1 = .ok (.iload_n 1, 1) := by decide +kernel
theorem dL_waiting_2 : decode cL_waiting 2 = .ok (.invokevirtual 71, 3) := by decide +kernel
theorem dL_waiting_5 : decode cL_waiting 5 = .ok (.ireturn, 1) := by decide +kernel
theorem dL_waiting_6 : decode cL_waiting 6 = .ok (.astore_n 2, 1) := by decide +kernel
theorem dL_waiting_7 : decode cL_waiting 7 = .ok (.ldc 25, 2) := by decide +kernel
theorem dL_waiting_9 : decode cL_waiting 9 = .ok (.ireturn, 1) := by decide +kernel
set_option maxRecDepth 20000 in
theorem ggL_quota_X0_quota : GoodIn wsL_quota wsX0_quota := goodIn_ca (goodIn_r _ [7, 8, 9, 10, 6, 11, 12, 13, 14, 15, 16, 17, 18, 19, 20, 21, 22, 23, 24, 25, 26, 27, 28, 29, 30, 31, 32, 33, 34, 35, 36, 37, 38, 39, 40] (by decide +kernel) (by decide +kernel)) (goodIn_sub (fun _ h => List.mem_cons_of_mem _ (List.mem_append_right _ h)) (by decide +kernel))
set_option maxRecDepth 20000 in
theorem gL_quota_X0_quota : GoodIn wsL_quota (wsV RL 74 RX0 yX0_quota wsX0_quota) := goodIn_app (goodIn_of _ (by decide +kernel)) ggL_quota_X0_quota
theorem dL_quota_0 : decode cL_quota 0 = .ok (.aload_n 0, 1) := by decide +kernel
theorem dL_quota_1 : decode cL_quota 1 = .ok (.iload_n 1, 1) := by decide +kernel
theorem dL_quota_2 : decode cL_quota 2 = .ok (.invokevirtual 74, 3) := by decide +kernel
theorem dL_quota_5 : decode cL_quota 5 = .ok (.ireturn, 1) := by decide +kernel
theorem dL_quota_6 : decode cL_quota 6 = .ok (.astore_n 2, 1) := by decide +kernel
theorem dL_quota_7 : decode cL_quota 7 = .ok (.ldc 25, 2) := by decide +kernel
theorem dL_quota_9 : decode cL_quota 9 = .ok (.ireturn, 1) := by decide +kernel
set_option maxRecDepth 20000 in
theorem ggL_passes_X0_pass : GoodIn wsL_passes wsX0_pass := goodIn_ca (goodIn_ca (goodIn_r _ [9, 10, 11, 12, 13, 14, 15, 16, 17, 18, 19, 8, 20, 21, 22, 23, 24, 25, 26, 27, 28, 29, 30, 31, 32, 33, 34, 35, 36, 37, 38, 39, 40, 41, 42, 43, 44, 45, 46, 47, 48, 49, 50, 51, 52, 53, 54, 55, 56, 57, 58, 59, 60, 61, 62, 63, 64, 65, 66, 67, 68, 69, 70, 71, 72, 73, 74, 75, 76, 77, 78, 79, 80, 81, 82, 83, 84, 85, 86, 87, 88, 89, 90, 91, 92, 93, 94, 95, 96, 97, 98, 99, 100, 101, 102, 103, 104, 105, 106, 107, 108, 109, 110, 111, 112, 113, 114, 115, 116, 117, 118, 119] (by decide +kernel) (by decide +kernel)) (goodIn_sub (fun _ h => List.mem_cons_of_mem _ (List.mem_append_left _ (List.mem_append_right _ h))) (by decide +kernel))) (goodIn_sub (fun _ h => List.mem_cons_of_mem _ (List.mem_append_right _ h)) (by decide +kernel))
set_option maxRecDepth 20000 in
theorem gL_passes_X0_pass : GoodIn wsL_passes (wsV RL 77 RX0 yX0_pass wsX0_pass) := goodIn_app (goodIn_of _ (by decide +kernel)) ggL_passes_X0_pass
theorem dL_passes_0 : decode cL_passes 0 = .ok (.aload_n 0, 1) := by decide +kernel
theorem dL_passes_1 : decode cL_passes 1 = .ok (.iload_n 1, 1) := by decide +kernel
theorem dL_passes_2 : decode cL_passes 2 = .ok (.invokevirtual 77, 3) := by decide +kernel
theorem dL_passes_5 : decode cL_passes 5 = .ok (.ireturn, 1) := by decide +kernel
theorem dL_passes_6 : decode cL_passes 6 = .ok (.astore_n 2, 1) := by decide +kernel
theorem dL_passes_7 : decode cL_passes 7 = .ok (.ldc 15, 2) := by decide +kernel
theorem dL_passes_9 : decode cL_passes 9 = .ok (.ireturn, 1) := by decide +kernel
theorem dL_passes_10 : decode cL_passes 10 = .ok (.astore_n 2, 1) := by decide +kernel
theorem dL_passes_11 : decode cL_passes 11 = .ok (.ldc 18, 2) := by decide +kernel
theorem dL_passes_13 : decode cL_passes 13 = .ok (.ireturn, 1) := by decide +kernel
theorem dL_drawn_0 : decode cL_drawn 0 = .ok (.iload_n 1, 1) := by decide +kernel
theorem dL_drawn_1 : decode cL_drawn 1 = .ok (.aload_n 0, 1) := by decide +kernel
theorem dL_drawn_2 : decode cL_drawn 2 = .ok (.arraylength, 1) := by decide +kernel
theorem dL_drawn_3 : decode cL_drawn 3 = .ok (.if_icmp .ge 9, 3) := by decide +kernel
theorem dL_drawn_6 : decode cL_drawn 6 = .ok (.aload_n 0, 1) := by decide +kernel
theorem dL_drawn_7 : decode cL_drawn 7 = .ok (.iload_n 1, 1) := by decide +kernel
theorem dL_drawn_8 : decode cL_drawn 8 = .ok (.iaload, 1) := by decide +kernel
theorem dL_drawn_9 : decode cL_drawn 9 = .ok (.goto 13, 3) := by decide +kernel
theorem dL_drawn_12 : decode cL_drawn 12 = .ok (.ldc 80, 2) := by decide +kernel
theorem dL_drawn_14 : decode cL_drawn 14 = .ok (.iload_n 1, 1) := by decide +kernel
theorem dL_drawn_15 : decode cL_drawn 15 = .ok (.iconst 3, 1) := by decide +kernel
theorem dL_drawn_16 : decode cL_drawn 16 = .ok (.iadd, 1) := by decide +kernel
theorem dL_drawn_17 : decode cL_drawn 17 = .ok (.imul, 1) := by decide +kernel
theorem dL_drawn_18 : decode cL_drawn 18 = .ok (.sipush 13697, 3) := by decide +kernel
theorem dL_drawn_21 : decode cL_drawn 21 = .ok (.iadd, 1) := by decide +kernel
theorem dL_drawn_22 : decode cL_drawn 22 = .ok (.ldc 81, 2) := by decide +kernel
theorem dL_drawn_24 : decode cL_drawn 24 = .ok (.iand, 1) := by decide +kernel
theorem dL_drawn_25 : decode cL_drawn 25 = .ok (.ireturn, 1) := by decide +kernel
set_option maxRecDepth 20000 in
theorem ggL_refuses_X0_devices : GoodIn wsL_refuses wsX0_devices := goodIn_r _ [8, 9, 275, 276, 277, 278, 279, 280, 281, 282, 283, 284, 285, 286, 287, 288, 289, 290, 291, 292, 293] (by decide +kernel) (by decide +kernel)
set_option maxRecDepth 20000 in
theorem gL_refuses_X0_devices : GoodIn wsL_refuses (wsV RL 82 RX0 yX0_devices wsX0_devices) := goodIn_app (goodIn_of _ (by decide +kernel)) ggL_refuses_X0_devices
set_option maxRecDepth 20000 in
theorem ggL_refuses_X0_sent : GoodIn wsL_refuses wsX0_sent := goodIn_r _ [13, 14, 275, 276, 277, 278, 279, 280, 281, 282, 283, 284, 285, 286, 287, 288, 289, 290, 291, 292, 293] (by decide +kernel) (by decide +kernel)
set_option maxRecDepth 20000 in
theorem gL_refuses_X0_sent : GoodIn wsL_refuses (wsV RL 86 RX0 yX0_sent wsX0_sent) := goodIn_app (goodIn_of _ (by decide +kernel)) ggL_refuses_X0_sent
set_option maxRecDepth 20000 in
theorem ggL_refuses_L_adds : GoodIn wsL_refuses wsL_adds := goodIn_ca (goodIn_ca (goodIn_r _ [18, 19, 20, 1, 3, 21, 22, 23, 7, 24, 25, 26, 9, 27, 28, 29, 30, 31, 32, 33, 34, 35, 36, 37, 38, 275, 276, 277, 278, 279, 280, 281, 282, 283, 284, 285, 286, 287, 288, 289, 290, 291, 292, 293] (by decide +kernel) (by decide +kernel)) (goodIn_sub (fun _ h => List.mem_cons_of_mem _ (List.mem_append_left _ (List.mem_append_left _ (List.mem_append_right _ h)))) (by decide +kernel))) (goodIn_sub (fun _ h => List.mem_cons_of_mem _ (List.mem_append_left _ (List.mem_append_right _ h))) (by decide +kernel))
set_option maxRecDepth 20000 in
theorem gL_refuses_L_adds : GoodIn wsL_refuses (va_wsS RL 89 yL_adds wsL_adds) := goodIn_app (goodIn_of _ (by decide +kernel)) ggL_refuses_L_adds
set_option maxRecDepth 20000 in
theorem ggL_refuses_L_online : GoodIn wsL_refuses wsL_online := goodIn_ca (goodIn_r _ [41, 42, 2, 43, 44, 45, 7, 46, 30, 47, 48, 49, 50, 51, 52, 9, 53, 54, 55, 36, 37, 38, 56, 57, 58, 59, 60, 14, 61, 62, 63, 64, 65, 66, 67, 68, 69, 70, 71, 72, 73, 74, 75, 76, 77, 27, 78, 79, 80, 81, 82, 83, 84, 85, 86, 87, 88, 89, 90, 91, 92, 93, 94, 95, 96, 97, 98, 99, 100, 101, 102, 103, 104, 105, 106, 107, 108, 109, 110, 111, 112, 113, 114, 115, 116, 117, 118, 119, 120, 275, 276, 277, 278, 279, 280, 281, 282, 283, 284, 285, 286, 287, 288, 289, 290, 291, 292, 293] (by decide +kernel) (by decide +kernel)) (goodIn_sub (fun _ h => List.mem_cons_of_mem _ (List.mem_append_right _ h)) (by decide +kernel))
set_option maxRecDepth 20000 in
theorem gL_refuses_L_online : GoodIn wsL_refuses (va_wsS RL 95 yL_online wsL_online) := goodIn_app (goodIn_of _ (by decide +kernel)) ggL_refuses_L_online
set_option maxRecDepth 20000 in
theorem ggL_refuses_L_dozes : GoodIn wsL_refuses wsL_dozes := goodIn_ca (goodIn_r _ [123, 42, 2, 124, 125, 126, 7, 127, 67, 47, 48, 49, 50, 51, 52, 9, 53, 54, 55, 36, 37, 38, 56, 57, 58, 59, 60, 14, 61, 62, 63, 64, 65, 66, 30, 68, 69, 70, 71, 72, 73, 74, 75, 76, 77, 27, 78, 79, 80, 81, 82, 83, 84, 85, 86, 87, 88, 89, 90, 91, 92, 93, 94, 95, 96, 97, 98, 99, 100, 101, 102, 103, 104, 105, 106, 107, 108, 109, 110, 111, 112, 113, 114, 115, 116, 117, 118, 119, 120, 275, 276, 277, 278, 279, 280, 281, 282, 283, 284, 285, 286, 287, 288, 289, 290, 291, 292, 293] (by decide +kernel) (by decide +kernel)) (goodIn_sub (fun _ h => List.mem_cons_of_mem _ (List.mem_append_right _ h)) (by decide +kernel))
set_option maxRecDepth 20000 in
theorem gL_refuses_L_dozes : GoodIn wsL_refuses (va_wsS RL 99 yL_dozes wsL_dozes) := goodIn_app (goodIn_of _ (by decide +kernel)) ggL_refuses_L_dozes
set_option maxRecDepth 20000 in
theorem ggL_refuses_L_quiets : GoodIn wsL_refuses wsL_quiets := goodIn_ca (goodIn_ca (goodIn_r _ [130, 42, 19, 2, 1, 131, 132, 133, 7, 134, 72, 73, 47, 48, 49, 50, 51, 52, 9, 31, 32, 33, 34, 35, 56, 57, 58, 59, 60, 14, 61, 62, 63, 64, 65, 66, 30, 67, 68, 69, 70, 71, 74, 75, 76, 77, 27, 78, 79, 80, 81, 53, 54, 55, 36, 37, 38, 82, 83, 84, 85, 86, 87, 88, 89, 90, 91, 92, 93, 94, 95, 96, 97, 98, 99, 100, 101, 102, 103, 104, 105, 106, 107, 108, 109, 110, 111, 112, 113, 114, 115, 116, 117, 118, 119, 120, 275, 276, 277, 278, 279, 280, 281, 282, 283, 284, 285, 286, 287, 288, 289, 290, 291, 292, 293] (by decide +kernel) (by decide +kernel)) (goodIn_sub (fun _ h => List.mem_cons_of_mem _ (List.mem_append_right _ h)) (by decide +kernel))) (goodIn_sub (fun _ h => List.mem_cons_of_mem _ (List.mem_append_left _ (List.mem_append_right _ h))) (by decide +kernel))
set_option maxRecDepth 20000 in
theorem gL_refuses_L_quiets : GoodIn wsL_refuses (va_wsS RL 102 yL_quiets wsL_quiets) := goodIn_app (goodIn_of _ (by decide +kernel)) ggL_refuses_L_quiets
set_option maxRecDepth 20000 in
theorem ggL_refuses_L_joins : GoodIn wsL_refuses wsL_joins := goodIn_ca (goodIn_ca (goodIn_r _ [137, 42, 19, 2, 1, 138, 139, 140, 7, 141, 142, 47, 48, 49, 50, 51, 52, 9, 31, 32, 33, 34, 35, 96, 97, 98, 36, 37, 38, 53, 54, 55, 275, 276, 277, 278, 279, 280, 281, 282, 283, 284, 285, 286, 287, 288, 289, 290, 291, 292, 293] (by decide +kernel) (by decide +kernel)) (goodIn_sub (fun _ h => List.mem_cons_of_mem _ (List.mem_append_right _ h)) (by decide +kernel))) (goodIn_sub (fun _ h => List.mem_cons_of_mem _ (List.mem_append_left _ (List.mem_append_right _ h))) (by decide +kernel))
set_option maxRecDepth 20000 in
theorem gL_refuses_L_joins : GoodIn wsL_refuses (va_wsS RL 106 yL_joins wsL_joins) := goodIn_app (goodIn_of _ (by decide +kernel)) ggL_refuses_L_joins
set_option maxRecDepth 20000 in
theorem ggL_refuses_L_kills : GoodIn wsL_refuses wsL_kills := goodIn_ca (goodIn_ca (goodIn_r _ [145, 42, 20, 2, 3, 146, 147, 148, 7, 149, 25, 26, 29, 14, 86, 47, 48, 49, 50, 51, 52, 9, 96, 97, 98, 36, 37, 38, 150, 151, 152, 153, 82, 83, 84, 85, 87, 88, 89, 90, 66, 91, 53, 54, 55, 275, 276, 277, 278, 279, 280, 281, 282, 283, 284, 285, 286, 287, 288, 289, 290, 291, 292, 293] (by decide +kernel) (by decide +kernel)) (goodIn_sub (fun _ h => List.mem_cons_of_mem _ (List.mem_append_left _ (List.mem_append_left _ (List.mem_append_right _ h)))) (by decide +kernel))) (goodIn_sub (fun _ h => List.mem_cons_of_mem _ (List.mem_append_right _ h)) (by decide +kernel))
set_option maxRecDepth 20000 in
theorem gL_refuses_L_kills : GoodIn wsL_refuses (va_wsS RL 110 yL_kills wsL_kills) := goodIn_app (goodIn_of _ (by decide +kernel)) ggL_refuses_L_kills
set_option maxRecDepth 20000 in
theorem ggL_refuses_L_quiet : GoodIn wsL_refuses wsL_quiet := goodIn_ca (goodIn_r _ [156, 42, 2, 157, 158, 159, 7, 160, 47, 48, 49, 50, 51, 52, 9, 68, 69, 70, 71, 72, 73, 74, 75, 76, 77, 66, 27, 78, 79, 80, 81, 275, 276, 277, 278, 279, 280, 281, 282, 283, 284, 285, 286, 287, 288, 289, 290, 291, 292, 293] (by decide +kernel) (by decide +kernel)) (goodIn_sub (fun _ h => List.mem_cons_of_mem _ (List.mem_append_right _ h)) (by decide +kernel))
set_option maxRecDepth 20000 in
theorem gL_refuses_L_quiet : GoodIn wsL_refuses (va_wsS RL 114 yL_quiet wsL_quiet) := goodIn_app (goodIn_of _ (by decide +kernel)) ggL_refuses_L_quiet
set_option maxRecDepth 20000 in
theorem ggL_refuses_L_sends : GoodIn wsL_refuses wsL_sends := goodIn_ca (goodIn_ca (goodIn_r _ [163, 19, 20, 1, 3, 164, 165, 166, 7, 167, 28, 31, 32, 33, 34, 35, 168, 169, 170, 171, 25, 26, 14, 172, 173, 174, 175, 176, 177, 178, 179, 87, 88, 89, 90, 66, 91, 180, 181, 182, 183, 184, 185, 186, 187, 61, 86, 29, 56, 57, 58, 59, 60, 62, 63, 64, 65, 30, 67, 9, 68, 69, 70, 71, 72, 73, 74, 75, 76, 77, 27, 78, 79, 80, 81, 53, 54, 55, 36, 37, 38, 82, 83, 84, 85, 92, 93, 94, 95, 96, 97, 98, 99, 100, 101, 102, 103, 104, 105, 106, 107, 108, 109, 110, 111, 112, 113, 114, 115, 116, 117, 118, 119, 120, 275, 276, 277, 278, 279, 280, 281, 282, 283, 284, 285, 286, 287, 288, 289, 290, 291, 292, 293] (by decide +kernel) (by decide +kernel)) (goodIn_sub (fun _ h => List.mem_cons_of_mem _ (List.mem_append_left _ (List.mem_append_right _ h))) (by decide +kernel))) (goodIn_sub (fun _ h => List.mem_cons_of_mem _ (List.mem_append_left _ (List.mem_append_left _ (List.mem_append_right _ h)))) (by decide +kernel))
set_option maxRecDepth 20000 in
theorem gL_refuses_L_sends : GoodIn wsL_refuses (va_wsS RL 117 yL_sends wsL_sends) := goodIn_app (goodIn_of _ (by decide +kernel)) ggL_refuses_L_sends
set_option maxRecDepth 20000 in
theorem ggL_refuses_L_sendsBy : GoodIn wsL_refuses wsL_sendsBy := goodIn_ca (goodIn_ca (goodIn_r _ [190, 19, 20, 1, 3, 191, 192, 193, 7, 194, 31, 32, 33, 34, 35, 168, 169, 170, 171, 25, 26, 14, 195, 196, 197, 198, 142, 184, 185, 186, 187, 61, 91, 66, 86, 29, 56, 57, 58, 59, 60, 62, 63, 64, 65, 30, 67, 9, 68, 69, 70, 71, 72, 73, 74, 75, 76, 77, 27, 78, 79, 80, 81, 53, 54, 55, 36, 37, 38, 82, 83, 84, 85, 87, 88, 89, 90, 92, 93, 94, 95, 96, 97, 98, 99, 100, 101, 102, 103, 104, 105, 106, 107, 108, 109, 110, 111, 112, 113, 114, 115, 116, 117, 118, 119, 120, 275, 276, 277, 278, 279, 280, 281, 282, 283, 284, 285, 286, 287, 288, 289, 290, 291, 292, 293] (by decide +kernel) (by decide +kernel)) (goodIn_sub (fun _ h => List.mem_cons_of_mem _ (List.mem_append_left _ (List.mem_append_right _ h))) (by decide +kernel))) (goodIn_sub (fun _ h => List.mem_cons_of_mem _ (List.mem_append_left _ (List.mem_append_left _ (List.mem_append_right _ h)))) (by decide +kernel))
set_option maxRecDepth 20000 in
theorem gL_refuses_L_sendsBy : GoodIn wsL_refuses (va_wsS RL 121 yL_sendsBy wsL_sendsBy) := goodIn_app (goodIn_of _ (by decide +kernel)) ggL_refuses_L_sendsBy
set_option maxRecDepth 20000 in
theorem ggL_refuses_L_reads : GoodIn wsL_refuses wsL_reads := goodIn_ca (goodIn_ca (goodIn_r _ [201, 42, 20, 2, 3, 202, 203, 204, 7, 205, 25, 26, 109, 47, 48, 49, 50, 51, 52, 9, 206, 207, 208, 209, 14, 96, 97, 98, 36, 37, 38, 87, 88, 89, 90, 66, 91, 82, 83, 84, 85, 86, 110, 111, 112, 113, 114, 115, 116, 180, 181, 182, 183, 275, 276, 277, 278, 279, 280, 281, 282, 283, 284, 285, 286, 287, 288, 289, 290, 291, 292, 293] (by decide +kernel) (by decide +kernel)) (goodIn_sub (fun _ h => List.mem_cons_of_mem _ (List.mem_append_left _ (List.mem_append_left _ (List.mem_append_right _ h)))) (by decide +kernel))) (goodIn_sub (fun _ h => List.mem_cons_of_mem _ (List.mem_append_right _ h)) (by decide +kernel))
set_option maxRecDepth 20000 in
theorem gL_refuses_L_reads : GoodIn wsL_refuses (va_wsS RL 125 yL_reads wsL_reads) := goodIn_app (goodIn_of _ (by decide +kernel)) ggL_refuses_L_reads
set_option maxRecDepth 20000 in
theorem ggL_refuses_L_stands : GoodIn wsL_refuses wsL_stands := goodIn_ca (goodIn_r _ [212, 42, 2, 213, 214, 215, 7, 216, 206, 207, 208, 209, 51, 52, 14, 87, 88, 89, 90, 66, 91, 275, 276, 277, 278, 279, 280, 281, 282, 283, 284, 285, 286, 287, 288, 289, 290, 291, 292, 293] (by decide +kernel) (by decide +kernel)) (goodIn_sub (fun _ h => List.mem_cons_of_mem _ (List.mem_append_right _ h)) (by decide +kernel))
set_option maxRecDepth 20000 in
theorem gL_refuses_L_stands : GoodIn wsL_refuses (va_wsS RL 128 yL_stands wsL_stands) := goodIn_app (goodIn_of _ (by decide +kernel)) ggL_refuses_L_stands
set_option maxRecDepth 20000 in
theorem ggL_refuses_L_waits : GoodIn wsL_refuses wsL_waits := goodIn_ca (goodIn_r _ [219, 42, 2, 220, 221, 222, 7, 223, 206, 207, 208, 209, 51, 52, 14, 82, 83, 84, 85, 86, 87, 88, 89, 90, 66, 91, 275, 276, 277, 278, 279, 280, 281, 282, 283, 284, 285, 286, 287, 288, 289, 290, 291, 292, 293] (by decide +kernel) (by decide +kernel)) (goodIn_sub (fun _ h => List.mem_cons_of_mem _ (List.mem_append_right _ h)) (by decide +kernel))
set_option maxRecDepth 20000 in
theorem gL_refuses_L_waits : GoodIn wsL_refuses (va_wsS RL 130 yL_waits wsL_waits) := goodIn_app (goodIn_of _ (by decide +kernel)) ggL_refuses_L_waits
set_option maxRecDepth 20000 in
theorem ggL_refuses_L_delivered : GoodIn wsL_refuses wsL_delivered := goodIn_ca (goodIn_r _ [226, 42, 2, 227, 228, 229, 7, 230, 109, 206, 207, 208, 209, 51, 52, 14, 275, 276, 277, 278, 279, 280, 281, 282, 283, 284, 285, 286, 287, 288, 289, 290, 291, 292, 293] (by decide +kernel) (by decide +kernel)) (goodIn_sub (fun _ h => List.mem_cons_of_mem _ (List.mem_append_right _ h)) (by decide +kernel))
set_option maxRecDepth 20000 in
theorem gL_refuses_L_delivered : GoodIn wsL_refuses (va_wsS RL 133 yL_delivered wsL_delivered) := goodIn_app (goodIn_of _ (by decide +kernel)) ggL_refuses_L_delivered
set_option maxRecDepth 20000 in
theorem ggL_refuses_L_standing : GoodIn wsL_refuses wsL_standing := goodIn_ca (goodIn_r _ [233, 19, 1, 234, 235, 236, 7, 237, 176, 31, 32, 33, 34, 35, 177, 178, 179, 87, 88, 89, 90, 66, 91, 275, 276, 277, 278, 279, 280, 281, 282, 283, 284, 285, 286, 287, 288, 289, 290, 291, 292, 293] (by decide +kernel) (by decide +kernel)) (goodIn_sub (fun _ h => List.mem_cons_of_mem _ (List.mem_append_left _ (List.mem_append_right _ h))) (by decide +kernel))
set_option maxRecDepth 20000 in
theorem gL_refuses_L_standing : GoodIn wsL_refuses (va_wsS RL 136 yL_standing wsL_standing) := goodIn_app (goodIn_of _ (by decide +kernel)) ggL_refuses_L_standing
set_option maxRecDepth 20000 in
theorem ggL_refuses_L_badge : GoodIn wsL_refuses wsL_badge := goodIn_ca (goodIn_r _ [240, 42, 2, 241, 242, 243, 7, 244, 14, 109, 47, 48, 49, 50, 51, 52, 9, 96, 97, 98, 36, 37, 38, 87, 88, 89, 90, 66, 91, 275, 276, 277, 278, 279, 280, 281, 282, 283, 284, 285, 286, 287, 288, 289, 290, 291, 292, 293] (by decide +kernel) (by decide +kernel)) (goodIn_sub (fun _ h => List.mem_cons_of_mem _ (List.mem_append_right _ h)) (by decide +kernel))
set_option maxRecDepth 20000 in
theorem gL_refuses_L_badge : GoodIn wsL_refuses (va_wsS RL 138 yL_badge wsL_badge) := goodIn_app (goodIn_of _ (by decide +kernel)) ggL_refuses_L_badge
set_option maxRecDepth 20000 in
theorem ggL_refuses_L_waiting : GoodIn wsL_refuses wsL_waiting := goodIn_ca (goodIn_r _ [247, 42, 2, 248, 249, 250, 7, 251, 47, 48, 49, 50, 51, 52, 9, 150, 151, 152, 153, 14, 82, 83, 84, 85, 86, 87, 88, 89, 90, 66, 91, 96, 97, 98, 36, 37, 38, 275, 276, 277, 278, 279, 280, 281, 282, 283, 284, 285, 286, 287, 288, 289, 290, 291, 292, 293] (by decide +kernel) (by decide +kernel)) (goodIn_sub (fun _ h => List.mem_cons_of_mem _ (List.mem_append_right _ h)) (by decide +kernel))
set_option maxRecDepth 20000 in
theorem gL_refuses_L_waiting : GoodIn wsL_refuses (va_wsS RL 140 yL_waiting wsL_waiting) := goodIn_app (goodIn_of _ (by decide +kernel)) ggL_refuses_L_waiting
set_option maxRecDepth 20000 in
theorem ggL_refuses_L_quota : GoodIn wsL_refuses wsL_quota := goodIn_ca (goodIn_r _ [254, 42, 2, 255, 256, 257, 7, 258, 47, 48, 49, 50, 51, 52, 9, 99, 100, 101, 102, 103, 66, 104, 275, 276, 277, 278, 279, 280, 281, 282, 283, 284, 285, 286, 287, 288, 289, 290, 291, 292, 293] (by decide +kernel) (by decide +kernel)) (goodIn_sub (fun _ h => List.mem_cons_of_mem _ (List.mem_append_right _ h)) (by decide +kernel))
set_option maxRecDepth 20000 in
theorem gL_refuses_L_quota : GoodIn wsL_refuses (va_wsS RL 142 yL_quota wsL_quota) := goodIn_app (goodIn_of _ (by decide +kernel)) ggL_refuses_L_quota
set_option maxRecDepth 20000 in
theorem ggL_refuses_L_passes : GoodIn wsL_refuses wsL_passes := goodIn_ca (goodIn_ca (goodIn_r _ [261, 19, 20, 1, 3, 262, 263, 264, 7, 265, 25, 26, 66, 266, 267, 268, 269, 270, 31, 32, 33, 34, 35, 271, 272, 273, 274, 9, 73, 68, 69, 70, 71, 72, 74, 75, 76, 77, 27, 78, 79, 80, 81, 56, 57, 58, 59, 60, 14, 61, 62, 63, 64, 65, 30, 67, 53, 54, 55, 36, 37, 38, 82, 83, 84, 85, 86, 87, 88, 89, 90, 91, 92, 93, 94, 95, 96, 97, 98, 99, 100, 101, 102, 103, 104, 105, 106, 107, 108, 109, 110, 111, 112, 113, 114, 115, 116, 117, 118, 119, 120, 275, 276, 277, 278, 279, 280, 281, 282, 283, 284, 285, 286, 287, 288, 289, 290, 291, 292, 293] (by decide +kernel) (by decide +kernel)) (goodIn_sub (fun _ h => List.mem_cons_of_mem _ (List.mem_append_left _ (List.mem_append_left _ (List.mem_append_right _ h)))) (by decide +kernel))) (goodIn_sub (fun _ h => List.mem_cons_of_mem _ (List.mem_append_left _ (List.mem_append_right _ h))) (by decide +kernel))
set_option maxRecDepth 20000 in
theorem gL_refuses_L_passes : GoodIn wsL_refuses (va_wsS RL 144 yL_passes wsL_passes) := goodIn_app (goodIn_of _ (by decide +kernel)) ggL_refuses_L_passes
theorem dL_refuses_0 : decode cL_refuses 0 = .ok (.iload_n 1, 1) := by decide +kernel
theorem dL_refuses_1 : decode cL_refuses 1 = .ok (.iconst 2, 1) := by decide +kernel
theorem dL_refuses_2 : decode cL_refuses 2 = .ok (.irem, 1) := by decide +kernel
theorem dL_refuses_3 : decode cL_refuses 3 = .ok (.ifCond .ne 12, 3) := by decide +kernel
theorem dL_refuses_6 : decode cL_refuses 6 = .ok (.iconst (-1), 1) := by decide +kernel
theorem dL_refuses_7 : decode cL_refuses 7 = .ok (.iload_n 1, 1) := by decide +kernel
theorem dL_refuses_8 : decode cL_refuses 8 = .ok (.bipush 50, 2) := by decide +kernel
theorem dL_refuses_10 : decode cL_refuses 10 = .ok (.irem, 1) := by decide +kernel
theorem dL_refuses_11 : decode cL_refuses 11 = .ok (.isub, 1) := by decide +kernel
theorem dL_refuses_12 : decode cL_refuses 12 = .ok (.goto 12, 3) := by decide +kernel
theorem dL_refuses_15 : decode cL_refuses 15 = .ok (.aload_n 0, 1) := by decide +kernel
theorem dL_refuses_16 : decode cL_refuses 16 = .ok (.invokevirtual 82, 3) := by decide +kernel
theorem dL_refuses_19 : decode cL_refuses 19 = .ok (.iload_n 1, 1) := by decide +kernel
theorem dL_refuses_20 : decode cL_refuses 20 = .ok (.bipush 50, 2) := by decide +kernel
theorem dL_refuses_22 : decode cL_refuses 22 = .ok (.irem, 1) := by decide +kernel
theorem dL_refuses_23 : decode cL_refuses 23 = .ok (.iadd, 1) := by decide +kernel
theorem dL_refuses_24 : decode cL_refuses 24 = .ok (.istore_n 2, 1) := by decide +kernel
theorem dL_refuses_25 : decode cL_refuses 25 = .ok (.iload_n 1, 1) := by decide +kernel
theorem dL_refuses_26 : decode cL_refuses 26 = .ok (.iconst 2, 1) := by decide +kernel
theorem dL_refuses_27 : decode cL_refuses 27 = .ok (.irem, 1) := by decide +kernel
theorem dL_refuses_28 : decode cL_refuses 28 = .ok (.ifCond .ne 12, 3) := by decide +kernel
theorem dL_refuses_31 : decode cL_refuses 31 = .ok (.iconst (-1), 1) := by decide +kernel
theorem dL_refuses_32 : decode cL_refuses 32 = .ok (.iload_n 1, 1) := by decide +kernel
theorem dL_refuses_33 : decode cL_refuses 33 = .ok (.bipush 50, 2) := by decide +kernel
theorem dL_refuses_35 : decode cL_refuses 35 = .ok (.irem, 1) := by decide +kernel
theorem dL_refuses_36 : decode cL_refuses 36 = .ok (.isub, 1) := by decide +kernel
theorem dL_refuses_37 : decode cL_refuses 37 = .ok (.goto 12, 3) := by decide +kernel
theorem dL_refuses_40 : decode cL_refuses 40 = .ok (.aload_n 0, 1) := by decide +kernel
theorem dL_refuses_41 : decode cL_refuses 41 = .ok (.invokevirtual 86, 3) := by decide +kernel
theorem dL_refuses_44 : decode cL_refuses 44 = .ok (.iload_n 1, 1) := by decide +kernel
theorem dL_refuses_45 : decode cL_refuses 45 = .ok (.bipush 50, 2) := by decide +kernel
theorem dL_refuses_47 : decode cL_refuses 47 = .ok (.irem, 1) := by decide +kernel
theorem dL_refuses_48 : decode cL_refuses 48 = .ok (.iadd, 1) := by decide +kernel
theorem dL_refuses_49 : decode cL_refuses 49 = .ok (.istore_n 3, 1) := by decide +kernel
theorem dL_refuses_50 : decode cL_refuses 50 = .ok (.iload_n 1, 1) := by decide +kernel
theorem dL_refuses_51 : decode cL_refuses 51 = .ok (.iconst 2, 1) := by decide +kernel
theorem dL_refuses_52 : decode cL_refuses 52 = .ok (.irem, 1) := by decide +kernel
theorem dL_refuses_53 : decode cL_refuses 53 = .ok (.ifCond .ne 12, 3) := by decide +kernel
theorem dL_refuses_56 : decode cL_refuses 56 = .ok (.iconst (-1), 1) := by decide +kernel
theorem dL_refuses_57 : decode cL_refuses 57 = .ok (.iload_n 1, 1) := by decide +kernel
theorem dL_refuses_58 : decode cL_refuses 58 = .ok (.bipush 50, 2) := by decide +kernel
theorem dL_refuses_60 : decode cL_refuses 60 = .ok (.irem, 1) := by decide +kernel
theorem dL_refuses_61 : decode cL_refuses 61 = .ok (.isub, 1) := by decide +kernel
theorem dL_refuses_62 : decode cL_refuses 62 = .ok (.goto 10, 3) := by decide +kernel
theorem dL_refuses_65 : decode cL_refuses 65 = .ok (.bipush 8, 2) := by decide +kernel
theorem dL_refuses_67 : decode cL_refuses 67 = .ok (.iload_n 1, 1) := by decide +kernel
theorem dL_refuses_68 : decode cL_refuses 68 = .ok (.bipush 50, 2) := by decide +kernel
theorem dL_refuses_70 : decode cL_refuses 70 = .ok (.irem, 1) := by decide +kernel
theorem dL_refuses_71 : decode cL_refuses 71 = .ok (.iadd, 1) := by decide +kernel
theorem dL_refuses_72 : decode cL_refuses 72 = .ok (.istore 4, 2) := by decide +kernel
theorem dL_refuses_74 : decode cL_refuses 74 = .ok (.aload_n 0, 1) := by decide +kernel
theorem dL_refuses_75 : decode cL_refuses 75 = .ok (.iload 4, 2) := by decide +kernel
theorem dL_refuses_77 : decode cL_refuses 77 = .ok (.iconst 0, 1) := by decide +kernel
theorem dL_refuses_78 : decode cL_refuses 78 = .ok (.invokestatic 89, 3) := by decide +kernel
theorem dL_refuses_81 : decode cL_refuses 81 = .ok (.ldc 15, 2) := by decide +kernel
theorem dL_refuses_83 : decode cL_refuses 83 = .ok (.if_icmp .ne 470, 3) := by decide +kernel
theorem dL_refuses_86 : decode cL_refuses 86 = .ok (.aload_n 0, 1) := by decide +kernel
theorem dL_refuses_87 : decode cL_refuses 87 = .ok (.iload_n 1, 1) := by decide +kernel
theorem dL_refuses_88 : decode cL_refuses 88 = .ok (.bipush 8, 2) := by decide +kernel
theorem dL_refuses_90 : decode cL_refuses 90 = .ok (.irem, 1) := by decide +kernel
theorem dL_refuses_91 : decode cL_refuses 91 = .ok (.sipush (-721), 3) := by decide +kernel
theorem dL_refuses_94 : decode cL_refuses 94 = .ok (.iload_n 1, 1) := by decide +kernel
theorem dL_refuses_95 : decode cL_refuses 95 = .ok (.isub, 1) := by decide +kernel
theorem dL_refuses_96 : decode cL_refuses 96 = .ok (.invokestatic 89, 3) := by decide +kernel
theorem dL_refuses_99 : decode cL_refuses 99 = .ok (.ldc 15, 2) := by decide +kernel
theorem dL_refuses_101 : decode cL_refuses 101 = .ok (.if_icmp .ne 452, 3) := by decide +kernel
theorem dL_refuses_104 : decode cL_refuses 104 = .ok (.aload_n 0, 1) := by decide +kernel
theorem dL_refuses_105 : decode cL_refuses 105 = .ok (.iload_n 1, 1) := by decide +kernel
theorem dL_refuses_106 : decode cL_refuses 106 = .ok (.bipush 8, 2) := by decide +kernel
theorem dL_refuses_108 : decode cL_refuses 108 = .ok (.irem, 1) := by decide +kernel
theorem dL_refuses_109 : decode cL_refuses 109 = .ok (.sipush 841, 3) := by decide +kernel
theorem dL_refuses_112 : decode cL_refuses 112 = .ok (.iload_n 1, 1) := by decide +kernel
theorem dL_refuses_113 : decode cL_refuses 113 = .ok (.iadd, 1) := by decide +kernel
theorem dL_refuses_114 : decode cL_refuses 114 = .ok (.invokestatic 89, 3) := by decide +kernel
theorem dL_refuses_117 : decode cL_refuses 117 = .ok (.ldc 15, 2) := by decide +kernel
theorem dL_refuses_119 : decode cL_refuses 119 = .ok (.if_icmp .ne 434, 3) := by decide +kernel
theorem dL_refuses_122 : decode cL_refuses 122 = .ok (.aload_n 0, 1) := by decide +kernel
theorem dL_refuses_123 : decode cL_refuses 123 = .ok (.iload_n 2, 1) := by decide +kernel
theorem dL_refuses_124 : decode cL_refuses 124 = .ok (.iconst 1, 1) := by decide +kernel
theorem dL_refuses_125 : decode cL_refuses 125 = .ok (.invokestatic 95, 3) := by decide +kernel
theorem dL_refuses_128 : decode cL_refuses 128 = .ok (.ldc 25, 2) := by decide +kernel
theorem dL_refuses_130 : decode cL_refuses 130 = .ok (.if_icmp .ne 423, 3) := by decide +kernel
theorem dL_refuses_133 : decode cL_refuses 133 = .ok (.aload_n 0, 1) := by decide +kernel
theorem dL_refuses_134 : decode cL_refuses 134 = .ok (.iload_n 2, 1) := by decide +kernel
theorem dL_refuses_135 : decode cL_refuses 135 = .ok (.iconst 0, 1) := by decide +kernel
theorem dL_refuses_136 : decode cL_refuses 136 = .ok (.invokestatic 99, 3) := by decide +kernel
theorem dL_refuses_139 : decode cL_refuses 139 = .ok (.ldc 25, 2) := by decide +kernel
theorem dL_refuses_141 : decode cL_refuses 141 = .ok (.if_icmp .ne 412, 3) := by decide +kernel
theorem dL_refuses_144 : decode cL_refuses 144 = .ok (.aload_n 0, 1) := by decide +kernel
theorem dL_refuses_145 : decode cL_refuses 145 = .ok (.iload_n 2, 1) := by decide +kernel
theorem dL_refuses_146 : decode cL_refuses 146 = .ok (.iconst (-1), 1) := by decide +kernel
theorem dL_refuses_147 : decode cL_refuses 147 = .ok (.iconst (-1), 1) := by decide +kernel
theorem dL_refuses_148 : decode cL_refuses 148 = .ok (.invokestatic 102, 3) := by decide +kernel
theorem dL_refuses_151 : decode cL_refuses 151 = .ok (.ldc 25, 2) := by decide +kernel
theorem dL_refuses_153 : decode cL_refuses 153 = .ok (.if_icmp .ne 400, 3) := by decide +kernel
theorem dL_refuses_156 : decode cL_refuses 156 = .ok (.aload_n 0, 1) := by decide +kernel
theorem dL_refuses_157 : decode cL_refuses 157 = .ok (.iload_n 2, 1) := by decide +kernel
theorem dL_refuses_158 : decode cL_refuses 158 = .ok (.bipush 9, 2) := by decide +kernel
theorem dL_refuses_160 : decode cL_refuses 160 = .ok (.iconst 1, 1) := by decide +kernel
theorem dL_refuses_161 : decode cL_refuses 161 = .ok (.invokestatic 106, 3) := by decide +kernel
theorem dL_refuses_164 : decode cL_refuses 164 = .ok (.ldc 25, 2) := by decide +kernel
theorem dL_refuses_166 : decode cL_refuses 166 = .ok (.if_icmp .ne 387, 3) := by decide +kernel
theorem dL_refuses_169 : decode cL_refuses 169 = .ok (.aload_n 0, 1) := by decide +kernel
theorem dL_refuses_170 : decode cL_refuses 170 = .ok (.iload_n 2, 1) := by decide +kernel
theorem dL_refuses_171 : decode cL_refuses 171 = .ok (.invokestatic 110, 3) := by decide +kernel
theorem dL_refuses_174 : decode cL_refuses 174 = .ok (.ldc 25, 2) := by decide +kernel
theorem dL_refuses_176 : decode cL_refuses 176 = .ok (.if_icmp .ne 377, 3) := by decide +kernel
theorem dL_refuses_179 : decode cL_refuses 179 = .ok (.aload_n 0, 1) := by decide +kernel
theorem dL_refuses_180 : decode cL_refuses 180 = .ok (.iload_n 2, 1) := by decide +kernel
theorem dL_refuses_181 : decode cL_refuses 181 = .ok (.invokestatic 114, 3) := by decide +kernel
theorem dL_refuses_184 : decode cL_refuses 184 = .ok (.ldc 25, 2) := by decide +kernel
theorem dL_refuses_186 : decode cL_refuses 186 = .ok (.if_icmp .ne 367, 3) := by decide +kernel
theorem dL_refuses_189 : decode cL_refuses 189 = .ok (.aload_n 0, 1) := by decide +kernel
theorem dL_refuses_190 : decode cL_refuses 190 = .ok (.iload 4, 2) := by decide +kernel
theorem dL_refuses_192 : decode cL_refuses 192 = .ok (.iconst 0, 1) := by decide +kernel
theorem dL_refuses_193 : decode cL_refuses 193 = .ok (.iconst 1, 1) := by decide +kernel
theorem dL_refuses_194 : decode cL_refuses 194 = .ok (.iconst 5, 1) := by decide +kernel
theorem dL_refuses_195 : decode cL_refuses 195 = .ok (.invokestatic 117, 3) := by decide +kernel
theorem dL_refuses_198 : decode cL_refuses 198 = .ok (.ldc 15, 2) := by decide +kernel
theorem dL_refuses_200 : decode cL_refuses 200 = .ok (.if_icmp .ne 353, 3) := by decide +kernel
theorem dL_refuses_203 : decode cL_refuses 203 = .ok (.aload_n 0, 1) := by decide +kernel
theorem dL_refuses_204 : decode cL_refuses 204 = .ok (.iload_n 1, 1) := by decide +kernel
theorem dL_refuses_205 : decode cL_refuses 205 = .ok (.bipush 8, 2) := by decide +kernel
theorem dL_refuses_207 : decode cL_refuses 207 = .ok (.irem, 1) := by decide +kernel
theorem dL_refuses_208 : decode cL_refuses 208 = .ok (.bipush (-2), 2) := by decide +kernel
theorem dL_refuses_210 : decode cL_refuses 210 = .ok (.iload_n 1, 1) := by decide +kernel
theorem dL_refuses_211 : decode cL_refuses 211 = .ok (.isub, 1) := by decide +kernel
theorem dL_refuses_212 : decode cL_refuses 212 = .ok (.iconst 1, 1) := by decide +kernel
theorem dL_refuses_213 : decode cL_refuses 213 = .ok (.iconst 5, 1) := by decide +kernel
theorem dL_refuses_214 : decode cL_refuses 214 = .ok (.invokestatic 117, 3) := by decide +kernel
theorem dL_refuses_217 : decode cL_refuses 217 = .ok (.ldc 15, 2) := by decide +kernel
theorem dL_refuses_219 : decode cL_refuses 219 = .ok (.if_icmp .ne 334, 3) := by decide +kernel
theorem dL_refuses_222 : decode cL_refuses 222 = .ok (.aload_n 0, 1) := by decide +kernel
theorem dL_refuses_223 : decode cL_refuses 223 = .ok (.iload_n 1, 1) := by decide +kernel
theorem dL_refuses_224 : decode cL_refuses 224 = .ok (.bipush 8, 2) := by decide +kernel
theorem dL_refuses_226 : decode cL_refuses 226 = .ok (.irem, 1) := by decide +kernel
theorem dL_refuses_227 : decode cL_refuses 227 = .ok (.bipush 10, 2) := by decide +kernel
theorem dL_refuses_229 : decode cL_refuses 229 = .ok (.iload_n 1, 1) := by decide +kernel
theorem dL_refuses_230 : decode cL_refuses 230 = .ok (.iadd, 1) := by decide +kernel
theorem dL_refuses_231 : decode cL_refuses 231 = .ok (.iconst 1, 1) := by decide +kernel
theorem dL_refuses_232 : decode cL_refuses 232 = .ok (.iconst 5, 1) := by decide +kernel
theorem dL_refuses_233 : decode cL_refuses 233 = .ok (.invokestatic 117, 3) := by decide +kernel
theorem dL_refuses_236 : decode cL_refuses 236 = .ok (.ldc 15, 2) := by decide +kernel
theorem dL_refuses_238 : decode cL_refuses 238 = .ok (.if_icmp .ne 315, 3) := by decide +kernel
theorem dL_refuses_241 : decode cL_refuses 241 = .ok (.aload_n 0, 1) := by decide +kernel
theorem dL_refuses_242 : decode cL_refuses 242 = .ok (.iload_n 1, 1) := by decide +kernel
theorem dL_refuses_243 : decode cL_refuses 243 = .ok (.bipush 8, 2) := by decide +kernel
theorem dL_refuses_245 : decode cL_refuses 245 = .ok (.irem, 1) := by decide +kernel
theorem dL_refuses_246 : decode cL_refuses 246 = .ok (.iconst 0, 1) := by decide +kernel
theorem dL_refuses_247 : decode cL_refuses 247 = .ok (.iconst 1, 1) := by decide +kernel
theorem dL_refuses_248 : decode cL_refuses 248 = .ok (.iconst 0, 1) := by decide +kernel
theorem dL_refuses_249 : decode cL_refuses 249 = .ok (.invokestatic 117, 3) := by decide +kernel
theorem dL_refuses_252 : decode cL_refuses 252 = .ok (.ldc 15, 2) := by decide +kernel
theorem dL_refuses_254 : decode cL_refuses 254 = .ok (.if_icmp .ne 299, 3) := by decide +kernel
theorem dL_refuses_257 : decode cL_refuses 257 = .ok (.aload_n 0, 1) := by decide +kernel
theorem dL_refuses_258 : decode cL_refuses 258 = .ok (.iload_n 1, 1) := by decide +kernel
theorem dL_refuses_259 : decode cL_refuses 259 = .ok (.bipush 8, 2) := by decide +kernel
theorem dL_refuses_261 : decode cL_refuses 261 = .ok (.irem, 1) := by decide +kernel
theorem dL_refuses_262 : decode cL_refuses 262 = .ok (.iconst 0, 1) := by decide +kernel
theorem dL_refuses_263 : decode cL_refuses 263 = .ok (.iconst 0, 1) := by decide +kernel
theorem dL_refuses_264 : decode cL_refuses 264 = .ok (.sipush 10001, 3) := by decide +kernel
theorem dL_refuses_267 : decode cL_refuses 267 = .ok (.iload_n 1, 1) := by decide +kernel
theorem dL_refuses_268 : decode cL_refuses 268 = .ok (.iadd, 1) := by decide +kernel
theorem dL_refuses_269 : decode cL_refuses 269 = .ok (.invokestatic 117, 3) := by decide +kernel
theorem dL_refuses_272 : decode cL_refuses 272 = .ok (.ldc 15, 2) := by decide +kernel
theorem dL_refuses_274 : decode cL_refuses 274 = .ok (.if_icmp .ne 279, 3) := by decide +kernel
theorem dL_refuses_277 : decode cL_refuses 277 = .ok (.aload_n 0, 1) := by decide +kernel
theorem dL_refuses_278 : decode cL_refuses 278 = .ok (.iconst 3, 1) := by decide +kernel
theorem dL_refuses_279 : decode cL_refuses 279 = .ok (.iload_n 1, 1) := by decide +kernel
theorem dL_refuses_280 : decode cL_refuses 280 = .ok (.iadd, 1) := by decide +kernel
theorem dL_refuses_281 : decode cL_refuses 281 = .ok (.iconst 0, 1) := by decide +kernel
end
section
theorem dL_refuses_282 : decode cL_refuses 282 = .ok (.iconst 0, 1) := by decide +kernel
theorem dL_refuses_283 : decode cL_refuses 283 = .ok (.iconst 1, 1) := by decide +kernel
theorem dL_refuses_284 : decode cL_refuses 284 = .ok (.iconst 5, 1) := by decide +kernel
theorem dL_refuses_285 : decode cL_refuses 285 = .ok (.invokestatic 121, 3) := by decide +kernel
theorem dL_refuses_288 : decode cL_refuses 288 = .ok (.ldc 15, 2) := by decide +kernel
theorem dL_refuses_290 : decode cL_refuses 290 = .ok (.if_icmp .ne 263, 3) := by decide +kernel
theorem dL_refuses_293 : decode cL_refuses 293 = .ok (.aload_n 0, 1) := by decide +kernel
theorem dL_refuses_294 : decode cL_refuses 294 = .ok (.iconst (-1), 1) := by decide +kernel
theorem dL_refuses_295 : decode cL_refuses 295 = .ok (.iconst 0, 1) := by decide +kernel
theorem dL_refuses_296 : decode cL_refuses 296 = .ok (.iconst 0, 1) := by decide +kernel
theorem dL_refuses_297 : decode cL_refuses 297 = .ok (.iconst 1, 1) := by decide +kernel
theorem dL_refuses_298 : decode cL_refuses 298 = .ok (.iconst 5, 1) := by decide +kernel
theorem dL_refuses_299 : decode cL_refuses 299 = .ok (.invokestatic 121, 3) := by decide +kernel
theorem dL_refuses_302 : decode cL_refuses 302 = .ok (.ldc 15, 2) := by decide +kernel
theorem dL_refuses_304 : decode cL_refuses 304 = .ok (.if_icmp .ne 249, 3) := by decide +kernel
theorem dL_refuses_307 : decode cL_refuses 307 = .ok (.aload_n 0, 1) := by decide +kernel
theorem dL_refuses_308 : decode cL_refuses 308 = .ok (.iconst 0, 1) := by decide +kernel
theorem dL_refuses_309 : decode cL_refuses 309 = .ok (.bipush 6, 2) := by decide +kernel
theorem dL_refuses_311 : decode cL_refuses 311 = .ok (.iload_n 1, 1) := by decide +kernel
theorem dL_refuses_312 : decode cL_refuses 312 = .ok (.iadd, 1) := by decide +kernel
theorem dL_refuses_313 : decode cL_refuses 313 = .ok (.iconst 0, 1) := by decide +kernel
theorem dL_refuses_314 : decode cL_refuses 314 = .ok (.iconst 1, 1) := by decide +kernel
theorem dL_refuses_315 : decode cL_refuses 315 = .ok (.iconst 5, 1) := by decide +kernel
theorem dL_refuses_316 : decode cL_refuses 316 = .ok (.invokestatic 121, 3) := by decide +kernel
theorem dL_refuses_319 : decode cL_refuses 319 = .ok (.ldc 15, 2) := by decide +kernel
theorem dL_refuses_321 : decode cL_refuses 321 = .ok (.if_icmp .ne 232, 3) := by decide +kernel
theorem dL_refuses_324 : decode cL_refuses 324 = .ok (.aload_n 0, 1) := by decide +kernel
theorem dL_refuses_325 : decode cL_refuses 325 = .ok (.iconst 0, 1) := by decide +kernel
theorem dL_refuses_326 : decode cL_refuses 326 = .ok (.iconst 0, 1) := by decide +kernel
theorem dL_refuses_327 : decode cL_refuses 327 = .ok (.iconst (-1), 1) := by decide +kernel
theorem dL_refuses_328 : decode cL_refuses 328 = .ok (.iload_n 1, 1) := by decide +kernel
theorem dL_refuses_329 : decode cL_refuses 329 = .ok (.isub, 1) := by decide +kernel
theorem dL_refuses_330 : decode cL_refuses 330 = .ok (.iconst 1, 1) := by decide +kernel
theorem dL_refuses_331 : decode cL_refuses 331 = .ok (.iconst 5, 1) := by decide +kernel
theorem dL_refuses_332 : decode cL_refuses 332 = .ok (.invokestatic 121, 3) := by decide +kernel
theorem dL_refuses_335 : decode cL_refuses 335 = .ok (.ldc 15, 2) := by decide +kernel
theorem dL_refuses_337 : decode cL_refuses 337 = .ok (.if_icmp .ne 216, 3) := by decide +kernel
theorem dL_refuses_340 : decode cL_refuses 340 = .ok (.aload_n 0, 1) := by decide +kernel
theorem dL_refuses_341 : decode cL_refuses 341 = .ok (.iconst 0, 1) := by decide +kernel
theorem dL_refuses_342 : decode cL_refuses 342 = .ok (.iconst 0, 1) := by decide +kernel
theorem dL_refuses_343 : decode cL_refuses 343 = .ok (.iconst 0, 1) := by decide +kernel
theorem dL_refuses_344 : decode cL_refuses 344 = .ok (.iconst 1, 1) := by decide +kernel
theorem dL_refuses_345 : decode cL_refuses 345 = .ok (.iload_n 1, 1) := by decide +kernel
theorem dL_refuses_346 : decode cL_refuses 346 = .ok (.ineg, 1) := by decide +kernel
theorem dL_refuses_347 : decode cL_refuses 347 = .ok (.invokestatic 121, 3) := by decide +kernel
theorem dL_refuses_350 : decode cL_refuses 350 = .ok (.ldc 15, 2) := by decide +kernel
theorem dL_refuses_352 : decode cL_refuses 352 = .ok (.if_icmp .ne 201, 3) := by decide +kernel
theorem dL_refuses_355 : decode cL_refuses 355 = .ok (.aload_n 0, 1) := by decide +kernel
theorem dL_refuses_356 : decode cL_refuses 356 = .ok (.iload_n 2, 1) := by decide +kernel
theorem dL_refuses_357 : decode cL_refuses 357 = .ok (.iconst 0, 1) := by decide +kernel
theorem dL_refuses_358 : decode cL_refuses 358 = .ok (.invokestatic 125, 3) := by decide +kernel
theorem dL_refuses_361 : decode cL_refuses 361 = .ok (.ldc 25, 2) := by decide +kernel
theorem dL_refuses_363 : decode cL_refuses 363 = .ok (.if_icmp .ne 190, 3) := by decide +kernel
theorem dL_refuses_366 : decode cL_refuses 366 = .ok (.aload_n 0, 1) := by decide +kernel
theorem dL_refuses_367 : decode cL_refuses 367 = .ok (.iload_n 3, 1) := by decide +kernel
theorem dL_refuses_368 : decode cL_refuses 368 = .ok (.invokestatic 128, 3) := by decide +kernel
theorem dL_refuses_371 : decode cL_refuses 371 = .ok (.ldc 25, 2) := by decide +kernel
theorem dL_refuses_373 : decode cL_refuses 373 = .ok (.if_icmp .ne 180, 3) := by decide +kernel
theorem dL_refuses_376 : decode cL_refuses 376 = .ok (.aload_n 0, 1) := by decide +kernel
theorem dL_refuses_377 : decode cL_refuses 377 = .ok (.iload_n 3, 1) := by decide +kernel
theorem dL_refuses_378 : decode cL_refuses 378 = .ok (.invokestatic 130, 3) := by decide +kernel
theorem dL_refuses_381 : decode cL_refuses 381 = .ok (.ldc 25, 2) := by decide +kernel
theorem dL_refuses_383 : decode cL_refuses 383 = .ok (.if_icmp .ne 170, 3) := by decide +kernel
theorem dL_refuses_386 : decode cL_refuses 386 = .ok (.aload_n 0, 1) := by decide +kernel
theorem dL_refuses_387 : decode cL_refuses 387 = .ok (.iload_n 3, 1) := by decide +kernel
theorem dL_refuses_388 : decode cL_refuses 388 = .ok (.invokestatic 133, 3) := by decide +kernel
theorem dL_refuses_391 : decode cL_refuses 391 = .ok (.ldc 25, 2) := by decide +kernel
theorem dL_refuses_393 : decode cL_refuses 393 = .ok (.if_icmp .ne 160, 3) := by decide +kernel
theorem dL_refuses_396 : decode cL_refuses 396 = .ok (.aload_n 0, 1) := by decide +kernel
theorem dL_refuses_397 : decode cL_refuses 397 = .ok (.iload 4, 2) := by decide +kernel
theorem dL_refuses_399 : decode cL_refuses 399 = .ok (.iconst 0, 1) := by decide +kernel
theorem dL_refuses_400 : decode cL_refuses 400 = .ok (.invokestatic 136, 3) := by decide +kernel
theorem dL_refuses_403 : decode cL_refuses 403 = .ok (.ldc 15, 2) := by decide +kernel
theorem dL_refuses_405 : decode cL_refuses 405 = .ok (.if_icmp .ne 148, 3) := by decide +kernel
theorem dL_refuses_408 : decode cL_refuses 408 = .ok (.aload_n 0, 1) := by decide +kernel
theorem dL_refuses_409 : decode cL_refuses 409 = .ok (.iload_n 1, 1) := by decide +kernel
theorem dL_refuses_410 : decode cL_refuses 410 = .ok (.bipush 8, 2) := by decide +kernel
theorem dL_refuses_412 : decode cL_refuses 412 = .ok (.irem, 1) := by decide +kernel
theorem dL_refuses_413 : decode cL_refuses 413 = .ok (.bipush 10, 2) := by decide +kernel
theorem dL_refuses_415 : decode cL_refuses 415 = .ok (.iload_n 1, 1) := by decide +kernel
theorem dL_refuses_416 : decode cL_refuses 416 = .ok (.iadd, 1) := by decide +kernel
theorem dL_refuses_417 : decode cL_refuses 417 = .ok (.invokestatic 136, 3) := by decide +kernel
theorem dL_refuses_420 : decode cL_refuses 420 = .ok (.ldc 15, 2) := by decide +kernel
theorem dL_refuses_422 : decode cL_refuses 422 = .ok (.if_icmp .ne 131, 3) := by decide +kernel
theorem dL_refuses_425 : decode cL_refuses 425 = .ok (.aload_n 0, 1) := by decide +kernel
theorem dL_refuses_426 : decode cL_refuses 426 = .ok (.iload_n 1, 1) := by decide +kernel
theorem dL_refuses_427 : decode cL_refuses 427 = .ok (.bipush 8, 2) := by decide +kernel
theorem dL_refuses_429 : decode cL_refuses 429 = .ok (.irem, 1) := by decide +kernel
theorem dL_refuses_430 : decode cL_refuses 430 = .ok (.iconst (-1), 1) := by decide +kernel
theorem dL_refuses_431 : decode cL_refuses 431 = .ok (.invokestatic 136, 3) := by decide +kernel
theorem dL_refuses_434 : decode cL_refuses 434 = .ok (.ldc 15, 2) := by decide +kernel
theorem dL_refuses_436 : decode cL_refuses 436 = .ok (.if_icmp .ne 117, 3) := by decide +kernel
theorem dL_refuses_439 : decode cL_refuses 439 = .ok (.aload_n 0, 1) := by decide +kernel
theorem dL_refuses_440 : decode cL_refuses 440 = .ok (.iload_n 2, 1) := by decide +kernel
theorem dL_refuses_441 : decode cL_refuses 441 = .ok (.invokestatic 138, 3) := by decide +kernel
theorem dL_refuses_444 : decode cL_refuses 444 = .ok (.ldc 25, 2) := by decide +kernel
theorem dL_refuses_446 : decode cL_refuses 446 = .ok (.if_icmp .ne 107, 3) := by decide +kernel
theorem dL_refuses_449 : decode cL_refuses 449 = .ok (.aload_n 0, 1) := by decide +kernel
theorem dL_refuses_450 : decode cL_refuses 450 = .ok (.iload_n 2, 1) := by decide +kernel
theorem dL_refuses_451 : decode cL_refuses 451 = .ok (.invokestatic 140, 3) := by decide +kernel
theorem dL_refuses_454 : decode cL_refuses 454 = .ok (.ldc 25, 2) := by decide +kernel
theorem dL_refuses_456 : decode cL_refuses 456 = .ok (.if_icmp .ne 97, 3) := by decide +kernel
theorem dL_refuses_459 : decode cL_refuses 459 = .ok (.aload_n 0, 1) := by decide +kernel
theorem dL_refuses_460 : decode cL_refuses 460 = .ok (.iload_n 2, 1) := by decide +kernel
theorem dL_refuses_461 : decode cL_refuses 461 = .ok (.invokestatic 142, 3) := by decide +kernel
theorem dL_refuses_464 : decode cL_refuses 464 = .ok (.ldc 25, 2) := by decide +kernel
theorem dL_refuses_466 : decode cL_refuses 466 = .ok (.if_icmp .ne 87, 3) := by decide +kernel
theorem dL_refuses_469 : decode cL_refuses 469 = .ok (.aload_n 0, 1) := by decide +kernel
theorem dL_refuses_470 : decode cL_refuses 470 = .ok (.iconst 0, 1) := by decide +kernel
theorem dL_refuses_471 : decode cL_refuses 471 = .ok (.invokestatic 144, 3) := by decide +kernel
theorem dL_refuses_474 : decode cL_refuses 474 = .ok (.ldc 15, 2) := by decide +kernel
theorem dL_refuses_476 : decode cL_refuses 476 = .ok (.if_icmp .ne 77, 3) := by decide +kernel
theorem dL_refuses_479 : decode cL_refuses 479 = .ok (.aload_n 0, 1) := by decide +kernel
theorem dL_refuses_480 : decode cL_refuses 480 = .ok (.sipush 3001, 3) := by decide +kernel
theorem dL_refuses_483 : decode cL_refuses 483 = .ok (.iload_n 1, 1) := by decide +kernel
theorem dL_refuses_484 : decode cL_refuses 484 = .ok (.iadd, 1) := by decide +kernel
theorem dL_refuses_485 : decode cL_refuses 485 = .ok (.invokestatic 144, 3) := by decide +kernel
theorem dL_refuses_488 : decode cL_refuses 488 = .ok (.ldc 15, 2) := by decide +kernel
theorem dL_refuses_490 : decode cL_refuses 490 = .ok (.if_icmp .ne 63, 3) := by decide +kernel
theorem dL_refuses_493 : decode cL_refuses 493 = .ok (.aload_n 0, 1) := by decide +kernel
theorem dL_refuses_494 : decode cL_refuses 494 = .ok (.invokevirtual 82, 3) := by decide +kernel
theorem dL_refuses_497 : decode cL_refuses 497 = .ok (.bipush 16, 2) := by decide +kernel
theorem dL_refuses_499 : decode cL_refuses 499 = .ok (.if_icmp .lt 14, 3) := by decide +kernel
theorem dL_refuses_502 : decode cL_refuses 502 = .ok (.aload_n 0, 1) := by decide +kernel
theorem dL_refuses_503 : decode cL_refuses 503 = .ok (.iconst 0, 1) := by decide +kernel
theorem dL_refuses_504 : decode cL_refuses 504 = .ok (.iconst 0, 1) := by decide +kernel
theorem dL_refuses_505 : decode cL_refuses 505 = .ok (.invokestatic 89, 3) := by decide +kernel
theorem dL_refuses_508 : decode cL_refuses 508 = .ok (.ldc 18, 2) := by decide +kernel
theorem dL_refuses_510 : decode cL_refuses 510 = .ok (.if_icmp .ne 43, 3) := by decide +kernel
theorem dL_refuses_513 : decode cL_refuses 513 = .ok (.aload_n 0, 1) := by decide +kernel
theorem dL_refuses_514 : decode cL_refuses 514 = .ok (.invokevirtual 86, 3) := by decide +kernel
theorem dL_refuses_517 : decode cL_refuses 517 = .ok (.bipush 120, 2) := by decide +kernel
theorem dL_refuses_519 : decode cL_refuses 519 = .ok (.if_icmp .lt 30, 3) := by decide +kernel
theorem dL_refuses_522 : decode cL_refuses 522 = .ok (.aload_n 0, 1) := by decide +kernel
theorem dL_refuses_523 : decode cL_refuses 523 = .ok (.iconst 0, 1) := by decide +kernel
theorem dL_refuses_524 : decode cL_refuses 524 = .ok (.iconst 0, 1) := by decide +kernel
theorem dL_refuses_525 : decode cL_refuses 525 = .ok (.iconst 1, 1) := by decide +kernel
theorem dL_refuses_526 : decode cL_refuses 526 = .ok (.iconst 5, 1) := by decide +kernel
theorem dL_refuses_527 : decode cL_refuses 527 = .ok (.invokestatic 117, 3) := by decide +kernel
theorem dL_refuses_530 : decode cL_refuses 530 = .ok (.ldc 18, 2) := by decide +kernel
theorem dL_refuses_532 : decode cL_refuses 532 = .ok (.if_icmp .ne 21, 3) := by decide +kernel
theorem dL_refuses_535 : decode cL_refuses 535 = .ok (.aload_n 0, 1) := by decide +kernel
theorem dL_refuses_536 : decode cL_refuses 536 = .ok (.iconst 0, 1) := by decide +kernel
theorem dL_refuses_537 : decode cL_refuses 537 = .ok (.iconst 0, 1) := by decide +kernel
theorem dL_refuses_538 : decode cL_refuses 538 = .ok (.iconst 0, 1) := by decide +kernel
theorem dL_refuses_539 : decode cL_refuses 539 = .ok (.iconst 1, 1) := by decide +kernel
theorem dL_refuses_540 : decode cL_refuses 540 = .ok (.iconst 5, 1) := by decide +kernel
theorem dL_refuses_541 : decode cL_refuses 541 = .ok (.invokestatic 121, 3) := by decide +kernel
theorem dL_refuses_544 : decode cL_refuses 544 = .ok (.ldc 18, 2) := by decide +kernel
theorem dL_refuses_546 : decode cL_refuses 546 = .ok (.if_icmp .ne 7, 3) := by decide +kernel
theorem dL_refuses_549 : decode cL_refuses 549 = .ok (.iconst 1, 1) := by decide +kernel
theorem dL_refuses_550 : decode cL_refuses 550 = .ok (.goto 4, 3) := by decide +kernel
theorem dL_refuses_553 : decode cL_refuses 553 = .ok (.iconst 0, 1) := by decide +kernel
theorem dL_refuses_554 : decode cL_refuses 554 = .ok (.istore 5, 2) := by decide +kernel
theorem dL_refuses_556 : decode cL_refuses 556 = .ok (.iload 5, 2) := by decide +kernel
theorem dL_refuses_558 : decode cL_refuses 558 = .ok (.ifCond .eq 153, 3) := by decide +kernel
theorem dL_refuses_561 : decode cL_refuses 561 = .ok (.aload_n 0, 1) := by decide +kernel
theorem dL_refuses_562 : decode cL_refuses 562 = .ok (.invokevirtual 82, 3) := by decide +kernel
theorem dL_refuses_565 : decode cL_refuses 565 = .ok (.ifCond .le 146, 3) := by decide +kernel
theorem dL_refuses_568 : decode cL_refuses 568 = .ok (.iload_n 1, 1) := by decide +kernel
theorem dL_refuses_569 : decode cL_refuses 569 = .ok (.aload_n 0, 1) := by decide +kernel
theorem dL_refuses_570 : decode cL_refuses 570 = .ok (.invokevirtual 82, 3) := by decide +kernel
theorem dL_refuses_573 : decode cL_refuses 573 = .ok (.irem, 1) := by decide +kernel
theorem dL_refuses_574 : decode cL_refuses 574 = .ok (.istore 6, 2) := by decide +kernel
theorem dL_refuses_576 : decode cL_refuses 576 = .ok (.aload_n 0, 1) := by decide +kernel
theorem dL_refuses_577 : decode cL_refuses 577 = .ok (.iload 6, 2) := by decide +kernel
theorem dL_refuses_579 : decode cL_refuses 579 = .ok (.iconst (-1), 1) := by decide +kernel
theorem dL_refuses_580 : decode cL_refuses 580 = .ok (.iload_n 1, 1) := by decide +kernel
theorem dL_refuses_581 : decode cL_refuses 581 = .ok (.isub, 1) := by decide +kernel
theorem dL_refuses_582 : decode cL_refuses 582 = .ok (.iconst 5, 1) := by decide +kernel
theorem dL_refuses_583 : decode cL_refuses 583 = .ok (.invokestatic 102, 3) := by decide +kernel
theorem dL_refuses_586 : decode cL_refuses 586 = .ok (.ldc 15, 2) := by decide +kernel
theorem dL_refuses_588 : decode cL_refuses 588 = .ok (.if_icmp .ne 52, 3) := by decide +kernel
theorem dL_refuses_591 : decode cL_refuses 591 = .ok (.aload_n 0, 1) := by decide +kernel
theorem dL_refuses_592 : decode cL_refuses 592 = .ok (.iload 6, 2) := by decide +kernel
theorem dL_refuses_594 : decode cL_refuses 594 = .ok (.iconst 5, 1) := by decide +kernel
theorem dL_refuses_595 : decode cL_refuses 595 = .ok (.sipush 1440, 3) := by decide +kernel
theorem dL_refuses_598 : decode cL_refuses 598 = .ok (.iload_n 1, 1) := by decide +kernel
theorem dL_refuses_599 : decode cL_refuses 599 = .ok (.iadd, 1) := by decide +kernel
theorem dL_refuses_600 : decode cL_refuses 600 = .ok (.invokestatic 102, 3) := by decide +kernel
theorem dL_refuses_603 : decode cL_refuses 603 = .ok (.ldc 15, 2) := by decide +kernel
theorem dL_refuses_605 : decode cL_refuses 605 = .ok (.if_icmp .ne 35, 3) := by decide +kernel
theorem dL_refuses_608 : decode cL_refuses 608 = .ok (.aload_n 0, 1) := by decide +kernel
theorem dL_refuses_609 : decode cL_refuses 609 = .ok (.iload 6, 2) := by decide +kernel
theorem dL_refuses_611 : decode cL_refuses 611 = .ok (.bipush 6, 2) := by decide +kernel
theorem dL_refuses_613 : decode cL_refuses 613 = .ok (.iload_n 1, 1) := by decide +kernel
theorem dL_refuses_614 : decode cL_refuses 614 = .ok (.iadd, 1) := by decide +kernel
theorem dL_refuses_615 : decode cL_refuses 615 = .ok (.iconst 1, 1) := by decide +kernel
theorem dL_refuses_616 : decode cL_refuses 616 = .ok (.invokestatic 106, 3) := by decide +kernel
theorem dL_refuses_619 : decode cL_refuses 619 = .ok (.ldc 15, 2) := by decide +kernel
theorem dL_refuses_621 : decode cL_refuses 621 = .ok (.if_icmp .ne 19, 3) := by decide +kernel
theorem dL_refuses_624 : decode cL_refuses 624 = .ok (.aload_n 0, 1) := by decide +kernel
theorem dL_refuses_625 : decode cL_refuses 625 = .ok (.iload 6, 2) := by decide +kernel
theorem dL_refuses_627 : decode cL_refuses 627 = .ok (.iload_n 3, 1) := by decide +kernel
theorem dL_refuses_628 : decode cL_refuses 628 = .ok (.invokestatic 125, 3) := by decide +kernel
theorem dL_refuses_631 : decode cL_refuses 631 = .ok (.ldc 25, 2) := by decide +kernel
theorem dL_refuses_633 : decode cL_refuses 633 = .ok (.if_icmp .ne 7, 3) := by decide +kernel
theorem dL_refuses_636 : decode cL_refuses 636 = .ok (.iconst 1, 1) := by decide +kernel
theorem dL_refuses_637 : decode cL_refuses 637 = .ok (.goto 4, 3) := by decide +kernel
theorem dL_refuses_640 : decode cL_refuses 640 = .ok (.iconst 0, 1) := by decide +kernel
theorem dL_refuses_641 : decode cL_refuses 641 = .ok (.istore 5, 2) := by decide +kernel
theorem dL_refuses_643 : decode cL_refuses 643 = .ok (.iload 5, 2) := by decide +kernel
theorem dL_refuses_645 : decode cL_refuses 645 = .ok (.ifCond .eq 66, 3) := by decide +kernel
theorem dL_refuses_648 : decode cL_refuses 648 = .ok (.aload_n 0, 1) := by decide +kernel
theorem dL_refuses_649 : decode cL_refuses 649 = .ok (.invokevirtual 86, 3) := by decide +kernel
theorem dL_refuses_652 : decode cL_refuses 652 = .ok (.ifCond .le 59, 3) := by decide +kernel
theorem dL_refuses_655 : decode cL_refuses 655 = .ok (.iload_n 1, 1) := by decide +kernel
theorem dL_refuses_656 : decode cL_refuses 656 = .ok (.bipush 16, 2) := by decide +kernel
theorem dL_refuses_658 : decode cL_refuses 658 = .ok (.idiv, 1) := by decide +kernel
theorem dL_refuses_659 : decode cL_refuses 659 = .ok (.aload_n 0, 1) := by decide +kernel
theorem dL_refuses_660 : decode cL_refuses 660 = .ok (.invokevirtual 86, 3) := by decide +kernel
theorem dL_refuses_663 : decode cL_refuses 663 = .ok (.irem, 1) := by decide +kernel
theorem dL_refuses_664 : decode cL_refuses 664 = .ok (.istore 7, 2) := by decide +kernel
theorem dL_refuses_666 : decode cL_refuses 666 = .ok (.aload_n 0, 1) := by decide +kernel
theorem dL_refuses_667 : decode cL_refuses 667 = .ok (.iload 7, 2) := by decide +kernel
theorem dL_refuses_669 : decode cL_refuses 669 = .ok (.invokestatic 133, 3) := by decide +kernel
theorem dL_refuses_672 : decode cL_refuses 672 = .ok (.iload 6, 2) := by decide +kernel
theorem dL_refuses_674 : decode cL_refuses 674 = .ok (.ishr, 1) := by decide +kernel
theorem dL_refuses_675 : decode cL_refuses 675 = .ok (.iconst 1, 1) := by decide +kernel
theorem dL_refuses_676 : decode cL_refuses 676 = .ok (.iand, 1) := by decide +kernel
theorem dL_refuses_677 : decode cL_refuses 677 = .ok (.iconst 1, 1) := by decide +kernel
theorem dL_refuses_678 : decode cL_refuses 678 = .ok (.if_icmp .ne 13, 3) := by decide +kernel
theorem dL_refuses_681 : decode cL_refuses 681 = .ok (.aload_n 0, 1) := by decide +kernel
theorem dL_refuses_682 : decode cL_refuses 682 = .ok (.iload 7, 2) := by decide +kernel
theorem dL_refuses_684 : decode cL_refuses 684 = .ok (.invokestatic 128, 3) := by decide +kernel
theorem dL_refuses_687 : decode cL_refuses 687 = .ok (.iconst 1, 1) := by decide +kernel
theorem dL_refuses_688 : decode cL_refuses 688 = .ok (.if_icmp .eq 16, 3) := by decide +kernel
theorem dL_refuses_691 : decode cL_refuses 691 = .ok (.aload_n 0, 1) := by decide +kernel
theorem dL_refuses_692 : decode cL_refuses 692 = .ok (.iload 6, 2) := by decide +kernel
theorem dL_refuses_694 : decode cL_refuses 694 = .ok (.iload 7, 2) := by decide +kernel
theorem dL_refuses_696 : decode cL_refuses 696 = .ok (.invokestatic 125, 3) := by decide +kernel
theorem dL_refuses_699 : decode cL_refuses 699 = .ok (.ldc 18, 2) := by decide +kernel
theorem dL_refuses_701 : decode cL_refuses 701 = .ok (.if_icmp .ne 7, 3) := by decide +kernel
theorem dL_refuses_704 : decode cL_refuses 704 = .ok (.iconst 1, 1) := by decide +kernel
theorem dL_refuses_705 : decode cL_refuses 705 = .ok (.goto 4, 3) := by decide +kernel
theorem dL_refuses_708 : decode cL_refuses 708 = .ok (.iconst 0, 1) := by decide +kernel
theorem dL_refuses_709 : decode cL_refuses 709 = .ok (.istore 5, 2) := by decide +kernel
theorem dL_refuses_711 : decode cL_refuses 711 = .ok (.iload 5, 2) := by decide +kernel
theorem dL_refuses_713 : decode cL_refuses 713 = .ok (.ireturn, 1) := by decide +kernel
set_option maxRecDepth 20000 in
theorem ggL_act_X0_devices : GoodIn wsL_act wsX0_devices := goodIn_r _ [5, 6, 226, 227, 228, 229, 230, 231, 232, 233, 234, 235, 236, 237, 238, 239, 240, 241, 242, 243, 244] (by decide +kernel) (by decide +kernel)
set_option maxRecDepth 20000 in
theorem gL_act_X0_devices : GoodIn wsL_act (wsV RL 82 RX0 yX0_devices wsX0_devices) := goodIn_app (goodIn_of _ (by decide +kernel)) ggL_act_X0_devices
set_option maxRecDepth 20000 in
theorem ggL_act_L_adds : GoodIn wsL_act wsL_adds := goodIn_ca (goodIn_ca (goodIn_r _ [10, 11, 12, 13, 14, 15, 16, 17, 4, 18, 19, 20, 6, 21, 22, 23, 24, 25, 26, 27, 28, 29, 30, 31, 32, 226, 227, 228, 229, 230, 231, 232, 233, 234, 235, 236, 237, 238, 239, 240, 241, 242, 243, 244] (by decide +kernel) (by decide +kernel)) (goodIn_sub (fun _ h => List.mem_cons_of_mem _ (List.mem_append_left _ (List.mem_append_left _ (List.mem_append_right _ h)))) (by decide +kernel))) (goodIn_sub (fun _ h => List.mem_cons_of_mem _ (List.mem_append_left _ (List.mem_append_right _ h))) (by decide +kernel))
set_option maxRecDepth 20000 in
theorem gL_act_L_adds : GoodIn wsL_act (va_wsS RL 89 yL_adds wsL_adds) := goodIn_app (goodIn_of _ (by decide +kernel)) ggL_act_L_adds
set_option maxRecDepth 20000 in
theorem ggL_act_L_online : GoodIn wsL_act wsL_online := goodIn_ca (goodIn_r _ [35, 36, 37, 38, 39, 40, 4, 41, 24, 42, 43, 44, 45, 46, 47, 6, 48, 49, 50, 30, 31, 32, 51, 52, 53, 54, 55, 56, 57, 58, 59, 60, 61, 62, 63, 64, 65, 66, 67, 68, 69, 70, 71, 72, 73, 21, 74, 75, 76, 77, 78, 79, 80, 81, 82, 83, 84, 85, 86, 87, 88, 89, 90, 91, 92, 93, 94, 95, 96, 97, 98, 99, 100, 101, 102, 103, 104, 105, 106, 107, 108, 109, 110, 111, 112, 113, 114, 115, 116, 226, 227, 228, 229, 230, 231, 232, 233, 234, 235, 236, 237, 238, 239, 240, 241, 242, 243, 244] (by decide +kernel) (by decide +kernel)) (goodIn_sub (fun _ h => List.mem_cons_of_mem _ (List.mem_append_right _ h)) (by decide +kernel))
set_option maxRecDepth 20000 in
theorem gL_act_L_online : GoodIn wsL_act (va_wsS RL 95 yL_online wsL_online) := goodIn_app (goodIn_of _ (by decide +kernel)) ggL_act_L_online
set_option maxRecDepth 20000 in
theorem ggL_act_L_dozes : GoodIn wsL_act wsL_dozes := goodIn_ca (goodIn_r _ [119, 36, 37, 120, 121, 122, 4, 123, 63, 42, 43, 44, 45, 46, 47, 6, 48, 49, 50, 30, 31, 32, 51, 52, 53, 54, 55, 56, 57, 58, 59, 60, 61, 62, 24, 64, 65, 66, 67, 68, 69, 70, 71, 72, 73, 21, 74, 75, 76, 77, 78, 79, 80, 81, 82, 83, 84, 85, 86, 87, 88, 89, 90, 91, 92, 93, 94, 95, 96, 97, 98, 99, 100, 101, 102, 103, 104, 105, 106, 107, 108, 109, 110, 111, 112, 113, 114, 115, 116, 226, 227, 228, 229, 230, 231, 232, 233, 234, 235, 236, 237, 238, 239, 240, 241, 242, 243, 244] (by decide +kernel) (by decide +kernel)) (goodIn_sub (fun _ h => List.mem_cons_of_mem _ (List.mem_append_right _ h)) (by decide +kernel))
set_option maxRecDepth 20000 in
theorem gL_act_L_dozes : GoodIn wsL_act (va_wsS RL 99 yL_dozes wsL_dozes) := goodIn_app (goodIn_of _ (by decide +kernel)) ggL_act_L_dozes
set_option maxRecDepth 20000 in
theorem ggL_act_L_quiets : GoodIn wsL_act wsL_quiets := goodIn_ca (goodIn_ca (goodIn_r _ [126, 36, 11, 37, 13, 127, 128, 129, 4, 130, 68, 69, 42, 43, 44, 45, 46, 47, 6, 25, 26, 27, 28, 29, 51, 52, 53, 54, 55, 56, 57, 58, 59, 60, 61, 62, 24, 63, 64, 65, 66, 67, 70, 71, 72, 73, 21, 74, 75, 76, 77, 48, 49, 50, 30, 31, 32, 78, 79, 80, 81, 82, 83, 84, 85, 86, 87, 88, 89, 90, 91, 92, 93, 94, 95, 96, 97, 98, 99, 100, 101, 102, 103, 104, 105, 106, 107, 108, 109, 110, 111, 112, 113, 114, 115, 116, 226, 227, 228, 229, 230, 231, 232, 233, 234, 235, 236, 237, 238, 239, 240, 241, 242, 243, 244] (by decide +kernel) (by decide +kernel)) (goodIn_sub (fun _ h => List.mem_cons_of_mem _ (List.mem_append_right _ h)) (by decide +kernel))) (goodIn_sub (fun _ h => List.mem_cons_of_mem _ (List.mem_append_left _ (List.mem_append_right _ h))) (by decide +kernel))
set_option maxRecDepth 20000 in
theorem gL_act_L_quiets : GoodIn wsL_act (va_wsS RL 102 yL_quiets wsL_quiets) := goodIn_app (goodIn_of _ (by decide +kernel)) ggL_act_L_quiets
set_option maxRecDepth 20000 in
theorem ggL_act_L_joins : GoodIn wsL_act wsL_joins := goodIn_ca (goodIn_ca (goodIn_r _ [133, 36, 11, 37, 13, 134, 135, 136, 4, 137, 138, 42, 43, 44, 45, 46, 47, 6, 25, 26, 27, 28, 29, 92, 93, 94, 30, 31, 32, 48, 49, 50, 226, 227, 228, 229, 230, 231, 232, 233, 234, 235, 236, 237, 238, 239, 240, 241, 242, 243, 244] (by decide +kernel) (by decide +kernel)) (goodIn_sub (fun _ h => List.mem_cons_of_mem _ (List.mem_append_right _ h)) (by decide +kernel))) (goodIn_sub (fun _ h => List.mem_cons_of_mem _ (List.mem_append_left _ (List.mem_append_right _ h))) (by decide +kernel))
set_option maxRecDepth 20000 in
theorem gL_act_L_joins : GoodIn wsL_act (va_wsS RL 106 yL_joins wsL_joins) := goodIn_app (goodIn_of _ (by decide +kernel)) ggL_act_L_joins
set_option maxRecDepth 20000 in
theorem ggL_act_L_kills : GoodIn wsL_act wsL_kills := goodIn_ca (goodIn_ca (goodIn_r _ [141, 36, 12, 37, 14, 142, 143, 144, 4, 145, 19, 20, 23, 56, 82, 42, 43, 44, 45, 46, 47, 6, 92, 93, 94, 30, 31, 32, 146, 147, 148, 149, 78, 79, 80, 81, 83, 84, 85, 86, 62, 87, 48, 49, 50, 226, 227, 228, 229, 230, 231, 232, 233, 234, 235, 236, 237, 238, 239, 240, 241, 242, 243, 244] (by decide +kernel) (by decide +kernel)) (goodIn_sub (fun _ h => List.mem_cons_of_mem _ (List.mem_append_left _ (List.mem_append_left _ (List.mem_append_right _ h)))) (by decide +kernel))) (goodIn_sub (fun _ h => List.mem_cons_of_mem _ (List.mem_append_right _ h)) (by decide +kernel))
set_option maxRecDepth 20000 in
theorem gL_act_L_kills : GoodIn wsL_act (va_wsS RL 110 yL_kills wsL_kills) := goodIn_app (goodIn_of _ (by decide +kernel)) ggL_act_L_kills
set_option maxRecDepth 20000 in
theorem ggL_act_L_quota : GoodIn wsL_act wsL_quota := goodIn_ca (goodIn_r _ [152, 36, 37, 153, 154, 155, 4, 156, 42, 43, 44, 45, 46, 47, 6, 95, 96, 97, 98, 99, 62, 100, 226, 227, 228, 229, 230, 231, 232, 233, 234, 235, 236, 237, 238, 239, 240, 241, 242, 243, 244] (by decide +kernel) (by decide +kernel)) (goodIn_sub (fun _ h => List.mem_cons_of_mem _ (List.mem_append_right _ h)) (by decide +kernel))
set_option maxRecDepth 20000 in
theorem gL_act_L_quota : GoodIn wsL_act (va_wsS RL 142 yL_quota wsL_quota) := goodIn_app (goodIn_of _ (by decide +kernel)) ggL_act_L_quota
set_option maxRecDepth 20000 in
theorem ggL_act_L_sends : GoodIn wsL_act wsL_sends := goodIn_ca (goodIn_ca (goodIn_r _ [159, 11, 12, 13, 14, 160, 161, 162, 4, 163, 22, 25, 26, 27, 28, 29, 164, 165, 166, 167, 19, 20, 56, 168, 169, 170, 171, 172, 173, 174, 175, 83, 84, 85, 86, 62, 87, 176, 177, 178, 179, 180, 181, 182, 183, 57, 82, 23, 51, 52, 53, 54, 55, 58, 59, 60, 61, 24, 63, 6, 64, 65, 66, 67, 68, 69, 70, 71, 72, 73, 21, 74, 75, 76, 77, 48, 49, 50, 30, 31, 32, 78, 79, 80, 81, 88, 89, 90, 91, 92, 93, 94, 95, 96, 97, 98, 99, 100, 101, 102, 103, 104, 105, 106, 107, 108, 109, 110, 111, 112, 113, 114, 115, 116, 226, 227, 228, 229, 230, 231, 232, 233, 234, 235, 236, 237, 238, 239, 240, 241, 242, 243, 244] (by decide +kernel) (by decide +kernel)) (goodIn_sub (fun _ h => List.mem_cons_of_mem _ (List.mem_append_left _ (List.mem_append_right _ h))) (by decide +kernel))) (goodIn_sub (fun _ h => List.mem_cons_of_mem _ (List.mem_append_left _ (List.mem_append_left _ (List.mem_append_right _ h)))) (by decide +kernel))
set_option maxRecDepth 20000 in
theorem gL_act_L_sends : GoodIn wsL_act (va_wsS RL 117 yL_sends wsL_sends) := goodIn_app (goodIn_of _ (by decide +kernel)) ggL_act_L_sends
set_option maxRecDepth 20000 in
theorem ggL_act_L_sendsBy : GoodIn wsL_act wsL_sendsBy := goodIn_ca (goodIn_ca (goodIn_r _ [186, 11, 12, 13, 14, 187, 188, 189, 4, 190, 25, 26, 27, 28, 29, 164, 165, 166, 167, 19, 20, 56, 191, 192, 193, 194, 138, 180, 181, 182, 183, 57, 87, 62, 82, 23, 51, 52, 53, 54, 55, 58, 59, 60, 61, 24, 63, 6, 64, 65, 66, 67, 68, 69, 70, 71, 72, 73, 21, 74, 75, 76, 77, 48, 49, 50, 30, 31, 32, 78, 79, 80, 81, 83, 84, 85, 86, 88, 89, 90, 91, 92, 93, 94, 95, 96, 97, 98, 99, 100, 101, 102, 103, 104, 105, 106, 107, 108, 109, 110, 111, 112, 113, 114, 115, 116, 226, 227, 228, 229, 230, 231, 232, 233, 234, 235, 236, 237, 238, 239, 240, 241, 242, 243, 244] (by decide +kernel) (by decide +kernel)) (goodIn_sub (fun _ h => List.mem_cons_of_mem _ (List.mem_append_left _ (List.mem_append_right _ h))) (by decide +kernel))) (goodIn_sub (fun _ h => List.mem_cons_of_mem _ (List.mem_append_left _ (List.mem_append_left _ (List.mem_append_right _ h)))) (by decide +kernel))
set_option maxRecDepth 20000 in
theorem gL_act_L_sendsBy : GoodIn wsL_act (va_wsS RL 121 yL_sendsBy wsL_sendsBy) := goodIn_app (goodIn_of _ (by decide +kernel)) ggL_act_L_sendsBy
set_option maxRecDepth 20000 in
theorem ggL_act_X0_sent : GoodIn wsL_act wsX0_sent := goodIn_r _ [198, 56, 226, 227, 228, 229, 230, 231, 232, 233, 234, 235, 236, 237, 238, 239, 240, 241, 242, 243, 244] (by decide +kernel) (by decide +kernel)
set_option maxRecDepth 20000 in
theorem gL_act_X0_sent : GoodIn wsL_act (wsV RL 86 RX0 yX0_sent wsX0_sent) := goodIn_app (goodIn_of _ (by decide +kernel)) ggL_act_X0_sent
set_option maxRecDepth 20000 in
theorem ggL_act_L_reads : GoodIn wsL_act wsL_reads := goodIn_ca (goodIn_ca (goodIn_r _ [201, 36, 12, 37, 14, 202, 203, 204, 4, 205, 19, 20, 105, 42, 43, 44, 45, 46, 47, 6, 206, 207, 208, 209, 56, 92, 93, 94, 30, 31, 32, 83, 84, 85, 86, 62, 87, 78, 79, 80, 81, 82, 106, 107, 108, 109, 110, 111, 112, 176, 177, 178, 179, 226, 227, 228, 229, 230, 231, 232, 233, 234, 235, 236, 237, 238, 239, 240, 241, 242, 243, 244] (by decide +kernel) (by decide +kernel)) (goodIn_sub (fun _ h => List.mem_cons_of_mem _ (List.mem_append_left _ (List.mem_append_left _ (List.mem_append_right _ h)))) (by decide +kernel))) (goodIn_sub (fun _ h => List.mem_cons_of_mem _ (List.mem_append_right _ h)) (by decide +kernel))
set_option maxRecDepth 20000 in
theorem gL_act_L_reads : GoodIn wsL_act (va_wsS RL 125 yL_reads wsL_reads) := goodIn_app (goodIn_of _ (by decide +kernel)) ggL_act_L_reads
set_option maxRecDepth 20000 in
theorem ggL_act_L_passes : GoodIn wsL_act wsL_passes := goodIn_ca (goodIn_ca (goodIn_r _ [212, 11, 12, 13, 14, 213, 214, 215, 4, 216, 19, 20, 62, 217, 218, 219, 220, 221, 25, 26, 27, 28, 29, 222, 223, 224, 225, 6, 69, 64, 65, 66, 67, 68, 70, 71, 72, 73, 21, 74, 75, 76, 77, 51, 52, 53, 54, 55, 56, 57, 58, 59, 60, 61, 24, 63, 48, 49, 50, 30, 31, 32, 78, 79, 80, 81, 82, 83, 84, 85, 86, 87, 88, 89, 90, 91, 92, 93, 94, 95, 96, 97, 98, 99, 100, 101, 102, 103, 104, 105, 106, 107, 108, 109, 110, 111, 112, 113, 114, 115, 116, 226, 227, 228, 229, 230, 231, 232, 233, 234, 235, 236, 237, 238, 239, 240, 241, 242, 243, 244] (by decide +kernel) (by decide +kernel)) (goodIn_sub (fun _ h => List.mem_cons_of_mem _ (List.mem_append_left _ (List.mem_append_left _ (List.mem_append_right _ h)))) (by decide +kernel))) (goodIn_sub (fun _ h => List.mem_cons_of_mem _ (List.mem_append_left _ (List.mem_append_right _ h))) (by decide +kernel))
set_option maxRecDepth 20000 in
theorem gL_act_L_passes : GoodIn wsL_act (va_wsS RL 144 yL_passes wsL_passes) := goodIn_app (goodIn_of _ (by decide +kernel)) ggL_act_L_passes
theorem dL_act_0 : decode cL_act 0 = .ok (.iload_n 1, 1) := by decide +kernel
theorem dL_act_1 : decode cL_act 1 = .ok (.bipush 16, 2) := by decide +kernel
theorem dL_act_3 : decode cL_act 3 = .ok (.idiv, 1) := by decide +kernel
theorem dL_act_4 : decode cL_act 4 = .ok (.istore_n 3, 1) := by decide +kernel
theorem dL_act_5 : decode cL_act 5 = .ok (.aload_n 0, 1) := by decide +kernel
theorem dL_act_6 : decode cL_act 6 = .ok (.invokevirtual 82, 3) := by decide +kernel
theorem dL_act_9 : decode cL_act 9 = .ok (.ifCond .ne 7, 3) := by decide +kernel
theorem dL_act_12 : decode cL_act 12 = .ok (.iconst 0, 1) := by decide +kernel
theorem dL_act_13 : decode cL_act 13 = .ok (.goto 9, 3) := by decide +kernel
theorem dL_act_16 : decode cL_act 16 = .ok (.iload_n 3, 1) := by decide +kernel
theorem dL_act_17 : decode cL_act 17 = .ok (.aload_n 0, 1) := by decide +kernel
theorem dL_act_18 : decode cL_act 18 = .ok (.invokevirtual 82, 3) := by decide +kernel
theorem dL_act_21 : decode cL_act 21 = .ok (.irem, 1) := by decide +kernel
theorem dL_act_22 : decode cL_act 22 = .ok (.istore 4, 2) := by decide +kernel
theorem dL_act_24 : decode cL_act 24 = .ok (.iload_n 3, 1) := by decide +kernel
theorem dL_act_25 : decode cL_act 25 = .ok (.bipush 16, 2) := by decide +kernel
theorem dL_act_27 : decode cL_act 27 = .ok (.idiv, 1) := by decide +kernel
theorem dL_act_28 : decode cL_act 28 = .ok (.iconst 2, 1) := by decide +kernel
theorem dL_act_29 : decode cL_act 29 = .ok (.irem, 1) := by decide +kernel
theorem dL_act_30 : decode cL_act 30 = .ok (.ifCond .ne 7, 3) := by decide +kernel
theorem dL_act_33 : decode cL_act 33 = .ok (.iconst 1, 1) := by decide +kernel
theorem dL_act_34 : decode cL_act 34 = .ok (.goto 4, 3) := by decide +kernel
theorem dL_act_37 : decode cL_act 37 = .ok (.iconst 0, 1) := by decide +kernel
theorem dL_act_38 : decode cL_act 38 = .ok (.istore 5, 2) := by decide +kernel
theorem dL_act_40 : decode cL_act 40 = .ok (.iload_n 1, 1) := by decide +kernel
theorem dL_act_41 : decode cL_act 41 = .ok (.bipush 16, 2) := by decide +kernel
theorem dL_act_43 : decode cL_act 43 = .ok (.irem, 1) := by decide +kernel
theorem dL_act_44 : decode cL_act 44 = .ok (.tableswitch 264 0 12 #[68, 68, 87, 96, 105, 128, 143, 168, 168, 168, 206, 237, 237], 68) := by decide +kernel
theorem dL_act_112 : decode cL_act 112 = .ok (.aload_n 0, 1) := by decide +kernel
theorem dL_act_113 : decode cL_act 113 = .ok (.iload_n 3, 1) := by decide +kernel
theorem dL_act_114 : decode cL_act 114 = .ok (.iconst 3, 1) := by decide +kernel
theorem dL_act_115 : decode cL_act 115 = .ok (.irem, 1) := by decide +kernel
theorem dL_act_116 : decode cL_act 116 = .ok (.iload_n 3, 1) := by decide +kernel
theorem dL_act_117 : decode cL_act 117 = .ok (.iconst 3, 1) := by decide +kernel
theorem dL_act_118 : decode cL_act 118 = .ok (.idiv, 1) := by decide +kernel
theorem dL_act_119 : decode cL_act 119 = .ok (.sipush 1561, 3) := by decide +kernel
theorem dL_act_122 : decode cL_act 122 = .ok (.irem, 1) := by decide +kernel
theorem dL_act_123 : decode cL_act 123 = .ok (.sipush 720, 3) := by decide +kernel
theorem dL_act_126 : decode cL_act 126 = .ok (.isub, 1) := by decide +kernel
theorem dL_act_127 : decode cL_act 127 = .ok (.invokestatic 89, 3) := by decide +kernel
theorem dL_act_130 : decode cL_act 130 = .ok (.ireturn, 1) := by decide +kernel
theorem dL_act_131 : decode cL_act 131 = .ok (.aload_n 0, 1) := by decide +kernel
theorem dL_act_132 : decode cL_act 132 = .ok (.iload 4, 2) := by decide +kernel
theorem dL_act_134 : decode cL_act 134 = .ok (.iload 5, 2) := by decide +kernel
theorem dL_act_136 : decode cL_act 136 = .ok (.invokestatic 95, 3) := by decide +kernel
theorem dL_act_139 : decode cL_act 139 = .ok (.ireturn, 1) := by decide +kernel
theorem dL_act_140 : decode cL_act 140 = .ok (.aload_n 0, 1) := by decide +kernel
theorem dL_act_141 : decode cL_act 141 = .ok (.iload 4, 2) := by decide +kernel
theorem dL_act_143 : decode cL_act 143 = .ok (.iload 5, 2) := by decide +kernel
theorem dL_act_145 : decode cL_act 145 = .ok (.invokestatic 99, 3) := by decide +kernel
theorem dL_act_148 : decode cL_act 148 = .ok (.ireturn, 1) := by decide +kernel
theorem dL_act_149 : decode cL_act 149 = .ok (.aload_n 0, 1) := by decide +kernel
theorem dL_act_150 : decode cL_act 150 = .ok (.iload 4, 2) := by decide +kernel
theorem dL_act_152 : decode cL_act 152 = .ok (.iload_n 3, 1) := by decide +kernel
theorem dL_act_153 : decode cL_act 153 = .ok (.bipush 16, 2) := by decide +kernel
theorem dL_act_155 : decode cL_act 155 = .ok (.idiv, 1) := by decide +kernel
theorem dL_act_156 : decode cL_act 156 = .ok (.sipush 1440, 3) := by decide +kernel
theorem dL_act_159 : decode cL_act 159 = .ok (.irem, 1) := by decide +kernel
theorem dL_act_160 : decode cL_act 160 = .ok (.iload_n 3, 1) := by decide +kernel
theorem dL_act_161 : decode cL_act 161 = .ok (.bipush 23, 2) := by decide +kernel
theorem dL_act_163 : decode cL_act 163 = .ok (.idiv, 1) := by decide +kernel
theorem dL_act_164 : decode cL_act 164 = .ok (.sipush 1440, 3) := by decide +kernel
theorem dL_act_167 : decode cL_act 167 = .ok (.irem, 1) := by decide +kernel
theorem dL_act_168 : decode cL_act 168 = .ok (.invokestatic 102, 3) := by decide +kernel
theorem dL_act_171 : decode cL_act 171 = .ok (.ireturn, 1) := by decide +kernel
theorem dL_act_172 : decode cL_act 172 = .ok (.aload_n 0, 1) := by decide +kernel
theorem dL_act_173 : decode cL_act 173 = .ok (.iload 4, 2) := by decide +kernel
theorem dL_act_175 : decode cL_act 175 = .ok (.iload_n 3, 1) := by decide +kernel
theorem dL_act_176 : decode cL_act 176 = .ok (.bipush 32, 2) := by decide +kernel
theorem dL_act_178 : decode cL_act 178 = .ok (.idiv, 1) := by decide +kernel
theorem dL_act_179 : decode cL_act 179 = .ok (.iconst 3, 1) := by decide +kernel
theorem dL_act_180 : decode cL_act 180 = .ok (.irem, 1) := by decide +kernel
theorem dL_act_181 : decode cL_act 181 = .ok (.iload 5, 2) := by decide +kernel
theorem dL_act_183 : decode cL_act 183 = .ok (.invokestatic 106, 3) := by decide +kernel
theorem dL_act_186 : decode cL_act 186 = .ok (.ireturn, 1) := by decide +kernel
theorem dL_act_187 : decode cL_act 187 = .ok (.iload_n 3, 1) := by decide +kernel
theorem dL_act_188 : decode cL_act 188 = .ok (.bipush 16, 2) := by decide +kernel
theorem dL_act_190 : decode cL_act 190 = .ok (.idiv, 1) := by decide +kernel
theorem dL_act_191 : decode cL_act 191 = .ok (.iconst 5, 1) := by decide +kernel
theorem dL_act_192 : decode cL_act 192 = .ok (.irem, 1) := by decide +kernel
theorem dL_act_193 : decode cL_act 193 = .ok (.ifCond .ne 12, 3) := by decide +kernel
theorem dL_act_196 : decode cL_act 196 = .ok (.aload_n 0, 1) := by decide +kernel
theorem dL_act_197 : decode cL_act 197 = .ok (.iload 4, 2) := by decide +kernel
theorem dL_act_199 : decode cL_act 199 = .ok (.invokestatic 110, 3) := by decide +kernel
theorem dL_act_202 : decode cL_act 202 = .ok (.goto 9, 3) := by decide +kernel
theorem dL_act_205 : decode cL_act 205 = .ok (.aload_n 0, 1) := by decide +kernel
theorem dL_act_206 : decode cL_act 206 = .ok (.iload 4, 2) := by decide +kernel
theorem dL_act_208 : decode cL_act 208 = .ok (.invokestatic 142, 3) := by decide +kernel
theorem dL_act_211 : decode cL_act 211 = .ok (.ireturn, 1) := by decide +kernel
theorem dL_act_212 : decode cL_act 212 = .ok (.aload_n 0, 1) := by decide +kernel
theorem dL_act_213 : decode cL_act 213 = .ok (.iload_n 3, 1) := by decide +kernel
theorem dL_act_214 : decode cL_act 214 = .ok (.iconst 3, 1) := by decide +kernel
theorem dL_act_215 : decode cL_act 215 = .ok (.irem, 1) := by decide +kernel
theorem dL_act_216 : decode cL_act 216 = .ok (.iload_n 3, 1) := by decide +kernel
theorem dL_act_217 : decode cL_act 217 = .ok (.iconst 3, 1) := by decide +kernel
theorem dL_act_218 : decode cL_act 218 = .ok (.idiv, 1) := by decide +kernel
theorem dL_act_219 : decode cL_act 219 = .ok (.iconst 4, 1) := by decide +kernel
theorem dL_act_220 : decode cL_act 220 = .ok (.irem, 1) := by decide +kernel
theorem dL_act_221 : decode cL_act 221 = .ok (.iconst 1, 1) := by decide +kernel
theorem dL_act_222 : decode cL_act 222 = .ok (.isub, 1) := by decide +kernel
theorem dL_act_223 : decode cL_act 223 = .ok (.iload 5, 2) := by decide +kernel
theorem dL_act_225 : decode cL_act 225 = .ok (.iconst 1, 1) := by decide +kernel
theorem dL_act_226 : decode cL_act 226 = .ok (.iload_n 3, 1) := by decide +kernel
theorem dL_act_227 : decode cL_act 227 = .ok (.bipush 96, 2) := by decide +kernel
theorem dL_act_229 : decode cL_act 229 = .ok (.idiv, 1) := by decide +kernel
theorem dL_act_230 : decode cL_act 230 = .ok (.iload_n 3, 1) := by decide +kernel
theorem dL_act_231 : decode cL_act 231 = .ok (.iconst 2, 1) := by decide +kernel
theorem dL_act_232 : decode cL_act 232 = .ok (.irem, 1) := by decide +kernel
theorem dL_act_233 : decode cL_act 233 = .ok (.ifCond .ne 8, 3) := by decide +kernel
theorem dL_act_236 : decode cL_act 236 = .ok (.bipush 40, 2) := by decide +kernel
theorem dL_act_238 : decode cL_act 238 = .ok (.goto 6, 3) := by decide +kernel
theorem dL_act_241 : decode cL_act 241 = .ok (.sipush 3000, 3) := by decide +kernel
theorem dL_act_244 : decode cL_act 244 = .ok (.irem, 1) := by decide +kernel
theorem dL_act_245 : decode cL_act 245 = .ok (.iadd, 1) := by decide +kernel
theorem dL_act_246 : decode cL_act 246 = .ok (.invokestatic 117, 3) := by decide +kernel
theorem dL_act_249 : decode cL_act 249 = .ok (.ireturn, 1) := by decide +kernel
theorem dL_act_250 : decode cL_act 250 = .ok (.aload_n 0, 1) := by decide +kernel
theorem dL_act_251 : decode cL_act 251 = .ok (.iload_n 3, 1) := by decide +kernel
theorem dL_act_252 : decode cL_act 252 = .ok (.iconst 3, 1) := by decide +kernel
theorem dL_act_253 : decode cL_act 253 = .ok (.irem, 1) := by decide +kernel
theorem dL_act_254 : decode cL_act 254 = .ok (.iload_n 3, 1) := by decide +kernel
theorem dL_act_255 : decode cL_act 255 = .ok (.iconst 3, 1) := by decide +kernel
theorem dL_act_256 : decode cL_act 256 = .ok (.idiv, 1) := by decide +kernel
theorem dL_act_257 : decode cL_act 257 = .ok (.iconst 3, 1) := by decide +kernel
theorem dL_act_258 : decode cL_act 258 = .ok (.irem, 1) := by decide +kernel
theorem dL_act_259 : decode cL_act 259 = .ok (.iload_n 3, 1) := by decide +kernel
theorem dL_act_260 : decode cL_act 260 = .ok (.bipush 9, 2) := by decide +kernel
theorem dL_act_262 : decode cL_act 262 = .ok (.idiv, 1) := by decide +kernel
theorem dL_act_263 : decode cL_act 263 = .ok (.iconst 3, 1) := by decide +kernel
theorem dL_act_264 : decode cL_act 264 = .ok (.irem, 1) := by decide +kernel
theorem dL_act_265 : decode cL_act 265 = .ok (.iload 5, 2) := by decide +kernel
theorem dL_act_267 : decode cL_act 267 = .ok (.iconst 1, 1) := by decide +kernel
theorem dL_act_268 : decode cL_act 268 = .ok (.iload_n 3, 1) := by decide +kernel
theorem dL_act_269 : decode cL_act 269 = .ok (.bipush 96, 2) := by decide +kernel
theorem dL_act_271 : decode cL_act 271 = .ok (.idiv, 1) := by decide +kernel
theorem dL_act_272 : decode cL_act 272 = .ok (.sipush 3000, 3) := by decide +kernel
theorem dL_act_275 : decode cL_act 275 = .ok (.irem, 1) := by decide +kernel
theorem dL_act_276 : decode cL_act 276 = .ok (.iadd, 1) := by decide +kernel
theorem dL_act_277 : decode cL_act 277 = .ok (.invokestatic 121, 3) := by decide +kernel
theorem dL_act_280 : decode cL_act 280 = .ok (.ireturn, 1) := by decide +kernel
theorem dL_act_281 : decode cL_act 281 = .ok (.aload_n 0, 1) := by decide +kernel
theorem dL_act_282 : decode cL_act 282 = .ok (.iload 4, 2) := by decide +kernel
theorem dL_act_284 : decode cL_act 284 = .ok (.aload_n 0, 1) := by decide +kernel
theorem dL_act_285 : decode cL_act 285 = .ok (.invokevirtual 86, 3) := by decide +kernel
theorem dL_act_288 : decode cL_act 288 = .ok (.ifCond .ne 7, 3) := by decide +kernel
theorem dL_act_291 : decode cL_act 291 = .ok (.iconst 0, 1) := by decide +kernel
theorem dL_act_292 : decode cL_act 292 = .ok (.goto 12, 3) := by decide +kernel
theorem dL_act_295 : decode cL_act 295 = .ok (.iload_n 3, 1) := by decide +kernel
theorem dL_act_296 : decode cL_act 296 = .ok (.bipush 16, 2) := by decide +kernel
theorem dL_act_298 : decode cL_act 298 = .ok (.idiv, 1) := by decide +kernel
theorem dL_act_299 : decode cL_act 299 = .ok (.aload_n 0, 1) := by decide +kernel
theorem dL_act_300 : decode cL_act 300 = .ok (.invokevirtual 86, 3) := by decide +kernel
theorem dL_act_303 : decode cL_act 303 = .ok (.irem, 1) := by decide +kernel
theorem dL_act_304 : decode cL_act 304 = .ok (.invokestatic 125, 3) := by decide +kernel
theorem dL_act_307 : decode cL_act 307 = .ok (.ireturn, 1) := by decide +kernel
theorem dL_act_308 : decode cL_act 308 = .ok (.iconst 1, 1) := by decide +kernel
theorem dL_act_309 : decode cL_act 309 = .ok (.iload_n 3, 1) := by decide +kernel
theorem dL_act_310 : decode cL_act 310 = .ok (.iload_n 3, 1) := by decide +kernel
theorem dL_act_311 : decode cL_act 311 = .ok (.iconst 5, 1) := by decide +kernel
theorem dL_act_312 : decode cL_act 312 = .ok (.irem, 1) := by decide +kernel
theorem dL_act_313 : decode cL_act 313 = .ok (.ifCond .ne 9, 3) := by decide +kernel
theorem dL_act_316 : decode cL_act 316 = .ok (.sipush 150, 3) := by decide +kernel
theorem dL_act_319 : decode cL_act 319 = .ok (.goto 5, 3) := by decide +kernel
theorem dL_act_322 : decode cL_act 322 = .ok (.bipush 30, 2) := by decide +kernel
theorem dL_act_324 : decode cL_act 324 = .ok (.irem, 1) := by decide +kernel
theorem dL_act_325 : decode cL_act 325 = .ok (.iadd, 1) := by decide +kernel
theorem dL_act_326 : decode cL_act 326 = .ok (.istore 6, 2) := by decide +kernel
theorem dL_act_328 : decode cL_act 328 = .ok (.iconst 0, 1) := by decide +kernel
theorem dL_act_329 : decode cL_act 329 = .ok (.istore 7, 2) := by decide +kernel
theorem dL_act_331 : decode cL_act 331 = .ok (.iconst 0, 1) := by decide +kernel
theorem dL_act_332 : decode cL_act 332 = .ok (.istore 8, 2) := by decide +kernel
theorem dL_act_334 : decode cL_act 334 = .ok (.iload 8, 2) := by decide +kernel
theorem dL_act_336 : decode cL_act 336 = .ok (.iload 6, 2) := by decide +kernel
theorem dL_act_338 : decode cL_act 338 = .ok (.if_icmp .ge 23, 3) := by decide +kernel
theorem dL_act_341 : decode cL_act 341 = .ok (.iload_n 2, 1) := by decide +kernel
theorem dL_act_342 : decode cL_act 342 = .ok (.ifCond .eq 19, 3) := by decide +kernel
theorem dL_act_345 : decode cL_act 345 = .ok (.iload 7, 2) := by decide +kernel
theorem dL_act_347 : decode cL_act 347 = .ok (.aload_n 0, 1) := by decide +kernel
theorem dL_act_348 : decode cL_act 348 = .ok (.iconst 1, 1) := by decide +kernel
theorem dL_act_349 : decode cL_act 349 = .ok (.invokestatic 144, 3) := by decide +kernel
theorem dL_act_352 : decode cL_act 352 = .ok (.iadd, 1) := by decide +kernel
theorem dL_act_353 : decode cL_act 353 = .ok (.istore 7, 2) := by decide +kernel
theorem dL_act_355 : decode cL_act 355 = .ok (.iinc 8 1, 3) := by decide +kernel
theorem dL_act_358 : decode cL_act 358 = .ok (.goto (-24), 3) := by decide +kernel
theorem dL_act_361 : decode cL_act 361 = .ok (.iload_n 2, 1) := by decide +kernel
theorem dL_act_362 : decode cL_act 362 = .ok (.ifCond .eq 8, 3) := by decide +kernel
theorem dL_act_365 : decode cL_act 365 = .ok (.iload 7, 2) := by decide +kernel
theorem dL_act_367 : decode cL_act 367 = .ok (.goto 9, 3) := by decide +kernel
theorem dL_act_370 : decode cL_act 370 = .ok (.aload_n 0, 1) := by decide +kernel
theorem dL_act_371 : decode cL_act 371 = .ok (.iload 6, 2) := by decide +kernel
theorem dL_act_373 : decode cL_act 373 = .ok (.invokestatic 144, 3) := by decide +kernel
theorem dL_act_376 : decode cL_act 376 = .ok (.ireturn, 1) := by decide +kernel
set_option maxRecDepth 20000 in
theorem ggL_alike_X0_clock : GoodIn wsL_alike wsX0_clock := goodIn_r _ [5, 6, 126, 127, 128, 129, 130, 131, 132, 133, 134, 135, 136, 137, 138, 139, 140, 141, 142, 143, 144] (by decide +kernel) (by decide +kernel)
set_option maxRecDepth 20000 in
theorem gL_alike_X0_clock : GoodIn wsL_alike (wsV RL 147 RX0 yX0_clock wsX0_clock) := goodIn_app (goodIn_of _ (by decide +kernel)) ggL_alike_X0_clock
set_option maxRecDepth 20000 in
theorem ggL_alike_X0_devices : GoodIn wsL_alike wsX0_devices := goodIn_r _ [10, 11, 126, 127, 128, 129, 130, 131, 132, 133, 134, 135, 136, 137, 138, 139, 140, 141, 142, 143, 144] (by decide +kernel) (by decide +kernel)
set_option maxRecDepth 20000 in
theorem gL_alike_X0_devices : GoodIn wsL_alike (wsV RL 82 RX0 yX0_devices wsX0_devices) := goodIn_app (goodIn_of _ (by decide +kernel)) ggL_alike_X0_devices
set_option maxRecDepth 20000 in
theorem ggL_alike_X0_sent : GoodIn wsL_alike wsX0_sent := goodIn_r _ [15, 16, 126, 127, 128, 129, 130, 131, 132, 133, 134, 135, 136, 137, 138, 139, 140, 141, 142, 143, 144] (by decide +kernel) (by decide +kernel)
set_option maxRecDepth 20000 in
theorem gL_alike_X0_sent : GoodIn wsL_alike (wsV RL 86 RX0 yX0_sent wsX0_sent) := goodIn_app (goodIn_of _ (by decide +kernel)) ggL_alike_X0_sent
set_option maxRecDepth 20000 in
theorem ggL_alike_X0_deliveries : GoodIn wsL_alike wsX0_deliveries := goodIn_r _ [20, 21, 126, 127, 128, 129, 130, 131, 132, 133, 134, 135, 136, 137, 138, 139, 140, 141, 142, 143, 144] (by decide +kernel) (by decide +kernel)
set_option maxRecDepth 20000 in
theorem gL_alike_X0_deliveries : GoodIn wsL_alike (wsV RL 150 RX0 yX0_deliveries wsX0_deliveries) := goodIn_app (goodIn_of _ (by decide +kernel)) ggL_alike_X0_deliveries
end
section
set_option maxRecDepth 20000 in
theorem ggL_alike_L_badge : GoodIn wsL_alike wsL_badge := goodIn_ca (goodIn_r _ [25, 26, 27, 28, 29, 30, 4, 31, 16, 32, 33, 34, 35, 36, 37, 38, 11, 39, 40, 41, 42, 43, 44, 45, 46, 47, 48, 6, 49, 126, 127, 128, 129, 130, 131, 132, 133, 134, 135, 136, 137, 138, 139, 140, 141, 142, 143, 144] (by decide +kernel) (by decide +kernel)) (goodIn_sub (fun _ h => List.mem_cons_of_mem _ (List.mem_append_right _ h)) (by decide +kernel))
set_option maxRecDepth 20000 in
theorem gL_alike_L_badge : GoodIn wsL_alike (va_wsS RL 138 yL_badge wsL_badge) := goodIn_app (goodIn_of _ (by decide +kernel)) ggL_alike_L_badge
set_option maxRecDepth 20000 in
theorem ggL_alike_L_waiting : GoodIn wsL_alike wsL_waiting := goodIn_ca (goodIn_r _ [52, 26, 27, 53, 54, 55, 4, 56, 33, 34, 35, 36, 37, 38, 11, 57, 58, 59, 60, 16, 61, 62, 63, 64, 65, 45, 46, 47, 48, 6, 49, 39, 40, 41, 42, 43, 44, 126, 127, 128, 129, 130, 131, 132, 133, 134, 135, 136, 137, 138, 139, 140, 141, 142, 143, 144] (by decide +kernel) (by decide +kernel)) (goodIn_sub (fun _ h => List.mem_cons_of_mem _ (List.mem_append_right _ h)) (by decide +kernel))
set_option maxRecDepth 20000 in
theorem gL_alike_L_waiting : GoodIn wsL_alike (va_wsS RL 140 yL_waiting wsL_waiting) := goodIn_app (goodIn_of _ (by decide +kernel)) ggL_alike_L_waiting
set_option maxRecDepth 20000 in
theorem ggL_alike_L_quota : GoodIn wsL_alike wsL_quota := goodIn_ca (goodIn_r _ [68, 26, 27, 69, 70, 71, 4, 72, 33, 34, 35, 36, 37, 38, 11, 73, 74, 75, 76, 77, 6, 78, 126, 127, 128, 129, 130, 131, 132, 133, 134, 135, 136, 137, 138, 139, 140, 141, 142, 143, 144] (by decide +kernel) (by decide +kernel)) (goodIn_sub (fun _ h => List.mem_cons_of_mem _ (List.mem_append_right _ h)) (by decide +kernel))
set_option maxRecDepth 20000 in
theorem gL_alike_L_quota : GoodIn wsL_alike (va_wsS RL 142 yL_quota wsL_quota) := goodIn_app (goodIn_of _ (by decide +kernel)) ggL_alike_L_quota
set_option maxRecDepth 20000 in
theorem ggL_alike_L_quiet : GoodIn wsL_alike wsL_quiet := goodIn_ca (goodIn_r _ [81, 26, 27, 82, 83, 84, 4, 85, 33, 34, 35, 36, 37, 38, 11, 86, 87, 88, 89, 90, 91, 92, 93, 94, 95, 6, 96, 97, 98, 99, 100, 126, 127, 128, 129, 130, 131, 132, 133, 134, 135, 136, 137, 138, 139, 140, 141, 142, 143, 144] (by decide +kernel) (by decide +kernel)) (goodIn_sub (fun _ h => List.mem_cons_of_mem _ (List.mem_append_right _ h)) (by decide +kernel))
set_option maxRecDepth 20000 in
theorem gL_alike_L_quiet : GoodIn wsL_alike (va_wsS RL 114 yL_quiet wsL_quiet) := goodIn_app (goodIn_of _ (by decide +kernel)) ggL_alike_L_quiet
set_option maxRecDepth 20000 in
theorem ggL_alike_L_stands : GoodIn wsL_alike wsL_stands := goodIn_ca (goodIn_r _ [103, 26, 27, 104, 105, 106, 4, 107, 108, 109, 110, 111, 37, 38, 16, 45, 46, 47, 48, 6, 49, 126, 127, 128, 129, 130, 131, 132, 133, 134, 135, 136, 137, 138, 139, 140, 141, 142, 143, 144] (by decide +kernel) (by decide +kernel)) (goodIn_sub (fun _ h => List.mem_cons_of_mem _ (List.mem_append_right _ h)) (by decide +kernel))
set_option maxRecDepth 20000 in
theorem gL_alike_L_stands : GoodIn wsL_alike (va_wsS RL 128 yL_stands wsL_stands) := goodIn_app (goodIn_of _ (by decide +kernel)) ggL_alike_L_stands
set_option maxRecDepth 20000 in
theorem ggL_alike_L_waits : GoodIn wsL_alike wsL_waits := goodIn_ca (goodIn_r _ [114, 26, 27, 115, 116, 117, 4, 118, 108, 109, 110, 111, 37, 38, 16, 61, 62, 63, 64, 65, 45, 46, 47, 48, 6, 49, 126, 127, 128, 129, 130, 131, 132, 133, 134, 135, 136, 137, 138, 139, 140, 141, 142, 143, 144] (by decide +kernel) (by decide +kernel)) (goodIn_sub (fun _ h => List.mem_cons_of_mem _ (List.mem_append_right _ h)) (by decide +kernel))
set_option maxRecDepth 20000 in
theorem gL_alike_L_waits : GoodIn wsL_alike (va_wsS RL 130 yL_waits wsL_waits) := goodIn_app (goodIn_of _ (by decide +kernel)) ggL_alike_L_waits
set_option maxRecDepth 20000 in
theorem ggL_alike_L_delivered : GoodIn wsL_alike wsL_delivered := goodIn_ca (goodIn_r _ [121, 26, 27, 122, 123, 124, 4, 125, 32, 108, 109, 110, 111, 37, 38, 16, 126, 127, 128, 129, 130, 131, 132, 133, 134, 135, 136, 137, 138, 139, 140, 141, 142, 143, 144] (by decide +kernel) (by decide +kernel)) (goodIn_sub (fun _ h => List.mem_cons_of_mem _ (List.mem_append_right _ h)) (by decide +kernel))
set_option maxRecDepth 20000 in
theorem gL_alike_L_delivered : GoodIn wsL_alike (va_wsS RL 133 yL_delivered wsL_delivered) := goodIn_app (goodIn_of _ (by decide +kernel)) ggL_alike_L_delivered
theorem dL_alike_0 : decode cL_alike 0 = .ok (.aload_n 0, 1) := by decide +kernel
theorem dL_alike_1 : decode cL_alike 1 = .ok (.invokevirtual 147, 3) := by decide +kernel
theorem dL_alike_4 : decode cL_alike 4 = .ok (.aload_n 1, 1) := by decide +kernel
theorem dL_alike_5 : decode cL_alike 5 = .ok (.invokevirtual 147, 3) := by decide +kernel
theorem dL_alike_8 : decode cL_alike 8 = .ok (.if_icmp .ne 40, 3) := by decide +kernel
theorem dL_alike_11 : decode cL_alike 11 = .ok (.aload_n 0, 1) := by decide +kernel
theorem dL_alike_12 : decode cL_alike 12 = .ok (.invokevirtual 82, 3) := by decide +kernel
theorem dL_alike_15 : decode cL_alike 15 = .ok (.aload_n 1, 1) := by decide +kernel
theorem dL_alike_16 : decode cL_alike 16 = .ok (.invokevirtual 82, 3) := by decide +kernel
theorem dL_alike_19 : decode cL_alike 19 = .ok (.if_icmp .ne 29, 3) := by decide +kernel
theorem dL_alike_22 : decode cL_alike 22 = .ok (.aload_n 0, 1) := by decide +kernel
theorem dL_alike_23 : decode cL_alike 23 = .ok (.invokevirtual 86, 3) := by decide +kernel
theorem dL_alike_26 : decode cL_alike 26 = .ok (.aload_n 1, 1) := by decide +kernel
theorem dL_alike_27 : decode cL_alike 27 = .ok (.invokevirtual 86, 3) := by decide +kernel
theorem dL_alike_30 : decode cL_alike 30 = .ok (.if_icmp .ne 18, 3) := by decide +kernel
theorem dL_alike_33 : decode cL_alike 33 = .ok (.aload_n 0, 1) := by decide +kernel
theorem dL_alike_34 : decode cL_alike 34 = .ok (.invokevirtual 150, 3) := by decide +kernel
theorem dL_alike_37 : decode cL_alike 37 = .ok (.aload_n 1, 1) := by decide +kernel
theorem dL_alike_38 : decode cL_alike 38 = .ok (.invokevirtual 150, 3) := by decide +kernel
theorem dL_alike_41 : decode cL_alike 41 = .ok (.if_icmp .ne 7, 3) := by decide +kernel
theorem dL_alike_44 : decode cL_alike 44 = .ok (.iconst 1, 1) := by decide +kernel
theorem dL_alike_45 : decode cL_alike 45 = .ok (.goto 4, 3) := by decide +kernel
theorem dL_alike_48 : decode cL_alike 48 = .ok (.iconst 0, 1) := by decide +kernel
theorem dL_alike_49 : decode cL_alike 49 = .ok (.istore_n 2, 1) := by decide +kernel
theorem dL_alike_50 : decode cL_alike 50 = .ok (.iconst 0, 1) := by decide +kernel
theorem dL_alike_51 : decode cL_alike 51 = .ok (.istore_n 3, 1) := by decide +kernel
theorem dL_alike_52 : decode cL_alike 52 = .ok (.iload_n 3, 1) := by decide +kernel
theorem dL_alike_53 : decode cL_alike 53 = .ok (.aload_n 0, 1) := by decide +kernel
theorem dL_alike_54 : decode cL_alike 54 = .ok (.invokevirtual 82, 3) := by decide +kernel
theorem dL_alike_57 : decode cL_alike 57 = .ok (.if_icmp .ge 71, 3) := by decide +kernel
theorem dL_alike_60 : decode cL_alike 60 = .ok (.iload_n 2, 1) := by decide +kernel
theorem dL_alike_61 : decode cL_alike 61 = .ok (.ifCond .eq 67, 3) := by decide +kernel
theorem dL_alike_64 : decode cL_alike 64 = .ok (.aload_n 0, 1) := by decide +kernel
theorem dL_alike_65 : decode cL_alike 65 = .ok (.iload_n 3, 1) := by decide +kernel
theorem dL_alike_66 : decode cL_alike 66 = .ok (.invokestatic 138, 3) := by decide +kernel
theorem dL_alike_69 : decode cL_alike 69 = .ok (.aload_n 1, 1) := by decide +kernel
theorem dL_alike_70 : decode cL_alike 70 = .ok (.iload_n 3, 1) := by decide +kernel
theorem dL_alike_71 : decode cL_alike 71 = .ok (.invokestatic 138, 3) := by decide +kernel
theorem dL_alike_74 : decode cL_alike 74 = .ok (.if_icmp .ne 46, 3) := by decide +kernel
theorem dL_alike_77 : decode cL_alike 77 = .ok (.aload_n 0, 1) := by decide +kernel
theorem dL_alike_78 : decode cL_alike 78 = .ok (.iload_n 3, 1) := by decide +kernel
theorem dL_alike_79 : decode cL_alike 79 = .ok (.invokestatic 140, 3) := by decide +kernel
theorem dL_alike_82 : decode cL_alike 82 = .ok (.aload_n 1, 1) := by decide +kernel
theorem dL_alike_83 : decode cL_alike 83 = .ok (.iload_n 3, 1) := by decide +kernel
theorem dL_alike_84 : decode cL_alike 84 = .ok (.invokestatic 140, 3) := by decide +kernel
theorem dL_alike_87 : decode cL_alike 87 = .ok (.if_icmp .ne 33, 3) := by decide +kernel
theorem dL_alike_90 : decode cL_alike 90 = .ok (.aload_n 0, 1) := by decide +kernel
theorem dL_alike_91 : decode cL_alike 91 = .ok (.iload_n 3, 1) := by decide +kernel
theorem dL_alike_92 : decode cL_alike 92 = .ok (.invokestatic 142, 3) := by decide +kernel
theorem dL_alike_95 : decode cL_alike 95 = .ok (.aload_n 1, 1) := by decide +kernel
theorem dL_alike_96 : decode cL_alike 96 = .ok (.iload_n 3, 1) := by decide +kernel
theorem dL_alike_97 : decode cL_alike 97 = .ok (.invokestatic 142, 3) := by decide +kernel
theorem dL_alike_100 : decode cL_alike 100 = .ok (.if_icmp .ne 20, 3) := by decide +kernel
theorem dL_alike_103 : decode cL_alike 103 = .ok (.aload_n 0, 1) := by decide +kernel
theorem dL_alike_104 : decode cL_alike 104 = .ok (.iload_n 3, 1) := by decide +kernel
theorem dL_alike_105 : decode cL_alike 105 = .ok (.invokestatic 114, 3) := by decide +kernel
theorem dL_alike_108 : decode cL_alike 108 = .ok (.aload_n 1, 1) := by decide +kernel
theorem dL_alike_109 : decode cL_alike 109 = .ok (.iload_n 3, 1) := by decide +kernel
theorem dL_alike_110 : decode cL_alike 110 = .ok (.invokestatic 114, 3) := by decide +kernel
theorem dL_alike_113 : decode cL_alike 113 = .ok (.if_icmp .ne 7, 3) := by decide +kernel
theorem dL_alike_116 : decode cL_alike 116 = .ok (.iconst 1, 1) := by decide +kernel
theorem dL_alike_117 : decode cL_alike 117 = .ok (.goto 4, 3) := by decide +kernel
theorem dL_alike_120 : decode cL_alike 120 = .ok (.iconst 0, 1) := by decide +kernel
theorem dL_alike_121 : decode cL_alike 121 = .ok (.istore_n 2, 1) := by decide +kernel
theorem dL_alike_122 : decode cL_alike 122 = .ok (.iinc 3 1, 3) := by decide +kernel
theorem dL_alike_125 : decode cL_alike 125 = .ok (.goto (-73), 3) := by decide +kernel
theorem dL_alike_128 : decode cL_alike 128 = .ok (.iconst 0, 1) := by decide +kernel
theorem dL_alike_129 : decode cL_alike 129 = .ok (.istore_n 3, 1) := by decide +kernel
theorem dL_alike_130 : decode cL_alike 130 = .ok (.iload_n 3, 1) := by decide +kernel
theorem dL_alike_131 : decode cL_alike 131 = .ok (.aload_n 0, 1) := by decide +kernel
theorem dL_alike_132 : decode cL_alike 132 = .ok (.invokevirtual 86, 3) := by decide +kernel
theorem dL_alike_135 : decode cL_alike 135 = .ok (.if_icmp .ge 58, 3) := by decide +kernel
theorem dL_alike_138 : decode cL_alike 138 = .ok (.iload_n 2, 1) := by decide +kernel
theorem dL_alike_139 : decode cL_alike 139 = .ok (.ifCond .eq 54, 3) := by decide +kernel
theorem dL_alike_142 : decode cL_alike 142 = .ok (.aload_n 0, 1) := by decide +kernel
theorem dL_alike_143 : decode cL_alike 143 = .ok (.iload_n 3, 1) := by decide +kernel
theorem dL_alike_144 : decode cL_alike 144 = .ok (.invokestatic 128, 3) := by decide +kernel
theorem dL_alike_147 : decode cL_alike 147 = .ok (.aload_n 1, 1) := by decide +kernel
theorem dL_alike_148 : decode cL_alike 148 = .ok (.iload_n 3, 1) := by decide +kernel
theorem dL_alike_149 : decode cL_alike 149 = .ok (.invokestatic 128, 3) := by decide +kernel
theorem dL_alike_152 : decode cL_alike 152 = .ok (.if_icmp .ne 33, 3) := by decide +kernel
theorem dL_alike_155 : decode cL_alike 155 = .ok (.aload_n 0, 1) := by decide +kernel
theorem dL_alike_156 : decode cL_alike 156 = .ok (.iload_n 3, 1) := by decide +kernel
theorem dL_alike_157 : decode cL_alike 157 = .ok (.invokestatic 130, 3) := by decide +kernel
theorem dL_alike_160 : decode cL_alike 160 = .ok (.aload_n 1, 1) := by decide +kernel
theorem dL_alike_161 : decode cL_alike 161 = .ok (.iload_n 3, 1) := by decide +kernel
theorem dL_alike_162 : decode cL_alike 162 = .ok (.invokestatic 130, 3) := by decide +kernel
theorem dL_alike_165 : decode cL_alike 165 = .ok (.if_icmp .ne 20, 3) := by decide +kernel
theorem dL_alike_168 : decode cL_alike 168 = .ok (.aload_n 0, 1) := by decide +kernel
theorem dL_alike_169 : decode cL_alike 169 = .ok (.iload_n 3, 1) := by decide +kernel
theorem dL_alike_170 : decode cL_alike 170 = .ok (.invokestatic 133, 3) := by decide +kernel
theorem dL_alike_173 : decode cL_alike 173 = .ok (.aload_n 1, 1) := by decide +kernel
theorem dL_alike_174 : decode cL_alike 174 = .ok (.iload_n 3, 1) := by decide +kernel
theorem dL_alike_175 : decode cL_alike 175 = .ok (.invokestatic 133, 3) := by decide +kernel
theorem dL_alike_178 : decode cL_alike 178 = .ok (.if_icmp .ne 7, 3) := by decide +kernel
theorem dL_alike_181 : decode cL_alike 181 = .ok (.iconst 1, 1) := by decide +kernel
theorem dL_alike_182 : decode cL_alike 182 = .ok (.goto 4, 3) := by decide +kernel
theorem dL_alike_185 : decode cL_alike 185 = .ok (.iconst 0, 1) := by decide +kernel
theorem dL_alike_186 : decode cL_alike 186 = .ok (.istore_n 2, 1) := by decide +kernel
theorem dL_alike_187 : decode cL_alike 187 = .ok (.iinc 3 1, 3) := by decide +kernel
theorem dL_alike_190 : decode cL_alike 190 = .ok (.goto (-60), 3) := by decide +kernel
theorem dL_alike_193 : decode cL_alike 193 = .ok (.iload_n 2, 1) := by decide +kernel
theorem dL_alike_194 : decode cL_alike 194 = .ok (.ireturn, 1) := by decide +kernel
theorem dL_bits_0 : decode cL_bits 0 = .ok (.iconst 0, 1) := by decide +kernel
theorem dL_bits_1 : decode cL_bits 1 = .ok (.istore_n 1, 1) := by decide +kernel
theorem dL_bits_2 : decode cL_bits 2 = .ok (.iload_n 0, 1) := by decide +kernel
theorem dL_bits_3 : decode cL_bits 3 = .ok (.istore_n 2, 1) := by decide +kernel
theorem dL_bits_4 : decode cL_bits 4 = .ok (.iload_n 2, 1) := by decide +kernel
theorem dL_bits_5 : decode cL_bits 5 = .ok (.ifCond .eq 15, 3) := by decide +kernel
theorem dL_bits_8 : decode cL_bits 8 = .ok (.iinc 1 1, 3) := by decide +kernel
theorem dL_bits_11 : decode cL_bits 11 = .ok (.iload_n 2, 1) := by decide +kernel
theorem dL_bits_12 : decode cL_bits 12 = .ok (.iload_n 2, 1) := by decide +kernel
theorem dL_bits_13 : decode cL_bits 13 = .ok (.iconst 1, 1) := by decide +kernel
theorem dL_bits_14 : decode cL_bits 14 = .ok (.isub, 1) := by decide +kernel
theorem dL_bits_15 : decode cL_bits 15 = .ok (.iand, 1) := by decide +kernel
theorem dL_bits_16 : decode cL_bits 16 = .ok (.istore_n 2, 1) := by decide +kernel
theorem dL_bits_17 : decode cL_bits 17 = .ok (.goto (-13), 3) := by decide +kernel
theorem dL_bits_20 : decode cL_bits 20 = .ok (.iload_n 1, 1) := by decide +kernel
theorem dL_bits_21 : decode cL_bits 21 = .ok (.ireturn, 1) := by decide +kernel
set_option maxRecDepth 20000 in
theorem ggL_holds_X0_sent : GoodIn wsL_holds wsX0_sent := goodIn_r _ [5, 6, 121, 122, 123, 124, 125, 126, 127, 128, 129, 130, 131, 132, 133, 134, 135, 136, 137, 138, 139] (by decide +kernel) (by decide +kernel)
set_option maxRecDepth 20000 in
theorem gL_holds_X0_sent : GoodIn wsL_holds (wsV RL 86 RX0 yX0_sent wsX0_sent) := goodIn_app (goodIn_of _ (by decide +kernel)) ggL_holds_X0_sent
set_option maxRecDepth 20000 in
theorem ggL_holds_L_stands : GoodIn wsL_holds wsL_stands := goodIn_ca (goodIn_r _ [10, 11, 12, 13, 14, 15, 4, 16, 17, 18, 19, 20, 21, 22, 6, 23, 24, 25, 26, 27, 28, 121, 122, 123, 124, 125, 126, 127, 128, 129, 130, 131, 132, 133, 134, 135, 136, 137, 138, 139] (by decide +kernel) (by decide +kernel)) (goodIn_sub (fun _ h => List.mem_cons_of_mem _ (List.mem_append_left _ (List.mem_append_right _ h))) (by decide +kernel))
set_option maxRecDepth 20000 in
theorem gL_holds_L_stands : GoodIn wsL_holds (va_wsS RL 128 yL_stands wsL_stands) := goodIn_app (goodIn_of _ (by decide +kernel)) ggL_holds_L_stands
set_option maxRecDepth 20000 in
theorem ggL_holds_L_waits : GoodIn wsL_holds wsL_waits := goodIn_ca (goodIn_r _ [31, 11, 12, 32, 33, 34, 4, 35, 17, 18, 19, 20, 21, 22, 6, 36, 37, 38, 39, 40, 23, 24, 25, 26, 27, 28, 121, 122, 123, 124, 125, 126, 127, 128, 129, 130, 131, 132, 133, 134, 135, 136, 137, 138, 139] (by decide +kernel) (by decide +kernel)) (goodIn_sub (fun _ h => List.mem_cons_of_mem _ (List.mem_append_left _ (List.mem_append_right _ h))) (by decide +kernel))
set_option maxRecDepth 20000 in
theorem gL_holds_L_waits : GoodIn wsL_holds (va_wsS RL 130 yL_waits wsL_waits) := goodIn_app (goodIn_of _ (by decide +kernel)) ggL_holds_L_waits
set_option maxRecDepth 20000 in
theorem ggL_holds_L_bits : GoodIn wsL_holds wsL_bits := goodIn_r _ [43] (by decide +kernel) (by decide +kernel)
set_option maxRecDepth 20000 in
theorem gL_holds_L_bits : GoodIn wsL_holds (va_wsS RL 153 yL_bits wsL_bits) := goodIn_app (goodIn_of _ (by decide +kernel)) ggL_holds_L_bits
set_option maxRecDepth 20000 in
theorem ggL_holds_L_delivered : GoodIn wsL_holds wsL_delivered := goodIn_ca (goodIn_r _ [46, 11, 12, 47, 48, 49, 4, 50, 51, 17, 18, 19, 20, 21, 22, 6, 121, 122, 123, 124, 125, 126, 127, 128, 129, 130, 131, 132, 133, 134, 135, 136, 137, 138, 139] (by decide +kernel) (by decide +kernel)) (goodIn_sub (fun _ h => List.mem_cons_of_mem _ (List.mem_append_left _ (List.mem_append_right _ h))) (by decide +kernel))
set_option maxRecDepth 20000 in
theorem gL_holds_L_delivered : GoodIn wsL_holds (va_wsS RL 133 yL_delivered wsL_delivered) := goodIn_app (goodIn_of _ (by decide +kernel)) ggL_holds_L_delivered
set_option maxRecDepth 20000 in
theorem ggL_holds_X0_devices : GoodIn wsL_holds wsX0_devices := goodIn_r _ [55, 56, 121, 122, 123, 124, 125, 126, 127, 128, 129, 130, 131, 132, 133, 134, 135, 136, 137, 138, 139] (by decide +kernel) (by decide +kernel)
set_option maxRecDepth 20000 in
theorem gL_holds_X0_devices : GoodIn wsL_holds (wsV RL 82 RX0 yX0_devices wsX0_devices) := goodIn_app (goodIn_of _ (by decide +kernel)) ggL_holds_X0_devices
set_option maxRecDepth 20000 in
theorem ggL_holds_L_waiting : GoodIn wsL_holds wsL_waiting := goodIn_ca (goodIn_r _ [59, 11, 12, 60, 61, 62, 4, 63, 64, 65, 66, 67, 21, 22, 56, 68, 69, 70, 71, 6, 36, 37, 38, 39, 40, 23, 24, 25, 26, 27, 28, 72, 73, 74, 75, 76, 77, 121, 122, 123, 124, 125, 126, 127, 128, 129, 130, 131, 132, 133, 134, 135, 136, 137, 138, 139] (by decide +kernel) (by decide +kernel)) (goodIn_sub (fun _ h => List.mem_cons_of_mem _ (List.mem_append_left _ (List.mem_append_right _ h))) (by decide +kernel))
set_option maxRecDepth 20000 in
theorem gL_holds_L_waiting : GoodIn wsL_holds (va_wsS RL 140 yL_waiting wsL_waiting) := goodIn_app (goodIn_of _ (by decide +kernel)) ggL_holds_L_waiting
set_option maxRecDepth 20000 in
theorem ggL_holds_L_badge : GoodIn wsL_holds wsL_badge := goodIn_ca (goodIn_r _ [80, 11, 12, 81, 82, 83, 4, 84, 6, 51, 64, 65, 66, 67, 21, 22, 56, 72, 73, 74, 75, 76, 77, 23, 24, 25, 26, 27, 28, 121, 122, 123, 124, 125, 126, 127, 128, 129, 130, 131, 132, 133, 134, 135, 136, 137, 138, 139] (by decide +kernel) (by decide +kernel)) (goodIn_sub (fun _ h => List.mem_cons_of_mem _ (List.mem_append_left _ (List.mem_append_right _ h))) (by decide +kernel))
set_option maxRecDepth 20000 in
theorem gL_holds_L_badge : GoodIn wsL_holds (va_wsS RL 138 yL_badge wsL_badge) := goodIn_app (goodIn_of _ (by decide +kernel)) ggL_holds_L_badge
set_option maxRecDepth 20000 in
theorem ggL_holds_L_quota : GoodIn wsL_holds wsL_quota := goodIn_ca (goodIn_r _ [87, 11, 12, 88, 89, 90, 4, 91, 64, 65, 66, 67, 21, 22, 56, 92, 93, 94, 95, 96, 27, 97, 121, 122, 123, 124, 125, 126, 127, 128, 129, 130, 131, 132, 133, 134, 135, 136, 137, 138, 139] (by decide +kernel) (by decide +kernel)) (goodIn_sub (fun _ h => List.mem_cons_of_mem _ (List.mem_append_left _ (List.mem_append_right _ h))) (by decide +kernel))
set_option maxRecDepth 20000 in
theorem gL_holds_L_quota : GoodIn wsL_holds (va_wsS RL 142 yL_quota wsL_quota) := goodIn_app (goodIn_of _ (by decide +kernel)) ggL_holds_L_quota
set_option maxRecDepth 20000 in
theorem ggL_holds_L_standing : GoodIn wsL_holds wsL_standing := goodIn_ca (goodIn_r _ [100, 101, 102, 103, 104, 105, 4, 106, 107, 108, 109, 110, 111, 112, 113, 114, 115, 23, 24, 25, 26, 27, 28, 121, 122, 123, 124, 125, 126, 127, 128, 129, 130, 131, 132, 133, 134, 135, 136, 137, 138, 139] (by decide +kernel) (by decide +kernel)) (goodIn_sub (fun _ h => List.mem_cons_of_mem _ (List.mem_append_right _ h)) (by decide +kernel))
set_option maxRecDepth 20000 in
theorem gL_holds_L_standing : GoodIn wsL_holds (va_wsS RL 136 yL_standing wsL_standing) := goodIn_app (goodIn_of _ (by decide +kernel)) ggL_holds_L_standing
set_option maxRecDepth 20000 in
theorem ggL_holds_X0_deliveries : GoodIn wsL_holds wsX0_deliveries := goodIn_r _ [119, 120, 121, 122, 123, 124, 125, 126, 127, 128, 129, 130, 131, 132, 133, 134, 135, 136, 137, 138, 139] (by decide +kernel) (by decide +kernel)
set_option maxRecDepth 20000 in
theorem gL_holds_X0_deliveries : GoodIn wsL_holds (wsV RL 150 RX0 yX0_deliveries wsX0_deliveries) := goodIn_app (goodIn_of _ (by decide +kernel)) ggL_holds_X0_deliveries
theorem dL_holds_0 : decode cL_holds 0 = .ok (.iconst 0, 1) := by decide +kernel
theorem dL_holds_1 : decode cL_holds 1 = .ok (.istore_n 1, 1) := by decide +kernel
theorem dL_holds_2 : decode cL_holds 2 = .ok (.iconst 0, 1) := by decide +kernel
theorem dL_holds_3 : decode cL_holds 3 = .ok (.istore_n 2, 1) := by decide +kernel
theorem dL_holds_4 : decode cL_holds 4 = .ok (.iconst 0, 1) := by decide +kernel
theorem dL_holds_5 : decode cL_holds 5 = .ok (.istore_n 3, 1) := by decide +kernel
theorem dL_holds_6 : decode cL_holds 6 = .ok (.iconst 0, 1) := by decide +kernel
theorem dL_holds_7 : decode cL_holds 7 = .ok (.istore 4, 2) := by decide +kernel
theorem dL_holds_9 : decode cL_holds 9 = .ok (.iconst 0, 1) := by decide +kernel
theorem dL_holds_10 : decode cL_holds 10 = .ok (.istore 5, 2) := by decide +kernel
theorem dL_holds_12 : decode cL_holds 12 = .ok (.iconst 1, 1) := by decide +kernel
theorem dL_holds_13 : decode cL_holds 13 = .ok (.istore 6, 2) := by decide +kernel
theorem dL_holds_15 : decode cL_holds 15 = .ok (.iconst 0, 1) := by decide +kernel
theorem dL_holds_16 : decode cL_holds 16 = .ok (.istore 7, 2) := by decide +kernel
theorem dL_holds_18 : decode cL_holds 18 = .ok (.iload 7, 2) := by decide +kernel
theorem dL_holds_20 : decode cL_holds 20 = .ok (.aload_n 0, 1) := by decide +kernel
theorem dL_holds_21 : decode cL_holds 21 = .ok (.invokevirtual 86, 3) := by decide +kernel
theorem dL_holds_24 : decode cL_holds 24 = .ok (.if_icmp .ge 139, 3) := by decide +kernel
theorem dL_holds_27 : decode cL_holds 27 = .ok (.iload 6, 2) := by decide +kernel
theorem dL_holds_29 : decode cL_holds 29 = .ok (.ifCond .eq 134, 3) := by decide +kernel
theorem dL_holds_32 : decode cL_holds 32 = .ok (.aload_n 0, 1) := by decide +kernel
theorem dL_holds_33 : decode cL_holds 33 = .ok (.iload 7, 2) := by decide +kernel
theorem dL_holds_35 : decode cL_holds 35 = .ok (.invokestatic 128, 3) := by decide +kernel
theorem dL_holds_38 : decode cL_holds 38 = .ok (.iconst 1, 1) := by decide +kernel
theorem dL_holds_39 : decode cL_holds 39 = .ok (.if_icmp .ne 7, 3) := by decide +kernel
theorem dL_holds_42 : decode cL_holds 42 = .ok (.iconst 1, 1) := by decide +kernel
theorem dL_holds_43 : decode cL_holds 43 = .ok (.goto 4, 3) := by decide +kernel
theorem dL_holds_46 : decode cL_holds 46 = .ok (.iconst 0, 1) := by decide +kernel
theorem dL_holds_47 : decode cL_holds 47 = .ok (.istore 8, 2) := by decide +kernel
theorem dL_holds_49 : decode cL_holds 49 = .ok (.iload_n 2, 1) := by decide +kernel
theorem dL_holds_50 : decode cL_holds 50 = .ok (.aload_n 0, 1) := by decide +kernel
theorem dL_holds_51 : decode cL_holds 51 = .ok (.iload 7, 2) := by decide +kernel
theorem dL_holds_53 : decode cL_holds 53 = .ok (.invokestatic 130, 3) := by decide +kernel
theorem dL_holds_56 : decode cL_holds 56 = .ok (.invokestatic 153, 3) := by decide +kernel
theorem dL_holds_59 : decode cL_holds 59 = .ok (.iadd, 1) := by decide +kernel
theorem dL_holds_60 : decode cL_holds 60 = .ok (.istore_n 2, 1) := by decide +kernel
theorem dL_holds_61 : decode cL_holds 61 = .ok (.iload 5, 2) := by decide +kernel
theorem dL_holds_63 : decode cL_holds 63 = .ok (.aload_n 0, 1) := by decide +kernel
theorem dL_holds_64 : decode cL_holds 64 = .ok (.iload 7, 2) := by decide +kernel
theorem dL_holds_66 : decode cL_holds 66 = .ok (.invokestatic 133, 3) := by decide +kernel
theorem dL_holds_69 : decode cL_holds 69 = .ok (.invokestatic 153, 3) := by decide +kernel
theorem dL_holds_72 : decode cL_holds 72 = .ok (.iadd, 1) := by decide +kernel
theorem dL_holds_73 : decode cL_holds 73 = .ok (.istore 5, 2) := by decide +kernel
theorem dL_holds_75 : decode cL_holds 75 = .ok (.iload 4, 2) := by decide +kernel
theorem dL_holds_77 : decode cL_holds 77 = .ok (.iload 8, 2) := by decide +kernel
theorem dL_holds_79 : decode cL_holds 79 = .ok (.ifCond .eq 15, 3) := by decide +kernel
theorem dL_holds_82 : decode cL_holds 82 = .ok (.aload_n 0, 1) := by decide +kernel
theorem dL_holds_83 : decode cL_holds 83 = .ok (.iload 7, 2) := by decide +kernel
theorem dL_holds_85 : decode cL_holds 85 = .ok (.invokestatic 133, 3) := by decide +kernel
theorem dL_holds_88 : decode cL_holds 88 = .ok (.invokestatic 153, 3) := by decide +kernel
theorem dL_holds_91 : decode cL_holds 91 = .ok (.goto 4, 3) := by decide +kernel
theorem dL_holds_94 : decode cL_holds 94 = .ok (.iconst 0, 1) := by decide +kernel
theorem dL_holds_95 : decode cL_holds 95 = .ok (.iadd, 1) := by decide +kernel
theorem dL_holds_96 : decode cL_holds 96 = .ok (.istore 4, 2) := by decide +kernel
theorem dL_holds_98 : decode cL_holds 98 = .ok (.aload_n 0, 1) := by decide +kernel
theorem dL_holds_99 : decode cL_holds 99 = .ok (.iload 7, 2) := by decide +kernel
theorem dL_holds_101 : decode cL_holds 101 = .ok (.invokestatic 130, 3) := by decide +kernel
theorem dL_holds_104 : decode cL_holds 104 = .ok (.aload_n 0, 1) := by decide +kernel
theorem dL_holds_105 : decode cL_holds 105 = .ok (.iload 7, 2) := by decide +kernel
theorem dL_holds_107 : decode cL_holds 107 = .ok (.invokestatic 133, 3) := by decide +kernel
theorem dL_holds_110 : decode cL_holds 110 = .ok (.iand, 1) := by decide +kernel
theorem dL_holds_111 : decode cL_holds 111 = .ok (.ifCond .ne 43, 3) := by decide +kernel
theorem dL_holds_114 : decode cL_holds 114 = .ok (.iload 8, 2) := by decide +kernel
theorem dL_holds_116 : decode cL_holds 116 = .ok (.ifCond .ne 12, 3) := by decide +kernel
theorem dL_holds_119 : decode cL_holds 119 = .ok (.aload_n 0, 1) := by decide +kernel
theorem dL_holds_120 : decode cL_holds 120 = .ok (.iload 7, 2) := by decide +kernel
theorem dL_holds_122 : decode cL_holds 122 = .ok (.invokestatic 130, 3) := by decide +kernel
theorem dL_holds_125 : decode cL_holds 125 = .ok (.ifCond .ne 29, 3) := by decide +kernel
theorem dL_holds_128 : decode cL_holds 128 = .ok (.aload_n 0, 1) := by decide +kernel
theorem dL_holds_129 : decode cL_holds 129 = .ok (.iload 7, 2) := by decide +kernel
theorem dL_holds_131 : decode cL_holds 131 = .ok (.invokestatic 130, 3) := by decide +kernel
theorem dL_holds_134 : decode cL_holds 134 = .ok (.aload_n 0, 1) := by decide +kernel
theorem dL_holds_135 : decode cL_holds 135 = .ok (.iload 7, 2) := by decide +kernel
theorem dL_holds_137 : decode cL_holds 137 = .ok (.invokestatic 133, 3) := by decide +kernel
theorem dL_holds_140 : decode cL_holds 140 = .ok (.ior, 1) := by decide +kernel
theorem dL_holds_141 : decode cL_holds 141 = .ok (.iconst 1, 1) := by decide +kernel
theorem dL_holds_142 : decode cL_holds 142 = .ok (.aload_n 0, 1) := by decide +kernel
theorem dL_holds_143 : decode cL_holds 143 = .ok (.invokevirtual 82, 3) := by decide +kernel
theorem dL_holds_146 : decode cL_holds 146 = .ok (.ishl, 1) := by decide +kernel
theorem dL_holds_147 : decode cL_holds 147 = .ok (.if_icmp .ge 7, 3) := by decide +kernel
theorem dL_holds_150 : decode cL_holds 150 = .ok (.iconst 1, 1) := by decide +kernel
theorem dL_holds_151 : decode cL_holds 151 = .ok (.goto 4, 3) := by decide +kernel
theorem dL_holds_154 : decode cL_holds 154 = .ok (.iconst 0, 1) := by decide +kernel
theorem dL_holds_155 : decode cL_holds 155 = .ok (.istore 6, 2) := by decide +kernel
theorem dL_holds_157 : decode cL_holds 157 = .ok (.iinc 7 1, 3) := by decide +kernel
theorem dL_holds_160 : decode cL_holds 160 = .ok (.goto (-142), 3) := by decide +kernel
theorem dL_holds_163 : decode cL_holds 163 = .ok (.iconst 0, 1) := by decide +kernel
theorem dL_holds_164 : decode cL_holds 164 = .ok (.istore 7, 2) := by decide +kernel
theorem dL_holds_166 : decode cL_holds 166 = .ok (.iload 7, 2) := by decide +kernel
theorem dL_holds_168 : decode cL_holds 168 = .ok (.aload_n 0, 1) := by decide +kernel
theorem dL_holds_169 : decode cL_holds 169 = .ok (.invokevirtual 82, 3) := by decide +kernel
theorem dL_holds_172 : decode cL_holds 172 = .ok (.if_icmp .ge 58, 3) := by decide +kernel
theorem dL_holds_175 : decode cL_holds 175 = .ok (.iload 6, 2) := by decide +kernel
theorem dL_holds_177 : decode cL_holds 177 = .ok (.ifCond .eq 53, 3) := by decide +kernel
theorem dL_holds_180 : decode cL_holds 180 = .ok (.iload_n 1, 1) := by decide +kernel
theorem dL_holds_181 : decode cL_holds 181 = .ok (.aload_n 0, 1) := by decide +kernel
theorem dL_holds_182 : decode cL_holds 182 = .ok (.iload 7, 2) := by decide +kernel
theorem dL_holds_184 : decode cL_holds 184 = .ok (.invokestatic 140, 3) := by decide +kernel
theorem dL_holds_187 : decode cL_holds 187 = .ok (.iadd, 1) := by decide +kernel
theorem dL_holds_188 : decode cL_holds 188 = .ok (.istore_n 1, 1) := by decide +kernel
theorem dL_holds_189 : decode cL_holds 189 = .ok (.iload_n 3, 1) := by decide +kernel
theorem dL_holds_190 : decode cL_holds 190 = .ok (.aload_n 0, 1) := by decide +kernel
theorem dL_holds_191 : decode cL_holds 191 = .ok (.iload 7, 2) := by decide +kernel
theorem dL_holds_193 : decode cL_holds 193 = .ok (.invokestatic 138, 3) := by decide +kernel
theorem dL_holds_196 : decode cL_holds 196 = .ok (.iadd, 1) := by decide +kernel
theorem dL_holds_197 : decode cL_holds 197 = .ok (.istore_n 3, 1) := by decide +kernel
theorem dL_holds_198 : decode cL_holds 198 = .ok (.aload_n 0, 1) := by decide +kernel
theorem dL_holds_199 : decode cL_holds 199 = .ok (.iload 7, 2) := by decide +kernel
theorem dL_holds_201 : decode cL_holds 201 = .ok (.invokestatic 142, 3) := by decide +kernel
theorem dL_holds_204 : decode cL_holds 204 = .ok (.ifCond .lt 17, 3) := by decide +kernel
theorem dL_holds_207 : decode cL_holds 207 = .ok (.aload_n 0, 1) := by decide +kernel
theorem dL_holds_208 : decode cL_holds 208 = .ok (.iload 7, 2) := by decide +kernel
theorem dL_holds_210 : decode cL_holds 210 = .ok (.invokestatic 142, 3) := by decide +kernel
theorem dL_holds_213 : decode cL_holds 213 = .ok (.iconst 3, 1) := by decide +kernel
theorem dL_holds_214 : decode cL_holds 214 = .ok (.if_icmp .gt 7, 3) := by decide +kernel
theorem dL_holds_217 : decode cL_holds 217 = .ok (.iconst 1, 1) := by decide +kernel
theorem dL_holds_218 : decode cL_holds 218 = .ok (.goto 4, 3) := by decide +kernel
theorem dL_holds_221 : decode cL_holds 221 = .ok (.iconst 0, 1) := by decide +kernel
theorem dL_holds_222 : decode cL_holds 222 = .ok (.istore 6, 2) := by decide +kernel
theorem dL_holds_224 : decode cL_holds 224 = .ok (.iinc 7 1, 3) := by decide +kernel
theorem dL_holds_227 : decode cL_holds 227 = .ok (.goto (-61), 3) := by decide +kernel
theorem dL_holds_230 : decode cL_holds 230 = .ok (.iconst 0, 1) := by decide +kernel
theorem dL_holds_231 : decode cL_holds 231 = .ok (.istore 7, 2) := by decide +kernel
theorem dL_holds_233 : decode cL_holds 233 = .ok (.iload 7, 2) := by decide +kernel
theorem dL_holds_235 : decode cL_holds 235 = .ok (.bipush 30, 2) := by decide +kernel
theorem dL_holds_237 : decode cL_holds 237 = .ok (.if_icmp .ge 53, 3) := by decide +kernel
theorem dL_holds_240 : decode cL_holds 240 = .ok (.iload 6, 2) := by decide +kernel
theorem dL_holds_242 : decode cL_holds 242 = .ok (.ifCond .eq 48, 3) := by decide +kernel
theorem dL_holds_245 : decode cL_holds 245 = .ok (.aload_n 0, 1) := by decide +kernel
theorem dL_holds_246 : decode cL_holds 246 = .ok (.iload 7, 2) := by decide +kernel
theorem dL_holds_248 : decode cL_holds 248 = .ok (.bipush 10, 2) := by decide +kernel
theorem dL_holds_250 : decode cL_holds 250 = .ok (.idiv, 1) := by decide +kernel
theorem dL_holds_251 : decode cL_holds 251 = .ok (.iload 7, 2) := by decide +kernel
theorem dL_holds_253 : decode cL_holds 253 = .ok (.bipush 10, 2) := by decide +kernel
theorem dL_holds_255 : decode cL_holds 255 = .ok (.irem, 1) := by decide +kernel
theorem dL_holds_256 : decode cL_holds 256 = .ok (.invokestatic 136, 3) := by decide +kernel
theorem dL_holds_259 : decode cL_holds 259 = .ok (.istore 8, 2) := by decide +kernel
theorem dL_holds_261 : decode cL_holds 261 = .ok (.iload 8, 2) := by decide +kernel
theorem dL_holds_263 : decode cL_holds 263 = .ok (.iconst (-1), 1) := by decide +kernel
theorem dL_holds_264 : decode cL_holds 264 = .ok (.if_icmp .eq 13, 3) := by decide +kernel
theorem dL_holds_267 : decode cL_holds 267 = .ok (.aload_n 0, 1) := by decide +kernel
theorem dL_holds_268 : decode cL_holds 268 = .ok (.iload 8, 2) := by decide +kernel
theorem dL_holds_270 : decode cL_holds 270 = .ok (.invokestatic 128, 3) := by decide +kernel
theorem dL_holds_273 : decode cL_holds 273 = .ok (.iconst 1, 1) := by decide +kernel
theorem dL_holds_274 : decode cL_holds 274 = .ok (.if_icmp .ne 7, 3) := by decide +kernel
theorem dL_holds_277 : decode cL_holds 277 = .ok (.iconst 1, 1) := by decide +kernel
theorem dL_holds_278 : decode cL_holds 278 = .ok (.goto 4, 3) := by decide +kernel
theorem dL_holds_281 : decode cL_holds 281 = .ok (.iconst 0, 1) := by decide +kernel
theorem dL_holds_282 : decode cL_holds 282 = .ok (.istore 6, 2) := by decide +kernel
theorem dL_holds_284 : decode cL_holds 284 = .ok (.iinc 7 1, 3) := by decide +kernel
theorem dL_holds_287 : decode cL_holds 287 = .ok (.goto (-54), 3) := by decide +kernel
theorem dL_holds_290 : decode cL_holds 290 = .ok (.iload 6, 2) := by decide +kernel
theorem dL_holds_292 : decode cL_holds 292 = .ok (.ifCond .eq 27, 3) := by decide +kernel
theorem dL_holds_295 : decode cL_holds 295 = .ok (.iload_n 1, 1) := by decide +kernel
theorem dL_holds_296 : decode cL_holds 296 = .ok (.iload_n 2, 1) := by decide +kernel
theorem dL_holds_297 : decode cL_holds 297 = .ok (.if_icmp .ne 22, 3) := by decide +kernel
theorem dL_holds_300 : decode cL_holds 300 = .ok (.iload_n 3, 1) := by decide +kernel
theorem dL_holds_301 : decode cL_holds 301 = .ok (.iload 4, 2) := by decide +kernel
theorem dL_holds_303 : decode cL_holds 303 = .ok (.if_icmp .ne 16, 3) := by decide +kernel
theorem dL_holds_306 : decode cL_holds 306 = .ok (.iload 5, 2) := by decide +kernel
theorem dL_holds_308 : decode cL_holds 308 = .ok (.aload_n 0, 1) := by decide +kernel
theorem dL_holds_309 : decode cL_holds 309 = .ok (.invokevirtual 150, 3) := by decide +kernel
theorem dL_holds_312 : decode cL_holds 312 = .ok (.if_icmp .ne 7, 3) := by decide +kernel
theorem dL_holds_315 : decode cL_holds 315 = .ok (.iconst 1, 1) := by decide +kernel
theorem dL_holds_316 : decode cL_holds 316 = .ok (.goto 4, 3) := by decide +kernel
theorem dL_holds_319 : decode cL_holds 319 = .ok (.iconst 0, 1) := by decide +kernel
theorem dL_holds_320 : decode cL_holds 320 = .ok (.ireturn, 1) := by decide +kernel
set_option maxRecDepth 20000 in
theorem ggL_wakes_X0_devices : GoodIn wsL_wakes wsX0_devices := goodIn_r _ [5, 6, 214, 215, 216, 217, 218, 219, 220, 221, 222, 223, 224, 225, 226, 227, 228, 229, 230, 231, 232] (by decide +kernel) (by decide +kernel)
set_option maxRecDepth 20000 in
theorem gL_wakes_X0_devices : GoodIn wsL_wakes (wsV RL 82 RX0 yX0_devices wsX0_devices) := goodIn_app (goodIn_of _ (by decide +kernel)) ggL_wakes_X0_devices
set_option maxRecDepth 20000 in
theorem ggL_wakes_L_waiting : GoodIn wsL_wakes wsL_waiting := goodIn_ca (goodIn_r _ [10, 11, 12, 13, 14, 15, 4, 16, 17, 18, 19, 20, 21, 22, 6, 23, 24, 25, 26, 27, 28, 29, 30, 31, 32, 33, 34, 35, 36, 37, 38, 39, 40, 41, 42, 43, 44, 214, 215, 216, 217, 218, 219, 220, 221, 222, 223, 224, 225, 226, 227, 228, 229, 230, 231, 232] (by decide +kernel) (by decide +kernel)) (goodIn_sub (fun _ h => List.mem_cons_of_mem _ (List.mem_append_left _ (List.mem_append_left _ (List.mem_append_right _ h)))) (by decide +kernel))
set_option maxRecDepth 20000 in
theorem gL_wakes_L_waiting : GoodIn wsL_wakes (va_wsS RL 140 yL_waiting wsL_waiting) := goodIn_app (goodIn_of _ (by decide +kernel)) ggL_wakes_L_waiting
set_option maxRecDepth 20000 in
theorem ggL_wakes_L_badge : GoodIn wsL_wakes wsL_badge := goodIn_ca (goodIn_r _ [47, 11, 12, 48, 49, 50, 4, 51, 27, 52, 17, 18, 19, 20, 21, 22, 6, 39, 40, 41, 42, 43, 44, 33, 34, 35, 36, 37, 38, 214, 215, 216, 217, 218, 219, 220, 221, 222, 223, 224, 225, 226, 227, 228, 229, 230, 231, 232] (by decide +kernel) (by decide +kernel)) (goodIn_sub (fun _ h => List.mem_cons_of_mem _ (List.mem_append_left _ (List.mem_append_left _ (List.mem_append_right _ h)))) (by decide +kernel))
set_option maxRecDepth 20000 in
theorem gL_wakes_L_badge : GoodIn wsL_wakes (va_wsS RL 138 yL_badge wsL_badge) := goodIn_app (goodIn_of _ (by decide +kernel)) ggL_wakes_L_badge
set_option maxRecDepth 20000 in
theorem ggL_wakes_L_dozes : GoodIn wsL_wakes wsL_dozes := goodIn_ca (goodIn_r _ [55, 11, 12, 56, 57, 58, 4, 59, 60, 17, 18, 19, 20, 21, 22, 6, 61, 62, 63, 42, 43, 44, 64, 65, 66, 67, 68, 27, 69, 70, 71, 72, 73, 37, 74, 75, 76, 77, 78, 79, 80, 81, 82, 83, 84, 85, 86, 87, 88, 89, 28, 29, 30, 31, 32, 33, 34, 35, 36, 38, 90, 91, 92, 93, 39, 40, 41, 94, 95, 96, 97, 98, 99, 100, 101, 102, 103, 52, 104, 105, 106, 107, 108, 109, 110, 111, 112, 113, 114, 214, 215, 216, 217, 218, 219, 220, 221, 222, 223, 224, 225, 226, 227, 228, 229, 230, 231, 232] (by decide +kernel) (by decide +kernel)) (goodIn_sub (fun _ h => List.mem_cons_of_mem _ (List.mem_append_left _ (List.mem_append_left _ (List.mem_append_right _ h)))) (by decide +kernel))
set_option maxRecDepth 20000 in
theorem gL_wakes_L_dozes : GoodIn wsL_wakes (va_wsS RL 99 yL_dozes wsL_dozes) := goodIn_app (goodIn_of _ (by decide +kernel)) ggL_wakes_L_dozes
set_option maxRecDepth 20000 in
theorem ggL_wakes_L_quiets : GoodIn wsL_wakes wsL_quiets := goodIn_ca (goodIn_ca (goodIn_r _ [117, 11, 118, 12, 119, 120, 121, 122, 4, 123, 79, 80, 17, 18, 19, 20, 21, 22, 6, 124, 125, 126, 127, 128, 64, 65, 66, 67, 68, 27, 69, 70, 71, 72, 73, 37, 74, 60, 75, 76, 77, 78, 81, 82, 83, 84, 85, 86, 87, 88, 89, 61, 62, 63, 42, 43, 44, 28, 29, 30, 31, 32, 33, 34, 35, 36, 38, 90, 91, 92, 93, 39, 40, 41, 94, 95, 96, 97, 98, 99, 100, 101, 102, 103, 52, 104, 105, 106, 107, 108, 109, 110, 111, 112, 113, 114, 214, 215, 216, 217, 218, 219, 220, 221, 222, 223, 224, 225, 226, 227, 228, 229, 230, 231, 232] (by decide +kernel) (by decide +kernel)) (goodIn_sub (fun _ h => List.mem_cons_of_mem _ (List.mem_append_left _ (List.mem_append_left _ (List.mem_append_right _ h)))) (by decide +kernel))) (goodIn_sub (fun _ h => List.mem_cons_of_mem _ (List.mem_append_left _ (List.mem_append_right _ h))) (by decide +kernel))
set_option maxRecDepth 20000 in
theorem gL_wakes_L_quiets : GoodIn wsL_wakes (va_wsS RL 102 yL_quiets wsL_quiets) := goodIn_app (goodIn_of _ (by decide +kernel)) ggL_wakes_L_quiets
set_option maxRecDepth 20000 in
theorem ggL_wakes_L_online : GoodIn wsL_wakes wsL_online := goodIn_ca (goodIn_r _ [131, 11, 12, 132, 133, 134, 4, 135, 74, 17, 18, 19, 20, 21, 22, 6, 61, 62, 63, 42, 43, 44, 64, 65, 66, 67, 68, 27, 69, 70, 71, 72, 73, 37, 60, 75, 76, 77, 78, 79, 80, 81, 82, 83, 84, 85, 86, 87, 88, 89, 28, 29, 30, 31, 32, 33, 34, 35, 36, 38, 90, 91, 92, 93, 39, 40, 41, 94, 95, 96, 97, 98, 99, 100, 101, 102, 103, 52, 104, 105, 106, 107, 108, 109, 110, 111, 112, 113, 114, 214, 215, 216, 217, 218, 219, 220, 221, 222, 223, 224, 225, 226, 227, 228, 229, 230, 231, 232] (by decide +kernel) (by decide +kernel)) (goodIn_sub (fun _ h => List.mem_cons_of_mem _ (List.mem_append_left _ (List.mem_append_left _ (List.mem_append_right _ h)))) (by decide +kernel))
set_option maxRecDepth 20000 in
theorem gL_wakes_L_online : GoodIn wsL_wakes (va_wsS RL 95 yL_online wsL_online) := goodIn_app (goodIn_of _ (by decide +kernel)) ggL_wakes_L_online
set_option maxRecDepth 20000 in
theorem ggL_wakes_X0_sent : GoodIn wsL_wakes wsX0_sent := goodIn_r _ [139, 27, 214, 215, 216, 217, 218, 219, 220, 221, 222, 223, 224, 225, 226, 227, 228, 229, 230, 231, 232] (by decide +kernel) (by decide +kernel)
set_option maxRecDepth 20000 in
theorem gL_wakes_X0_sent : GoodIn wsL_wakes (wsV RL 86 RX0 yX0_sent wsX0_sent) := goodIn_app (goodIn_of _ (by decide +kernel)) ggL_wakes_X0_sent
set_option maxRecDepth 20000 in
theorem ggL_wakes_X0_deliveries : GoodIn wsL_wakes wsX0_deliveries := goodIn_r _ [143, 68, 214, 215, 216, 217, 218, 219, 220, 221, 222, 223, 224, 225, 226, 227, 228, 229, 230, 231, 232] (by decide +kernel) (by decide +kernel)
set_option maxRecDepth 20000 in
theorem gL_wakes_X0_deliveries : GoodIn wsL_wakes (wsV RL 150 RX0 yX0_deliveries wsX0_deliveries) := goodIn_app (goodIn_of _ (by decide +kernel)) ggL_wakes_X0_deliveries
set_option maxRecDepth 20000 in
theorem ggL_wakes_L_sends : GoodIn wsL_wakes wsL_sends := goodIn_ca (goodIn_ca (goodIn_r _ [146, 118, 147, 119, 148, 149, 150, 151, 4, 152, 153, 124, 125, 126, 127, 128, 154, 155, 156, 157, 158, 159, 27, 160, 161, 162, 163, 164, 165, 166, 167, 33, 34, 35, 36, 37, 38, 168, 169, 170, 171, 172, 173, 174, 175, 69, 32, 176, 64, 65, 66, 67, 68, 70, 71, 72, 73, 74, 60, 6, 75, 76, 77, 78, 79, 80, 81, 82, 83, 84, 85, 86, 87, 88, 89, 61, 62, 63, 42, 43, 44, 28, 29, 30, 31, 90, 91, 92, 93, 39, 40, 41, 94, 95, 96, 97, 98, 99, 100, 101, 102, 103, 52, 104, 105, 106, 107, 108, 109, 110, 111, 112, 113, 114, 214, 215, 216, 217, 218, 219, 220, 221, 222, 223, 224, 225, 226, 227, 228, 229, 230, 231, 232] (by decide +kernel) (by decide +kernel)) (goodIn_sub (fun _ h => List.mem_cons_of_mem _ (List.mem_append_left _ (List.mem_append_right _ h))) (by decide +kernel))) (goodIn_sub (fun _ h => List.mem_cons_of_mem _ (List.mem_append_right _ h)) (by decide +kernel))
set_option maxRecDepth 20000 in
theorem gL_wakes_L_sends : GoodIn wsL_wakes (va_wsS RL 117 yL_sends wsL_sends) := goodIn_app (goodIn_of _ (by decide +kernel)) ggL_wakes_L_sends
set_option maxRecDepth 20000 in
theorem ggL_wakes_L_waits : GoodIn wsL_wakes wsL_waits := goodIn_ca (goodIn_r _ [179, 11, 12, 180, 181, 182, 4, 183, 184, 185, 186, 187, 21, 22, 27, 28, 29, 30, 31, 32, 33, 34, 35, 36, 37, 38, 214, 215, 216, 217, 218, 219, 220, 221, 222, 223, 224, 225, 226, 227, 228, 229, 230, 231, 232] (by decide +kernel) (by decide +kernel)) (goodIn_sub (fun _ h => List.mem_cons_of_mem _ (List.mem_append_left _ (List.mem_append_left _ (List.mem_append_right _ h)))) (by decide +kernel))
set_option maxRecDepth 20000 in
theorem gL_wakes_L_waits : GoodIn wsL_wakes (va_wsS RL 130 yL_waits wsL_waits) := goodIn_app (goodIn_of _ (by decide +kernel)) ggL_wakes_L_waits
set_option maxRecDepth 20000 in
theorem ggL_wakes_L_delivered : GoodIn wsL_wakes wsL_delivered := goodIn_ca (goodIn_r _ [190, 11, 12, 191, 192, 193, 4, 194, 52, 184, 185, 186, 187, 21, 22, 27, 214, 215, 216, 217, 218, 219, 220, 221, 222, 223, 224, 225, 226, 227, 228, 229, 230, 231, 232] (by decide +kernel) (by decide +kernel)) (goodIn_sub (fun _ h => List.mem_cons_of_mem _ (List.mem_append_left _ (List.mem_append_left _ (List.mem_append_right _ h)))) (by decide +kernel))
set_option maxRecDepth 20000 in
theorem gL_wakes_L_delivered : GoodIn wsL_wakes (va_wsS RL 133 yL_delivered wsL_delivered) := goodIn_app (goodIn_of _ (by decide +kernel)) ggL_wakes_L_delivered
set_option maxRecDepth 20000 in
theorem ggL_wakes_L_bits : GoodIn wsL_wakes wsL_bits := goodIn_r _ [197] (by decide +kernel) (by decide +kernel)
set_option maxRecDepth 20000 in
theorem gL_wakes_L_bits : GoodIn wsL_wakes (va_wsS RL 153 yL_bits wsL_bits) := goodIn_app (goodIn_of _ (by decide +kernel)) ggL_wakes_L_bits
set_option maxRecDepth 20000 in
theorem ggL_wakes_L_passes : GoodIn wsL_wakes wsL_passes := goodIn_ca (goodIn_ca (goodIn_r _ [200, 118, 147, 119, 148, 201, 202, 203, 4, 204, 158, 159, 37, 205, 206, 207, 208, 209, 124, 125, 126, 127, 128, 210, 211, 212, 213, 6, 80, 75, 76, 77, 78, 79, 81, 82, 83, 84, 85, 86, 87, 88, 89, 64, 65, 66, 67, 68, 27, 69, 70, 71, 72, 73, 74, 60, 61, 62, 63, 42, 43, 44, 28, 29, 30, 31, 32, 33, 34, 35, 36, 38, 90, 91, 92, 93, 39, 40, 41, 94, 95, 96, 97, 98, 99, 100, 101, 102, 103, 52, 104, 105, 106, 107, 108, 109, 110, 111, 112, 113, 114, 214, 215, 216, 217, 218, 219, 220, 221, 222, 223, 224, 225, 226, 227, 228, 229, 230, 231, 232] (by decide +kernel) (by decide +kernel)) (goodIn_sub (fun _ h => List.mem_cons_of_mem _ (List.mem_append_right _ h)) (by decide +kernel))) (goodIn_sub (fun _ h => List.mem_cons_of_mem _ (List.mem_append_left _ (List.mem_append_right _ h))) (by decide +kernel))
set_option maxRecDepth 20000 in
theorem gL_wakes_L_passes : GoodIn wsL_wakes (va_wsS RL 144 yL_passes wsL_passes) := goodIn_app (goodIn_of _ (by decide +kernel)) ggL_wakes_L_passes
theorem dL_wakes_0 : decode cL_wakes 0 = .ok (.iconst 1, 1) := by decide +kernel
theorem dL_wakes_1 : decode cL_wakes 1 = .ok (.istore_n 1, 1) := by decide +kernel
theorem dL_wakes_2 : decode cL_wakes 2 = .ok (.iconst 0, 1) := by decide +kernel
theorem dL_wakes_3 : decode cL_wakes 3 = .ok (.istore_n 2, 1) := by decide +kernel
theorem dL_wakes_4 : decode cL_wakes 4 = .ok (.iload_n 2, 1) := by decide +kernel
theorem dL_wakes_5 : decode cL_wakes 5 = .ok (.aload_n 0, 1) := by decide +kernel
theorem dL_wakes_6 : decode cL_wakes 6 = .ok (.invokevirtual 82, 3) := by decide +kernel
theorem dL_wakes_9 : decode cL_wakes 9 = .ok (.if_icmp .ge 104, 3) := by decide +kernel
theorem dL_wakes_12 : decode cL_wakes 12 = .ok (.iload_n 1, 1) := by decide +kernel
theorem dL_wakes_13 : decode cL_wakes 13 = .ok (.ifCond .eq 100, 3) := by decide +kernel
theorem dL_wakes_16 : decode cL_wakes 16 = .ok (.aload_n 0, 1) := by decide +kernel
theorem dL_wakes_17 : decode cL_wakes 17 = .ok (.iload_n 2, 1) := by decide +kernel
theorem dL_wakes_18 : decode cL_wakes 18 = .ok (.invokestatic 140, 3) := by decide +kernel
theorem dL_wakes_21 : decode cL_wakes 21 = .ok (.istore_n 3, 1) := by decide +kernel
theorem dL_wakes_22 : decode cL_wakes 22 = .ok (.aload_n 0, 1) := by decide +kernel
theorem dL_wakes_23 : decode cL_wakes 23 = .ok (.iload_n 2, 1) := by decide +kernel
theorem dL_wakes_24 : decode cL_wakes 24 = .ok (.invokestatic 138, 3) := by decide +kernel
theorem dL_wakes_27 : decode cL_wakes 27 = .ok (.istore 4, 2) := by decide +kernel
theorem dL_wakes_29 : decode cL_wakes 29 = .ok (.aload_n 0, 1) := by decide +kernel
theorem dL_wakes_30 : decode cL_wakes 30 = .ok (.iload_n 2, 1) := by decide +kernel
theorem dL_wakes_31 : decode cL_wakes 31 = .ok (.iconst 0, 1) := by decide +kernel
theorem dL_wakes_32 : decode cL_wakes 32 = .ok (.invokestatic 99, 3) := by decide +kernel
theorem dL_wakes_35 : decode cL_wakes 35 = .ok (.istore 5, 2) := by decide +kernel
theorem dL_wakes_37 : decode cL_wakes 37 = .ok (.aload_n 0, 1) := by decide +kernel
theorem dL_wakes_38 : decode cL_wakes 38 = .ok (.iload_n 2, 1) := by decide +kernel
theorem dL_wakes_39 : decode cL_wakes 39 = .ok (.iconst 0, 1) := by decide +kernel
theorem dL_wakes_40 : decode cL_wakes 40 = .ok (.iconst 0, 1) := by decide +kernel
theorem dL_wakes_41 : decode cL_wakes 41 = .ok (.invokestatic 102, 3) := by decide +kernel
theorem dL_wakes_44 : decode cL_wakes 44 = .ok (.istore 6, 2) := by decide +kernel
theorem dL_wakes_46 : decode cL_wakes 46 = .ok (.aload_n 0, 1) := by decide +kernel
theorem dL_wakes_47 : decode cL_wakes 47 = .ok (.iload_n 2, 1) := by decide +kernel
theorem dL_wakes_48 : decode cL_wakes 48 = .ok (.iconst 1, 1) := by decide +kernel
theorem dL_wakes_49 : decode cL_wakes 49 = .ok (.invokestatic 95, 3) := by decide +kernel
theorem dL_wakes_52 : decode cL_wakes 52 = .ok (.istore 7, 2) := by decide +kernel
theorem dL_wakes_54 : decode cL_wakes 54 = .ok (.iload 5, 2) := by decide +kernel
theorem dL_wakes_56 : decode cL_wakes 56 = .ok (.ifCond .lt 49, 3) := by decide +kernel
theorem dL_wakes_59 : decode cL_wakes 59 = .ok (.iload 6, 2) := by decide +kernel
theorem dL_wakes_61 : decode cL_wakes 61 = .ok (.ifCond .lt 44, 3) := by decide +kernel
theorem dL_wakes_64 : decode cL_wakes 64 = .ok (.iload 7, 2) := by decide +kernel
theorem dL_wakes_66 : decode cL_wakes 66 = .ok (.ifCond .lt 39, 3) := by decide +kernel
theorem dL_wakes_69 : decode cL_wakes 69 = .ok (.iload 5, 2) := by decide +kernel
theorem dL_wakes_71 : decode cL_wakes 71 = .ok (.iload 6, 2) := by decide +kernel
theorem dL_wakes_73 : decode cL_wakes 73 = .ok (.iadd, 1) := by decide +kernel
theorem dL_wakes_74 : decode cL_wakes 74 = .ok (.iload 7, 2) := by decide +kernel
theorem dL_wakes_76 : decode cL_wakes 76 = .ok (.iadd, 1) := by decide +kernel
theorem dL_wakes_77 : decode cL_wakes 77 = .ok (.iload_n 3, 1) := by decide +kernel
theorem dL_wakes_78 : decode cL_wakes 78 = .ok (.if_icmp .ne 27, 3) := by decide +kernel
theorem dL_wakes_81 : decode cL_wakes 81 = .ok (.aload_n 0, 1) := by decide +kernel
theorem dL_wakes_82 : decode cL_wakes 82 = .ok (.iload_n 2, 1) := by decide +kernel
theorem dL_wakes_83 : decode cL_wakes 83 = .ok (.invokestatic 140, 3) := by decide +kernel
theorem dL_wakes_86 : decode cL_wakes 86 = .ok (.ifCond .ne 19, 3) := by decide +kernel
theorem dL_wakes_89 : decode cL_wakes 89 = .ok (.aload_n 0, 1) := by decide +kernel
theorem dL_wakes_90 : decode cL_wakes 90 = .ok (.iload_n 2, 1) := by decide +kernel
theorem dL_wakes_91 : decode cL_wakes 91 = .ok (.invokestatic 138, 3) := by decide +kernel
theorem dL_wakes_94 : decode cL_wakes 94 = .ok (.iload 4, 2) := by decide +kernel
theorem dL_wakes_96 : decode cL_wakes 96 = .ok (.iload_n 3, 1) := by decide +kernel
theorem dL_wakes_97 : decode cL_wakes 97 = .ok (.iadd, 1) := by decide +kernel
theorem dL_wakes_98 : decode cL_wakes 98 = .ok (.if_icmp .ne 7, 3) := by decide +kernel
theorem dL_wakes_101 : decode cL_wakes 101 = .ok (.iconst 1, 1) := by decide +kernel
theorem dL_wakes_102 : decode cL_wakes 102 = .ok (.goto 4, 3) := by decide +kernel
theorem dL_wakes_105 : decode cL_wakes 105 = .ok (.iconst 0, 1) := by decide +kernel
theorem dL_wakes_106 : decode cL_wakes 106 = .ok (.istore_n 1, 1) := by decide +kernel
theorem dL_wakes_107 : decode cL_wakes 107 = .ok (.iinc 2 1, 3) := by decide +kernel
theorem dL_wakes_110 : decode cL_wakes 110 = .ok (.goto (-106), 3) := by decide +kernel
end
section
theorem dL_wakes_113 : decode cL_wakes 113 = .ok (.aload_n 0, 1) := by decide +kernel
theorem dL_wakes_114 : decode cL_wakes 114 = .ok (.invokevirtual 86, 3) := by decide +kernel
theorem dL_wakes_117 : decode cL_wakes 117 = .ok (.istore_n 2, 1) := by decide +kernel
theorem dL_wakes_118 : decode cL_wakes 118 = .ok (.aload_n 0, 1) := by decide +kernel
theorem dL_wakes_119 : decode cL_wakes 119 = .ok (.invokevirtual 150, 3) := by decide +kernel
theorem dL_wakes_122 : decode cL_wakes 122 = .ok (.istore_n 3, 1) := by decide +kernel
theorem dL_wakes_123 : decode cL_wakes 123 = .ok (.iload_n 1, 1) := by decide +kernel
theorem dL_wakes_124 : decode cL_wakes 124 = .ok (.ifCond .eq 59, 3) := by decide +kernel
theorem dL_wakes_127 : decode cL_wakes 127 = .ok (.iload_n 2, 1) := by decide +kernel
theorem dL_wakes_128 : decode cL_wakes 128 = .ok (.bipush 120, 2) := by decide +kernel
theorem dL_wakes_130 : decode cL_wakes 130 = .ok (.if_icmp .eq 41, 3) := by decide +kernel
theorem dL_wakes_133 : decode cL_wakes 133 = .ok (.aload_n 0, 1) := by decide +kernel
theorem dL_wakes_134 : decode cL_wakes 134 = .ok (.iconst 0, 1) := by decide +kernel
theorem dL_wakes_135 : decode cL_wakes 135 = .ok (.iconst (-1), 1) := by decide +kernel
theorem dL_wakes_136 : decode cL_wakes 136 = .ok (.iconst 0, 1) := by decide +kernel
theorem dL_wakes_137 : decode cL_wakes 137 = .ok (.bipush 7, 2) := by decide +kernel
theorem dL_wakes_139 : decode cL_wakes 139 = .ok (.invokestatic 117, 3) := by decide +kernel
theorem dL_wakes_142 : decode cL_wakes 142 = .ok (.iload_n 2, 1) := by decide +kernel
theorem dL_wakes_143 : decode cL_wakes 143 = .ok (.if_icmp .ne 40, 3) := by decide +kernel
theorem dL_wakes_146 : decode cL_wakes 146 = .ok (.aload_n 0, 1) := by decide +kernel
theorem dL_wakes_147 : decode cL_wakes 147 = .ok (.iload_n 2, 1) := by decide +kernel
theorem dL_wakes_148 : decode cL_wakes 148 = .ok (.invokestatic 130, 3) := by decide +kernel
theorem dL_wakes_151 : decode cL_wakes 151 = .ok (.ifCond .ne 32, 3) := by decide +kernel
theorem dL_wakes_154 : decode cL_wakes 154 = .ok (.aload_n 0, 1) := by decide +kernel
theorem dL_wakes_155 : decode cL_wakes 155 = .ok (.invokevirtual 150, 3) := by decide +kernel
theorem dL_wakes_158 : decode cL_wakes 158 = .ok (.iload_n 3, 1) := by decide +kernel
theorem dL_wakes_159 : decode cL_wakes 159 = .ok (.aload_n 0, 1) := by decide +kernel
theorem dL_wakes_160 : decode cL_wakes 160 = .ok (.iload_n 2, 1) := by decide +kernel
theorem dL_wakes_161 : decode cL_wakes 161 = .ok (.invokestatic 133, 3) := by decide +kernel
theorem dL_wakes_164 : decode cL_wakes 164 = .ok (.invokestatic 153, 3) := by decide +kernel
theorem dL_wakes_167 : decode cL_wakes 167 = .ok (.iadd, 1) := by decide +kernel
theorem dL_wakes_168 : decode cL_wakes 168 = .ok (.if_icmp .ne 15, 3) := by decide +kernel
theorem dL_wakes_171 : decode cL_wakes 171 = .ok (.aload_n 0, 1) := by decide +kernel
theorem dL_wakes_172 : decode cL_wakes 172 = .ok (.iconst 1, 1) := by decide +kernel
theorem dL_wakes_173 : decode cL_wakes 173 = .ok (.invokestatic 144, 3) := by decide +kernel
theorem dL_wakes_176 : decode cL_wakes 176 = .ok (.ifCond .ne 7, 3) := by decide +kernel
theorem dL_wakes_179 : decode cL_wakes 179 = .ok (.iconst 1, 1) := by decide +kernel
theorem dL_wakes_180 : decode cL_wakes 180 = .ok (.goto 4, 3) := by decide +kernel
theorem dL_wakes_183 : decode cL_wakes 183 = .ok (.iconst 0, 1) := by decide +kernel
theorem dL_wakes_184 : decode cL_wakes 184 = .ok (.ireturn, 1) := by decide +kernel
set_option maxRecDepth 20000 in
theorem ggL_law_X0_init : GoodIn wsL_law wsX0_init := goodIn_r _ [5, 6, 7, 8, 9, 10, 11, 12, 13, 14, 15, 16, 17, 18, 19, 20, 21, 22, 23, 24, 25, 26, 27, 28, 29, 315, 316, 317, 318, 319, 320, 321, 322, 323, 324, 325, 326, 327, 328, 329, 330, 331, 332, 333] (by decide +kernel) (by decide +kernel)
set_option maxRecDepth 20000 in
theorem gL_law_X0_init : GoodIn wsL_law (wsX0_init) := ggL_law_X0_init
set_option maxRecDepth 20000 in
theorem ggL_law_L_drawn : GoodIn wsL_law wsL_drawn := goodIn_r _ [33, 34, 35] (by decide +kernel) (by decide +kernel)
set_option maxRecDepth 20000 in
theorem gL_law_L_drawn : GoodIn wsL_law (va_wsS RL 157 yL_drawn wsL_drawn) := goodIn_app (goodIn_of _ (by decide +kernel)) ggL_law_L_drawn
theorem goodIn_c {big a : List Cond} {c : Cond} (hc : GoodIn big [c]) (ha : GoodIn big a) : GoodIn big (c :: a) := fun w h => (List.mem_cons.mp h).elim (fun e => hc w (List.mem_singleton.mpr e)) (ha w)
set_option maxRecDepth 20000 in
theorem ggL_law_L_refuses_r1 : GoodIn wsL_law wsL_refuses_r1 := goodIn_r _ [39, 40, 41, 42, 43, 44, 2, 45, 20, 46, 47, 48, 49, 27, 50, 51, 32, 52, 53, 54, 55, 56, 57, 58] (by decide +kernel) (by decide +kernel)
set_option maxRecDepth 20000 in
theorem ggL_law_L_refuses_r2 : GoodIn wsL_law wsL_refuses_r2 := goodIn_r _ [59, 60, 15, 10, 12, 13, 61, 62, 63, 64, 65, 66, 67, 68, 69, 70, 71, 72, 73, 74, 75, 76, 77, 78] (by decide +kernel) (by decide +kernel)
set_option maxRecDepth 20000 in
theorem ggL_law_L_refuses_r3 : GoodIn wsL_law wsL_refuses_r3 := goodIn_r _ [79, 80, 81, 82, 83, 84, 85, 86, 87, 88, 89, 29, 22, 90, 91, 92, 93, 28, 14, 94, 95, 96, 97, 16] (by decide +kernel) (by decide +kernel)
set_option maxRecDepth 20000 in
theorem ggL_law_L_refuses_r4 : GoodIn wsL_law wsL_refuses_r4 := goodIn_r _ [17, 98, 99, 100, 101, 102, 103, 104, 105, 106, 107, 108, 109, 24, 110, 111, 112, 113, 23, 114, 115, 116, 117, 118] (by decide +kernel) (by decide +kernel)
set_option maxRecDepth 20000 in
theorem ggL_law_L_refuses_r5 : GoodIn wsL_law wsL_refuses_r5 := goodIn_r _ [119, 120, 121, 122, 123, 124, 18, 19, 125, 126, 127, 128, 25, 129, 130, 131, 132, 133, 134, 135, 136, 137, 138, 139] (by decide +kernel) (by decide +kernel)
set_option maxRecDepth 20000 in
theorem ggL_law_L_refuses_r6 : GoodIn wsL_law wsL_refuses_r6 := goodIn_r _ [140, 141, 142, 143, 144, 145, 146, 147, 148, 149, 150, 151, 152, 153, 154, 155, 156, 157, 158, 159, 160, 11, 161, 162] (by decide +kernel) (by decide +kernel)
set_option maxRecDepth 20000 in
theorem ggL_law_L_refuses_r7 : GoodIn wsL_law wsL_refuses_r7 := goodIn_r _ [163, 164, 165, 166, 167, 168, 169, 170, 171, 172, 173, 174, 175, 176, 177, 178, 179, 180, 181, 182, 183, 184, 185, 186] (by decide +kernel) (by decide +kernel)
set_option maxRecDepth 20000 in
theorem ggL_law_L_refuses_r8 : GoodIn wsL_law wsL_refuses_r8 := goodIn_r _ [187, 188, 189, 190, 191, 192, 193, 26, 194, 195, 196, 197, 198, 199, 200, 201, 202, 203, 204, 205, 206, 207, 208, 209] (by decide +kernel) (by decide +kernel)
set_option maxRecDepth 20000 in
theorem ggL_law_L_refuses_r9 : GoodIn wsL_law wsL_refuses_r9 := goodIn_r _ [210, 211, 212, 213, 214, 215, 216, 217, 218, 219, 220, 221, 222, 223, 224, 225, 226, 227, 228, 229, 230, 231, 232, 233] (by decide +kernel) (by decide +kernel)
set_option maxRecDepth 20000 in
theorem ggL_law_L_refuses_r10 : GoodIn wsL_law wsL_refuses_r10 := goodIn_r _ [234, 235, 236, 237, 238, 239, 240, 241, 242, 243, 244, 245, 246, 247, 248, 249, 250, 251, 252, 253, 254, 255, 256, 257] (by decide +kernel) (by decide +kernel)
set_option maxRecDepth 20000 in
theorem ggL_law_L_refuses_r11 : GoodIn wsL_law wsL_refuses_r11 := goodIn_r _ [258, 259, 260, 261, 262, 263, 264, 265, 266, 267, 268, 269, 270, 271, 272, 273, 274, 275, 276, 277, 278, 279, 280, 281] (by decide +kernel) (by decide +kernel)
set_option maxRecDepth 20000 in
theorem ggL_law_L_refuses_r12 : GoodIn wsL_law wsL_refuses_r12 := goodIn_r _ [282, 283, 284, 285, 286, 287, 288, 289, 290, 291] (by decide +kernel) (by decide +kernel)
set_option maxRecDepth 20000 in
theorem ggL_law_L_refuses_c : GoodIn wsL_law [.code yL_refuses cL_refuses 8 (some .boolean)] := goodIn_r _ [38] rfl (by decide +kernel)
set_option maxRecDepth 20000 in
theorem ggL_law_L_refuses : GoodIn wsL_law wsL_refuses := goodIn_c ggL_law_L_refuses_c (goodIn_app (goodIn_app (goodIn_app (goodIn_app (goodIn_app ggL_law_L_refuses_r1 (goodIn_app ggL_law_L_refuses_r2 (goodIn_app ggL_law_L_refuses_r3 (goodIn_app ggL_law_L_refuses_r4 (goodIn_app ggL_law_L_refuses_r5 (goodIn_app ggL_law_L_refuses_r6 (goodIn_app ggL_law_L_refuses_r7 (goodIn_app ggL_law_L_refuses_r8 (goodIn_app ggL_law_L_refuses_r9 (goodIn_app ggL_law_L_refuses_r10 (goodIn_app ggL_law_L_refuses_r11 ggL_law_L_refuses_r12))))))))))) (goodIn_sub inlX0 (by decide +kernel))) (goodIn_sub (fun _ h => List.mem_append_left _ (List.mem_append_left _ (List.mem_append_right _ h))) (by decide +kernel))) (goodIn_sub (fun _ h => List.mem_append_left _ (List.mem_append_right _ h)) (by decide +kernel))) (goodIn_sub (fun _ h => List.mem_append_right _ h) (by decide +kernel)))
set_option maxRecDepth 20000 in
theorem gL_law_L_refuses : GoodIn wsL_law (va_wsS RL 161 yL_refuses wsL_refuses) := goodIn_app (goodIn_of _ (by decide +kernel)) ggL_law_L_refuses
set_option maxRecDepth 20000 in
theorem ggL_law_L_act_r1 : GoodIn wsL_law wsL_act_r1 := goodIn_r _ [42, 43, 44, 2, 45, 20, 50, 51, 32, 52, 53, 54, 39, 41, 55, 56, 57, 58, 59, 60, 15, 10, 12, 13] (by decide +kernel) (by decide +kernel)
set_option maxRecDepth 20000 in
theorem ggL_law_L_act_r2 : GoodIn wsL_law wsL_act_r2 := goodIn_r _ [61, 62, 63, 64, 65, 66, 67, 68, 69, 70, 71, 72, 40, 73, 74, 75, 76, 77, 78, 79, 80, 81, 82, 83] (by decide +kernel) (by decide +kernel)
set_option maxRecDepth 20000 in
theorem ggL_law_L_act_r3 : GoodIn wsL_law wsL_act_r3 := goodIn_r _ [84, 85, 86, 87, 88, 89, 29, 27, 22, 90, 91, 92, 93, 28, 14, 94, 95, 96, 97, 16, 17, 98, 99, 100] (by decide +kernel) (by decide +kernel)
set_option maxRecDepth 20000 in
theorem ggL_law_L_act_r4 : GoodIn wsL_law wsL_act_r4 := goodIn_r _ [101, 102, 103, 104, 105, 106, 107, 108, 109, 24, 110, 111, 112, 113, 23, 114, 115, 116, 117, 118, 119, 120, 121, 122] (by decide +kernel) (by decide +kernel)
set_option maxRecDepth 20000 in
theorem ggL_law_L_act_r5 : GoodIn wsL_law wsL_act_r5 := goodIn_r _ [123, 124, 18, 19, 125, 126, 127, 128, 25, 129, 130, 131, 132, 133, 134, 135, 136, 137, 138, 139, 140, 141, 142, 143] (by decide +kernel) (by decide +kernel)
set_option maxRecDepth 20000 in
theorem ggL_law_L_act_r6 : GoodIn wsL_law wsL_act_r6 := goodIn_r _ [144, 145, 146, 147, 148, 149, 150, 151, 152, 153, 154, 155, 156, 157, 158, 159, 160, 11, 161, 162, 163, 164, 165, 166] (by decide +kernel) (by decide +kernel)
set_option maxRecDepth 20000 in
theorem ggL_law_L_act_r7 : GoodIn wsL_law wsL_act_r7 := goodIn_r _ [167, 168, 169, 170, 171, 269, 270, 271, 272, 273, 274, 275, 179, 180, 181, 182, 183, 184, 185, 186, 187, 188, 189, 190] (by decide +kernel) (by decide +kernel)
set_option maxRecDepth 20000 in
theorem ggL_law_L_act_r8 : GoodIn wsL_law wsL_act_r8 := goodIn_r _ [191, 192, 193, 26, 194, 195, 196, 197, 198, 199, 200, 201, 202, 203, 204, 205, 206, 207, 208, 209, 210, 211, 212, 213] (by decide +kernel) (by decide +kernel)
set_option maxRecDepth 20000 in
theorem ggL_law_L_act_r9 : GoodIn wsL_law wsL_act_r9 := goodIn_r _ [214, 215, 46, 47, 48, 49, 216, 217, 218, 219, 220, 221, 222, 223, 224, 225, 226, 276, 277, 278, 279, 280, 281, 282] (by decide +kernel) (by decide +kernel)
set_option maxRecDepth 20000 in
theorem ggL_law_L_act_r10 : GoodIn wsL_law wsL_act_r10 := goodIn_r _ [283, 284, 285, 286, 287, 288, 289, 290, 291] (by decide +kernel) (by decide +kernel)
set_option maxRecDepth 20000 in
theorem ggL_law_L_act_c : GoodIn wsL_law [.code yL_act cL_act 9 (some .int)] := goodIn_r _ [294] rfl (by decide +kernel)
set_option maxRecDepth 20000 in
theorem ggL_law_L_act : GoodIn wsL_law wsL_act := goodIn_c ggL_law_L_act_c (goodIn_app (goodIn_app (goodIn_app (goodIn_app (goodIn_app ggL_law_L_act_r1 (goodIn_app ggL_law_L_act_r2 (goodIn_app ggL_law_L_act_r3 (goodIn_app ggL_law_L_act_r4 (goodIn_app ggL_law_L_act_r5 (goodIn_app ggL_law_L_act_r6 (goodIn_app ggL_law_L_act_r7 (goodIn_app ggL_law_L_act_r8 (goodIn_app ggL_law_L_act_r9 ggL_law_L_act_r10))))))))) (goodIn_sub inlX0 (by decide +kernel))) (goodIn_sub (fun _ h => List.mem_append_left _ (List.mem_append_left _ (List.mem_append_right _ h))) (by decide +kernel))) (goodIn_sub (fun _ h => List.mem_append_left _ (List.mem_append_right _ h)) (by decide +kernel))) (goodIn_sub (fun _ h => List.mem_append_right _ h) (by decide +kernel)))
set_option maxRecDepth 20000 in
theorem gL_law_L_act : GoodIn wsL_law (va_wsS RL 165 yL_act wsL_act) := goodIn_app (goodIn_of _ (by decide +kernel)) ggL_law_L_act
set_option maxRecDepth 20000 in
theorem ggL_law_L_alike_r1 : GoodIn wsL_law wsL_alike_r1 := goodIn_r _ [298, 299, 300, 2, 301, 28, 42, 43, 44, 45, 20, 46, 47, 48, 49, 27, 302, 303, 304, 305, 29, 255, 256, 32] (by decide +kernel) (by decide +kernel)
set_option maxRecDepth 20000 in
theorem ggL_law_L_alike_r2 : GoodIn wsL_law wsL_alike_r2 := goodIn_r _ [257, 72, 40, 258, 259, 260, 261, 25, 77, 78, 79, 80, 81, 82, 118, 119, 120, 66, 67, 68, 110, 111, 112, 113] (by decide +kernel) (by decide +kernel)
set_option maxRecDepth 20000 in
theorem ggL_law_L_alike_r3 : GoodIn wsL_law wsL_alike_r3 := goodIn_r _ [23, 262, 263, 264, 265, 266, 267, 268, 168, 169, 170, 171, 106, 107, 108, 109, 24, 269, 270, 271, 272, 273, 274, 275] (by decide +kernel) (by decide +kernel)
set_option maxRecDepth 20000 in
theorem ggL_law_L_alike_r4 : GoodIn wsL_law wsL_alike_r4 := goodIn_r _ [121, 122, 123, 124, 18, 19, 172, 173, 174, 175, 176, 177, 178, 94, 95, 96, 97, 16, 17, 98, 99, 100, 101, 15] (by decide +kernel) (by decide +kernel)
set_option maxRecDepth 20000 in
theorem ggL_law_L_alike_r5 : GoodIn wsL_law wsL_alike_r5 := goodIn_r _ [102, 103, 104, 105, 227, 228, 229, 230, 231, 232, 233, 223, 224, 225, 226, 234, 235, 236, 237, 238, 239, 240, 241, 242] (by decide +kernel) (by decide +kernel)
set_option maxRecDepth 20000 in
theorem ggL_law_L_alike_r6 : GoodIn wsL_law wsL_alike_r6 := goodIn_r _ [243, 244, 245, 246, 247] (by decide +kernel) (by decide +kernel)
set_option maxRecDepth 20000 in
theorem ggL_law_L_alike_c : GoodIn wsL_law [.code yL_alike cL_alike 4 (some .boolean)] := goodIn_r _ [297] rfl (by decide +kernel)
set_option maxRecDepth 20000 in
theorem ggL_law_L_alike : GoodIn wsL_law wsL_alike := goodIn_c ggL_law_L_alike_c (goodIn_app (goodIn_app (goodIn_app ggL_law_L_alike_r1 (goodIn_app ggL_law_L_alike_r2 (goodIn_app ggL_law_L_alike_r3 (goodIn_app ggL_law_L_alike_r4 (goodIn_app ggL_law_L_alike_r5 ggL_law_L_alike_r6))))) (goodIn_sub inlX0 (by decide +kernel))) (goodIn_sub (fun _ h => List.mem_append_right _ h) (by decide +kernel)))
set_option maxRecDepth 20000 in
theorem gL_law_L_alike : GoodIn wsL_law (va_wsS RL 168 yL_alike wsL_alike) := goodIn_app (goodIn_of _ (by decide +kernel)) ggL_law_L_alike
set_option maxRecDepth 20000 in
theorem ggL_law_L_holds_r1 : GoodIn wsL_law wsL_holds_r1 := goodIn_r _ [46, 47, 48, 2, 49, 27, 227, 228, 32, 229, 72, 40, 230, 231, 232, 233, 223, 224, 225, 226, 81, 82, 110, 111] (by decide +kernel) (by decide +kernel)
set_option maxRecDepth 20000 in
theorem ggL_law_L_holds_r2 : GoodIn wsL_law wsL_holds_r2 := goodIn_r _ [112, 113, 28, 23, 234, 235, 236, 237, 238, 239, 240, 106, 107, 108, 109, 24, 309, 310, 311, 241, 242, 243, 244, 245] (by decide +kernel) (by decide +kernel)
set_option maxRecDepth 20000 in
theorem ggL_law_L_holds_r3 : GoodIn wsL_law wsL_holds_r3 := goodIn_r _ [246, 247, 25, 42, 43, 44, 45, 20, 262, 263, 264, 265, 266, 267, 268, 77, 78, 79, 80, 168, 169, 170, 171, 118] (by decide +kernel) (by decide +kernel)
set_option maxRecDepth 20000 in
theorem ggL_law_L_holds_r4 : GoodIn wsL_law wsL_holds_r4 := goodIn_r _ [119, 120, 66, 67, 68, 255, 256, 257, 258, 259, 260, 261, 269, 270, 271, 272, 273, 274, 275, 121, 122, 123, 124, 18] (by decide +kernel) (by decide +kernel)
set_option maxRecDepth 20000 in
theorem ggL_law_L_holds_r5 : GoodIn wsL_law wsL_holds_r5 := goodIn_r _ [19, 248, 249, 250, 53, 39, 251, 252, 253, 254, 26, 61, 62, 63, 64, 65, 194, 195, 196, 302, 303, 304, 305, 29] (by decide +kernel) (by decide +kernel)
set_option maxRecDepth 20000 in
theorem ggL_law_L_holds_c : GoodIn wsL_law [.code yL_holds cL_holds 9 (some .boolean)] := goodIn_r _ [308] rfl (by decide +kernel)
set_option maxRecDepth 20000 in
theorem ggL_law_L_holds : GoodIn wsL_law wsL_holds := goodIn_c ggL_law_L_holds_c (goodIn_app (goodIn_app (goodIn_app (goodIn_app ggL_law_L_holds_r1 (goodIn_app ggL_law_L_holds_r2 (goodIn_app ggL_law_L_holds_r3 (goodIn_app ggL_law_L_holds_r4 ggL_law_L_holds_r5)))) (goodIn_sub inlX0 (by decide +kernel))) (goodIn_sub (fun _ h => List.mem_append_right _ h) (by decide +kernel))) (goodIn_sub (fun _ h => List.mem_append_left _ (List.mem_append_right _ h)) (by decide +kernel)))
set_option maxRecDepth 20000 in
theorem gL_law_L_holds : GoodIn wsL_law (va_wsS RL 172 yL_holds wsL_holds) := goodIn_app (goodIn_of _ (by decide +kernel)) ggL_law_L_holds
set_option maxRecDepth 20000 in
theorem ggL_law_L_wakes_r1 : GoodIn wsL_law wsL_wakes_r1 := goodIn_r _ [42, 43, 44, 2, 45, 20, 262, 263, 32, 264, 72, 40, 265, 266, 267, 268, 77, 78, 79, 80, 81, 82, 168, 169] (by decide +kernel) (by decide +kernel)
set_option maxRecDepth 20000 in
theorem ggL_law_L_wakes_r2 : GoodIn wsL_law wsL_wakes_r2 := goodIn_r _ [170, 171, 27, 106, 107, 108, 109, 24, 110, 111, 112, 113, 28, 23, 118, 119, 120, 66, 67, 68, 255, 256, 257, 258] (by decide +kernel) (by decide +kernel)
set_option maxRecDepth 20000 in
theorem ggL_law_L_wakes_r3 : GoodIn wsL_law wsL_wakes_r3 := goodIn_r _ [259, 260, 261, 25, 140, 141, 142, 143, 144, 145, 146, 14, 83, 84, 85, 86, 87, 88, 89, 29, 22, 90, 91, 92] (by decide +kernel) (by decide +kernel)
set_option maxRecDepth 20000 in
theorem ggL_law_L_wakes_r4 : GoodIn wsL_law wsL_wakes_r4 := goodIn_r _ [93, 13, 94, 95, 96, 97, 16, 17, 98, 99, 100, 101, 15, 102, 103, 104, 105, 114, 115, 116, 117, 121, 122, 123] (by decide +kernel) (by decide +kernel)
set_option maxRecDepth 20000 in
theorem ggL_law_L_wakes_r5 : GoodIn wsL_law wsL_wakes_r5 := goodIn_r _ [124, 18, 19, 125, 126, 127, 128, 129, 130, 131, 132, 133, 134, 135, 136, 137, 138, 139, 147, 148, 149, 53, 39, 150] (by decide +kernel) (by decide +kernel)
set_option maxRecDepth 20000 in
theorem ggL_law_L_wakes_r6 : GoodIn wsL_law wsL_wakes_r6 := goodIn_r _ [151, 152, 153, 61, 62, 63, 64, 65, 69, 70, 71, 73, 74, 75, 76, 46, 47, 48, 49, 302, 303, 304, 305, 179] (by decide +kernel) (by decide +kernel)
set_option maxRecDepth 20000 in
theorem ggL_law_L_wakes_r7 : GoodIn wsL_law wsL_wakes_r7 := goodIn_r _ [180, 181, 54, 41, 182, 183, 184, 185, 10, 186, 187, 188, 189, 59, 60, 190, 191, 192, 193, 26, 194, 195, 196, 197] (by decide +kernel) (by decide +kernel)
set_option maxRecDepth 20000 in
theorem ggL_law_L_wakes_r8 : GoodIn wsL_law wsL_wakes_r8 := goodIn_r _ [198, 199, 200, 201, 202, 203, 204, 12, 234, 235, 236, 237, 238, 239, 240, 223, 224, 225, 226, 241, 242, 243, 244, 245] (by decide +kernel) (by decide +kernel)
set_option maxRecDepth 20000 in
theorem ggL_law_L_wakes_r9 : GoodIn wsL_law wsL_wakes_r9 := goodIn_r _ [246, 247, 309, 310, 311, 276, 277, 278, 279, 280, 281, 282, 283, 284, 285, 286, 287, 288, 289, 290, 291] (by decide +kernel) (by decide +kernel)
set_option maxRecDepth 20000 in
theorem ggL_law_L_wakes_c : GoodIn wsL_law [.code yL_wakes cL_wakes 8 (some .boolean)] := goodIn_r _ [314] rfl (by decide +kernel)
set_option maxRecDepth 20000 in
theorem ggL_law_L_wakes : GoodIn wsL_law wsL_wakes := goodIn_c ggL_law_L_wakes_c (goodIn_app (goodIn_app (goodIn_app (goodIn_app (goodIn_app ggL_law_L_wakes_r1 (goodIn_app ggL_law_L_wakes_r2 (goodIn_app ggL_law_L_wakes_r3 (goodIn_app ggL_law_L_wakes_r4 (goodIn_app ggL_law_L_wakes_r5 (goodIn_app ggL_law_L_wakes_r6 (goodIn_app ggL_law_L_wakes_r7 (goodIn_app ggL_law_L_wakes_r8 ggL_law_L_wakes_r9)))))))) (goodIn_sub inlX0 (by decide +kernel))) (goodIn_sub (fun _ h => List.mem_append_right _ h) (by decide +kernel))) (goodIn_sub (fun _ h => List.mem_append_left _ (List.mem_append_right _ h)) (by decide +kernel))) (goodIn_sub (fun _ h => List.mem_append_left _ (List.mem_append_left _ (List.mem_append_right _ h))) (by decide +kernel)))
set_option maxRecDepth 20000 in
theorem gL_law_L_wakes : GoodIn wsL_law (va_wsS RL 176 yL_wakes wsL_wakes) := goodIn_app (goodIn_of _ (by decide +kernel)) ggL_law_L_wakes
end
section
theorem dL_law_0 : decode cL_law 0 = .ok (.new 8, 3) := by decide +kernel
theorem dL_law_3 : decode cL_law 3 = .ok (.dup, 1) := by decide +kernel
theorem dL_law_4 : decode cL_law 4 = .ok (.invokespecial 156, 3) := by decide +kernel
theorem dL_law_7 : decode cL_law 7 = .ok (.astore_n 1, 1) := by decide +kernel
theorem dL_law_8 : decode cL_law 8 = .ok (.new 8, 3) := by decide +kernel
theorem dL_law_11 : decode cL_law 11 = .ok (.dup, 1) := by decide +kernel
theorem dL_law_12 : decode cL_law 12 = .ok (.invokespecial 156, 3) := by decide +kernel
theorem dL_law_15 : decode cL_law 15 = .ok (.astore_n 2, 1) := by decide +kernel
theorem dL_law_16 : decode cL_law 16 = .ok (.bipush 12, 2) := by decide +kernel
theorem dL_law_18 : decode cL_law 18 = .ok (.aload_n 0, 1) := by decide +kernel
theorem dL_law_19 : decode cL_law 19 = .ok (.iconst 0, 1) := by decide +kernel
theorem dL_law_20 : decode cL_law 20 = .ok (.invokestatic 157, 3) := by decide +kernel
theorem dL_law_23 : decode cL_law 23 = .ok (.bipush 29, 2) := by decide +kernel
theorem dL_law_25 : decode cL_law 25 = .ok (.irem, 1) := by decide +kernel
theorem dL_law_26 : decode cL_law 26 = .ok (.iadd, 1) := by decide +kernel
theorem dL_law_27 : decode cL_law 27 = .ok (.istore_n 3, 1) := by decide +kernel
theorem dL_law_28 : decode cL_law 28 = .ok (.iconst 1, 1) := by decide +kernel
theorem dL_law_29 : decode cL_law 29 = .ok (.istore 4, 2) := by decide +kernel
theorem dL_law_31 : decode cL_law 31 = .ok (.iconst 0, 1) := by decide +kernel
theorem dL_law_32 : decode cL_law 32 = .ok (.istore 5, 2) := by decide +kernel
theorem dL_law_34 : decode cL_law 34 = .ok (.iload 5, 2) := by decide +kernel
theorem dL_law_36 : decode cL_law 36 = .ok (.iload_n 3, 1) := by decide +kernel
theorem dL_law_37 : decode cL_law 37 = .ok (.if_icmp .ge 117, 3) := by decide +kernel
theorem dL_law_40 : decode cL_law 40 = .ok (.iload 4, 2) := by decide +kernel
theorem dL_law_42 : decode cL_law 42 = .ok (.ifCond .eq 112, 3) := by decide +kernel
theorem dL_law_45 : decode cL_law 45 = .ok (.aload_n 0, 1) := by decide +kernel
theorem dL_law_46 : decode cL_law 46 = .ok (.iconst 1, 1) := by decide +kernel
theorem dL_law_47 : decode cL_law 47 = .ok (.iload 5, 2) := by decide +kernel
theorem dL_law_49 : decode cL_law 49 = .ok (.iadd, 1) := by decide +kernel
theorem dL_law_50 : decode cL_law 50 = .ok (.invokestatic 157, 3) := by decide +kernel
theorem dL_law_53 : decode cL_law 53 = .ok (.istore 6, 2) := by decide +kernel
theorem dL_law_55 : decode cL_law 55 = .ok (.iload 5, 2) := by decide +kernel
theorem dL_law_57 : decode cL_law 57 = .ok (.iconst 2, 1) := by decide +kernel
theorem dL_law_58 : decode cL_law 58 = .ok (.if_icmp .ge 14, 3) := by decide +kernel
theorem dL_law_61 : decode cL_law 61 = .ok (.iload 6, 2) := by decide +kernel
theorem dL_law_63 : decode cL_law 63 = .ok (.bipush 16, 2) := by decide +kernel
theorem dL_law_65 : decode cL_law 65 = .ok (.idiv, 1) := by decide +kernel
theorem dL_law_66 : decode cL_law 66 = .ok (.bipush 16, 2) := by decide +kernel
theorem dL_law_68 : decode cL_law 68 = .ok (.imul, 1) := by decide +kernel
theorem dL_law_69 : decode cL_law 69 = .ok (.goto 5, 3) := by decide +kernel
theorem dL_law_72 : decode cL_law 72 = .ok (.iload 6, 2) := by decide +kernel
theorem dL_law_74 : decode cL_law 74 = .ok (.istore 6, 2) := by decide +kernel
theorem dL_law_76 : decode cL_law 76 = .ok (.aload_n 2, 1) := by decide +kernel
theorem dL_law_77 : decode cL_law 77 = .ok (.iload 6, 2) := by decide +kernel
theorem dL_law_79 : decode cL_law 79 = .ok (.sipush 9973, 3) := by decide +kernel
theorem dL_law_82 : decode cL_law 82 = .ok (.irem, 1) := by decide +kernel
theorem dL_law_83 : decode cL_law 83 = .ok (.invokestatic 161, 3) := by decide +kernel
theorem dL_law_86 : decode cL_law 86 = .ok (.ifCond .eq 59, 3) := by decide +kernel
theorem dL_law_89 : decode cL_law 89 = .ok (.aload_n 1, 1) := by decide +kernel
theorem dL_law_90 : decode cL_law 90 = .ok (.iload 6, 2) := by decide +kernel
theorem dL_law_92 : decode cL_law 92 = .ok (.iconst 0, 1) := by decide +kernel
theorem dL_law_93 : decode cL_law 93 = .ok (.invokestatic 165, 3) := by decide +kernel
theorem dL_law_96 : decode cL_law 96 = .ok (.aload_n 2, 1) := by decide +kernel
theorem dL_law_97 : decode cL_law 97 = .ok (.iload 6, 2) := by decide +kernel
theorem dL_law_99 : decode cL_law 99 = .ok (.iconst 1, 1) := by decide +kernel
theorem dL_law_100 : decode cL_law 100 = .ok (.invokestatic 165, 3) := by decide +kernel
theorem dL_law_103 : decode cL_law 103 = .ok (.if_icmp .ne 42, 3) := by decide +kernel
theorem dL_law_106 : decode cL_law 106 = .ok (.aload_n 2, 1) := by decide +kernel
theorem dL_law_107 : decode cL_law 107 = .ok (.iload 6, 2) := by decide +kernel
theorem dL_law_109 : decode cL_law 109 = .ok (.sipush 499, 3) := by decide +kernel
theorem dL_law_112 : decode cL_law 112 = .ok (.irem, 1) := by decide +kernel
theorem dL_law_113 : decode cL_law 113 = .ok (.invokestatic 161, 3) := by decide +kernel
theorem dL_law_116 : decode cL_law 116 = .ok (.ifCond .eq 29, 3) := by decide +kernel
theorem dL_law_119 : decode cL_law 119 = .ok (.aload_n 1, 1) := by decide +kernel
theorem dL_law_120 : decode cL_law 120 = .ok (.aload_n 2, 1) := by decide +kernel
theorem dL_law_121 : decode cL_law 121 = .ok (.invokestatic 168, 3) := by decide +kernel
theorem dL_law_124 : decode cL_law 124 = .ok (.ifCond .eq 21, 3) := by decide +kernel
theorem dL_law_127 : decode cL_law 127 = .ok (.iload 5, 2) := by decide +kernel
theorem dL_law_129 : decode cL_law 129 = .ok (.iconst 4, 1) := by decide +kernel
theorem dL_law_130 : decode cL_law 130 = .ok (.irem, 1) := by decide +kernel
theorem dL_law_131 : decode cL_law 131 = .ok (.ifCond .gt 10, 3) := by decide +kernel
theorem dL_law_134 : decode cL_law 134 = .ok (.aload_n 2, 1) := by decide +kernel
theorem dL_law_135 : decode cL_law 135 = .ok (.invokestatic 172, 3) := by decide +kernel
theorem dL_law_138 : decode cL_law 138 = .ok (.ifCond .eq 7, 3) := by decide +kernel
theorem dL_law_141 : decode cL_law 141 = .ok (.iconst 1, 1) := by decide +kernel
theorem dL_law_142 : decode cL_law 142 = .ok (.goto 4, 3) := by decide +kernel
theorem dL_law_145 : decode cL_law 145 = .ok (.iconst 0, 1) := by decide +kernel
theorem dL_law_146 : decode cL_law 146 = .ok (.istore 4, 2) := by decide +kernel
theorem dL_law_148 : decode cL_law 148 = .ok (.iinc 5 1, 3) := by decide +kernel
theorem dL_law_151 : decode cL_law 151 = .ok (.goto (-117), 3) := by decide +kernel
theorem dL_law_154 : decode cL_law 154 = .ok (.iload 4, 2) := by decide +kernel
theorem dL_law_156 : decode cL_law 156 = .ok (.ifCond .eq 28, 3) := by decide +kernel
theorem dL_law_159 : decode cL_law 159 = .ok (.aload_n 1, 1) := by decide +kernel
theorem dL_law_160 : decode cL_law 160 = .ok (.invokestatic 172, 3) := by decide +kernel
theorem dL_law_163 : decode cL_law 163 = .ok (.ifCond .eq 21, 3) := by decide +kernel
theorem dL_law_166 : decode cL_law 166 = .ok (.aload_n 1, 1) := by decide +kernel
theorem dL_law_167 : decode cL_law 167 = .ok (.invokestatic 176, 3) := by decide +kernel
theorem dL_law_170 : decode cL_law 170 = .ok (.ifCond .eq 14, 3) := by decide +kernel
theorem dL_law_173 : decode cL_law 173 = .ok (.aload_n 1, 1) := by decide +kernel
theorem dL_law_174 : decode cL_law 174 = .ok (.invokestatic 172, 3) := by decide +kernel
theorem dL_law_177 : decode cL_law 177 = .ok (.ifCond .eq 7, 3) := by decide +kernel
theorem dL_law_180 : decode cL_law 180 = .ok (.iconst 1, 1) := by decide +kernel
theorem dL_law_181 : decode cL_law 181 = .ok (.goto 4, 3) := by decide +kernel
theorem dL_law_184 : decode cL_law 184 = .ok (.iconst 0, 1) := by decide +kernel
theorem dL_law_185 : decode cL_law 185 = .ok (.ireturn, 1) := by decide +kernel
abbrev vwCl : List vw_C := [(RX0, TX0, 19)]
end
section
/-- a heap with k cells more: how many a walk has made at the least -/
def zx (H : Heap) (k : Nat) : Heap := H ++ Array.replicate k default
theorem zx_size (H : Heap) (k : Nat) : (zx H k).size = H.size + k := by unfold zx; simp
theorem zx_get {H : Heap} {k q : Nat} (h : q < H.size) : (zx H k)[q]? = H[q]? := by unfold zx; exact Array.getElem?_append_left h
theorem zx_S {A : Nat → Prop} {H0 H : Heap} {locs : List Loc} {k : Nat} (h : va_S A (zx H0 k) H locs) : va_S A H0 H locs := by
  have e := zx_size H0 k
  exact ⟨by have := h.1; omega, fun q h1 h2 => (h.2.1 q (by omega) h2).trans (zx_get h1), h.2.2⟩
theorem zx_le {A : Nat → Prop} {H0 H : Heap} {locs : List Loc} {k : Nat} (h : va_S A (zx H0 k) H locs) : H0.size + k ≤ H.size := by
  have e := zx_size H0 k
  have := h.1
  omega
theorem zx_to {A : Nat → Prop} {H0 H : Heap} {locs : List Loc} {k : Nat} (h : va_S A H0 H locs) (hs : H0.size + k ≤ H.size) (hA : ∀ q, H0.size ≤ q → A q) : va_S A (zx H0 k) H locs := by
  refine ⟨by rw [zx_size]; exact hs, fun q h1 h2 => ?_, h.2.2⟩
  rcases Nat.lt_or_ge q H0.size with z | z
  · rw [zx_get z]; exact h.2.1 q z h2
  · exact absurd (hA q z) h2
theorem zx_up {A : Nat → Prop} {H0 H H1 : Heap} {locs locs1 : List Loc} {k j : Nat} (h : va_S A (zx H0 k) H locs) (h1 : va_S A (zx H0 k) H1 locs1) (hs : H.size + j ≤ H1.size) (hA : ∀ q, H0.size ≤ q → A q) : va_S A (zx H0 (k + j)) H1 locs1 := zx_to (zx_S h1) (by have := zx_le h; omega) hA
theorem zx_rf {A : Nat → Prop} {H0 : Heap} (hA : ∀ q, H0.size ≤ q → A q) : va_S A (zx H0 0) H0 [] := zx_to va_S.rf (Nat.le_refl _) hA
/-- the fixed surroundings of a walk -/
abbrev ZE : Type := Program × Launch × Env × State × MethodId × Array Value × List Frame × Method × Code × (Nat → Prop) × (State → Prop)
/-- in the world w, at pc with the locals L and the stack st, the walk comes to its end -/
def ZW (E : ZE) (G : State → (Nat → Prop) → Prop) (R : Room) (cc : ByteArray) (own : String) (Ts : List Cond) (n : Nat) (D : va_G) (tys : List (ClassId × FieldType)) (cells slots : Nat) (w : va_W) (pc : Nat) (L : List (Nat × Value)) (st : List Value) : Prop :=
  match E with
  | (p, l, e, s, m, args, below, meth, c, A, Q) => p.tables.exec = Jvm.exec → c.code = cc → c.maxLocals = n → s.vm.findClass own = some m.cls → (∀ w ∈ Ts, w.before args s = true) → (∀ q, s.heap.size ≤ q → A q) → G s A → va_K D vwCl tys s →
    ∀ (H : Heap) (locs : List Loc) (ls : Array Slot), va_P D vwCl w H → va_D A w → va_S A (zx s.heap cells) H locs → lv_has ls n L → W p l e R s m args below meth c H locs cells slots Q (F0 m pc ls st)
/-- an exception of a class E' with px E', raised at pc, is brought to its end -/
def ZX (E : ZE) (G : State → (Nat → Prop) → Prop) (R : Room) (cc : ByteArray) (own : String) (Ts : List Cond) (n : Nat) (D : va_G) (tys : List (ClassId × FieldType)) (cells slots : Nat) (w : va_W) (pc : Nat) (L : List (Nat × Value)) (px : String → Prop) : Prop :=
  match E with
  | (p, l, e, s, m, args, below, meth, c, A, Q) => p.tables.exec = Jvm.exec → c.code = cc → c.maxLocals = n → s.vm.findClass own = some m.cls → (∀ w ∈ Ts, w.before args s = true) → (∀ q, s.heap.size ≤ q → A q) → G s A → va_K D vwCl tys s →
    ∀ (H : Heap) (locs : List Loc) (ls : Array Slot), va_P D vwCl w H → va_D A w → va_S A (zx s.heap cells) H locs → lv_has ls n L →
      ∀ (E' : String) (ce : Cell) (q9 : Addr) (rest : List Value), px E' → H[q9]? = some ce → ce.vm = .none → s.vm.findClass E' = some ce.cls → vx_W p l e R s m args below meth c H locs cells slots Q (F0 m pc ls rest) q9
def z_set (i : Nat) (v : Value) (L : List (Nat × Value)) : List (Nat × Value) := (i, v) :: L.filter (fun q => !(q.1 == i) && !(q.1 + 1 == i && q.2.category == 2))
section ZRows
variable {E : ZE} {G : State → (Nat → Prop) → Prop} {R : Room} {cc : ByteArray} {own : String} {Ts : List Cond} {n : Nat} {D : va_G} {tys : List (ClassId × FieldType)} {cells slots : Nat} {w : va_W} {pc : Nat} {L : List (Nat × Value)} {st : List Value}
theorem z_iconst {k : Int} {v : Int32} (d : decode cc pc = .ok (.iconst k, 1)) (hv : Int32.ofInt k = v) (kk : ZW E G R cc own Ts n D tys cells slots w (pc + 1) L (.int v :: st)) : ZW E G R cc own Ts n D tys cells slots w (pc) L (st) := by
  obtain ⟨p, l, e, s, m, args, below, meth, c, A, Q⟩ := E
  intro hx hb hml hown hts hA hG hK H locs ls hP hD hS hl
  exact lv_iconst hx hb d hv (kk hx hb hml hown hts hA hG hK H locs ls hP hD hS hl)
theorem z_bipush {k : Int} {v : Int32} (d : decode cc pc = .ok (.bipush k, 2)) (hv : (Int8.ofInt k).toInt32 = v) (kk : ZW E G R cc own Ts n D tys cells slots w (pc + 2) L (.int v :: st)) : ZW E G R cc own Ts n D tys cells slots w (pc) L (st) := by
  obtain ⟨p, l, e, s, m, args, below, meth, c, A, Q⟩ := E
  intro hx hb hml hown hts hA hG hK H locs ls hP hD hS hl
  exact lv_bipush hx hb d hv (kk hx hb hml hown hts hA hG hK H locs ls hP hD hS hl)
theorem z_sipush {k : Int} {v : Int32} (d : decode cc pc = .ok (.sipush k, 3)) (hv : (Int16.ofInt k).toInt32 = v) (kk : ZW E G R cc own Ts n D tys cells slots w (pc + 3) L (.int v :: st)) : ZW E G R cc own Ts n D tys cells slots w (pc) L (st) := by
  obtain ⟨p, l, e, s, m, args, below, meth, c, A, Q⟩ := E
  intro hx hb hml hown hts hA hG hK H locs ls hP hD hS hl
  exact lv_sipush hx hb d hv (kk hx hb hml hown hts hA hG hK H locs ls hP hD hS hl)
theorem z_lconst {k : Fin 2} {v : Int64} (d : decode cc pc = .ok (.lconst k, 1)) (hv : Int64.ofNat (k : Nat) = v) (kk : ZW E G R cc own Ts n D tys cells slots w (pc + 1) L (.long v :: st)) : ZW E G R cc own Ts n D tys cells slots w (pc) L (st) := by
  obtain ⟨p, l, e, s, m, args, below, meth, c, A, Q⟩ := E
  intro hx hb hml hown hts hA hG hK H locs ls hP hD hS hl
  exact lv_lconst hx hb d hv (kk hx hb hml hown hts hA hG hK H locs ls hP hD hS hl)
theorem z_ldcw {index : Nat} {v : Int32} (hc : Cond.constant own index v ∈ Ts) (d : decode cc pc = .ok (.ldc_w index, 3)) (kk : ZW E G R cc own Ts n D tys cells slots w (pc + 3) L (.int v :: st)) : ZW E G R cc own Ts n D tys cells slots w (pc) L (st) := by
  obtain ⟨p, l, e, s, m, args, below, meth, c, A, Q⟩ := E
  intro hx hb hml hown hts hA hG hK H locs ls hP hD hS hl
  exact lv_ldcw hx hb hown (hts _ hc) d (kk hx hb hml hown hts hA hG hK H locs ls hP hD hS hl)
theorem z_ldc {index : Nat} {v : Int32} (hc : Cond.constant own index v ∈ Ts) (d : decode cc pc = .ok (.ldc index, 2)) (kk : ZW E G R cc own Ts n D tys cells slots w (pc + 2) L (.int v :: st)) : ZW E G R cc own Ts n D tys cells slots w (pc) L (st) := by
  obtain ⟨p, l, e, s, m, args, below, meth, c, A, Q⟩ := E
  intro hx hb hml hown hts hA hG hK H locs ls hP hD hS hl
  exact lv_ldc hx hb hown (hts _ hc) d (kk hx hb hml hown hts hA hG hK H locs ls hP hD hS hl)
theorem z_iload_n {k : Fin 4} {x : Int32} (j : Nat) (d : decode cc pc = .ok (.iload_n k, 1)) (hj : L[j]? = some ((k : Nat), .int x)) (kk : ZW E G R cc own Ts n D tys cells slots w (pc + 1) L (.int x :: st)) : ZW E G R cc own Ts n D tys cells slots w (pc) L (st) := by
  obtain ⟨p, l, e, s, m, args, below, meth, c, A, Q⟩ := E
  intro hx hb hml hown hts hA hG hK H locs ls hP hD hS hl
  exact lv_iload_n hx hb d rfl (lv_at hl j hj) (kk hx hb hml hown hts hA hG hK H locs ls hP hD hS hl)
theorem z_iload {i : Nat} {x : Int32} (j : Nat) (d : decode cc pc = .ok (.iload i, 2)) (hj : L[j]? = some (i, .int x)) (kk : ZW E G R cc own Ts n D tys cells slots w (pc + 2) L (.int x :: st)) : ZW E G R cc own Ts n D tys cells slots w (pc) L (st) := by
  obtain ⟨p, l, e, s, m, args, below, meth, c, A, Q⟩ := E
  intro hx hb hml hown hts hA hG hK H locs ls hP hD hS hl
  exact lv_iload hx hb d (lv_at hl j hj) (kk hx hb hml hown hts hA hG hK H locs ls hP hD hS hl)
theorem z_aload_n {k : Fin 4} {x : Nat} (j : Nat) (d : decode cc pc = .ok (.aload_n k, 1)) (hj : L[j]? = some ((k : Nat), .ref x)) (kk : ZW E G R cc own Ts n D tys cells slots w (pc + 1) L (.ref x :: st)) : ZW E G R cc own Ts n D tys cells slots w (pc) L (st) := by
  obtain ⟨p, l, e, s, m, args, below, meth, c, A, Q⟩ := E
  intro hx hb hml hown hts hA hG hK H locs ls hP hD hS hl
  exact lv_aload_n hx hb d rfl (lv_at hl j hj) (kk hx hb hml hown hts hA hG hK H locs ls hP hD hS hl)
theorem z_aload {i : Nat} {x : Nat} (j : Nat) (d : decode cc pc = .ok (.aload i, 2)) (hj : L[j]? = some (i, .ref x)) (kk : ZW E G R cc own Ts n D tys cells slots w (pc + 2) L (.ref x :: st)) : ZW E G R cc own Ts n D tys cells slots w (pc) L (st) := by
  obtain ⟨p, l, e, s, m, args, below, meth, c, A, Q⟩ := E
  intro hx hb hml hown hts hA hG hK H locs ls hP hD hS hl
  exact lv_aload hx hb d (lv_at hl j hj) (kk hx hb hml hown hts hA hG hK H locs ls hP hD hS hl)
theorem z_istore_n {k : Fin 4} {x : Int32} {L' : List (Nat × Value)} (d : decode cc pc = .ok (.istore_n k, 1)) (hn : (k : Nat) < n) (hL : z_set (k : Nat) (.int x) L = L') (kk : ZW E G R cc own Ts n D tys cells slots w (pc + 1) L' (st)) : ZW E G R cc own Ts n D tys cells slots w (pc) L (.int x :: st) := by
  obtain ⟨p, l, e, s, m, args, below, meth, c, A, Q⟩ := E
  intro hx hb hml hown hts hA hG hK H locs ls hP hD hS hl
  exact lv_istore_n hx hb d rfl hl hn hL (fun ls2 hl2 => kk hx hb hml hown hts hA hG hK H locs ls2 hP hD hS hl2)
theorem z_istore {i : Nat} {x : Int32} {L' : List (Nat × Value)} (d : decode cc pc = .ok (.istore i, 2)) (hn : i < n) (hL : z_set i (.int x) L = L') (kk : ZW E G R cc own Ts n D tys cells slots w (pc + 2) L' (st)) : ZW E G R cc own Ts n D tys cells slots w (pc) L (.int x :: st) := by
  obtain ⟨p, l, e, s, m, args, below, meth, c, A, Q⟩ := E
  intro hx hb hml hown hts hA hG hK H locs ls hP hD hS hl
  exact lv_istore hx hb d hl hn hL (fun ls2 hl2 => kk hx hb hml hown hts hA hG hK H locs ls2 hP hD hS hl2)
theorem z_astore_n {k : Fin 4} {x : Nat} {L' : List (Nat × Value)} (d : decode cc pc = .ok (.astore_n k, 1)) (hn : (k : Nat) < n) (hL : z_set (k : Nat) (.ref x) L = L') (kk : ZW E G R cc own Ts n D tys cells slots w (pc + 1) L' (st)) : ZW E G R cc own Ts n D tys cells slots w (pc) L (.ref x :: st) := by
  obtain ⟨p, l, e, s, m, args, below, meth, c, A, Q⟩ := E
  intro hx hb hml hown hts hA hG hK H locs ls hP hD hS hl
  exact lv_astore_n hx hb d rfl hl hn hL (fun ls2 hl2 => kk hx hb hml hown hts hA hG hK H locs ls2 hP hD hS hl2)
theorem z_astore {i : Nat} {x : Nat} {L' : List (Nat × Value)} (d : decode cc pc = .ok (.astore i, 2)) (hn : i < n) (hL : z_set i (.ref x) L = L') (kk : ZW E G R cc own Ts n D tys cells slots w (pc + 2) L' (st)) : ZW E G R cc own Ts n D tys cells slots w (pc) L (.ref x :: st) := by
  obtain ⟨p, l, e, s, m, args, below, meth, c, A, Q⟩ := E
  intro hx hb hml hown hts hA hG hK H locs ls hP hD hS hl
  exact lv_astore hx hb d hl hn hL (fun ls2 hl2 => kk hx hb hml hown hts hA hG hK H locs ls2 hP hD hS hl2)
theorem z_iinc {i : Nat} {k : Int} {x v : Int32} {L' : List (Nat × Value)} (j : Nat) (d : decode cc pc = .ok (.iinc i k, 3)) (hj : L[j]? = some (i, .int x)) (hv : x + Int32.ofInt k = v) (hn : i < n) (hL : z_set i (.int v) L = L') (kk : ZW E G R cc own Ts n D tys cells slots w (pc + 3) L' (st)) : ZW E G R cc own Ts n D tys cells slots w (pc) L (st) := by
  obtain ⟨p, l, e, s, m, args, below, meth, c, A, Q⟩ := E
  intro hx hb hml hown hts hA hG hK H locs ls hP hD hS hl
  exact lv_iinc hx hb d hl hj hv hn hL (fun ls2 hl2 => kk hx hb hml hown hts hA hG hK H locs ls2 hP hD hS hl2)
theorem z_sub {L' : List (Nat × Value)} (ks : List Nat) (hL : lv_pick L ks = L') (kk : ZW E G R cc own Ts n D tys cells slots w (pc) L' (st)) : ZW E G R cc own Ts n D tys cells slots w (pc) L (st) := by
  obtain ⟨p, l, e, s, m, args, below, meth, c, A, Q⟩ := E
  intro hx hb hml hown hts hA hG hK H locs ls hP hD hS hl
  exact kk hx hb hml hown hts hA hG hK H locs ls hP hD hS (lv_sub hl ks hL)
theorem z_iadd {x y : Int32} (d : decode cc pc = .ok (.iadd, 1)) (kk : ZW E G R cc own Ts n D tys cells slots w (pc + 1) L (.int (x + y) :: st)) : ZW E G R cc own Ts n D tys cells slots w (pc) L (.int y :: .int x :: st) := by
  obtain ⟨p, l, e, s, m, args, below, meth, c, A, Q⟩ := E
  intro hx hb hml hown hts hA hG hK H locs ls hP hD hS hl
  exact lv_iadd hx hb d (kk hx hb hml hown hts hA hG hK H locs ls hP hD hS hl)
theorem z_isub {x y : Int32} (d : decode cc pc = .ok (.isub, 1)) (kk : ZW E G R cc own Ts n D tys cells slots w (pc + 1) L (.int (x - y) :: st)) : ZW E G R cc own Ts n D tys cells slots w (pc) L (.int y :: .int x :: st) := by
  obtain ⟨p, l, e, s, m, args, below, meth, c, A, Q⟩ := E
  intro hx hb hml hown hts hA hG hK H locs ls hP hD hS hl
  exact lv_isub hx hb d (kk hx hb hml hown hts hA hG hK H locs ls hP hD hS hl)
theorem z_imul {x y : Int32} (d : decode cc pc = .ok (.imul, 1)) (kk : ZW E G R cc own Ts n D tys cells slots w (pc + 1) L (.int (x * y) :: st)) : ZW E G R cc own Ts n D tys cells slots w (pc) L (.int y :: .int x :: st) := by
  obtain ⟨p, l, e, s, m, args, below, meth, c, A, Q⟩ := E
  intro hx hb hml hown hts hA hG hK H locs ls hP hD hS hl
  exact lv_imul hx hb d (kk hx hb hml hown hts hA hG hK H locs ls hP hD hS hl)
theorem z_iand {x y : Int32} (d : decode cc pc = .ok (.iand, 1)) (kk : ZW E G R cc own Ts n D tys cells slots w (pc + 1) L (.int (x &&& y) :: st)) : ZW E G R cc own Ts n D tys cells slots w (pc) L (.int y :: .int x :: st) := by
  obtain ⟨p, l, e, s, m, args, below, meth, c, A, Q⟩ := E
  intro hx hb hml hown hts hA hG hK H locs ls hP hD hS hl
  exact lv_iand hx hb d (kk hx hb hml hown hts hA hG hK H locs ls hP hD hS hl)
theorem z_ior {x y : Int32} (d : decode cc pc = .ok (.ior, 1)) (kk : ZW E G R cc own Ts n D tys cells slots w (pc + 1) L (.int (x ||| y) :: st)) : ZW E G R cc own Ts n D tys cells slots w (pc) L (.int y :: .int x :: st) := by
  obtain ⟨p, l, e, s, m, args, below, meth, c, A, Q⟩ := E
  intro hx hb hml hown hts hA hG hK H locs ls hP hD hS hl
  exact lv_ior hx hb d (kk hx hb hml hown hts hA hG hK H locs ls hP hD hS hl)
theorem z_ixor {x y : Int32} (d : decode cc pc = .ok (.ixor, 1)) (kk : ZW E G R cc own Ts n D tys cells slots w (pc + 1) L (.int (x ^^^ y) :: st)) : ZW E G R cc own Ts n D tys cells slots w (pc) L (.int y :: .int x :: st) := by
  obtain ⟨p, l, e, s, m, args, below, meth, c, A, Q⟩ := E
  intro hx hb hml hown hts hA hG hK H locs ls hP hD hS hl
  exact lv_ixor hx hb d (kk hx hb hml hown hts hA hG hK H locs ls hP hD hS hl)
theorem z_ishl {x y : Int32} (d : decode cc pc = .ok (.ishl, 1)) (kk : ZW E G R cc own Ts n D tys cells slots w (pc + 1) L (.int (x <<< (y &&& 31)) :: st)) : ZW E G R cc own Ts n D tys cells slots w (pc) L (.int y :: .int x :: st) := by
  obtain ⟨p, l, e, s, m, args, below, meth, c, A, Q⟩ := E
  intro hx hb hml hown hts hA hG hK H locs ls hP hD hS hl
  exact lv_ishl hx hb d (kk hx hb hml hown hts hA hG hK H locs ls hP hD hS hl)
theorem z_ishr {x y : Int32} (d : decode cc pc = .ok (.ishr, 1)) (kk : ZW E G R cc own Ts n D tys cells slots w (pc + 1) L (.int (x >>> (y &&& 31)) :: st)) : ZW E G R cc own Ts n D tys cells slots w (pc) L (.int y :: .int x :: st) := by
  obtain ⟨p, l, e, s, m, args, below, meth, c, A, Q⟩ := E
  intro hx hb hml hown hts hA hG hK H locs ls hP hD hS hl
  exact lv_ishr hx hb d (kk hx hb hml hown hts hA hG hK H locs ls hP hD hS hl)
theorem z_idiv {x y : Int32} (d : decode cc pc = .ok (.idiv, 1)) (hne : ¬ y = 0) (kk : ZW E G R cc own Ts n D tys cells slots w (pc + 1) L (.int (x / y) :: st)) : ZW E G R cc own Ts n D tys cells slots w (pc) L (.int y :: .int x :: st) := by
  obtain ⟨p, l, e, s, m, args, below, meth, c, A, Q⟩ := E
  intro hx hb hml hown hts hA hG hK H locs ls hP hD hS hl
  exact lv_idiv hx hb d hne (kk hx hb hml hown hts hA hG hK H locs ls hP hD hS hl)
theorem z_irem {x y : Int32} (d : decode cc pc = .ok (.irem, 1)) (hne : ¬ y = 0) (kk : ZW E G R cc own Ts n D tys cells slots w (pc + 1) L (.int (x - x / y * y) :: st)) : ZW E G R cc own Ts n D tys cells slots w (pc) L (.int y :: .int x :: st) := by
  obtain ⟨p, l, e, s, m, args, below, meth, c, A, Q⟩ := E
  intro hx hb hml hown hts hA hG hK H locs ls hP hD hS hl
  exact lv_irem hx hb d hne (kk hx hb hml hown hts hA hG hK H locs ls hP hD hS hl)
theorem z_iushr {x y v : Int32} (d : decode cc pc = .ok (.iushr, 1)) (hv : (x.toUInt32 >>> (y.toUInt32 &&& Int32.toUInt32 31)).toInt32 = v) (kk : ZW E G R cc own Ts n D tys cells slots w (pc + 1) L (.int v :: st)) : ZW E G R cc own Ts n D tys cells slots w (pc) L (.int y :: .int x :: st) := by
  obtain ⟨p, l, e, s, m, args, below, meth, c, A, Q⟩ := E
  intro hx hb hml hown hts hA hG hK H locs ls hP hD hS hl
  exact lv_iushr hx hb d hv (kk hx hb hml hown hts hA hG hK H locs ls hP hD hS hl)
theorem z_i2l {x : Int32} {v : Int64} (d : decode cc pc = .ok (.i2l, 1)) (hv : x.toInt64 = v) (kk : ZW E G R cc own Ts n D tys cells slots w (pc + 1) L (.long v :: st)) : ZW E G R cc own Ts n D tys cells slots w (pc) L (.int x :: st) := by
  obtain ⟨p, l, e, s, m, args, below, meth, c, A, Q⟩ := E
  intro hx hb hml hown hts hA hG hK H locs ls hP hD hS hl
  exact lv_i2l hx hb d hv (kk hx hb hml hown hts hA hG hK H locs ls hP hD hS hl)
theorem z_dup {v : Value} (d : decode cc pc = .ok (.dup, 1)) (hv : v.category = 1) (kk : ZW E G R cc own Ts n D tys cells slots w (pc + 1) L (v :: v :: st)) : ZW E G R cc own Ts n D tys cells slots w (pc) L (v :: st) := by
  obtain ⟨p, l, e, s, m, args, below, meth, c, A, Q⟩ := E
  intro hx hb hml hown hts hA hG hK H locs ls hP hD hS hl
  exact lv_dup hx hb d hv (kk hx hb hml hown hts hA hG hK H locs ls hP hD hS hl)
theorem z_dup2 {v v2 : Value} (d : decode cc pc = .ok (.dup2, 1)) (hv : v.category = 1) (hv2 : v2.category = 1) (kk : ZW E G R cc own Ts n D tys cells slots w (pc + 1) L (v :: v2 :: v :: v2 :: st)) : ZW E G R cc own Ts n D tys cells slots w (pc) L (v :: v2 :: st) := by
  obtain ⟨p, l, e, s, m, args, below, meth, c, A, Q⟩ := E
  intro hx hb hml hown hts hA hG hK H locs ls hP hD hS hl
  exact lv_dup2_11 hx hb d hv hv2 (kk hx hb hml hown hts hA hG hK H locs ls hP hD hS hl)
theorem z_pop {v : Value} (d : decode cc pc = .ok (.pop, 1)) (hv : v.category = 1) (kk : ZW E G R cc own Ts n D tys cells slots w (pc + 1) L (st)) : ZW E G R cc own Ts n D tys cells slots w (pc) L (v :: st) := by
  obtain ⟨p, l, e, s, m, args, below, meth, c, A, Q⟩ := E
  intro hx hb hml hown hts hA hG hK H locs ls hP hD hS hl
  exact lv_pop hx hb d hv (kk hx hb hml hown hts hA hG hK H locs ls hP hD hS hl)
theorem z_if_eq {x : Int32} {off : Int} (tgt : Nat) (d : decode cc pc = .ok (.ifCond .eq off, 3)) (ht : (pc : Int) + off = (tgt : Int)) (kt : x = 0 → ZW E G R cc own Ts n D tys cells slots w (tgt) L (st)) (kf : ¬ x = 0 → ZW E G R cc own Ts n D tys cells slots w (pc + 3) L (st)) : ZW E G R cc own Ts n D tys cells slots w (pc) L (.int x :: st) := by
  obtain ⟨p, l, e, s, m, args, below, meth, c, A, Q⟩ := E
  intro hx hb hml hown hts hA hG hK H locs ls hP hD hS hl
  exact lv_if_eq hx hb d ht (fun h => kt h hx hb hml hown hts hA hG hK H locs ls hP hD hS hl) (fun h => kf h hx hb hml hown hts hA hG hK H locs ls hP hD hS hl)
theorem z_if_ne {x : Int32} {off : Int} (tgt : Nat) (d : decode cc pc = .ok (.ifCond .ne off, 3)) (ht : (pc : Int) + off = (tgt : Int)) (kt : ¬ x = 0 → ZW E G R cc own Ts n D tys cells slots w (tgt) L (st)) (kf : x = 0 → ZW E G R cc own Ts n D tys cells slots w (pc + 3) L (st)) : ZW E G R cc own Ts n D tys cells slots w (pc) L (.int x :: st) := by
  obtain ⟨p, l, e, s, m, args, below, meth, c, A, Q⟩ := E
  intro hx hb hml hown hts hA hG hK H locs ls hP hD hS hl
  exact lv_if_ne hx hb d ht (fun h => kt h hx hb hml hown hts hA hG hK H locs ls hP hD hS hl) (fun h => kf h hx hb hml hown hts hA hG hK H locs ls hP hD hS hl)
theorem z_if_lt {x : Int32} {off : Int} (tgt : Nat) (d : decode cc pc = .ok (.ifCond .lt off, 3)) (ht : (pc : Int) + off = (tgt : Int)) (kt : x < 0 → ZW E G R cc own Ts n D tys cells slots w (tgt) L (st)) (kf : ¬ x < 0 → ZW E G R cc own Ts n D tys cells slots w (pc + 3) L (st)) : ZW E G R cc own Ts n D tys cells slots w (pc) L (.int x :: st) := by
  obtain ⟨p, l, e, s, m, args, below, meth, c, A, Q⟩ := E
  intro hx hb hml hown hts hA hG hK H locs ls hP hD hS hl
  exact lv_if_lt hx hb d ht (fun h => kt h hx hb hml hown hts hA hG hK H locs ls hP hD hS hl) (fun h => kf h hx hb hml hown hts hA hG hK H locs ls hP hD hS hl)
theorem z_if_ge {x : Int32} {off : Int} (tgt : Nat) (d : decode cc pc = .ok (.ifCond .ge off, 3)) (ht : (pc : Int) + off = (tgt : Int)) (kt : 0 ≤ x → ZW E G R cc own Ts n D tys cells slots w (tgt) L (st)) (kf : ¬ 0 ≤ x → ZW E G R cc own Ts n D tys cells slots w (pc + 3) L (st)) : ZW E G R cc own Ts n D tys cells slots w (pc) L (.int x :: st) := by
  obtain ⟨p, l, e, s, m, args, below, meth, c, A, Q⟩ := E
  intro hx hb hml hown hts hA hG hK H locs ls hP hD hS hl
  exact lv_if_ge hx hb d ht (fun h => kt h hx hb hml hown hts hA hG hK H locs ls hP hD hS hl) (fun h => kf h hx hb hml hown hts hA hG hK H locs ls hP hD hS hl)
theorem z_icmp_eq {x y : Int32} {off : Int} (tgt : Nat) (d : decode cc pc = .ok (.if_icmp .eq off, 3)) (ht : (pc : Int) + off = (tgt : Int)) (kt : x = y → ZW E G R cc own Ts n D tys cells slots w (tgt) L (st)) (kf : ¬ x = y → ZW E G R cc own Ts n D tys cells slots w (pc + 3) L (st)) : ZW E G R cc own Ts n D tys cells slots w (pc) L (.int y :: .int x :: st) := by
  obtain ⟨p, l, e, s, m, args, below, meth, c, A, Q⟩ := E
  intro hx hb hml hown hts hA hG hK H locs ls hP hD hS hl
  exact lv_icmp_eq hx hb d ht (fun h => kt h hx hb hml hown hts hA hG hK H locs ls hP hD hS hl) (fun h => kf h hx hb hml hown hts hA hG hK H locs ls hP hD hS hl)
theorem z_icmp_ne {x y : Int32} {off : Int} (tgt : Nat) (d : decode cc pc = .ok (.if_icmp .ne off, 3)) (ht : (pc : Int) + off = (tgt : Int)) (kt : ¬ x = y → ZW E G R cc own Ts n D tys cells slots w (tgt) L (st)) (kf : x = y → ZW E G R cc own Ts n D tys cells slots w (pc + 3) L (st)) : ZW E G R cc own Ts n D tys cells slots w (pc) L (.int y :: .int x :: st) := by
  obtain ⟨p, l, e, s, m, args, below, meth, c, A, Q⟩ := E
  intro hx hb hml hown hts hA hG hK H locs ls hP hD hS hl
  exact lv_icmp_ne hx hb d ht (fun h => kt h hx hb hml hown hts hA hG hK H locs ls hP hD hS hl) (fun h => kf h hx hb hml hown hts hA hG hK H locs ls hP hD hS hl)
theorem z_icmp_lt {x y : Int32} {off : Int} (tgt : Nat) (d : decode cc pc = .ok (.if_icmp .lt off, 3)) (ht : (pc : Int) + off = (tgt : Int)) (kt : x < y → ZW E G R cc own Ts n D tys cells slots w (tgt) L (st)) (kf : ¬ x < y → ZW E G R cc own Ts n D tys cells slots w (pc + 3) L (st)) : ZW E G R cc own Ts n D tys cells slots w (pc) L (.int y :: .int x :: st) := by
  obtain ⟨p, l, e, s, m, args, below, meth, c, A, Q⟩ := E
  intro hx hb hml hown hts hA hG hK H locs ls hP hD hS hl
  exact lv_icmp_lt hx hb d ht (fun h => kt h hx hb hml hown hts hA hG hK H locs ls hP hD hS hl) (fun h => kf h hx hb hml hown hts hA hG hK H locs ls hP hD hS hl)
theorem z_icmp_ge {x y : Int32} {off : Int} (tgt : Nat) (d : decode cc pc = .ok (.if_icmp .ge off, 3)) (ht : (pc : Int) + off = (tgt : Int)) (kt : y ≤ x → ZW E G R cc own Ts n D tys cells slots w (tgt) L (st)) (kf : ¬ y ≤ x → ZW E G R cc own Ts n D tys cells slots w (pc + 3) L (st)) : ZW E G R cc own Ts n D tys cells slots w (pc) L (.int y :: .int x :: st) := by
  obtain ⟨p, l, e, s, m, args, below, meth, c, A, Q⟩ := E
  intro hx hb hml hown hts hA hG hK H locs ls hP hD hS hl
  exact lv_icmp_ge hx hb d ht (fun h => kt h hx hb hml hown hts hA hG hK H locs ls hP hD hS hl) (fun h => kf h hx hb hml hown hts hA hG hK H locs ls hP hD hS hl)
theorem z_icmp_gt {x y : Int32} {off : Int} (tgt : Nat) (d : decode cc pc = .ok (.if_icmp .gt off, 3)) (ht : (pc : Int) + off = (tgt : Int)) (kt : y < x → ZW E G R cc own Ts n D tys cells slots w (tgt) L (st)) (kf : ¬ y < x → ZW E G R cc own Ts n D tys cells slots w (pc + 3) L (st)) : ZW E G R cc own Ts n D tys cells slots w (pc) L (.int y :: .int x :: st) := by
  obtain ⟨p, l, e, s, m, args, below, meth, c, A, Q⟩ := E
  intro hx hb hml hown hts hA hG hK H locs ls hP hD hS hl
  exact lv_icmp_gt hx hb d ht (fun h => kt h hx hb hml hown hts hA hG hK H locs ls hP hD hS hl) (fun h => kf h hx hb hml hown hts hA hG hK H locs ls hP hD hS hl)
theorem z_icmp_le {x y : Int32} {off : Int} (tgt : Nat) (d : decode cc pc = .ok (.if_icmp .le off, 3)) (ht : (pc : Int) + off = (tgt : Int)) (kt : x ≤ y → ZW E G R cc own Ts n D tys cells slots w (tgt) L (st)) (kf : ¬ x ≤ y → ZW E G R cc own Ts n D tys cells slots w (pc + 3) L (st)) : ZW E G R cc own Ts n D tys cells slots w (pc) L (.int y :: .int x :: st) := by
  obtain ⟨p, l, e, s, m, args, below, meth, c, A, Q⟩ := E
  intro hx hb hml hown hts hA hG hK H locs ls hP hD hS hl
  exact lv_icmp_le hx hb d ht (fun h => kt h hx hb hml hown hts hA hG hK H locs ls hP hD hS hl) (fun h => kf h hx hb hml hown hts hA hG hK H locs ls hP hD hS hl)
theorem z_goto {off : Int} (tgt : Nat) (d : decode cc pc = .ok (.goto off, 3)) (ht : (pc : Int) + off = (tgt : Int)) (kk : ZW E G R cc own Ts n D tys cells slots w (tgt) L (st)) : ZW E G R cc own Ts n D tys cells slots w (pc) L (st) := by
  obtain ⟨p, l, e, s, m, args, below, meth, c, A, Q⟩ := E
  intro hx hb hml hown hts hA hG hK H locs ls hP hD hS hl
  exact lv_goto hx hb d ht (kk hx hb hml hown hts hA hG hK H locs ls hP hD hS hl)
theorem z_switch01 {x : Int32} {o0 o1 df : Int} {len : Nat} (t0 t1 td : Nat) (d : decode cc pc = .ok (.lookupswitch df #[(0, o0), (1, o1)], len)) (h0 : (pc : Int) + o0 = (t0 : Int)) (h1 : (pc : Int) + o1 = (t1 : Int)) (hd : (pc : Int) + df = (td : Int)) (k0 : x = 0 → ZW E G R cc own Ts n D tys cells slots w (t0) L (st)) (k1 : ¬ x = 0 → x = 1 → ZW E G R cc own Ts n D tys cells slots w (t1) L (st)) (kd : ¬ x = 0 → ¬ x = 1 → ZW E G R cc own Ts n D tys cells slots w (td) L (st)) : ZW E G R cc own Ts n D tys cells slots w (pc) L (.int x :: st) := by
  obtain ⟨p, l, e, s, m, args, below, meth, c, A, Q⟩ := E
  intro hx hb hml hown hts hA hG hK H locs ls hP hD hS hl
  have e0 : ∀ y : Int32, x.toInt = y.toInt ↔ x = y := fun y => ⟨fun h => by rw [← Int32.ofInt_toInt x, h, Int32.ofInt_toInt], fun h => by rw [h]⟩
  by_cases q0 : x = 0
  · refine lv_lookup hx hb d rfl (off := o0) ?_ h0 (k0 q0 hx hb hml hown hts hA hG hK H locs ls hP hD hS hl)
    rw [q0]; rfl
  · by_cases q1 : x = 1
    · refine lv_lookup hx hb d rfl (off := o1) ?_ h1 (k1 q0 q1 hx hb hml hown hts hA hG hK H locs ls hP hD hS hl)
      rw [q1]; rfl
    · refine lv_lookup hx hb d rfl (off := df) ?_ hd (kd q0 q1 hx hb hml hown hts hA hG hK H locs ls hP hD hS hl)
      have n0 : ¬ x.toInt = 0 := fun h => q0 ((e0 0).mp h)
      have n1 : ¬ x.toInt = 1 := fun h => q1 ((e0 1).mp h)
      simp [Op.lookupswitch.offset, Ne.symm n0, Ne.symm n1, n0, n1]
theorem z_get {ref C : String} {T : u_T} {N ci index a : Nat} {fs : List Value} {v : Value} (hin : ∀ w ∈ u_ws C T N, w ∈ Ts) (q0 : Nat) (he : w[q0]? = some (a, .inr (ci, fs))) (hc : vwCl[ci]? = some (C, T, N)) (k : Nat) (hk : k < N) (hlink : Cond.fieldLink own index ref (T k).2.1 (T k).2.2.1 ∈ Ts) (hsame : (T k).1 = ref) (hv : fs[k]? = some v) (d : decode cc pc = .ok (.getfield index, 3)) (kk : ZW E G R cc own Ts n D tys cells slots w (pc + 3) L (v :: st)) : ZW E G R cc own Ts n D tys cells slots w (pc) L (.ref a :: st) := by
  obtain ⟨p, l, e, s, m, args, below, meth, c, A, Q⟩ := E
  intro hx hb hml hown hts hA hG hK H locs ls hP hD hS hl
  exact va_get hx hb hts hin hown hK hP q0 he hc k hk (hts _ hlink) (fun x h => by rw [← hsame]; exact h) hv d (kk hx hb hml hown hts hA hG hK H locs ls hP hD hS hl)
theorem z_put {ref C : String} {T : u_T} {N ci index a : Nat} {fs : List Value} {v : Value} (hin : ∀ w ∈ u_ws C T N, w ∈ Ts) (q0 : Nat) (he : w[q0]? = some (a, .inr (ci, fs))) (hc : vwCl[ci]? = some (C, T, N)) (k : Nat) (hk : k < N) (hlink : Cond.fieldLink own index ref (T k).2.1 (T k).2.2.1 ∈ Ts) (hsame : (T k).1 = ref) (ty0 : Nat → FieldType) (hty : ∀ k, k < N → parseFieldDescriptor (T k).2.2.1 = some (ty0 k)) (hnm : ∀ a, a < N → ∀ b, b < N → a ≠ b → (T a).2.1 ≠ (T b).2.1) (hfin : (T k).2.2.2 = false) (hn : narrow (ty0 k) v = v) (hfit : fits (ty0 k) v = true) (hl9 : k < fs.length) {w' : va_W} (hw : w.set q0 (a, .inr (ci, fs.set k v)) = w') (d : decode cc pc = .ok (.putfield index, 3)) (kk : ZW E G R cc own Ts n D tys cells slots w' (pc + 3) L (st)) : ZW E G R cc own Ts n D tys cells slots w (pc) L (v :: .ref a :: st) := by
  obtain ⟨p, l, e, s, m, args, below, meth, c, A, Q⟩ := E
  intro hx hb hml hown hts hA hG hK H locs ls hP hD hS hl
  subst hw
  exact va_put hx hb hts hin ty0 hty hnm hown hK hP hD hS q0 he hc k hk (hts _ hlink) (fun x h => by rw [← hsame]; exact h) hfin (hty k hk) hn hfit hl9 d (fun H1 locs1 hP1 hD1 hS1 => kk hx hb hml hown hts hA hG hK H1 locs1 ls hP1 hD1 hS1 hl)
theorem z_iald {a : Nat} {cA : ClassId} {N : Nat} {f : Nat → Int32} {i v : Int32} (q0 t0 : Nat) (ha : w[q0]? = some (a, .inl (cA, N, .inl f))) (ht : tys[t0]? = some (cA, .int)) (hin : vp_in i N) (hv : f i.toNatClampNeg = v) (d : decode cc pc = .ok (.iaload, 1)) (kk : ZW E G R cc own Ts n D tys cells slots w (pc + 1) L (.int v :: st)) : ZW E G R cc own Ts n D tys cells slots w (pc) L (.int i :: .ref a :: st) := by
  obtain ⟨p, l, e, s, m, args, below, meth, c, A, Q⟩ := E
  intro hx hb hml hown hts hA hG hK H locs ls hP hD hS hl
  subst hv
  exact va_iald hx hb hK hP q0 t0 ha ht hin d (kk hx hb hml hown hts hA hG hK H locs ls hP hD hS hl)
theorem z_zald {a : Nat} {cA : ClassId} {N : Nat} {f : Nat → Int32} {i v : Int32} (q0 t0 : Nat) (ha : w[q0]? = some (a, .inl (cA, N, .inl f))) (ht : tys[t0]? = some (cA, .boolean)) (hin : vp_in i N) (hv : f i.toNatClampNeg = v) (d : decode cc pc = .ok (.baload, 1)) (kk : ZW E G R cc own Ts n D tys cells slots w (pc + 1) L (.int v :: st)) : ZW E G R cc own Ts n D tys cells slots w (pc) L (.int i :: .ref a :: st) := by
  obtain ⟨p, l, e, s, m, args, below, meth, c, A, Q⟩ := E
  intro hx hb hml hown hts hA hG hK H locs ls hP hD hS hl
  subst hv
  exact va_zald hx hb hK hP q0 t0 ha ht hin d (kk hx hb hml hown hts hA hG hK H locs ls hP hD hS hl)
theorem z_iast {a : Nat} {cA : ClassId} {N : Nat} {f : Nat → Int32} {i x : Int32} (q0 t0 : Nat) (ha : w[q0]? = some (a, .inl (cA, N, .inl f))) (ht : tys[t0]? = some (cA, .int)) (hin : vp_in i N) {w' : va_W} (hw : w.set q0 (a, .inl (cA, N, .inl (upd f i.toNatClampNeg x))) = w') (d : decode cc pc = .ok (.iastore, 1)) (kk : ZW E G R cc own Ts n D tys cells slots w' (pc + 1) L (st)) : ZW E G R cc own Ts n D tys cells slots w (pc) L (.int x :: .int i :: .ref a :: st) := by
  obtain ⟨p, l, e, s, m, args, below, meth, c, A, Q⟩ := E
  intro hx hb hml hown hts hA hG hK H locs ls hP hD hS hl
  subst hw
  exact va_iast hx hb hK hP hD hS q0 t0 ha ht hin d (fun H1 locs1 hP1 hD1 hS1 => kk hx hb hml hown hts hA hG hK H1 locs1 ls hP1 hD1 hS1 hl)
theorem z_zast {a : Nat} {cA : ClassId} {N : Nat} {f : Nat → Int32} {i x : Int32} (q0 t0 : Nat) (ha : w[q0]? = some (a, .inl (cA, N, .inl f))) (ht : tys[t0]? = some (cA, .boolean)) (hin : vp_in i N) {w' : va_W} (hw : w.set q0 (a, .inl (cA, N, .inl (upd f i.toNatClampNeg (vp_nar .boolean x)))) = w') (d : decode cc pc = .ok (.bastore, 1)) (kk : ZW E G R cc own Ts n D tys cells slots w' (pc + 1) L (st)) : ZW E G R cc own Ts n D tys cells slots w (pc) L (.int x :: .int i :: .ref a :: st) := by
  obtain ⟨p, l, e, s, m, args, below, meth, c, A, Q⟩ := E
  intro hx hb hml hown hts hA hG hK H locs ls hP hD hS hl
  subst hw
  exact va_zast hx hb hK hP hD hS q0 t0 ha ht hin d (fun H1 locs1 hP1 hD1 hS1 => kk hx hb hml hown hts hA hG hK H1 locs1 ls hP1 hD1 hS1 hl)
theorem z_if_le {x : Int32} {off : Int} (tgt : Nat) (d : decode cc pc = .ok (.ifCond .le off, 3)) (ht : (pc : Int) + off = (tgt : Int)) (kt : x ≤ 0 → ZW E G R cc own Ts n D tys cells slots w (tgt) L (st)) (kf : ¬ x ≤ 0 → ZW E G R cc own Ts n D tys cells slots w (pc + 3) L (st)) : ZW E G R cc own Ts n D tys cells slots w (pc) L (.int x :: st) := by
  obtain ⟨p, l, e, s, m, args, below, meth, c, A, Q⟩ := E
  intro hx hb hml hown hts hA hG hK H locs ls hP hD hS hl
  exact lv_if_le hx hb d ht (fun h => kt h hx hb hml hown hts hA hG hK H locs ls hP hD hS hl) (fun h => kf h hx hb hml hown hts hA hG hK H locs ls hP hD hS hl)
theorem z_if_gt {x : Int32} {off : Int} (tgt : Nat) (d : decode cc pc = .ok (.ifCond .gt off, 3)) (ht : (pc : Int) + off = (tgt : Int)) (kt : 0 < x → ZW E G R cc own Ts n D tys cells slots w (tgt) L (st)) (kf : ¬ 0 < x → ZW E G R cc own Ts n D tys cells slots w (pc + 3) L (st)) : ZW E G R cc own Ts n D tys cells slots w (pc) L (.int x :: st) := by
  obtain ⟨p, l, e, s, m, args, below, meth, c, A, Q⟩ := E
  intro hx hb hml hown hts hA hG hK H locs ls hP hD hS hl
  exact lv_if_gt hx hb d ht (fun h => kt h hx hb hml hown hts hA hG hK H locs ls hP hD hS hl) (fun h => kf h hx hb hml hown hts hA hG hK H locs ls hP hD hS hl)
theorem z_ineg {x : Int32} (d : decode cc pc = .ok (.ineg, 1)) (kk : ZW E G R cc own Ts n D tys cells slots w (pc + 1) L (.int (-x) :: st)) : ZW E G R cc own Ts n D tys cells slots w (pc) L (.int x :: st) := by
  obtain ⟨p, l, e, s, m, args, below, meth, c, A, Q⟩ := E
  intro hx hb hml hown hts hA hG hK H locs ls hP hD hS hl
  exact lv_ineg hx hb d (kk hx hb hml hown hts hA hG hK H locs ls hP hD hS hl)
end ZRows
theorem z_ofW {l : Launch} {y : MethodName} {ws ws' : List Cond} {rm : Room} {Pc : Array Value → State → Prop} {Qc : Array Value → State → Outcome → State → Prop} {mc ms : Nat} {free : Addr → Prop} {cc : ByteArray} {maxL : Nat} {ret : Option FieldType}
    (hy : plainFor y = true) (hw : ws = Cond.code y cc maxL ret :: ws')
    (body : ∀ p e s m args below meth c s₁, BodyLoose p l y (headSpec ws rm) cc maxL ret e s m args below meth c s₁ → c.maxLocals = maxL → Pc args s →
      W p l e (headSpec ws rm).room s m args below meth c s.heap [] 0 0 (MQ below Qc args s mc ms free) (entryFrame m args maxL)) : Met l y ws rm Pc Qc mc ms free := by
  refine MetFree.of_bodySF (code := cc) (maxLocals := maxL) (ret := ret) hy ?_ ?_
  · intro args s m h hn
    obtain ⟨meth, c, h1, h2, h3, h4, h5, h6, -, -⟩ := Cond.code_spec hn (atoms_spec (ws := ws) h _ (by rw [hw]; exact List.mem_cons_self))
    exact ⟨meth, c, h1, h2, h3, h4, h5, h6⟩
  · intro p e s m args below meth c s₁ B hml hP _
    have hh0 : s₁.heap = s.heap := by rw [B.state]; rfl
    obtain ⟨t, a1, o, b1, b2, b3⟩ := body p e s m args below meth c s₁ B hml hP s₁ hh0 (Stand.of_body B)
    exact ⟨t, o, a1, b1, b2, ⟨b3.1, b3.2⟩⟩
/-- a method's start: the world w0, and nothing but that is asked -/
def zPc (G : State → (Nat → Prop) → Prop) (D : va_G) (tys : List (ClassId × FieldType)) (w0 : va_W) (sz : Nat) (av : List Value) : Array Value → State → Prop := va_Pc av (fun U => U.heap.size = sz ∧ va_P D vwCl w0 U.heap ∧ va_K D vwCl tys U ∧ va_D (fun _ => True) w0 ∧ G U (va_A w0 sz))
def zB {σ : Type} (D : va_G) (tys : List (ClassId × FieldType)) (w0 : va_W) (sz : Nat) (wf : σ → va_W) (mc : Nat) : σ → State → Prop := fun u t => va_P D vwCl (wf u) t.heap ∧ va_K D vwCl tys t ∧ va_D (va_A w0 sz) (wf u) ∧ sz + mc ≤ t.heap.size
/-- a contract with an int (or boolean) answer -/
def zMi {σ : Type} (l : Launch) (y : MethodName) (ws : List Cond) (rm : Room) (G : State → (Nat → Prop) → Prop) (D : va_G) (tys : List (ClassId × FieldType)) (w0 : va_W) (av : List Value) (post : Int32 → σ → Prop) (wf : σ → va_W) (mc ms : Nat) : Prop :=
  ∀ sz : Nat, Met l y ws rm (zPc G D tys w0 sz av) (va_Qi post (zB D tys w0 sz wf mc) (va_A w0 sz)) mc ms (va_A w0 sz)
def zMv {σ : Type} (l : Launch) (y : MethodName) (ws : List Cond) (rm : Room) (G : State → (Nat → Prop) → Prop) (D : va_G) (tys : List (ClassId × FieldType)) (w0 : va_W) (av : List Value) (post : σ → Prop) (wf : σ → va_W) (mc ms : Nat) : Prop :=
  ∀ sz : Nat, Met l y ws rm (zPc G D tys w0 sz av) (va_Qv post (zB D tys w0 sz wf mc) (va_A w0 sz)) mc ms (va_A w0 sz)
def zTT : State → (Nat → Prop) → Prop := fun _ _ => True
/-- what a surrounding fact needs, to be handed on to a callee -/
def zGok (G : State → (Nat → Prop) → Prop) : Prop := (∀ (a : Array Value) (U : State) (g : JFrame) (mk : MethodId) (A : Nat → Prop), G U A → G (U.calling g mk a) A) ∧ ∀ (s U : State) (A B : Nat → Prop) (locs : List Loc), G s A → s.WarmedH U.vm → va_S A s.heap U.heap locs → (∀ q, B q → A q) → G U B
theorem zGok_TT : zGok zTT := ⟨fun _ _ _ _ _ _ => trivial, fun _ _ _ _ _ _ _ _ _ => trivial⟩
theorem z_cut {A : Nat → Prop} {w : va_W} {H0 H : Heap} {locs : List Loc} (hD : va_D A w) (hS : va_S A H0 H locs) (hA : ∀ q, H0.size ≤ q → A q) : ∀ q, va_A w H.size q → A q := fun q h => h.elim (fun ⟨k, e, hk⟩ => hD.2 k _ hk) (fun h => hA q (Nat.le_trans hS.1 h))

theorem z_startI {σ : Type} {post : Int32 → σ → Prop} {wf : σ → va_W} {l : Launch} {y : MethodName} {ws ws' : List Cond} {rm : Room} {G : State → (Nat → Prop) → Prop} {D : va_G} {tys : List (ClassId × FieldType)} {w0 : va_W} {av : List Value} {cc : ByteArray} {n : Nat} {own : String} {L0 : List (Nat × Value)} (hy : plainFor y = true) (hw : ws = Cond.code y cc n (some .int) :: ws') (ho : y.cls = own) (hn : (lg_sl av).length ≤ n) (hL : lv_args 0 av = L0)
    (body : ∀ E : ZE, (∀ (r : Int32) (u : σ) (pc : Nat) (L : List (Nat × Value)) (w' : va_W), decode cc pc = .ok (.ireturn, 1) → post r u → w' = wf u → ZW E G rm cc own ws n D tys 0 0 w' pc L [.int r]) → ZW E G rm cc own ws n D tys 0 0 w0 0 L0 []) : zMi l y ws rm G D tys w0 av post wf 0 0 := by
  intro sz
  refine z_ofW (cc := cc) (maxL := n) (ret := some .int) hy hw ?_
  intro p e s m args below meth c s₁ B hml hv
  obtain ⟨rfl, hsz, hP, hK, hD0, hG⟩ := hv
  have hr := B.returns
  have hlocks := B.notSynchronized
  have hown : s.vm.findClass own = some m.cls := by rw [← ho]; exact findClass_of_methodNamed B.named
  have hts := atoms_spec (ws := ws) B.pre
  subst hsz
  have hl := lv_entry av (n := n) hn
  rw [lg_entry_eq]
  rw [hL] at hl
  refine body (p, l, e, s, m, av.toArray, below, meth, c, va_A w0 s.heap.size, _) ?_ B.exec B.bytes hml hown hts (fun q h => Or.inr h) hG hK s.heap [] _ hP hD0.self (zx_rf (fun q h => Or.inr h)) hl
  · intro r u pc L w' d hpost hw hx hb hml2 hown2 hts2 hA2 hG2 hK2 H locs ls hP2 hD2 hS2 hl2
    subst hw
    exact W.iret (v := r) hx hb hr (fun t ht hW => ⟨⟨r, u, rfl, hpost, by rw [ht]; exact hP2, va_K.moved hW.alike hK2, hD2, by rw [ht]; exact zx_le hS2⟩, (zx_S hS2).F ht⟩) hS2.2.2 d
theorem z_startZ {σ : Type} {post : Int32 → σ → Prop} {wf : σ → va_W} {l : Launch} {y : MethodName} {ws ws' : List Cond} {rm : Room} {G : State → (Nat → Prop) → Prop} {D : va_G} {tys : List (ClassId × FieldType)} {w0 : va_W} {av : List Value} {cc : ByteArray} {n : Nat} {own : String} {L0 : List (Nat × Value)} (hy : plainFor y = true) (hw : ws = Cond.code y cc n (some .boolean) :: ws') (ho : y.cls = own) (hn : (lg_sl av).length ≤ n) (hL : lv_args 0 av = L0)
    (body : ∀ E : ZE, (∀ (r : Int32) (u : σ) (pc : Nat) (L : List (Nat × Value)) (w' : va_W), decode cc pc = .ok (.ireturn, 1) → post r u → w' = wf u → narrow .boolean (.int r) = .int r → ZW E G rm cc own ws n D tys 0 0 w' pc L [.int r]) → ZW E G rm cc own ws n D tys 0 0 w0 0 L0 []) : zMi l y ws rm G D tys w0 av post wf 0 0 := by
  intro sz
  refine z_ofW (cc := cc) (maxL := n) (ret := some .boolean) hy hw ?_
  intro p e s m args below meth c s₁ B hml hv
  obtain ⟨rfl, hsz, hP, hK, hD0, hG⟩ := hv
  have hr := B.returns
  have hlocks := B.notSynchronized
  have hown : s.vm.findClass own = some m.cls := by rw [← ho]; exact findClass_of_methodNamed B.named
  have hts := atoms_spec (ws := ws) B.pre
  subst hsz
  have hl := lv_entry av (n := n) hn
  rw [lg_entry_eq]
  rw [hL] at hl
  refine body (p, l, e, s, m, av.toArray, below, meth, c, va_A w0 s.heap.size, _) ?_ B.exec B.bytes hml hown hts (fun q h => Or.inr h) hG hK s.heap [] _ hP hD0.self (zx_rf (fun q h => Or.inr h)) hl
  · intro r u pc L w' d hpost hw hnar hx hb hml2 hown2 hts2 hA2 hG2 hK2 H locs ls hP2 hD2 hS2 hl2
    subst hw
    exact W.zret (v := r) hx hb hr hnar (fun t ht hW => ⟨⟨r, u, rfl, hpost, by rw [ht]; exact hP2, va_K.moved hW.alike hK2, hD2, by rw [ht]; exact zx_le hS2⟩, (zx_S hS2).F ht⟩) hS2.2.2 d
theorem z_startV {σ : Type} {post : σ → Prop} {wf : σ → va_W} {l : Launch} {y : MethodName} {ws ws' : List Cond} {rm : Room} {G : State → (Nat → Prop) → Prop} {D : va_G} {tys : List (ClassId × FieldType)} {w0 : va_W} {av : List Value} {cc : ByteArray} {n : Nat} {own : String} {L0 : List (Nat × Value)} (hy : plainFor y = true) (hw : ws = Cond.code y cc n (none) :: ws') (ho : y.cls = own) (hn : (lg_sl av).length ≤ n) (hL : lv_args 0 av = L0)
    (body : ∀ E : ZE, (∀ (u : σ) (pc : Nat) (L : List (Nat × Value)) (w' : va_W), decode cc pc = .ok (.return_, 1) → post u → w' = wf u → ZW E G rm cc own ws n D tys 0 0 w' pc L []) → ZW E G rm cc own ws n D tys 0 0 w0 0 L0 []) : zMv l y ws rm G D tys w0 av post wf 0 0 := by
  intro sz
  refine z_ofW (cc := cc) (maxL := n) (ret := none) hy hw ?_
  intro p e s m args below meth c s₁ B hml hv
  obtain ⟨rfl, hsz, hP, hK, hD0, hG⟩ := hv
  have hr := B.returns
  have hlocks := B.notSynchronized
  have hown : s.vm.findClass own = some m.cls := by rw [← ho]; exact findClass_of_methodNamed B.named
  have hts := atoms_spec (ws := ws) B.pre
  subst hsz
  have hl := lv_entry av (n := n) hn
  rw [lg_entry_eq]
  rw [hL] at hl
  refine body (p, l, e, s, m, av.toArray, below, meth, c, va_A w0 s.heap.size, _) ?_ B.exec B.bytes hml hown hts (fun q h => Or.inr h) hG hK s.heap [] _ hP hD0.self (zx_rf (fun q h => Or.inr h)) hl
  · intro u pc L w' d hpost hw hx hb hml2 hown2 hts2 hA2 hG2 hK2 H locs ls hP2 hD2 hS2 hl2
    subst hw
    exact W.vret hx hb hr (fun t ht hW => ⟨⟨u, rfl, hpost, by rw [ht]; exact hP2, va_K.moved hW.alike hK2, hD2, by rw [ht]; exact zx_le hS2⟩, (zx_S hS2).F ht⟩) hS2.2.2 d
theorem z_callVi {E : ZE} {G GY : State → (Nat → Prop) → Prop} {R : Room} {cc : ByteArray} {own : String} {Ts : List Cond} {n : Nat} {D : va_G} {tys : List (ClassId × FieldType)} {cells slots mc ms : Nat} {w : va_W} {pc : Nat} {L : List (Nat × Value)} {st st0 : List Value} {σ : Type} {post : Int32 → σ → Prop} {wf : σ → va_W} {idx maxL k : Nat} {y : MethodName} {bytes : ByteArray} {ret : Option FieldType} {ws : List Cond} {rm : Room} {As : List Value} {C : String} {b ci : Nat} {q : vw_C} {fs : List Value}
    (hM : ∀ l : Launch, zMi l y ws rm GY D tys w (.ref b :: As) post wf mc ms) (hGY : zGok GY) (hGG : ∀ s A, G s A → GY s A) (cw : ∀ (s : State) (args : Array Value), (∀ w ∈ Ts, w.before args s = true) → CallW R s args own C idx y bytes maxL ret ws rm mc ms k) (hc : vwCl[ci]? = some q) (hC : q.1 = C) (he : w[0]? = some (b, .inr (ci, fs))) (hn : As.length = k) (hcat : (st.map fun v => v.category).sum ≤ 8) (hR : cells + mc ≤ R.cells ∧ slots + ms ≤ R.slots) (d : decode cc pc = .ok (.invokevirtual idx, 3)) (hst : st0 = As.reverse ++ .ref b :: st)
    (kk : ∀ (r : Int32) (u : σ), post r u → ZW E G R cc own Ts n D tys (cells + mc) (slots + ms) (wf u) (pc + 3) L (.int r :: st)) : ZW E G R cc own Ts n D tys cells slots w pc L st0 := by
  obtain ⟨p, l, e, s, m, args, below, meth, c, A, Q⟩ := E
  intro hx hb hml hown hts hA hG hK H locs ls hP hD hS hl
  subst hst
  have hFc := z_cut hD (zx_S hS) hA
  refine va_calli (va_runV (As := As) (rest := st) ⟨hx, hb, hml, hown, hts⟩ (hM l H.size) (cw s args hts) ⟨fun a U g mk q => by obtain ⟨q0, q1, qP, qK, qD, qG⟩ := q; exact ⟨q0, q1, qP, va_K.moved (u := U) (U := U.calling g mk a) (Vm.Alike.refl U.vm) qK, qD, hGY.1 a U g mk _ qG⟩, by rw [← hC]; exact va_recv hK hP hc he, fun U hU hW => ⟨rfl, by rw [hU], by rw [hU]; exact hP, va_K.moved hW.alike hK, hD.weaken (fun _ _ _ _ => trivial), hGY.2 s U A _ locs (hGG s A hG) hW (by rw [hU]; exact zx_S hS) hFc⟩⟩ rfl hn hl.1 rfl (lv_room hcat) d hR) hS (fun q _ h => hFc q h) hFc (fun r u t H1 locs1 ht hvm hw hB hk1 hk2 hS1 => ?_)
  obtain ⟨hP1, hK1, hD1, hz1⟩ := hB
  rw [ht] at hP1 hz1
  exact kk r u hw hx hb hml hown hts hA hG hK H1 locs1 ls hP1 (hD1.weaken (fun _ _ _ h => hFc _ h)) (zx_up hS hS1 hz1 hA) hl
theorem z_callVv {E : ZE} {G GY : State → (Nat → Prop) → Prop} {R : Room} {cc : ByteArray} {own : String} {Ts : List Cond} {n : Nat} {D : va_G} {tys : List (ClassId × FieldType)} {cells slots mc ms : Nat} {w : va_W} {pc : Nat} {L : List (Nat × Value)} {st st0 : List Value} {σ : Type} {post : σ → Prop} {wf : σ → va_W} {idx maxL k : Nat} {y : MethodName} {bytes : ByteArray} {ret : Option FieldType} {ws : List Cond} {rm : Room} {As : List Value} {C : String} {b ci : Nat} {q : vw_C} {fs : List Value}
    (hM : ∀ l : Launch, zMv l y ws rm GY D tys w (.ref b :: As) post wf mc ms) (hGY : zGok GY) (hGG : ∀ s A, G s A → GY s A) (cw : ∀ (s : State) (args : Array Value), (∀ w ∈ Ts, w.before args s = true) → CallW R s args own C idx y bytes maxL ret ws rm mc ms k) (hc : vwCl[ci]? = some q) (hC : q.1 = C) (he : w[0]? = some (b, .inr (ci, fs))) (hn : As.length = k) (hcat : (st.map fun v => v.category).sum ≤ 8) (hR : cells + mc ≤ R.cells ∧ slots + ms ≤ R.slots) (d : decode cc pc = .ok (.invokevirtual idx, 3)) (hst : st0 = As.reverse ++ .ref b :: st)
    (kk : ∀ (u : σ), post u → ZW E G R cc own Ts n D tys (cells + mc) (slots + ms) (wf u) (pc + 3) L st) : ZW E G R cc own Ts n D tys cells slots w pc L st0 := by
  obtain ⟨p, l, e, s, m, args, below, meth, c, A, Q⟩ := E
  intro hx hb hml hown hts hA hG hK H locs ls hP hD hS hl
  subst hst
  have hFc := z_cut hD (zx_S hS) hA
  refine va_callv (va_runV (As := As) (rest := st) ⟨hx, hb, hml, hown, hts⟩ (hM l H.size) (cw s args hts) ⟨fun a U g mk q => by obtain ⟨q0, q1, qP, qK, qD, qG⟩ := q; exact ⟨q0, q1, qP, va_K.moved (u := U) (U := U.calling g mk a) (Vm.Alike.refl U.vm) qK, qD, hGY.1 a U g mk _ qG⟩, by rw [← hC]; exact va_recv hK hP hc he, fun U hU hW => ⟨rfl, by rw [hU], by rw [hU]; exact hP, va_K.moved hW.alike hK, hD.weaken (fun _ _ _ _ => trivial), hGY.2 s U A _ locs (hGG s A hG) hW (by rw [hU]; exact zx_S hS) hFc⟩⟩ rfl hn hl.1 rfl (lv_room hcat) d hR) hS (fun q _ h => hFc q h) hFc (fun u t H1 locs1 ht hvm hw hB hk1 hk2 hS1 => ?_)
  obtain ⟨hP1, hK1, hD1, hz1⟩ := hB
  rw [ht] at hP1 hz1
  exact kk u hw hx hb hml hown hts hA hG hK H1 locs1 ls hP1 (hD1.weaken (fun _ _ _ h => hFc _ h)) (zx_up hS hS1 hz1 hA) hl
theorem z_callSi {E : ZE} {G GY : State → (Nat → Prop) → Prop} {R : Room} {cc : ByteArray} {own : String} {Ts : List Cond} {n : Nat} {D : va_G} {tys : List (ClassId × FieldType)} {cells slots mc ms : Nat} {w : va_W} {pc : Nat} {L : List (Nat × Value)} {st st0 : List Value} {σ : Type} {post : Int32 → σ → Prop} {wf : σ → va_W} {idx maxL k : Nat} {y : MethodName} {bytes : ByteArray} {ret : Option FieldType} {ws : List Cond} {rm : Room} {As : List Value} 
    (hM : ∀ l : Launch, zMi l y ws rm GY D tys w As post wf mc ms) (hGY : zGok GY) (hGG : ∀ s A, G s A → GY s A) (cw : ∀ (s : State) (args : Array Value), (∀ w ∈ Ts, w.before args s = true) → CallB R s args own idx y bytes maxL ret ws rm mc ms k ∧ (Cond.static y).before args s = true)  (hn : As.length = k) (hcat : (st.map fun v => v.category).sum ≤ 8) (hR : cells + mc ≤ R.cells ∧ slots + ms ≤ R.slots) (d : decode cc pc = .ok (.invokestatic idx, 3)) (hst : st0 = As.reverse ++ st)
    (kk : ∀ (r : Int32) (u : σ), post r u → ZW E G R cc own Ts n D tys (cells + mc) (slots + ms) (wf u) (pc + 3) L (.int r :: st)) : ZW E G R cc own Ts n D tys cells slots w pc L st0 := by
  obtain ⟨p, l, e, s, m, args, below, meth, c, A, Q⟩ := E
  intro hx hb hml hown hts hA hG hK H locs ls hP hD hS hl
  subst hst
  have hFc := z_cut hD (zx_S hS) hA
  refine va_calli (va_runS (As := As) (rest := st) ⟨hx, hb, hml, hown, hts⟩ (hM l H.size) (cw s args hts) ⟨fun a U g mk q => by obtain ⟨q0, q1, qP, qK, qD, qG⟩ := q; exact ⟨q0, q1, qP, va_K.moved (u := U) (U := U.calling g mk a) (Vm.Alike.refl U.vm) qK, qD, hGY.1 a U g mk _ qG⟩, fun U hU hW => ⟨rfl, by rw [hU], by rw [hU]; exact hP, va_K.moved hW.alike hK, hD.weaken (fun _ _ _ _ => trivial), hGY.2 s U A _ locs (hGG s A hG) hW (by rw [hU]; exact zx_S hS) hFc⟩⟩ rfl hn hl.1 rfl (lv_room hcat) d hR) hS (fun q _ h => hFc q h) hFc (fun r u t H1 locs1 ht hvm hw hB hk1 hk2 hS1 => ?_)
  obtain ⟨hP1, hK1, hD1, hz1⟩ := hB
  rw [ht] at hP1 hz1
  exact kk r u hw hx hb hml hown hts hA hG hK H1 locs1 ls hP1 (hD1.weaken (fun _ _ _ h => hFc _ h)) (zx_up hS hS1 hz1 hA) hl
theorem z_callSv {E : ZE} {G GY : State → (Nat → Prop) → Prop} {R : Room} {cc : ByteArray} {own : String} {Ts : List Cond} {n : Nat} {D : va_G} {tys : List (ClassId × FieldType)} {cells slots mc ms : Nat} {w : va_W} {pc : Nat} {L : List (Nat × Value)} {st st0 : List Value} {σ : Type} {post : σ → Prop} {wf : σ → va_W} {idx maxL k : Nat} {y : MethodName} {bytes : ByteArray} {ret : Option FieldType} {ws : List Cond} {rm : Room} {As : List Value} 
    (hM : ∀ l : Launch, zMv l y ws rm GY D tys w As post wf mc ms) (hGY : zGok GY) (hGG : ∀ s A, G s A → GY s A) (cw : ∀ (s : State) (args : Array Value), (∀ w ∈ Ts, w.before args s = true) → CallB R s args own idx y bytes maxL ret ws rm mc ms k ∧ (Cond.static y).before args s = true)  (hn : As.length = k) (hcat : (st.map fun v => v.category).sum ≤ 8) (hR : cells + mc ≤ R.cells ∧ slots + ms ≤ R.slots) (d : decode cc pc = .ok (.invokestatic idx, 3)) (hst : st0 = As.reverse ++ st)
    (kk : ∀ (u : σ), post u → ZW E G R cc own Ts n D tys (cells + mc) (slots + ms) (wf u) (pc + 3) L st) : ZW E G R cc own Ts n D tys cells slots w pc L st0 := by
  obtain ⟨p, l, e, s, m, args, below, meth, c, A, Q⟩ := E
  intro hx hb hml hown hts hA hG hK H locs ls hP hD hS hl
  subst hst
  have hFc := z_cut hD (zx_S hS) hA
  refine va_callv (va_runS (As := As) (rest := st) ⟨hx, hb, hml, hown, hts⟩ (hM l H.size) (cw s args hts) ⟨fun a U g mk q => by obtain ⟨q0, q1, qP, qK, qD, qG⟩ := q; exact ⟨q0, q1, qP, va_K.moved (u := U) (U := U.calling g mk a) (Vm.Alike.refl U.vm) qK, qD, hGY.1 a U g mk _ qG⟩, fun U hU hW => ⟨rfl, by rw [hU], by rw [hU]; exact hP, va_K.moved hW.alike hK, hD.weaken (fun _ _ _ _ => trivial), hGY.2 s U A _ locs (hGG s A hG) hW (by rw [hU]; exact zx_S hS) hFc⟩⟩ rfl hn hl.1 rfl (lv_room hcat) d hR) hS (fun q _ h => hFc q h) hFc (fun u t H1 locs1 ht hvm hw hB hk1 hk2 hS1 => ?_)
  obtain ⟨hP1, hK1, hD1, hz1⟩ := hB
  rw [ht] at hP1 hz1
  exact kk u hw hx hb hml hown hts hA hG hK H1 locs1 ls hP1 (hD1.weaken (fun _ _ _ h => hFc _ h)) (zx_up hS hS1 hz1 hA) hl
end
section
def mnI (x y : Int32) : Int32 := if y < x then y else x
theorem z_mmin {E : ZE} {G : State → (Nat → Prop) → Prop} {R : Room} {cc : ByteArray} {own : String} {Ts : List Cond} {n : Nat} {D : va_G} {tys : List (ClassId × FieldType)} {cells slots : Nat} {w : va_W} {pc : Nat} {L : List (Nat × Value)} {st : List Value} {idx : Nat} {x y : Int32} (h1 : Cond.methodLink own idx Lib.Math.min.name ∈ Ts) (h2 : Cond.static Lib.Math.min.name ∈ Ts) (h3 : Cond.initialized "java/lang/Math" ∈ Ts) (h4 : Cond.code Lib.Math.min.name Lib.Math.min.code 2 (some .int) ∈ Ts) (hR : 1 ≤ R.frames ∧ 21 ≤ R.locals ∧ cells ≤ R.cells ∧ slots ≤ R.slots) (hcat : (st.map fun v => v.category).sum ≤ 8) (d : decode cc pc = .ok (.invokestatic idx, 3))
    (kk : ZW E G R cc own Ts n D tys cells slots w (pc + 3) L (.int (mnI x y) :: st)) : ZW E G R cc own Ts n D tys cells slots w pc L (.int y :: .int x :: st) := by
  obtain ⟨p, l, e, s, m, args, below, meth, c, A, Q⟩ := E
  intro hx hb hml hown hts hA hG hK H locs ls hP hD hS hl
  exact va_mmin hx hb (hml.trans hl.1.symm) hown (hts _ h1) (hts _ h2) (hts _ h3) (hts _ h4) hR.1 (by have := hR.2.1; omega) hR.2.2.1 hR.2.2.2 d (kk hx hb hml hown hts hA hG hK H locs ls hP hD hS hl)
theorem va_P_lt {D : va_G} {cl : List vw_C} {ws : va_W} {H : Heap} (h : va_P D cl ws H) {k : Nat} {q : Nat × va_E} (hk : ws[k]? = some q) : ∃ c, H[q.1]? = some c := by
  have z := h k q hk
  unfold va_at at z
  split at z
  · exact ⟨_, z⟩
  · obtain ⟨_, _, cell, h1, _⟩ := z
    exact ⟨cell, h1⟩
theorem vx_throwS9 {p : Program} {l : Launch} {e : Env} {R : Room} {s : State} {m : MethodId} {args : Array Value} {below : List Frame} {meth : Method} {c : Code} {H : Heap} {locs : List Loc} {cells slots : Nat} {ls : Array Slot} {rest : List Value} {Qc : Array Value → State → Outcome → State → Prop} {XC : String → State → State → Prop} {free : Addr → Prop} {cc : ByteArray} {pc : Nat} (hexec : p.tables.exec = Jvm.exec) (hb : c.code = cc) (hl : l.stackTraces = false) {own cls text : String} {names : List String} {ik is ic mc ms sa : Nat} {A : Nat → Prop}
    (hown : s.vm.findClass own = some m.cls) (hcls : Bundle.fit cls = true) (hnames : ∀ n ∈ names, Bundle.fit n = true)
    (hk : (Cond.classLink own ik cls).before args s = true) (hini : (Cond.initialized cls).before args s = true) (hstr : vk_R own is text sa s) (hat : ∀ w ∈ vx_atS own ic cls names, w.before args s = true)
    (hgood : ∀ w ∈ Cond.classLink own ik cls :: Cond.initialized cls :: vx_atS own ic cls names, vx_ot w = true)
    (hU : vx_Zq Bundle.tN "UNASSIGNED_STACK" Bundle.steD A s s.heap) (hN : vx_Zq Bundle.tN "SUPPRESSED_SENTINEL" Bundle.listD A s s.heap) (hS : va_S A s.heap H locs) (hsize : ls.size = c.maxLocals)
    (d0 : decode cc pc = .ok (.new ik, 3)) (d3 : decode cc (pc + 3) = .ok (.dup, 1)) (d4 : decode cc (pc + 4) = .ok (.ldc is, 2)) (d6 : decode cc (pc + 6) = .ok (.invokespecial ic, 3)) (d9 : decode cc (pc + 9) = .ok (.athrow, 1))
    (hout : ∀ x ∈ c.exceptionTable.toList, covers x (pc + 9) = false)
    (hRframes : names.length + 3 < R.frames) (hRlocals : (rest.map fun v => v.category).sum + (13 * (names.length + 1) + 43) ≤ R.locals) (hRcells : cells + 1 ≤ R.cells) (hRslots : slots + 6 ≤ R.slots) (hlocks : meth.locks = false)
    (hx : ∀ t : State, s.vm.Alike t.vm → H.size + 1 ≤ t.heap.size → (∀ q : Nat, q < H.size → t.heap[q]? = H[q]?) → XC cls s t)
    (hf : ∀ z ∈ locs, free z.base) (hc : cells + 1 ≤ mc) (hs : slots + 6 ≤ ms) :
    W p l e R s m args below meth c H locs cells slots (vx_MQ below Qc XC args s mc ms free) (F0 m pc ls rest) := by
  intro T hT X
  have htr : e.platform.stackTraces = false := (show e.platform.stackTraces = l.stackTraces by rw [X.admits.platform]).trans hl
  have Y := vx_rebase X (R' := { frames := R.frames, locals := R.locals, cells := 1, slots := 6 }) (Nat.le_refl _) (Nat.le_refl _) hRcells hRslots
  obtain ⟨s', hA⟩ : ∃ z, z = (T.setVm s.vm).setFrames (.invoking m args :: below) := ⟨_, rfl⟩
  rw [← hA] at Y
  have hvm : s'.vm = s.vm := by rw [hA]; rfl
  have hhp : s'.heap = H := by rw [hA]; exact hT
  have hW0 : s.WarmedH s'.vm := by rw [hvm]; exact State.WarmedH.refl s
  have hat' : ∀ w ∈ vx_atS own ic cls names, w.before args s' = true := fun w hw => vx_ot_at hW0 hvm.symm (hgood w (List.mem_cons_of_mem _ (List.mem_cons_of_mem _ hw))) (hat w hw)
  have hk' : (Cond.classLink own ik cls).before args s' = true := vx_ot_at hW0 hvm.symm (hgood _ List.mem_cons_self) hk
  have hini' : (Cond.initialized cls).before args s' = true := vx_ot_at hW0 hvm.symm (hgood _ (List.mem_cons_of_mem _ List.mem_cons_self)) hini
  have hU' : vx_Zq Bundle.tN "UNASSIGNED_STACK" Bundle.steD A s' s'.heap := by rw [hhp]; exact vx_Zq.moved hW0.alike (hU.kept hS.2.1)
  have hN' : vx_Zq Bundle.tN "SUPPRESSED_SENTINEL" Bundle.listD A s' s'.heap := by rw [hhp]; exact vx_Zq.moved hW0.alike (hN.kept hS.2.1)
  have h : ∀ w ∈ Bundle.ownAtoms own ic cls names, w.before args s' = true := vx_own hat' (vx_isRefq hU'.1) (vx_isRefq hN'.1) hU'.2.word hN'.2.word
  have hown' : s'.vm.findClass own = some m.cls := by rw [hvm]; exact hown
  have hins : (Cond.instantiable cls 6).before args s' = true := h _ (by simp [Bundle.ownAtoms])
  obtain ⟨vm₁, cX, kX, hfX, hkX, -, -, X₁, st1⟩ := Y.newCold hexec (own := own) (C := cls) (index := ik) (n := 6) hown' hk' hins hini'
    (g := F0 m pc ls rest) rfl (by rw [hb]; exact d0) (Nat.le_refl _) (Nat.le_refl _)
  generalize hT1 : (T.setVm vm₁).pushCell { cls := cX, slots := kX.instanceTypes.map defaultValue, vm := .none } = T1 at X₁ st1
  have hcat : (Value.ref T.heap.size).category = 1 := rfl
  have hcellA : T1.heap[T.heap.size]? = some (freshCell cX kX) := by rw [← hT1]; exact State.heap_pushCell_size _ _
  have d3' : decode c.code (pc + 3) = .ok (.dup, 1) := by rw [hb]; exact d3
  have d4' : decode c.code (pc + 4) = .ok (.ldc is, 2) := by rw [hb]; exact d4
  have hstr' : vk_R own is text sa s' := vk_R.warm hW0 hstr
  obtain ⟨U, hsteps, hrun, hend, hW, hsame, ce, hce, hO⟩ := X₁.ctorThrowS hexec htr (own := own) (cls := cls) (names := names) (ic := ic) hown' hcls hnames h (fun x hx => nomatch hx) hfX hkX hcellA (by rw [hhp, hT]; exact Nat.le_refl _) (msg := .ref sa) rfl
    (g := { method := m, pc := pc + 6, locals := ls, stack := .ref sa :: .ref T.heap.size :: .ref T.heap.size :: rest, locked := none }) rfl hsize rfl rfl (rest := rest) rfl
    (by rw [hb]; exact d6) (by rw [hb]; exact d9) hout hRframes (by simp only [List.map_cons, List.sum_cons, hcat]; omega) hlocks
  obtain ⟨f1, f2⟩ := vx_frame hsame
  rw [hhp] at f1 f2
  have f9 : H.size + 1 ≤ U.heap.size := by
    have z := (Array.getElem?_eq_some_iff.mp hce).1
    rw [hT] at z
    exact z
  have hWs : s.WarmedH U.vm := State.WarmedH.trans hW0 hW
  have hcl : s.vm.findClass cls = some ce.cls := by
    have h9 := hO.cls
    rw [hvm] at h9
    exact h9
  have hall : s.sameButNew ({ U with vm := s.vm } : State) locs mc ms := by
    subst hA
    obtain ⟨e1, e2⟩ := hsame
    rw [State.setFrames_setFrames] at e1
    have h2 : (T.setVm s.vm).sameButNew ({ U with vm := s.vm } : State) [] (0 + 1) (0 + 6) := ⟨e1, e2⟩
    have h3 := X.same.trans h2
    rw [List.append_nil] at h3
    exact h3.mono hc hs
  refine ⟨U, ?_, .threw T.heap.size, hrun, hend, Or.inr ⟨T.heap.size, rfl, cls, ce, locs, hx U hWs.alike f9 (fun q hq => f2 q hq (fun z hz => nomatch hz)), hce, hO.vm, hcl, hWs, hall, hf⟩⟩
  refine st1 _ ?_
  show Steps p.tables e below (T1.setTop { method := m, pc := pc + 3, locals := ls, stack := .ref T.heap.size :: rest, locked := none }) _
  jvm_step X₁.here [X₁.here.top, hexec, d3', Value.category]
  exact X₁.ldcString hexec (own := own) (text := text) (index := is) (a := sa) hown' hstr'.1 hstr'.2
    (g := { method := m, pc := pc + 4, locals := ls, stack := .ref T.heap.size :: .ref T.heap.size :: rest, locked := none }) rfl d4' _ hsteps
/-- the strings of the class's own throws: entry and text -/
def zStr : List (Nat × String) := [(75, "there are 16 devices"), (100, "the token is dead"), (130, "it was not delivered there, or does not stand any more"), (151, "the clock would be above 100000"), (163, "an argument is out of range"), (168, "there is no such device"), (171, "there is no such notice"), (173, "120 notices have been sent")]
abbrev zIAE : String := "java/lang/IllegalArgumentException"
abbrev zISE : String := "java/lang/IllegalStateException"
abbrev zIOB : String := "java/lang/IndexOutOfBoundsException"
def zCast : List String := [zIAE, zISE, zIOB]
def zDecl : List MethodName := [Bundle.initS "java/lang/RuntimeException", Bundle.initS "java/lang/Exception", Bundle.initS "java/lang/Throwable"]
def zNcs : List (String × String) := [(zISE, zIAE), (zIAE, zISE), (zIAE, zIOB), (zISE, zIOB), (zIOB, zIAE), (zIOB, zISE)]
/-- what a throw needs of the state -/
def zU (s : State) (A : Nat → Prop) : Prop := (vx_Zq Bundle.tN "UNASSIGNED_STACK" Bundle.steD A s s.heap ∧ vx_Zq Bundle.tN "SUPPRESSED_SENTINEL" Bundle.listD A s s.heap) ∧ (∀ q ∈ zStr, ∃ sa, vk_R RX0 q.1 q.2 sa s) ∧ (∀ x ∈ zCast, va_Nw (.castable x x) s) ∧ (∀ x ∈ zDecl, va_Nw (.declares x) s) ∧ (∀ q ∈ zNcs, va_Nc q.1 q.2 s)
theorem zGok_U : zGok zU := by
  refine ⟨fun a U g mk A h => ?_, fun s U A B locs h hW hS hBA => ?_⟩
  · obtain ⟨⟨h1, h2⟩, h3, h4, h5, h6⟩ := h
    exact ⟨⟨vx_Zq.moved (u := U) (U := U.calling g mk a) (Vm.Alike.refl U.vm) h1, vx_Zq.moved (u := U) (U := U.calling g mk a) (Vm.Alike.refl U.vm) h2⟩, fun q hq => (h3 q hq).elim (fun sa z => ⟨sa, vk_R.same (u := U) (U := U.calling g mk a) rfl z⟩), fun x hx => va_Nw.same (u := U) (U := U.calling g mk a) rfl rfl (h4 x hx), fun x hx => va_Nw.same (u := U) (U := U.calling g mk a) rfl rfl (h5 x hx), fun q hq => va_Nc.moved (u := U) (U := U.calling g mk a) (Vm.Alike.refl U.vm) (h6 q hq)⟩
  · obtain ⟨⟨h1, h2⟩, h3, h4, h5, h6⟩ := h
    exact ⟨⟨((h1.kept hS.2.1).moved hW.alike).narrow hBA, ((h2.kept hS.2.1).moved hW.alike).narrow hBA⟩, fun q hq => (h3 q hq).elim (fun sa z => ⟨sa, vk_R.warm hW z⟩), fun x hx => va_Nw.warmC hW (h4 x hx), fun x hx => va_Nw.warmD hW (h5 x hx), fun q hq => va_Nc.moved hW.alike (h6 q hq)⟩
abbrev zNm : List String := ["java/lang/RuntimeException", "java/lang/Exception"]
/-- the words of a throw, out of the method's own and of zU -/
theorem z_hat {Ts : List Cond} {args : Array Value} {s : State} {A : Nat → Prop} {L : List Cond} (hts : ∀ w ∈ Ts, w.before args s = true) (hU : zU s A) (h1 : ∀ w ∈ L.filter goodWord, w ∈ Ts) (h2 : ∀ w ∈ L.filter (fun w => !goodWord w), w ∈ zCast.map (fun x => Cond.castable x x) ++ zDecl.map Cond.declares) : ∀ w ∈ L, w.before args s = true := by
  refine vx_hat (fun w hw => hts w (h1 w hw)) h2 (fun w hw => ?_)
  rcases List.mem_append.mp hw with hw | hw
  · obtain ⟨x, hx, rfl⟩ := List.mem_map.mp hw
    exact va_Nw.use rfl (hU.2.2.1 x hx)
  · obtain ⟨x, hx, rfl⟩ := List.mem_map.mp hw
    exact va_Nw.use rfl (hU.2.2.2.1 x hx)
/-- a contract of a method that throws, for arguments at which it does: px E' says which class -/
def zMx (l : Launch) (y : MethodName) (ws : List Cond) (rm : Room) (D : va_G) (tys : List (ClassId × FieldType)) (w0 : va_W) (av : List Value) (px : String → Prop) : Prop :=
  ∀ sz : Nat, vx_Met l y ws rm (zPc zU D tys w0 sz av) (va_Qi (fun (_ : Int32) (_ : Unit) => False) (fun _ _ => True) (va_A w0 sz)) (vx_X (fun _ : Unit => True) (fun E' _ t => px E' ∧ va_P D vwCl w0 t.heap ∧ va_K D vwCl tys t ∧ va_D (va_A w0 sz) w0 ∧ sz + 1 ≤ t.heap.size) (va_A w0 sz)) 1 6 (va_A w0 sz)
theorem z_startX {px : String → Prop} {l : Launch} {y : MethodName} {ws ws' : List Cond} {rm : Room} {D : va_G} {tys : List (ClassId × FieldType)} {w0 : va_W} {av : List Value} {cc : ByteArray} {n : Nat} {own : String} {L0 : List (Nat × Value)} {ret : Option FieldType} (hlt : l.stackTraces = false) (hy : plainName y.cls = true) (hw : ws = Cond.code y cc n ret :: ws') (ho : y.cls = own) (hn : (lg_sl av).length ≤ n) (hL : lv_args 0 av = L0) (hrm : 1 ≤ rm.cells ∧ 6 ≤ rm.slots)
    (body : ∀ E : ZE, E.2.1.stackTraces = false → (∀ (pc : Nat) (L : List (Nat × Value)) (px2 : String → Prop), (∀ E', px2 E' → px E') → ZX E zU rm cc own ws n D tys 1 6 w0 pc L px2) →
      (∀ (pc : Nat) (L : List (Nat × Value)) (cls text : String) (ik is ic : Nat), 5 < rm.frames → 82 ≤ rm.locals → Bundle.fit cls = true → Cond.classLink own ik cls ∈ ws → Cond.initialized cls ∈ ws → own = RX0 → (is, text) ∈ zStr → (∀ w ∈ (vx_atS own ic cls zNm).filter goodWord, w ∈ ws) → (∀ w ∈ (vx_atS own ic cls zNm).filter (fun w => !goodWord w), w ∈ zCast.map (fun x => Cond.castable x x) ++ zDecl.map Cond.declares) →
        (∀ w ∈ Cond.classLink own ik cls :: Cond.initialized cls :: vx_atS own ic cls zNm, vx_ot w = true) → decode cc pc = .ok (.new ik, 3) → decode cc (pc + 3) = .ok (.dup, 1) → decode cc (pc + 4) = .ok (.ldc is, 2) → decode cc (pc + 6) = .ok (.invokespecial ic, 3) → decode cc (pc + 9) = .ok (.athrow, 1) → px cls → ZW E zU rm cc own ws n D tys 0 0 w0 pc L []) →
      ZW E zU rm cc own ws n D tys 0 0 w0 0 L0 []) : zMx l y ws rm D tys w0 av px := by
  intro sz
  refine vx_ofW (cc := cc) (maxL := n) (ret := ret) hy hw ?_
  intro p e s m args below meth c s₁ B hml htab hv
  obtain ⟨rfl, hsz, hP, hK, hD0, hG⟩ := hv
  have hlocks := B.notSynchronized
  have hown : s.vm.findClass own = some m.cls := by rw [← ho]; exact findClass_of_methodNamed B.named
  have hts := atoms_spec (ws := ws) B.pre
  subst hsz
  have hl := lv_entry av (n := n) hn
  rw [lg_entry_eq]
  rw [hL] at hl
  refine body (p, l, e, s, m, av.toArray, below, meth, c, va_A w0 s.heap.size, _) hlt ?_ ?_ B.exec B.bytes hml hown hts (fun q h => Or.inr h) hG hK s.heap [] _ hP hD0.self (zx_rf (fun q h => Or.inr h)) hl
  · intro pc L px2 hpx hx hb hml2 hown2 hts2 hA2 hG2 hK2 H locs ls hP2 hD2 hS2 hl2 E' ce q9 rest hp9 hce hcv hcl
    exact vx_out (fun x hx => absurd (htab x hx) id) hlocks hce hcv hcl (fun t ht hW => ⟨(), trivial, ⟨hpx E' hp9, by rw [ht]; exact hP2, va_K.moved hW hK2, hD2, by rw [ht]; exact zx_le hS2⟩, (zx_S hS2).F ht⟩) hS2.2.2 (Nat.le_refl _) (Nat.le_refl _)
  · intro pc L cls text ik is ic hfr hlo hfit hk hini how hstr hg1 hg2 hot d0 d3 d4 d6 d9 hpx hx hb hml2 hown2 hts2 hA2 hG2 hK2 H locs ls hP2 hD2 hS2 hl2
    subst how
    obtain ⟨sa, hsa⟩ := hG2.2.1 _ hstr
    exact vx_throwS9 hx hb hlt hown2 hfit (fun n hn => by revert n; decide) (hts2 _ hk) (hts2 _ hini) hsa (z_hat hts2 hG2 hg1 hg2) hot hG2.1.1 hG2.1.2 (zx_S hS2) (hl2.1.trans hml2.symm) d0 d3 d4 d6 d9 (fun x hx => absurd (htab x hx) id) hfr (by show 0 + (13 * (2 + 1) + 43) ≤ _; exact hlo) (by have := hrm.1; show 0 + 1 ≤ _; omega) (by have := hrm.2; show 0 + 6 ≤ _; omega) hlocks
      (fun t hW hsz hq => ⟨(), trivial, ⟨hpx, hP2.kept (fun k q hk => (va_P_lt hP2 hk).elim (fun c hc => hq _ (Array.getElem?_eq_some_iff.mp hc).1)), va_K.moved hW hK2, hD2, Nat.le_trans (Nat.succ_le_succ (zx_S hS2).1) hsz⟩, ⟨Nat.le_trans (zx_S hS2).1 (Nat.le_of_succ_le hsz), fun q h1 h2 => (hq q (Nat.lt_of_lt_of_le h1 (zx_S hS2).1)).trans ((zx_S hS2).2.1 q h1 h2)⟩⟩) hS2.2.2 (by decide) (by decide)
theorem z_callVx {E : ZE} {R : Room} {cc : ByteArray} {own : String} {Ts : List Cond} {n : Nat} {D : va_G} {tys : List (ClassId × FieldType)} {cells slots : Nat} {w : va_W} {pc : Nat} {L : List (Nat × Value)} {st st0 : List Value} {px : String → Prop} {idx maxL k : Nat} {y : MethodName} {bytes : ByteArray} {ret : Option FieldType} {ws : List Cond} {rm : Room} {As : List Value} {C : String} {b ci : Nat} {q : vw_C} {fs : List Value}
    (hlt : E.2.1.stackTraces = false) (hM : ∀ l : Launch, l.stackTraces = false → zMx l y ws rm D tys w (.ref b :: As) px) (cw : ∀ (s : State) (args : Array Value), (∀ w ∈ Ts, w.before args s = true) → CallW R s args own C idx y bytes maxL ret ws rm 1 6 k) (hc : vwCl[ci]? = some q) (hC : q.1 = C) (he : w[0]? = some (b, .inr (ci, fs))) (hn : As.length = k) (hcat : (st.map fun v => v.category).sum ≤ 8) (hR : cells + 1 ≤ R.cells ∧ slots + 6 ≤ R.slots) (d : decode cc pc = .ok (.invokevirtual idx, 3)) (hst : st0 = As.reverse ++ .ref b :: st)
    (kx : ZX E zU R cc own Ts n D tys (cells + 1) (slots + 6) w pc L px) : ZW E zU R cc own Ts n D tys cells slots w pc L st0 := by
  obtain ⟨p, l, e, s, m, args, below, meth, c, A, Q⟩ := E
  intro hx hb hml hown hts hA hG hK H locs ls hP hD hS hl
  subst hst
  have hFc := z_cut hD (zx_S hS) hA
  refine vx_calli (vx_runV (As := As) (rest := st) ⟨hx, hb, hml, hown, hts⟩ (hM l hlt H.size) (cw s args hts) ⟨fun a U g mk q => by obtain ⟨q0, q1, qP, qK, qD, qG⟩ := q; exact ⟨q0, q1, qP, va_K.moved (u := U) (U := U.calling g mk a) (Vm.Alike.refl U.vm) qK, qD, zGok_U.1 a U g mk _ qG⟩, by rw [← hC]; exact va_recv hK hP hc he, fun U hU hW => ⟨rfl, by rw [hU], by rw [hU]; exact hP, va_K.moved hW.alike hK, hD.weaken (fun _ _ _ _ => trivial), zGok_U.2 s U A _ locs hG hW (by rw [hU]; exact zx_S hS) hFc⟩⟩ rfl hn hl.1 rfl (lv_room hcat) d hR) hS (fun q _ h => hFc q h) hFc (fun q _ h => hFc q h) (fun E' ce q9 u t H1 locs1 ht hvm _ hB hk1 hk2 hS1 hce hcv hcl => ?_) (fun r u t H1 locs1 ht hvm hw => hw.elim)
  obtain ⟨hpx, hP1, hK1, hD1, hz1⟩ := hB
  rw [ht] at hP1 hz1
  exact kx hx hb hml hown hts hA hG hK H1 locs1 ls hP1 hD (zx_up hS hS1 hz1 hA) hl E' ce q9 _ hpx hce hcv hcl
theorem z_callSx {E : ZE} {R : Room} {cc : ByteArray} {own : String} {Ts : List Cond} {n : Nat} {D : va_G} {tys : List (ClassId × FieldType)} {cells slots : Nat} {w : va_W} {pc : Nat} {L : List (Nat × Value)} {st st0 : List Value} {px : String → Prop} {idx maxL k : Nat} {y : MethodName} {bytes : ByteArray} {ret : Option FieldType} {ws : List Cond} {rm : Room} {As : List Value} 
    (hlt : E.2.1.stackTraces = false) (hM : ∀ l : Launch, l.stackTraces = false → zMx l y ws rm D tys w As px) (cw : ∀ (s : State) (args : Array Value), (∀ w ∈ Ts, w.before args s = true) → CallB R s args own idx y bytes maxL ret ws rm 1 6 k ∧ (Cond.static y).before args s = true)  (hn : As.length = k) (hcat : (st.map fun v => v.category).sum ≤ 8) (hR : cells + 1 ≤ R.cells ∧ slots + 6 ≤ R.slots) (d : decode cc pc = .ok (.invokestatic idx, 3)) (hst : st0 = As.reverse ++ st)
    (kx : ZX E zU R cc own Ts n D tys (cells + 1) (slots + 6) w pc L px) : ZW E zU R cc own Ts n D tys cells slots w pc L st0 := by
  obtain ⟨p, l, e, s, m, args, below, meth, c, A, Q⟩ := E
  intro hx hb hml hown hts hA hG hK H locs ls hP hD hS hl
  subst hst
  have hFc := z_cut hD (zx_S hS) hA
  refine vx_calli (vx_runS (As := As) (rest := st) ⟨hx, hb, hml, hown, hts⟩ (hM l hlt H.size) (cw s args hts) ⟨fun a U g mk q => by obtain ⟨q0, q1, qP, qK, qD, qG⟩ := q; exact ⟨q0, q1, qP, va_K.moved (u := U) (U := U.calling g mk a) (Vm.Alike.refl U.vm) qK, qD, zGok_U.1 a U g mk _ qG⟩, fun U hU hW => ⟨rfl, by rw [hU], by rw [hU]; exact hP, va_K.moved hW.alike hK, hD.weaken (fun _ _ _ _ => trivial), zGok_U.2 s U A _ locs hG hW (by rw [hU]; exact zx_S hS) hFc⟩⟩ rfl hn hl.1 rfl (lv_room hcat) d hR) hS (fun q _ h => hFc q h) hFc (fun q _ h => hFc q h) (fun E' ce q9 u t H1 locs1 ht hvm _ hB hk1 hk2 hS1 hce hcv hcl => ?_) (fun r u t H1 locs1 ht hvm hw => hw.elim)
  obtain ⟨hpx, hP1, hK1, hD1, hz1⟩ := hB
  rw [ht] at hP1 hz1
  exact kx hx hb hml hown hts hA hG hK H1 locs1 ls hP1 hD (zx_up hS hS1 hz1 hA) hl E' ce q9 _ hpx hce hcv hcl
end
section
/-- a state of a class: its int fields by their slots, its arrays by the slots of their fields -/
abbrev SX : Type := (Nat → Int32) × (Nat → Nat → Int32)
def pF (u : SX) (k : Nat) (x : Int32) : SX := (upd u.1 k x, u.2)
def pG (u : SX) (k i : Nat) (x : Int32) : SX := (u.1, va_up u.2 k (upd (u.2 k) i x))
def ix (x : Int32) : Nat := x.toNatClampNeg
def fX0 (a : Nat → Nat) (u : SX) : List Value := [.ref (a 0), .ref (a 1), .int (u.1 2), .int (u.1 3), .int (u.1 4), .ref (a 5), .ref (a 6), .ref (a 7), .ref (a 8), .ref (a 9), .int (u.1 10), .ref (a 11), .ref (a 12), .ref (a 13), .ref (a 14), .ref (a 15), .int (u.1 16), .int (u.1 17), .int (u.1 18)]
def wX0 (cI cZ : ClassId) (h : Nat) (a : Nat → Nat) (u : SX) : va_W := [(h, .inr (0, fX0 a u)), (a 0, .inl (cI, 8, .inl (u.2 0))), (a 1, .inl (cI, 6, .inl (u.2 1))), (a 5, .inl (cI, 16, .inl (u.2 5))), (a 6, .inl (cI, 16, .inl (u.2 6))), (a 7, .inl (cI, 16, .inl (u.2 7))), (a 8, .inl (cI, 16, .inl (u.2 8))), (a 9, .inl (cI, 16, .inl (u.2 9))), (a 11, .inl (cZ, 120, .inl (u.2 11))), (a 12, .inl (cI, 120, .inl (u.2 12))), (a 13, .inl (cI, 120, .inl (u.2 13))), (a 14, .inl (cI, 120, .inl (u.2 14))), (a 15, .inl (cI, 80, .inl (u.2 15)))]
theorem wX0_g0 (cI cZ : ClassId) (h : Nat) (a : Nat → Nat) (u : SX) (i : Nat) (x : Int32) : (wX0 cI cZ h a u).set 1 (a 0, .inl (cI, 8, .inl (upd (u.2 0) i x))) = wX0 cI cZ h a (pG u 0 i x) := rfl
theorem wX0_g1 (cI cZ : ClassId) (h : Nat) (a : Nat → Nat) (u : SX) (i : Nat) (x : Int32) : (wX0 cI cZ h a u).set 2 (a 1, .inl (cI, 6, .inl (upd (u.2 1) i x))) = wX0 cI cZ h a (pG u 1 i x) := rfl
theorem wX0_p2 (cI cZ : ClassId) (h : Nat) (a : Nat → Nat) (u : SX) (x : Int32) : (wX0 cI cZ h a u).set 0 (h, .inr (0, (fX0 a u).set 2 (.int x))) = wX0 cI cZ h a (pF u 2 x) := rfl
theorem wX0_p3 (cI cZ : ClassId) (h : Nat) (a : Nat → Nat) (u : SX) (x : Int32) : (wX0 cI cZ h a u).set 0 (h, .inr (0, (fX0 a u).set 3 (.int x))) = wX0 cI cZ h a (pF u 3 x) := rfl
theorem wX0_p4 (cI cZ : ClassId) (h : Nat) (a : Nat → Nat) (u : SX) (x : Int32) : (wX0 cI cZ h a u).set 0 (h, .inr (0, (fX0 a u).set 4 (.int x))) = wX0 cI cZ h a (pF u 4 x) := rfl
theorem wX0_g5 (cI cZ : ClassId) (h : Nat) (a : Nat → Nat) (u : SX) (i : Nat) (x : Int32) : (wX0 cI cZ h a u).set 3 (a 5, .inl (cI, 16, .inl (upd (u.2 5) i x))) = wX0 cI cZ h a (pG u 5 i x) := rfl
theorem wX0_g6 (cI cZ : ClassId) (h : Nat) (a : Nat → Nat) (u : SX) (i : Nat) (x : Int32) : (wX0 cI cZ h a u).set 4 (a 6, .inl (cI, 16, .inl (upd (u.2 6) i x))) = wX0 cI cZ h a (pG u 6 i x) := rfl
theorem wX0_g7 (cI cZ : ClassId) (h : Nat) (a : Nat → Nat) (u : SX) (i : Nat) (x : Int32) : (wX0 cI cZ h a u).set 5 (a 7, .inl (cI, 16, .inl (upd (u.2 7) i x))) = wX0 cI cZ h a (pG u 7 i x) := rfl
theorem wX0_g8 (cI cZ : ClassId) (h : Nat) (a : Nat → Nat) (u : SX) (i : Nat) (x : Int32) : (wX0 cI cZ h a u).set 6 (a 8, .inl (cI, 16, .inl (upd (u.2 8) i x))) = wX0 cI cZ h a (pG u 8 i x) := rfl
theorem wX0_g9 (cI cZ : ClassId) (h : Nat) (a : Nat → Nat) (u : SX) (i : Nat) (x : Int32) : (wX0 cI cZ h a u).set 7 (a 9, .inl (cI, 16, .inl (upd (u.2 9) i x))) = wX0 cI cZ h a (pG u 9 i x) := rfl
theorem wX0_p10 (cI cZ : ClassId) (h : Nat) (a : Nat → Nat) (u : SX) (x : Int32) : (wX0 cI cZ h a u).set 0 (h, .inr (0, (fX0 a u).set 10 (.int x))) = wX0 cI cZ h a (pF u 10 x) := rfl
theorem wX0_g11 (cI cZ : ClassId) (h : Nat) (a : Nat → Nat) (u : SX) (i : Nat) (x : Int32) : (wX0 cI cZ h a u).set 8 (a 11, .inl (cZ, 120, .inl (upd (u.2 11) i x))) = wX0 cI cZ h a (pG u 11 i x) := rfl
theorem wX0_g12 (cI cZ : ClassId) (h : Nat) (a : Nat → Nat) (u : SX) (i : Nat) (x : Int32) : (wX0 cI cZ h a u).set 9 (a 12, .inl (cI, 120, .inl (upd (u.2 12) i x))) = wX0 cI cZ h a (pG u 12 i x) := rfl
theorem wX0_g13 (cI cZ : ClassId) (h : Nat) (a : Nat → Nat) (u : SX) (i : Nat) (x : Int32) : (wX0 cI cZ h a u).set 10 (a 13, .inl (cI, 120, .inl (upd (u.2 13) i x))) = wX0 cI cZ h a (pG u 13 i x) := rfl
theorem wX0_g14 (cI cZ : ClassId) (h : Nat) (a : Nat → Nat) (u : SX) (i : Nat) (x : Int32) : (wX0 cI cZ h a u).set 11 (a 14, .inl (cI, 120, .inl (upd (u.2 14) i x))) = wX0 cI cZ h a (pG u 14 i x) := rfl
theorem wX0_g15 (cI cZ : ClassId) (h : Nat) (a : Nat → Nat) (u : SX) (i : Nat) (x : Int32) : (wX0 cI cZ h a u).set 12 (a 15, .inl (cI, 80, .inl (upd (u.2 15) i x))) = wX0 cI cZ h a (pG u 15 i x) := rfl
theorem wX0_p16 (cI cZ : ClassId) (h : Nat) (a : Nat → Nat) (u : SX) (x : Int32) : (wX0 cI cZ h a u).set 0 (h, .inr (0, (fX0 a u).set 16 (.int x))) = wX0 cI cZ h a (pF u 16 x) := rfl
theorem wX0_p17 (cI cZ : ClassId) (h : Nat) (a : Nat → Nat) (u : SX) (x : Int32) : (wX0 cI cZ h a u).set 0 (h, .inr (0, (fX0 a u).set 17 (.int x))) = wX0 cI cZ h a (pF u 17 x) := rfl
theorem wX0_p18 (cI cZ : ClassId) (h : Nat) (a : Nat → Nat) (u : SX) (x : Int32) : (wX0 cI cZ h a u).set 0 (h, .inr (0, (fX0 a u).set 18 (.int x))) = wX0 cI cZ h a (pF u 18 x) := rfl
theorem inwX0_init : ∀ w ∈ wsX00, w ∈ wsX0_init := by
  intro w h
  refine List.mem_cons_of_mem _ ?_
  first | exact List.mem_append_right _ h | exact List.mem_append_left _ (List.mem_append_right _ h) | exact List.mem_append_left _ (List.mem_append_left _ (List.mem_append_right _ h)) | exact List.mem_append_left _ (List.mem_append_left _ (List.mem_append_left _ (List.mem_append_right _ h)))
theorem inwX0_addDevice : ∀ w ∈ wsX00, w ∈ wsX0_addDevice := by
  intro w h
  refine List.mem_cons_of_mem _ ?_
  first | exact List.mem_append_right _ h | exact List.mem_append_left _ (List.mem_append_right _ h) | exact List.mem_append_left _ (List.mem_append_left _ (List.mem_append_right _ h)) | exact List.mem_append_left _ (List.mem_append_left _ (List.mem_append_left _ (List.mem_append_right _ h)))
theorem inwX0_setOnline : ∀ w ∈ wsX00, w ∈ wsX0_setOnline := by
  intro w h
  refine List.mem_cons_of_mem _ ?_
  first | exact List.mem_append_right _ h | exact List.mem_append_left _ (List.mem_append_right _ h) | exact List.mem_append_left _ (List.mem_append_left _ (List.mem_append_right _ h)) | exact List.mem_append_left _ (List.mem_append_left _ (List.mem_append_left _ (List.mem_append_right _ h)))
theorem inwX0_setDozing : ∀ w ∈ wsX00, w ∈ wsX0_setDozing := by
  intro w h
  refine List.mem_cons_of_mem _ ?_
  first | exact List.mem_append_right _ h | exact List.mem_append_left _ (List.mem_append_right _ h) | exact List.mem_append_left _ (List.mem_append_left _ (List.mem_append_right _ h)) | exact List.mem_append_left _ (List.mem_append_left _ (List.mem_append_left _ (List.mem_append_right _ h)))
theorem inwX0_setQuiet : ∀ w ∈ wsX00, w ∈ wsX0_setQuiet := by
  intro w h
  refine List.mem_cons_of_mem _ ?_
  first | exact List.mem_append_right _ h | exact List.mem_append_left _ (List.mem_append_right _ h) | exact List.mem_append_left _ (List.mem_append_left _ (List.mem_append_right _ h)) | exact List.mem_append_left _ (List.mem_append_left _ (List.mem_append_left _ (List.mem_append_right _ h)))
theorem inwX0_join : ∀ w ∈ wsX00, w ∈ wsX0_join := by
  intro w h
  refine List.mem_cons_of_mem _ ?_
  first | exact List.mem_append_right _ h | exact List.mem_append_left _ (List.mem_append_right _ h) | exact List.mem_append_left _ (List.mem_append_left _ (List.mem_append_right _ h)) | exact List.mem_append_left _ (List.mem_append_left _ (List.mem_append_left _ (List.mem_append_right _ h)))
theorem inwX0_kill : ∀ w ∈ wsX00, w ∈ wsX0_kill := by
  intro w h
  refine List.mem_cons_of_mem _ ?_
  first | exact List.mem_append_right _ h | exact List.mem_append_left _ (List.mem_append_right _ h) | exact List.mem_append_left _ (List.mem_append_left _ (List.mem_append_right _ h)) | exact List.mem_append_left _ (List.mem_append_left _ (List.mem_append_left _ (List.mem_append_right _ h)))
theorem inwX0_devices : ∀ w ∈ wsX00, w ∈ wsX0_devices := by
  intro w h
  refine List.mem_cons_of_mem _ ?_
  first | exact List.mem_append_right _ h | exact List.mem_append_left _ (List.mem_append_right _ h) | exact List.mem_append_left _ (List.mem_append_left _ (List.mem_append_right _ h)) | exact List.mem_append_left _ (List.mem_append_left _ (List.mem_append_left _ (List.mem_append_right _ h)))
theorem inwX0_isQuiet : ∀ w ∈ wsX00, w ∈ wsX0_isQuiet := by
  intro w h
  refine List.mem_cons_of_mem _ ?_
  first | exact List.mem_append_right _ h | exact List.mem_append_left _ (List.mem_append_right _ h) | exact List.mem_append_left _ (List.mem_append_left _ (List.mem_append_right _ h)) | exact List.mem_append_left _ (List.mem_append_left _ (List.mem_append_left _ (List.mem_append_right _ h)))
theorem inwX0_send : ∀ w ∈ wsX00, w ∈ wsX0_send := by
  intro w h
  refine List.mem_cons_of_mem _ ?_
  first | exact List.mem_append_right _ h | exact List.mem_append_left _ (List.mem_append_right _ h) | exact List.mem_append_left _ (List.mem_append_left _ (List.mem_append_right _ h)) | exact List.mem_append_left _ (List.mem_append_left _ (List.mem_append_left _ (List.mem_append_right _ h)))
theorem inwX0_sendBy : ∀ w ∈ wsX00, w ∈ wsX0_sendBy := by
  intro w h
  refine List.mem_cons_of_mem _ ?_
  first | exact List.mem_append_right _ h | exact List.mem_append_left _ (List.mem_append_right _ h) | exact List.mem_append_left _ (List.mem_append_left _ (List.mem_append_right _ h)) | exact List.mem_append_left _ (List.mem_append_left _ (List.mem_append_left _ (List.mem_append_right _ h)))
theorem inwX0_read : ∀ w ∈ wsX00, w ∈ wsX0_read := by
  intro w h
  refine List.mem_cons_of_mem _ ?_
  first | exact List.mem_append_right _ h | exact List.mem_append_left _ (List.mem_append_right _ h) | exact List.mem_append_left _ (List.mem_append_left _ (List.mem_append_right _ h)) | exact List.mem_append_left _ (List.mem_append_left _ (List.mem_append_left _ (List.mem_append_right _ h)))
theorem inwX0_sent : ∀ w ∈ wsX00, w ∈ wsX0_sent := by
  intro w h
  refine List.mem_cons_of_mem _ ?_
  first | exact List.mem_append_right _ h | exact List.mem_append_left _ (List.mem_append_right _ h) | exact List.mem_append_left _ (List.mem_append_left _ (List.mem_append_right _ h)) | exact List.mem_append_left _ (List.mem_append_left _ (List.mem_append_left _ (List.mem_append_right _ h)))
theorem inwX0_stands : ∀ w ∈ wsX00, w ∈ wsX0_stands := by
  intro w h
  refine List.mem_cons_of_mem _ ?_
  first | exact List.mem_append_right _ h | exact List.mem_append_left _ (List.mem_append_right _ h) | exact List.mem_append_left _ (List.mem_append_left _ (List.mem_append_right _ h)) | exact List.mem_append_left _ (List.mem_append_left _ (List.mem_append_left _ (List.mem_append_right _ h)))
theorem inwX0_waitsFor : ∀ w ∈ wsX00, w ∈ wsX0_waitsFor := by
  intro w h
  refine List.mem_cons_of_mem _ ?_
  first | exact List.mem_append_right _ h | exact List.mem_append_left _ (List.mem_append_right _ h) | exact List.mem_append_left _ (List.mem_append_left _ (List.mem_append_right _ h)) | exact List.mem_append_left _ (List.mem_append_left _ (List.mem_append_left _ (List.mem_append_right _ h)))
theorem inwX0_deliveredTo : ∀ w ∈ wsX00, w ∈ wsX0_deliveredTo := by
  intro w h
  refine List.mem_cons_of_mem _ ?_
  first | exact List.mem_append_right _ h | exact List.mem_append_left _ (List.mem_append_right _ h) | exact List.mem_append_left _ (List.mem_append_left _ (List.mem_append_right _ h)) | exact List.mem_append_left _ (List.mem_append_left _ (List.mem_append_left _ (List.mem_append_right _ h)))
theorem inwX0_standing : ∀ w ∈ wsX00, w ∈ wsX0_standing := by
  intro w h
  refine List.mem_cons_of_mem _ ?_
  first | exact List.mem_append_right _ h | exact List.mem_append_left _ (List.mem_append_right _ h) | exact List.mem_append_left _ (List.mem_append_left _ (List.mem_append_right _ h)) | exact List.mem_append_left _ (List.mem_append_left _ (List.mem_append_left _ (List.mem_append_right _ h)))
theorem inwX0_badge : ∀ w ∈ wsX00, w ∈ wsX0_badge := by
  intro w h
  refine List.mem_cons_of_mem _ ?_
  first | exact List.mem_append_right _ h | exact List.mem_append_left _ (List.mem_append_right _ h) | exact List.mem_append_left _ (List.mem_append_left _ (List.mem_append_right _ h)) | exact List.mem_append_left _ (List.mem_append_left _ (List.mem_append_left _ (List.mem_append_right _ h)))
theorem inwX0_waiting : ∀ w ∈ wsX00, w ∈ wsX0_waiting := by
  intro w h
  refine List.mem_cons_of_mem _ ?_
  first | exact List.mem_append_right _ h | exact List.mem_append_left _ (List.mem_append_right _ h) | exact List.mem_append_left _ (List.mem_append_left _ (List.mem_append_right _ h)) | exact List.mem_append_left _ (List.mem_append_left _ (List.mem_append_left _ (List.mem_append_right _ h)))
theorem inwX0_quota : ∀ w ∈ wsX00, w ∈ wsX0_quota := by
  intro w h
  refine List.mem_cons_of_mem _ ?_
  first | exact List.mem_append_right _ h | exact List.mem_append_left _ (List.mem_append_right _ h) | exact List.mem_append_left _ (List.mem_append_left _ (List.mem_append_right _ h)) | exact List.mem_append_left _ (List.mem_append_left _ (List.mem_append_left _ (List.mem_append_right _ h)))
theorem inwX0_pass : ∀ w ∈ wsX00, w ∈ wsX0_pass := by
  intro w h
  refine List.mem_cons_of_mem _ ?_
  first | exact List.mem_append_right _ h | exact List.mem_append_left _ (List.mem_append_right _ h) | exact List.mem_append_left _ (List.mem_append_left _ (List.mem_append_right _ h)) | exact List.mem_append_left _ (List.mem_append_left _ (List.mem_append_left _ (List.mem_append_right _ h)))
theorem inwX0_clock : ∀ w ∈ wsX00, w ∈ wsX0_clock := by
  intro w h
  refine List.mem_cons_of_mem _ ?_
  first | exact List.mem_append_right _ h | exact List.mem_append_left _ (List.mem_append_right _ h) | exact List.mem_append_left _ (List.mem_append_left _ (List.mem_append_right _ h)) | exact List.mem_append_left _ (List.mem_append_left _ (List.mem_append_left _ (List.mem_append_right _ h)))
theorem inwX0_deliveries : ∀ w ∈ wsX00, w ∈ wsX0_deliveries := by
  intro w h
  refine List.mem_cons_of_mem _ ?_
  first | exact List.mem_append_right _ h | exact List.mem_append_left _ (List.mem_append_right _ h) | exact List.mem_append_left _ (List.mem_append_left _ (List.mem_append_right _ h)) | exact List.mem_append_left _ (List.mem_append_left _ (List.mem_append_left _ (List.mem_append_right _ h)))
theorem inwX0_requireDevice : ∀ w ∈ wsX00, w ∈ wsX0_requireDevice := by
  intro w h
  refine List.mem_cons_of_mem _ ?_
  first | exact List.mem_append_right _ h | exact List.mem_append_left _ (List.mem_append_right _ h) | exact List.mem_append_left _ (List.mem_append_left _ (List.mem_append_right _ h)) | exact List.mem_append_left _ (List.mem_append_left _ (List.mem_append_left _ (List.mem_append_right _ h)))
theorem inwX0_requireNotice : ∀ w ∈ wsX00, w ∈ wsX0_requireNotice := by
  intro w h
  refine List.mem_cons_of_mem _ ?_
  first | exact List.mem_append_right _ h | exact List.mem_append_left _ (List.mem_append_right _ h) | exact List.mem_append_left _ (List.mem_append_left _ (List.mem_append_right _ h)) | exact List.mem_append_left _ (List.mem_append_left _ (List.mem_append_left _ (List.mem_append_right _ h)))
theorem inwX0_requireRoomForNotice : ∀ w ∈ wsX00, w ∈ wsX0_requireRoomForNotice := by
  intro w h
  refine List.mem_cons_of_mem _ ?_
  first | exact List.mem_append_right _ h | exact List.mem_append_left _ (List.mem_append_right _ h) | exact List.mem_append_left _ (List.mem_append_left _ (List.mem_append_right _ h)) | exact List.mem_append_left _ (List.mem_append_left _ (List.mem_append_left _ (List.mem_append_right _ h)))
theorem inwX0_devicesThatFulfil : ∀ w ∈ wsX00, w ∈ wsX0_devicesThatFulfil := by
  intro w h
  refine List.mem_cons_of_mem _ ?_
  first | exact List.mem_append_right _ h | exact List.mem_append_left _ (List.mem_append_right _ h) | exact List.mem_append_left _ (List.mem_append_left _ (List.mem_append_right _ h)) | exact List.mem_append_left _ (List.mem_append_left _ (List.mem_append_left _ (List.mem_append_right _ h)))
theorem inwX0_replaceKey : ∀ w ∈ wsX00, w ∈ wsX0_replaceKey := by
  intro w h
  refine List.mem_cons_of_mem _ ?_
  first | exact List.mem_append_right _ h | exact List.mem_append_left _ (List.mem_append_right _ h) | exact List.mem_append_left _ (List.mem_append_left _ (List.mem_append_right _ h)) | exact List.mem_append_left _ (List.mem_append_left _ (List.mem_append_left _ (List.mem_append_right _ h)))
theorem inwX0_sendTo : ∀ w ∈ wsX00, w ∈ wsX0_sendTo := by
  intro w h
  refine List.mem_cons_of_mem _ ?_
  first | exact List.mem_append_right _ h | exact List.mem_append_left _ (List.mem_append_right _ h) | exact List.mem_append_left _ (List.mem_append_left _ (List.mem_append_right _ h)) | exact List.mem_append_left _ (List.mem_append_left _ (List.mem_append_left _ (List.mem_append_right _ h)))
theorem inwX0_withdraw : ∀ w ∈ wsX00, w ∈ wsX0_withdraw := by
  intro w h
  refine List.mem_cons_of_mem _ ?_
  first | exact List.mem_append_right _ h | exact List.mem_append_left _ (List.mem_append_right _ h) | exact List.mem_append_left _ (List.mem_append_left _ (List.mem_append_right _ h)) | exact List.mem_append_left _ (List.mem_append_left _ (List.mem_append_left _ (List.mem_append_right _ h)))
theorem inwX0_isStanding : ∀ w ∈ wsX00, w ∈ wsX0_isStanding := by
  intro w h
  refine List.mem_cons_of_mem _ ?_
  first | exact List.mem_append_right _ h | exact List.mem_append_left _ (List.mem_append_right _ h) | exact List.mem_append_left _ (List.mem_append_left _ (List.mem_append_right _ h)) | exact List.mem_append_left _ (List.mem_append_left _ (List.mem_append_left _ (List.mem_append_right _ h)))
theorem inwX0_waitsNow : ∀ w ∈ wsX00, w ∈ wsX0_waitsNow := by
  intro w h
  refine List.mem_cons_of_mem _ ?_
  first | exact List.mem_append_right _ h | exact List.mem_append_left _ (List.mem_append_right _ h) | exact List.mem_append_left _ (List.mem_append_left _ (List.mem_append_right _ h)) | exact List.mem_append_left _ (List.mem_append_left _ (List.mem_append_left _ (List.mem_append_right _ h)))
theorem inwX0_countWaiting : ∀ w ∈ wsX00, w ∈ wsX0_countWaiting := by
  intro w h
  refine List.mem_cons_of_mem _ ?_
  first | exact List.mem_append_right _ h | exact List.mem_append_left _ (List.mem_append_right _ h) | exact List.mem_append_left _ (List.mem_append_left _ (List.mem_append_right _ h)) | exact List.mem_append_left _ (List.mem_append_left _ (List.mem_append_left _ (List.mem_append_right _ h)))
theorem inwX0_localTime : ∀ w ∈ wsX00, w ∈ wsX0_localTime := by
  intro w h
  refine List.mem_cons_of_mem _ ?_
  first | exact List.mem_append_right _ h | exact List.mem_append_left _ (List.mem_append_right _ h) | exact List.mem_append_left _ (List.mem_append_left _ (List.mem_append_right _ h)) | exact List.mem_append_left _ (List.mem_append_left _ (List.mem_append_left _ (List.mem_append_right _ h)))
theorem inwX0_isInQuietHours : ∀ w ∈ wsX00, w ∈ wsX0_isInQuietHours := by
  intro w h
  refine List.mem_cons_of_mem _ ?_
  first | exact List.mem_append_right _ h | exact List.mem_append_left _ (List.mem_append_right _ h) | exact List.mem_append_left _ (List.mem_append_left _ (List.mem_append_right _ h)) | exact List.mem_append_left _ (List.mem_append_left _ (List.mem_append_left _ (List.mem_append_right _ h)))
theorem inwX0_spentToday : ∀ w ∈ wsX00, w ∈ wsX0_spentToday := by
  intro w h
  refine List.mem_cons_of_mem _ ?_
  first | exact List.mem_append_right _ h | exact List.mem_append_left _ (List.mem_append_right _ h) | exact List.mem_append_left _ (List.mem_append_left _ (List.mem_append_right _ h)) | exact List.mem_append_left _ (List.mem_append_left _ (List.mem_append_left _ (List.mem_append_right _ h)))
theorem inwX0_spendQuota : ∀ w ∈ wsX00, w ∈ wsX0_spendQuota := by
  intro w h
  refine List.mem_cons_of_mem _ ?_
  first | exact List.mem_append_right _ h | exact List.mem_append_left _ (List.mem_append_right _ h) | exact List.mem_append_left _ (List.mem_append_left _ (List.mem_append_right _ h)) | exact List.mem_append_left _ (List.mem_append_left _ (List.mem_append_left _ (List.mem_append_right _ h)))
theorem inwX0_deliverNow : ∀ w ∈ wsX00, w ∈ wsX0_deliverNow := by
  intro w h
  refine List.mem_cons_of_mem _ ?_
  first | exact List.mem_append_right _ h | exact List.mem_append_left _ (List.mem_append_right _ h) | exact List.mem_append_left _ (List.mem_append_left _ (List.mem_append_right _ h)) | exact List.mem_append_left _ (List.mem_append_left _ (List.mem_append_left _ (List.mem_append_right _ h)))
theorem inwX0_deliver : ∀ w ∈ wsX00, w ∈ wsX0_deliver := by
  intro w h
  refine List.mem_cons_of_mem _ ?_
  first | exact List.mem_append_right _ h | exact List.mem_append_left _ (List.mem_append_right _ h) | exact List.mem_append_left _ (List.mem_append_left _ (List.mem_append_right _ h)) | exact List.mem_append_left _ (List.mem_append_left _ (List.mem_append_left _ (List.mem_append_right _ h)))
theorem inwX0_openToNormal : ∀ w ∈ wsX00, w ∈ wsX0_openToNormal := by
  intro w h
  refine List.mem_cons_of_mem _ ?_
  first | exact List.mem_append_right _ h | exact List.mem_append_left _ (List.mem_append_right _ h) | exact List.mem_append_left _ (List.mem_append_left _ (List.mem_append_right _ h)) | exact List.mem_append_left _ (List.mem_append_left _ (List.mem_append_left _ (List.mem_append_right _ h)))
theorem inwX0_openToHigh : ∀ w ∈ wsX00, w ∈ wsX0_openToHigh := by
  intro w h
  refine List.mem_cons_of_mem _ ?_
  first | exact List.mem_append_right _ h | exact List.mem_append_left _ (List.mem_append_right _ h) | exact List.mem_append_left _ (List.mem_append_left _ (List.mem_append_right _ h)) | exact List.mem_append_left _ (List.mem_append_left _ (List.mem_append_left _ (List.mem_append_right _ h)))
theorem inwX0_nextChance : ∀ w ∈ wsX00, w ∈ wsX0_nextChance := by
  intro w h
  refine List.mem_cons_of_mem _ ?_
  first | exact List.mem_append_right _ h | exact List.mem_append_left _ (List.mem_append_right _ h) | exact List.mem_append_left _ (List.mem_append_left _ (List.mem_append_right _ h)) | exact List.mem_append_left _ (List.mem_append_left _ (List.mem_append_left _ (List.mem_append_right _ h)))
end
section
def ushr (x y : Int32) : Int32 := (x.toUInt32 >>> (y.toUInt32 &&& Int32.toUInt32 31)).toInt32
def bc1 (x : Int32) : Int32 := x - ((ushr x 1) &&& 1431655765)
def bc2 (x : Int32) : Int32 := (x &&& 858993459) + ((ushr x 2) &&& 858993459)
def bc3 (x : Int32) : Int32 := (x + (ushr x 4)) &&& 252645135
def bc4 (x : Int32) : Int32 := x + (ushr x 8)
def bc5 (x : Int32) : Int32 := x + (ushr x 16)
def zEx : Nat → String
  | 1 => "java/lang/IllegalArgumentException"
  | 2 => "java/lang/IllegalStateException"
  | 3 => "java/lang/IndexOutOfBoundsException"
  | _ => ""
def r_J9_floorMod_7cf53 (p1 p2 : Int32) : Int32 := (if 0 ≤ (p1 ^^^ p2) then (p1 - p1 / p2 * p2) else (if (p1 - p1 / p2 * p2) = 0 then (p1 - p1 / p2 * p2) else ((p1 - p1 / p2 * p2) + p2)))
def r_J9_min_7cf53 (p1 p2 : Int32) : Int32 := (if p2 < p1 then p2 else p1)
def e_X0_requireWithin (p1 p2 p3 : Int32) : Nat := (if p1 < p2 then 1 else (if p1 ≤ p3 then 0 else 1))
def r_X0_bitOf (p1 : Int32) : Int32 := (1 <<< (p1 &&& 31))
def r_X0_has (p1 p2 : Int32) : Int32 := (if (p1 &&& (r_X0_bitOf p2)) = 0 then 0 else 1)
def r_X0_changed (p1 p2 p3 : Int32) : Int32 := (if p3 = 0 then (p1 &&& ((r_X0_bitOf p2) ^^^ (-1))) else (p1 ||| (r_X0_bitOf p2)))
def r_X0_placeOf (p1 p2 : Int32) : Int32 := ((p1 * 10) + p2)
def e_X0_requireDevice (u : SX) (p1 : Int32) : Nat := (if p1 < 0 then 3 else (if p1 < (u.1 10) then 0 else 3))
def e_X0_requireNotice (u : SX) (p1 : Int32) : Nat := (if p1 < 0 then 3 else (if p1 < (u.1 16) then 0 else 3))
def e_X0_requireRoomForNotice (u : SX)  : Nat := (if (u.1 16) < 120 then 0 else 2)
def r_X0_localTime (u : SX) (p1 : Int32) : Int32 := (r_J9_floorMod_7cf53 ((u.1 17) + (u.2 5 (ix p1))) 1440)
def r_X0_isInQuietHours (u : SX) (p1 : Int32) : Int32 := (if (r_J9_floorMod_7cf53 ((u.2 7 (ix p1)) - (u.2 6 (ix p1))) 1440) ≤ (r_J9_floorMod_7cf53 ((r_X0_localTime u p1) - (u.2 6 (ix p1))) 1440) then 0 else 1)
def r_X0_spentToday (u : SX) (p1 : Int32) : Int32 := (if (u.2 8 (ix p1)) = ((u.1 17) / 1440) then (u.2 9 (ix p1)) else 0)
def r_X0_isStanding (u : SX) (p1 : Int32) : Int32 := (if (u.2 12 (ix p1)) ≤ (u.1 17) then 0 else 1)
def r_X0_waitsNow (u : SX) (p1 : Int32) : Int32 := (if (r_X0_isStanding u p1) = 0 then 0 else (u.2 13 (ix p1)))
def s_X0_withdraw (u : SX) (p1 : Int32) : SX := (pG u 12 (ix p1) (u.1 17))
def b_X0_countWaiting_4 (u : SX) (p1 : Int32) (k4 : Nat) (x4 : Int32) : Int32 := (if (r_X0_has (r_X0_waitsNow u (nI k4)) p1) = 0 then x4 else (x4 + 1))
def l_X0_countWaiting_4 (u : SX) (p1 : Int32) : Nat → Int32
  | 0 => 0
  | k4 + 1 => b_X0_countWaiting_4 u p1 k4 (l_X0_countWaiting_4 u p1 k4)
def r_X0_countWaiting (u : SX) (p1 : Int32) : Int32 := (l_X0_countWaiting_4 u p1 (ix (u.1 16)))
def b_X0_spendQuota_2 (u : SX) (p1 : Int32) (k2 : Nat) (x2 : SX) : SX := (if (r_X0_has p1 (nI k2)) = 0 then x2 else (pG (pG x2 9 (ix (nI k2)) ((r_X0_spentToday x2 (nI k2)) + 1)) 8 (ix (nI k2)) ((x2.1 17) / 1440)))
def l_X0_spendQuota_2 (u : SX) (p1 : Int32) : Nat → SX
  | 0 => u
  | k2 + 1 => b_X0_spendQuota_2 u p1 k2 (l_X0_spendQuota_2 u p1 k2)
def s_X0_spendQuota (u : SX) (p1 : Int32) : SX := (l_X0_spendQuota_2 u p1 (ix (u.1 10)))
def r_J6_bitCount_0f7a4 (p1 : Int32) : Int32 := ((bc5 (bc4 (bc3 (bc2 (bc1 p1))))) &&& 63)
def s_X0_deliver (u : SX) (p1 p2 : Int32) : SX := (if (u.2 11 (ix p1)) = 0 then (pF (pG (pG u 13 (ix p1) ((u.2 13 (ix p1)) &&& (p2 ^^^ (-1)))) 14 (ix p1) ((u.2 14 (ix p1)) ||| p2)) 18 ((u.1 18) + (r_J6_bitCount_0f7a4 p2))) else (s_X0_spendQuota (pF (pG (pG u 13 (ix p1) ((u.2 13 (ix p1)) &&& (p2 ^^^ (-1)))) 14 (ix p1) ((u.2 14 (ix p1)) ||| p2)) 18 ((u.1 18) + (r_J6_bitCount_0f7a4 p2))) (p2 &&& (u.1 4))))
def b_X0_openToNormal_31 (u : SX) (k31 : Nat) (x31 : Int32) : Int32 := (if (r_X0_isInQuietHours u (nI k31)) = 0 then x31 else (r_X0_changed x31 (nI k31) 0))
def l_X0_openToNormal_31 (u : SX) : Nat → Int32
  | 0 => (if ((u.1 17) - (u.1 17) / 60 * 60) = 0 then (u.1 3) else ((u.1 3) &&& ((u.1 4) ^^^ (-1))))
  | k31 + 1 => b_X0_openToNormal_31 u k31 (l_X0_openToNormal_31 u k31)
def r_X0_openToNormal (u : SX)  : Int32 := (l_X0_openToNormal_31 u (ix (u.1 10)))
def b_X0_openToHigh_7 (u : SX) (k7 : Nat) (x7 : Int32) : Int32 := (if (r_X0_has (u.1 4) (nI k7)) = 0 then x7 else (if (r_X0_spentToday u (nI k7)) < 3 then x7 else (r_X0_changed x7 (nI k7) 0)))
def l_X0_openToHigh_7 (u : SX) : Nat → Int32
  | 0 => (u.1 3)
  | k7 + 1 => b_X0_openToHigh_7 u k7 (l_X0_openToHigh_7 u k7)
def r_X0_openToHigh (u : SX)  : Int32 := (l_X0_openToHigh_7 u (ix (u.1 10)))
def b_X0_nextChance_18 (u : SX) (k18 : Nat) (x18 : Int32) : Int32 := (if (r_X0_isInQuietHours u (nI k18)) = 0 then x18 else (mnI x18 ((u.1 17) + (r_J9_floorMod_7cf53 ((u.2 7 (ix (nI k18))) - (r_X0_localTime u (nI k18))) 1440))))
def l_X0_nextChance_18 (u : SX) : Nat → Int32
  | 0 => (((u.1 17) - ((u.1 17) - (u.1 17) / 60 * 60)) + 60)
  | k18 + 1 => b_X0_nextChance_18 u k18 (l_X0_nextChance_18 u k18)
def r_X0_nextChance (u : SX)  : Int32 := (l_X0_nextChance_18 u (ix (u.1 10)))
def b_X0_deliverNow_12 (u : SX) (k12 : Nat) (x12 : SX) : SX := (if (r_X0_waitsNow x12 (nI k12)) = 0 then x12 else (if (x12.2 11 (ix (nI k12))) = 0 then (s_X0_deliver x12 (nI k12) ((r_X0_waitsNow x12 (nI k12)) &&& (r_X0_openToNormal u ))) else (s_X0_deliver x12 (nI k12) ((r_X0_waitsNow x12 (nI k12)) &&& (r_X0_openToHigh x12 )))))
def l_X0_deliverNow_12 (u : SX) : Nat → SX
  | 0 => u
  | k12 + 1 => b_X0_deliverNow_12 u k12 (l_X0_deliverNow_12 u k12)
def r_X0_deliverNow (u : SX)  : Int32 := (((l_X0_deliverNow_12 u (ix (u.1 16))).1 18) - (u.1 18))
def s_X0_deliverNow (u : SX)  : SX := (l_X0_deliverNow_12 u (ix (u.1 16)))
def r_X0_devicesThatFulfil (u : SX) (p1 p2 p3 : Int32) : Int32 := (if p1 = 0 then ((u.2 1 (ix p2)) &&& (u.2 1 (ix p3))) else (if p1 = 1 then ((u.2 1 (ix p2)) ||| (u.2 1 (ix p3))) else ((u.2 1 (ix p2)) &&& ((u.2 1 (ix p3)) ^^^ (-1)))))
def s_X0_replaceKey (u : SX) (p1 p2 : Int32) : SX := (if (u.2 15 (ix (r_X0_placeOf p1 p2))) = (-1) then (pG u 15 (ix (r_X0_placeOf p1 p2)) (u.1 16)) else (if (r_X0_isStanding u (u.2 15 (ix (r_X0_placeOf p1 p2)))) = 0 then (pG u 15 (ix (r_X0_placeOf p1 p2)) (u.1 16)) else (pG (s_X0_withdraw u (u.2 15 (ix (r_X0_placeOf p1 p2)))) 15 (ix (r_X0_placeOf p1 p2)) ((s_X0_withdraw u (u.2 15 (ix (r_X0_placeOf p1 p2)))).1 16))))
def r_X0_sendTo (u : SX) (p1 p2 p3 : Int32) : Int32 := (u.1 16)
def s_X0_sendTo (u : SX) (p1 p2 p3 : Int32) : SX := (s_X0_deliverNow (pG (pG (pG (pF u 16 ((u.1 16) + 1)) 11 (ix (u.1 16)) (vp_nar .boolean p2)) 12 (ix (u.1 16)) ((u.1 17) + p3)) 13 (ix (u.1 16)) (p1 &&& (u.1 2))) )
def e_X0_addDevice (u : SX) (p1 p2 : Int32) : Nat := (if (e_X0_requireWithin p1 0 7) = 0 then (if (e_X0_requireWithin p2 (-720) 840) = 0 then (if (u.1 10) < 16 then 0 else 2) else (e_X0_requireWithin p2 (-720) 840)) else (e_X0_requireWithin p1 0 7))
def r_X0_addDevice (u : SX) (p1 p2 : Int32) : Int32 := (u.1 10)
def s_X0_addDevice (u : SX) (p1 p2 : Int32) : SX := (pF (pF (pG (pG (pF u 10 ((u.1 10) + 1)) 5 (ix (u.1 10)) p2) 0 (ix p1) ((u.2 0 (ix p1)) ||| (r_X0_bitOf (u.1 10)))) 2 ((u.1 2) ||| (r_X0_bitOf (u.1 10)))) 3 ((u.1 3) ||| (r_X0_bitOf (u.1 10))))
def e_X0_setOnline (u : SX) (p1 p2 : Int32) : Nat := (if (e_X0_requireDevice u p1) = 0 then 0 else (e_X0_requireDevice u p1))
def r_X0_setOnline (u : SX) (p1 p2 : Int32) : Int32 := (r_X0_deliverNow (pF u 3 (r_X0_changed (u.1 3) p1 p2)) )
def s_X0_setOnline (u : SX) (p1 p2 : Int32) : SX := (s_X0_deliverNow (pF u 3 (r_X0_changed (u.1 3) p1 p2)) )
def e_X0_setDozing (u : SX) (p1 p2 : Int32) : Nat := (if (e_X0_requireDevice u p1) = 0 then 0 else (e_X0_requireDevice u p1))
def r_X0_setDozing (u : SX) (p1 p2 : Int32) : Int32 := (r_X0_deliverNow (pF u 4 (r_X0_changed (u.1 4) p1 p2)) )
def s_X0_setDozing (u : SX) (p1 p2 : Int32) : SX := (s_X0_deliverNow (pF u 4 (r_X0_changed (u.1 4) p1 p2)) )
def e_X0_setQuiet (u : SX) (p1 p2 p3 : Int32) : Nat := (if (e_X0_requireDevice u p1) = 0 then (if (e_X0_requireWithin p2 0 1439) = 0 then (if (e_X0_requireWithin p3 0 1439) = 0 then 0 else (e_X0_requireWithin p3 0 1439)) else (e_X0_requireWithin p2 0 1439)) else (e_X0_requireDevice u p1))
def r_X0_setQuiet (u : SX) (p1 p2 p3 : Int32) : Int32 := (r_X0_deliverNow (pG (pG u 6 (ix p1) p2) 7 (ix p1) p3) )
def s_X0_setQuiet (u : SX) (p1 p2 p3 : Int32) : SX := (s_X0_deliverNow (pG (pG u 6 (ix p1) p2) 7 (ix p1) p3) )
def e_X0_join (u : SX) (p1 p2 p3 : Int32) : Nat := (if (e_X0_requireDevice u p1) = 0 then (if (e_X0_requireWithin p2 0 5) = 0 then 0 else (e_X0_requireWithin p2 0 5)) else (e_X0_requireDevice u p1))
def r_X0_join (u : SX) (p1 p2 p3 : Int32) : Int32 := (r_X0_has (u.2 1 (ix p2)) p1)
def s_X0_join (u : SX) (p1 p2 p3 : Int32) : SX := (pG u 1 (ix p2) (r_X0_changed (u.2 1 (ix p2)) p1 p3))
def b_X0_kill_47 (u : SX) (p1 : Int32) (k47 : Nat) (x47 : SX) : SX := (pG x47 13 (ix (nI k47)) (r_X0_changed (x47.2 13 (ix (nI k47))) p1 0))
def l_X0_kill_47 (u : SX) (p1 : Int32) : Nat → SX
  | 0 => (pF u 2 (r_X0_changed (u.1 2) p1 0))
  | k47 + 1 => b_X0_kill_47 u p1 k47 (l_X0_kill_47 u p1 k47)
def e_X0_kill (u : SX) (p1 : Int32) : Nat := (if (e_X0_requireDevice u p1) = 0 then (if (r_X0_has (u.1 2) p1) = 0 then 2 else 0) else (e_X0_requireDevice u p1))
def r_X0_kill (u : SX) (p1 : Int32) : Int32 := (r_X0_countWaiting u p1)
def s_X0_kill (u : SX) (p1 : Int32) : SX := (l_X0_kill_47 u p1 (ix (u.1 16)))
def r_X0_devices (u : SX)  : Int32 := (u.1 10)
def e_X0_isQuiet (u : SX) (p1 : Int32) : Nat := (if (e_X0_requireDevice u p1) = 0 then 0 else (e_X0_requireDevice u p1))
def r_X0_isQuiet (u : SX) (p1 : Int32) : Int32 := (r_X0_isInQuietHours u p1)
def e_X0_send (u : SX) (p1 p2 p3 p4 : Int32) : Nat := (if (e_X0_requireWithin p1 0 7) = 0 then (if p2 = (-1) then (if (e_X0_requireWithin p4 1 10000) = 0 then (if (e_X0_requireRoomForNotice u ) = 0 then 0 else (e_X0_requireRoomForNotice u )) else (e_X0_requireWithin p4 1 10000)) else (if (e_X0_requireWithin p2 0 9) = 0 then (if (e_X0_requireWithin p4 1 10000) = 0 then (if (e_X0_requireRoomForNotice u ) = 0 then 0 else (e_X0_requireRoomForNotice u )) else (e_X0_requireWithin p4 1 10000)) else (e_X0_requireWithin p2 0 9))) else (e_X0_requireWithin p1 0 7))
def r_X0_send (u : SX) (p1 p2 p3 p4 : Int32) : Int32 := (if p2 = (-1) then (r_X0_sendTo u (u.2 0 (ix p1)) p3 p4) else (r_X0_sendTo (s_X0_replaceKey u p1 p2) ((s_X0_replaceKey u p1 p2).2 0 (ix p1)) p3 p4))
def s_X0_send (u : SX) (p1 p2 p3 p4 : Int32) : SX := (if p2 = (-1) then (s_X0_sendTo u (u.2 0 (ix p1)) p3 p4) else (s_X0_sendTo (s_X0_replaceKey u p1 p2) ((s_X0_replaceKey u p1 p2).2 0 (ix p1)) p3 p4))
def e_X0_sendBy (u : SX) (p1 p2 p3 p4 p5 : Int32) : Nat := (if (e_X0_requireWithin p1 0 2) = 0 then (if (e_X0_requireWithin p2 0 5) = 0 then (if (e_X0_requireWithin p3 0 5) = 0 then (if (e_X0_requireWithin p5 1 10000) = 0 then (if (e_X0_requireRoomForNotice u ) = 0 then 0 else (e_X0_requireRoomForNotice u )) else (e_X0_requireWithin p5 1 10000)) else (e_X0_requireWithin p3 0 5)) else (e_X0_requireWithin p2 0 5)) else (e_X0_requireWithin p1 0 2))
def r_X0_sendBy (u : SX) (p1 p2 p3 p4 p5 : Int32) : Int32 := (r_X0_sendTo u (r_X0_devicesThatFulfil u p1 p2 p3) p4 p5)
def s_X0_sendBy (u : SX) (p1 p2 p3 p4 p5 : Int32) : SX := (s_X0_sendTo u (r_X0_devicesThatFulfil u p1 p2 p3) p4 p5)
def e_X0_read (u : SX) (p1 p2 : Int32) : Nat := (if (e_X0_requireDevice u p1) = 0 then (if (e_X0_requireNotice u p2) = 0 then (if (r_X0_has (u.2 14 (ix p2)) p1) = 0 then 2 else (if (r_X0_isStanding u p2) = 0 then 2 else 0)) else (e_X0_requireNotice u p2)) else (e_X0_requireDevice u p1))
def r_X0_read (u : SX) (p1 p2 : Int32) : Int32 := (r_J6_bitCount_0f7a4 (r_X0_waitsNow u p2))
def s_X0_read (u : SX) (p1 p2 : Int32) : SX := (s_X0_withdraw u p2)
def r_X0_sent (u : SX)  : Int32 := (u.1 16)
def e_X0_stands (u : SX) (p1 : Int32) : Nat := (if (e_X0_requireNotice u p1) = 0 then 0 else (e_X0_requireNotice u p1))
def r_X0_stands (u : SX) (p1 : Int32) : Int32 := (r_X0_isStanding u p1)
def e_X0_waitsFor (u : SX) (p1 : Int32) : Nat := (if (e_X0_requireNotice u p1) = 0 then 0 else (e_X0_requireNotice u p1))
def r_X0_waitsFor (u : SX) (p1 : Int32) : Int32 := (r_X0_waitsNow u p1)
def e_X0_deliveredTo (u : SX) (p1 : Int32) : Nat := (if (e_X0_requireNotice u p1) = 0 then 0 else (e_X0_requireNotice u p1))
def r_X0_deliveredTo (u : SX) (p1 : Int32) : Int32 := (u.2 14 (ix p1))
def e_X0_standing (u : SX) (p1 p2 : Int32) : Nat := (if (e_X0_requireWithin p1 0 7) = 0 then (if (e_X0_requireWithin p2 0 9) = 0 then 0 else (e_X0_requireWithin p2 0 9)) else (e_X0_requireWithin p1 0 7))
def r_X0_standing (u : SX) (p1 p2 : Int32) : Int32 := (if (u.2 15 (ix (r_X0_placeOf p1 p2))) = (-1) then (-1) else (if (r_X0_isStanding u (u.2 15 (ix (r_X0_placeOf p1 p2)))) = 0 then (-1) else (u.2 15 (ix (r_X0_placeOf p1 p2)))))
def b_X0_badge_9 (u : SX) (p1 : Int32) (k9 : Nat) (x9 : Int32) : Int32 := (if (r_X0_has (u.2 14 (ix (nI k9))) p1) = 0 then x9 else (if (r_X0_isStanding u (nI k9)) = 0 then x9 else (x9 + 1)))
def l_X0_badge_9 (u : SX) (p1 : Int32) : Nat → Int32
  | 0 => 0
  | k9 + 1 => b_X0_badge_9 u p1 k9 (l_X0_badge_9 u p1 k9)
def e_X0_badge (u : SX) (p1 : Int32) : Nat := (if (e_X0_requireDevice u p1) = 0 then 0 else (e_X0_requireDevice u p1))
def r_X0_badge (u : SX) (p1 : Int32) : Int32 := (l_X0_badge_9 u p1 (ix (u.1 16)))
def e_X0_waiting (u : SX) (p1 : Int32) : Nat := (if (e_X0_requireDevice u p1) = 0 then 0 else (e_X0_requireDevice u p1))
def r_X0_waiting (u : SX) (p1 : Int32) : Int32 := (r_X0_countWaiting u p1)
def e_X0_quota (u : SX) (p1 : Int32) : Nat := (if (e_X0_requireDevice u p1) = 0 then 0 else (e_X0_requireDevice u p1))
def r_X0_quota (u : SX) (p1 : Int32) : Int32 := (3 - (r_X0_spentToday u p1))
def r_X0_clock (u : SX)  : Int32 := (u.1 17)
def r_X0_deliveries (u : SX)  : Int32 := (u.1 18)
def b_X0_pass_41 (u : SX) (p1 : Int32) (k41 : Nat) (x41 : SX × Int32) : SX × Int32 := (if ((u.1 17) + p1) ≤ (x41.1.1 17) then x41 else ((s_X0_deliverNow (pF x41.1 17 (mnI ((u.1 17) + p1) (r_X0_nextChance x41.1 ))) ), (x41.2 + (r_X0_deliverNow (pF x41.1 17 (mnI ((u.1 17) + p1) (r_X0_nextChance x41.1 ))) ))))
def l_X0_pass_41 (u : SX) (p1 : Int32) : Nat → SX × Int32
  | 0 => (u, 0)
  | k41 + 1 => b_X0_pass_41 u p1 k41 (l_X0_pass_41 u p1 k41)
def e_X0_pass (u : SX) (p1 : Int32) : Nat := (if (e_X0_requireWithin p1 1 3000) = 0 then (if ((u.1 17) + p1) ≤ 100000 then 0 else 2) else (e_X0_requireWithin p1 1 3000))
def r_X0_pass (u : SX) (p1 : Int32) : Int32 := (l_X0_pass_41 u p1 (ix p1)).2
def s_X0_pass (u : SX) (p1 : Int32) : SX := (l_X0_pass_41 u p1 (ix p1)).1
end
section
theorem zwithin {p lo hi : Int32} {N : Nat} (h : e_X0_requireWithin p lo hi = 0) (hlo : lo = 0) (hN : hi = nI (N - 1) ∧ 0 < N ∧ N < 1000) : vp_in p N := by
  obtain ⟨rfl, h0, h1⟩ := hN
  subst hlo
  unfold e_X0_requireWithin at h
  rw [vp_in_iff]
  split at h
  · cases h
  · rename_i q
    split at h
    · rename_i q2
      have e := Int32.le_iff_toInt_le.mp q2
      rw [nI_toInt (by omega)] at e
      have e2 : ¬ p.toInt < (0 : Int32).toInt := fun z => q (Int32.lt_iff_toInt_lt.mpr z)
      have e3 : (0 : Int32).toInt = 0 := rfl
      omega
    · cases h
theorem zlt_in {p : Int32} {n N : Nat} (h0 : ¬ p < 0) (h1 : p < nI n) (hn : n ≤ N) (hN : N < 1000) : vp_in p N := by
  rw [vp_in_iff]
  have e := Int32.lt_iff_toInt_lt.mp h1
  rw [nI_toInt (by omega)] at e
  have e2 : ¬ p.toInt < (0 : Int32).toInt := fun z => h0 (Int32.lt_iff_toInt_lt.mpr z)
  have e3 : (0 : Int32).toInt = 0 := rfl
  omega
theorem zdev {u : SX} {p : Int32} {nd : Nat} (hnd : u.1 10 = nI nd) (hd : nd ≤ 16) (h : e_X0_requireDevice u p = 0) : vp_in p 16 := by
  unfold e_X0_requireDevice at h
  split at h
  · cases h
  · rename_i q
    split at h
    · rename_i q2
      exact zlt_in q (by rw [← hnd]; exact q2) hd (by omega)
    · cases h
theorem znot {u : SX} {p : Int32} {nn : Nat} (hnn : u.1 16 = nI nn) (hn : nn ≤ 120) (h : e_X0_requireNotice u p = 0) : vp_in p 120 := by
  unfold e_X0_requireNotice at h
  split at h
  · cases h
  · rename_i q
    split at h
    · rename_i q2
      exact zlt_in q (by rw [← hnn]; exact q2) hn (by omega)
    · cases h
theorem znar01 {r : Int32} (h : r = 0 ∨ r = 1) : narrow .boolean (.int r) = .int r := by
  rcases h with rfl | rfl <;> rfl
theorem z01_X0_isInQuietHours (u : SX) (p : Int32) : r_X0_isInQuietHours u p = 0 ∨ r_X0_isInQuietHours u p = 1 := by
  unfold r_X0_isInQuietHours; split <;> simp
theorem z01_X0_isStanding (u : SX) (p : Int32) : r_X0_isStanding u p = 0 ∨ r_X0_isStanding u p = 1 := by
  unfold r_X0_isStanding; split <;> simp
theorem lf_X0_spendQuota_2 (u : SX) (p : Int32) (k : Nat) : (l_X0_spendQuota_2 u p k).1 = u.1 := by
  induction k with
  | zero => rfl
  | succ k ih =>
    show (b_X0_spendQuota_2 u p k (l_X0_spendQuota_2 u p k)).1 = _
    unfold b_X0_spendQuota_2
    split
    · exact ih
    · exact ih
theorem zroomN {u : SX} {nn : Nat} (hnn : u.1 16 = nI nn) (hlt : nn < 120) : vp_in (u.1 16) 120 := by
  rw [hnn]; exact vp_in_nI hlt (by omega)
theorem zroomD {u : SX} {nd : Nat} (hnd : u.1 10 = nI nd) (hd : nd ≤ 16) (h : ¬ 16 ≤ u.1 10) : vp_in (u.1 10) 16 := by
  rw [hnd] at h ⊢
  refine vp_in_nI ?_ (by omega)
  rcases Nat.lt_or_ge nd 16 with q | q
  · exact q
  · exact absurd (nI_le (a := 16) q (by omega)) h
end
section
set_option maxHeartbeats 4000000 in
set_option maxRecDepth 100000 in
theorem c_J9_floorMod_7cf53 (l : Launch) (D : va_G) (tys : List (ClassId × FieldType)) (w0 : va_W) (p1 p2 : Int32) (h0 : ¬ p2 = 0) : zMi l yJ9_floorMod_7cf53 wsJ9_floorMod_7cf53 ({ frames := 0, cells := 0, slots := 0, locals := 0 } : Room) zTT D tys w0 [.int p1, .int p2] (fun (r : Int32) (_ : Unit) => r = r_J9_floorMod_7cf53 p1 p2) (fun _ => w0) 0 0 := by
  refine z_startI (cc := cJ9_floorMod_7cf53) (n := 3) (own := RJ9) (L0 := [(0, .int p1), (1, .int p2)]) (by decide +kernel) rfl rfl (Nat.le_of_ble_eq_true rfl) rfl (fun E hret => ?_)
  refine z_iload_n 0 dJ9_floorMod_7cf53_0 rfl ?_
  refine z_iload_n 1 dJ9_floorMod_7cf53_1 rfl ?_
  refine z_irem dJ9_floorMod_7cf53_2 (by assumption) ?_
  refine z_istore_n (L' := [(2, .int (p1 - p1 / p2 * p2)), (0, .int p1), (1, .int p2)]) dJ9_floorMod_7cf53_3 (by decide) rfl ?_
  refine z_iload_n 1 dJ9_floorMod_7cf53_4 rfl ?_
  refine z_iload_n 2 dJ9_floorMod_7cf53_5 rfl ?_
  refine z_ixor dJ9_floorMod_7cf53_6 ?_
  refine z_if_ge 18 dJ9_floorMod_7cf53_7 (by decide) (fun c_7_0 => ?_) (fun c_7_0 => ?_)
  ·
    refine z_iload_n 0 dJ9_floorMod_7cf53_18 rfl ?_
    exact hret _ () _ _ _ dJ9_floorMod_7cf53_19 (by rw [r_J9_floorMod_7cf53, if_pos c_7_0]) rfl
  ·
    refine z_iload_n 0 dJ9_floorMod_7cf53_10 rfl ?_
    refine z_if_eq 18 dJ9_floorMod_7cf53_11 (by decide) (fun c_11_1 => ?_) (fun c_11_1 => ?_)
    ·
      refine z_iload_n 0 dJ9_floorMod_7cf53_18 rfl ?_
      exact hret _ () _ _ _ dJ9_floorMod_7cf53_19 (by rw [r_J9_floorMod_7cf53, if_neg c_7_0, if_pos c_11_1]) rfl
    ·
      refine z_iload_n 0 dJ9_floorMod_7cf53_14 rfl ?_
      refine z_iload_n 2 dJ9_floorMod_7cf53_15 rfl ?_
      refine z_iadd dJ9_floorMod_7cf53_16 ?_
      exact hret _ () _ _ _ dJ9_floorMod_7cf53_17 (by rw [r_J9_floorMod_7cf53, if_neg c_7_0, if_neg c_11_1]) rfl
set_option maxHeartbeats 4000000 in
set_option maxRecDepth 100000 in
theorem c_J9_min_7cf53 (l : Launch) (D : va_G) (tys : List (ClassId × FieldType)) (w0 : va_W) (p1 p2 : Int32)  : zMi l yJ9_min_7cf53 wsJ9_min_7cf53 ({ frames := 0, cells := 0, slots := 0, locals := 0 } : Room) zTT D tys w0 [.int p1, .int p2] (fun (r : Int32) (_ : Unit) => r = r_J9_min_7cf53 p1 p2) (fun _ => w0) 0 0 := by
  refine z_startI (cc := cJ9_min_7cf53) (n := 2) (own := RJ9) (L0 := [(0, .int p1), (1, .int p2)]) (by decide +kernel) rfl rfl (Nat.le_of_ble_eq_true rfl) rfl (fun E hret => ?_)
  refine z_iload_n 0 dJ9_min_7cf53_0 rfl ?_
  refine z_iload_n 1 dJ9_min_7cf53_1 rfl ?_
  refine z_icmp_gt 9 dJ9_min_7cf53_2 (by decide) (fun c_2_0 => ?_) (fun c_2_0 => ?_)
  ·
    refine z_iload_n 1 dJ9_min_7cf53_9 rfl ?_
    exact hret _ () _ _ _ dJ9_min_7cf53_10 (by rw [r_J9_min_7cf53, if_pos c_2_0]) rfl
  ·
    refine z_iload_n 0 dJ9_min_7cf53_5 rfl ?_
    refine z_goto 10 dJ9_min_7cf53_6 (by decide) ?_
    exact hret _ () _ _ _ dJ9_min_7cf53_10 (by rw [r_J9_min_7cf53, if_neg c_2_0]) rfl
set_option maxHeartbeats 4000000 in
set_option maxRecDepth 100000 in
theorem c_X0_requireWithin (l : Launch) (D : va_G) (tys : List (ClassId × FieldType)) (w0 : va_W) (p1 p2 p3 : Int32) (he : e_X0_requireWithin p1 p2 p3 = 0)  : zMv l yX0_requireWithin wsX0_requireWithin ({ frames := 0, cells := 0, slots := 0, locals := 0 } : Room) zTT D tys w0 [.int p1, .int p2, .int p3] (fun _ : Unit => True) (fun _ => w0) 0 0 := by
  refine z_startV (cc := cX0_requireWithin) (n := 3) (own := RX0) (L0 := [(0, .int p1), (1, .int p2), (2, .int p3)]) (plainFor_of_name (by decide)) rfl rfl (Nat.le_of_ble_eq_true rfl) rfl (fun E hret => ?_)
  refine z_iload_n 0 dX0_requireWithin_0 rfl ?_
  refine z_iload_n 1 dX0_requireWithin_1 rfl ?_
  refine z_icmp_lt 10 dX0_requireWithin_2 (by decide) (fun c_2_0 => ?_) (fun c_2_0 => ?_)
  ·
    exact absurd he (by rw [e_X0_requireWithin, if_pos c_2_0]; decide)
  ·
    refine z_iload_n 0 dX0_requireWithin_5 rfl ?_
    refine z_iload_n 2 dX0_requireWithin_6 rfl ?_
    refine z_icmp_le 20 dX0_requireWithin_7 (by decide) (fun c_7_1 => ?_) (fun c_7_1 => ?_)
    ·
      exact hret () _ _ _ dX0_requireWithin_20 trivial rfl
    ·
      exact absurd he (by rw [e_X0_requireWithin, if_neg c_2_0, if_neg c_7_1]; decide)
set_option maxHeartbeats 4000000 in
set_option maxRecDepth 100000 in
theorem t_X0_requireWithin (l : Launch) (hlt : l.stackTraces = false) (D : va_G) (tys : List (ClassId × FieldType)) (w0 : va_W) (p1 p2 p3 : Int32) (he : e_X0_requireWithin p1 p2 p3 ≠ 0)  : zMx l yX0_requireWithin wsX0_requireWithin ({ frames := 6, cells := 1, slots := 6, locals := 82 } : Room) D tys w0 [.int p1, .int p2, .int p3] (fun E' => E' = zEx (e_X0_requireWithin p1 p2 p3)) := by
  refine z_startX (cc := cX0_requireWithin) (n := 3) (own := RX0) (L0 := [(0, .int p1), (1, .int p2), (2, .int p3)]) hlt (by decide) rfl rfl (Nat.le_of_ble_eq_true rfl) rfl ⟨Nat.le_of_ble_eq_true rfl, Nat.le_of_ble_eq_true rfl⟩ (fun E hlt hthr hthrow => ?_)
  refine z_iload_n 0 dX0_requireWithin_0 rfl ?_
  refine z_iload_n 1 dX0_requireWithin_1 rfl ?_
  refine z_icmp_lt 10 dX0_requireWithin_2 (by decide) (fun c_2_0 => ?_) (fun c_2_0 => ?_)
  ·
    exact hthrow 10 _ "java/lang/IllegalArgumentException" "an argument is out of range" 161 163 165 (by decide) (by decide) (by decide +kernel) (List.mem_of_getElem? (i := 1) rfl) (List.mem_of_getElem? (i := 2) rfl) rfl (by decide) (fun w h => List.mem_cons_of_mem _ (by first | exact List.mem_append_right _ h | exact List.mem_append_left _ (List.mem_append_right _ h) | exact List.mem_append_left _ (List.mem_append_left _ (List.mem_append_right _ h)))) (by decide +kernel) (by decide +kernel) dX0_requireWithin_10 dX0_requireWithin_13 dX0_requireWithin_14 dX0_requireWithin_16 dX0_requireWithin_19 (by show _ = zEx _; rw [e_X0_requireWithin, if_pos c_2_0]; rfl)
  ·
    refine z_iload_n 0 dX0_requireWithin_5 rfl ?_
    refine z_iload_n 2 dX0_requireWithin_6 rfl ?_
    refine z_icmp_le 20 dX0_requireWithin_7 (by decide) (fun c_7_1 => ?_) (fun c_7_1 => ?_)
    ·
      exact absurd (by rw [e_X0_requireWithin, if_neg c_2_0, if_pos c_7_1]) he
    ·
      exact hthrow 10 _ "java/lang/IllegalArgumentException" "an argument is out of range" 161 163 165 (by decide) (by decide) (by decide +kernel) (List.mem_of_getElem? (i := 1) rfl) (List.mem_of_getElem? (i := 2) rfl) rfl (by decide) (fun w h => List.mem_cons_of_mem _ (by first | exact List.mem_append_right _ h | exact List.mem_append_left _ (List.mem_append_right _ h) | exact List.mem_append_left _ (List.mem_append_left _ (List.mem_append_right _ h)))) (by decide +kernel) (by decide +kernel) dX0_requireWithin_10 dX0_requireWithin_13 dX0_requireWithin_14 dX0_requireWithin_16 dX0_requireWithin_19 (by show _ = zEx _; rw [e_X0_requireWithin, if_neg c_2_0, if_neg c_7_1]; rfl)
set_option maxHeartbeats 4000000 in
set_option maxRecDepth 100000 in
theorem c_X0_bitOf (l : Launch) (D : va_G) (tys : List (ClassId × FieldType)) (w0 : va_W) (p1 : Int32)  : zMi l yX0_bitOf wsX0_bitOf ({ frames := 0, cells := 0, slots := 0, locals := 0 } : Room) zTT D tys w0 [.int p1] (fun (r : Int32) (_ : Unit) => r = r_X0_bitOf p1) (fun _ => w0) 0 0 := by
  refine z_startI (cc := cX0_bitOf) (n := 1) (own := RX0) (L0 := [(0, .int p1)]) (plainFor_of_name (by decide)) rfl rfl (Nat.le_of_ble_eq_true rfl) rfl (fun E hret => ?_)
  refine z_iconst (v := 1) dX0_bitOf_0 rfl ?_
  refine z_iload_n 0 dX0_bitOf_1 rfl ?_
  refine z_ishl dX0_bitOf_2 ?_
  exact hret _ () _ _ _ dX0_bitOf_3 (by rw [r_X0_bitOf]) rfl
set_option maxHeartbeats 4000000 in
set_option maxRecDepth 100000 in
theorem c_X0_has (l : Launch) (D : va_G) (tys : List (ClassId × FieldType)) (w0 : va_W) (p1 p2 : Int32)  : zMi l yX0_has wsX0_has ({ frames := 1, cells := 0, slots := 0, locals := 20 } : Room) zTT D tys w0 [.int p1, .int p2] (fun (r : Int32) (_ : Unit) => r = r_X0_has p1 p2) (fun _ => w0) 0 0 := by
  refine z_startZ (cc := cX0_has) (n := 2) (own := RX0) (L0 := [(0, .int p1), (1, .int p2)]) (plainFor_of_name (by decide)) rfl rfl (Nat.le_of_ble_eq_true rfl) rfl (fun E hret => ?_)
  refine z_iload_n 0 dX0_has_0 rfl ?_
  refine z_iload_n 1 dX0_has_1 rfl ?_
  refine z_callSi (As := [.int p2]) (st := [.int p1]) (fun l => c_X0_bitOf l D _ _ p2) zGok_TT (fun _ _ _ => trivial) (fun s args hts => va_cwS 1 hts gX0_has_X0_bitOf rfl rfl rfl (by decide +kernel) ⟨Nat.le_of_ble_eq_true rfl, Nat.le_of_ble_eq_true rfl⟩) rfl (Nat.le_of_ble_eq_true rfl) ⟨Nat.le_of_ble_eq_true rfl, Nat.le_of_ble_eq_true rfl⟩ dX0_has_2 rfl (fun r u2 hp => ?_)
  subst hp
  refine z_iand dX0_has_5 ?_
  refine z_if_eq 13 dX0_has_6 (by decide) (fun c_6_0 => ?_) (fun c_6_0 => ?_)
  ·
    refine z_iconst (v := 0) dX0_has_13 rfl ?_
    exact hret _ () _ _ _ dX0_has_14 (by rw [r_X0_has, if_pos c_6_0]) rfl rfl
  ·
    refine z_iconst (v := 1) dX0_has_9 rfl ?_
    refine z_goto 14 dX0_has_10 (by decide) ?_
    exact hret _ () _ _ _ dX0_has_14 (by rw [r_X0_has, if_neg c_6_0]) rfl rfl
set_option maxHeartbeats 4000000 in
set_option maxRecDepth 100000 in
theorem c_X0_changed (l : Launch) (D : va_G) (tys : List (ClassId × FieldType)) (w0 : va_W) (p1 p2 p3 : Int32)  : zMi l yX0_changed wsX0_changed ({ frames := 1, cells := 0, slots := 0, locals := 20 } : Room) zTT D tys w0 [.int p1, .int p2, .int p3] (fun (r : Int32) (_ : Unit) => r = r_X0_changed p1 p2 p3) (fun _ => w0) 0 0 := by
  refine z_startI (cc := cX0_changed) (n := 3) (own := RX0) (L0 := [(0, .int p1), (1, .int p2), (2, .int p3)]) (plainFor_of_name (by decide)) rfl rfl (Nat.le_of_ble_eq_true rfl) rfl (fun E hret => ?_)
  refine z_iload_n 2 dX0_changed_0 rfl ?_
  refine z_if_eq 13 dX0_changed_1 (by decide) (fun c_1_0 => ?_) (fun c_1_0 => ?_)
  ·
    refine z_iload_n 0 dX0_changed_13 rfl ?_
    refine z_iload_n 1 dX0_changed_14 rfl ?_
    refine z_callSi (As := [.int p2]) (st := [.int p1]) (fun l => c_X0_bitOf l D _ _ p2) zGok_TT (fun _ _ _ => trivial) (fun s args hts => va_cwS 1 hts gX0_changed_X0_bitOf rfl rfl rfl (by decide +kernel) ⟨Nat.le_of_ble_eq_true rfl, Nat.le_of_ble_eq_true rfl⟩) rfl (Nat.le_of_ble_eq_true rfl) ⟨Nat.le_of_ble_eq_true rfl, Nat.le_of_ble_eq_true rfl⟩ dX0_changed_15 rfl (fun r u2 hp => ?_)
    subst hp
    refine z_iconst (v := (-1)) dX0_changed_18 rfl ?_
    refine z_ixor dX0_changed_19 ?_
    refine z_iand dX0_changed_20 ?_
    exact hret _ () _ _ _ dX0_changed_21 (by rw [r_X0_changed, if_pos c_1_0]) rfl
  ·
    refine z_iload_n 0 dX0_changed_4 rfl ?_
    refine z_iload_n 1 dX0_changed_5 rfl ?_
    refine z_callSi (As := [.int p2]) (st := [.int p1]) (fun l => c_X0_bitOf l D _ _ p2) zGok_TT (fun _ _ _ => trivial) (fun s args hts => va_cwS 1 hts gX0_changed_X0_bitOf rfl rfl rfl (by decide +kernel) ⟨Nat.le_of_ble_eq_true rfl, Nat.le_of_ble_eq_true rfl⟩) rfl (Nat.le_of_ble_eq_true rfl) ⟨Nat.le_of_ble_eq_true rfl, Nat.le_of_ble_eq_true rfl⟩ dX0_changed_6 rfl (fun r u2 hp => ?_)
    subst hp
    refine z_ior dX0_changed_9 ?_
    refine z_goto 21 dX0_changed_10 (by decide) ?_
    exact hret _ () _ _ _ dX0_changed_21 (by rw [r_X0_changed, if_neg c_1_0]) rfl
set_option maxHeartbeats 4000000 in
set_option maxRecDepth 100000 in
theorem c_X0_placeOf (l : Launch) (D : va_G) (tys : List (ClassId × FieldType)) (w0 : va_W) (p1 p2 : Int32)  : zMi l yX0_placeOf wsX0_placeOf ({ frames := 0, cells := 0, slots := 0, locals := 0 } : Room) zTT D tys w0 [.int p1, .int p2] (fun (r : Int32) (_ : Unit) => r = r_X0_placeOf p1 p2) (fun _ => w0) 0 0 := by
  refine z_startI (cc := cX0_placeOf) (n := 2) (own := RX0) (L0 := [(0, .int p1), (1, .int p2)]) (plainFor_of_name (by decide)) rfl rfl (Nat.le_of_ble_eq_true rfl) rfl (fun E hret => ?_)
  refine z_iload_n 0 dX0_placeOf_0 rfl ?_
  refine z_bipush (v := 10) dX0_placeOf_1 rfl ?_
  refine z_imul dX0_placeOf_3 ?_
  refine z_iload_n 1 dX0_placeOf_4 rfl ?_
  refine z_iadd dX0_placeOf_5 ?_
  exact hret _ () _ _ _ dX0_placeOf_6 (by rw [r_X0_placeOf]) rfl
set_option maxHeartbeats 4000000 in
set_option maxRecDepth 100000 in
theorem c_X0_requireDevice (l : Launch) (D : va_G) (cI cZ : ClassId) (h : Nat) (a : Nat → Nat) (u : SX) (p1 : Int32) (he : e_X0_requireDevice u p1 = 0)  : zMv l yX0_requireDevice wsX0_requireDevice ({ frames := 0, cells := 0, slots := 0, locals := 0 } : Room) zTT D [(cI, .int), (cZ, .boolean)] (wX0 cI cZ h a u) [.ref h, .int p1] (fun _ : Unit => True) (fun _ => (wX0 cI cZ h a u)) 0 0 := by
  refine z_startV (cc := cX0_requireDevice) (n := 2) (own := RX0) (L0 := [(0, .ref h), (1, .int p1)]) (plainFor_of_name (by decide)) rfl rfl (Nat.le_of_ble_eq_true rfl) rfl (fun E hret => ?_)
  refine z_iload_n 1 dX0_requireDevice_0 rfl ?_
  refine z_if_lt 12 dX0_requireDevice_1 (by decide) (fun c_1_0 => ?_) (fun c_1_0 => ?_)
  ·
    exact absurd he (by rw [e_X0_requireDevice, if_pos c_1_0]; decide)
  ·
    refine z_iload_n 1 dX0_requireDevice_4 rfl ?_
    refine z_aload_n 0 dX0_requireDevice_5 rfl ?_
    refine z_get (C := RX0) (T := TX0) (N := 19) (v := .int (u.1 10)) inwX0_requireDevice 0 rfl rfl 10 (by decide) (List.mem_of_getElem? (i := 3) rfl) rfl rfl dX0_requireDevice_6 ?_
    refine z_icmp_lt 22 dX0_requireDevice_9 (by decide) (fun c_9_1 => ?_) (fun c_9_1 => ?_)
    ·
      exact hret () _ _ _ dX0_requireDevice_22 trivial rfl
    ·
      exact absurd he (by rw [e_X0_requireDevice, if_neg c_1_0, if_neg c_9_1]; decide)
set_option maxHeartbeats 4000000 in
set_option maxRecDepth 100000 in
theorem t_X0_requireDevice (l : Launch) (hlt : l.stackTraces = false) (D : va_G) (cI cZ : ClassId) (h : Nat) (a : Nat → Nat) (u : SX) (p1 : Int32) (he : e_X0_requireDevice u p1 ≠ 0)  : zMx l yX0_requireDevice wsX0_requireDevice ({ frames := 6, cells := 1, slots := 6, locals := 82 } : Room) D [(cI, .int), (cZ, .boolean)] (wX0 cI cZ h a u) [.ref h, .int p1] (fun E' => E' = zEx (e_X0_requireDevice u p1)) := by
  refine z_startX (cc := cX0_requireDevice) (n := 2) (own := RX0) (L0 := [(0, .ref h), (1, .int p1)]) hlt (by decide) rfl rfl (Nat.le_of_ble_eq_true rfl) rfl ⟨Nat.le_of_ble_eq_true rfl, Nat.le_of_ble_eq_true rfl⟩ (fun E hlt hthr hthrow => ?_)
  refine z_iload_n 1 dX0_requireDevice_0 rfl ?_
  refine z_if_lt 12 dX0_requireDevice_1 (by decide) (fun c_1_0 => ?_) (fun c_1_0 => ?_)
  ·
    exact hthrow 12 _ "java/lang/IndexOutOfBoundsException" "there is no such device" 166 168 170 (by decide) (by decide) (by decide +kernel) (List.mem_of_getElem? (i := 1) rfl) (List.mem_of_getElem? (i := 2) rfl) rfl (by decide) (fun w h => List.mem_cons_of_mem _ (by first | exact List.mem_append_right _ h | exact List.mem_append_left _ (List.mem_append_right _ h) | exact List.mem_append_left _ (List.mem_append_left _ (List.mem_append_right _ h)))) (by decide +kernel) (by decide +kernel) dX0_requireDevice_12 dX0_requireDevice_15 dX0_requireDevice_16 dX0_requireDevice_18 dX0_requireDevice_21 (by show _ = zEx _; rw [e_X0_requireDevice, if_pos c_1_0]; rfl)
  ·
    refine z_iload_n 1 dX0_requireDevice_4 rfl ?_
    refine z_aload_n 0 dX0_requireDevice_5 rfl ?_
    refine z_get (C := RX0) (T := TX0) (N := 19) (v := .int (u.1 10)) inwX0_requireDevice 0 rfl rfl 10 (by decide) (List.mem_of_getElem? (i := 3) rfl) rfl rfl dX0_requireDevice_6 ?_
    refine z_icmp_lt 22 dX0_requireDevice_9 (by decide) (fun c_9_1 => ?_) (fun c_9_1 => ?_)
    ·
      exact absurd (by rw [e_X0_requireDevice, if_neg c_1_0, if_pos c_9_1]) he
    ·
      exact hthrow 12 _ "java/lang/IndexOutOfBoundsException" "there is no such device" 166 168 170 (by decide) (by decide) (by decide +kernel) (List.mem_of_getElem? (i := 1) rfl) (List.mem_of_getElem? (i := 2) rfl) rfl (by decide) (fun w h => List.mem_cons_of_mem _ (by first | exact List.mem_append_right _ h | exact List.mem_append_left _ (List.mem_append_right _ h) | exact List.mem_append_left _ (List.mem_append_left _ (List.mem_append_right _ h)))) (by decide +kernel) (by decide +kernel) dX0_requireDevice_12 dX0_requireDevice_15 dX0_requireDevice_16 dX0_requireDevice_18 dX0_requireDevice_21 (by show _ = zEx _; rw [e_X0_requireDevice, if_neg c_1_0, if_neg c_9_1]; rfl)
set_option maxHeartbeats 4000000 in
set_option maxRecDepth 100000 in
theorem c_X0_requireNotice (l : Launch) (D : va_G) (cI cZ : ClassId) (h : Nat) (a : Nat → Nat) (u : SX) (p1 : Int32) (he : e_X0_requireNotice u p1 = 0)  : zMv l yX0_requireNotice wsX0_requireNotice ({ frames := 0, cells := 0, slots := 0, locals := 0 } : Room) zTT D [(cI, .int), (cZ, .boolean)] (wX0 cI cZ h a u) [.ref h, .int p1] (fun _ : Unit => True) (fun _ => (wX0 cI cZ h a u)) 0 0 := by
  refine z_startV (cc := cX0_requireNotice) (n := 2) (own := RX0) (L0 := [(0, .ref h), (1, .int p1)]) (plainFor_of_name (by decide)) rfl rfl (Nat.le_of_ble_eq_true rfl) rfl (fun E hret => ?_)
  refine z_iload_n 1 dX0_requireNotice_0 rfl ?_
  refine z_if_lt 12 dX0_requireNotice_1 (by decide) (fun c_1_0 => ?_) (fun c_1_0 => ?_)
  ·
    exact absurd he (by rw [e_X0_requireNotice, if_pos c_1_0]; decide)
  ·
    refine z_iload_n 1 dX0_requireNotice_4 rfl ?_
    refine z_aload_n 0 dX0_requireNotice_5 rfl ?_
    refine z_get (C := RX0) (T := TX0) (N := 19) (v := .int (u.1 16)) inwX0_requireNotice 0 rfl rfl 16 (by decide) (List.mem_of_getElem? (i := 3) rfl) rfl rfl dX0_requireNotice_6 ?_
    refine z_icmp_lt 22 dX0_requireNotice_9 (by decide) (fun c_9_1 => ?_) (fun c_9_1 => ?_)
    ·
      exact hret () _ _ _ dX0_requireNotice_22 trivial rfl
    ·
      exact absurd he (by rw [e_X0_requireNotice, if_neg c_1_0, if_neg c_9_1]; decide)
set_option maxHeartbeats 4000000 in
set_option maxRecDepth 100000 in
theorem t_X0_requireNotice (l : Launch) (hlt : l.stackTraces = false) (D : va_G) (cI cZ : ClassId) (h : Nat) (a : Nat → Nat) (u : SX) (p1 : Int32) (he : e_X0_requireNotice u p1 ≠ 0)  : zMx l yX0_requireNotice wsX0_requireNotice ({ frames := 6, cells := 1, slots := 6, locals := 82 } : Room) D [(cI, .int), (cZ, .boolean)] (wX0 cI cZ h a u) [.ref h, .int p1] (fun E' => E' = zEx (e_X0_requireNotice u p1)) := by
  refine z_startX (cc := cX0_requireNotice) (n := 2) (own := RX0) (L0 := [(0, .ref h), (1, .int p1)]) hlt (by decide) rfl rfl (Nat.le_of_ble_eq_true rfl) rfl ⟨Nat.le_of_ble_eq_true rfl, Nat.le_of_ble_eq_true rfl⟩ (fun E hlt hthr hthrow => ?_)
  refine z_iload_n 1 dX0_requireNotice_0 rfl ?_
  refine z_if_lt 12 dX0_requireNotice_1 (by decide) (fun c_1_0 => ?_) (fun c_1_0 => ?_)
  ·
    exact hthrow 12 _ "java/lang/IndexOutOfBoundsException" "there is no such notice" 166 171 170 (by decide) (by decide) (by decide +kernel) (List.mem_of_getElem? (i := 1) rfl) (List.mem_of_getElem? (i := 2) rfl) rfl (by decide) (fun w h => List.mem_cons_of_mem _ (by first | exact List.mem_append_right _ h | exact List.mem_append_left _ (List.mem_append_right _ h) | exact List.mem_append_left _ (List.mem_append_left _ (List.mem_append_right _ h)))) (by decide +kernel) (by decide +kernel) dX0_requireNotice_12 dX0_requireNotice_15 dX0_requireNotice_16 dX0_requireNotice_18 dX0_requireNotice_21 (by show _ = zEx _; rw [e_X0_requireNotice, if_pos c_1_0]; rfl)
  ·
    refine z_iload_n 1 dX0_requireNotice_4 rfl ?_
    refine z_aload_n 0 dX0_requireNotice_5 rfl ?_
    refine z_get (C := RX0) (T := TX0) (N := 19) (v := .int (u.1 16)) inwX0_requireNotice 0 rfl rfl 16 (by decide) (List.mem_of_getElem? (i := 3) rfl) rfl rfl dX0_requireNotice_6 ?_
    refine z_icmp_lt 22 dX0_requireNotice_9 (by decide) (fun c_9_1 => ?_) (fun c_9_1 => ?_)
    ·
      exact absurd (by rw [e_X0_requireNotice, if_neg c_1_0, if_pos c_9_1]) he
    ·
      exact hthrow 12 _ "java/lang/IndexOutOfBoundsException" "there is no such notice" 166 171 170 (by decide) (by decide) (by decide +kernel) (List.mem_of_getElem? (i := 1) rfl) (List.mem_of_getElem? (i := 2) rfl) rfl (by decide) (fun w h => List.mem_cons_of_mem _ (by first | exact List.mem_append_right _ h | exact List.mem_append_left _ (List.mem_append_right _ h) | exact List.mem_append_left _ (List.mem_append_left _ (List.mem_append_right _ h)))) (by decide +kernel) (by decide +kernel) dX0_requireNotice_12 dX0_requireNotice_15 dX0_requireNotice_16 dX0_requireNotice_18 dX0_requireNotice_21 (by show _ = zEx _; rw [e_X0_requireNotice, if_neg c_1_0, if_neg c_9_1]; rfl)
set_option maxHeartbeats 4000000 in
set_option maxRecDepth 100000 in
theorem c_X0_requireRoomForNotice (l : Launch) (D : va_G) (cI cZ : ClassId) (h : Nat) (a : Nat → Nat) (u : SX)  (he : e_X0_requireRoomForNotice u = 0)  : zMv l yX0_requireRoomForNotice wsX0_requireRoomForNotice ({ frames := 0, cells := 0, slots := 0, locals := 0 } : Room) zTT D [(cI, .int), (cZ, .boolean)] (wX0 cI cZ h a u) [.ref h] (fun _ : Unit => True) (fun _ => (wX0 cI cZ h a u)) 0 0 := by
  refine z_startV (cc := cX0_requireRoomForNotice) (n := 1) (own := RX0) (L0 := [(0, .ref h)]) (plainFor_of_name (by decide)) rfl rfl (Nat.le_of_ble_eq_true rfl) rfl (fun E hret => ?_)
  refine z_aload_n 0 dX0_requireRoomForNotice_0 rfl ?_
  refine z_get (C := RX0) (T := TX0) (N := 19) (v := .int (u.1 16)) inwX0_requireRoomForNotice 0 rfl rfl 16 (by decide) (List.mem_of_getElem? (i := 3) rfl) rfl rfl dX0_requireRoomForNotice_1 ?_
  refine z_bipush (v := 120) dX0_requireRoomForNotice_4 rfl ?_
  refine z_icmp_lt 19 dX0_requireRoomForNotice_6 (by decide) (fun c_6_0 => ?_) (fun c_6_0 => ?_)
  ·
    exact hret () _ _ _ dX0_requireRoomForNotice_19 trivial rfl
  ·
    exact absurd he (by rw [e_X0_requireRoomForNotice, if_neg c_6_0]; decide)
set_option maxHeartbeats 4000000 in
set_option maxRecDepth 100000 in
theorem t_X0_requireRoomForNotice (l : Launch) (hlt : l.stackTraces = false) (D : va_G) (cI cZ : ClassId) (h : Nat) (a : Nat → Nat) (u : SX)  (he : e_X0_requireRoomForNotice u ≠ 0)  : zMx l yX0_requireRoomForNotice wsX0_requireRoomForNotice ({ frames := 6, cells := 1, slots := 6, locals := 82 } : Room) D [(cI, .int), (cZ, .boolean)] (wX0 cI cZ h a u) [.ref h] (fun E' => E' = zEx (e_X0_requireRoomForNotice u)) := by
  refine z_startX (cc := cX0_requireRoomForNotice) (n := 1) (own := RX0) (L0 := [(0, .ref h)]) hlt (by decide) rfl rfl (Nat.le_of_ble_eq_true rfl) rfl ⟨Nat.le_of_ble_eq_true rfl, Nat.le_of_ble_eq_true rfl⟩ (fun E hlt hthr hthrow => ?_)
  refine z_aload_n 0 dX0_requireRoomForNotice_0 rfl ?_
  refine z_get (C := RX0) (T := TX0) (N := 19) (v := .int (u.1 16)) inwX0_requireRoomForNotice 0 rfl rfl 16 (by decide) (List.mem_of_getElem? (i := 3) rfl) rfl rfl dX0_requireRoomForNotice_1 ?_
  refine z_bipush (v := 120) dX0_requireRoomForNotice_4 rfl ?_
  refine z_icmp_lt 19 dX0_requireRoomForNotice_6 (by decide) (fun c_6_0 => ?_) (fun c_6_0 => ?_)
  ·
    exact absurd (by rw [e_X0_requireRoomForNotice, if_pos c_6_0]) he
  ·
    exact hthrow 9 _ "java/lang/IllegalStateException" "120 notices have been sent" 73 173 77 (by decide) (by decide) (by decide +kernel) (List.mem_of_getElem? (i := 1) rfl) (List.mem_of_getElem? (i := 2) rfl) rfl (by decide) (fun w h => List.mem_cons_of_mem _ (by first | exact List.mem_append_right _ h | exact List.mem_append_left _ (List.mem_append_right _ h) | exact List.mem_append_left _ (List.mem_append_left _ (List.mem_append_right _ h)))) (by decide +kernel) (by decide +kernel) dX0_requireRoomForNotice_9 dX0_requireRoomForNotice_12 dX0_requireRoomForNotice_13 dX0_requireRoomForNotice_15 dX0_requireRoomForNotice_18 (by show _ = zEx _; rw [e_X0_requireRoomForNotice, if_neg c_6_0]; rfl)
set_option maxHeartbeats 4000000 in
set_option maxRecDepth 100000 in
theorem c_X0_localTime (l : Launch) (D : va_G) (cI cZ : ClassId) (h : Nat) (a : Nat → Nat) (u : SX) (p1 : Int32) (hp1 : vp_in p1 16) : zMi l yX0_localTime wsX0_localTime ({ frames := 1, cells := 0, slots := 0, locals := 22 } : Room) zTT D [(cI, .int), (cZ, .boolean)] (wX0 cI cZ h a u) [.ref h, .int p1] (fun (r : Int32) (_ : Unit) => r = r_X0_localTime u p1) (fun _ => (wX0 cI cZ h a u)) 0 0 := by
  refine z_startI (cc := cX0_localTime) (n := 2) (own := RX0) (L0 := [(0, .ref h), (1, .int p1)]) (plainFor_of_name (by decide)) rfl rfl (Nat.le_of_ble_eq_true rfl) rfl (fun E hret => ?_)
  refine z_aload_n 0 dX0_localTime_0 rfl ?_
  refine z_get (C := RX0) (T := TX0) (N := 19) (v := .int (u.1 17)) inwX0_localTime 0 rfl rfl 17 (by decide) (List.mem_of_getElem? (i := 1) rfl) rfl rfl dX0_localTime_1 ?_
  refine z_aload_n 0 dX0_localTime_4 rfl ?_
  refine z_get (C := RX0) (T := TX0) (N := 19) (v := .ref (a 5)) inwX0_localTime 0 rfl rfl 5 (by decide) (List.mem_of_getElem? (i := 2) rfl) rfl rfl dX0_localTime_5 ?_
  refine z_iload_n 1 dX0_localTime_8 rfl ?_
  refine z_iald (v := (u.2 5 (ix p1))) 3 0 rfl rfl (by first | (with_reducible assumption) | assumption | decide) rfl dX0_localTime_9 ?_
  refine z_iadd dX0_localTime_10 ?_
  refine z_sipush (v := 1440) dX0_localTime_11 rfl ?_
  refine z_callSi (As := [.int ((u.1 17) + (u.2 5 (ix p1))), .int 1440]) (st := []) (fun l => c_J9_floorMod_7cf53 l D _ _ ((u.1 17) + (u.2 5 (ix p1))) 1440 (by first | (with_reducible assumption) | assumption | decide)) zGok_TT (fun _ _ _ => trivial) (fun s args hts => va_cwS 2 hts gX0_localTime_J9_floorMod_7cf53 rfl rfl rfl (by decide +kernel) ⟨Nat.le_of_ble_eq_true rfl, Nat.le_of_ble_eq_true rfl⟩) rfl (Nat.le_of_ble_eq_true rfl) ⟨Nat.le_of_ble_eq_true rfl, Nat.le_of_ble_eq_true rfl⟩ dX0_localTime_14 rfl (fun r u2 hp => ?_)
  subst hp
  exact hret _ () _ _ _ dX0_localTime_17 (by rw [r_X0_localTime]) rfl
set_option maxHeartbeats 4000000 in
set_option maxRecDepth 100000 in
theorem c_X0_isInQuietHours (l : Launch) (D : va_G) (cI cZ : ClassId) (h : Nat) (a : Nat → Nat) (u : SX) (p1 : Int32) (hp1 : vp_in p1 16) : zMi l yX0_isInQuietHours wsX0_isInQuietHours ({ frames := 2, cells := 0, slots := 0, locals := 43 } : Room) zTT D [(cI, .int), (cZ, .boolean)] (wX0 cI cZ h a u) [.ref h, .int p1] (fun (r : Int32) (_ : Unit) => r = r_X0_isInQuietHours u p1) (fun _ => (wX0 cI cZ h a u)) 0 0 := by
  refine z_startZ (cc := cX0_isInQuietHours) (n := 4) (own := RX0) (L0 := [(0, .ref h), (1, .int p1)]) (plainFor_of_name (by decide)) rfl rfl (Nat.le_of_ble_eq_true rfl) rfl (fun E hret => ?_)
  refine z_aload_n 0 dX0_isInQuietHours_0 rfl ?_
  refine z_iload_n 1 dX0_isInQuietHours_1 rfl ?_
  refine z_callVi (As := [.int p1]) (st := []) (fun l => c_X0_localTime l D cI cZ h a u p1 (by first | (with_reducible assumption) | assumption | decide)) zGok_TT (fun _ _ _ => trivial) (fun s args hts => cwV 1 hts gX0_isInQuietHours_X0_localTime rfl rfl rfl (by decide +kernel) ⟨Nat.le_of_ble_eq_true rfl, Nat.le_of_ble_eq_true rfl⟩) (ci := 0) rfl rfl rfl rfl (Nat.le_of_ble_eq_true rfl) ⟨Nat.le_of_ble_eq_true rfl, Nat.le_of_ble_eq_true rfl⟩ dX0_isInQuietHours_2 rfl (fun r u2 hp => ?_)
  subst hp
  refine z_aload_n 0 dX0_isInQuietHours_5 rfl ?_
  refine z_get (C := RX0) (T := TX0) (N := 19) (v := .ref (a 6)) inwX0_isInQuietHours 0 rfl rfl 6 (by decide) (List.mem_of_getElem? (i := 1) rfl) rfl rfl dX0_isInQuietHours_6 ?_
  refine z_iload_n 1 dX0_isInQuietHours_9 rfl ?_
  refine z_iald (v := (u.2 6 (ix p1))) 4 0 rfl rfl (by first | (with_reducible assumption) | assumption | decide) rfl dX0_isInQuietHours_10 ?_
  refine z_isub dX0_isInQuietHours_11 ?_
  refine z_sipush (v := 1440) dX0_isInQuietHours_12 rfl ?_
  refine z_callSi (As := [.int ((r_X0_localTime u p1) - (u.2 6 (ix p1))), .int 1440]) (st := []) (fun l => c_J9_floorMod_7cf53 l D _ _ ((r_X0_localTime u p1) - (u.2 6 (ix p1))) 1440 (by first | (with_reducible assumption) | assumption | decide)) zGok_TT (fun _ _ _ => trivial) (fun s args hts => va_cwS 2 hts gX0_isInQuietHours_J9_floorMod_7cf53 rfl rfl rfl (by decide +kernel) ⟨Nat.le_of_ble_eq_true rfl, Nat.le_of_ble_eq_true rfl⟩) rfl (Nat.le_of_ble_eq_true rfl) ⟨Nat.le_of_ble_eq_true rfl, Nat.le_of_ble_eq_true rfl⟩ dX0_isInQuietHours_15 rfl (fun r u2 hp => ?_)
  subst hp
  refine z_istore_n (L' := [(2, .int (r_J9_floorMod_7cf53 ((r_X0_localTime u p1) - (u.2 6 (ix p1))) 1440)), (0, .ref h), (1, .int p1)]) dX0_isInQuietHours_18 (by decide) rfl ?_
  refine z_aload_n 1 dX0_isInQuietHours_19 rfl ?_
  refine z_get (C := RX0) (T := TX0) (N := 19) (v := .ref (a 7)) inwX0_isInQuietHours 0 rfl rfl 7 (by decide) (List.mem_of_getElem? (i := 2) rfl) rfl rfl dX0_isInQuietHours_20 ?_
  refine z_iload_n 2 dX0_isInQuietHours_23 rfl ?_
  refine z_iald (v := (u.2 7 (ix p1))) 5 0 rfl rfl (by first | (with_reducible assumption) | assumption | decide) rfl dX0_isInQuietHours_24 ?_
  refine z_aload_n 1 dX0_isInQuietHours_25 rfl ?_
  refine z_get (C := RX0) (T := TX0) (N := 19) (v := .ref (a 6)) inwX0_isInQuietHours 0 rfl rfl 6 (by decide) (List.mem_of_getElem? (i := 1) rfl) rfl rfl dX0_isInQuietHours_26 ?_
  refine z_iload_n 2 dX0_isInQuietHours_29 rfl ?_
  refine z_iald (v := (u.2 6 (ix p1))) 4 0 rfl rfl (by first | (with_reducible assumption) | assumption | decide) rfl dX0_isInQuietHours_30 ?_
  refine z_isub dX0_isInQuietHours_31 ?_
  refine z_sipush (v := 1440) dX0_isInQuietHours_32 rfl ?_
  refine z_callSi (As := [.int ((u.2 7 (ix p1)) - (u.2 6 (ix p1))), .int 1440]) (st := []) (fun l => c_J9_floorMod_7cf53 l D _ _ ((u.2 7 (ix p1)) - (u.2 6 (ix p1))) 1440 (by first | (with_reducible assumption) | assumption | decide)) zGok_TT (fun _ _ _ => trivial) (fun s args hts => va_cwS 2 hts gX0_isInQuietHours_J9_floorMod_7cf53 rfl rfl rfl (by decide +kernel) ⟨Nat.le_of_ble_eq_true rfl, Nat.le_of_ble_eq_true rfl⟩) rfl (Nat.le_of_ble_eq_true rfl) ⟨Nat.le_of_ble_eq_true rfl, Nat.le_of_ble_eq_true rfl⟩ dX0_isInQuietHours_35 rfl (fun r u2 hp => ?_)
  subst hp
  refine z_istore_n (L' := [(3, .int (r_J9_floorMod_7cf53 ((u.2 7 (ix p1)) - (u.2 6 (ix p1))) 1440)), (2, .int (r_J9_floorMod_7cf53 ((r_X0_localTime u p1) - (u.2 6 (ix p1))) 1440)), (0, .ref h), (1, .int p1)]) dX0_isInQuietHours_38 (by decide) rfl ?_
  refine z_iload_n 1 dX0_isInQuietHours_39 rfl ?_
  refine z_iload_n 0 dX0_isInQuietHours_40 rfl ?_
  refine z_icmp_ge 48 dX0_isInQuietHours_41 (by decide) (fun c_41_0 => ?_) (fun c_41_0 => ?_)
  ·
    refine z_iconst (v := 0) dX0_isInQuietHours_48 rfl ?_
    exact hret _ () _ _ _ dX0_isInQuietHours_49 (by rw [r_X0_isInQuietHours, if_pos c_41_0]) rfl rfl
  ·
    refine z_iconst (v := 1) dX0_isInQuietHours_44 rfl ?_
    refine z_goto 49 dX0_isInQuietHours_45 (by decide) ?_
    exact hret _ () _ _ _ dX0_isInQuietHours_49 (by rw [r_X0_isInQuietHours, if_neg c_41_0]) rfl rfl
set_option maxHeartbeats 4000000 in
set_option maxRecDepth 100000 in
theorem c_X0_spentToday (l : Launch) (D : va_G) (cI cZ : ClassId) (h : Nat) (a : Nat → Nat) (u : SX) (p1 : Int32) (hp1 : vp_in p1 16) : zMi l yX0_spentToday wsX0_spentToday ({ frames := 0, cells := 0, slots := 0, locals := 0 } : Room) zTT D [(cI, .int), (cZ, .boolean)] (wX0 cI cZ h a u) [.ref h, .int p1] (fun (r : Int32) (_ : Unit) => r = r_X0_spentToday u p1) (fun _ => (wX0 cI cZ h a u)) 0 0 := by
  refine z_startI (cc := cX0_spentToday) (n := 2) (own := RX0) (L0 := [(0, .ref h), (1, .int p1)]) (plainFor_of_name (by decide)) rfl rfl (Nat.le_of_ble_eq_true rfl) rfl (fun E hret => ?_)
  refine z_aload_n 0 dX0_spentToday_0 rfl ?_
  refine z_get (C := RX0) (T := TX0) (N := 19) (v := .ref (a 8)) inwX0_spentToday 0 rfl rfl 8 (by decide) (List.mem_of_getElem? (i := 1) rfl) rfl rfl dX0_spentToday_1 ?_
  refine z_iload_n 1 dX0_spentToday_4 rfl ?_
  refine z_iald (v := (u.2 8 (ix p1))) 6 0 rfl rfl (by first | (with_reducible assumption) | assumption | decide) rfl dX0_spentToday_5 ?_
  refine z_aload_n 0 dX0_spentToday_6 rfl ?_
  refine z_get (C := RX0) (T := TX0) (N := 19) (v := .int (u.1 17)) inwX0_spentToday 0 rfl rfl 17 (by decide) (List.mem_of_getElem? (i := 2) rfl) rfl rfl dX0_spentToday_7 ?_
  refine z_sipush (v := 1440) dX0_spentToday_10 rfl ?_
  refine z_idiv dX0_spentToday_13 (by decide) ?_
  refine z_icmp_ne 26 dX0_spentToday_14 (by decide) (fun c_14_0 => ?_) (fun c_14_0 => ?_)
  ·
    refine z_iconst (v := 0) dX0_spentToday_26 rfl ?_
    exact hret _ () _ _ _ dX0_spentToday_27 (by rw [r_X0_spentToday, if_neg c_14_0]) rfl
  ·
    refine z_aload_n 0 dX0_spentToday_17 rfl ?_
    refine z_get (C := RX0) (T := TX0) (N := 19) (v := .ref (a 9)) inwX0_spentToday 0 rfl rfl 9 (by decide) (List.mem_of_getElem? (i := 3) rfl) rfl rfl dX0_spentToday_18 ?_
    refine z_iload_n 1 dX0_spentToday_21 rfl ?_
    refine z_iald (v := (u.2 9 (ix p1))) 7 0 rfl rfl (by first | (with_reducible assumption) | assumption | decide) rfl dX0_spentToday_22 ?_
    refine z_goto 27 dX0_spentToday_23 (by decide) ?_
    exact hret _ () _ _ _ dX0_spentToday_27 (by rw [r_X0_spentToday, if_pos c_14_0]) rfl
set_option maxHeartbeats 4000000 in
set_option maxRecDepth 100000 in
theorem c_X0_isStanding (l : Launch) (D : va_G) (cI cZ : ClassId) (h : Nat) (a : Nat → Nat) (u : SX) (p1 : Int32) (hp1 : vp_in p1 120) : zMi l yX0_isStanding wsX0_isStanding ({ frames := 0, cells := 0, slots := 0, locals := 0 } : Room) zTT D [(cI, .int), (cZ, .boolean)] (wX0 cI cZ h a u) [.ref h, .int p1] (fun (r : Int32) (_ : Unit) => r = r_X0_isStanding u p1) (fun _ => (wX0 cI cZ h a u)) 0 0 := by
  refine z_startZ (cc := cX0_isStanding) (n := 2) (own := RX0) (L0 := [(0, .ref h), (1, .int p1)]) (plainFor_of_name (by decide)) rfl rfl (Nat.le_of_ble_eq_true rfl) rfl (fun E hret => ?_)
  refine z_aload_n 0 dX0_isStanding_0 rfl ?_
  refine z_get (C := RX0) (T := TX0) (N := 19) (v := .int (u.1 17)) inwX0_isStanding 0 rfl rfl 17 (by decide) (List.mem_of_getElem? (i := 1) rfl) rfl rfl dX0_isStanding_1 ?_
  refine z_aload_n 0 dX0_isStanding_4 rfl ?_
  refine z_get (C := RX0) (T := TX0) (N := 19) (v := .ref (a 12)) inwX0_isStanding 0 rfl rfl 12 (by decide) (List.mem_of_getElem? (i := 2) rfl) rfl rfl dX0_isStanding_5 ?_
  refine z_iload_n 1 dX0_isStanding_8 rfl ?_
  refine z_iald (v := (u.2 12 (ix p1))) 9 0 rfl rfl (by first | (with_reducible assumption) | assumption | decide) rfl dX0_isStanding_9 ?_
  refine z_icmp_ge 17 dX0_isStanding_10 (by decide) (fun c_10_0 => ?_) (fun c_10_0 => ?_)
  ·
    refine z_iconst (v := 0) dX0_isStanding_17 rfl ?_
    exact hret _ () _ _ _ dX0_isStanding_18 (by rw [r_X0_isStanding, if_pos c_10_0]) rfl rfl
  ·
    refine z_iconst (v := 1) dX0_isStanding_13 rfl ?_
    refine z_goto 18 dX0_isStanding_14 (by decide) ?_
    exact hret _ () _ _ _ dX0_isStanding_18 (by rw [r_X0_isStanding, if_neg c_10_0]) rfl rfl
set_option maxHeartbeats 4000000 in
set_option maxRecDepth 100000 in
theorem c_X0_waitsNow (l : Launch) (D : va_G) (cI cZ : ClassId) (h : Nat) (a : Nat → Nat) (u : SX) (p1 : Int32) (hp1 : vp_in p1 120) : zMi l yX0_waitsNow wsX0_waitsNow ({ frames := 1, cells := 0, slots := 0, locals := 21 } : Room) zTT D [(cI, .int), (cZ, .boolean)] (wX0 cI cZ h a u) [.ref h, .int p1] (fun (r : Int32) (_ : Unit) => r = r_X0_waitsNow u p1) (fun _ => (wX0 cI cZ h a u)) 0 0 := by
  refine z_startI (cc := cX0_waitsNow) (n := 2) (own := RX0) (L0 := [(0, .ref h), (1, .int p1)]) (plainFor_of_name (by decide)) rfl rfl (Nat.le_of_ble_eq_true rfl) rfl (fun E hret => ?_)
  refine z_aload_n 0 dX0_waitsNow_0 rfl ?_
  refine z_iload_n 1 dX0_waitsNow_1 rfl ?_
  refine z_callVi (As := [.int p1]) (st := []) (fun l => c_X0_isStanding l D cI cZ h a u p1 (by first | (with_reducible assumption) | assumption | decide)) zGok_TT (fun _ _ _ => trivial) (fun s args hts => cwV 1 hts gX0_waitsNow_X0_isStanding rfl rfl rfl (by decide +kernel) ⟨Nat.le_of_ble_eq_true rfl, Nat.le_of_ble_eq_true rfl⟩) (ci := 0) rfl rfl rfl rfl (Nat.le_of_ble_eq_true rfl) ⟨Nat.le_of_ble_eq_true rfl, Nat.le_of_ble_eq_true rfl⟩ dX0_waitsNow_2 rfl (fun r u2 hp => ?_)
  subst hp
  refine z_if_eq 17 dX0_waitsNow_5 (by decide) (fun c_5_0 => ?_) (fun c_5_0 => ?_)
  ·
    refine z_iconst (v := 0) dX0_waitsNow_17 rfl ?_
    exact hret _ () _ _ _ dX0_waitsNow_18 (by rw [r_X0_waitsNow, if_pos c_5_0]) rfl
  ·
    refine z_aload_n 0 dX0_waitsNow_8 rfl ?_
    refine z_get (C := RX0) (T := TX0) (N := 19) (v := .ref (a 13)) inwX0_waitsNow 0 rfl rfl 13 (by decide) (List.mem_of_getElem? (i := 1) rfl) rfl rfl dX0_waitsNow_9 ?_
    refine z_iload_n 1 dX0_waitsNow_12 rfl ?_
    refine z_iald (v := (u.2 13 (ix p1))) 10 0 rfl rfl (by first | (with_reducible assumption) | assumption | decide) rfl dX0_waitsNow_13 ?_
    refine z_goto 18 dX0_waitsNow_14 (by decide) ?_
    exact hret _ () _ _ _ dX0_waitsNow_18 (by rw [r_X0_waitsNow, if_neg c_5_0]) rfl
set_option maxHeartbeats 4000000 in
set_option maxRecDepth 100000 in
theorem c_X0_withdraw (l : Launch) (D : va_G) (cI cZ : ClassId) (h : Nat) (a : Nat → Nat) (u : SX) (p1 : Int32) (hp1 : vp_in p1 120) : zMv l yX0_withdraw wsX0_withdraw ({ frames := 0, cells := 0, slots := 0, locals := 0 } : Room) zTT D [(cI, .int), (cZ, .boolean)] (wX0 cI cZ h a u) [.ref h, .int p1] (fun u2 : SX => u2 = s_X0_withdraw u p1) (fun u2 => (wX0 cI cZ h a u2)) 0 0 := by
  refine z_startV (cc := cX0_withdraw) (n := 2) (own := RX0) (L0 := [(0, .ref h), (1, .int p1)]) (plainFor_of_name (by decide)) rfl rfl (Nat.le_of_ble_eq_true rfl) rfl (fun E hret => ?_)
  refine z_aload_n 0 dX0_withdraw_0 rfl ?_
  refine z_get (C := RX0) (T := TX0) (N := 19) (v := .ref (a 12)) inwX0_withdraw 0 rfl rfl 12 (by decide) (List.mem_of_getElem? (i := 1) rfl) rfl rfl dX0_withdraw_1 ?_
  refine z_iload_n 1 dX0_withdraw_4 rfl ?_
  refine z_aload_n 0 dX0_withdraw_5 rfl ?_
  refine z_get (C := RX0) (T := TX0) (N := 19) (v := .int (u.1 17)) inwX0_withdraw 0 rfl rfl 17 (by decide) (List.mem_of_getElem? (i := 2) rfl) rfl rfl dX0_withdraw_6 ?_
  refine z_iast (w' := (wX0 cI cZ h a (pG u 12 (ix p1) (u.1 17)))) 9 0 rfl rfl (by first | (with_reducible assumption) | assumption | decide) (wX0_g12 _ _ _ _ _ _ _) dX0_withdraw_9 ?_
  exact hret (pG u 12 (ix p1) (u.1 17)) _ _ _ dX0_withdraw_10 (by rw [s_X0_withdraw]) rfl
set_option maxHeartbeats 4000000 in
set_option maxRecDepth 100000 in
theorem c_X0_countWaiting (l : Launch) (D : va_G) (cI cZ : ClassId) (h : Nat) (a : Nat → Nat) (u : SX) (p1 : Int32) (nn : Nat) (hnn : u.1 16 = nI nn) (hn : nn ≤ 120) : zMi l yX0_countWaiting wsX0_countWaiting ({ frames := 2, cells := 0, slots := 0, locals := 42 } : Room) zTT D [(cI, .int), (cZ, .boolean)] (wX0 cI cZ h a u) [.ref h, .int p1] (fun (r : Int32) (_ : Unit) => r = r_X0_countWaiting u p1) (fun _ => (wX0 cI cZ h a u)) 0 0 := by
  refine z_startI (cc := cX0_countWaiting) (n := 4) (own := RX0) (L0 := [(0, .ref h), (1, .int p1)]) (plainFor_of_name (by decide)) rfl rfl (Nat.le_of_ble_eq_true rfl) rfl (fun E hret => ?_)
  have hixnn : ix (u.1 16) = nn := by rw [hnn]; exact nI_clamp (by omega)
  refine z_iconst (v := 0) dX0_countWaiting_0 rfl ?_
  refine z_istore_n (L' := [(2, .int 0), (0, .ref h), (1, .int p1)]) dX0_countWaiting_1 (by decide) rfl ?_
  refine z_iconst (v := 0) dX0_countWaiting_2 rfl ?_
  refine z_istore_n (L' := [(3, .int 0), (2, .int 0), (0, .ref h), (1, .int p1)]) dX0_countWaiting_3 (by decide) rfl ?_
  refine z_sub (L' := [(0, .ref h), (1, .int p1), (2, .int 0), (3, .int 0)]) [2, 3, 1, 0] rfl ?_
  have hloop4 : ∀ r k4 : Nat, k4 + r = nn → ZW E zTT ({ frames := 2, cells := 0, slots := 0, locals := 42 } : Room) cX0_countWaiting RX0 wsX0_countWaiting 4 D [(cI, .int), (cZ, .boolean)] 0 0 (wX0 cI cZ h a u) 4 [(0, .ref h), (1, .int p1), (2, .int (l_X0_countWaiting_4 u p1 k4)), (3, .int (nI k4))] [] := by
    intro r
    induction r with
    | zero =>
      intro k4 hk4
      have hkN4 : nn = k4 := by omega
      subst hkN4
      refine z_iload_n 3 dX0_countWaiting_4 rfl ?_
      refine z_aload_n 0 dX0_countWaiting_5 rfl ?_
      refine z_get (C := RX0) (T := TX0) (N := 19) (v := .int (u.1 16)) inwX0_countWaiting 0 rfl rfl 16 (by decide) (List.mem_of_getElem? (i := 1) rfl) rfl rfl dX0_countWaiting_6 ?_
      refine z_icmp_ge 33 dX0_countWaiting_9 (by decide) (fun c_9_1 => ?_) (fun c_9_1 => ?_)
      ·
        refine z_iload_n 2 dX0_countWaiting_33 rfl ?_
        exact hret _ () _ _ _ dX0_countWaiting_34 (by rw [r_X0_countWaiting, hixnn]) rfl
      · exact absurd (by rw [hnn]; exact nI_le (Nat.le_refl _) (by omega)) c_9_1
    | succ r ih4 =>
      intro k4 hk4
      obtain ⟨x4, hx4⟩ : ∃ x, x = l_X0_countWaiting_4 u p1 k4 := ⟨_, rfl⟩
      rw [← hx4]
      refine z_iload_n 3 dX0_countWaiting_4 rfl ?_
      refine z_aload_n 0 dX0_countWaiting_5 rfl ?_
      refine z_get (C := RX0) (T := TX0) (N := 19) (v := .int (u.1 16)) inwX0_countWaiting 0 rfl rfl 16 (by decide) (List.mem_of_getElem? (i := 1) rfl) rfl rfl dX0_countWaiting_6 ?_
      refine z_icmp_ge 33 dX0_countWaiting_9 (by decide) (fun c_9_0 => ?_) (fun c_9_0 => ?_)
      · exact absurd c_9_0 (by rw [hnn]; exact nI_ge (by omega) (by omega))
      ·
        refine z_aload_n 0 dX0_countWaiting_12 rfl ?_
        refine z_iload_n 3 dX0_countWaiting_13 rfl ?_
        refine z_callVi (As := [.int (nI k4)]) (st := []) (fun l => c_X0_waitsNow l D cI cZ h a u (nI k4) (by first | (with_reducible assumption) | with_reducible exact vp_in_nI (by omega) (by omega) | with_reducible exact znot hnn hn (by assumption) | exact hnn | assumption | decide)) zGok_TT (fun _ _ _ => trivial) (fun s args hts => cwV 1 hts gX0_countWaiting_X0_waitsNow rfl rfl rfl (by decide +kernel) ⟨Nat.le_of_ble_eq_true rfl, Nat.le_of_ble_eq_true rfl⟩) (ci := 0) rfl rfl rfl rfl (Nat.le_of_ble_eq_true rfl) ⟨Nat.le_of_ble_eq_true rfl, Nat.le_of_ble_eq_true rfl⟩ dX0_countWaiting_14 rfl (fun r u2 hp => ?_)
        subst hp
        refine z_iload_n 1 dX0_countWaiting_17 rfl ?_
        refine z_callSi (As := [.int (r_X0_waitsNow u (nI k4)), .int p1]) (st := []) (fun l => c_X0_has l D _ _ (r_X0_waitsNow u (nI k4)) p1) zGok_TT (fun _ _ _ => trivial) (fun s args hts => va_cwS 2 hts gX0_countWaiting_X0_has rfl rfl rfl (by decide +kernel) ⟨Nat.le_of_ble_eq_true rfl, Nat.le_of_ble_eq_true rfl⟩) rfl (Nat.le_of_ble_eq_true rfl) ⟨Nat.le_of_ble_eq_true rfl, Nat.le_of_ble_eq_true rfl⟩ dX0_countWaiting_18 rfl (fun r u2 hp => ?_)
        subst hp
        refine z_if_eq 27 dX0_countWaiting_21 (by decide) (fun c_21_2 => ?_) (fun c_21_2 => ?_)
        ·
          refine z_iinc (v := (nI (k4 + 1))) (L' := [(3, .int (nI (k4 + 1))), (0, .ref h), (1, .int p1), (2, .int x4)]) 3 dX0_countWaiting_27 rfl (nI_1 k4) (by decide) rfl ?_
          refine z_goto 4 dX0_countWaiting_30 (by decide) ?_
          have hb4 : l_X0_countWaiting_4 u p1 (k4 + 1) = x4 := by
            show b_X0_countWaiting_4 u p1 k4 (l_X0_countWaiting_4 u p1 k4) = _
            rw [← hx4, b_X0_countWaiting_4, if_pos c_21_2]
          refine z_sub (L' := [(0, .ref h), (1, .int p1), (2, .int x4), (3, .int (nI (k4 + 1)))]) [1, 2, 3, 0] rfl ?_
          have ih2 := ih4 (k4 + 1) (by omega)
          rw [hb4] at ih2
          exact ih2
        ·
          refine z_iinc (v := (x4 + 1)) (L' := [(2, .int (x4 + 1)), (0, .ref h), (1, .int p1), (3, .int (nI k4))]) 2 dX0_countWaiting_24 rfl rfl (by decide) rfl ?_
          refine z_iinc (v := (nI (k4 + 1))) (L' := [(3, .int (nI (k4 + 1))), (2, .int (x4 + 1)), (0, .ref h), (1, .int p1)]) 3 dX0_countWaiting_27 rfl (nI_1 k4) (by decide) rfl ?_
          refine z_goto 4 dX0_countWaiting_30 (by decide) ?_
          have hb4 : l_X0_countWaiting_4 u p1 (k4 + 1) = (x4 + 1) := by
            show b_X0_countWaiting_4 u p1 k4 (l_X0_countWaiting_4 u p1 k4) = _
            rw [← hx4, b_X0_countWaiting_4, if_neg c_21_2]
          refine z_sub (L' := [(0, .ref h), (1, .int p1), (2, .int (x4 + 1)), (3, .int (nI (k4 + 1)))]) [2, 3, 1, 0] rfl ?_
          have ih2 := ih4 (k4 + 1) (by omega)
          rw [hb4] at ih2
          exact ih2
  exact hloop4 nn 0 (by omega)
set_option maxHeartbeats 4000000 in
set_option maxRecDepth 100000 in
theorem c_X0_spendQuota (l : Launch) (D : va_G) (cI cZ : ClassId) (h : Nat) (a : Nat → Nat) (u : SX) (p1 : Int32) (nd : Nat) (hnd : u.1 10 = nI nd) (hd : nd ≤ 16) : zMv l yX0_spendQuota wsX0_spendQuota ({ frames := 2, cells := 0, slots := 0, locals := 41 } : Room) zTT D [(cI, .int), (cZ, .boolean)] (wX0 cI cZ h a u) [.ref h, .int p1] (fun u2 : SX => u2 = s_X0_spendQuota u p1) (fun u2 => (wX0 cI cZ h a u2)) 0 0 := by
  refine z_startV (cc := cX0_spendQuota) (n := 3) (own := RX0) (L0 := [(0, .ref h), (1, .int p1)]) (plainFor_of_name (by decide)) rfl rfl (Nat.le_of_ble_eq_true rfl) rfl (fun E hret => ?_)
  have hixnd : ix (u.1 10) = nd := by rw [hnd]; exact nI_clamp (by omega)
  refine z_iconst (v := 0) dX0_spendQuota_0 rfl ?_
  refine z_istore_n (L' := [(2, .int 0), (0, .ref h), (1, .int p1)]) dX0_spendQuota_1 (by decide) rfl ?_
  refine z_sub (L' := [(0, .ref h), (1, .int p1), (2, .int 0)]) [1, 2, 0] rfl ?_
  have hloop2 : ∀ r k2 : Nat, k2 + r = nd → ZW E zTT ({ frames := 2, cells := 0, slots := 0, locals := 41 } : Room) cX0_spendQuota RX0 wsX0_spendQuota 3 D [(cI, .int), (cZ, .boolean)] 0 0 (wX0 cI cZ h a (l_X0_spendQuota_2 u p1 k2)) 2 [(0, .ref h), (1, .int p1), (2, .int (nI k2))] [] := by
    intro r
    induction r with
    | zero =>
      intro k2 hk2
      have hkN2 : nd = k2 := by omega
      subst hkN2
      have hbx : ((l_X0_spendQuota_2 u p1 nd).1 10) = nI nd := by first | (rw [hx2, lf_X0_spendQuota_2]; exact hnd) | (rw [lf_X0_spendQuota_2]; exact hnd)
      refine z_iload_n 2 dX0_spendQuota_2 rfl ?_
      refine z_aload_n 0 dX0_spendQuota_3 rfl ?_
      refine z_get (C := RX0) (T := TX0) (N := 19) (v := .int ((l_X0_spendQuota_2 u p1 nd).1 10)) inwX0_spendQuota 0 rfl rfl 10 (by decide) (List.mem_of_getElem? (i := 1) rfl) rfl rfl dX0_spendQuota_4 ?_
      refine z_icmp_ge 51 dX0_spendQuota_7 (by decide) (fun c_7_1 => ?_) (fun c_7_1 => ?_)
      ·
        exact hret (l_X0_spendQuota_2 u p1 nd) _ _ _ dX0_spendQuota_51 (by rw [s_X0_spendQuota, hixnd]) rfl
      · exact absurd (by rw [hbx]; exact nI_le (Nat.le_refl _) (by omega)) c_7_1
    | succ r ih2 =>
      intro k2 hk2
      obtain ⟨x2, hx2⟩ : ∃ x, x = l_X0_spendQuota_2 u p1 k2 := ⟨_, rfl⟩
      rw [← hx2]
      have hbx : (x2.1 10) = nI nd := by first | (rw [hx2, lf_X0_spendQuota_2]; exact hnd) | (rw [lf_X0_spendQuota_2]; exact hnd)
      refine z_iload_n 2 dX0_spendQuota_2 rfl ?_
      refine z_aload_n 0 dX0_spendQuota_3 rfl ?_
      refine z_get (C := RX0) (T := TX0) (N := 19) (v := .int (x2.1 10)) inwX0_spendQuota 0 rfl rfl 10 (by decide) (List.mem_of_getElem? (i := 1) rfl) rfl rfl dX0_spendQuota_4 ?_
      refine z_icmp_ge 51 dX0_spendQuota_7 (by decide) (fun c_7_0 => ?_) (fun c_7_0 => ?_)
      · exact absurd c_7_0 (by rw [hbx]; exact nI_ge (by omega) (by omega))
      ·
        refine z_iload_n 1 dX0_spendQuota_10 rfl ?_
        refine z_iload_n 2 dX0_spendQuota_11 rfl ?_
        refine z_callSi (As := [.int p1, .int (nI k2)]) (st := []) (fun l => c_X0_has l D _ _ p1 (nI k2)) zGok_TT (fun _ _ _ => trivial) (fun s args hts => va_cwS 2 hts gX0_spendQuota_X0_has rfl rfl rfl (by decide +kernel) ⟨Nat.le_of_ble_eq_true rfl, Nat.le_of_ble_eq_true rfl⟩) rfl (Nat.le_of_ble_eq_true rfl) ⟨Nat.le_of_ble_eq_true rfl, Nat.le_of_ble_eq_true rfl⟩ dX0_spendQuota_12 rfl (fun r u2 hp => ?_)
        subst hp
        refine z_if_eq 45 dX0_spendQuota_15 (by decide) (fun c_15_2 => ?_) (fun c_15_2 => ?_)
        ·
          refine z_iinc (v := (nI (k2 + 1))) (L' := [(2, .int (nI (k2 + 1))), (0, .ref h), (1, .int p1)]) 2 dX0_spendQuota_45 rfl (nI_1 k2) (by decide) rfl ?_
          refine z_goto 2 dX0_spendQuota_48 (by decide) ?_
          have hb2 : l_X0_spendQuota_2 u p1 (k2 + 1) = x2 := by
            show b_X0_spendQuota_2 u p1 k2 (l_X0_spendQuota_2 u p1 k2) = _
            rw [← hx2, b_X0_spendQuota_2, if_pos c_15_2]
          refine z_sub (L' := [(0, .ref h), (1, .int p1), (2, .int (nI (k2 + 1)))]) [1, 2, 0] rfl ?_
          have ih2 := ih2 (k2 + 1) (by omega)
          rw [hb2] at ih2
          exact ih2
        ·
          refine z_aload_n 0 dX0_spendQuota_18 rfl ?_
          refine z_get (C := RX0) (T := TX0) (N := 19) (v := .ref (a 9)) inwX0_spendQuota 0 rfl rfl 9 (by decide) (List.mem_of_getElem? (i := 2) rfl) rfl rfl dX0_spendQuota_19 ?_
          refine z_iload_n 2 dX0_spendQuota_22 rfl ?_
          refine z_aload_n 0 dX0_spendQuota_23 rfl ?_
          refine z_iload_n 2 dX0_spendQuota_24 rfl ?_
          refine z_callVi (As := [.int (nI k2)]) (st := [.int (nI k2), .ref (a 9)]) (fun l => c_X0_spentToday l D cI cZ h a x2 (nI k2) (by first | (with_reducible assumption) | with_reducible exact vp_in_nI (by omega) (by omega) | with_reducible exact zdev hnd hd (by assumption) | exact hnd | assumption | decide)) zGok_TT (fun _ _ _ => trivial) (fun s args hts => cwV 1 hts gX0_spendQuota_X0_spentToday rfl rfl rfl (by decide +kernel) ⟨Nat.le_of_ble_eq_true rfl, Nat.le_of_ble_eq_true rfl⟩) (ci := 0) rfl rfl rfl rfl (Nat.le_of_ble_eq_true rfl) ⟨Nat.le_of_ble_eq_true rfl, Nat.le_of_ble_eq_true rfl⟩ dX0_spendQuota_25 rfl (fun r u2 hp => ?_)
          subst hp
          refine z_iconst (v := 1) dX0_spendQuota_28 rfl ?_
          refine z_iadd dX0_spendQuota_29 ?_
          refine z_iast (w' := (wX0 cI cZ h a (pG x2 9 (ix (nI k2)) ((r_X0_spentToday x2 (nI k2)) + 1)))) 7 0 rfl rfl (vp_in_nI (by omega) (by omega)) (wX0_g9 _ _ _ _ _ _ _) dX0_spendQuota_30 ?_
          refine z_aload_n 0 dX0_spendQuota_31 rfl ?_
          refine z_get (C := RX0) (T := TX0) (N := 19) (v := .ref (a 8)) inwX0_spendQuota 0 rfl rfl 8 (by decide) (List.mem_of_getElem? (i := 3) rfl) rfl rfl dX0_spendQuota_32 ?_
          refine z_iload_n 2 dX0_spendQuota_35 rfl ?_
          refine z_aload_n 0 dX0_spendQuota_36 rfl ?_
          refine z_get (C := RX0) (T := TX0) (N := 19) (v := .int (x2.1 17)) inwX0_spendQuota 0 rfl rfl 17 (by decide) (List.mem_of_getElem? (i := 4) rfl) rfl rfl dX0_spendQuota_37 ?_
          refine z_sipush (v := 1440) dX0_spendQuota_40 rfl ?_
          refine z_idiv dX0_spendQuota_43 (by decide) ?_
          refine z_iast (w' := (wX0 cI cZ h a (pG (pG x2 9 (ix (nI k2)) ((r_X0_spentToday x2 (nI k2)) + 1)) 8 (ix (nI k2)) ((x2.1 17) / 1440)))) 6 0 rfl rfl (vp_in_nI (by omega) (by omega)) (wX0_g8 _ _ _ _ _ _ _) dX0_spendQuota_44 ?_
          refine z_iinc (v := (nI (k2 + 1))) (L' := [(2, .int (nI (k2 + 1))), (0, .ref h), (1, .int p1)]) 2 dX0_spendQuota_45 rfl (nI_1 k2) (by decide) rfl ?_
          refine z_goto 2 dX0_spendQuota_48 (by decide) ?_
          have hb2 : l_X0_spendQuota_2 u p1 (k2 + 1) = (pG (pG x2 9 (ix (nI k2)) ((r_X0_spentToday x2 (nI k2)) + 1)) 8 (ix (nI k2)) ((x2.1 17) / 1440)) := by
            show b_X0_spendQuota_2 u p1 k2 (l_X0_spendQuota_2 u p1 k2) = _
            rw [← hx2, b_X0_spendQuota_2, if_neg c_15_2]
          refine z_sub (L' := [(0, .ref h), (1, .int p1), (2, .int (nI (k2 + 1)))]) [1, 2, 0] rfl ?_
          have ih2 := ih2 (k2 + 1) (by omega)
          rw [hb2] at ih2
          exact ih2
  exact hloop2 nd 0 (by omega)
end
