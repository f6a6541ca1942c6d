section
-- ===== PART A: goes FIRST, ahead of the names: the tables' words, and 'selects' of the private methods out of them =====
/-- a private method of a class that the tables say can be made, by its rows of tables_1 -/
def lw_okq (q : MethodName × Nat) : Prop := (q.1.cls ≠ "java/lang/invoke/MethodHandle" ∧ q.1.cls ≠ "java/lang/invoke/VarHandle") ∧ Cond.instantiable q.1.cls q.2 ∈ tables_1 ∧ Cond.privateMethod q.1 ∈ tables_1 ∧ Cond.instanceMethod q.1 ∈ tables_1
theorem lw_p0 : lw_okq (⟨"java/lang/Throwable", "fillInStackTrace", "(I)Ljava/lang/Throwable;"⟩, 6) := ⟨⟨by decide +kernel, by decide +kernel⟩, List.mem_of_getElem? (i := 146) (by decide +kernel), List.mem_of_getElem? (i := 144) (by decide +kernel), List.mem_of_getElem? (i := 145) (by decide +kernel)⟩
theorem lw_p1 : lw_okq (⟨"PushNotices", "requireDevice", "(I)V"⟩, 19) := ⟨⟨by decide +kernel, by decide +kernel⟩, List.mem_of_getElem? (i := 12) (by decide +kernel), List.mem_of_getElem? (i := 203) (by decide +kernel), List.mem_of_getElem? (i := 204) (by decide +kernel)⟩
theorem lw_p2 : lw_okq (⟨"PushNotices", "deliverNow", "()I"⟩, 19) := ⟨⟨by decide +kernel, by decide +kernel⟩, List.mem_of_getElem? (i := 12) (by decide +kernel), List.mem_of_getElem? (i := 226) (by decide +kernel), List.mem_of_getElem? (i := 227) (by decide +kernel)⟩
theorem lw_p3 : lw_okq (⟨"PushNotices", "openToNormal", "()I"⟩, 19) := ⟨⟨by decide +kernel, by decide +kernel⟩, List.mem_of_getElem? (i := 12) (by decide +kernel), List.mem_of_getElem? (i := 230) (by decide +kernel), List.mem_of_getElem? (i := 231) (by decide +kernel)⟩
theorem lw_p4 : lw_okq (⟨"PushNotices", "isInQuietHours", "(I)Z"⟩, 19) := ⟨⟨by decide +kernel, by decide +kernel⟩, List.mem_of_getElem? (i := 12) (by decide +kernel), List.mem_of_getElem? (i := 234) (by decide +kernel), List.mem_of_getElem? (i := 235) (by decide +kernel)⟩
theorem lw_p5 : lw_okq (⟨"PushNotices", "localTime", "(I)I"⟩, 19) := ⟨⟨by decide +kernel, by decide +kernel⟩, List.mem_of_getElem? (i := 12) (by decide +kernel), List.mem_of_getElem? (i := 238) (by decide +kernel), List.mem_of_getElem? (i := 239) (by decide +kernel)⟩
theorem lw_p6 : lw_okq (⟨"PushNotices", "waitsNow", "(I)I"⟩, 19) := ⟨⟨by decide +kernel, by decide +kernel⟩, List.mem_of_getElem? (i := 12) (by decide +kernel), List.mem_of_getElem? (i := 245) (by decide +kernel), List.mem_of_getElem? (i := 246) (by decide +kernel)⟩
theorem lw_p7 : lw_okq (⟨"PushNotices", "isStanding", "(I)Z"⟩, 19) := ⟨⟨by decide +kernel, by decide +kernel⟩, List.mem_of_getElem? (i := 12) (by decide +kernel), List.mem_of_getElem? (i := 249) (by decide +kernel), List.mem_of_getElem? (i := 250) (by decide +kernel)⟩
theorem lw_p8 : lw_okq (⟨"PushNotices", "openToHigh", "()I"⟩, 19) := ⟨⟨by decide +kernel, by decide +kernel⟩, List.mem_of_getElem? (i := 12) (by decide +kernel), List.mem_of_getElem? (i := 253) (by decide +kernel), List.mem_of_getElem? (i := 254) (by decide +kernel)⟩
theorem lw_p9 : lw_okq (⟨"PushNotices", "spentToday", "(I)I"⟩, 19) := ⟨⟨by decide +kernel, by decide +kernel⟩, List.mem_of_getElem? (i := 12) (by decide +kernel), List.mem_of_getElem? (i := 260) (by decide +kernel), List.mem_of_getElem? (i := 261) (by decide +kernel)⟩
theorem lw_p10 : lw_okq (⟨"PushNotices", "deliver", "(II)V"⟩, 19) := ⟨⟨by decide +kernel, by decide +kernel⟩, List.mem_of_getElem? (i := 12) (by decide +kernel), List.mem_of_getElem? (i := 264) (by decide +kernel), List.mem_of_getElem? (i := 265) (by decide +kernel)⟩
theorem lw_p11 : lw_okq (⟨"PushNotices", "spendQuota", "(I)V"⟩, 19) := ⟨⟨by decide +kernel, by decide +kernel⟩, List.mem_of_getElem? (i := 12) (by decide +kernel), List.mem_of_getElem? (i := 274) (by decide +kernel), List.mem_of_getElem? (i := 275) (by decide +kernel)⟩
theorem lw_p12 : lw_okq (⟨"PushNotices", "countWaiting", "(I)I"⟩, 19) := ⟨⟨by decide +kernel, by decide +kernel⟩, List.mem_of_getElem? (i := 12) (by decide +kernel), List.mem_of_getElem? (i := 307) (by decide +kernel), List.mem_of_getElem? (i := 308) (by decide +kernel)⟩
theorem lw_p13 : lw_okq (⟨"PushNotices", "requireRoomForNotice", "()V"⟩, 19) := ⟨⟨by decide +kernel, by decide +kernel⟩, List.mem_of_getElem? (i := 12) (by decide +kernel), List.mem_of_getElem? (i := 325) (by decide +kernel), List.mem_of_getElem? (i := 326) (by decide +kernel)⟩
theorem lw_p14 : lw_okq (⟨"PushNotices", "replaceKey", "(II)V"⟩, 19) := ⟨⟨by decide +kernel, by decide +kernel⟩, List.mem_of_getElem? (i := 12) (by decide +kernel), List.mem_of_getElem? (i := 330) (by decide +kernel), List.mem_of_getElem? (i := 331) (by decide +kernel)⟩
theorem lw_p15 : lw_okq (⟨"PushNotices", "withdraw", "(I)V"⟩, 19) := ⟨⟨by decide +kernel, by decide +kernel⟩, List.mem_of_getElem? (i := 12) (by decide +kernel), List.mem_of_getElem? (i := 337) (by decide +kernel), List.mem_of_getElem? (i := 338) (by decide +kernel)⟩
def lw_privs_1 : List (MethodName × Nat) := [(⟨"java/lang/Throwable", "fillInStackTrace", "(I)Ljava/lang/Throwable;"⟩, 6), (⟨"PushNotices", "requireDevice", "(I)V"⟩, 19), (⟨"PushNotices", "deliverNow", "()I"⟩, 19), (⟨"PushNotices", "openToNormal", "()I"⟩, 19), (⟨"PushNotices", "isInQuietHours", "(I)Z"⟩, 19), (⟨"PushNotices", "localTime", "(I)I"⟩, 19), (⟨"PushNotices", "waitsNow", "(I)I"⟩, 19), (⟨"PushNotices", "isStanding", "(I)Z"⟩, 19), (⟨"PushNotices", "openToHigh", "()I"⟩, 19), (⟨"PushNotices", "spentToday", "(I)I"⟩, 19), (⟨"PushNotices", "deliver", "(II)V"⟩, 19), (⟨"PushNotices", "spendQuota", "(I)V"⟩, 19), (⟨"PushNotices", "countWaiting", "(I)I"⟩, 19), (⟨"PushNotices", "requireRoomForNotice", "()V"⟩, 19), (⟨"PushNotices", "replaceKey", "(II)V"⟩, 19), (⟨"PushNotices", "withdraw", "(I)V"⟩, 19)]
theorem lw_r1 : ∀ q ∈ lw_privs_1, lw_okq q := List.forall_mem_cons.mpr ⟨lw_p0, List.forall_mem_cons.mpr ⟨lw_p1, List.forall_mem_cons.mpr ⟨lw_p2, List.forall_mem_cons.mpr ⟨lw_p3, List.forall_mem_cons.mpr ⟨lw_p4, List.forall_mem_cons.mpr ⟨lw_p5, List.forall_mem_cons.mpr ⟨lw_p6, List.forall_mem_cons.mpr ⟨lw_p7, List.forall_mem_cons.mpr ⟨lw_p8, List.forall_mem_cons.mpr ⟨lw_p9, List.forall_mem_cons.mpr ⟨lw_p10, List.forall_mem_cons.mpr ⟨lw_p11, List.forall_mem_cons.mpr ⟨lw_p12, List.forall_mem_cons.mpr ⟨lw_p13, List.forall_mem_cons.mpr ⟨lw_p14, List.forall_mem_cons.mpr ⟨lw_p15, fun _ h => absurd h List.not_mem_nil⟩⟩⟩⟩⟩⟩⟩⟩⟩⟩⟩⟩⟩⟩⟩⟩
theorem lw_p16 : lw_okq (⟨"PushNotices", "sendTo", "(IZI)I"⟩, 19) := ⟨⟨by decide +kernel, by decide +kernel⟩, List.mem_of_getElem? (i := 12) (by decide +kernel), List.mem_of_getElem? (i := 341) (by decide +kernel), List.mem_of_getElem? (i := 342) (by decide +kernel)⟩
theorem lw_p17 : lw_okq (⟨"PushNotices", "devicesThatFulfil", "(III)I"⟩, 19) := ⟨⟨by decide +kernel, by decide +kernel⟩, List.mem_of_getElem? (i := 12) (by decide +kernel), List.mem_of_getElem? (i := 352) (by decide +kernel), List.mem_of_getElem? (i := 353) (by decide +kernel)⟩
theorem lw_p18 : lw_okq (⟨"PushNotices", "requireNotice", "(I)V"⟩, 19) := ⟨⟨by decide +kernel, by decide +kernel⟩, List.mem_of_getElem? (i := 12) (by decide +kernel), List.mem_of_getElem? (i := 363) (by decide +kernel), List.mem_of_getElem? (i := 364) (by decide +kernel)⟩
theorem lw_p19 : lw_okq (⟨"PushNotices", "nextChance", "()I"⟩, 19) := ⟨⟨by decide +kernel, by decide +kernel⟩, List.mem_of_getElem? (i := 12) (by decide +kernel), List.mem_of_getElem? (i := 427) (by decide +kernel), List.mem_of_getElem? (i := 428) (by decide +kernel)⟩
theorem lw_p20 : lw_okq (⟨"PushNoticesModel", "refused", "(I)Z"⟩, 22) := ⟨⟨by decide +kernel, by decide +kernel⟩, List.mem_of_getElem? (i := 434) (by decide +kernel), List.mem_of_getElem? (i := 518) (by decide +kernel), List.mem_of_getElem? (i := 519) (by decide +kernel)⟩
theorem lw_p21 : lw_okq (⟨"PushNoticesModel", "isDevice", "(I)Z"⟩, 22) := ⟨⟨by decide +kernel, by decide +kernel⟩, List.mem_of_getElem? (i := 434) (by decide +kernel), List.mem_of_getElem? (i := 526) (by decide +kernel), List.mem_of_getElem? (i := 527) (by decide +kernel)⟩
theorem lw_p22 : lw_okq (⟨"PushNoticesModel", "look", "()I"⟩, 22) := ⟨⟨by decide +kernel, by decide +kernel⟩, List.mem_of_getElem? (i := 434) (by decide +kernel), List.mem_of_getElem? (i := 530) (by decide +kernel), List.mem_of_getElem? (i := 531) (by decide +kernel)⟩
theorem lw_p23 : lw_okq (⟨"PushNoticesModel", "can", "(II)Z"⟩, 22) := ⟨⟨by decide +kernel, by decide +kernel⟩, List.mem_of_getElem? (i := 434) (by decide +kernel), List.mem_of_getElem? (i := 534) (by decide +kernel), List.mem_of_getElem? (i := 535) (by decide +kernel)⟩
theorem lw_p24 : lw_okq (⟨"PushNoticesModel", "used", "(I)I"⟩, 22) := ⟨⟨by decide +kernel, by decide +kernel⟩, List.mem_of_getElem? (i := 434) (by decide +kernel), List.mem_of_getElem? (i := 538) (by decide +kernel), List.mem_of_getElem? (i := 539) (by decide +kernel)⟩
theorem lw_p25 : lw_okq (⟨"PushNoticesModel", "isQuietNow", "(I)Z"⟩, 22) := ⟨⟨by decide +kernel, by decide +kernel⟩, List.mem_of_getElem? (i := 434) (by decide +kernel), List.mem_of_getElem? (i := 542) (by decide +kernel), List.mem_of_getElem? (i := 543) (by decide +kernel)⟩
theorem lw_p26 : lw_okq (⟨"PushNoticesModel", "deliver", "(II)V"⟩, 22) := ⟨⟨by decide +kernel, by decide +kernel⟩, List.mem_of_getElem? (i := 434) (by decide +kernel), List.mem_of_getElem? (i := 546) (by decide +kernel), List.mem_of_getElem? (i := 547) (by decide +kernel)⟩
theorem lw_p27 : lw_okq (⟨"PushNoticesModel", "countWaiting", "(I)I"⟩, 22) := ⟨⟨by decide +kernel, by decide +kernel⟩, List.mem_of_getElem? (i := 434) (by decide +kernel), List.mem_of_getElem? (i := 566) (by decide +kernel), List.mem_of_getElem? (i := 567) (by decide +kernel)⟩
theorem lw_p28 : lw_okq (⟨"PushNoticesModel", "fine", "(I)I"⟩, 22) := ⟨⟨by decide +kernel, by decide +kernel⟩, List.mem_of_getElem? (i := 434) (by decide +kernel), List.mem_of_getElem? (i := 574) (by decide +kernel), List.mem_of_getElem? (i := 575) (by decide +kernel)⟩
theorem lw_p29 : lw_okq (⟨"PushNoticesModel", "standingNow", "(II)I"⟩, 22) := ⟨⟨by decide +kernel, by decide +kernel⟩, List.mem_of_getElem? (i := 434) (by decide +kernel), List.mem_of_getElem? (i := 586) (by decide +kernel), List.mem_of_getElem? (i := 587) (by decide +kernel)⟩
theorem lw_p30 : lw_okq (⟨"PushNoticesModel", "end", "(I)V"⟩, 22) := ⟨⟨by decide +kernel, by decide +kernel⟩, List.mem_of_getElem? (i := 434) (by decide +kernel), List.mem_of_getElem? (i := 590) (by decide +kernel), List.mem_of_getElem? (i := 591) (by decide +kernel)⟩
theorem lw_p31 : lw_okq (⟨"PushNoticesModel", "add", "(IIZII)I"⟩, 22) := ⟨⟨by decide +kernel, by decide +kernel⟩, List.mem_of_getElem? (i := 434) (by decide +kernel), List.mem_of_getElem? (i := 594) (by decide +kernel), List.mem_of_getElem? (i := 595) (by decide +kernel)⟩
def lw_privs_2 : List (MethodName × Nat) := [(⟨"PushNotices", "sendTo", "(IZI)I"⟩, 19), (⟨"PushNotices", "devicesThatFulfil", "(III)I"⟩, 19), (⟨"PushNotices", "requireNotice", "(I)V"⟩, 19), (⟨"PushNotices", "nextChance", "()I"⟩, 19), (⟨"PushNoticesModel", "refused", "(I)Z"⟩, 22), (⟨"PushNoticesModel", "isDevice", "(I)Z"⟩, 22), (⟨"PushNoticesModel", "look", "()I"⟩, 22), (⟨"PushNoticesModel", "can", "(II)Z"⟩, 22), (⟨"PushNoticesModel", "used", "(I)I"⟩, 22), (⟨"PushNoticesModel", "isQuietNow", "(I)Z"⟩, 22), (⟨"PushNoticesModel", "deliver", "(II)V"⟩, 22), (⟨"PushNoticesModel", "countWaiting", "(I)I"⟩, 22), (⟨"PushNoticesModel", "fine", "(I)I"⟩, 22), (⟨"PushNoticesModel", "standingNow", "(II)I"⟩, 22), (⟨"PushNoticesModel", "end", "(I)V"⟩, 22), (⟨"PushNoticesModel", "add", "(IIZII)I"⟩, 22)]
theorem lw_r2 : ∀ q ∈ lw_privs_2, lw_okq q := List.forall_mem_cons.mpr ⟨lw_p16, List.forall_mem_cons.mpr ⟨lw_p17, List.forall_mem_cons.mpr ⟨lw_p18, List.forall_mem_cons.mpr ⟨lw_p19, List.forall_mem_cons.mpr ⟨lw_p20, List.forall_mem_cons.mpr ⟨lw_p21, List.forall_mem_cons.mpr ⟨lw_p22, List.forall_mem_cons.mpr ⟨lw_p23, List.forall_mem_cons.mpr ⟨lw_p24, List.forall_mem_cons.mpr ⟨lw_p25, List.forall_mem_cons.mpr ⟨lw_p26, List.forall_mem_cons.mpr ⟨lw_p27, List.forall_mem_cons.mpr ⟨lw_p28, List.forall_mem_cons.mpr ⟨lw_p29, List.forall_mem_cons.mpr ⟨lw_p30, List.forall_mem_cons.mpr ⟨lw_p31, fun _ h => absurd h List.not_mem_nil⟩⟩⟩⟩⟩⟩⟩⟩⟩⟩⟩⟩⟩⟩⟩⟩
theorem lw_p32 : lw_okq (⟨"PushNoticesModel", "isNotice", "(I)Z"⟩, 22) := ⟨⟨by decide +kernel, by decide +kernel⟩, List.mem_of_getElem? (i := 434) (by decide +kernel), List.mem_of_getElem? (i := 606) (by decide +kernel), List.mem_of_getElem? (i := 607) (by decide +kernel)⟩
theorem lw_p33 : lw_okq (⟨"PushNoticesModel", "noNotice", "(I)Z"⟩, 22) := ⟨⟨by decide +kernel, by decide +kernel⟩, List.mem_of_getElem? (i := 434) (by decide +kernel), List.mem_of_getElem? (i := 621) (by decide +kernel), List.mem_of_getElem? (i := 622) (by decide +kernel)⟩
def lw_privs_3 : List (MethodName × Nat) := [(⟨"PushNoticesModel", "isNotice", "(I)Z"⟩, 22), (⟨"PushNoticesModel", "noNotice", "(I)Z"⟩, 22)]
theorem lw_r3 : ∀ q ∈ lw_privs_3, lw_okq q := List.forall_mem_cons.mpr ⟨lw_p32, List.forall_mem_cons.mpr ⟨lw_p33, fun _ h => absurd h List.not_mem_nil⟩⟩
def lw_privs : List (MethodName × Nat) := lw_privs_1 ++ (lw_privs_2 ++ (lw_privs_3))
def lw_tbl : List Cond := k2_sels lw_privs ++ tables_1
theorem lw_privs_ok : ∀ q ∈ lw_privs, lw_okq q := by
  show ∀ q ∈ lw_privs_1 ++ (lw_privs_2 ++ (lw_privs_3)), lw_okq q
  exact List.forall_mem_append.mpr ⟨lw_r1, List.forall_mem_append.mpr ⟨lw_r2, lw_r3⟩⟩
end
section
/-! ===== BEGIN words of one list among another's, by their places ===== -/
theorem goodIn_r {big : List Cond} (ws : List Cond) (ps : List Nat) (hp : ws = ps.filterMap (fun i => big[i]?)) (h : ws.all goodWord = true) : GoodIn big ws := by
  intro w hw
  have h1 := List.all_eq_true.mp h w hw
  rw [hp] at hw
  obtain ⟨i, -, hi⟩ := List.mem_filterMap.mp hw
  have hm : w ∈ big := by first | exact List.mem_of_getElem? hi | exact List.getElem?_mem hi
  exact ⟨hm, good_of_word h1⟩
theorem goodIn_app {big a b : List Cond} (ha : GoodIn big a) (hb : GoodIn big b) : GoodIn big (a ++ b) := fun w h => (List.mem_append.mp h).elim (ha w) (hb w)
theorem goodIn_ca {big a b : List Cond} {c : Cond} (ha : GoodIn big (c :: a)) (hb : GoodIn big b) : GoodIn big (c :: (a ++ b)) := fun w h => (List.mem_cons.mp h).elim (fun e => ha w (List.mem_cons.mpr (Or.inl e))) (fun h => (List.mem_append.mp h).elim (fun h => ha w (List.mem_cons.mpr (Or.inr h))) (hb w))
theorem goodIn_sub {big ws : List Cond} (hm : ∀ w ∈ ws, w ∈ big) (h : ws.all goodWord = true) : GoodIn big ws := fun w hw => ⟨hm w hw, good_of_word (List.all_eq_true.mp h w hw)⟩
/-! ===== END ===== -/

/-! ===== BEGIN exceptions that leave a method, and their catching by the caller (launches without stack traces) ===== -/
section VXA
/-! The laws vx_back, vx_callV, vx_callS, vx_callSW, vx_throw0, vx_throwS follow proofs of the library, with one case more: JvmDerived/Free/Laws.lean (Back.of_free), Shelf42/LK1.lean (callV, callS), Shelf/KitTraced.lean (throwNew0V, throwNewS). -/
/-- where a method has thrown q: the class by its name, the cell, what was written, the world -/
def vx_T (XC : String → State → State → Prop) (st : State) (q : Addr) (t : State) (mc ms : Nat) (free : Addr → Prop) : Prop :=
  ∃ (E : String) (ce : Cell) (L : List Loc), XC E st t ∧ t.heap[q]? = some ce ∧ ce.vm = .none ∧ st.vm.findClass E = some ce.cls ∧ st.WarmedH t.vm ∧ st.sameButNew ({ t with vm := st.vm } : State) L mc ms ∧ ∀ z ∈ L, free z.base
def vx_Q (Qc : Array Value → State → Outcome → State → Prop) (XC : String → State → State → Prop) (mc ms : Nat) (free : Addr → Prop) : Array Value → State → Outcome → State → Prop := fun a st o t =>
  (Qc a st o t ∧ ∃ L, FrameEnd st o t L mc ms ∧ ∀ q ∈ L, free q.base) ∨ ∃ q, o = .threw q ∧ vx_T XC st q t mc ms free
/-- a callee that returns or throws -/
def vx_Met (l : Launch) (y : MethodName) (ws : List Cond) (rm : Room) (Pc : Array Value → State → Prop) (Qc : Array Value → State → Outcome → State → Prop) (XC : String → State → State → Prop) (mc ms : Nat) (free : Addr → Prop) : Prop :=
  MetFree l y (headSpec ws rm) Pc (fun _ _ _ _ _ => True) (vx_Q Qc XC mc ms free)
def vx_Post (XC : String → State → State → Prop) (mc ms : Nat) (free : Addr → Prop) : Pt → Array Value → Addr → Pt → Prop := fun A a q B =>
  ∃ (g : JFrame) (mk : MethodId) (t : State) (L : List Loc) (E : String) (ce : Cell), B.U.heap = t.heap ∧ B.U.vm = t.vm ∧ XC E (A.U.calling g mk a) t ∧ t.heap[q]? = some ce ∧ ce.vm = .none ∧ A.U.vm.findClass E = some ce.cls ∧ B.locs = A.locs ++ L ∧ (∀ z ∈ L, free z.base) ∧ B.cells = A.cells + mc ∧ B.slots = A.slots + ms
def vx_Back (l : Launch) (R : Room) (p : Program) (e : Env) (below : List Frame) (s : State) (sargs : Array Value) (y : MethodName) (len W9 : Nat)
    (Pre : Pt → Array Value → Prop) (Post : Pt → Array Value → Option Value → Pt → Prop) (PostX : Pt → Array Value → Addr → Pt → Prop) : Prop :=
  ∀ (m : MethodId) (meth : Method) (c : Code) (A : Pt) (g : JFrame) (ig : Instr) (mk : MethodId) (a : Array Value),
    Stand p l e R s m sargs below meth c A.U A.locs A.cells A.slots → g.method = m → g.locals.size = c.maxLocals → decode c.code g.pc = .ok (ig, len) →
    2 * g.monitorRoom + (g.stack.map fun v => v.category).sum ≤ W9 → A.U.methodNamed? y = some mk → Pre A a →
    (∃ (v : Option Value) (B : Pt), Stand p l e R s m sargs below meth c B.U B.locs B.cells B.slots ∧ Post A a v B ∧
      Steps p.tables e below (doInvoke e (A.U.setTop g) [] mk a).1 (B.U.setTop { g with pc := g.pc + len, stack := v.toList ++ g.stack })) ∨
    (∃ (q : Addr) (B : Pt), Stand p l e R s m sargs below meth c B.U B.locs B.cells B.slots ∧ PostX A a q B ∧
      Steps p.tables e below (doInvoke e (A.U.setTop g) [] mk a).1 ((B.U.setTop g).pushFrame (.throwing q)))
section Payer
variable {l : Launch} {R : Room} {p : Program} {e : Env} {below : List Frame} {s : State} {sargs : Array Value} {y : MethodName} {len W9 : Nat}
theorem vx_back {ws : List Cond} {rm : Room} {Pc : Array Value → State → Prop} {Qc : Array Value → State → Outcome → State → Prop} {XC : String → State → State → Prop} {mc ms : Nat} {free : Addr → Prop} {bytes : ByteArray} {maxL : Nat} {ret : Option FieldType}
    (hM : vx_Met l y ws rm Pc Qc XC mc ms free) (hblind : FrameBlind Pc) (hrc : rm.cells = mc) (hrs : rm.slots = ms)
    (hframes : rm.frames + 1 ≤ R.frames) (hlocals : W9 + (maxL + 11) + rm.locals ≤ R.locals)
    (hws : ∀ w ∈ ws, ∀ a' U, s.WarmedH U.vm → w.before a' U = true) (hcode : Cond.code y bytes maxL ret ∈ ws) (hinit : ∀ a' U, s.WarmedH U.vm → (Cond.initialized y.cls).before a' U = true) :
    vx_Back l R p e below s sargs y len W9 (PreOf R mc ms Pc) (PostOf Qc mc ms free) (vx_Post XC mc ms free) := by
  intro m meth c A g ig mk a X hg hsize hdg hW hn hp
  have h1 : (headSpec ws rm).pre.before a A.U = true := atoms_intro fun w hw => hws w hw _ _ X.warmed
  have h2 : (Cond.code y bytes maxL ret).before a A.U = true := hws _ hcode _ _ X.warmed
  have h3 : (Cond.initialized y.cls).before a A.U = true := hinit _ _ X.warmed
  have h4 : A.cells + (headSpec ws rm).room.cells ≤ R.cells := by rw [show (headSpec ws rm).room.cells = mc from hrc]; exact hp.1
  have h5 : A.slots + (headSpec ws rm).room.slots ≤ R.slots := by rw [show (headSpec ws rm).room.slots = ms from hrs]; exact hp.2.1
  have hPc : Pc a (A.U.calling g mk a) := hblind _ _ _ _ hp.2.2
  obtain ⟨U, Ls, c0, s0⟩ := A
  dsimp only [Pt.U, Pt.locs, Pt.cells, Pt.slots] at h1 h2 h3 h4 h5 X hn hPc ⊢
  obtain ⟨methY, cY, hmY, hcY, -, hlY, -, -, -, -⟩ := Cond.code_spec hn h2
  obtain ⟨kY, hkY, -⟩ := className_of_methodNamed hn
  have hinitY : kY.init = .initialized := Cond.initialized_spec (findClass_of_methodNamed hn) hkY h3
  have h : At U g.method c below := by rw [hg]; exact X.here
  have hlocals9 : W9 + (maxL + 11) + (headSpec ws rm).room.locals ≤ R.locals := hlocals
  have happ : (headSpec ws rm).appliesLoose y e.platform (U.calling g mk a) = true :=
    Spec.appliesLoose_calling (g := g) h hdg hn hkY hinitY
      (X.room_calling (g := g) (R' := (headSpec ws rm).room) hsize hmY hcY hframes (by rw [hlY]; omega) h4 h5) h1
  obtain ⟨mid, hmid⟩ := h.above
  have hfr : (U.setTop g).frames = (.java g :: mid) ++ below := by rw [State.frames_setTop' g h.top, hmid]; rfl
  obtain ⟨o, s₂, hsteps, -, hend, hq⟩ := Steps.callFree hM p X.admits X.cas X.clock (acts := []) hfr happ hPc trivial
  have hq' : vx_Q Qc XC mc ms free a (U.calling g mk a) o s₂ := hq
  rw [State.frames_setTop' g h.top] at hend
  obtain ⟨g₀, hg0⟩ := Option.isSome_iff_exists.mp h.top
  obtain ⟨r, hr⟩ := State.topJava?_eq_some.mp hg0
  have hr' : (({ U with heap := s₂.heap, slotsUsed := s₂.slotsUsed } : State).setVm s₂.vm).frames = .java g₀ :: r := hr
  rcases hq' with ⟨hqc, L, hfe, hL⟩ | ⟨q, rfl, E, ce, L, hx, hce, hcv, hcl, hW₂, hsm, hL⟩
  · obtain ⟨⟨v, rfl⟩, hW₂, e2, q2, q3, q4, q5, q6⟩ := id hfe
    have e3 : s₂ = ({ (U.calling g mk a).setFrames s₂.frames with heap := s₂.heap, slotsUsed := s₂.slotsUsed } : State).setVm s₂.vm := by
      have : s₂ = ({ s₂ with vm := (U.calling g mk a).vm } : State).setVm s₂.vm := rfl
      rw [e2] at this
      exact this
    obtain ⟨c₂, i₂, len₂, hc₂, hd₂, hf₂⟩ := hend
    have hW' : U.WarmedH s₂.vm := hW₂
    have hcc : c₂ = c := by
      have h1 : s₂.code? g.method = U.code? g.method := by
        rw [State.code?_eq, State.code?_eq, hW'.alike.method?]
      exact Option.some.inj (hc₂.symm.trans (h1.trans h.code))
    subst hcc
    have hlen : len₂ = len := by rw [hdg] at hd₂; cases hd₂; rfl
    subst hlen
    have hs₂ : s₂ = (({ U with heap := s₂.heap, slotsUsed := s₂.slotsUsed } : State).setVm s₂.vm).setTop { g with pc := g.pc + len₂, stack := v.toList ++ g.stack } := by
      refine e3.trans ?_
      rw [hf₂, State.calling_eq h.top, State.setFrames_setFrames, State.setTop_of_frames _ hr', hr]
      rfl
    have hsame : U.sameButNew ({ U with heap := s₂.heap, slotsUsed := s₂.slotsUsed } : State) L mc ms := by
      refine ⟨?_, q2, q3, q4, q5, q6⟩
      obtain ⟨t, ht, -⟩ := State.frames_cons hr
      show ({ U with heap := s₂.heap, slotsUsed := s₂.slotsUsed } : State) = { U.setFrames U.frames with heap := s₂.heap, slotsUsed := s₂.slotsUsed }
      rw [State.setFrames_self ht]
    subst hg
    refine Or.inl ⟨v, ⟨(({ U with heap := s₂.heap, slotsUsed := s₂.slotsUsed } : State).setVm s₂.vm), Ls ++ L, c0 + mc, s0 + ms⟩,
      ⟨X.admits, X.cas, X.clock, X.frames, X.room, X.hears, X.method, X.code, (X.here.setHeapUsed s₂.heap s₂.slotsUsed).setVm hW'.alike, X.tail, State.WarmedH.trans X.warmed hW', X.limits, X.bytes, X.same.trans (hsame.setVm s.vm)⟩,
      ⟨g, mk, s₂, L, rfl, rfl, hqc, rfl, hL, rfl, rfl⟩, ?_⟩
    show Steps p.tables e below _ ((({ U with heap := s₂.heap, slotsUsed := s₂.slotsUsed } : State).setVm s₂.vm).setTop { g with pc := g.pc + len₂, stack := v.toList ++ g.stack })
    rw [← hs₂]
    exact hsteps
  · obtain ⟨e2, q2, q3, q4, q5, q6⟩ := id hsm
    have e3 : s₂ = ({ (U.calling g mk a).setFrames s₂.frames with heap := s₂.heap, slotsUsed := s₂.slotsUsed } : State).setVm s₂.vm := by
      have : s₂ = ({ s₂ with vm := (U.calling g mk a).vm } : State).setVm s₂.vm := rfl
      rw [e2] at this
      exact this
    have hf₂ : s₂.frames = .throwing q :: .java g :: U.frames.tail := hend
    have hW' : U.WarmedH s₂.vm := hW₂
    have hs₂ : s₂ = ((({ U with heap := s₂.heap, slotsUsed := s₂.slotsUsed } : State).setVm s₂.vm).setTop g).pushFrame (.throwing q) := by
      refine e3.trans ?_
      rw [hf₂, State.calling_eq h.top, State.setFrames_setFrames, State.pushFrame, State.frames_setTop _ hr', State.setTop_of_frames _ hr', State.setFrames_setFrames, hr]
      rfl
    have hsame : U.sameButNew ({ U with heap := s₂.heap, slotsUsed := s₂.slotsUsed } : State) L mc ms := by
      refine ⟨?_, q2, q3, q4, q5, q6⟩
      obtain ⟨t, ht, -⟩ := State.frames_cons hr
      show ({ U with heap := s₂.heap, slotsUsed := s₂.slotsUsed } : State) = { U.setFrames U.frames with heap := s₂.heap, slotsUsed := s₂.slotsUsed }
      rw [State.setFrames_self ht]
    subst hg
    refine Or.inr ⟨q, ⟨(({ U with heap := s₂.heap, slotsUsed := s₂.slotsUsed } : State).setVm s₂.vm), Ls ++ L, c0 + mc, s0 + ms⟩,
      ⟨X.admits, X.cas, X.clock, X.frames, X.room, X.hears, X.method, X.code, (X.here.setHeapUsed s₂.heap s₂.slotsUsed).setVm hW'.alike, X.tail, State.WarmedH.trans X.warmed hW', X.limits, X.bytes, X.same.trans (hsame.setVm s.vm)⟩,
      ⟨g, mk, s₂, L, E, ce, rfl, rfl, hx, hce, hcv, hcl, rfl, hL, rfl, rfl⟩, ?_⟩
    show Steps p.tables e below _ (((({ U with heap := s₂.heap, slotsUsed := s₂.slotsUsed } : State).setVm s₂.vm).setTop g).pushFrame (.throwing q))
    rw [← hs₂]
    exact hsteps
end Payer
section Calls
variable {p : Program} {l : Launch} {e : Env} {R : Room} {s : State} {m : MethodId} {args : Array Value} {below : List Frame} {meth : Method} {c : Code} {T : State} {locs : List Loc} {cells slots : Nat}
theorem vx_callV (X : Stand p l e R s m args below meth c T locs cells slots) (hexec : p.tables.exec = Jvm.exec) {own C : String} {index : Nat} {y : MethodName} {bytes : ByteArray} {maxL : Nat} {ret : Option FieldType}
    (hown : s.vm.findClass own = some m.cls) (hlink : (Cond.methodLink own index y).before args s = true) (hinst : (Cond.instanceMethod y).before args s = true) (hsel : (Cond.selects C y y).before args s = true)
    (hcode : (Cond.code y bytes maxL ret).before args s = true) (hy : y.cls ≠ "java/lang/invoke/MethodHandle" ∧ y.cls ≠ "java/lang/invoke/VarHandle")
    {W9 : Nat} {Pre : Pt → Array Value → Prop} {Post : Pt → Array Value → Option Value → Pt → Prop} {PostX : Pt → Array Value → Addr → Pt → Prop} (hK : vx_Back l R p e below s args y 3 W9 Pre Post PostX)
    {b : Addr} {cellB : Cell} (hcell : T.heap[b]? = some cellB) (hobj : cellB.vm.isStatics = false) (hcls : s.vm.findClass C = some cellB.cls)
    {g : JFrame} (hg : g.method = m) (hsize : g.locals.size = c.maxLocals) {argsL rest : List Value} (hlen : ∀ sig, parseMethodDescriptor y.desc = some sig → argsL.length = sig.parameters.length)
    (hstack : g.stack = argsL.reverse ++ .ref b :: rest) (hW : 2 * g.monitorRoom + (rest.map fun v => v.category).sum ≤ W9) (hdg : decode c.code g.pc = .ok (.invokevirtual index, 3))
    (hpre : ∀ vm₁, s.WarmedH vm₁ → Pre ⟨T.setVm vm₁, locs, cells, slots⟩ (Value.ref b :: argsL).toArray) :
    (∃ (v : Option Value) (vm₁ : Vm) (B : Pt), s.WarmedH vm₁ ∧ Stand p l e R s m args below meth c B.U B.locs B.cells B.slots ∧ Post ⟨T.setVm vm₁, locs, cells, slots⟩ (Value.ref b :: argsL).toArray v B ∧
      ∀ target, Steps p.tables e below (B.U.setTop { g with pc := g.pc + 3, stack := v.toList ++ rest }) target → Steps p.tables e below (T.setTop g) target) ∨
    (∃ (q : Addr) (vm₁ : Vm) (B : Pt), s.WarmedH vm₁ ∧ Stand p l e R s m args below meth c B.U B.locs B.cells B.slots ∧ PostX ⟨T.setVm vm₁, locs, cells, slots⟩ (Value.ref b :: argsL).toArray q B ∧
      Steps p.tables e below (T.setTop g) ((B.U.setTop { g with stack := rest }).pushFrame (.throwing q))) := by
  obtain ⟨mk, methM, hnamed, hmethM, hstM, habM⟩ := Cond.instanceMethod_spec hinst
  obtain ⟨methM', cM, hmethM', -, -, -, -, -, -, hsigM⟩ := Cond.code_spec hnamed hcode
  cases hmethM.symm.trans hmethM'
  obtain ⟨c2, r2, m2, q1, q2, q3, q4, kP, hkP, hkPi⟩ := Cond.selects_spec hsel
  cases hcls.symm.trans q1
  cases (State.methodFound?_of_named hnamed hy).symm.trans q2
  cases hnamed.symm.trans q3
  have hselP : selectMethod e.platform s.vm cellB.cls mk = .method mk := by rw [Launch.admits_selectMethod X.admits]; exact q4
  obtain ⟨vm₁, X₁, hstep₁⟩ := X.invokevirtual hexec hown hlink hnamed hmethM hstM hkP hkPi hy (a := b) (cell := cellB) hcell
    (fun z h => by rw [h] at hobj; cases hobj) hselP hmethM habM hkP hkPi (g := g) hg (argsL := argsL) (rest := rest) (hlen _ hsigM) hstack hdg
  rcases hK m meth c ⟨T.setVm vm₁, locs, cells, slots⟩ { g with stack := rest } (.invokevirtual index) mk (Value.ref b :: argsL).toArray X₁ hg hsize hdg hW (X₁.named hnamed) (hpre vm₁ X₁.warmed) with ⟨v, B, X', hpost, hsteps⟩ | ⟨q, B, X', hpost, hsteps⟩
  · exact Or.inl ⟨v, vm₁, B, X₁.warmed, X', hpost, fun target h => hstep₁ _ fun acts => by rw [doInvoke_state]; exact hsteps.trans h⟩
  · exact Or.inr ⟨q, vm₁, B, X₁.warmed, X', hpost, hstep₁ _ fun acts => by rw [doInvoke_state]; exact hsteps⟩
theorem vx_callS (X : Stand p l e R s m args below meth c T locs cells slots) (hexec : p.tables.exec = Jvm.exec) {own : String} {index : Nat} {y : MethodName} {bytes : ByteArray} {maxL : Nat} {ret : Option FieldType}
    (hown : s.vm.findClass own = some m.cls) (hlink : (Cond.methodLink own index y).before args s = true) (hstat : (Cond.static y).before args s = true) (hinit : (Cond.initialized y.cls).before args s = true)
    (hcode : (Cond.code y bytes maxL ret).before args s = true) (hy : y.cls ≠ "java/lang/invoke/MethodHandle" ∧ y.cls ≠ "java/lang/invoke/VarHandle")
    {W9 : Nat} {Pre : Pt → Array Value → Prop} {Post : Pt → Array Value → Option Value → Pt → Prop} {PostX : Pt → Array Value → Addr → Pt → Prop} (hK : vx_Back l R p e below s args y 3 W9 Pre Post PostX)
    {g : JFrame} (hg : g.method = m) (hsize : g.locals.size = c.maxLocals) {argsL rest : List Value} (hlen : ∀ sig, parseMethodDescriptor y.desc = some sig → argsL.length = sig.parameters.length)
    (hstack : g.stack = argsL.reverse ++ rest) (hW : 2 * g.monitorRoom + (rest.map fun v => v.category).sum ≤ W9) (hdg : decode c.code g.pc = .ok (.invokestatic index, 3))
    (hpre : ∀ vm₁, s.WarmedH vm₁ → Pre ⟨T.setVm vm₁, locs, cells, slots⟩ argsL.toArray) :
    (∃ (v : Option Value) (vm₁ : Vm) (B : Pt), s.WarmedH vm₁ ∧ Stand p l e R s m args below meth c B.U B.locs B.cells B.slots ∧ Post ⟨T.setVm vm₁, locs, cells, slots⟩ argsL.toArray v B ∧
      ∀ target, Steps p.tables e below (B.U.setTop { g with pc := g.pc + 3, stack := v.toList ++ rest }) target → Steps p.tables e below (T.setTop g) target) ∨
    (∃ (q : Addr) (vm₁ : Vm) (B : Pt), s.WarmedH vm₁ ∧ Stand p l e R s m args below meth c B.U B.locs B.cells B.slots ∧ PostX ⟨T.setVm vm₁, locs, cells, slots⟩ argsL.toArray q B ∧
      Steps p.tables e below (T.setTop g) ((B.U.setTop { g with stack := rest }).pushFrame (.throwing q))) := by
  obtain ⟨mk, hnamed⟩ := Cond.code_named hcode
  obtain ⟨methM, cM, hmethM, -, -, -, -, -, -, hsigM⟩ := Cond.code_spec hnamed hcode
  have hstatic : methM.isStatic = true := Cond.static_spec hnamed hmethM hstat
  obtain ⟨kP, hkP, -⟩ := className_of_methodNamed hnamed
  have hinitP : kP.init = .initialized := Cond.initialized_spec (findClass_of_methodNamed hnamed) hkP hinit
  obtain ⟨vm₁, X₁, hstep₁⟩ := X.invokestatic hexec hown hlink hnamed hmethM hstatic hkP hinitP hy (g := g) hg (argsL := argsL) (rest := rest) (hlen _ hsigM) hstack hdg
  rcases hK m meth c ⟨T.setVm vm₁, locs, cells, slots⟩ { g with stack := rest } (.invokestatic index) mk argsL.toArray X₁ hg hsize hdg hW (X₁.named hnamed) (hpre vm₁ X₁.warmed) with ⟨v, B, X', hpost, hsteps⟩ | ⟨q, B, X', hpost, hsteps⟩
  · exact Or.inl ⟨v, vm₁, B, X₁.warmed, X', hpost, fun target h => hstep₁ _ fun acts => by rw [doInvoke_state]; exact hsteps.trans h⟩
  · exact Or.inr ⟨q, vm₁, B, X₁.warmed, X', hpost, hstep₁ _ fun acts => by rw [doInvoke_state]; exact hsteps⟩
end Calls
theorem vx_cls {s : State} {T : State} {vm₁ : Vm} {E : String} {k : ClassId} (hW : s.WarmedH vm₁) (h : (T.setVm vm₁).vm.findClass E = some k) : s.vm.findClass E = some k := by
  have h1 : vm₁.findClass E = some k := h
  rw [hW.alike.findClass] at h1
  exact h1
/-- the method's frame g, with q thrown over it -/
def vx_W (p : Program) (l : Launch) (e : Env) (R : Room) (s : State) (m : MethodId) (args : Array Value) (below : List Frame) (meth : Method) (c : Code) (H : Heap) (locs : List Loc) (cells slots : Nat) (Q : State → Prop) (g : JFrame) (q : Addr) : Prop :=
  ∀ T : State, T.heap = H → Stand p l e R s m args below meth c T locs cells slots → ∃ t, Steps p.tables e below ((T.setTop g).pushFrame (.throwing q)) t ∧ Q t
def vx_Run (p : Program) (l : Launch) (e : Env) (R : Room) (s : State) (m : MethodId) (args : Array Value) (below : List Frame) (meth : Method) (c : Code) (H : Heap) (locs : List Loc) (cells slots mc ms : Nat) (g : JFrame) (rest : List Value) (Qa : State → Outcome → State → Prop) (XC : String → State → State → Prop) (free : Addr → Prop) : Prop :=
  ∀ T : State, T.heap = H → Stand p l e R s m args below meth c T locs cells slots →
    (∃ (v : Option Value) (st₀ t T' : State) (L : List Loc), st₀.heap = H ∧ Stand p l e R s m args below meth c T' (locs ++ L) (cells + mc) (slots + ms) ∧ (∀ q ∈ L, free q.base) ∧ T'.heap = t.heap ∧ T'.vm = t.vm ∧ Qa st₀ (.returned v) t ∧
      Goes p e below T g T' { g with pc := g.pc + 3, stack := v.toList ++ rest }) ∨
    (∃ (q : Addr) (st₀ t T' : State) (L : List Loc) (E : String) (ce : Cell), st₀.heap = H ∧ Stand p l e R s m args below meth c T' (locs ++ L) (cells + mc) (slots + ms) ∧ (∀ z ∈ L, free z.base) ∧ T'.heap = t.heap ∧ T'.vm = t.vm ∧ XC E st₀ t ∧ t.heap[q]? = some ce ∧ ce.vm = .none ∧ s.vm.findClass E = some ce.cls ∧
      Steps p.tables e below (T.setTop g) ((T'.setTop { g with stack := rest }).pushFrame (.throwing q)))
def vx_X {S : Type} (px : S → Prop) (B : String → S → State → Prop) (A : Nat → Prop) : String → State → State → Prop := fun E st t => ∃ u : S, px u ∧ B E u t ∧ va_F A st t
section Runs
variable {p : Program} {l : Launch} {e : Env} {R : Room} {s : State} {m : MethodId} {args : Array Value} {below : List Frame} {meth : Method} {c : Code} {H : Heap} {locs : List Loc} {cells slots : Nat}
variable {y : MethodName} {bytes cc : ByteArray} {maxL nL mc ms n index : Nat} {ret : Option FieldType} {ws : List Cond} {rm : Room} {Pc : Array Value → State → Prop} {Qc : Array Value → State → Outcome → State → Prop} {XC : String → State → State → Prop} {free : Addr → Prop} {Ts : List Cond} {own C : String} {b : Addr} {As rest : List Value} {g : JFrame}
theorem vx_callBack (cb : CallB R s args own index y bytes maxL ret ws rm mc ms n) (hM : vx_Met l y ws rm Pc Qc XC mc ms free) (hbl : FrameBlind Pc) : vx_Back l R p e below s args y 3 8 (PreOf R mc ms Pc) (PostOf Qc mc ms free) (vx_Post XC mc ms free) := by
  obtain ⟨hrc, hrs, hfr, hlo, hws, hcw, -, hini, -⟩ := cb
  exact vx_back (bytes := bytes) (maxL := maxL) (ret := ret) hM hbl hrc hrs hfr hlo hws hcw (fun a' U hW => word_at hW (Or.inl (by first | rfl | simp [Cond.onTables, Cond.keeps, Cond.steady])) hini)
theorem vx_runV (S : CallFix p m c cc nL s args Ts own) (hM : vx_Met l y ws rm Pc Qc XC mc ms free) (cw : CallW R s args own C index y bytes maxL ret ws rm mc ms n) (hp : PreV s H C b Pc As)
    (hg : g.method = m) (hn : As.length = n) (hsize : g.locals.size = nL) (hstack : g.stack = As.reverse ++ .ref b :: rest) (hW : 2 * g.monitorRoom + (rest.map fun v => v.category).sum ≤ 8) (hdg : decode cc g.pc = .ok (.invokevirtual index, 3)) (hf : cells + mc ≤ R.cells ∧ slots + ms ≤ R.slots) :
    vx_Run p l e R s m args below meth c H locs cells slots mc ms g rest (Qc (Value.ref b :: As).toArray) XC free := by
  have hK : vx_Back l R p e below s args y 3 8 (PreOf R mc ms Pc) (PostOf Qc mc ms free) (vx_Post XC mc ms free) := vx_callBack cw.1 hM hp.1
  obtain ⟨⟨-, -, -, -, -, -, hcode, -, hy, hlen, hl⟩, hin, hse⟩ := cw
  obtain ⟨hx, hb, hml, ho, -⟩ := S
  obtain ⟨-, ⟨cellB, hcB, hoB, hclB⟩, hPc⟩ := hp
  intro T hT X
  rcases vx_callV X hx (C := C) (bytes := bytes) (maxL := maxL) (ret := ret) ho hl hin hse hcode hy hK (by rw [hT]; exact hcB) hoB hclB hg (hsize.trans hml.symm) (argsL := As) (rest := rest) (fun sig h => hn.trans (hlen sig h)) hstack hW (by rw [hb]; exact hdg)
    (fun vm₁ hW₁ => ⟨hf.1, hf.2, hPc (T.setVm vm₁) hT hW₁⟩) with ⟨v, vm₁, ⟨U', l2, c2, s2⟩, hW₁, X', ⟨g', mk, t, L, e1, e2, hq, h1, hL, h2, h3⟩, st⟩ | ⟨q, vm₁, ⟨U', l2, c2, s2⟩, hW₁, X', ⟨g', mk, t, L, E, ce, e1, e2, hq, hce, hcv, hcl, h1, hL, h2, h3⟩, st⟩
  · dsimp only [Pt.U, Pt.locs, Pt.cells, Pt.slots] at X' e1 e2 h1 h2 h3 st
    subst h1; subst h2; subst h3
    exact Or.inl ⟨v, (T.setVm vm₁).calling g' mk (Value.ref b :: As).toArray, t, U', L, hT, X', hL, e1, e2, hq, st⟩
  · dsimp only [Pt.U, Pt.locs, Pt.cells, Pt.slots] at X' e1 e2 h1 h2 h3 st hcl
    subst h1; subst h2; subst h3
    exact Or.inr ⟨q, (T.setVm vm₁).calling g' mk (Value.ref b :: As).toArray, t, U', L, E, ce, hT, X', hL, e1, e2, hq, hce, hcv, vx_cls hW₁ hcl, st⟩
theorem vx_runS (S : CallFix p m c cc nL s args Ts own) (hM : vx_Met l y ws rm Pc Qc XC mc ms free) (cw : CallB R s args own index y bytes maxL ret ws rm mc ms n ∧ (Cond.static y).before args s = true) (hp : PreS s H Pc As)
    (hg : g.method = m) (hn : As.length = n) (hsize : g.locals.size = nL) (hstack : g.stack = As.reverse ++ rest) (hW : 2 * g.monitorRoom + (rest.map fun v => v.category).sum ≤ 8) (hdg : decode cc g.pc = .ok (.invokestatic index, 3)) (hf : cells + mc ≤ R.cells ∧ slots + ms ≤ R.slots) :
    vx_Run p l e R s m args below meth c H locs cells slots mc ms g rest (Qc As.toArray) XC free := by
  have hK : vx_Back l R p e below s args y 3 8 (PreOf R mc ms Pc) (PostOf Qc mc ms free) (vx_Post XC mc ms free) := vx_callBack cw.1 hM hp.1
  obtain ⟨⟨-, -, -, -, -, -, hcode, hini, hy, hlen, hl⟩, hstt⟩ := cw
  obtain ⟨hx, hb, hml, ho, -⟩ := S
  intro T hT X
  rcases vx_callS X hx (bytes := bytes) (maxL := maxL) (ret := ret) ho hl hstt hini hcode hy hK hg (hsize.trans hml.symm) (argsL := As) (rest := rest) (fun sig h => hn.trans (hlen sig h)) hstack hW (by rw [hb]; exact hdg)
    (fun vm₁ hW₁ => ⟨hf.1, hf.2, hp.2 (T.setVm vm₁) hT hW₁⟩) with ⟨v, vm₁, ⟨U', l2, c2, s2⟩, hW₁, X', ⟨g', mk, t, L, e1, e2, hq, h1, hL, h2, h3⟩, st⟩ | ⟨q, vm₁, ⟨U', l2, c2, s2⟩, hW₁, X', ⟨g', mk, t, L, E, ce, e1, e2, hq, hce, hcv, hcl, h1, hL, h2, h3⟩, st⟩
  · dsimp only [Pt.U, Pt.locs, Pt.cells, Pt.slots] at X' e1 e2 h1 h2 h3 st
    subst h1; subst h2; subst h3
    exact Or.inl ⟨v, (T.setVm vm₁).calling g' mk As.toArray, t, U', L, hT, X', hL, e1, e2, hq, st⟩
  · dsimp only [Pt.U, Pt.locs, Pt.cells, Pt.slots] at X' e1 e2 h1 h2 h3 st hcl
    subst h1; subst h2; subst h3
    exact Or.inr ⟨q, (T.setVm vm₁).calling g' mk As.toArray, t, U', L, E, ce, hT, X', hL, e1, e2, hq, hce, hcv, vx_cls hW₁ hcl, st⟩
end Runs
section Rows
variable {p : Program} {l : Launch} {e : Env} {R : Room} {s : State} {m : MethodId} {args : Array Value} {below : List Frame} {meth : Method} {c : Code} {H : Heap} {locs : List Loc} {cells slots : Nat} {Q : State → Prop}
variable {mc ms : Nat} {free : Addr → Prop} {A0 A1 : Nat → Prop} {H0 : Heap} {a : Array Value} {pc : Nat} {ls : Array Slot} {st0 rest : List Value}
theorem vx_keep {st₀ t T' : State} {L : List Loc} (h0 : st₀.heap = H) (e1 : T'.heap = t.heap) (hS : va_S A0 H0 H locs) (hA : ∀ q, q < H.size → A1 q → A0 q) (hf : ∀ q, free q → A0 q) (hL : ∀ q ∈ L, free q.base) (hF : va_F A1 st₀ t) :
    H.size ≤ T'.heap.size ∧ (∀ q : Nat, q < H.size → ¬ A1 q → T'.heap[q]? = H[q]?) ∧ va_S A0 H0 T'.heap (locs ++ L) := by
  obtain ⟨hz, hk⟩ := hF
  rw [h0] at hz hk
  exact ⟨by rw [e1]; exact hz, fun q h1 h2 => by rw [e1]; exact hk q h1 h2,
    ⟨Nat.le_trans hS.1 (by rw [e1]; exact hz), fun q h1 h2 => by rw [e1, hk q (Nat.lt_of_lt_of_le h1 hS.1) (fun z => h2 (hA q (Nat.lt_of_lt_of_le h1 hS.1) z))]; exact hS.2.1 q h1 h2, fun q hq => by
      rcases List.mem_append.mp hq with h | h
      · exact hS.2.2 q h
      · exact hf _ (hL q h)⟩⟩
theorem vx_calli {S SX : Type} {post : Int32 → S → Prop} {px : SX → Prop} {B : S → State → Prop} {BX : String → SX → State → Prop} {AX : Nat → Prop} (hr : vx_Run p l e R s m args below meth c H locs cells slots mc ms (F0 m pc ls st0) rest (va_Qi post B A1 a) (vx_X px BX AX) free) (hS : va_S A0 H0 H locs) (hA : ∀ q, q < H.size → A1 q → A0 q) (hf : ∀ q, free q → A0 q) (hAX : ∀ q, q < H.size → AX q → A0 q)
    (kx : ∀ (E : String) (ce : Cell) (q9 : Addr) (u : SX) (t : State) (H1 : Heap) (locs1 : List Loc), t.heap = H1 → s.vm.Alike t.vm → px u → BX E u t → H.size ≤ H1.size → (∀ q : Nat, q < H.size → ¬ AX q → H1[q]? = H[q]?) → va_S A0 H0 H1 locs1 → H1[q9]? = some ce → ce.vm = .none → s.vm.findClass E = some ce.cls → vx_W p l e R s m args below meth c H1 locs1 (cells + mc) (slots + ms) Q (F0 m pc ls rest) q9)
    (kk : ∀ (r : Int32) (u : S) (t : State) (H1 : Heap) (locs1 : List Loc), t.heap = H1 → s.vm.Alike t.vm → post r u → B u t → H.size ≤ H1.size → (∀ q : Nat, q < H.size → ¬ A1 q → H1[q]? = H[q]?) → va_S A0 H0 H1 locs1 → W p l e R s m args below meth c H1 locs1 (cells + mc) (slots + ms) Q (F0 m (pc + 3) ls (.int r :: rest))) : W p l e R s m args below meth c H locs cells slots Q (F0 m pc ls st0) := by
  intro T hT X
  rcases hr T hT X with ⟨v, st₀, t, T', L, h0, X', hL, e1, e2, ⟨⟨r, u, hv, hp, hb⟩, hF⟩, st⟩ | ⟨q, st₀, t, T', L, E, ce, h0, X', hL, e1, e2, ⟨u, hp, hb, hF⟩, hce, hcv, hcl, st⟩
  · cases hv
    obtain ⟨k1, k2, k3⟩ := vx_keep h0 e1 hS hA hf hL hF
    obtain ⟨t2, a1, b1⟩ := kk r u t T'.heap (locs ++ L) e1.symm (by rw [← e2]; exact X'.warmed.alike) hp hb k1 k2 k3 T' rfl X'
    exact ⟨t2, st t2 a1, b1⟩
  · obtain ⟨k1, k2, k3⟩ := vx_keep h0 e1 hS hAX hf hL hF
    obtain ⟨t2, a1, b1⟩ := kx E ce q u t T'.heap (locs ++ L) e1.symm (by rw [← e2]; exact X'.warmed.alike) hp hb k1 k2 k3 (by rw [e1]; exact hce) hcv hcl T' rfl X'
    exact ⟨t2, st.trans a1, b1⟩
theorem vx_calll {S SX : Type} {post : Int64 → S → Prop} {px : SX → Prop} {B : S → State → Prop} {BX : String → SX → State → Prop} {AX : Nat → Prop} (hr : vx_Run p l e R s m args below meth c H locs cells slots mc ms (F0 m pc ls st0) rest (va_Ql post B A1 a) (vx_X px BX AX) free) (hS : va_S A0 H0 H locs) (hA : ∀ q, q < H.size → A1 q → A0 q) (hf : ∀ q, free q → A0 q) (hAX : ∀ q, q < H.size → AX q → A0 q)
    (kx : ∀ (E : String) (ce : Cell) (q9 : Addr) (u : SX) (t : State) (H1 : Heap) (locs1 : List Loc), t.heap = H1 → s.vm.Alike t.vm → px u → BX E u t → H.size ≤ H1.size → (∀ q : Nat, q < H.size → ¬ AX q → H1[q]? = H[q]?) → va_S A0 H0 H1 locs1 → H1[q9]? = some ce → ce.vm = .none → s.vm.findClass E = some ce.cls → vx_W p l e R s m args below meth c H1 locs1 (cells + mc) (slots + ms) Q (F0 m pc ls rest) q9)
    (kk : ∀ (r : Int64) (u : S) (t : State) (H1 : Heap) (locs1 : List Loc), t.heap = H1 → s.vm.Alike t.vm → post r u → B u t → H.size ≤ H1.size → (∀ q : Nat, q < H.size → ¬ A1 q → H1[q]? = H[q]?) → va_S A0 H0 H1 locs1 → W p l e R s m args below meth c H1 locs1 (cells + mc) (slots + ms) Q (F0 m (pc + 3) ls (.long r :: rest))) : W p l e R s m args below meth c H locs cells slots Q (F0 m pc ls st0) := by
  intro T hT X
  rcases hr T hT X with ⟨v, st₀, t, T', L, h0, X', hL, e1, e2, ⟨⟨r, u, hv, hp, hb⟩, hF⟩, st⟩ | ⟨q, st₀, t, T', L, E, ce, h0, X', hL, e1, e2, ⟨u, hp, hb, hF⟩, hce, hcv, hcl, st⟩
  · cases hv
    obtain ⟨k1, k2, k3⟩ := vx_keep h0 e1 hS hA hf hL hF
    obtain ⟨t2, a1, b1⟩ := kk r u t T'.heap (locs ++ L) e1.symm (by rw [← e2]; exact X'.warmed.alike) hp hb k1 k2 k3 T' rfl X'
    exact ⟨t2, st t2 a1, b1⟩
  · obtain ⟨k1, k2, k3⟩ := vx_keep h0 e1 hS hAX hf hL hF
    obtain ⟨t2, a1, b1⟩ := kx E ce q u t T'.heap (locs ++ L) e1.symm (by rw [← e2]; exact X'.warmed.alike) hp hb k1 k2 k3 (by rw [e1]; exact hce) hcv hcl T' rfl X'
    exact ⟨t2, st.trans a1, b1⟩
theorem vx_callf {S SX : Type} {post : UInt32 → S → Prop} {px : SX → Prop} {B : S → State → Prop} {BX : String → SX → State → Prop} {AX : Nat → Prop} (hr : vx_Run p l e R s m args below meth c H locs cells slots mc ms (F0 m pc ls st0) rest (va_Qf post B A1 a) (vx_X px BX AX) free) (hS : va_S A0 H0 H locs) (hA : ∀ q, q < H.size → A1 q → A0 q) (hf : ∀ q, free q → A0 q) (hAX : ∀ q, q < H.size → AX q → A0 q)
    (kx : ∀ (E : String) (ce : Cell) (q9 : Addr) (u : SX) (t : State) (H1 : Heap) (locs1 : List Loc), t.heap = H1 → s.vm.Alike t.vm → px u → BX E u t → H.size ≤ H1.size → (∀ q : Nat, q < H.size → ¬ AX q → H1[q]? = H[q]?) → va_S A0 H0 H1 locs1 → H1[q9]? = some ce → ce.vm = .none → s.vm.findClass E = some ce.cls → vx_W p l e R s m args below meth c H1 locs1 (cells + mc) (slots + ms) Q (F0 m pc ls rest) q9)
    (kk : ∀ (r : UInt32) (u : S) (t : State) (H1 : Heap) (locs1 : List Loc), t.heap = H1 → s.vm.Alike t.vm → post r u → B u t → H.size ≤ H1.size → (∀ q : Nat, q < H.size → ¬ A1 q → H1[q]? = H[q]?) → va_S A0 H0 H1 locs1 → W p l e R s m args below meth c H1 locs1 (cells + mc) (slots + ms) Q (F0 m (pc + 3) ls (.float r :: rest))) : W p l e R s m args below meth c H locs cells slots Q (F0 m pc ls st0) := by
  intro T hT X
  rcases hr T hT X with ⟨v, st₀, t, T', L, h0, X', hL, e1, e2, ⟨⟨r, u, hv, hp, hb⟩, hF⟩, st⟩ | ⟨q, st₀, t, T', L, E, ce, h0, X', hL, e1, e2, ⟨u, hp, hb, hF⟩, hce, hcv, hcl, st⟩
  · cases hv
    obtain ⟨k1, k2, k3⟩ := vx_keep h0 e1 hS hA hf hL hF
    obtain ⟨t2, a1, b1⟩ := kk r u t T'.heap (locs ++ L) e1.symm (by rw [← e2]; exact X'.warmed.alike) hp hb k1 k2 k3 T' rfl X'
    exact ⟨t2, st t2 a1, b1⟩
  · obtain ⟨k1, k2, k3⟩ := vx_keep h0 e1 hS hAX hf hL hF
    obtain ⟨t2, a1, b1⟩ := kx E ce q u t T'.heap (locs ++ L) e1.symm (by rw [← e2]; exact X'.warmed.alike) hp hb k1 k2 k3 (by rw [e1]; exact hce) hcv hcl T' rfl X'
    exact ⟨t2, st.trans a1, b1⟩
theorem vx_calld {S SX : Type} {post : UInt64 → S → Prop} {px : SX → Prop} {B : S → State → Prop} {BX : String → SX → State → Prop} {AX : Nat → Prop} (hr : vx_Run p l e R s m args below meth c H locs cells slots mc ms (F0 m pc ls st0) rest (va_Qd post B A1 a) (vx_X px BX AX) free) (hS : va_S A0 H0 H locs) (hA : ∀ q, q < H.size → A1 q → A0 q) (hf : ∀ q, free q → A0 q) (hAX : ∀ q, q < H.size → AX q → A0 q)
    (kx : ∀ (E : String) (ce : Cell) (q9 : Addr) (u : SX) (t : State) (H1 : Heap) (locs1 : List Loc), t.heap = H1 → s.vm.Alike t.vm → px u → BX E u t → H.size ≤ H1.size → (∀ q : Nat, q < H.size → ¬ AX q → H1[q]? = H[q]?) → va_S A0 H0 H1 locs1 → H1[q9]? = some ce → ce.vm = .none → s.vm.findClass E = some ce.cls → vx_W p l e R s m args below meth c H1 locs1 (cells + mc) (slots + ms) Q (F0 m pc ls rest) q9)
    (kk : ∀ (r : UInt64) (u : S) (t : State) (H1 : Heap) (locs1 : List Loc), t.heap = H1 → s.vm.Alike t.vm → post r u → B u t → H.size ≤ H1.size → (∀ q : Nat, q < H.size → ¬ A1 q → H1[q]? = H[q]?) → va_S A0 H0 H1 locs1 → W p l e R s m args below meth c H1 locs1 (cells + mc) (slots + ms) Q (F0 m (pc + 3) ls (.double r :: rest))) : W p l e R s m args below meth c H locs cells slots Q (F0 m pc ls st0) := by
  intro T hT X
  rcases hr T hT X with ⟨v, st₀, t, T', L, h0, X', hL, e1, e2, ⟨⟨r, u, hv, hp, hb⟩, hF⟩, st⟩ | ⟨q, st₀, t, T', L, E, ce, h0, X', hL, e1, e2, ⟨u, hp, hb, hF⟩, hce, hcv, hcl, st⟩
  · cases hv
    obtain ⟨k1, k2, k3⟩ := vx_keep h0 e1 hS hA hf hL hF
    obtain ⟨t2, a1, b1⟩ := kk r u t T'.heap (locs ++ L) e1.symm (by rw [← e2]; exact X'.warmed.alike) hp hb k1 k2 k3 T' rfl X'
    exact ⟨t2, st t2 a1, b1⟩
  · obtain ⟨k1, k2, k3⟩ := vx_keep h0 e1 hS hAX hf hL hF
    obtain ⟨t2, a1, b1⟩ := kx E ce q u t T'.heap (locs ++ L) e1.symm (by rw [← e2]; exact X'.warmed.alike) hp hb k1 k2 k3 (by rw [e1]; exact hce) hcv hcl T' rfl X'
    exact ⟨t2, st.trans a1, b1⟩
theorem vx_callv {S SX : Type} {post : S → Prop} {px : SX → Prop} {B : S → State → Prop} {BX : String → SX → State → Prop} {AX : Nat → Prop} (hr : vx_Run p l e R s m args below meth c H locs cells slots mc ms (F0 m pc ls st0) rest (va_Qv post B A1 a) (vx_X px BX AX) free) (hS : va_S A0 H0 H locs) (hA : ∀ q, q < H.size → A1 q → A0 q) (hf : ∀ q, free q → A0 q) (hAX : ∀ q, q < H.size → AX q → A0 q)
    (kx : ∀ (E : String) (ce : Cell) (q9 : Addr) (u : SX) (t : State) (H1 : Heap) (locs1 : List Loc), t.heap = H1 → s.vm.Alike t.vm → px u → BX E u t → H.size ≤ H1.size → (∀ q : Nat, q < H.size → ¬ AX q → H1[q]? = H[q]?) → va_S A0 H0 H1 locs1 → H1[q9]? = some ce → ce.vm = .none → s.vm.findClass E = some ce.cls → vx_W p l e R s m args below meth c H1 locs1 (cells + mc) (slots + ms) Q (F0 m pc ls rest) q9)
    (kk : ∀ (u : S) (t : State) (H1 : Heap) (locs1 : List Loc), t.heap = H1 → s.vm.Alike t.vm → post u → B u t → H.size ≤ H1.size → (∀ q : Nat, q < H.size → ¬ A1 q → H1[q]? = H[q]?) → va_S A0 H0 H1 locs1 → W p l e R s m args below meth c H1 locs1 (cells + mc) (slots + ms) Q (F0 m (pc + 3) ls (rest))) : W p l e R s m args below meth c H locs cells slots Q (F0 m pc ls st0) := by
  intro T hT X
  rcases hr T hT X with ⟨v, st₀, t, T', L, h0, X', hL, e1, e2, ⟨⟨u, hv, hp, hb⟩, hF⟩, st⟩ | ⟨q, st₀, t, T', L, E, ce, h0, X', hL, e1, e2, ⟨u, hp, hb, hF⟩, hce, hcv, hcl, st⟩
  · cases hv
    obtain ⟨k1, k2, k3⟩ := vx_keep h0 e1 hS hA hf hL hF
    obtain ⟨t2, a1, b1⟩ := kk u t T'.heap (locs ++ L) e1.symm (by rw [← e2]; exact X'.warmed.alike) hp hb k1 k2 k3 T' rfl X'
    exact ⟨t2, st t2 a1, b1⟩
  · obtain ⟨k1, k2, k3⟩ := vx_keep h0 e1 hS hAX hf hL hF
    obtain ⟨t2, a1, b1⟩ := kx E ce q u t T'.heap (locs ++ L) e1.symm (by rw [← e2]; exact X'.warmed.alike) hp hb k1 k2 k3 (by rw [e1]; exact hce) hcv hcl T' rfl X'
    exact ⟨t2, st.trans a1, b1⟩
/-- caught by the row x of this method's table; the rows ahead don't take it -/
theorem vx_catch {own name : String} {E : String} {ce : Cell} {q : Addr} (hown : s.vm.findClass own = some m.cls) (pre : List ExceptionTableEntry) (x : ExceptionTableEntry) (suf : List ExceptionTableEntry) (hsplit : c.exceptionTable.toList = pre ++ x :: suf)
    (hpass : ∀ z ∈ pre, covers z pc = false ∨ (z.catchType ≠ 0 ∧ ∃ nm : String, (Cond.classLink own z.catchType nm).before args s = true ∧ va_Nc E nm s)) (hx : covers x pc = true) (h0 : x.catchType ≠ 0)
    (hlink : (Cond.classLink own x.catchType name).before args s = true) (hcast : (Cond.castable E name).before args s = true) (hcell : H[q]? = some ce) (hv : ce.vm = .none) (hcl : s.vm.findClass E = some ce.cls)
    (kk : W p l e R s m args below meth c H locs cells slots Q (F0 m x.handlerPc ls [.ref q])) : vx_W p l e R s m args below meth c H locs cells slots Q (F0 m pc ls rest) q := by
  intro T hT X
  have hpl : e.platform.magicAccessors = ({} : Platform).magicAccessors := by rw [X.admits.platform]
  obtain ⟨c3, c4, hc3, hc4, hasg⟩ := Cond.castable_spec hcast
  cases Option.some.inj (hc3.symm.trans hcl)
  obtain ⟨c5, hc5, hcl5⟩ := Cond.classLink_spec hown hlink e.platform hpl
  cases Option.some.inj (hc4.symm.trans hc5)
  obtain ⟨vm', X', st⟩ := X.thenCaughtThrough q (g := F0 m pc ls rest) rfl (Steps.refl _) (by rw [hT]; exact hcell) (by rw [hv]; rfl) (by obtain ⟨k9, h9, -⟩ := Vm.findClass_spec hcl; exact ⟨k9, h9⟩) pre x suf hsplit
    (fun z hz => by
      rcases hpass z hz with h | ⟨hz0, nm, hl1, hn1⟩
      · exact Or.inl h
      · obtain ⟨c6, hc6, hcl6⟩ := Cond.classLink_spec hown hl1 e.platform hpl
        obtain ⟨a8, b8, h1, h2, h3⟩ := hn1
        cases Option.some.inj (h1.symm.trans hcl)
        cases Option.some.inj (h2.symm.trans hc6)
        exact Or.inr ⟨hz0, _, hcl6, h3⟩) hx (Or.inr ⟨h0, c4, hcl5, hasg⟩)
  obtain ⟨t, a1, b1⟩ := kk (T.setVm vm') hT X'
  exact ⟨t, st.trans a1, b1⟩
end Rows
section Ends
variable {p : Program} {l : Launch} {e : Env} {R : Room} {s : State} {m : MethodId} {args : Array Value} {below : List Frame} {meth : Method} {c : Code} {H : Heap} {locs : List Loc} {cells slots : Nat} {Q : State → Prop}
variable {mc ms : Nat} {free : Addr → Prop} {A0 A1 : Nat → Prop} {H0 : Heap} {a : Array Value} {ls : Array Slot} {st0 rest : List Value}
variable {Qc : Array Value → State → Outcome → State → Prop} {XC : String → State → State → Prop}
/-- what a body that may throw owes at its end -/
def vx_MQ (below : List Frame) (Qc : Array Value → State → Outcome → State → Prop) (XC : String → State → State → Prop) (a : Array Value) (s : State) (mc ms : Nat) (free : Addr → Prop) : State → Prop := fun t =>
  ∃ o, t.status = .running ∧ Ended t below o ∧ vx_Q Qc XC mc ms free a s o t
theorem vx_ret {g : JFrame} {mc ms : Nat} (k : W p l e R s m args below meth c H locs cells slots (MQ below Qc args s mc ms free) g) : W p l e R s m args below meth c H locs cells slots (vx_MQ below Qc XC args s mc ms free) g := by
  intro T hT X
  obtain ⟨t, a1, o, b1, b2, b3, b4⟩ := k T hT X
  exact ⟨t, a1, o, b1, b2, Or.inl ⟨b3, b4⟩⟩
/-- not caught here: it goes on to the caller -/
theorem vx_widen {g : JFrame} {q : Addr} {k n : Nat} (h1 : cells ≤ k) (h2 : slots ≤ n) (kk : vx_W p l e R s m args below meth c H locs k n Q g q) : vx_W p l e R s m args below meth c H locs cells slots Q g q := fun T hT X => kk T hT (stand_widen X h1 h2)
theorem vx_out {pc : Nat} {E : String} {ce : Cell} {q : Addr} {mc ms : Nat} (hout : ∀ x ∈ c.exceptionTable.toList, covers x pc = false) (hlocks : meth.locks = false) (hcell : H[q]? = some ce) (hv : ce.vm = .none) (hcl : s.vm.findClass E = some ce.cls)
    (hx : ∀ t : State, t.heap = H → s.vm.Alike t.vm → XC E s t) (hf : ∀ z ∈ locs, free z.base) (hc : cells ≤ mc) (hs : slots ≤ ms) :
    vx_W p l e R s m args below meth c H locs cells slots (vx_MQ below Qc XC args s mc ms free) (F0 m pc ls rest) q := by
  intro T hT X
  obtain ⟨st1, hrun, hend, hW, hsm⟩ := X.leaveThrown q (g := F0 m pc ls rest) rfl rfl rfl hout hlocks
  have hcell9 : (T.setFrames (.throwing q :: below)).heap[q]? = some ce := by
    show T.heap[q]? = some ce
    rw [hT]; exact hcell
  exact ⟨_, st1, .threw q, hrun, hend, Or.inr ⟨q, rfl, E, ce, locs, hx _ hT hW.alike, hcell9, hv, hcl, hW, hsm.mono hc hs, hf⟩⟩
theorem vx_frame {U : State} {k n : Nat} (h : s.sameButNew ({ U with vm := s.vm } : State) locs k n) : s.heap.size ≤ U.heap.size ∧ ∀ q : Nat, q < s.heap.size → (∀ z ∈ locs, z.base ≠ q) → U.heap[q]? = s.heap[q]? := by
  obtain ⟨-, h2, -, -, -, h6⟩ := h
  refine ⟨h2, fun q hq hz => ?_⟩
  obtain ⟨c9, e1, e2, e3, e4⟩ := h6 q _ (Array.getElem?_eq_getElem hq)
  have hs : c9.slots = (s.heap[q]).slots := Array.ext_getElem? fun i => e4 i fun hm => hz _ hm rfl
  have h9 : c9 = s.heap[q] := by
    rw [hs] at e2
    exact e2
  have e5 : U.heap[q]? = some c9 := e1
  rw [e5, h9, Array.getElem?_eq_getElem hq]
/-- the words of a throw but the four that speak of the heap -/
def vx_no (w : Cond) : Bool := decide (w ≠ .isRef (.static Bundle.tN "UNASSIGNED_STACK" Bundle.steD)) && decide (w ≠ .isRef (.static Bundle.tN "SUPPRESSED_SENTINEL" Bundle.listD)) && decide (w ≠ .laysStatic Bundle.tN "UNASSIGNED_STACK" Bundle.steD) && decide (w ≠ .laysStatic Bundle.tN "SUPPRESSED_SENTINEL" Bundle.listD)
def vx_at0 (own : String) (ic : Nat) (X : String) (names : List String) : List Cond := (Bundle.ownAtoms0 own ic X names).filter vx_no
def vx_atS (own : String) (ic : Nat) (X : String) (names : List String) : List Cond := (Bundle.ownAtoms own ic X names).filter vx_no
/-- a word that the tables alone decide, or a good one -/
def vx_ot (w : Cond) : Bool := w.onTables || goodWord w
theorem vx_ot_at {args a' : Array Value} {s U : State} {w : Cond} (hW : s.WarmedH U.vm) (hvm : s.vm = U.vm) (hg : vx_ot w = true) (h : w.before args s = true) : w.before a' U = true := by
  simp only [vx_ot, Bool.or_eq_true] at hg
  rcases hg with hg | hg
  · exact va_tabs hg hvm h
  · exact word_at hW (good_of_word hg) h
/-- a list's words: the good ones out of the method's own list, the others by premises of their own -/
theorem vx_hat {args : Array Value} {s : State} {L B : List Cond} (h1 : ∀ w ∈ L.filter goodWord, w.before args s = true) (h2 : ∀ w ∈ L.filter (fun w => !goodWord w), w ∈ B) (h3 : ∀ w ∈ B, w.before args s = true) : ∀ w ∈ L, w.before args s = true := by
  intro w hw
  by_cases g : goodWord w = true
  · exact h1 w (List.mem_filter.mpr ⟨hw, g⟩)
  · refine h3 w (h2 w (List.mem_filter.mpr ⟨hw, ?_⟩))
    show (!goodWord w) = true
    cases hgw : goodWord w
    · rfl
    · exact absurd hgw g
theorem vx_c {args : Array Value} {s : State} {w : Cond} {B : List Cond} (h : w.before args s = true) (t : ∀ w ∈ B, w.before args s = true) : ∀ w' ∈ w :: B, w'.before args s = true := fun w' h' => (List.mem_cons.mp h').elim (fun e => by rw [e]; exact h) (t w')
theorem vx_n {args : Array Value} {s : State} : ∀ w ∈ ([] : List Cond), w.before args s = true := fun _ h => nomatch h
theorem vx_own {args : Array Value} {s : State} {L : List Cond} (h1 : ∀ w ∈ L.filter vx_no, w.before args s = true)
    (hU : (Cond.isRef (.static Bundle.tN "UNASSIGNED_STACK" Bundle.steD)).before args s = true) (hN : (Cond.isRef (.static Bundle.tN "SUPPRESSED_SENTINEL" Bundle.listD)).before args s = true)
    (lU : (Cond.laysStatic Bundle.tN "UNASSIGNED_STACK" Bundle.steD).before args s = true) (lN : (Cond.laysStatic Bundle.tN "SUPPRESSED_SENTINEL" Bundle.listD).before args s = true) : ∀ w ∈ L, w.before args s = true := by
  intro w hw
  by_cases e1 : w = .isRef (.static Bundle.tN "UNASSIGNED_STACK" Bundle.steD)
  · rw [e1]; exact hU
  · by_cases e2 : w = .isRef (.static Bundle.tN "SUPPRESSED_SENTINEL" Bundle.listD)
    · rw [e2]; exact hN
    · by_cases e3 : w = .laysStatic Bundle.tN "UNASSIGNED_STACK" Bundle.steD
      · rw [e3]; exact lU
      · by_cases e4 : w = .laysStatic Bundle.tN "SUPPRESSED_SENTINEL" Bundle.listD
        · rw [e4]; exact lN
        · exact h1 w (List.mem_filter.mpr ⟨hw, by unfold vx_no; rw [decide_eq_true e1, decide_eq_true e2, decide_eq_true e3, decide_eq_true e4]; rfl⟩)
/-- where a static field lies, its class's statics cell in H -/
def vx_L (C n d : String) (A : Nat → Prop) (U : State) (H : Heap) : Prop := ∃ (c : ClassId) (k : Class) (i : Nat) (f : Field) (a : Nat) (cell : Cell), U.vm.findClass C = some c ∧ U.fieldFound? C n d = some (c, k, i, f) ∧ f.isStatic = true ∧ k.statics = some a ∧ H[a]? = some cell ∧ cell.vm.isStatics = true ∧ cell.cls = c ∧ f.slot < cell.slots.size ∧ k.staticTypes[f.slot]? = some f.type ∧ ¬ A a
theorem vx_L.moved {C n d : String} {A : Nat → Prop} {u U : State} {H : Heap} (hvm : u.vm.Alike U.vm) (h : vx_L C n d A u H) : vx_L C n d A U H := by
  obtain ⟨c, k, i, f, a, cell, h1, h2, h3, h4, h5, h6, h7, h8, h9, h10⟩ := h
  obtain ⟨k', hi', he⟩ := State.fieldFound?_setVm hvm h2
  exact ⟨c, k', i, f, a, cell, by rw [hvm.findClass]; exact h1, hi', h3, by rw [he]; exact h4, h5, h6, h7, h8, by rw [he]; exact h9, h10⟩
theorem vx_L.kept {C n d : String} {A : Nat → Prop} {U : State} {H H1 : Heap} (h : vx_L C n d A U H) (hq : ∀ a : Nat, a < H.size → ¬ A a → H1[a]? = H[a]?) : vx_L C n d A U H1 := by
  obtain ⟨c, k, i, f, a, cell, h1, h2, h3, h4, h5, h6, h7, h8, h9, h10⟩ := h
  exact ⟨c, k, i, f, a, cell, h1, h2, h3, h4, by rw [hq a (Array.getElem?_eq_some_iff.mp h5).1 h10]; exact h5, h6, h7, h8, h9, h10⟩
theorem vx_L.narrow {C n d : String} {A B : Nat → Prop} {U : State} {H : Heap} (h : vx_L C n d A U H) (hAB : ∀ q, B q → A q) : vx_L C n d B U H := by
  obtain ⟨c, k, i, f, a, cell, h1, h2, h3, h4, h5, h6, h7, h8, h9, h10⟩ := h
  exact ⟨c, k, i, f, a, cell, h1, h2, h3, h4, h5, h6, h7, h8, h9, fun z => h10 (hAB _ z)⟩
theorem vx_L.word {C n d : String} {A : Nat → Prop} {s : State} {args : Array Value} (h : vx_L C n d A s s.heap) : (Cond.laysStatic C n d).before args s = true := by
  obtain ⟨c, k, i, f, a, cell, h1, h2, h3, h4, h5, h6, h7, h8, h9, -⟩ := h
  show (Cond.laysStatic C n d).holds args s none s [] = true
  exact Cond.laysStatic_of h1 h2 h3 h4 h5 h6 h7 h8 h9
/-- .. and what it holds: null or some reference -/
def vx_Zq (C n d : String) (A : Nat → Prop) (U : State) (H : Heap) : Prop := va_Zq C n d A U H ∧ vx_L C n d A U H
theorem vx_Zq.moved {C n d : String} {A : Nat → Prop} {u U : State} {H : Heap} (hvm : u.vm.Alike U.vm) (h : vx_Zq C n d A u H) : vx_Zq C n d A U H := ⟨va_Zq.moved hvm h.1, vx_L.moved hvm h.2⟩
theorem vx_Zq.kept {C n d : String} {A : Nat → Prop} {U : State} {H H1 : Heap} (h : vx_Zq C n d A U H) (hq : ∀ a : Nat, a < H.size → ¬ A a → H1[a]? = H[a]?) : vx_Zq C n d A U H1 := ⟨va_Zq.kept h.1 hq, vx_L.kept h.2 hq⟩
theorem vx_Zq.narrow {C n d : String} {A B : Nat → Prop} {U : State} {H : Heap} (h : vx_Zq C n d A U H) (hAB : ∀ q, B q → A q) : vx_Zq C n d B U H := ⟨va_Zq.narrow h.1 hAB, vx_L.narrow h.2 hAB⟩
theorem vx_Zqof {args : Array Value} {s : State} {C n d : String} {A : Nat → Prop} (hl : (Cond.laysStatic C n d).before args s = true) (hini : (Cond.initialized C).before args s = true) (h : (Cond.isRef (.static C n d)).before args s = true) (hA : ∀ a : Nat, a < s.heap.size → ¬ A a) : vx_Zq C n d A s s.heap := by
  refine ⟨va_Zqof hl hini h hA, ?_⟩
  obtain ⟨c, k, i, f, a, cell, h1, h2, h3, h4, h5, h6, h7, h8, h9⟩ := Cond.laysStatic_spec hl
  exact ⟨c, k, i, f, a, cell, h1, h2, h3, h4, h5, h6, h7, h8, h9, hA a (Array.getElem?_eq_some_iff.mp h5).1⟩
theorem vx_isRef {C n d : String} {v : Value} {A : Nat → Prop} {s : State} {args : Array Value} (h : va_Z C n d v A s s.heap) (hv : v.isRef = true) : (Cond.isRef (.static C n d)).before args s = true := by
  obtain ⟨cf, kf, fi, f, a, cell, h1, h2, h3, h4, h5, h6, h7, -⟩ := h
  have he : (Term.static C n d).eval args s none [] s = some v := by
    simp [Term.eval, State.fieldNamed?, h1, h2, h4, h5, h6, h7]
  simp only [Cond.before, Cond.holds, Cond.value, he]
  cases v <;> simp_all [Value.isRef]
theorem vx_isRefq {C n d : String} {A : Nat → Prop} {s : State} {args : Array Value} (h : va_Zq C n d A s s.heap) : (Cond.isRef (.static C n d)).before args s = true := by
  rcases h with h | ⟨t, h⟩
  · exact vx_isRef h rfl
  · exact vx_isRef h rfl
/-- the same frame, seen from here: as if the method were called anew in this heap -/
theorem vx_rebase {T : State} (X : Stand p l e R s m args below meth c T locs cells slots) {R' : Room} (hf : R'.frames ≤ R.frames) (hl : R'.locals ≤ R.locals) (hc : cells + R'.cells ≤ R.cells) (hs : slots + R'.slots ≤ R.slots) :
    Stand p l e R' ((T.setVm s.vm).setFrames (.invoking m args :: below)) m args below meth c T [] 0 0 := by
  have htop : (T.setVm s.vm).topJava?.isSome := X.here.top
  have hF : ((T.setVm s.vm).setFrames (.invoking m args :: below)).frames = .invoking m args :: below := State.frames_setFrames _ (State.cur_lt_of_top htop)
  obtain ⟨g₀, hg0⟩ := Option.isSome_iff_exists.mp htop
  obtain ⟨r, hr⟩ := State.topJava?_eq_some.mp hg0
  have hl9 : e.platform.stackLimits (T.setVm s.vm).me = e.platform.stackLimits s.me := X.limits
  have hb9 : (T.setVm s.vm).me.stackBytes = s.me.stackBytes := X.bytes
  refine ⟨X.admits, X.cas, X.clock, hF, ?_, X.hears, X.method, X.code, X.here, X.tail, X.warmed, ?_, ?_, ?_⟩
  · have h := X.room
    have hU : ((T.setVm s.vm).setFrames (.invoking m args :: below)).localsInUse = s.localsInUse := by
      rw [State.localsInUse_invoking hF (meth := meth) (c := c) X.method X.code, State.localsInUse_invoking X.frames X.method X.code]
    simp only [State.hasRoom, Bool.and_eq_true, decide_eq_true_eq] at h ⊢
    obtain ⟨⟨⟨⟨h1, h2, h3, h4, h5, h6⟩, h7⟩, h8⟩, h9⟩ := h
    rw [X.frames, List.length_cons] at h2 h3
    have q1 := X.heapSize
    have q2 := X.used
    simp only [hF, hU, List.length_cons, State.stackLimits_setFrames, State.stackBytes_setFrames, hl9, hb9]
    refine ⟨⟨⟨⟨by omega, by omega, by omega, by omega, by omega, h6⟩, ?_⟩, ?_⟩, X.book⟩
    · show T.heap.size + R'.cells ≤ e.platform.maxCells
      omega
    · show T.slotsUsed + R'.slots ≤ e.platform.maxSlots
      omega
  · rw [State.stackLimits_setFrames]; rfl
  · rw [State.stackBytes_setFrames]; rfl
  · refine ⟨?_, Nat.le_refl _, Nat.le_refl _, ?_, ?_, fun a c9 h9 => ⟨c9, h9, rfl, rfl, fun _ _ => rfl⟩⟩
    · obtain ⟨t, ht, -⟩ := State.frames_cons hr
      show T.setVm s.vm = { ((T.setVm s.vm).setFrames (.invoking m args :: below)).setFrames (T.setVm s.vm).frames with heap := T.heap, slotsUsed := T.slotsUsed }
      rw [State.setFrames_setFrames, State.setFrames_self ht]
      rfl
    · show T.slotsUsed = T.slotsUsed + ((T.heap.toList.drop T.heap.size).map (·.slots.size)).sum
      rw [List.drop_eq_nil_of_le (Nat.le_of_eq Array.length_toList)]
      rfl
    · show ((T.heap.toList.drop T.heap.size).map (·.slots.size)).sum ≤ 0
      rw [List.drop_eq_nil_of_le (Nat.le_of_eq Array.length_toList)]
      exact Nat.le_refl _
/-- 'throw new E()': new; dup; invokespecial; athrow -/
theorem vx_throw0 {cc : ByteArray} {pc : Nat} (hexec : p.tables.exec = Jvm.exec) (hb : c.code = cc) (hl : l.stackTraces = false) {own cls : String} {names : List String} {ik ic mc ms : Nat} {A : Nat → Prop}
    (hown : s.vm.findClass own = some m.cls) (hcls : Bundle.fit cls = true) (hnames : ∀ n ∈ names, Bundle.fit n = true)
    (hk : (Cond.classLink own ik cls).before args s = true) (hini : (Cond.initialized cls).before args s = true) (hat : ∀ w ∈ vx_at0 own ic cls names, w.before args s = true)
    (hgood : ∀ w ∈ Cond.classLink own ik cls :: Cond.initialized cls :: vx_at0 own ic cls names, vx_ot w = true)
    (hU : vx_Zq Bundle.tN "UNASSIGNED_STACK" Bundle.steD A s s.heap) (hN : vx_Zq Bundle.tN "SUPPRESSED_SENTINEL" Bundle.listD A s s.heap) (hS : va_S A s.heap H locs) (hsize : ls.size = c.maxLocals)
    (d0 : decode cc pc = .ok (.new ik, 3)) (d3 : decode cc (pc + 3) = .ok (.dup, 1)) (d4 : decode cc (pc + 4) = .ok (.invokespecial ic, 3)) (d7 : decode cc (pc + 7) = .ok (.athrow, 1))
    (hout : ∀ x ∈ c.exceptionTable.toList, covers x (pc + 7) = false)
    (hRframes : names.length + 3 < R.frames) (hRlocals : (rest.map fun v => v.category).sum + (13 * (names.length + 1) + 42) ≤ R.locals) (hRcells : cells + 1 ≤ R.cells) (hRslots : slots + 6 ≤ R.slots) (hlocks : meth.locks = false)
    (hx : ∀ t : State, s.vm.Alike t.vm → H.size ≤ t.heap.size → (∀ q : Nat, q < H.size → t.heap[q]? = H[q]?) → XC cls s t)
    (hf : ∀ z ∈ locs, free z.base) (hc : cells + 1 ≤ mc) (hs : slots + 6 ≤ ms) :
    W p l e R s m args below meth c H locs cells slots (vx_MQ below Qc XC args s mc ms free) (F0 m pc ls rest) := by
  intro T hT X
  have htr : e.platform.stackTraces = false := (show e.platform.stackTraces = l.stackTraces by rw [X.admits.platform]).trans hl
  have Y := vx_rebase X (R' := { frames := R.frames, locals := R.locals, cells := 1, slots := 6 }) (Nat.le_refl _) (Nat.le_refl _) hRcells hRslots
  obtain ⟨s', hA⟩ : ∃ z, z = (T.setVm s.vm).setFrames (.invoking m args :: below) := ⟨_, rfl⟩
  rw [← hA] at Y
  have hvm : s'.vm = s.vm := by rw [hA]; rfl
  have hhp : s'.heap = H := by rw [hA]; exact hT
  have hW0 : s.WarmedH s'.vm := by rw [hvm]; exact State.WarmedH.refl s
  have hat' : ∀ w ∈ vx_at0 own ic cls names, w.before args s' = true := fun w hw => vx_ot_at hW0 hvm.symm (hgood w (List.mem_cons_of_mem _ (List.mem_cons_of_mem _ hw))) (hat w hw)
  have hk' : (Cond.classLink own ik cls).before args s' = true := vx_ot_at hW0 hvm.symm (hgood _ List.mem_cons_self) hk
  have hini' : (Cond.initialized cls).before args s' = true := vx_ot_at hW0 hvm.symm (hgood _ (List.mem_cons_of_mem _ List.mem_cons_self)) hini
  have hU' : vx_Zq Bundle.tN "UNASSIGNED_STACK" Bundle.steD A s' s'.heap := by rw [hhp]; exact vx_Zq.moved hW0.alike (hU.kept hS.2.1)
  have hN' : vx_Zq Bundle.tN "SUPPRESSED_SENTINEL" Bundle.listD A s' s'.heap := by rw [hhp]; exact vx_Zq.moved hW0.alike (hN.kept hS.2.1)
  have h : ∀ w ∈ Bundle.ownAtoms0 own ic cls names, w.before args s' = true := vx_own hat' (vx_isRefq hU'.1) (vx_isRefq hN'.1) hU'.2.word hN'.2.word
  have hown' : s'.vm.findClass own = some m.cls := by rw [hvm]; exact hown
  have hins : (Cond.instantiable cls 6).before args s' = true := h _ (by simp [Bundle.ownAtoms0])
  obtain ⟨vm₁, cX, kX, hfX, hkX, -, -, X₁, st1⟩ := Y.newCold hexec (own := own) (C := cls) (index := ik) (n := 6) hown' hk' hins hini'
    (g := F0 m pc ls rest) rfl (by rw [hb]; exact d0) (Nat.le_refl _) (Nat.le_refl _)
  generalize hT1 : (T.setVm vm₁).pushCell { cls := cX, slots := kX.instanceTypes.map defaultValue, vm := .none } = T1 at X₁ st1
  have hcat : (Value.ref T.heap.size).category = 1 := rfl
  have hcellA : T1.heap[T.heap.size]? = some (freshCell cX kX) := by rw [← hT1]; exact State.heap_pushCell_size _ _
  have d3' : decode c.code (pc + 3) = .ok (.dup, 1) := by rw [hb]; exact d3
  obtain ⟨U, hsteps, hrun, hend, hW, hsame, ce, hce, hO⟩ := X₁.ctorThrow0 hexec htr (own := own) (cls := cls) (names := names) (ic := ic) hown' hcls hnames h (fun x hx => nomatch hx) hfX hkX hcellA (by rw [hhp, hT]; exact Nat.le_refl _)
    (g := { method := m, pc := pc + 4, locals := ls, stack := .ref T.heap.size :: .ref T.heap.size :: rest, locked := none }) rfl hsize rfl rfl (rest := rest) rfl
    (by rw [hb]; exact d4) (by rw [hb]; exact d7) hout hRframes (by simp only [List.map_cons, List.sum_cons, hcat]; omega) hlocks
  obtain ⟨f1, f2⟩ := vx_frame hsame
  rw [hhp] at f1 f2
  have hWs : s.WarmedH U.vm := State.WarmedH.trans hW0 hW
  have hcl : s.vm.findClass cls = some ce.cls := by
    have h9 := hO.cls
    rw [hvm] at h9
    exact h9
  have hall : s.sameButNew ({ U with vm := s.vm } : State) locs mc ms := by
    subst hA
    obtain ⟨e1, e2⟩ := hsame
    rw [State.setFrames_setFrames] at e1
    have h2 : (T.setVm s.vm).sameButNew ({ U with vm := s.vm } : State) [] (0 + 1) (0 + 6) := ⟨e1, e2⟩
    have h3 := X.same.trans h2
    rw [List.append_nil] at h3
    exact h3.mono hc hs
  refine ⟨U, ?_, .threw T.heap.size, hrun, hend, Or.inr ⟨T.heap.size, rfl, cls, ce, locs, hx U hWs.alike f1 (fun q hq => f2 q hq (fun z hz => nomatch hz)), hce, hO.vm, hcl, hWs, hall, hf⟩⟩
  refine st1 _ ?_
  show Steps p.tables e below (T1.setTop { method := m, pc := pc + 3, locals := ls, stack := .ref T.heap.size :: rest, locked := none }) _
  jvm_step X₁.here [X₁.here.top, hexec, d3', Value.category]
  exact hsteps
/-- 'throw new E("text")': new; dup; ldc; invokespecial; athrow -/
theorem vx_throwS {cc : ByteArray} {pc : Nat} (hexec : p.tables.exec = Jvm.exec) (hb : c.code = cc) (hl : l.stackTraces = false) {own cls text : String} {names : List String} {ik is ic mc ms sa : Nat} {A : Nat → Prop}
    (hown : s.vm.findClass own = some m.cls) (hcls : Bundle.fit cls = true) (hnames : ∀ n ∈ names, Bundle.fit n = true)
    (hk : (Cond.classLink own ik cls).before args s = true) (hini : (Cond.initialized cls).before args s = true) (hstr : vk_R own is text sa s) (hat : ∀ w ∈ vx_atS own ic cls names, w.before args s = true)
    (hgood : ∀ w ∈ Cond.classLink own ik cls :: Cond.initialized cls :: vx_atS own ic cls names, vx_ot w = true)
    (hU : vx_Zq Bundle.tN "UNASSIGNED_STACK" Bundle.steD A s s.heap) (hN : vx_Zq Bundle.tN "SUPPRESSED_SENTINEL" Bundle.listD A s s.heap) (hS : va_S A s.heap H locs) (hsize : ls.size = c.maxLocals)
    (d0 : decode cc pc = .ok (.new ik, 3)) (d3 : decode cc (pc + 3) = .ok (.dup, 1)) (d4 : decode cc (pc + 4) = .ok (.ldc is, 2)) (d6 : decode cc (pc + 6) = .ok (.invokespecial ic, 3)) (d9 : decode cc (pc + 9) = .ok (.athrow, 1))
    (hout : ∀ x ∈ c.exceptionTable.toList, covers x (pc + 9) = false)
    (hRframes : names.length + 3 < R.frames) (hRlocals : (rest.map fun v => v.category).sum + (13 * (names.length + 1) + 43) ≤ R.locals) (hRcells : cells + 1 ≤ R.cells) (hRslots : slots + 6 ≤ R.slots) (hlocks : meth.locks = false)
    (hx : ∀ t : State, s.vm.Alike t.vm → H.size ≤ t.heap.size → (∀ q : Nat, q < H.size → t.heap[q]? = H[q]?) → XC cls s t)
    (hf : ∀ z ∈ locs, free z.base) (hc : cells + 1 ≤ mc) (hs : slots + 6 ≤ ms) :
    W p l e R s m args below meth c H locs cells slots (vx_MQ below Qc XC args s mc ms free) (F0 m pc ls rest) := by
  intro T hT X
  have htr : e.platform.stackTraces = false := (show e.platform.stackTraces = l.stackTraces by rw [X.admits.platform]).trans hl
  have Y := vx_rebase X (R' := { frames := R.frames, locals := R.locals, cells := 1, slots := 6 }) (Nat.le_refl _) (Nat.le_refl _) hRcells hRslots
  obtain ⟨s', hA⟩ : ∃ z, z = (T.setVm s.vm).setFrames (.invoking m args :: below) := ⟨_, rfl⟩
  rw [← hA] at Y
  have hvm : s'.vm = s.vm := by rw [hA]; rfl
  have hhp : s'.heap = H := by rw [hA]; exact hT
  have hW0 : s.WarmedH s'.vm := by rw [hvm]; exact State.WarmedH.refl s
  have hat' : ∀ w ∈ vx_atS own ic cls names, w.before args s' = true := fun w hw => vx_ot_at hW0 hvm.symm (hgood w (List.mem_cons_of_mem _ (List.mem_cons_of_mem _ hw))) (hat w hw)
  have hk' : (Cond.classLink own ik cls).before args s' = true := vx_ot_at hW0 hvm.symm (hgood _ List.mem_cons_self) hk
  have hini' : (Cond.initialized cls).before args s' = true := vx_ot_at hW0 hvm.symm (hgood _ (List.mem_cons_of_mem _ List.mem_cons_self)) hini
  have hU' : vx_Zq Bundle.tN "UNASSIGNED_STACK" Bundle.steD A s' s'.heap := by rw [hhp]; exact vx_Zq.moved hW0.alike (hU.kept hS.2.1)
  have hN' : vx_Zq Bundle.tN "SUPPRESSED_SENTINEL" Bundle.listD A s' s'.heap := by rw [hhp]; exact vx_Zq.moved hW0.alike (hN.kept hS.2.1)
  have h : ∀ w ∈ Bundle.ownAtoms own ic cls names, w.before args s' = true := vx_own hat' (vx_isRefq hU'.1) (vx_isRefq hN'.1) hU'.2.word hN'.2.word
  have hown' : s'.vm.findClass own = some m.cls := by rw [hvm]; exact hown
  have hins : (Cond.instantiable cls 6).before args s' = true := h _ (by simp [Bundle.ownAtoms])
  obtain ⟨vm₁, cX, kX, hfX, hkX, -, -, X₁, st1⟩ := Y.newCold hexec (own := own) (C := cls) (index := ik) (n := 6) hown' hk' hins hini'
    (g := F0 m pc ls rest) rfl (by rw [hb]; exact d0) (Nat.le_refl _) (Nat.le_refl _)
  generalize hT1 : (T.setVm vm₁).pushCell { cls := cX, slots := kX.instanceTypes.map defaultValue, vm := .none } = T1 at X₁ st1
  have hcat : (Value.ref T.heap.size).category = 1 := rfl
  have hcellA : T1.heap[T.heap.size]? = some (freshCell cX kX) := by rw [← hT1]; exact State.heap_pushCell_size _ _
  have d3' : decode c.code (pc + 3) = .ok (.dup, 1) := by rw [hb]; exact d3
  have d4' : decode c.code (pc + 4) = .ok (.ldc is, 2) := by rw [hb]; exact d4
  have hstr' : vk_R own is text sa s' := vk_R.warm hW0 hstr
  obtain ⟨U, hsteps, hrun, hend, hW, hsame, ce, hce, hO⟩ := X₁.ctorThrowS hexec htr (own := own) (cls := cls) (names := names) (ic := ic) hown' hcls hnames h (fun x hx => nomatch hx) hfX hkX hcellA (by rw [hhp, hT]; exact Nat.le_refl _) (msg := .ref sa) rfl
    (g := { method := m, pc := pc + 6, locals := ls, stack := .ref sa :: .ref T.heap.size :: .ref T.heap.size :: rest, locked := none }) rfl hsize rfl rfl (rest := rest) rfl
    (by rw [hb]; exact d6) (by rw [hb]; exact d9) hout hRframes (by simp only [List.map_cons, List.sum_cons, hcat]; omega) hlocks
  obtain ⟨f1, f2⟩ := vx_frame hsame
  rw [hhp] at f1 f2
  have hWs : s.WarmedH U.vm := State.WarmedH.trans hW0 hW
  have hcl : s.vm.findClass cls = some ce.cls := by
    have h9 := hO.cls
    rw [hvm] at h9
    exact h9
  have hall : s.sameButNew ({ U with vm := s.vm } : State) locs mc ms := by
    subst hA
    obtain ⟨e1, e2⟩ := hsame
    rw [State.setFrames_setFrames] at e1
    have h2 : (T.setVm s.vm).sameButNew ({ U with vm := s.vm } : State) [] (0 + 1) (0 + 6) := ⟨e1, e2⟩
    have h3 := X.same.trans h2
    rw [List.append_nil] at h3
    exact h3.mono hc hs
  refine ⟨U, ?_, .threw T.heap.size, hrun, hend, Or.inr ⟨T.heap.size, rfl, cls, ce, locs, hx U hWs.alike f1 (fun q hq => f2 q hq (fun z hz => nomatch hz)), hce, hO.vm, hcl, hWs, hall, hf⟩⟩
  refine st1 _ ?_
  show Steps p.tables e below (T1.setTop { method := m, pc := pc + 3, locals := ls, stack := .ref T.heap.size :: rest, locked := none }) _
  jvm_step X₁.here [X₁.here.top, hexec, d3', Value.category]
  exact X₁.ldcString hexec (own := own) (text := text) (index := is) (a := sa) hown' hstr'.1 hstr'.2
    (g := { method := m, pc := pc + 4, locals := ls, stack := .ref T.heap.size :: .ref T.heap.size :: rest, locked := none }) rfl d4' _ hsteps
/-- 'throw new E("text")', the text by a wide index -/
theorem vx_throwSW {cc : ByteArray} {pc : Nat} (hexec : p.tables.exec = Jvm.exec) (hb : c.code = cc) (hl : l.stackTraces = false) {own cls text : String} {names : List String} {ik is ic mc ms sa : Nat} {A : Nat → Prop}
    (hown : s.vm.findClass own = some m.cls) (hcls : Bundle.fit cls = true) (hnames : ∀ n ∈ names, Bundle.fit n = true)
    (hk : (Cond.classLink own ik cls).before args s = true) (hini : (Cond.initialized cls).before args s = true) (hstr : vk_R own is text sa s) (hat : ∀ w ∈ vx_atS own ic cls names, w.before args s = true)
    (hgood : ∀ w ∈ Cond.classLink own ik cls :: Cond.initialized cls :: vx_atS own ic cls names, vx_ot w = true)
    (hU : vx_Zq Bundle.tN "UNASSIGNED_STACK" Bundle.steD A s s.heap) (hN : vx_Zq Bundle.tN "SUPPRESSED_SENTINEL" Bundle.listD A s s.heap) (hS : va_S A s.heap H locs) (hsize : ls.size = c.maxLocals)
    (d0 : decode cc pc = .ok (.new ik, 3)) (d3 : decode cc (pc + 3) = .ok (.dup, 1)) (d4 : decode cc (pc + 4) = .ok (.ldc_w is, 3)) (d7 : decode cc (pc + 7) = .ok (.invokespecial ic, 3)) (d10 : decode cc (pc + 10) = .ok (.athrow, 1))
    (hout : ∀ x ∈ c.exceptionTable.toList, covers x (pc + 10) = false)
    (hRframes : names.length + 3 < R.frames) (hRlocals : (rest.map fun v => v.category).sum + (13 * (names.length + 1) + 43) ≤ R.locals) (hRcells : cells + 1 ≤ R.cells) (hRslots : slots + 6 ≤ R.slots) (hlocks : meth.locks = false)
    (hx : ∀ t : State, s.vm.Alike t.vm → H.size ≤ t.heap.size → (∀ q : Nat, q < H.size → t.heap[q]? = H[q]?) → XC cls s t)
    (hf : ∀ z ∈ locs, free z.base) (hc : cells + 1 ≤ mc) (hs : slots + 6 ≤ ms) :
    W p l e R s m args below meth c H locs cells slots (vx_MQ below Qc XC args s mc ms free) (F0 m pc ls rest) := by
  intro T hT X
  have htr : e.platform.stackTraces = false := (show e.platform.stackTraces = l.stackTraces by rw [X.admits.platform]).trans hl
  have Y := vx_rebase X (R' := { frames := R.frames, locals := R.locals, cells := 1, slots := 6 }) (Nat.le_refl _) (Nat.le_refl _) hRcells hRslots
  obtain ⟨s', hA⟩ : ∃ z, z = (T.setVm s.vm).setFrames (.invoking m args :: below) := ⟨_, rfl⟩
  rw [← hA] at Y
  have hvm : s'.vm = s.vm := by rw [hA]; rfl
  have hhp : s'.heap = H := by rw [hA]; exact hT
  have hW0 : s.WarmedH s'.vm := by rw [hvm]; exact State.WarmedH.refl s
  have hat' : ∀ w ∈ vx_atS own ic cls names, w.before args s' = true := fun w hw => vx_ot_at hW0 hvm.symm (hgood w (List.mem_cons_of_mem _ (List.mem_cons_of_mem _ hw))) (hat w hw)
  have hk' : (Cond.classLink own ik cls).before args s' = true := vx_ot_at hW0 hvm.symm (hgood _ List.mem_cons_self) hk
  have hini' : (Cond.initialized cls).before args s' = true := vx_ot_at hW0 hvm.symm (hgood _ (List.mem_cons_of_mem _ List.mem_cons_self)) hini
  have hU' : vx_Zq Bundle.tN "UNASSIGNED_STACK" Bundle.steD A s' s'.heap := by rw [hhp]; exact vx_Zq.moved hW0.alike (hU.kept hS.2.1)
  have hN' : vx_Zq Bundle.tN "SUPPRESSED_SENTINEL" Bundle.listD A s' s'.heap := by rw [hhp]; exact vx_Zq.moved hW0.alike (hN.kept hS.2.1)
  have h : ∀ w ∈ Bundle.ownAtoms own ic cls names, w.before args s' = true := vx_own hat' (vx_isRefq hU'.1) (vx_isRefq hN'.1) hU'.2.word hN'.2.word
  have hown' : s'.vm.findClass own = some m.cls := by rw [hvm]; exact hown
  have hins : (Cond.instantiable cls 6).before args s' = true := h _ (by simp [Bundle.ownAtoms])
  obtain ⟨vm₁, cX, kX, hfX, hkX, -, -, X₁, st1⟩ := Y.newCold hexec (own := own) (C := cls) (index := ik) (n := 6) hown' hk' hins hini'
    (g := F0 m pc ls rest) rfl (by rw [hb]; exact d0) (Nat.le_refl _) (Nat.le_refl _)
  generalize hT1 : (T.setVm vm₁).pushCell { cls := cX, slots := kX.instanceTypes.map defaultValue, vm := .none } = T1 at X₁ st1
  have hcat : (Value.ref T.heap.size).category = 1 := rfl
  have hcellA : T1.heap[T.heap.size]? = some (freshCell cX kX) := by rw [← hT1]; exact State.heap_pushCell_size _ _
  have d3' : decode c.code (pc + 3) = .ok (.dup, 1) := by rw [hb]; exact d3
  have d4' : decode c.code (pc + 4) = .ok (.ldc_w is, 3) := by rw [hb]; exact d4
  have hstr' : vk_R own is text sa s' := vk_R.warm hW0 hstr
  obtain ⟨U, hsteps, hrun, hend, hW, hsame, ce, hce, hO⟩ := X₁.ctorThrowS hexec htr (own := own) (cls := cls) (names := names) (ic := ic) hown' hcls hnames h (fun x hx => nomatch hx) hfX hkX hcellA (by rw [hhp, hT]; exact Nat.le_refl _) (msg := .ref sa) rfl
    (g := { method := m, pc := pc + 7, locals := ls, stack := .ref sa :: .ref T.heap.size :: .ref T.heap.size :: rest, locked := none }) rfl hsize rfl rfl (rest := rest) rfl
    (by rw [hb]; exact d7) (by rw [hb]; exact d10) hout hRframes (by simp only [List.map_cons, List.sum_cons, hcat]; omega) hlocks
  obtain ⟨f1, f2⟩ := vx_frame hsame
  rw [hhp] at f1 f2
  have hWs : s.WarmedH U.vm := State.WarmedH.trans hW0 hW
  have hcl : s.vm.findClass cls = some ce.cls := by
    have h9 := hO.cls
    rw [hvm] at h9
    exact h9
  have hall : s.sameButNew ({ U with vm := s.vm } : State) locs mc ms := by
    subst hA
    obtain ⟨e1, e2⟩ := hsame
    rw [State.setFrames_setFrames] at e1
    have h2 : (T.setVm s.vm).sameButNew ({ U with vm := s.vm } : State) [] (0 + 1) (0 + 6) := ⟨e1, e2⟩
    have h3 := X.same.trans h2
    rw [List.append_nil] at h3
    exact h3.mono hc hs
  refine ⟨U, ?_, .threw T.heap.size, hrun, hend, Or.inr ⟨T.heap.size, rfl, cls, ce, locs, hx U hWs.alike f1 (fun q hq => f2 q hq (fun z hz => nomatch hz)), hce, hO.vm, hcl, hWs, hall, hf⟩⟩
  refine st1 _ ?_
  show Steps p.tables e below (T1.setTop { method := m, pc := pc + 3, locals := ls, stack := .ref T.heap.size :: rest, locked := none }) _
  jvm_step X₁.here [X₁.here.top, hexec, d3', Value.category]
  exact X₁.ldcStringW hexec (own := own) (text := text) (index := is) (a := sa) hown' hstr'.1 hstr'.2
    (g := { method := m, pc := pc + 4, locals := ls, stack := .ref T.heap.size :: .ref T.heap.size :: rest, locked := none }) rfl d4' _ hsteps
end Ends
section Bodies
variable {l : Launch}
theorem vx_ofW {y : MethodName} {ws ws' : List Cond} {rm : Room} {Pc : Array Value → State → Prop} {Qc : Array Value → State → Outcome → State → Prop} {XC : String → State → State → Prop} {mc ms : Nat} {free : Addr → Prop} {cc : ByteArray} {maxL : Nat} {ret : Option FieldType}
    (hy : plainName y.cls = true) (hw : ws = Cond.code y cc maxL ret :: ws')
    (body : ∀ p e s m args below meth c s₁, BodyLoose p l y (headSpec ws rm) cc maxL ret e s m args below meth c s₁ → c.maxLocals = maxL → (∀ x ∈ c.exceptionTable.toList, False) → Pc args s →
      W p l e (headSpec ws rm).room s m args below meth c s.heap [] 0 0 (vx_MQ below Qc XC args s mc ms free) (entryFrame m args maxL)) : vx_Met l y ws rm Pc Qc XC mc ms free := by
  refine MetFree.of_bodyS (code := cc) (maxLocals := maxL) (ret := ret) hy ?_ ?_
  · intro args s m h hn
    obtain ⟨meth, c, h1, h2, h3, h4, h5, h6, -, -⟩ := Cond.code_spec hn (atoms_spec (ws := ws) h _ (by rw [hw]; exact List.mem_cons_self))
    exact ⟨meth, c, h1, h2, h3, h4, h5, h6⟩
  · intro p e s m args below meth c s₁ B hml hP _
    have hh0 : s₁.heap = s.heap := by rw [B.state]; rfl
    have ht : ∀ x ∈ c.exceptionTable.toList, False := by
      obtain ⟨meth9, c9, h1, h2, -, -, -, -, h7, -⟩ := Cond.code_spec B.named (atoms_spec (ws := ws) B.pre _ (by rw [hw]; exact List.mem_cons_self))
      cases Option.some.inj (h1.symm.trans B.method)
      cases Option.some.inj (h2.symm.trans (Stand.of_body B).code)
      intro x hx
      rw [Array.isEmpty_iff.mp h7] at hx
      cases hx
    obtain ⟨t, a1, o, b1, b2, b3⟩ := body p e s m args below meth c s₁ B hml ht hP s₁ hh0 (Stand.of_body B)
    exact ⟨t, o, a1, b1, b2, b3⟩
/-- the table of a body with handlers -/
theorem vx_table {p : Program} {x y : MethodName} {S : Spec} {cc bytes : ByteArray} {maxL maxL' : Nat} {ret ret' : Option FieldType} {e : Env} {s s₁ : State} {m : MethodId} {args : Array Value} {below : List Frame} {meth : Method} {c : Code} {hh : List (Nat × Nat × Nat × Nat)}
    (B : BodyLoose p l y S cc maxL ret e s m args below meth c s₁) (h : (Cond.codeWith y bytes maxL' ret' hh).before args s = true) : c.exceptionTable.toList = tableOf hh := by
  obtain ⟨m9, meth9, c9, hn9, h1, h2, -, -, h6, -⟩ := Cond.codeWith_spec h
  cases Option.some.inj (hn9.symm.trans B.named)
  cases Option.some.inj (h1.symm.trans B.method)
  cases Option.some.inj (h2.symm.trans (Stand.of_body B).code)
  rw [← h6, table_eq]
end Bodies
end VXA
/-! ===== END ===== -/
/-! ===== BEGIN a static call of a method with an exception table ===== -/
section VXS
variable {p : Program} {l : Launch} {e : Env} {R : Room} {s : State} {m : MethodId} {args : Array Value} {below : List Frame} {meth : Method} {c : Code} {T : State} {H : Heap} {locs : List Loc} {cells slots : Nat}
abbrev vx_CSW (R : Room) (s : State) (args : Array Value) (own : String) (index : Nat) (y : MethodName) (bytes : ByteArray) (maxL : Nat) (ret : Option FieldType) (hh : List (Nat × Nat × Nat × Nat)) (ws : List Cond) (rm : Room) (mc ms n : Nat) : Prop :=
  (rm.cells = mc ∧ rm.slots = ms ∧ rm.frames + 1 ≤ R.frames ∧ 8 + (maxL + 11) + rm.locals ≤ R.locals ∧ (∀ w ∈ ws, ∀ (a' : Array Value) (U : State), s.WarmedH U.vm → w.before a' U = true) ∧ Cond.codeWith y bytes maxL ret hh ∈ ws) ∧
  (Cond.codeWith y bytes maxL ret hh).before args s = true ∧ (Cond.initialized y.cls).before args s = true ∧ (y.cls ≠ "java/lang/invoke/MethodHandle" ∧ y.cls ≠ "java/lang/invoke/VarHandle") ∧
  (∀ sig, parseMethodDescriptor y.desc = some sig → n = sig.parameters.length) ∧ (Cond.methodLink own index y).before args s = true ∧ (Cond.static y).before args s = true
theorem vx_cwSW {own : String} {index maxL mc ms : Nat} {y : MethodName} {bytes : ByteArray} {ret : Option FieldType} {hh : List (Nat × Nat × Nat × Nat)} {Ts ws ws' : List Cond} {rm : Room} (n : Nat) (ht : ∀ w ∈ Ts, w.before args s = true) (hT : GoodIn Ts (va_wsS own index y ws)) (hw : ws = Cond.codeWith y bytes maxL ret hh :: ws') (hrc : rm.cells = mc) (hrs : rm.slots = ms)
    (hd : y.cls ≠ "java/lang/invoke/MethodHandle" ∧ y.cls ≠ "java/lang/invoke/VarHandle" ∧ (parseMethodDescriptor y.desc).map (fun d => d.parameters.length) = some n) (hR : rm.frames + 1 ≤ R.frames ∧ 8 + (maxL + 11) + rm.locals ≤ R.locals) :
    vx_CSW R s args own index y bytes maxL ret hh ws rm mc ms n := by
  have ok : ∀ w ∈ va_wsS own index y ws, w.before args s = true := fun w h => ht w (hT w h).1
  have hG : GoodIn Ts ws := fun w h => hT w (by unfold va_wsS; exact List.mem_append_right _ h)
  have hc : Cond.codeWith y bytes maxL ret hh ∈ ws := by rw [hw]; exact List.mem_cons_self
  refine ⟨⟨hrc, hrs, hR.1, hR.2, pay_in ht hG, hc⟩, ht _ (hG _ hc).1, ok _ (by simp [va_wsS]), ⟨hd.1, hd.2.1⟩, fun sig h => ?_, ok _ (by simp [va_wsS]), ok _ (by simp [va_wsS])⟩
  have h2 := hd.2.2
  rw [h] at h2
  exact (Option.some.inj h2).symm
theorem vx_callSW (X : Stand p l e R s m args below meth c T locs cells slots) (hexec : p.tables.exec = Jvm.exec) {own : String} {index : Nat} {y : MethodName} {bytes : ByteArray} {maxL : Nat} {ret : Option FieldType} {hh : List (Nat × Nat × Nat × Nat)}
    (hown : s.vm.findClass own = some m.cls) (hlink : (Cond.methodLink own index y).before args s = true) (hstat : (Cond.static y).before args s = true) (hinit : (Cond.initialized y.cls).before args s = true)
    (hcode : (Cond.codeWith y bytes maxL ret hh).before args s = true) (hy : y.cls ≠ "java/lang/invoke/MethodHandle" ∧ y.cls ≠ "java/lang/invoke/VarHandle")
    {W9 : Nat} {Pre : Pt → Array Value → Prop} {Post : Pt → Array Value → Option Value → Pt → Prop} (hK : Back l R p e below s args y 3 W9 Pre Post)
    {g : JFrame} (hg : g.method = m) (hsize : g.locals.size = c.maxLocals) {argsL rest : List Value} (hlen : ∀ sig, parseMethodDescriptor y.desc = some sig → argsL.length = sig.parameters.length)
    (hstack : g.stack = argsL.reverse ++ rest) (hW : 2 * g.monitorRoom + (rest.map fun v => v.category).sum ≤ W9) (hdg : decode c.code g.pc = .ok (.invokestatic index, 3))
    (hpre : ∀ vm₁, s.WarmedH vm₁ → Pre ⟨T.setVm vm₁, locs, cells, slots⟩ argsL.toArray) :
    ∃ (v : Option Value) (vm₁ : Vm) (B : Pt), s.WarmedH vm₁ ∧ Stand p l e R s m args below meth c B.U B.locs B.cells B.slots ∧ Post ⟨T.setVm vm₁, locs, cells, slots⟩ argsL.toArray v B ∧
      ∀ target, Steps p.tables e below (B.U.setTop { g with pc := g.pc + 3, stack := v.toList ++ rest }) target → Steps p.tables e below (T.setTop g) target := by
  obtain ⟨mk, methM, cM, hnamed, hmethM, -, -, -, -, -, -, hsigM⟩ := Cond.codeWith_spec hcode
  have hstatic : methM.isStatic = true := Cond.static_spec hnamed hmethM hstat
  obtain ⟨kP, hkP, -⟩ := className_of_methodNamed hnamed
  have hinitP : kP.init = .initialized := Cond.initialized_spec (findClass_of_methodNamed hnamed) hkP hinit
  obtain ⟨vm₁, X₁, hstep₁⟩ := X.invokestatic hexec hown hlink hnamed hmethM hstatic hkP hinitP hy (g := g) hg (argsL := argsL) (rest := rest) (hlen _ hsigM) hstack hdg
  obtain ⟨v, B, X', hpost, hsteps⟩ := hK m meth c ⟨T.setVm vm₁, locs, cells, slots⟩ { g with stack := rest } (.invokestatic index) mk argsL.toArray X₁ hg hsize hdg hW (X₁.named hnamed) (hpre vm₁ X₁.warmed)
  exact ⟨v, vm₁, B, X₁.warmed, X', hpost, fun target h => hstep₁ _ fun acts => by rw [doInvoke_state]; exact hsteps.trans h⟩
theorem vx_runSW {y : MethodName} {bytes cc : ByteArray} {maxL nL mc ms n index : Nat} {ret : Option FieldType} {hh : List (Nat × Nat × Nat × Nat)} {ws : List Cond} {rm : Room} {Pc : Array Value → State → Prop} {Qc : Array Value → State → Outcome → State → Prop} {free : Addr → Prop} {Ts : List Cond} {own : String} {As rest : List Value} {g : JFrame}
    (S : CallFix p m c cc nL s args Ts own) (hM : Met l y ws rm Pc Qc mc ms free) (cw : vx_CSW R s args own index y bytes maxL ret hh ws rm mc ms n) (hp : PreS s H Pc As)
    (hg : g.method = m) (hn : As.length = n) (hsize : g.locals.size = nL) (hstack : g.stack = As.reverse ++ rest) (hW : 2 * g.monitorRoom + (rest.map fun v => v.category).sum ≤ 8) (hdg : decode cc g.pc = .ok (.invokestatic index, 3)) (hf : cells + mc ≤ R.cells ∧ slots + ms ≤ R.slots) :
    va_Run p l e R s m args below meth c H locs cells slots mc ms g rest (Qc As.toArray) (free) := by
  obtain ⟨⟨hrc, hrs, hfr, hlo, hws, hcw⟩, hcode, hini, hy, hlen, hl, hstt⟩ := cw
  have hK : Back l R p e below s args y 3 8 (PreOf R mc ms Pc) (PostOf Qc mc ms free) := va_backW (hh := hh) (bytes := bytes) (maxL := maxL) (ret := ret) hM hp.1 hrc hrs hfr hlo hws hcw (fun a' U hW => word_at hW (Or.inl (by first | rfl | simp [Cond.onTables, Cond.keeps, Cond.steady])) hini)
  obtain ⟨hx, hb, hml, ho, -⟩ := S
  intro T hT X
  obtain ⟨v, vm₁, ⟨U', l2, c2, s2⟩, hW₁, X', ⟨g', mk, t, L, e1, e2, hq, h1, hL, h2, h3⟩, st⟩ := vx_callSW X hx (hh := hh) (bytes := bytes) (maxL := maxL) (ret := ret) ho hl hstt hini hcode hy hK hg (hsize.trans hml.symm) (argsL := As) (rest := rest) (fun sig h => hn.trans (hlen sig h)) hstack hW (by rw [hb]; exact hdg)
    (fun vm₁ hW₁ => ⟨hf.1, hf.2, hp.2 (T.setVm vm₁) hT hW₁⟩)
  dsimp only [Pt.U, Pt.locs, Pt.cells, Pt.slots] at X' e1 e2 h1 h2 h3 st
  subst h1; subst h2; subst h3
  exact ⟨v, (T.setVm vm₁).calling g' mk As.toArray, t, U', L, hT, X', hL, e1, e2, hq, st⟩
/-- not caught here, past rows that name other classes: it goes on to the caller -/
theorem vx_outP {p : Program} {l : Launch} {e : Env} {R : Room} {s : State} {m : MethodId} {args : Array Value} {below : List Frame} {meth : Method} {c : Code} {H : Heap} {locs : List Loc} {cells slots : Nat} {free : Addr → Prop} {ls : Array Slot} {rest : List Value} {Qc : Array Value → State → Outcome → State → Prop} {XC : String → State → State → Prop}
    {pc : Nat} {own E : String} {ce : Cell} {q : Addr} {mc ms : Nat} (hown : s.vm.findClass own = some m.cls) (hlocks : meth.locks = false)
    (hpass : ∀ z ∈ c.exceptionTable.toList, covers z pc = false ∨ (z.catchType ≠ 0 ∧ ∃ nm : String, (Cond.classLink own z.catchType nm).before args s = true ∧ va_Nc E nm s)) (hcell : H[q]? = some ce) (hv : ce.vm = .none) (hcl : s.vm.findClass E = some ce.cls)
    (hx : ∀ t : State, t.heap = H → s.vm.Alike t.vm → XC E s t) (hf : ∀ z ∈ locs, free z.base) (hc : cells ≤ mc) (hs : slots ≤ ms) :
    vx_W p l e R s m args below meth c H locs cells slots (vx_MQ below Qc XC args s mc ms free) (F0 m pc ls rest) q := by
  intro T hT X
  have hpl : e.platform.magicAccessors = ({} : Platform).magicAccessors := by rw [X.admits.platform]
  obtain ⟨vm', hW', X', st⟩ := X.outThrough hlocks q (g := F0 m pc ls rest) rfl rfl rfl (cell := ce) (by rw [hT]; exact hcell) (by rw [hv]; rfl)
    (by obtain ⟨k9, h9, -⟩ := Vm.findClass_spec hcl; exact ⟨k9, h9⟩) (fun z hz => by
      rcases hpass z hz with h | ⟨hz0, nm, hl1, hn1⟩
      · exact Or.inl h
      · obtain ⟨c6, hc6, hcl6⟩ := Cond.classLink_spec hown hl1 e.platform hpl
        obtain ⟨a8, b8, h1, h2, h3⟩ := hn1
        cases Option.some.inj (h1.symm.trans hcl)
        cases Option.some.inj (h2.symm.trans hc6)
        exact Or.inr ⟨hz0, _, hcl6, h3⟩)
  obtain ⟨g₀, hfr⟩ := X'.frames_eq
  have hcell9 : ((T.setVm vm').setFrames (.throwing q :: below)).heap[q]? = some ce := by
    show T.heap[q]? = some ce
    rw [hT]; exact hcell
  have hend : Ended ((T.setVm vm').setFrames (.throwing q :: below)) below (.threw q) := State.frames_setFrames _ (State.cur_lt_of_frames hfr)
  refine ⟨(T.setVm vm').setFrames (.throwing q :: below), ?_, .threw q, X'.here.running, hend, Or.inr ⟨q, rfl, E, ce, locs, hx _ hT (X'.ends _).1.alike, hcell9, hv, hcl, (X'.ends _).1, (X'.ends _).2.mono hc hs, hf⟩⟩
  rw [X.pushThrowing_eq]
  exact st
/-- a thing of a world lies in the heap -/
theorem vx_lt {D : va_G} {cl : List vw_C} {ws : va_W} {H1 : Heap} (h : va_P D cl ws H1) {k : Nat} {q : Nat × va_E} (hk : ws[k]? = some q) : q.1 < H1.size := (h k q hk).lt
end VXS
/-! ===== END ===== -/
/-! ===== BEGIN methods with a table of their own: called by a name, returning or throwing ===== -/
section VXH
/-! vx_backW, vx_callVX, vx_callSX, vx_callVW, vx_runVW, vx_runVX, vx_runSX, vx_ofWH follow the same proofs as their sisters above (Free/Laws.lean, Shelf42/LK1.lean); vx_outP calls Shelf42/NT130.lean (outThrough). -/
section
variable {l : Launch} {R : Room} {p : Program} {e : Env} {below : List Frame} {s : State} {sargs : Array Value} {y : MethodName} {len W9 : Nat}
theorem vx_backW {ws : List Cond} {rm : Room} {Pc : Array Value → State → Prop} {Qc : Array Value → State → Outcome → State → Prop} {XC : String → State → State → Prop} {mc ms : Nat} {free : Addr → Prop} {bytes : ByteArray} {maxL : Nat} {ret : Option FieldType} {hh : List (Nat × Nat × Nat × Nat)}
    (hM : vx_Met l y ws rm Pc Qc XC mc ms free) (hblind : FrameBlind Pc) (hrc : rm.cells = mc) (hrs : rm.slots = ms)
    (hframes : rm.frames + 1 ≤ R.frames) (hlocals : W9 + (maxL + 11) + rm.locals ≤ R.locals)
    (hws : ∀ w ∈ ws, ∀ a' U, s.WarmedH U.vm → w.before a' U = true) (hcode : Cond.codeWith y bytes maxL ret hh ∈ ws) (hinit : ∀ a' U, s.WarmedH U.vm → (Cond.initialized y.cls).before a' U = true) :
    vx_Back l R p e below s sargs y len W9 (PreOf R mc ms Pc) (PostOf Qc mc ms free) (vx_Post XC mc ms free) := by
  intro m meth c A g ig mk a X hg hsize hdg hW hn hp
  have h1 : (headSpec ws rm).pre.before a A.U = true := atoms_intro fun w hw => hws w hw _ _ X.warmed
  have h2 : (Cond.codeWith y bytes maxL ret hh).before a A.U = true := hws _ hcode _ _ X.warmed
  have h3 : (Cond.initialized y.cls).before a A.U = true := hinit _ _ X.warmed
  have h4 : A.cells + (headSpec ws rm).room.cells ≤ R.cells := by rw [show (headSpec ws rm).room.cells = mc from hrc]; exact hp.1
  have h5 : A.slots + (headSpec ws rm).room.slots ≤ R.slots := by rw [show (headSpec ws rm).room.slots = ms from hrs]; exact hp.2.1
  have hPc : Pc a (A.U.calling g mk a) := hblind _ _ _ _ hp.2.2
  obtain ⟨U, Ls, c0, s0⟩ := A
  dsimp only [Pt.U, Pt.locs, Pt.cells, Pt.slots] at h1 h2 h3 h4 h5 X hn hPc ⊢
  obtain ⟨m9, methY, cY, hn9, hmY, hcY, -, hlY, -⟩ := Cond.codeWith_spec h2
  cases Option.some.inj (hn9.symm.trans hn)
  obtain ⟨kY, hkY, -⟩ := className_of_methodNamed hn
  have hinitY : kY.init = .initialized := Cond.initialized_spec (findClass_of_methodNamed hn) hkY h3
  have h : At U g.method c below := by rw [hg]; exact X.here
  have hlocals9 : W9 + (maxL + 11) + (headSpec ws rm).room.locals ≤ R.locals := hlocals
  have happ : (headSpec ws rm).appliesLoose y e.platform (U.calling g mk a) = true :=
    Spec.appliesLoose_calling (g := g) h hdg hn hkY hinitY
      (X.room_calling (g := g) (R' := (headSpec ws rm).room) hsize hmY hcY hframes (by rw [hlY]; omega) h4 h5) h1
  obtain ⟨mid, hmid⟩ := h.above
  have hfr : (U.setTop g).frames = (.java g :: mid) ++ below := by rw [State.frames_setTop' g h.top, hmid]; rfl
  obtain ⟨o, s₂, hsteps, -, hend, hq⟩ := Steps.callFree hM p X.admits X.cas X.clock (acts := []) hfr happ hPc trivial
  have hq' : vx_Q Qc XC mc ms free a (U.calling g mk a) o s₂ := hq
  rw [State.frames_setTop' g h.top] at hend
  obtain ⟨g₀, hg0⟩ := Option.isSome_iff_exists.mp h.top
  obtain ⟨r, hr⟩ := State.topJava?_eq_some.mp hg0
  have hr' : (({ U with heap := s₂.heap, slotsUsed := s₂.slotsUsed } : State).setVm s₂.vm).frames = .java g₀ :: r := hr
  rcases hq' with ⟨hqc, L, hfe, hL⟩ | ⟨q, rfl, E, ce, L, hx, hce, hcv, hcl, hW₂, hsm, hL⟩
  · obtain ⟨⟨v, rfl⟩, hW₂, e2, q2, q3, q4, q5, q6⟩ := id hfe
    have e3 : s₂ = ({ (U.calling g mk a).setFrames s₂.frames with heap := s₂.heap, slotsUsed := s₂.slotsUsed } : State).setVm s₂.vm := by
      have : s₂ = ({ s₂ with vm := (U.calling g mk a).vm } : State).setVm s₂.vm := rfl
      rw [e2] at this
      exact this
    obtain ⟨c₂, i₂, len₂, hc₂, hd₂, hf₂⟩ := hend
    have hW' : U.WarmedH s₂.vm := hW₂
    have hcc : c₂ = c := by
      have h1 : s₂.code? g.method = U.code? g.method := by
        rw [State.code?_eq, State.code?_eq, hW'.alike.method?]
      exact Option.some.inj (hc₂.symm.trans (h1.trans h.code))
    subst hcc
    have hlen : len₂ = len := by rw [hdg] at hd₂; cases hd₂; rfl
    subst hlen
    have hs₂ : s₂ = (({ U with heap := s₂.heap, slotsUsed := s₂.slotsUsed } : State).setVm s₂.vm).setTop { g with pc := g.pc + len₂, stack := v.toList ++ g.stack } := by
      refine e3.trans ?_
      rw [hf₂, State.calling_eq h.top, State.setFrames_setFrames, State.setTop_of_frames _ hr', hr]
      rfl
    have hsame : U.sameButNew ({ U with heap := s₂.heap, slotsUsed := s₂.slotsUsed } : State) L mc ms := by
      refine ⟨?_, q2, q3, q4, q5, q6⟩
      obtain ⟨t, ht, -⟩ := State.frames_cons hr
      show ({ U with heap := s₂.heap, slotsUsed := s₂.slotsUsed } : State) = { U.setFrames U.frames with heap := s₂.heap, slotsUsed := s₂.slotsUsed }
      rw [State.setFrames_self ht]
    subst hg
    refine Or.inl ⟨v, ⟨(({ U with heap := s₂.heap, slotsUsed := s₂.slotsUsed } : State).setVm s₂.vm), Ls ++ L, c0 + mc, s0 + ms⟩,
      ⟨X.admits, X.cas, X.clock, X.frames, X.room, X.hears, X.method, X.code, (X.here.setHeapUsed s₂.heap s₂.slotsUsed).setVm hW'.alike, X.tail, State.WarmedH.trans X.warmed hW', X.limits, X.bytes, X.same.trans (hsame.setVm s.vm)⟩,
      ⟨g, mk, s₂, L, rfl, rfl, hqc, rfl, hL, rfl, rfl⟩, ?_⟩
    show Steps p.tables e below _ ((({ U with heap := s₂.heap, slotsUsed := s₂.slotsUsed } : State).setVm s₂.vm).setTop { g with pc := g.pc + len₂, stack := v.toList ++ g.stack })
    rw [← hs₂]
    exact hsteps
  · obtain ⟨e2, q2, q3, q4, q5, q6⟩ := id hsm
    have e3 : s₂ = ({ (U.calling g mk a).setFrames s₂.frames with heap := s₂.heap, slotsUsed := s₂.slotsUsed } : State).setVm s₂.vm := by
      have : s₂ = ({ s₂ with vm := (U.calling g mk a).vm } : State).setVm s₂.vm := rfl
      rw [e2] at this
      exact this
    have hf₂ : s₂.frames = .throwing q :: .java g :: U.frames.tail := hend
    have hW' : U.WarmedH s₂.vm := hW₂
    have hs₂ : s₂ = ((({ U with heap := s₂.heap, slotsUsed := s₂.slotsUsed } : State).setVm s₂.vm).setTop g).pushFrame (.throwing q) := by
      refine e3.trans ?_
      rw [hf₂, State.calling_eq h.top, State.setFrames_setFrames, State.pushFrame, State.frames_setTop _ hr', State.setTop_of_frames _ hr', State.setFrames_setFrames, hr]
      rfl
    have hsame : U.sameButNew ({ U with heap := s₂.heap, slotsUsed := s₂.slotsUsed } : State) L mc ms := by
      refine ⟨?_, q2, q3, q4, q5, q6⟩
      obtain ⟨t, ht, -⟩ := State.frames_cons hr
      show ({ U with heap := s₂.heap, slotsUsed := s₂.slotsUsed } : State) = { U.setFrames U.frames with heap := s₂.heap, slotsUsed := s₂.slotsUsed }
      rw [State.setFrames_self ht]
    subst hg
    refine Or.inr ⟨q, ⟨(({ U with heap := s₂.heap, slotsUsed := s₂.slotsUsed } : State).setVm s₂.vm), Ls ++ L, c0 + mc, s0 + ms⟩,
      ⟨X.admits, X.cas, X.clock, X.frames, X.room, X.hears, X.method, X.code, (X.here.setHeapUsed s₂.heap s₂.slotsUsed).setVm hW'.alike, X.tail, State.WarmedH.trans X.warmed hW', X.limits, X.bytes, X.same.trans (hsame.setVm s.vm)⟩,
      ⟨g, mk, s₂, L, E, ce, rfl, rfl, hx, hce, hcv, hcl, rfl, hL, rfl, rfl⟩, ?_⟩
    show Steps p.tables e below _ (((({ U with heap := s₂.heap, slotsUsed := s₂.slotsUsed } : State).setVm s₂.vm).setTop g).pushFrame (.throwing q))
    rw [← hs₂]
    exact hsteps
end
variable {p : Program} {l : Launch} {e : Env} {R : Room} {s : State} {m : MethodId} {args : Array Value} {below : List Frame} {meth : Method} {c : Code} {T : State} {H : Heap} {locs : List Loc} {cells slots : Nat}
theorem vx_callVX (X : Stand p l e R s m args below meth c T locs cells slots) (hexec : p.tables.exec = Jvm.exec) {own C : String} {index : Nat} {y : MethodName} {bytes : ByteArray} {maxL : Nat} {ret : Option FieldType} {hh : List (Nat × Nat × Nat × Nat)}
    (hown : s.vm.findClass own = some m.cls) (hlink : (Cond.methodLink own index y).before args s = true) (hinst : (Cond.instanceMethod y).before args s = true) (hsel : (Cond.selects C y y).before args s = true)
    (hcode : (Cond.codeWith y bytes maxL ret hh).before args s = true) (hy : y.cls ≠ "java/lang/invoke/MethodHandle" ∧ y.cls ≠ "java/lang/invoke/VarHandle")
    {W9 : Nat} {Pre : Pt → Array Value → Prop} {Post : Pt → Array Value → Option Value → Pt → Prop} {PostX : Pt → Array Value → Addr → Pt → Prop} (hK : vx_Back l R p e below s args y 3 W9 Pre Post PostX)
    {b : Addr} {cellB : Cell} (hcell : T.heap[b]? = some cellB) (hobj : cellB.vm.isStatics = false) (hcls : s.vm.findClass C = some cellB.cls)
    {g : JFrame} (hg : g.method = m) (hsize : g.locals.size = c.maxLocals) {argsL rest : List Value} (hlen : ∀ sig, parseMethodDescriptor y.desc = some sig → argsL.length = sig.parameters.length)
    (hstack : g.stack = argsL.reverse ++ .ref b :: rest) (hW : 2 * g.monitorRoom + (rest.map fun v => v.category).sum ≤ W9) (hdg : decode c.code g.pc = .ok (.invokevirtual index, 3))
    (hpre : ∀ vm₁, s.WarmedH vm₁ → Pre ⟨T.setVm vm₁, locs, cells, slots⟩ (Value.ref b :: argsL).toArray) :
    (∃ (v : Option Value) (vm₁ : Vm) (B : Pt), s.WarmedH vm₁ ∧ Stand p l e R s m args below meth c B.U B.locs B.cells B.slots ∧ Post ⟨T.setVm vm₁, locs, cells, slots⟩ (Value.ref b :: argsL).toArray v B ∧
      ∀ target, Steps p.tables e below (B.U.setTop { g with pc := g.pc + 3, stack := v.toList ++ rest }) target → Steps p.tables e below (T.setTop g) target) ∨
    (∃ (q : Addr) (vm₁ : Vm) (B : Pt), s.WarmedH vm₁ ∧ Stand p l e R s m args below meth c B.U B.locs B.cells B.slots ∧ PostX ⟨T.setVm vm₁, locs, cells, slots⟩ (Value.ref b :: argsL).toArray q B ∧
      Steps p.tables e below (T.setTop g) ((B.U.setTop { g with stack := rest }).pushFrame (.throwing q))) := by
  obtain ⟨mk, methM, hnamed, hmethM, hstM, habM⟩ := Cond.instanceMethod_spec hinst
  obtain ⟨m8, methM', cM, hn8, hmethM', -, -, -, -, -, -, hsigM⟩ := Cond.codeWith_spec hcode
  cases Option.some.inj (hn8.symm.trans hnamed)
  cases hmethM.symm.trans hmethM'
  obtain ⟨c2, r2, m2, q1, q2, q3, q4, kP, hkP, hkPi⟩ := Cond.selects_spec hsel
  cases hcls.symm.trans q1
  cases (State.methodFound?_of_named hnamed hy).symm.trans q2
  cases hnamed.symm.trans q3
  have hselP : selectMethod e.platform s.vm cellB.cls mk = .method mk := by rw [Launch.admits_selectMethod X.admits]; exact q4
  obtain ⟨vm₁, X₁, hstep₁⟩ := X.invokevirtual hexec hown hlink hnamed hmethM hstM hkP hkPi hy (a := b) (cell := cellB) hcell
    (fun z h => by rw [h] at hobj; cases hobj) hselP hmethM habM hkP hkPi (g := g) hg (argsL := argsL) (rest := rest) (hlen _ hsigM) hstack hdg
  rcases hK m meth c ⟨T.setVm vm₁, locs, cells, slots⟩ { g with stack := rest } (.invokevirtual index) mk (Value.ref b :: argsL).toArray X₁ hg hsize hdg hW (X₁.named hnamed) (hpre vm₁ X₁.warmed) with ⟨v, B, X', hpost, hsteps⟩ | ⟨q, B, X', hpost, hsteps⟩
  · exact Or.inl ⟨v, vm₁, B, X₁.warmed, X', hpost, fun target h => hstep₁ _ fun acts => by rw [doInvoke_state]; exact hsteps.trans h⟩
  · exact Or.inr ⟨q, vm₁, B, X₁.warmed, X', hpost, hstep₁ _ fun acts => by rw [doInvoke_state]; exact hsteps⟩
theorem vx_callSX (X : Stand p l e R s m args below meth c T locs cells slots) (hexec : p.tables.exec = Jvm.exec) {own : String} {index : Nat} {y : MethodName} {bytes : ByteArray} {maxL : Nat} {ret : Option FieldType} {hh : List (Nat × Nat × Nat × Nat)}
    (hown : s.vm.findClass own = some m.cls) (hlink : (Cond.methodLink own index y).before args s = true) (hstat : (Cond.static y).before args s = true) (hinit : (Cond.initialized y.cls).before args s = true)
    (hcode : (Cond.codeWith y bytes maxL ret hh).before args s = true) (hy : y.cls ≠ "java/lang/invoke/MethodHandle" ∧ y.cls ≠ "java/lang/invoke/VarHandle")
    {W9 : Nat} {Pre : Pt → Array Value → Prop} {Post : Pt → Array Value → Option Value → Pt → Prop} {PostX : Pt → Array Value → Addr → Pt → Prop} (hK : vx_Back l R p e below s args y 3 W9 Pre Post PostX)
    {g : JFrame} (hg : g.method = m) (hsize : g.locals.size = c.maxLocals) {argsL rest : List Value} (hlen : ∀ sig, parseMethodDescriptor y.desc = some sig → argsL.length = sig.parameters.length)
    (hstack : g.stack = argsL.reverse ++ rest) (hW : 2 * g.monitorRoom + (rest.map fun v => v.category).sum ≤ W9) (hdg : decode c.code g.pc = .ok (.invokestatic index, 3))
    (hpre : ∀ vm₁, s.WarmedH vm₁ → Pre ⟨T.setVm vm₁, locs, cells, slots⟩ argsL.toArray) :
    (∃ (v : Option Value) (vm₁ : Vm) (B : Pt), s.WarmedH vm₁ ∧ Stand p l e R s m args below meth c B.U B.locs B.cells B.slots ∧ Post ⟨T.setVm vm₁, locs, cells, slots⟩ argsL.toArray v B ∧
      ∀ target, Steps p.tables e below (B.U.setTop { g with pc := g.pc + 3, stack := v.toList ++ rest }) target → Steps p.tables e below (T.setTop g) target) ∨
    (∃ (q : Addr) (vm₁ : Vm) (B : Pt), s.WarmedH vm₁ ∧ Stand p l e R s m args below meth c B.U B.locs B.cells B.slots ∧ PostX ⟨T.setVm vm₁, locs, cells, slots⟩ argsL.toArray q B ∧
      Steps p.tables e below (T.setTop g) ((B.U.setTop { g with stack := rest }).pushFrame (.throwing q))) := by
  obtain ⟨mk, methM, cM, hnamed, hmethM, -, -, -, -, -, -, hsigM⟩ := Cond.codeWith_spec hcode
  have hstatic : methM.isStatic = true := Cond.static_spec hnamed hmethM hstat
  obtain ⟨kP, hkP, -⟩ := className_of_methodNamed hnamed
  have hinitP : kP.init = .initialized := Cond.initialized_spec (findClass_of_methodNamed hnamed) hkP hinit
  obtain ⟨vm₁, X₁, hstep₁⟩ := X.invokestatic hexec hown hlink hnamed hmethM hstatic hkP hinitP hy (g := g) hg (argsL := argsL) (rest := rest) (hlen _ hsigM) hstack hdg
  rcases hK m meth c ⟨T.setVm vm₁, locs, cells, slots⟩ { g with stack := rest } (.invokestatic index) mk argsL.toArray X₁ hg hsize hdg hW (X₁.named hnamed) (hpre vm₁ X₁.warmed) with ⟨v, B, X', hpost, hsteps⟩ | ⟨q, B, X', hpost, hsteps⟩
  · exact Or.inl ⟨v, vm₁, B, X₁.warmed, X', hpost, fun target h => hstep₁ _ fun acts => by rw [doInvoke_state]; exact hsteps.trans h⟩
  · exact Or.inr ⟨q, vm₁, B, X₁.warmed, X', hpost, hstep₁ _ fun acts => by rw [doInvoke_state]; exact hsteps⟩
theorem vx_callVW (X : Stand p l e R s m args below meth c T locs cells slots) (hexec : p.tables.exec = Jvm.exec) {own C : String} {index : Nat} {y : MethodName} {bytes : ByteArray} {maxL : Nat} {ret : Option FieldType} {hh : List (Nat × Nat × Nat × Nat)}
    (hown : s.vm.findClass own = some m.cls) (hlink : (Cond.methodLink own index y).before args s = true) (hinst : (Cond.instanceMethod y).before args s = true) (hsel : (Cond.selects C y y).before args s = true)
    (hcode : (Cond.codeWith y bytes maxL ret hh).before args s = true) (hy : y.cls ≠ "java/lang/invoke/MethodHandle" ∧ y.cls ≠ "java/lang/invoke/VarHandle")
    {W9 : Nat} {Pre : Pt → Array Value → Prop} {Post : Pt → Array Value → Option Value → Pt → Prop} (hK : Back l R p e below s args y 3 W9 Pre Post)
    {b : Addr} {cellB : Cell} (hcell : T.heap[b]? = some cellB) (hobj : cellB.vm.isStatics = false) (hcls : s.vm.findClass C = some cellB.cls)
    {g : JFrame} (hg : g.method = m) (hsize : g.locals.size = c.maxLocals) {argsL rest : List Value} (hlen : ∀ sig, parseMethodDescriptor y.desc = some sig → argsL.length = sig.parameters.length)
    (hstack : g.stack = argsL.reverse ++ .ref b :: rest) (hW : 2 * g.monitorRoom + (rest.map fun v => v.category).sum ≤ W9) (hdg : decode c.code g.pc = .ok (.invokevirtual index, 3))
    (hpre : ∀ vm₁, s.WarmedH vm₁ → Pre ⟨T.setVm vm₁, locs, cells, slots⟩ (Value.ref b :: argsL).toArray) :
    ∃ (v : Option Value) (vm₁ : Vm) (B : Pt), s.WarmedH vm₁ ∧ Stand p l e R s m args below meth c B.U B.locs B.cells B.slots ∧ Post ⟨T.setVm vm₁, locs, cells, slots⟩ (Value.ref b :: argsL).toArray v B ∧
      ∀ target, Steps p.tables e below (B.U.setTop { g with pc := g.pc + 3, stack := v.toList ++ rest }) target → Steps p.tables e below (T.setTop g) target := by
  obtain ⟨mk, methM, hnamed, hmethM, hstM, habM⟩ := Cond.instanceMethod_spec hinst
  obtain ⟨m8, methM', cM, hn8, hmethM', -, -, -, -, -, -, hsigM⟩ := Cond.codeWith_spec hcode
  cases Option.some.inj (hn8.symm.trans hnamed)
  cases hmethM.symm.trans hmethM'
  obtain ⟨c2, r2, m2, q1, q2, q3, q4, kP, hkP, hkPi⟩ := Cond.selects_spec hsel
  cases hcls.symm.trans q1
  cases (State.methodFound?_of_named hnamed hy).symm.trans q2
  cases hnamed.symm.trans q3
  have hselP : selectMethod e.platform s.vm cellB.cls mk = .method mk := by rw [Launch.admits_selectMethod X.admits]; exact q4
  obtain ⟨vm₁, X₁, hstep₁⟩ := X.invokevirtual hexec hown hlink hnamed hmethM hstM hkP hkPi hy (a := b) (cell := cellB) hcell
    (fun z h => by rw [h] at hobj; cases hobj) hselP hmethM habM hkP hkPi (g := g) hg (argsL := argsL) (rest := rest) (hlen _ hsigM) hstack hdg
  obtain ⟨v, B, X', hpost, hsteps⟩ := hK m meth c ⟨T.setVm vm₁, locs, cells, slots⟩ { g with stack := rest } (.invokevirtual index) mk (Value.ref b :: argsL).toArray X₁ hg hsize hdg hW (X₁.named hnamed) (hpre vm₁ X₁.warmed)
  exact ⟨v, vm₁, B, X₁.warmed, X', hpost, fun target h => hstep₁ _ fun acts => by rw [doInvoke_state]; exact hsteps.trans h⟩
abbrev vx_CVW (R : Room) (s : State) (args : Array Value) (own C : String) (index : Nat) (y : MethodName) (bytes : ByteArray) (maxL : Nat) (ret : Option FieldType) (hh : List (Nat × Nat × Nat × Nat)) (ws : List Cond) (rm : Room) (mc ms n : Nat) : Prop :=
  (rm.cells = mc ∧ rm.slots = ms ∧ rm.frames + 1 ≤ R.frames ∧ 8 + (maxL + 11) + rm.locals ≤ R.locals ∧ (∀ w ∈ ws, ∀ (a' : Array Value) (U : State), s.WarmedH U.vm → w.before a' U = true) ∧ Cond.codeWith y bytes maxL ret hh ∈ ws) ∧
  (Cond.codeWith y bytes maxL ret hh).before args s = true ∧ (Cond.initialized y.cls).before args s = true ∧ (y.cls ≠ "java/lang/invoke/MethodHandle" ∧ y.cls ≠ "java/lang/invoke/VarHandle") ∧
  (∀ sig, parseMethodDescriptor y.desc = some sig → n = sig.parameters.length) ∧ (Cond.methodLink own index y).before args s = true ∧ (Cond.instanceMethod y).before args s = true ∧ (Cond.selects C y y).before args s = true
theorem vx_cwVW {own C : String} {index maxL mc ms : Nat} {y : MethodName} {bytes : ByteArray} {ret : Option FieldType} {hh : List (Nat × Nat × Nat × Nat)} {Ts ws ws' : List Cond} {rm : Room} (n : Nat) (ht : ∀ w ∈ Ts, w.before args s = true) (hT : GoodIn Ts (wsV own index C y ws)) (hw : ws = Cond.codeWith y bytes maxL ret hh :: ws') (hrc : rm.cells = mc) (hrs : rm.slots = ms)
    (hd : y.cls = C ∧ y.cls ≠ "java/lang/invoke/MethodHandle" ∧ y.cls ≠ "java/lang/invoke/VarHandle" ∧ (parseMethodDescriptor y.desc).map (fun d => d.parameters.length) = some n) (hR : rm.frames + 1 ≤ R.frames ∧ 8 + (maxL + 11) + rm.locals ≤ R.locals) :
    vx_CVW R s args own C index y bytes maxL ret hh ws rm mc ms n := by
  obtain ⟨hC, hd⟩ := hd
  subst hC
  have ok : ∀ w ∈ wsV own index y.cls y ws, w.before args s = true := fun w h => ht w (hT w h).1
  have hG : GoodIn Ts ws := fun w h => hT w (by unfold wsV; exact List.mem_append_right _ h)
  have hc : Cond.codeWith y bytes maxL ret hh ∈ ws := by rw [hw]; exact List.mem_cons_self
  refine ⟨⟨hrc, hrs, hR.1, hR.2, pay_in ht hG, hc⟩, ht _ (hG _ hc).1, ok _ (by simp [wsV]), ⟨hd.1, hd.2.1⟩, fun sig h => ?_, ok _ (by simp [wsV]), ok _ (by simp [wsV]), ok _ (by simp [wsV])⟩
  have h2 := hd.2.2
  rw [h] at h2
  exact (Option.some.inj h2).symm
theorem vx_runVW {y : MethodName} {bytes cc : ByteArray} {maxL nL mc ms n index : Nat} {ret : Option FieldType} {hh : List (Nat × Nat × Nat × Nat)} {ws : List Cond} {rm : Room} {Pc : Array Value → State → Prop} {Qc : Array Value → State → Outcome → State → Prop} {free : Addr → Prop} {Ts : List Cond} {own C : String} {b : Addr} {As rest : List Value} {g : JFrame}
    (S : CallFix p m c cc nL s args Ts own) (hM : Met l y ws rm Pc Qc mc ms free) (cw : vx_CVW R s args own C index y bytes maxL ret hh ws rm mc ms n) (hp : PreV s H C b Pc As)
    (hg : g.method = m) (hn : As.length = n) (hsize : g.locals.size = nL) (hstack : g.stack = As.reverse ++ .ref b :: rest) (hW : 2 * g.monitorRoom + (rest.map fun v => v.category).sum ≤ 8) (hdg : decode cc g.pc = .ok (.invokevirtual index, 3)) (hf : cells + mc ≤ R.cells ∧ slots + ms ≤ R.slots) :
    va_Run p l e R s m args below meth c H locs cells slots mc ms g rest (Qc (Value.ref b :: As).toArray) free := by
  obtain ⟨⟨hrc, hrs, hfr, hlo, hws, hcw⟩, hcode, hini, hy, hlen, hl, hin, hse⟩ := cw
  have hK : Back l R p e below s args y 3 8 (PreOf R mc ms Pc) (PostOf Qc mc ms free) := va_backW (hh := hh) (bytes := bytes) (maxL := maxL) (ret := ret) hM hp.1 hrc hrs hfr hlo hws hcw (fun a' U hW => word_at hW (Or.inl (by first | rfl | simp [Cond.onTables, Cond.keeps, Cond.steady])) hini)
  obtain ⟨hx, hb, hml, ho, -⟩ := S
  obtain ⟨-, ⟨cellB, hcB, hoB, hclB⟩, hPc⟩ := hp
  intro T hT X
  obtain ⟨v, vm₁, ⟨U', l2, c2, s2⟩, hW₁, X', ⟨g', mk, t, L, e1, e2, hq, h1, hL, h2, h3⟩, st⟩ := vx_callVW X hx (C := C) (hh := hh) (bytes := bytes) (maxL := maxL) (ret := ret) ho hl hin hse hcode hy hK (by rw [hT]; exact hcB) hoB hclB hg (hsize.trans hml.symm) (argsL := As) (rest := rest) (fun sig h => hn.trans (hlen sig h)) hstack hW (by rw [hb]; exact hdg)
    (fun vm₁ hW₁ => ⟨hf.1, hf.2, hPc (T.setVm vm₁) hT hW₁⟩)
  dsimp only [Pt.U, Pt.locs, Pt.cells, Pt.slots] at X' e1 e2 h1 h2 h3 st
  subst h1; subst h2; subst h3
  exact ⟨v, (T.setVm vm₁).calling g' mk (Value.ref b :: As).toArray, t, U', L, hT, X', hL, e1, e2, hq, st⟩
section
variable {y : MethodName} {bytes cc : ByteArray} {maxL nL mc ms n index : Nat} {ret : Option FieldType} {ws : List Cond} {rm : Room} {Pc : Array Value → State → Prop} {Qc : Array Value → State → Outcome → State → Prop} {XC : String → State → State → Prop} {free : Addr → Prop} {Ts : List Cond} {own C : String} {b : Addr} {As rest : List Value} {g : JFrame}
theorem vx_runVX {hh : List (Nat × Nat × Nat × Nat)} (S : CallFix p m c cc nL s args Ts own) (hM : vx_Met l y ws rm Pc Qc XC mc ms free) (cw : vx_CVW R s args own C index y bytes maxL ret hh ws rm mc ms n) (hp : PreV s H C b Pc As)
    (hg : g.method = m) (hn : As.length = n) (hsize : g.locals.size = nL) (hstack : g.stack = As.reverse ++ .ref b :: rest) (hW : 2 * g.monitorRoom + (rest.map fun v => v.category).sum ≤ 8) (hdg : decode cc g.pc = .ok (.invokevirtual index, 3)) (hf : cells + mc ≤ R.cells ∧ slots + ms ≤ R.slots) :
    vx_Run p l e R s m args below meth c H locs cells slots mc ms g rest (Qc (Value.ref b :: As).toArray) XC free := by
  obtain ⟨⟨hrc, hrs, hfr, hlo, hws, hcw⟩, hcode, hini, hy, hlen, hl, hin, hse⟩ := cw
  have hK : vx_Back l R p e below s args y 3 8 (PreOf R mc ms Pc) (PostOf Qc mc ms free) (vx_Post XC mc ms free) := vx_backW (hh := hh) (bytes := bytes) (maxL := maxL) (ret := ret) hM hp.1 hrc hrs hfr hlo hws hcw (fun a' U hW => word_at hW (Or.inl (by first | rfl | simp [Cond.onTables, Cond.keeps, Cond.steady])) hini)
  obtain ⟨hx, hb, hml, ho, -⟩ := S
  obtain ⟨-, ⟨cellB, hcB, hoB, hclB⟩, hPc⟩ := hp
  intro T hT X
  rcases vx_callVX X hx (C := C) (hh := hh) (bytes := bytes) (maxL := maxL) (ret := ret) ho hl hin hse hcode hy hK (by rw [hT]; exact hcB) hoB hclB hg (hsize.trans hml.symm) (argsL := As) (rest := rest) (fun sig h => hn.trans (hlen sig h)) hstack hW (by rw [hb]; exact hdg)
    (fun vm₁ hW₁ => ⟨hf.1, hf.2, hPc (T.setVm vm₁) hT hW₁⟩) with ⟨v, vm₁, ⟨U', l2, c2, s2⟩, hW₁, X', ⟨g', mk, t, L, e1, e2, hq, h1, hL, h2, h3⟩, st⟩ | ⟨q, vm₁, ⟨U', l2, c2, s2⟩, hW₁, X', ⟨g', mk, t, L, E, ce, e1, e2, hq, hce, hcv, hcl, h1, hL, h2, h3⟩, st⟩
  · dsimp only [Pt.U, Pt.locs, Pt.cells, Pt.slots] at X' e1 e2 h1 h2 h3 st
    subst h1; subst h2; subst h3
    exact Or.inl ⟨v, (T.setVm vm₁).calling g' mk (Value.ref b :: As).toArray, t, U', L, hT, X', hL, e1, e2, hq, st⟩
  · dsimp only [Pt.U, Pt.locs, Pt.cells, Pt.slots] at X' e1 e2 h1 h2 h3 st hcl
    subst h1; subst h2; subst h3
    exact Or.inr ⟨q, (T.setVm vm₁).calling g' mk (Value.ref b :: As).toArray, t, U', L, E, ce, hT, X', hL, e1, e2, hq, hce, hcv, vx_cls hW₁ hcl, st⟩
theorem vx_runSX {hh : List (Nat × Nat × Nat × Nat)} (S : CallFix p m c cc nL s args Ts own) (hM : vx_Met l y ws rm Pc Qc XC mc ms free) (cw : vx_CSW R s args own index y bytes maxL ret hh ws rm mc ms n) (hp : PreS s H Pc As)
    (hg : g.method = m) (hn : As.length = n) (hsize : g.locals.size = nL) (hstack : g.stack = As.reverse ++ rest) (hW : 2 * g.monitorRoom + (rest.map fun v => v.category).sum ≤ 8) (hdg : decode cc g.pc = .ok (.invokestatic index, 3)) (hf : cells + mc ≤ R.cells ∧ slots + ms ≤ R.slots) :
    vx_Run p l e R s m args below meth c H locs cells slots mc ms g rest (Qc As.toArray) XC free := by
  obtain ⟨⟨hrc, hrs, hfr, hlo, hws, hcw⟩, hcode, hini, hy, hlen, hl, hstt⟩ := cw
  have hK : vx_Back l R p e below s args y 3 8 (PreOf R mc ms Pc) (PostOf Qc mc ms free) (vx_Post XC mc ms free) := vx_backW (hh := hh) (bytes := bytes) (maxL := maxL) (ret := ret) hM hp.1 hrc hrs hfr hlo hws hcw (fun a' U hW => word_at hW (Or.inl (by first | rfl | simp [Cond.onTables, Cond.keeps, Cond.steady])) hini)
  obtain ⟨hx, hb, hml, ho, -⟩ := S
  intro T hT X
  rcases vx_callSX X hx (hh := hh) (bytes := bytes) (maxL := maxL) (ret := ret) ho hl hstt hini hcode hy hK hg (hsize.trans hml.symm) (argsL := As) (rest := rest) (fun sig h => hn.trans (hlen sig h)) hstack hW (by rw [hb]; exact hdg)
    (fun vm₁ hW₁ => ⟨hf.1, hf.2, hp.2 (T.setVm vm₁) hT hW₁⟩) with ⟨v, vm₁, ⟨U', l2, c2, s2⟩, hW₁, X', ⟨g', mk, t, L, e1, e2, hq, h1, hL, h2, h3⟩, st⟩ | ⟨q, vm₁, ⟨U', l2, c2, s2⟩, hW₁, X', ⟨g', mk, t, L, E, ce, e1, e2, hq, hce, hcv, hcl, h1, hL, h2, h3⟩, st⟩
  · dsimp only [Pt.U, Pt.locs, Pt.cells, Pt.slots] at X' e1 e2 h1 h2 h3 st
    subst h1; subst h2; subst h3
    exact Or.inl ⟨v, (T.setVm vm₁).calling g' mk As.toArray, t, U', L, hT, X', hL, e1, e2, hq, st⟩
  · dsimp only [Pt.U, Pt.locs, Pt.cells, Pt.slots] at X' e1 e2 h1 h2 h3 st hcl
    subst h1; subst h2; subst h3
    exact Or.inr ⟨q, (T.setVm vm₁).calling g' mk As.toArray, t, U', L, E, ce, hT, X', hL, e1, e2, hq, hce, hcv, vx_cls hW₁ hcl, st⟩
end
end VXH
theorem vx_ofWH {l : Launch} {y : MethodName} {ws ws' : List Cond} {rm : Room} {Pc : Array Value → State → Prop} {Qc : Array Value → State → Outcome → State → Prop} {XC : String → State → State → Prop} {mc ms : Nat} {free : Addr → Prop} {cc : ByteArray} {maxL : Nat} {ret : Option FieldType} {hh : List (Nat × Nat × Nat × Nat)}
    (hy : plainName y.cls = true) (hw : ws = Cond.codeWith y cc maxL ret hh :: ws')
    (body : ∀ p e s m args below meth c s₁, BodyLoose p l y (headSpec ws rm) cc maxL ret e s m args below meth c s₁ → c.maxLocals = maxL → Pc args s →
      W p l e (headSpec ws rm).room s m args below meth c s.heap [] 0 0 (vx_MQ below Qc XC args s mc ms free) (entryFrame m args maxL)) : vx_Met l y ws rm Pc Qc XC mc ms free := by
  refine MetFree.of_bodyS (code := cc) (maxLocals := maxL) (ret := ret) hy ?_ ?_
  · intro args s m h hn
    obtain ⟨m9, meth, c, hn9, h1, h2, h3, h4, -, h5, h6, -⟩ := Cond.codeWith_spec (atoms_spec (ws := ws) h _ (by rw [hw]; exact List.mem_cons_self))
    cases hn.symm.trans hn9
    exact ⟨meth, c, h1, h2, h3, h4, h5, h6⟩
  · intro p e s m args below meth c s₁ B hml hP _
    have hh0 : s₁.heap = s.heap := by rw [B.state]; rfl
    obtain ⟨t, a1, o, b1, b2, b3⟩ := body p e s m args below meth c s₁ B hml hP s₁ hh0 (Stand.of_body B)
    exact ⟨t, o, a1, b1, b2, b3⟩
/-! ===== END ===== -/
end
section
/-! ===== BEGIN printed: names, fields, word lists, decode rows ===== -/
def RX0 : String := "PushNotices"
def TX0 : u_T := fun k => match k with
  | 0 => ("PushNotices", "devicesOfUser", "[I", true)
  | 1 => ("PushNotices", "devicesOfTopic", "[I", true)
  | 2 => ("PushNotices", "alive", "I", false)
  | 3 => ("PushNotices", "online", "I", false)
  | 4 => ("PushNotices", "dozing", "I", false)
  | 5 => ("PushNotices", "zoneOffset", "[I", true)
  | 6 => ("PushNotices", "quietFrom", "[I", true)
  | 7 => ("PushNotices", "quietTo", "[I", true)
  | 8 => ("PushNotices", "quotaDay", "[I", true)
  | 9 => ("PushNotices", "quotaSpent", "[I", true)
  | 10 => ("PushNotices", "deviceCount", "I", false)
  | 11 => ("PushNotices", "isHighNotice", "[Z", true)
  | 12 => ("PushNotices", "fallsAt", "[I", true)
  | 13 => ("PushNotices", "waitSet", "[I", true)
  | 14 => ("PushNotices", "deliveredSet", "[I", true)
  | 15 => ("PushNotices", "lastWithKey", "[I", true)
  | 16 => ("PushNotices", "noticeCount", "I", false)
  | 17 => ("PushNotices", "minute", "I", false)
  | _ => ("PushNotices", "deliveryCount", "I", false)
def tyX0 : Nat → FieldType := fun k => match k with
  | 0 => .array .int
  | 1 => .array .int
  | 2 => .int
  | 3 => .int
  | 4 => .int
  | 5 => .array .int
  | 6 => .array .int
  | 7 => .array .int
  | 8 => .array .int
  | 9 => .array .int
  | 10 => .int
  | 11 => .array .boolean
  | 12 => .array .int
  | 13 => .array .int
  | 14 => .array .int
  | 15 => .array .int
  | 16 => .int
  | 17 => .int
  | _ => .int
abbrev wsX00 : List Cond := u_ws RX0 TX0 19
theorem nmX0 : ∀ a, a < 19 → ∀ b, b < 19 → a ≠ b → (TX0 a).2.1 ≠ (TX0 b).2.1 := by decide +kernel
theorem tyX0_ok : ∀ k, k < 19 → parseFieldDescriptor (TX0 k).2.2.1 = some (tyX0 k) := by decide +kernel
abbrev cX0_init : ByteArray := prog_1_method_1_code
def yX0_init : MethodName := ⟨RX0, "<init>", "()V"⟩
abbrev cX0_addDevice : ByteArray := prog_1_method_2_code
def yX0_addDevice : MethodName := ⟨RX0, "addDevice", "(II)I"⟩
abbrev cX0_setOnline : ByteArray := prog_1_method_3_code
def yX0_setOnline : MethodName := ⟨RX0, "setOnline", "(IZ)I"⟩
abbrev cX0_setDozing : ByteArray := prog_1_method_4_code
def yX0_setDozing : MethodName := ⟨RX0, "setDozing", "(IZ)I"⟩
abbrev cX0_setQuiet : ByteArray := prog_1_method_5_code
def yX0_setQuiet : MethodName := ⟨RX0, "setQuiet", "(III)I"⟩
abbrev cX0_join : ByteArray := prog_1_method_6_code
def yX0_join : MethodName := ⟨RX0, "join", "(IIZ)Z"⟩
abbrev cX0_kill : ByteArray := prog_1_method_7_code
def yX0_kill : MethodName := ⟨RX0, "kill", "(I)I"⟩
abbrev cX0_devices : ByteArray := prog_1_method_8_code
def yX0_devices : MethodName := ⟨RX0, "devices", "()I"⟩
abbrev cX0_isQuiet : ByteArray := prog_1_method_9_code
def yX0_isQuiet : MethodName := ⟨RX0, "isQuiet", "(I)Z"⟩
abbrev cX0_send : ByteArray := prog_1_method_10_code
def yX0_send : MethodName := ⟨RX0, "send", "(IIZI)I"⟩
abbrev cX0_sendBy : ByteArray := prog_1_method_11_code
def yX0_sendBy : MethodName := ⟨RX0, "sendBy", "(IIIZI)I"⟩
abbrev cX0_read : ByteArray := prog_1_method_12_code
def yX0_read : MethodName := ⟨RX0, "read", "(II)I"⟩
abbrev cX0_sent : ByteArray := prog_1_method_13_code
def yX0_sent : MethodName := ⟨RX0, "sent", "()I"⟩
abbrev cX0_stands : ByteArray := prog_1_method_14_code
def yX0_stands : MethodName := ⟨RX0, "stands", "(I)Z"⟩
abbrev cX0_waitsFor : ByteArray := prog_1_method_15_code
def yX0_waitsFor : MethodName := ⟨RX0, "waitsFor", "(I)I"⟩
abbrev cX0_deliveredTo : ByteArray := prog_1_method_16_code
def yX0_deliveredTo : MethodName := ⟨RX0, "deliveredTo", "(I)I"⟩
abbrev cX0_standing : ByteArray := prog_1_method_17_code
def yX0_standing : MethodName := ⟨RX0, "standing", "(II)I"⟩
abbrev cX0_badge : ByteArray := prog_1_method_18_code
def yX0_badge : MethodName := ⟨RX0, "badge", "(I)I"⟩
abbrev cX0_waiting : ByteArray := prog_1_method_19_code
def yX0_waiting : MethodName := ⟨RX0, "waiting", "(I)I"⟩
abbrev cX0_quota : ByteArray := prog_1_method_20_code
def yX0_quota : MethodName := ⟨RX0, "quota", "(I)I"⟩
abbrev cX0_pass : ByteArray := prog_1_method_21_code
def yX0_pass : MethodName := ⟨RX0, "pass", "(I)I"⟩
abbrev cX0_clock : ByteArray := prog_1_method_22_code
def yX0_clock : MethodName := ⟨RX0, "clock", "()I"⟩
abbrev cX0_deliveries : ByteArray := prog_1_method_23_code
def yX0_deliveries : MethodName := ⟨RX0, "deliveries", "()I"⟩
abbrev cX0_requireWithin : ByteArray := prog_1_method_24_code
def yX0_requireWithin : MethodName := ⟨RX0, "requireWithin", "(III)V"⟩
abbrev cX0_requireDevice : ByteArray := prog_1_method_25_code
def yX0_requireDevice : MethodName := ⟨RX0, "requireDevice", "(I)V"⟩
abbrev cX0_requireNotice : ByteArray := prog_1_method_26_code
def yX0_requireNotice : MethodName := ⟨RX0, "requireNotice", "(I)V"⟩
abbrev cX0_requireRoomForNotice : ByteArray := prog_1_method_27_code
def yX0_requireRoomForNotice : MethodName := ⟨RX0, "requireRoomForNotice", "()V"⟩
abbrev cX0_bitOf : ByteArray := prog_1_method_28_code
def yX0_bitOf : MethodName := ⟨RX0, "bitOf", "(I)I"⟩
abbrev cX0_has : ByteArray := prog_1_method_29_code
def yX0_has : MethodName := ⟨RX0, "has", "(II)Z"⟩
abbrev cX0_changed : ByteArray := prog_1_method_30_code
def yX0_changed : MethodName := ⟨RX0, "changed", "(IIZ)I"⟩
abbrev cX0_devicesThatFulfil : ByteArray := prog_1_method_31_code
def yX0_devicesThatFulfil : MethodName := ⟨RX0, "devicesThatFulfil", "(III)I"⟩
abbrev cX0_placeOf : ByteArray := prog_1_method_32_code
def yX0_placeOf : MethodName := ⟨RX0, "placeOf", "(II)I"⟩
abbrev cX0_replaceKey : ByteArray := prog_1_method_33_code
def yX0_replaceKey : MethodName := ⟨RX0, "replaceKey", "(II)V"⟩
abbrev cX0_sendTo : ByteArray := prog_1_method_34_code
def yX0_sendTo : MethodName := ⟨RX0, "sendTo", "(IZI)I"⟩
abbrev cX0_withdraw : ByteArray := prog_1_method_35_code
def yX0_withdraw : MethodName := ⟨RX0, "withdraw", "(I)V"⟩
abbrev cX0_isStanding : ByteArray := prog_1_method_36_code
def yX0_isStanding : MethodName := ⟨RX0, "isStanding", "(I)Z"⟩
abbrev cX0_waitsNow : ByteArray := prog_1_method_37_code
def yX0_waitsNow : MethodName := ⟨RX0, "waitsNow", "(I)I"⟩
abbrev cX0_countWaiting : ByteArray := prog_1_method_38_code
def yX0_countWaiting : MethodName := ⟨RX0, "countWaiting", "(I)I"⟩
abbrev cX0_localTime : ByteArray := prog_1_method_39_code
def yX0_localTime : MethodName := ⟨RX0, "localTime", "(I)I"⟩
abbrev cX0_isInQuietHours : ByteArray := prog_1_method_40_code
def yX0_isInQuietHours : MethodName := ⟨RX0, "isInQuietHours", "(I)Z"⟩
abbrev cX0_spentToday : ByteArray := prog_1_method_41_code
def yX0_spentToday : MethodName := ⟨RX0, "spentToday", "(I)I"⟩
abbrev cX0_spendQuota : ByteArray := prog_1_method_42_code
def yX0_spendQuota : MethodName := ⟨RX0, "spendQuota", "(I)V"⟩
abbrev cX0_deliverNow : ByteArray := prog_1_method_43_code
def yX0_deliverNow : MethodName := ⟨RX0, "deliverNow", "()I"⟩
abbrev cX0_deliver : ByteArray := prog_1_method_44_code
def yX0_deliver : MethodName := ⟨RX0, "deliver", "(II)V"⟩
abbrev cX0_openToNormal : ByteArray := prog_1_method_45_code
def yX0_openToNormal : MethodName := ⟨RX0, "openToNormal", "()I"⟩
abbrev cX0_openToHigh : ByteArray := prog_1_method_46_code
def yX0_openToHigh : MethodName := ⟨RX0, "openToHigh", "()I"⟩
abbrev cX0_nextChance : ByteArray := prog_1_method_47_code
def yX0_nextChance : MethodName := ⟨RX0, "nextChance", "()I"⟩
def RX1 : String := "PushNoticesModel"
def TX1 : u_T := fun k => match k with
  | 0 => ("PushNoticesModel", "refusal", "I", false)
  | 1 => ("PushNoticesModel", "clock", "I", false)
  | 2 => ("PushNoticesModel", "devices", "I", false)
  | 3 => ("PushNoticesModel", "owners", "[I", true)
  | 4 => ("PushNoticesModel", "offsets", "[I", true)
  | 5 => ("PushNoticesModel", "isOnline", "[Z", true)
  | 6 => ("PushNoticesModel", "isDozing", "[Z", true)
  | 7 => ("PushNoticesModel", "isDead", "[Z", true)
  | 8 => ("PushNoticesModel", "froms", "[I", true)
  | 9 => ("PushNoticesModel", "tos", "[I", true)
  | 10 => ("PushNoticesModel", "joined", "[I", true)
  | 11 => ("PushNoticesModel", "days", "[I", true)
  | 12 => ("PushNoticesModel", "spent", "[I", true)
  | 13 => ("PushNoticesModel", "notices", "I", false)
  | 14 => ("PushNoticesModel", "isHigh", "[Z", true)
  | 15 => ("PushNoticesModel", "ends", "[I", true)
  | 16 => ("PushNoticesModel", "users", "[I", true)
  | 17 => ("PushNoticesModel", "keys", "[I", true)
  | 18 => ("PushNoticesModel", "isOver", "[Z", true)
  | 19 => ("PushNoticesModel", "waits", "[I", true)
  | 20 => ("PushNoticesModel", "delivered", "[I", true)
  | _ => ("PushNoticesModel", "deliveries", "I", false)
def tyX1 : Nat → FieldType := fun k => match k with
  | 0 => .int
  | 1 => .int
  | 2 => .int
  | 3 => .array .int
  | 4 => .array .int
  | 5 => .array .boolean
  | 6 => .array .boolean
  | 7 => .array .boolean
  | 8 => .array .int
  | 9 => .array .int
  | 10 => .array .int
  | 11 => .array .int
  | 12 => .array .int
  | 13 => .int
  | 14 => .array .boolean
  | 15 => .array .int
  | 16 => .array .int
  | 17 => .array .int
  | 18 => .array .boolean
  | 19 => .array .int
  | 20 => .array .int
  | _ => .int
abbrev wsX10 : List Cond := u_ws RX1 TX1 22
theorem nmX1 : ∀ a, a < 22 → ∀ b, b < 22 → a ≠ b → (TX1 a).2.1 ≠ (TX1 b).2.1 := by decide +kernel
theorem tyX1_ok : ∀ k, k < 22 → parseFieldDescriptor (TX1 k).2.2.1 = some (tyX1 k) := by decide +kernel
abbrev cX1_init : ByteArray := prog_3_method_1_code
def yX1_init : MethodName := ⟨RX1, "<init>", "()V"⟩
abbrev cX1_thrown : ByteArray := prog_3_method_2_code
def yX1_thrown : MethodName := ⟨RX1, "thrown", "()I"⟩
abbrev cX1_refused : ByteArray := prog_3_method_3_code
def yX1_refused : MethodName := ⟨RX1, "refused", "(I)Z"⟩
abbrev cX1_fine : ByteArray := prog_3_method_4_code
def yX1_fine : MethodName := ⟨RX1, "fine", "(I)I"⟩
abbrev cX1_in : ByteArray := prog_3_method_5_code
def yX1_in : MethodName := ⟨RX1, "in", "(III)Z"⟩
abbrev cX1_isDevice : ByteArray := prog_3_method_6_code
def yX1_isDevice : MethodName := ⟨RX1, "isDevice", "(I)Z"⟩
abbrev cX1_isNotice : ByteArray := prog_3_method_7_code
def yX1_isNotice : MethodName := ⟨RX1, "isNotice", "(I)Z"⟩
abbrev cX1_isQuietNow : ByteArray := prog_3_method_8_code
def yX1_isQuietNow : MethodName := ⟨RX1, "isQuietNow", "(I)Z"⟩
abbrev cX1_used : ByteArray := prog_3_method_9_code
def yX1_used : MethodName := ⟨RX1, "used", "(I)I"⟩
abbrev cX1_can : ByteArray := prog_3_method_10_code
def yX1_can : MethodName := ⟨RX1, "can", "(II)Z"⟩
abbrev cX1_deliver : ByteArray := prog_3_method_11_code
def yX1_deliver : MethodName := ⟨RX1, "deliver", "(II)V"⟩
abbrev cX1_look : ByteArray := prog_3_method_12_code
def yX1_look : MethodName := ⟨RX1, "look", "()I"⟩
abbrev cX1_end : ByteArray := prog_3_method_13_code
def yX1_end : MethodName := ⟨RX1, "end", "(I)V"⟩
abbrev cX1_addDevice : ByteArray := prog_3_method_14_code
def yX1_addDevice : MethodName := ⟨RX1, "addDevice", "(II)I"⟩
abbrev cX1_setOnline : ByteArray := prog_3_method_15_code
def yX1_setOnline : MethodName := ⟨RX1, "setOnline", "(IZ)I"⟩
abbrev cX1_setDozing : ByteArray := prog_3_method_16_code
def yX1_setDozing : MethodName := ⟨RX1, "setDozing", "(IZ)I"⟩
abbrev cX1_setQuiet : ByteArray := prog_3_method_17_code
def yX1_setQuiet : MethodName := ⟨RX1, "setQuiet", "(III)I"⟩
abbrev cX1_join : ByteArray := prog_3_method_18_code
def yX1_join : MethodName := ⟨RX1, "join", "(IIZ)Z"⟩
abbrev cX1_countWaiting : ByteArray := prog_3_method_19_code
def yX1_countWaiting : MethodName := ⟨RX1, "countWaiting", "(I)I"⟩
abbrev cX1_kill : ByteArray := prog_3_method_20_code
def yX1_kill : MethodName := ⟨RX1, "kill", "(I)I"⟩
abbrev cX1_devices : ByteArray := prog_3_method_21_code
def yX1_devices : MethodName := ⟨RX1, "devices", "()I"⟩
abbrev cX1_isQuiet : ByteArray := prog_3_method_22_code
def yX1_isQuiet : MethodName := ⟨RX1, "isQuiet", "(I)Z"⟩
abbrev cX1_standingNow : ByteArray := prog_3_method_23_code
def yX1_standingNow : MethodName := ⟨RX1, "standingNow", "(II)I"⟩
abbrev cX1_add : ByteArray := prog_3_method_24_code
def yX1_add : MethodName := ⟨RX1, "add", "(IIZII)I"⟩
abbrev cX1_send : ByteArray := prog_3_method_25_code
def yX1_send : MethodName := ⟨RX1, "send", "(IIZI)I"⟩
abbrev cX1_sendBy : ByteArray := prog_3_method_26_code
def yX1_sendBy : MethodName := ⟨RX1, "sendBy", "(IIIZI)I"⟩
abbrev cX1_bits : ByteArray := prog_3_method_27_code
def yX1_bits : MethodName := ⟨RX1, "bits", "(I)I"⟩
abbrev cX1_read : ByteArray := prog_3_method_28_code
def yX1_read : MethodName := ⟨RX1, "read", "(II)I"⟩
abbrev cX1_sent : ByteArray := prog_3_method_29_code
def yX1_sent : MethodName := ⟨RX1, "sent", "()I"⟩
abbrev cX1_noNotice : ByteArray := prog_3_method_30_code
def yX1_noNotice : MethodName := ⟨RX1, "noNotice", "(I)Z"⟩
abbrev cX1_stands : ByteArray := prog_3_method_31_code
def yX1_stands : MethodName := ⟨RX1, "stands", "(I)Z"⟩
abbrev cX1_waitsFor : ByteArray := prog_3_method_32_code
def yX1_waitsFor : MethodName := ⟨RX1, "waitsFor", "(I)I"⟩
abbrev cX1_deliveredTo : ByteArray := prog_3_method_33_code
def yX1_deliveredTo : MethodName := ⟨RX1, "deliveredTo", "(I)I"⟩
abbrev cX1_standing : ByteArray := prog_3_method_34_code
def yX1_standing : MethodName := ⟨RX1, "standing", "(II)I"⟩
abbrev cX1_badge : ByteArray := prog_3_method_35_code
def yX1_badge : MethodName := ⟨RX1, "badge", "(I)I"⟩
abbrev cX1_waiting : ByteArray := prog_3_method_36_code
def yX1_waiting : MethodName := ⟨RX1, "waiting", "(I)I"⟩
abbrev cX1_quota : ByteArray := prog_3_method_37_code
def yX1_quota : MethodName := ⟨RX1, "quota", "(I)I"⟩
abbrev cX1_pass : ByteArray := prog_3_method_38_code
def yX1_pass : MethodName := ⟨RX1, "pass", "(I)I"⟩
abbrev cX1_clock : ByteArray := prog_3_method_39_code
def yX1_clock : MethodName := ⟨RX1, "clock", "()I"⟩
abbrev cX1_deliveries : ByteArray := prog_3_method_40_code
def yX1_deliveries : MethodName := ⟨RX1, "deliveries", "()I"⟩
def RJ6 : String := "java/lang/Integer"
def TJ6 : u_T := fun k => match k with
  | _ => ("", "", "", false)
def tyJ6 : Nat → FieldType := fun k => match k with
  | _ => .int
abbrev wsJ60 : List Cond := u_ws RJ6 TJ6 0
theorem nmJ6 : ∀ a, a < 0 → ∀ b, b < 0 → a ≠ b → (TJ6 a).2.1 ≠ (TJ6 b).2.1 := by decide +kernel
theorem tyJ6_ok : ∀ k, k < 0 → parseFieldDescriptor (TJ6 k).2.2.1 = some (tyJ6 k) := by decide +kernel
abbrev cJ6_bitCount_0f7a4 : ByteArray := prog_8_method_49_code
def yJ6_bitCount_0f7a4 : MethodName := ⟨RJ6, "bitCount", "(I)I"⟩
def RJ9 : String := "java/lang/Math"
def TJ9 : u_T := fun k => match k with
  | _ => ("", "", "", false)
def tyJ9 : Nat → FieldType := fun k => match k with
  | _ => .int
abbrev wsJ90 : List Cond := u_ws RJ9 TJ9 0
theorem nmJ9 : ∀ a, a < 0 → ∀ b, b < 0 → a ≠ b → (TJ9 a).2.1 ≠ (TJ9 b).2.1 := by decide +kernel
theorem tyJ9_ok : ∀ k, k < 0 → parseFieldDescriptor (TJ9 k).2.2.1 = some (tyJ9 k) := by decide +kernel
abbrev cJ9_floorMod_7cf53 : ByteArray := prog_9_method_50_code
def yJ9_floorMod_7cf53 : MethodName := ⟨RJ9, "floorMod", "(II)I"⟩
abbrev cJ9_min_7cf53 : ByteArray := prog_9_method_69_code
def yJ9_min_7cf53 : MethodName := ⟨RJ9, "min", "(II)I"⟩
def RJ0 : String := "java/lang/String"
def TJ0 : u_T := fun k => match k with
  | _ => ("", "", "", false)
def tyJ0 : Nat → FieldType := fun k => match k with
  | _ => .int
abbrev wsJ00 : List Cond := u_ws RJ0 TJ0 0
theorem nmJ0 : ∀ a, a < 0 → ∀ b, b < 0 → a ≠ b → (TJ0 a).2.1 ≠ (TJ0 b).2.1 := by decide +kernel
theorem tyJ0_ok : ∀ k, k < 0 → parseFieldDescriptor (TJ0 k).2.2.1 = some (tyJ0 k) := by decide +kernel
def RL : String := "PushNoticesLaw"
abbrev cL_addDevice : ByteArray := method_3_code
def yL_addDevice : MethodName := ⟨RL, "addDevice", "(LPushNotices;II[J)I"⟩
abbrev cL_setOnline : ByteArray := method_4_code
def yL_setOnline : MethodName := ⟨RL, "setOnline", "(LPushNotices;IZ[J)I"⟩
abbrev cL_setDozing : ByteArray := method_5_code
def yL_setDozing : MethodName := ⟨RL, "setDozing", "(LPushNotices;IZ[J)I"⟩
abbrev cL_setQuiet : ByteArray := method_6_code
def yL_setQuiet : MethodName := ⟨RL, "setQuiet", "(LPushNotices;III[J)I"⟩
abbrev cL_join : ByteArray := method_7_code
def yL_join : MethodName := ⟨RL, "join", "(LPushNotices;IIZ[J)I"⟩
abbrev cL_kill : ByteArray := method_8_code
def yL_kill : MethodName := ⟨RL, "kill", "(LPushNotices;I[J)I"⟩
abbrev cL_isQuiet : ByteArray := method_9_code
def yL_isQuiet : MethodName := ⟨RL, "isQuiet", "(LPushNotices;I[J)I"⟩
abbrev cL_send : ByteArray := method_10_code
def yL_send : MethodName := ⟨RL, "send", "(LPushNotices;IIZI[J)I"⟩
abbrev cL_sendBy : ByteArray := method_11_code
def yL_sendBy : MethodName := ⟨RL, "sendBy", "(LPushNotices;IIIZI[J)I"⟩
abbrev cL_read : ByteArray := method_12_code
def yL_read : MethodName := ⟨RL, "read", "(LPushNotices;II[J)I"⟩
abbrev cL_stands : ByteArray := method_13_code
def yL_stands : MethodName := ⟨RL, "stands", "(LPushNotices;I[J)I"⟩
abbrev cL_waitsFor : ByteArray := method_14_code
def yL_waitsFor : MethodName := ⟨RL, "waitsFor", "(LPushNotices;I[J)I"⟩
abbrev cL_deliveredTo : ByteArray := method_15_code
def yL_deliveredTo : MethodName := ⟨RL, "deliveredTo", "(LPushNotices;I[J)I"⟩
abbrev cL_standing : ByteArray := method_16_code
def yL_standing : MethodName := ⟨RL, "standing", "(LPushNotices;II[J)I"⟩
abbrev cL_badge : ByteArray := method_17_code
def yL_badge : MethodName := ⟨RL, "badge", "(LPushNotices;I[J)I"⟩
abbrev cL_waiting : ByteArray := method_18_code
def yL_waiting : MethodName := ⟨RL, "waiting", "(LPushNotices;I[J)I"⟩
abbrev cL_quota : ByteArray := method_19_code
def yL_quota : MethodName := ⟨RL, "quota", "(LPushNotices;I[J)I"⟩
abbrev cL_pass : ByteArray := method_20_code
def yL_pass : MethodName := ⟨RL, "pass", "(LPushNotices;I[J)I"⟩
abbrev cL_law : ByteArray := code
def yL_law : MethodName := ⟨RL, "law", "([I)Z"⟩
def wsX0_init : List Cond := .code yX0_init cX0_init 2 none :: ([.methodLink RX0 1 objectInit, .instanceMethod objectInit, .code objectInit ⟨#[0xb1]⟩ 1 none, .arrayClass .int, .fieldLink RX0 9 "PushNotices" "devicesOfUser" "[I", .fieldLink RX0 13 "PushNotices" "devicesOfTopic" "[I", .fieldLink RX0 16 "PushNotices" "alive" "I", .fieldLink RX0 20 "PushNotices" "online" "I", .fieldLink RX0 23 "PushNotices" "dozing" "I", .fieldLink RX0 26 "PushNotices" "zoneOffset" "[I", .fieldLink RX0 29 "PushNotices" "quietFrom" "[I", .fieldLink RX0 32 "PushNotices" "quietTo" "[I", .fieldLink RX0 35 "PushNotices" "quotaDay" "[I", .fieldLink RX0 38 "PushNotices" "quotaSpent" "[I", .fieldLink RX0 41 "PushNotices" "deviceCount" "I", .arrayClass .boolean, .fieldLink RX0 44 "PushNotices" "isHighNotice" "[Z", .fieldLink RX0 48 "PushNotices" "fallsAt" "[I", .fieldLink RX0 51 "PushNotices" "waitSet" "[I", .fieldLink RX0 54 "PushNotices" "deliveredSet" "[I", .fieldLink RX0 57 "PushNotices" "lastWithKey" "[I", .fieldLink RX0 60 "PushNotices" "noticeCount" "I", .fieldLink RX0 63 "PushNotices" "minute" "I", .fieldLink RX0 66 "PushNotices" "deliveryCount" "I"] ++ wsX00)
def wsX0_requireWithin : List Cond := .code yX0_requireWithin cX0_requireWithin 3 none :: ([.classLink RX0 161 "java/lang/IllegalArgumentException", .initialized "java/lang/IllegalArgumentException"] ++ (vx_atS RX0 165 "java/lang/IllegalArgumentException" ["java/lang/RuntimeException", "java/lang/Exception"]).filter goodWord)
def wsX0_bitOf : List Cond := .code yX0_bitOf cX0_bitOf 1 (some .int) :: ([])
def wsX0_addDevice : List Cond := .code yX0_addDevice cX0_addDevice 4 (some .int) :: ([.classLink RX0 73 "java/lang/IllegalStateException", .initialized "java/lang/IllegalStateException", .fieldLink RX0 41 "PushNotices" "deviceCount" "I", .fieldLink RX0 26 "PushNotices" "zoneOffset" "[I", .fieldLink RX0 9 "PushNotices" "devicesOfUser" "[I", .fieldLink RX0 16 "PushNotices" "alive" "I", .fieldLink RX0 20 "PushNotices" "online" "I", .methodLink RX0 69 yX0_requireWithin, .static yX0_requireWithin, .initialized RX0, .code yX0_requireWithin cX0_requireWithin 3 none, .classLink RX0 161 "java/lang/IllegalArgumentException", .initialized "java/lang/IllegalArgumentException", .methodLink RX0 80 yX0_bitOf, .static yX0_bitOf, .code yX0_bitOf cX0_bitOf 1 (some .int)] ++ wsX00 ++ (vx_atS RX0 77 "java/lang/IllegalStateException" ["java/lang/RuntimeException", "java/lang/Exception"]).filter goodWord ++ (vx_atS RX0 165 "java/lang/IllegalArgumentException" ["java/lang/RuntimeException", "java/lang/Exception"]).filter goodWord)
def wsX0_requireDevice : List Cond := .code yX0_requireDevice cX0_requireDevice 2 none :: ([.classLink RX0 166 "java/lang/IndexOutOfBoundsException", .initialized "java/lang/IndexOutOfBoundsException", .fieldLink RX0 41 "PushNotices" "deviceCount" "I"] ++ wsX00 ++ (vx_atS RX0 170 "java/lang/IndexOutOfBoundsException" ["java/lang/RuntimeException", "java/lang/Exception"]).filter goodWord)
def wsX0_changed : List Cond := .code yX0_changed cX0_changed 3 (some .int) :: ([.methodLink RX0 80 yX0_bitOf, .static yX0_bitOf, .initialized RX0, .code yX0_bitOf cX0_bitOf 1 (some .int)])
def wsJ9_floorMod_7cf53 : List Cond := .code yJ9_floorMod_7cf53 cJ9_floorMod_7cf53 3 (some .int) :: ([])
def wsX0_localTime : List Cond := .code yX0_localTime cX0_localTime 2 (some .int) :: ([.fieldLink RX0 63 "PushNotices" "minute" "I", .fieldLink RX0 26 "PushNotices" "zoneOffset" "[I", .methodLink RX0 175 yJ9_floorMod_7cf53, .static yJ9_floorMod_7cf53, .initialized RJ9, .code yJ9_floorMod_7cf53 cJ9_floorMod_7cf53 3 (some .int)] ++ wsX00)
def wsX0_isInQuietHours : List Cond := .code yX0_isInQuietHours cX0_isInQuietHours 4 (some .boolean) :: ([.fieldLink RX0 29 "PushNotices" "quietFrom" "[I", .fieldLink RX0 32 "PushNotices" "quietTo" "[I", .methodLink RX0 178 yX0_localTime, .instanceMethod yX0_localTime, .selects RX0 yX0_localTime yX0_localTime, .initialized RX0, .code yX0_localTime cX0_localTime 2 (some .int), .fieldLink RX0 63 "PushNotices" "minute" "I", .fieldLink RX0 26 "PushNotices" "zoneOffset" "[I", .methodLink RX0 175 yJ9_floorMod_7cf53, .static yJ9_floorMod_7cf53, .initialized RJ9, .code yJ9_floorMod_7cf53 cJ9_floorMod_7cf53 3 (some .int)] ++ wsX00)
def wsX0_openToNormal_r1 : List Cond := [Cond.fieldLink RX0 63 "PushNotices" "minute" "I", Cond.fieldLink RX0 20 "PushNotices" "online" "I", Cond.fieldLink RX0 23 "PushNotices" "dozing" "I", Cond.fieldLink RX0 41 "PushNotices" "deviceCount" "I", Cond.methodLink RX0 105 yX0_isInQuietHours, Cond.instanceMethod yX0_isInQuietHours, Cond.selects RX0 yX0_isInQuietHours yX0_isInQuietHours, Cond.initialized RX0, Cond.code yX0_isInQuietHours cX0_isInQuietHours 4 (some .boolean), Cond.fieldLink RX0 29 "PushNotices" "quietFrom" "[I", Cond.fieldLink RX0 32 "PushNotices" "quietTo" "[I", Cond.methodLink RX0 178 yX0_localTime, Cond.instanceMethod yX0_localTime, Cond.selects RX0 yX0_localTime yX0_localTime, Cond.code yX0_localTime cX0_localTime 2 (some .int), Cond.fieldLink RX0 26 "PushNotices" "zoneOffset" "[I", Cond.methodLink RX0 175 yJ9_floorMod_7cf53, Cond.static yJ9_floorMod_7cf53, Cond.initialized RJ9, Cond.code yJ9_floorMod_7cf53 cJ9_floorMod_7cf53 3 (some .int), Cond.methodLink RX0 88 yX0_changed, Cond.static yX0_changed, Cond.code yX0_changed cX0_changed 3 (some .int), Cond.methodLink RX0 80 yX0_bitOf]
def wsX0_openToNormal_r2 : List Cond := [Cond.static yX0_bitOf, Cond.code yX0_bitOf cX0_bitOf 1 (some .int)]
def wsX0_openToNormal : List Cond := .code yX0_openToNormal cX0_openToNormal 3 (some .int) :: ((wsX0_openToNormal_r1 ++ wsX0_openToNormal_r2) ++ wsX00)
def wsX0_isStanding : List Cond := .code yX0_isStanding cX0_isStanding 2 (some .boolean) :: ([.fieldLink RX0 63 "PushNotices" "minute" "I", .fieldLink RX0 48 "PushNotices" "fallsAt" "[I"] ++ wsX00)
def wsX0_waitsNow : List Cond := .code yX0_waitsNow cX0_waitsNow 2 (some .int) :: ([.fieldLink RX0 51 "PushNotices" "waitSet" "[I", .methodLink RX0 127 yX0_isStanding, .instanceMethod yX0_isStanding, .selects RX0 yX0_isStanding yX0_isStanding, .initialized RX0, .code yX0_isStanding cX0_isStanding 2 (some .boolean), .fieldLink RX0 63 "PushNotices" "minute" "I", .fieldLink RX0 48 "PushNotices" "fallsAt" "[I"] ++ wsX00)
def wsX0_has : List Cond := .code yX0_has cX0_has 2 (some .boolean) :: ([.methodLink RX0 80 yX0_bitOf, .static yX0_bitOf, .initialized RX0, .code yX0_bitOf cX0_bitOf 1 (some .int)])
def wsX0_spentToday : List Cond := .code yX0_spentToday cX0_spentToday 2 (some .int) :: ([.fieldLink RX0 35 "PushNotices" "quotaDay" "[I", .fieldLink RX0 63 "PushNotices" "minute" "I", .fieldLink RX0 38 "PushNotices" "quotaSpent" "[I"] ++ wsX00)
def wsX0_openToHigh : List Cond := .code yX0_openToHigh cX0_openToHigh 3 (some .int) :: ([.fieldLink RX0 20 "PushNotices" "online" "I", .fieldLink RX0 41 "PushNotices" "deviceCount" "I", .fieldLink RX0 23 "PushNotices" "dozing" "I", .methodLink RX0 96 yX0_has, .static yX0_has, .initialized RX0, .code yX0_has cX0_has 2 (some .boolean), .methodLink RX0 80 yX0_bitOf, .static yX0_bitOf, .code yX0_bitOf cX0_bitOf 1 (some .int), .methodLink RX0 147 yX0_spentToday, .instanceMethod yX0_spentToday, .selects RX0 yX0_spentToday yX0_spentToday, .code yX0_spentToday cX0_spentToday 2 (some .int), .fieldLink RX0 35 "PushNotices" "quotaDay" "[I", .fieldLink RX0 63 "PushNotices" "minute" "I", .fieldLink RX0 38 "PushNotices" "quotaSpent" "[I", .methodLink RX0 88 yX0_changed, .static yX0_changed, .code yX0_changed cX0_changed 3 (some .int)] ++ wsX00)
def wsJ6_bitCount_0f7a4 : List Cond := .code yJ6_bitCount_0f7a4 cJ6_bitCount_0f7a4 1 (some .int) :: ([.constant RJ6 265 (1431655765), .constant RJ6 266 (858993459), .constant RJ6 267 (252645135)])
def wsX0_spendQuota : List Cond := .code yX0_spendQuota cX0_spendQuota 3 none :: ([.fieldLink RX0 41 "PushNotices" "deviceCount" "I", .fieldLink RX0 38 "PushNotices" "quotaSpent" "[I", .fieldLink RX0 35 "PushNotices" "quotaDay" "[I", .fieldLink RX0 63 "PushNotices" "minute" "I", .methodLink RX0 96 yX0_has, .static yX0_has, .initialized RX0, .code yX0_has cX0_has 2 (some .boolean), .methodLink RX0 80 yX0_bitOf, .static yX0_bitOf, .code yX0_bitOf cX0_bitOf 1 (some .int), .methodLink RX0 147 yX0_spentToday, .instanceMethod yX0_spentToday, .selects RX0 yX0_spentToday yX0_spentToday, .code yX0_spentToday cX0_spentToday 2 (some .int)] ++ wsX00)
def wsX0_deliver_r1 : List Cond := [Cond.fieldLink RX0 51 "PushNotices" "waitSet" "[I", Cond.fieldLink RX0 54 "PushNotices" "deliveredSet" "[I", Cond.fieldLink RX0 66 "PushNotices" "deliveryCount" "I", Cond.fieldLink RX0 44 "PushNotices" "isHighNotice" "[Z", Cond.fieldLink RX0 23 "PushNotices" "dozing" "I", Cond.methodLink RX0 135 yJ6_bitCount_0f7a4, Cond.static yJ6_bitCount_0f7a4, Cond.initialized RJ6, Cond.code yJ6_bitCount_0f7a4 cJ6_bitCount_0f7a4 1 (some .int), Cond.constant RJ6 265 (1431655765), Cond.constant RJ6 266 (858993459), Cond.constant RJ6 267 (252645135), Cond.methodLink RX0 190 yX0_spendQuota, Cond.instanceMethod yX0_spendQuota, Cond.selects RX0 yX0_spendQuota yX0_spendQuota, Cond.initialized RX0, Cond.code yX0_spendQuota cX0_spendQuota 3 none, Cond.fieldLink RX0 41 "PushNotices" "deviceCount" "I", Cond.fieldLink RX0 38 "PushNotices" "quotaSpent" "[I", Cond.fieldLink RX0 35 "PushNotices" "quotaDay" "[I", Cond.fieldLink RX0 63 "PushNotices" "minute" "I", Cond.methodLink RX0 96 yX0_has, Cond.static yX0_has, Cond.code yX0_has cX0_has 2 (some .boolean)]
def wsX0_deliver_r2 : List Cond := [Cond.methodLink RX0 80 yX0_bitOf, Cond.static yX0_bitOf, Cond.code yX0_bitOf cX0_bitOf 1 (some .int), Cond.methodLink RX0 147 yX0_spentToday, Cond.instanceMethod yX0_spentToday, Cond.selects RX0 yX0_spentToday yX0_spentToday, Cond.code yX0_spentToday cX0_spentToday 2 (some .int)]
def wsX0_deliver : List Cond := .code yX0_deliver cX0_deliver 3 none :: ((wsX0_deliver_r1 ++ wsX0_deliver_r2) ++ wsX00)
def wsX0_deliverNow_r1 : List Cond := [Cond.fieldLink RX0 66 "PushNotices" "deliveryCount" "I", Cond.fieldLink RX0 60 "PushNotices" "noticeCount" "I", Cond.fieldLink RX0 44 "PushNotices" "isHighNotice" "[Z", Cond.methodLink RX0 181 yX0_openToNormal, Cond.instanceMethod yX0_openToNormal, Cond.selects RX0 yX0_openToNormal yX0_openToNormal, Cond.initialized RX0, Cond.code yX0_openToNormal cX0_openToNormal 3 (some .int), Cond.fieldLink RX0 63 "PushNotices" "minute" "I", Cond.fieldLink RX0 20 "PushNotices" "online" "I", Cond.fieldLink RX0 23 "PushNotices" "dozing" "I", Cond.fieldLink RX0 41 "PushNotices" "deviceCount" "I", Cond.methodLink RX0 105 yX0_isInQuietHours, Cond.instanceMethod yX0_isInQuietHours, Cond.selects RX0 yX0_isInQuietHours yX0_isInQuietHours, Cond.code yX0_isInQuietHours cX0_isInQuietHours 4 (some .boolean), Cond.fieldLink RX0 29 "PushNotices" "quietFrom" "[I", Cond.fieldLink RX0 32 "PushNotices" "quietTo" "[I", Cond.methodLink RX0 178 yX0_localTime, Cond.instanceMethod yX0_localTime, Cond.selects RX0 yX0_localTime yX0_localTime, Cond.code yX0_localTime cX0_localTime 2 (some .int), Cond.fieldLink RX0 26 "PushNotices" "zoneOffset" "[I", Cond.methodLink RX0 175 yJ9_floorMod_7cf53]
def wsX0_deliverNow_r2 : List Cond := [Cond.static yJ9_floorMod_7cf53, Cond.initialized RJ9, Cond.code yJ9_floorMod_7cf53 cJ9_floorMod_7cf53 3 (some .int), Cond.methodLink RX0 88 yX0_changed, Cond.static yX0_changed, Cond.code yX0_changed cX0_changed 3 (some .int), Cond.methodLink RX0 80 yX0_bitOf, Cond.static yX0_bitOf, Cond.code yX0_bitOf cX0_bitOf 1 (some .int), Cond.methodLink RX0 132 yX0_waitsNow, Cond.instanceMethod yX0_waitsNow, Cond.selects RX0 yX0_waitsNow yX0_waitsNow, Cond.code yX0_waitsNow cX0_waitsNow 2 (some .int), Cond.fieldLink RX0 51 "PushNotices" "waitSet" "[I", Cond.methodLink RX0 127 yX0_isStanding, Cond.instanceMethod yX0_isStanding, Cond.selects RX0 yX0_isStanding yX0_isStanding, Cond.code yX0_isStanding cX0_isStanding 2 (some .boolean), Cond.fieldLink RX0 48 "PushNotices" "fallsAt" "[I", Cond.methodLink RX0 184 yX0_openToHigh, Cond.instanceMethod yX0_openToHigh, Cond.selects RX0 yX0_openToHigh yX0_openToHigh, Cond.code yX0_openToHigh cX0_openToHigh 3 (some .int), Cond.methodLink RX0 96 yX0_has]
def wsX0_deliverNow_r3 : List Cond := [Cond.static yX0_has, Cond.code yX0_has cX0_has 2 (some .boolean), Cond.methodLink RX0 147 yX0_spentToday, Cond.instanceMethod yX0_spentToday, Cond.selects RX0 yX0_spentToday yX0_spentToday, Cond.code yX0_spentToday cX0_spentToday 2 (some .int), Cond.fieldLink RX0 35 "PushNotices" "quotaDay" "[I", Cond.fieldLink RX0 38 "PushNotices" "quotaSpent" "[I", Cond.methodLink RX0 187 yX0_deliver, Cond.instanceMethod yX0_deliver, Cond.selects RX0 yX0_deliver yX0_deliver, Cond.code yX0_deliver cX0_deliver 3 none, Cond.fieldLink RX0 54 "PushNotices" "deliveredSet" "[I", Cond.methodLink RX0 135 yJ6_bitCount_0f7a4, Cond.static yJ6_bitCount_0f7a4, Cond.initialized RJ6, Cond.code yJ6_bitCount_0f7a4 cJ6_bitCount_0f7a4 1 (some .int), Cond.constant RJ6 265 (1431655765), Cond.constant RJ6 266 (858993459), Cond.constant RJ6 267 (252645135), Cond.methodLink RX0 190 yX0_spendQuota, Cond.instanceMethod yX0_spendQuota, Cond.selects RX0 yX0_spendQuota yX0_spendQuota, Cond.code yX0_spendQuota cX0_spendQuota 3 none]
def wsX0_deliverNow : List Cond := .code yX0_deliverNow cX0_deliverNow 5 (some .int) :: ((wsX0_deliverNow_r1 ++ (wsX0_deliverNow_r2 ++ wsX0_deliverNow_r3)) ++ wsX00)
def wsX0_setOnline_r1 : List Cond := [Cond.fieldLink RX0 20 "PushNotices" "online" "I", Cond.methodLink RX0 84 yX0_requireDevice, Cond.instanceMethod yX0_requireDevice, Cond.selects RX0 yX0_requireDevice yX0_requireDevice, Cond.initialized RX0, Cond.code yX0_requireDevice cX0_requireDevice 2 none, Cond.classLink RX0 166 "java/lang/IndexOutOfBoundsException", Cond.initialized "java/lang/IndexOutOfBoundsException", Cond.fieldLink RX0 41 "PushNotices" "deviceCount" "I", Cond.methodLink RX0 88 yX0_changed, Cond.static yX0_changed, Cond.code yX0_changed cX0_changed 3 (some .int), Cond.methodLink RX0 80 yX0_bitOf, Cond.static yX0_bitOf, Cond.code yX0_bitOf cX0_bitOf 1 (some .int), Cond.methodLink RX0 92 yX0_deliverNow, Cond.instanceMethod yX0_deliverNow, Cond.selects RX0 yX0_deliverNow yX0_deliverNow, Cond.code yX0_deliverNow cX0_deliverNow 5 (some .int), Cond.fieldLink RX0 66 "PushNotices" "deliveryCount" "I", Cond.fieldLink RX0 60 "PushNotices" "noticeCount" "I", Cond.fieldLink RX0 44 "PushNotices" "isHighNotice" "[Z", Cond.methodLink RX0 181 yX0_openToNormal, Cond.instanceMethod yX0_openToNormal]
def wsX0_setOnline_r2 : List Cond := [Cond.selects RX0 yX0_openToNormal yX0_openToNormal, Cond.code yX0_openToNormal cX0_openToNormal 3 (some .int), Cond.fieldLink RX0 63 "PushNotices" "minute" "I", Cond.fieldLink RX0 23 "PushNotices" "dozing" "I", Cond.methodLink RX0 105 yX0_isInQuietHours, Cond.instanceMethod yX0_isInQuietHours, Cond.selects RX0 yX0_isInQuietHours yX0_isInQuietHours, Cond.code yX0_isInQuietHours cX0_isInQuietHours 4 (some .boolean), Cond.fieldLink RX0 29 "PushNotices" "quietFrom" "[I", Cond.fieldLink RX0 32 "PushNotices" "quietTo" "[I", Cond.methodLink RX0 178 yX0_localTime, Cond.instanceMethod yX0_localTime, Cond.selects RX0 yX0_localTime yX0_localTime, Cond.code yX0_localTime cX0_localTime 2 (some .int), Cond.fieldLink RX0 26 "PushNotices" "zoneOffset" "[I", Cond.methodLink RX0 175 yJ9_floorMod_7cf53, Cond.static yJ9_floorMod_7cf53, Cond.initialized RJ9, Cond.code yJ9_floorMod_7cf53 cJ9_floorMod_7cf53 3 (some .int), Cond.methodLink RX0 132 yX0_waitsNow, Cond.instanceMethod yX0_waitsNow, Cond.selects RX0 yX0_waitsNow yX0_waitsNow, Cond.code yX0_waitsNow cX0_waitsNow 2 (some .int), Cond.fieldLink RX0 51 "PushNotices" "waitSet" "[I"]
def wsX0_setOnline_r3 : List Cond := [Cond.methodLink RX0 127 yX0_isStanding, Cond.instanceMethod yX0_isStanding, Cond.selects RX0 yX0_isStanding yX0_isStanding, Cond.code yX0_isStanding cX0_isStanding 2 (some .boolean), Cond.fieldLink RX0 48 "PushNotices" "fallsAt" "[I", Cond.methodLink RX0 184 yX0_openToHigh, Cond.instanceMethod yX0_openToHigh, Cond.selects RX0 yX0_openToHigh yX0_openToHigh, Cond.code yX0_openToHigh cX0_openToHigh 3 (some .int), Cond.methodLink RX0 96 yX0_has, Cond.static yX0_has, Cond.code yX0_has cX0_has 2 (some .boolean), Cond.methodLink RX0 147 yX0_spentToday, Cond.instanceMethod yX0_spentToday, Cond.selects RX0 yX0_spentToday yX0_spentToday, Cond.code yX0_spentToday cX0_spentToday 2 (some .int), Cond.fieldLink RX0 35 "PushNotices" "quotaDay" "[I", Cond.fieldLink RX0 38 "PushNotices" "quotaSpent" "[I", Cond.methodLink RX0 187 yX0_deliver, Cond.instanceMethod yX0_deliver, Cond.selects RX0 yX0_deliver yX0_deliver, Cond.code yX0_deliver cX0_deliver 3 none, Cond.fieldLink RX0 54 "PushNotices" "deliveredSet" "[I", Cond.methodLink RX0 135 yJ6_bitCount_0f7a4]
def wsX0_setOnline_r4 : List Cond := [Cond.static yJ6_bitCount_0f7a4, Cond.initialized RJ6, Cond.code yJ6_bitCount_0f7a4 cJ6_bitCount_0f7a4 1 (some .int), Cond.constant RJ6 265 (1431655765), Cond.constant RJ6 266 (858993459), Cond.constant RJ6 267 (252645135), Cond.methodLink RX0 190 yX0_spendQuota, Cond.instanceMethod yX0_spendQuota, Cond.selects RX0 yX0_spendQuota yX0_spendQuota, Cond.code yX0_spendQuota cX0_spendQuota 3 none]
def wsX0_setOnline : List Cond := .code yX0_setOnline cX0_setOnline 3 (some .int) :: ((wsX0_setOnline_r1 ++ (wsX0_setOnline_r2 ++ (wsX0_setOnline_r3 ++ wsX0_setOnline_r4))) ++ wsX00 ++ (vx_atS RX0 170 "java/lang/IndexOutOfBoundsException" ["java/lang/RuntimeException", "java/lang/Exception"]).filter goodWord)
def wsX0_setDozing_r1 : List Cond := [Cond.fieldLink RX0 23 "PushNotices" "dozing" "I", Cond.methodLink RX0 84 yX0_requireDevice, Cond.instanceMethod yX0_requireDevice, Cond.selects RX0 yX0_requireDevice yX0_requireDevice, Cond.initialized RX0, Cond.code yX0_requireDevice cX0_requireDevice 2 none, Cond.classLink RX0 166 "java/lang/IndexOutOfBoundsException", Cond.initialized "java/lang/IndexOutOfBoundsException", Cond.fieldLink RX0 41 "PushNotices" "deviceCount" "I", Cond.methodLink RX0 88 yX0_changed, Cond.static yX0_changed, Cond.code yX0_changed cX0_changed 3 (some .int), Cond.methodLink RX0 80 yX0_bitOf, Cond.static yX0_bitOf, Cond.code yX0_bitOf cX0_bitOf 1 (some .int), Cond.methodLink RX0 92 yX0_deliverNow, Cond.instanceMethod yX0_deliverNow, Cond.selects RX0 yX0_deliverNow yX0_deliverNow, Cond.code yX0_deliverNow cX0_deliverNow 5 (some .int), Cond.fieldLink RX0 66 "PushNotices" "deliveryCount" "I", Cond.fieldLink RX0 60 "PushNotices" "noticeCount" "I", Cond.fieldLink RX0 44 "PushNotices" "isHighNotice" "[Z", Cond.methodLink RX0 181 yX0_openToNormal, Cond.instanceMethod yX0_openToNormal]
def wsX0_setDozing_r2 : List Cond := [Cond.selects RX0 yX0_openToNormal yX0_openToNormal, Cond.code yX0_openToNormal cX0_openToNormal 3 (some .int), Cond.fieldLink RX0 63 "PushNotices" "minute" "I", Cond.fieldLink RX0 20 "PushNotices" "online" "I", Cond.methodLink RX0 105 yX0_isInQuietHours, Cond.instanceMethod yX0_isInQuietHours, Cond.selects RX0 yX0_isInQuietHours yX0_isInQuietHours, Cond.code yX0_isInQuietHours cX0_isInQuietHours 4 (some .boolean), Cond.fieldLink RX0 29 "PushNotices" "quietFrom" "[I", Cond.fieldLink RX0 32 "PushNotices" "quietTo" "[I", Cond.methodLink RX0 178 yX0_localTime, Cond.instanceMethod yX0_localTime, Cond.selects RX0 yX0_localTime yX0_localTime, Cond.code yX0_localTime cX0_localTime 2 (some .int), Cond.fieldLink RX0 26 "PushNotices" "zoneOffset" "[I", Cond.methodLink RX0 175 yJ9_floorMod_7cf53, Cond.static yJ9_floorMod_7cf53, Cond.initialized RJ9, Cond.code yJ9_floorMod_7cf53 cJ9_floorMod_7cf53 3 (some .int), Cond.methodLink RX0 132 yX0_waitsNow, Cond.instanceMethod yX0_waitsNow, Cond.selects RX0 yX0_waitsNow yX0_waitsNow, Cond.code yX0_waitsNow cX0_waitsNow 2 (some .int), Cond.fieldLink RX0 51 "PushNotices" "waitSet" "[I"]
def wsX0_setDozing_r3 : List Cond := [Cond.methodLink RX0 127 yX0_isStanding, Cond.instanceMethod yX0_isStanding, Cond.selects RX0 yX0_isStanding yX0_isStanding, Cond.code yX0_isStanding cX0_isStanding 2 (some .boolean), Cond.fieldLink RX0 48 "PushNotices" "fallsAt" "[I", Cond.methodLink RX0 184 yX0_openToHigh, Cond.instanceMethod yX0_openToHigh, Cond.selects RX0 yX0_openToHigh yX0_openToHigh, Cond.code yX0_openToHigh cX0_openToHigh 3 (some .int), Cond.methodLink RX0 96 yX0_has, Cond.static yX0_has, Cond.code yX0_has cX0_has 2 (some .boolean), Cond.methodLink RX0 147 yX0_spentToday, Cond.instanceMethod yX0_spentToday, Cond.selects RX0 yX0_spentToday yX0_spentToday, Cond.code yX0_spentToday cX0_spentToday 2 (some .int), Cond.fieldLink RX0 35 "PushNotices" "quotaDay" "[I", Cond.fieldLink RX0 38 "PushNotices" "quotaSpent" "[I", Cond.methodLink RX0 187 yX0_deliver, Cond.instanceMethod yX0_deliver, Cond.selects RX0 yX0_deliver yX0_deliver, Cond.code yX0_deliver cX0_deliver 3 none, Cond.fieldLink RX0 54 "PushNotices" "deliveredSet" "[I", Cond.methodLink RX0 135 yJ6_bitCount_0f7a4]
def wsX0_setDozing_r4 : List Cond := [Cond.static yJ6_bitCount_0f7a4, Cond.initialized RJ6, Cond.code yJ6_bitCount_0f7a4 cJ6_bitCount_0f7a4 1 (some .int), Cond.constant RJ6 265 (1431655765), Cond.constant RJ6 266 (858993459), Cond.constant RJ6 267 (252645135), Cond.methodLink RX0 190 yX0_spendQuota, Cond.instanceMethod yX0_spendQuota, Cond.selects RX0 yX0_spendQuota yX0_spendQuota, Cond.code yX0_spendQuota cX0_spendQuota 3 none]
def wsX0_setDozing : List Cond := .code yX0_setDozing cX0_setDozing 3 (some .int) :: ((wsX0_setDozing_r1 ++ (wsX0_setDozing_r2 ++ (wsX0_setDozing_r3 ++ wsX0_setDozing_r4))) ++ wsX00 ++ (vx_atS RX0 170 "java/lang/IndexOutOfBoundsException" ["java/lang/RuntimeException", "java/lang/Exception"]).filter goodWord)
def wsX0_setQuiet_r1 : List Cond := [Cond.fieldLink RX0 29 "PushNotices" "quietFrom" "[I", Cond.fieldLink RX0 32 "PushNotices" "quietTo" "[I", Cond.methodLink RX0 84 yX0_requireDevice, Cond.instanceMethod yX0_requireDevice, Cond.selects RX0 yX0_requireDevice yX0_requireDevice, Cond.initialized RX0, Cond.code yX0_requireDevice cX0_requireDevice 2 none, Cond.classLink RX0 166 "java/lang/IndexOutOfBoundsException", Cond.initialized "java/lang/IndexOutOfBoundsException", Cond.fieldLink RX0 41 "PushNotices" "deviceCount" "I", Cond.methodLink RX0 69 yX0_requireWithin, Cond.static yX0_requireWithin, Cond.code yX0_requireWithin cX0_requireWithin 3 none, Cond.classLink RX0 161 "java/lang/IllegalArgumentException", Cond.initialized "java/lang/IllegalArgumentException", Cond.methodLink RX0 92 yX0_deliverNow, Cond.instanceMethod yX0_deliverNow, Cond.selects RX0 yX0_deliverNow yX0_deliverNow, Cond.code yX0_deliverNow cX0_deliverNow 5 (some .int), Cond.fieldLink RX0 66 "PushNotices" "deliveryCount" "I", Cond.fieldLink RX0 60 "PushNotices" "noticeCount" "I", Cond.fieldLink RX0 44 "PushNotices" "isHighNotice" "[Z", Cond.methodLink RX0 181 yX0_openToNormal, Cond.instanceMethod yX0_openToNormal]
def wsX0_setQuiet_r2 : List Cond := [Cond.selects RX0 yX0_openToNormal yX0_openToNormal, Cond.code yX0_openToNormal cX0_openToNormal 3 (some .int), Cond.fieldLink RX0 63 "PushNotices" "minute" "I", Cond.fieldLink RX0 20 "PushNotices" "online" "I", Cond.fieldLink RX0 23 "PushNotices" "dozing" "I", Cond.methodLink RX0 105 yX0_isInQuietHours, Cond.instanceMethod yX0_isInQuietHours, Cond.selects RX0 yX0_isInQuietHours yX0_isInQuietHours, Cond.code yX0_isInQuietHours cX0_isInQuietHours 4 (some .boolean), Cond.methodLink RX0 178 yX0_localTime, Cond.instanceMethod yX0_localTime, Cond.selects RX0 yX0_localTime yX0_localTime, Cond.code yX0_localTime cX0_localTime 2 (some .int), Cond.fieldLink RX0 26 "PushNotices" "zoneOffset" "[I", Cond.methodLink RX0 175 yJ9_floorMod_7cf53, Cond.static yJ9_floorMod_7cf53, Cond.initialized RJ9, Cond.code yJ9_floorMod_7cf53 cJ9_floorMod_7cf53 3 (some .int), Cond.methodLink RX0 88 yX0_changed, Cond.static yX0_changed, Cond.code yX0_changed cX0_changed 3 (some .int), Cond.methodLink RX0 80 yX0_bitOf, Cond.static yX0_bitOf, Cond.code yX0_bitOf cX0_bitOf 1 (some .int)]
def wsX0_setQuiet_r3 : List Cond := [Cond.methodLink RX0 132 yX0_waitsNow, Cond.instanceMethod yX0_waitsNow, Cond.selects RX0 yX0_waitsNow yX0_waitsNow, Cond.code yX0_waitsNow cX0_waitsNow 2 (some .int), Cond.fieldLink RX0 51 "PushNotices" "waitSet" "[I", Cond.methodLink RX0 127 yX0_isStanding, Cond.instanceMethod yX0_isStanding, Cond.selects RX0 yX0_isStanding yX0_isStanding, Cond.code yX0_isStanding cX0_isStanding 2 (some .boolean), Cond.fieldLink RX0 48 "PushNotices" "fallsAt" "[I", Cond.methodLink RX0 184 yX0_openToHigh, Cond.instanceMethod yX0_openToHigh, Cond.selects RX0 yX0_openToHigh yX0_openToHigh, Cond.code yX0_openToHigh cX0_openToHigh 3 (some .int), Cond.methodLink RX0 96 yX0_has, Cond.static yX0_has, Cond.code yX0_has cX0_has 2 (some .boolean), Cond.methodLink RX0 147 yX0_spentToday, Cond.instanceMethod yX0_spentToday, Cond.selects RX0 yX0_spentToday yX0_spentToday, Cond.code yX0_spentToday cX0_spentToday 2 (some .int), Cond.fieldLink RX0 35 "PushNotices" "quotaDay" "[I", Cond.fieldLink RX0 38 "PushNotices" "quotaSpent" "[I", Cond.methodLink RX0 187 yX0_deliver]
def wsX0_setQuiet_r4 : List Cond := [Cond.instanceMethod yX0_deliver, Cond.selects RX0 yX0_deliver yX0_deliver, Cond.code yX0_deliver cX0_deliver 3 none, Cond.fieldLink RX0 54 "PushNotices" "deliveredSet" "[I", Cond.methodLink RX0 135 yJ6_bitCount_0f7a4, Cond.static yJ6_bitCount_0f7a4, Cond.initialized RJ6, Cond.code yJ6_bitCount_0f7a4 cJ6_bitCount_0f7a4 1 (some .int), Cond.constant RJ6 265 (1431655765), Cond.constant RJ6 266 (858993459), Cond.constant RJ6 267 (252645135), Cond.methodLink RX0 190 yX0_spendQuota, Cond.instanceMethod yX0_spendQuota, Cond.selects RX0 yX0_spendQuota yX0_spendQuota, Cond.code yX0_spendQuota cX0_spendQuota 3 none]
def wsX0_setQuiet : List Cond := .code yX0_setQuiet cX0_setQuiet 4 (some .int) :: ((wsX0_setQuiet_r1 ++ (wsX0_setQuiet_r2 ++ (wsX0_setQuiet_r3 ++ wsX0_setQuiet_r4))) ++ wsX00 ++ (vx_atS RX0 170 "java/lang/IndexOutOfBoundsException" ["java/lang/RuntimeException", "java/lang/Exception"]).filter goodWord ++ (vx_atS RX0 165 "java/lang/IllegalArgumentException" ["java/lang/RuntimeException", "java/lang/Exception"]).filter goodWord)
def wsX0_join : List Cond := .code yX0_join cX0_join 5 (some .boolean) :: ([.fieldLink RX0 13 "PushNotices" "devicesOfTopic" "[I", .methodLink RX0 84 yX0_requireDevice, .instanceMethod yX0_requireDevice, .selects RX0 yX0_requireDevice yX0_requireDevice, .initialized RX0, .code yX0_requireDevice cX0_requireDevice 2 none, .classLink RX0 166 "java/lang/IndexOutOfBoundsException", .initialized "java/lang/IndexOutOfBoundsException", .fieldLink RX0 41 "PushNotices" "deviceCount" "I", .methodLink RX0 69 yX0_requireWithin, .static yX0_requireWithin, .code yX0_requireWithin cX0_requireWithin 3 none, .classLink RX0 161 "java/lang/IllegalArgumentException", .initialized "java/lang/IllegalArgumentException", .methodLink RX0 96 yX0_has, .static yX0_has, .code yX0_has cX0_has 2 (some .boolean), .methodLink RX0 80 yX0_bitOf, .static yX0_bitOf, .code yX0_bitOf cX0_bitOf 1 (some .int), .methodLink RX0 88 yX0_changed, .static yX0_changed, .code yX0_changed cX0_changed 3 (some .int)] ++ wsX00 ++ (vx_atS RX0 170 "java/lang/IndexOutOfBoundsException" ["java/lang/RuntimeException", "java/lang/Exception"]).filter goodWord ++ (vx_atS RX0 165 "java/lang/IllegalArgumentException" ["java/lang/RuntimeException", "java/lang/Exception"]).filter goodWord)
def wsX0_countWaiting : List Cond := .code yX0_countWaiting cX0_countWaiting 4 (some .int) :: ([.fieldLink RX0 60 "PushNotices" "noticeCount" "I", .methodLink RX0 132 yX0_waitsNow, .instanceMethod yX0_waitsNow, .selects RX0 yX0_waitsNow yX0_waitsNow, .initialized RX0, .code yX0_waitsNow cX0_waitsNow 2 (some .int), .fieldLink RX0 51 "PushNotices" "waitSet" "[I", .methodLink RX0 127 yX0_isStanding, .instanceMethod yX0_isStanding, .selects RX0 yX0_isStanding yX0_isStanding, .code yX0_isStanding cX0_isStanding 2 (some .boolean), .fieldLink RX0 63 "PushNotices" "minute" "I", .fieldLink RX0 48 "PushNotices" "fallsAt" "[I", .methodLink RX0 96 yX0_has, .static yX0_has, .code yX0_has cX0_has 2 (some .boolean), .methodLink RX0 80 yX0_bitOf, .static yX0_bitOf, .code yX0_bitOf cX0_bitOf 1 (some .int)] ++ wsX00)
def wsX0_kill_r1 : List Cond := [Cond.classLink RX0 73 "java/lang/IllegalStateException", Cond.initialized "java/lang/IllegalStateException", Cond.fieldLink RX0 16 "PushNotices" "alive" "I", Cond.fieldLink RX0 60 "PushNotices" "noticeCount" "I", Cond.fieldLink RX0 51 "PushNotices" "waitSet" "[I", Cond.methodLink RX0 84 yX0_requireDevice, Cond.instanceMethod yX0_requireDevice, Cond.selects RX0 yX0_requireDevice yX0_requireDevice, Cond.initialized RX0, Cond.code yX0_requireDevice cX0_requireDevice 2 none, Cond.classLink RX0 166 "java/lang/IndexOutOfBoundsException", Cond.initialized "java/lang/IndexOutOfBoundsException", Cond.fieldLink RX0 41 "PushNotices" "deviceCount" "I", Cond.methodLink RX0 96 yX0_has, Cond.static yX0_has, Cond.code yX0_has cX0_has 2 (some .boolean), Cond.methodLink RX0 80 yX0_bitOf, Cond.static yX0_bitOf, Cond.code yX0_bitOf cX0_bitOf 1 (some .int), Cond.methodLink RX0 102 yX0_countWaiting, Cond.instanceMethod yX0_countWaiting, Cond.selects RX0 yX0_countWaiting yX0_countWaiting, Cond.code yX0_countWaiting cX0_countWaiting 4 (some .int), Cond.methodLink RX0 132 yX0_waitsNow]
def wsX0_kill_r2 : List Cond := [Cond.instanceMethod yX0_waitsNow, Cond.selects RX0 yX0_waitsNow yX0_waitsNow, Cond.code yX0_waitsNow cX0_waitsNow 2 (some .int), Cond.methodLink RX0 127 yX0_isStanding, Cond.instanceMethod yX0_isStanding, Cond.selects RX0 yX0_isStanding yX0_isStanding, Cond.code yX0_isStanding cX0_isStanding 2 (some .boolean), Cond.fieldLink RX0 63 "PushNotices" "minute" "I", Cond.fieldLink RX0 48 "PushNotices" "fallsAt" "[I", Cond.methodLink RX0 88 yX0_changed, Cond.static yX0_changed, Cond.code yX0_changed cX0_changed 3 (some .int)]
def wsX0_kill : List Cond := .code yX0_kill cX0_kill 4 (some .int) :: ((wsX0_kill_r1 ++ wsX0_kill_r2) ++ wsX00 ++ (vx_atS RX0 77 "java/lang/IllegalStateException" ["java/lang/RuntimeException", "java/lang/Exception"]).filter goodWord ++ (vx_atS RX0 170 "java/lang/IndexOutOfBoundsException" ["java/lang/RuntimeException", "java/lang/Exception"]).filter goodWord)
def wsX0_devices : List Cond := .code yX0_devices cX0_devices 1 (some .int) :: ([.fieldLink RX0 41 "PushNotices" "deviceCount" "I"] ++ wsX00)
def wsX0_isQuiet : List Cond := .code yX0_isQuiet cX0_isQuiet 2 (some .boolean) :: ([.methodLink RX0 84 yX0_requireDevice, .instanceMethod yX0_requireDevice, .selects RX0 yX0_requireDevice yX0_requireDevice, .initialized RX0, .code yX0_requireDevice cX0_requireDevice 2 none, .classLink RX0 166 "java/lang/IndexOutOfBoundsException", .initialized "java/lang/IndexOutOfBoundsException", .fieldLink RX0 41 "PushNotices" "deviceCount" "I", .methodLink RX0 105 yX0_isInQuietHours, .instanceMethod yX0_isInQuietHours, .selects RX0 yX0_isInQuietHours yX0_isInQuietHours, .code yX0_isInQuietHours cX0_isInQuietHours 4 (some .boolean), .fieldLink RX0 29 "PushNotices" "quietFrom" "[I", .fieldLink RX0 32 "PushNotices" "quietTo" "[I", .methodLink RX0 178 yX0_localTime, .instanceMethod yX0_localTime, .selects RX0 yX0_localTime yX0_localTime, .code yX0_localTime cX0_localTime 2 (some .int), .fieldLink RX0 63 "PushNotices" "minute" "I", .fieldLink RX0 26 "PushNotices" "zoneOffset" "[I", .methodLink RX0 175 yJ9_floorMod_7cf53, .static yJ9_floorMod_7cf53, .initialized RJ9, .code yJ9_floorMod_7cf53 cJ9_floorMod_7cf53 3 (some .int)] ++ wsX00 ++ (vx_atS RX0 170 "java/lang/IndexOutOfBoundsException" ["java/lang/RuntimeException", "java/lang/Exception"]).filter goodWord)
def wsX0_requireRoomForNotice : List Cond := .code yX0_requireRoomForNotice cX0_requireRoomForNotice 1 none :: ([.classLink RX0 73 "java/lang/IllegalStateException", .initialized "java/lang/IllegalStateException", .fieldLink RX0 60 "PushNotices" "noticeCount" "I"] ++ wsX00 ++ (vx_atS RX0 77 "java/lang/IllegalStateException" ["java/lang/RuntimeException", "java/lang/Exception"]).filter goodWord)
def wsX0_placeOf : List Cond := .code yX0_placeOf cX0_placeOf 2 (some .int) :: ([])
def wsX0_withdraw : List Cond := .code yX0_withdraw cX0_withdraw 2 none :: ([.fieldLink RX0 48 "PushNotices" "fallsAt" "[I", .fieldLink RX0 63 "PushNotices" "minute" "I"] ++ wsX00)
def wsX0_replaceKey : List Cond := .code yX0_replaceKey cX0_replaceKey 5 none :: ([.fieldLink RX0 57 "PushNotices" "lastWithKey" "[I", .fieldLink RX0 60 "PushNotices" "noticeCount" "I", .methodLink RX0 143 yX0_placeOf, .static yX0_placeOf, .initialized RX0, .code yX0_placeOf cX0_placeOf 2 (some .int), .methodLink RX0 127 yX0_isStanding, .instanceMethod yX0_isStanding, .selects RX0 yX0_isStanding yX0_isStanding, .code yX0_isStanding cX0_isStanding 2 (some .boolean), .fieldLink RX0 63 "PushNotices" "minute" "I", .fieldLink RX0 48 "PushNotices" "fallsAt" "[I", .methodLink RX0 140 yX0_withdraw, .instanceMethod yX0_withdraw, .selects RX0 yX0_withdraw yX0_withdraw, .code yX0_withdraw cX0_withdraw 2 none] ++ wsX00)
def wsX0_sendTo_r1 : List Cond := [Cond.fieldLink RX0 60 "PushNotices" "noticeCount" "I", Cond.fieldLink RX0 44 "PushNotices" "isHighNotice" "[Z", Cond.fieldLink RX0 48 "PushNotices" "fallsAt" "[I", Cond.fieldLink RX0 63 "PushNotices" "minute" "I", Cond.fieldLink RX0 51 "PushNotices" "waitSet" "[I", Cond.fieldLink RX0 16 "PushNotices" "alive" "I", Cond.methodLink RX0 92 yX0_deliverNow, Cond.instanceMethod yX0_deliverNow, Cond.selects RX0 yX0_deliverNow yX0_deliverNow, Cond.initialized RX0, Cond.code yX0_deliverNow cX0_deliverNow 5 (some .int), Cond.fieldLink RX0 66 "PushNotices" "deliveryCount" "I", Cond.methodLink RX0 181 yX0_openToNormal, Cond.instanceMethod yX0_openToNormal, Cond.selects RX0 yX0_openToNormal yX0_openToNormal, Cond.code yX0_openToNormal cX0_openToNormal 3 (some .int), Cond.fieldLink RX0 20 "PushNotices" "online" "I", Cond.fieldLink RX0 23 "PushNotices" "dozing" "I", Cond.fieldLink RX0 41 "PushNotices" "deviceCount" "I", Cond.methodLink RX0 105 yX0_isInQuietHours, Cond.instanceMethod yX0_isInQuietHours, Cond.selects RX0 yX0_isInQuietHours yX0_isInQuietHours, Cond.code yX0_isInQuietHours cX0_isInQuietHours 4 (some .boolean), Cond.fieldLink RX0 29 "PushNotices" "quietFrom" "[I"]
def wsX0_sendTo_r2 : List Cond := [Cond.fieldLink RX0 32 "PushNotices" "quietTo" "[I", Cond.methodLink RX0 178 yX0_localTime, Cond.instanceMethod yX0_localTime, Cond.selects RX0 yX0_localTime yX0_localTime, Cond.code yX0_localTime cX0_localTime 2 (some .int), Cond.fieldLink RX0 26 "PushNotices" "zoneOffset" "[I", Cond.methodLink RX0 175 yJ9_floorMod_7cf53, Cond.static yJ9_floorMod_7cf53, Cond.initialized RJ9, Cond.code yJ9_floorMod_7cf53 cJ9_floorMod_7cf53 3 (some .int), Cond.methodLink RX0 88 yX0_changed, Cond.static yX0_changed, Cond.code yX0_changed cX0_changed 3 (some .int), Cond.methodLink RX0 80 yX0_bitOf, Cond.static yX0_bitOf, Cond.code yX0_bitOf cX0_bitOf 1 (some .int), Cond.methodLink RX0 132 yX0_waitsNow, Cond.instanceMethod yX0_waitsNow, Cond.selects RX0 yX0_waitsNow yX0_waitsNow, Cond.code yX0_waitsNow cX0_waitsNow 2 (some .int), Cond.methodLink RX0 127 yX0_isStanding, Cond.instanceMethod yX0_isStanding, Cond.selects RX0 yX0_isStanding yX0_isStanding, Cond.code yX0_isStanding cX0_isStanding 2 (some .boolean)]
def wsX0_sendTo_r3 : List Cond := [Cond.methodLink RX0 184 yX0_openToHigh, Cond.instanceMethod yX0_openToHigh, Cond.selects RX0 yX0_openToHigh yX0_openToHigh, Cond.code yX0_openToHigh cX0_openToHigh 3 (some .int), Cond.methodLink RX0 96 yX0_has, Cond.static yX0_has, Cond.code yX0_has cX0_has 2 (some .boolean), Cond.methodLink RX0 147 yX0_spentToday, Cond.instanceMethod yX0_spentToday, Cond.selects RX0 yX0_spentToday yX0_spentToday, Cond.code yX0_spentToday cX0_spentToday 2 (some .int), Cond.fieldLink RX0 35 "PushNotices" "quotaDay" "[I", Cond.fieldLink RX0 38 "PushNotices" "quotaSpent" "[I", Cond.methodLink RX0 187 yX0_deliver, Cond.instanceMethod yX0_deliver, Cond.selects RX0 yX0_deliver yX0_deliver, Cond.code yX0_deliver cX0_deliver 3 none, Cond.fieldLink RX0 54 "PushNotices" "deliveredSet" "[I", Cond.methodLink RX0 135 yJ6_bitCount_0f7a4, Cond.static yJ6_bitCount_0f7a4, Cond.initialized RJ6, Cond.code yJ6_bitCount_0f7a4 cJ6_bitCount_0f7a4 1 (some .int), Cond.constant RJ6 265 (1431655765), Cond.constant RJ6 266 (858993459)]
def wsX0_sendTo_r4 : List Cond := [Cond.constant RJ6 267 (252645135), Cond.methodLink RX0 190 yX0_spendQuota, Cond.instanceMethod yX0_spendQuota, Cond.selects RX0 yX0_spendQuota yX0_spendQuota, Cond.code yX0_spendQuota cX0_spendQuota 3 none]
def wsX0_sendTo : List Cond := .code yX0_sendTo cX0_sendTo 5 (some .int) :: ((wsX0_sendTo_r1 ++ (wsX0_sendTo_r2 ++ (wsX0_sendTo_r3 ++ wsX0_sendTo_r4))) ++ wsX00)
def wsX0_send_r1 : List Cond := [Cond.fieldLink RX0 9 "PushNotices" "devicesOfUser" "[I", Cond.methodLink RX0 69 yX0_requireWithin, Cond.static yX0_requireWithin, Cond.initialized RX0, Cond.code yX0_requireWithin cX0_requireWithin 3 none, Cond.classLink RX0 161 "java/lang/IllegalArgumentException", Cond.initialized "java/lang/IllegalArgumentException", Cond.methodLink RX0 109 yX0_requireRoomForNotice, Cond.instanceMethod yX0_requireRoomForNotice, Cond.selects RX0 yX0_requireRoomForNotice yX0_requireRoomForNotice, Cond.code yX0_requireRoomForNotice cX0_requireRoomForNotice 1 none, Cond.classLink RX0 73 "java/lang/IllegalStateException", Cond.initialized "java/lang/IllegalStateException", Cond.fieldLink RX0 60 "PushNotices" "noticeCount" "I", Cond.methodLink RX0 112 yX0_replaceKey, Cond.instanceMethod yX0_replaceKey, Cond.selects RX0 yX0_replaceKey yX0_replaceKey, Cond.code yX0_replaceKey cX0_replaceKey 5 none, Cond.fieldLink RX0 57 "PushNotices" "lastWithKey" "[I", Cond.methodLink RX0 143 yX0_placeOf, Cond.static yX0_placeOf, Cond.code yX0_placeOf cX0_placeOf 2 (some .int), Cond.methodLink RX0 127 yX0_isStanding, Cond.instanceMethod yX0_isStanding]
def wsX0_send_r2 : List Cond := [Cond.selects RX0 yX0_isStanding yX0_isStanding, Cond.code yX0_isStanding cX0_isStanding 2 (some .boolean), Cond.fieldLink RX0 63 "PushNotices" "minute" "I", Cond.fieldLink RX0 48 "PushNotices" "fallsAt" "[I", Cond.methodLink RX0 140 yX0_withdraw, Cond.instanceMethod yX0_withdraw, Cond.selects RX0 yX0_withdraw yX0_withdraw, Cond.code yX0_withdraw cX0_withdraw 2 none, Cond.methodLink RX0 116 yX0_sendTo, Cond.instanceMethod yX0_sendTo, Cond.selects RX0 yX0_sendTo yX0_sendTo, Cond.code yX0_sendTo cX0_sendTo 5 (some .int), Cond.fieldLink RX0 44 "PushNotices" "isHighNotice" "[Z", Cond.fieldLink RX0 51 "PushNotices" "waitSet" "[I", Cond.fieldLink RX0 16 "PushNotices" "alive" "I", Cond.methodLink RX0 92 yX0_deliverNow, Cond.instanceMethod yX0_deliverNow, Cond.selects RX0 yX0_deliverNow yX0_deliverNow, Cond.code yX0_deliverNow cX0_deliverNow 5 (some .int), Cond.fieldLink RX0 66 "PushNotices" "deliveryCount" "I", Cond.methodLink RX0 181 yX0_openToNormal, Cond.instanceMethod yX0_openToNormal, Cond.selects RX0 yX0_openToNormal yX0_openToNormal, Cond.code yX0_openToNormal cX0_openToNormal 3 (some .int)]
def wsX0_send_r3 : List Cond := [Cond.fieldLink RX0 20 "PushNotices" "online" "I", Cond.fieldLink RX0 23 "PushNotices" "dozing" "I", Cond.fieldLink RX0 41 "PushNotices" "deviceCount" "I", Cond.methodLink RX0 105 yX0_isInQuietHours, Cond.instanceMethod yX0_isInQuietHours, Cond.selects RX0 yX0_isInQuietHours yX0_isInQuietHours, Cond.code yX0_isInQuietHours cX0_isInQuietHours 4 (some .boolean), Cond.fieldLink RX0 29 "PushNotices" "quietFrom" "[I", Cond.fieldLink RX0 32 "PushNotices" "quietTo" "[I", Cond.methodLink RX0 178 yX0_localTime, Cond.instanceMethod yX0_localTime, Cond.selects RX0 yX0_localTime yX0_localTime, Cond.code yX0_localTime cX0_localTime 2 (some .int), Cond.fieldLink RX0 26 "PushNotices" "zoneOffset" "[I", Cond.methodLink RX0 175 yJ9_floorMod_7cf53, Cond.static yJ9_floorMod_7cf53, Cond.initialized RJ9, Cond.code yJ9_floorMod_7cf53 cJ9_floorMod_7cf53 3 (some .int), Cond.methodLink RX0 88 yX0_changed, Cond.static yX0_changed, Cond.code yX0_changed cX0_changed 3 (some .int), Cond.methodLink RX0 80 yX0_bitOf, Cond.static yX0_bitOf, Cond.code yX0_bitOf cX0_bitOf 1 (some .int)]
def wsX0_send_r4 : List Cond := [Cond.methodLink RX0 132 yX0_waitsNow, Cond.instanceMethod yX0_waitsNow, Cond.selects RX0 yX0_waitsNow yX0_waitsNow, Cond.code yX0_waitsNow cX0_waitsNow 2 (some .int), Cond.methodLink RX0 184 yX0_openToHigh, Cond.instanceMethod yX0_openToHigh, Cond.selects RX0 yX0_openToHigh yX0_openToHigh, Cond.code yX0_openToHigh cX0_openToHigh 3 (some .int), Cond.methodLink RX0 96 yX0_has, Cond.static yX0_has, Cond.code yX0_has cX0_has 2 (some .boolean), Cond.methodLink RX0 147 yX0_spentToday, Cond.instanceMethod yX0_spentToday, Cond.selects RX0 yX0_spentToday yX0_spentToday, Cond.code yX0_spentToday cX0_spentToday 2 (some .int), Cond.fieldLink RX0 35 "PushNotices" "quotaDay" "[I", Cond.fieldLink RX0 38 "PushNotices" "quotaSpent" "[I", Cond.methodLink RX0 187 yX0_deliver, Cond.instanceMethod yX0_deliver, Cond.selects RX0 yX0_deliver yX0_deliver, Cond.code yX0_deliver cX0_deliver 3 none, Cond.fieldLink RX0 54 "PushNotices" "deliveredSet" "[I", Cond.methodLink RX0 135 yJ6_bitCount_0f7a4, Cond.static yJ6_bitCount_0f7a4]
def wsX0_send_r5 : List Cond := [Cond.initialized RJ6, Cond.code yJ6_bitCount_0f7a4 cJ6_bitCount_0f7a4 1 (some .int), Cond.constant RJ6 265 (1431655765), Cond.constant RJ6 266 (858993459), Cond.constant RJ6 267 (252645135), Cond.methodLink RX0 190 yX0_spendQuota, Cond.instanceMethod yX0_spendQuota, Cond.selects RX0 yX0_spendQuota yX0_spendQuota, Cond.code yX0_spendQuota cX0_spendQuota 3 none]
def wsX0_send : List Cond := .code yX0_send cX0_send 5 (some .int) :: ((wsX0_send_r1 ++ (wsX0_send_r2 ++ (wsX0_send_r3 ++ (wsX0_send_r4 ++ wsX0_send_r5)))) ++ wsX00 ++ (vx_atS RX0 165 "java/lang/IllegalArgumentException" ["java/lang/RuntimeException", "java/lang/Exception"]).filter goodWord ++ (vx_atS RX0 77 "java/lang/IllegalStateException" ["java/lang/RuntimeException", "java/lang/Exception"]).filter goodWord)
def wsX0_devicesThatFulfil : List Cond := .code yX0_devicesThatFulfil cX0_devicesThatFulfil 4 (some .int) :: ([.fieldLink RX0 13 "PushNotices" "devicesOfTopic" "[I"] ++ wsX00)
def wsX0_sendBy_r1 : List Cond := [Cond.methodLink RX0 69 yX0_requireWithin, Cond.static yX0_requireWithin, Cond.initialized RX0, Cond.code yX0_requireWithin cX0_requireWithin 3 none, Cond.classLink RX0 161 "java/lang/IllegalArgumentException", Cond.initialized "java/lang/IllegalArgumentException", Cond.methodLink RX0 109 yX0_requireRoomForNotice, Cond.instanceMethod yX0_requireRoomForNotice, Cond.selects RX0 yX0_requireRoomForNotice yX0_requireRoomForNotice, Cond.code yX0_requireRoomForNotice cX0_requireRoomForNotice 1 none, Cond.classLink RX0 73 "java/lang/IllegalStateException", Cond.initialized "java/lang/IllegalStateException", Cond.fieldLink RX0 60 "PushNotices" "noticeCount" "I", Cond.methodLink RX0 120 yX0_devicesThatFulfil, Cond.instanceMethod yX0_devicesThatFulfil, Cond.selects RX0 yX0_devicesThatFulfil yX0_devicesThatFulfil, Cond.code yX0_devicesThatFulfil cX0_devicesThatFulfil 4 (some .int), Cond.fieldLink RX0 13 "PushNotices" "devicesOfTopic" "[I", Cond.methodLink RX0 116 yX0_sendTo, Cond.instanceMethod yX0_sendTo, Cond.selects RX0 yX0_sendTo yX0_sendTo, Cond.code yX0_sendTo cX0_sendTo 5 (some .int), Cond.fieldLink RX0 44 "PushNotices" "isHighNotice" "[Z", Cond.fieldLink RX0 48 "PushNotices" "fallsAt" "[I"]
def wsX0_sendBy_r2 : List Cond := [Cond.fieldLink RX0 63 "PushNotices" "minute" "I", Cond.fieldLink RX0 51 "PushNotices" "waitSet" "[I", Cond.fieldLink RX0 16 "PushNotices" "alive" "I", Cond.methodLink RX0 92 yX0_deliverNow, Cond.instanceMethod yX0_deliverNow, Cond.selects RX0 yX0_deliverNow yX0_deliverNow, Cond.code yX0_deliverNow cX0_deliverNow 5 (some .int), Cond.fieldLink RX0 66 "PushNotices" "deliveryCount" "I", Cond.methodLink RX0 181 yX0_openToNormal, Cond.instanceMethod yX0_openToNormal, Cond.selects RX0 yX0_openToNormal yX0_openToNormal, Cond.code yX0_openToNormal cX0_openToNormal 3 (some .int), Cond.fieldLink RX0 20 "PushNotices" "online" "I", Cond.fieldLink RX0 23 "PushNotices" "dozing" "I", Cond.fieldLink RX0 41 "PushNotices" "deviceCount" "I", Cond.methodLink RX0 105 yX0_isInQuietHours, Cond.instanceMethod yX0_isInQuietHours, Cond.selects RX0 yX0_isInQuietHours yX0_isInQuietHours, Cond.code yX0_isInQuietHours cX0_isInQuietHours 4 (some .boolean), Cond.fieldLink RX0 29 "PushNotices" "quietFrom" "[I", Cond.fieldLink RX0 32 "PushNotices" "quietTo" "[I", Cond.methodLink RX0 178 yX0_localTime, Cond.instanceMethod yX0_localTime, Cond.selects RX0 yX0_localTime yX0_localTime]
def wsX0_sendBy_r3 : List Cond := [Cond.code yX0_localTime cX0_localTime 2 (some .int), Cond.fieldLink RX0 26 "PushNotices" "zoneOffset" "[I", Cond.methodLink RX0 175 yJ9_floorMod_7cf53, Cond.static yJ9_floorMod_7cf53, Cond.initialized RJ9, Cond.code yJ9_floorMod_7cf53 cJ9_floorMod_7cf53 3 (some .int), Cond.methodLink RX0 88 yX0_changed, Cond.static yX0_changed, Cond.code yX0_changed cX0_changed 3 (some .int), Cond.methodLink RX0 80 yX0_bitOf, Cond.static yX0_bitOf, Cond.code yX0_bitOf cX0_bitOf 1 (some .int), Cond.methodLink RX0 132 yX0_waitsNow, Cond.instanceMethod yX0_waitsNow, Cond.selects RX0 yX0_waitsNow yX0_waitsNow, Cond.code yX0_waitsNow cX0_waitsNow 2 (some .int), Cond.methodLink RX0 127 yX0_isStanding, Cond.instanceMethod yX0_isStanding, Cond.selects RX0 yX0_isStanding yX0_isStanding, Cond.code yX0_isStanding cX0_isStanding 2 (some .boolean), Cond.methodLink RX0 184 yX0_openToHigh, Cond.instanceMethod yX0_openToHigh, Cond.selects RX0 yX0_openToHigh yX0_openToHigh, Cond.code yX0_openToHigh cX0_openToHigh 3 (some .int)]
def wsX0_sendBy_r4 : List Cond := [Cond.methodLink RX0 96 yX0_has, Cond.static yX0_has, Cond.code yX0_has cX0_has 2 (some .boolean), Cond.methodLink RX0 147 yX0_spentToday, Cond.instanceMethod yX0_spentToday, Cond.selects RX0 yX0_spentToday yX0_spentToday, Cond.code yX0_spentToday cX0_spentToday 2 (some .int), Cond.fieldLink RX0 35 "PushNotices" "quotaDay" "[I", Cond.fieldLink RX0 38 "PushNotices" "quotaSpent" "[I", Cond.methodLink RX0 187 yX0_deliver, Cond.instanceMethod yX0_deliver, Cond.selects RX0 yX0_deliver yX0_deliver, Cond.code yX0_deliver cX0_deliver 3 none, Cond.fieldLink RX0 54 "PushNotices" "deliveredSet" "[I", Cond.methodLink RX0 135 yJ6_bitCount_0f7a4, Cond.static yJ6_bitCount_0f7a4, Cond.initialized RJ6, Cond.code yJ6_bitCount_0f7a4 cJ6_bitCount_0f7a4 1 (some .int), Cond.constant RJ6 265 (1431655765), Cond.constant RJ6 266 (858993459), Cond.constant RJ6 267 (252645135), Cond.methodLink RX0 190 yX0_spendQuota, Cond.instanceMethod yX0_spendQuota, Cond.selects RX0 yX0_spendQuota yX0_spendQuota]
def wsX0_sendBy_r5 : List Cond := [Cond.code yX0_spendQuota cX0_spendQuota 3 none]
def wsX0_sendBy : List Cond := .code yX0_sendBy cX0_sendBy 6 (some .int) :: ((wsX0_sendBy_r1 ++ (wsX0_sendBy_r2 ++ (wsX0_sendBy_r3 ++ (wsX0_sendBy_r4 ++ wsX0_sendBy_r5)))) ++ wsX00 ++ (vx_atS RX0 165 "java/lang/IllegalArgumentException" ["java/lang/RuntimeException", "java/lang/Exception"]).filter goodWord ++ (vx_atS RX0 77 "java/lang/IllegalStateException" ["java/lang/RuntimeException", "java/lang/Exception"]).filter goodWord)
def wsX0_requireNotice : List Cond := .code yX0_requireNotice cX0_requireNotice 2 none :: ([.classLink RX0 166 "java/lang/IndexOutOfBoundsException", .initialized "java/lang/IndexOutOfBoundsException", .fieldLink RX0 60 "PushNotices" "noticeCount" "I"] ++ wsX00 ++ (vx_atS RX0 170 "java/lang/IndexOutOfBoundsException" ["java/lang/RuntimeException", "java/lang/Exception"]).filter goodWord)
def wsX0_read_r1 : List Cond := [Cond.classLink RX0 73 "java/lang/IllegalStateException", Cond.initialized "java/lang/IllegalStateException", Cond.fieldLink RX0 54 "PushNotices" "deliveredSet" "[I", Cond.methodLink RX0 84 yX0_requireDevice, Cond.instanceMethod yX0_requireDevice, Cond.selects RX0 yX0_requireDevice yX0_requireDevice, Cond.initialized RX0, Cond.code yX0_requireDevice cX0_requireDevice 2 none, Cond.classLink RX0 166 "java/lang/IndexOutOfBoundsException", Cond.initialized "java/lang/IndexOutOfBoundsException", Cond.fieldLink RX0 41 "PushNotices" "deviceCount" "I", Cond.methodLink RX0 124 yX0_requireNotice, Cond.instanceMethod yX0_requireNotice, Cond.selects RX0 yX0_requireNotice yX0_requireNotice, Cond.code yX0_requireNotice cX0_requireNotice 2 none, Cond.fieldLink RX0 60 "PushNotices" "noticeCount" "I", Cond.methodLink RX0 96 yX0_has, Cond.static yX0_has, Cond.code yX0_has cX0_has 2 (some .boolean), Cond.methodLink RX0 80 yX0_bitOf, Cond.static yX0_bitOf, Cond.code yX0_bitOf cX0_bitOf 1 (some .int), Cond.methodLink RX0 127 yX0_isStanding, Cond.instanceMethod yX0_isStanding]
def wsX0_read_r2 : List Cond := [Cond.selects RX0 yX0_isStanding yX0_isStanding, Cond.code yX0_isStanding cX0_isStanding 2 (some .boolean), Cond.fieldLink RX0 63 "PushNotices" "minute" "I", Cond.fieldLink RX0 48 "PushNotices" "fallsAt" "[I", Cond.methodLink RX0 132 yX0_waitsNow, Cond.instanceMethod yX0_waitsNow, Cond.selects RX0 yX0_waitsNow yX0_waitsNow, Cond.code yX0_waitsNow cX0_waitsNow 2 (some .int), Cond.fieldLink RX0 51 "PushNotices" "waitSet" "[I", Cond.methodLink RX0 135 yJ6_bitCount_0f7a4, Cond.static yJ6_bitCount_0f7a4, Cond.initialized RJ6, Cond.code yJ6_bitCount_0f7a4 cJ6_bitCount_0f7a4 1 (some .int), Cond.constant RJ6 265 (1431655765), Cond.constant RJ6 266 (858993459), Cond.constant RJ6 267 (252645135), Cond.methodLink RX0 140 yX0_withdraw, Cond.instanceMethod yX0_withdraw, Cond.selects RX0 yX0_withdraw yX0_withdraw, Cond.code yX0_withdraw cX0_withdraw 2 none]
def wsX0_read : List Cond := .code yX0_read cX0_read 4 (some .int) :: ((wsX0_read_r1 ++ wsX0_read_r2) ++ wsX00 ++ (vx_atS RX0 77 "java/lang/IllegalStateException" ["java/lang/RuntimeException", "java/lang/Exception"]).filter goodWord ++ (vx_atS RX0 170 "java/lang/IndexOutOfBoundsException" ["java/lang/RuntimeException", "java/lang/Exception"]).filter goodWord)
def wsX0_sent : List Cond := .code yX0_sent cX0_sent 1 (some .int) :: ([.fieldLink RX0 60 "PushNotices" "noticeCount" "I"] ++ wsX00)
def wsX0_stands : List Cond := .code yX0_stands cX0_stands 2 (some .boolean) :: ([.methodLink RX0 124 yX0_requireNotice, .instanceMethod yX0_requireNotice, .selects RX0 yX0_requireNotice yX0_requireNotice, .initialized RX0, .code yX0_requireNotice cX0_requireNotice 2 none, .classLink RX0 166 "java/lang/IndexOutOfBoundsException", .initialized "java/lang/IndexOutOfBoundsException", .fieldLink RX0 60 "PushNotices" "noticeCount" "I", .methodLink RX0 127 yX0_isStanding, .instanceMethod yX0_isStanding, .selects RX0 yX0_isStanding yX0_isStanding, .code yX0_isStanding cX0_isStanding 2 (some .boolean), .fieldLink RX0 63 "PushNotices" "minute" "I", .fieldLink RX0 48 "PushNotices" "fallsAt" "[I"] ++ wsX00 ++ (vx_atS RX0 170 "java/lang/IndexOutOfBoundsException" ["java/lang/RuntimeException", "java/lang/Exception"]).filter goodWord)
def wsX0_waitsFor : List Cond := .code yX0_waitsFor cX0_waitsFor 2 (some .int) :: ([.methodLink RX0 124 yX0_requireNotice, .instanceMethod yX0_requireNotice, .selects RX0 yX0_requireNotice yX0_requireNotice, .initialized RX0, .code yX0_requireNotice cX0_requireNotice 2 none, .classLink RX0 166 "java/lang/IndexOutOfBoundsException", .initialized "java/lang/IndexOutOfBoundsException", .fieldLink RX0 60 "PushNotices" "noticeCount" "I", .methodLink RX0 132 yX0_waitsNow, .instanceMethod yX0_waitsNow, .selects RX0 yX0_waitsNow yX0_waitsNow, .code yX0_waitsNow cX0_waitsNow 2 (some .int), .fieldLink RX0 51 "PushNotices" "waitSet" "[I", .methodLink RX0 127 yX0_isStanding, .instanceMethod yX0_isStanding, .selects RX0 yX0_isStanding yX0_isStanding, .code yX0_isStanding cX0_isStanding 2 (some .boolean), .fieldLink RX0 63 "PushNotices" "minute" "I", .fieldLink RX0 48 "PushNotices" "fallsAt" "[I"] ++ wsX00 ++ (vx_atS RX0 170 "java/lang/IndexOutOfBoundsException" ["java/lang/RuntimeException", "java/lang/Exception"]).filter goodWord)
def wsX0_deliveredTo : List Cond := .code yX0_deliveredTo cX0_deliveredTo 2 (some .int) :: ([.fieldLink RX0 54 "PushNotices" "deliveredSet" "[I", .methodLink RX0 124 yX0_requireNotice, .instanceMethod yX0_requireNotice, .selects RX0 yX0_requireNotice yX0_requireNotice, .initialized RX0, .code yX0_requireNotice cX0_requireNotice 2 none, .classLink RX0 166 "java/lang/IndexOutOfBoundsException", .initialized "java/lang/IndexOutOfBoundsException", .fieldLink RX0 60 "PushNotices" "noticeCount" "I"] ++ wsX00 ++ (vx_atS RX0 170 "java/lang/IndexOutOfBoundsException" ["java/lang/RuntimeException", "java/lang/Exception"]).filter goodWord)
def wsX0_standing : List Cond := .code yX0_standing cX0_standing 4 (some .int) :: ([.fieldLink RX0 57 "PushNotices" "lastWithKey" "[I", .methodLink RX0 69 yX0_requireWithin, .static yX0_requireWithin, .initialized RX0, .code yX0_requireWithin cX0_requireWithin 3 none, .classLink RX0 161 "java/lang/IllegalArgumentException", .initialized "java/lang/IllegalArgumentException", .methodLink RX0 143 yX0_placeOf, .static yX0_placeOf, .code yX0_placeOf cX0_placeOf 2 (some .int), .methodLink RX0 127 yX0_isStanding, .instanceMethod yX0_isStanding, .selects RX0 yX0_isStanding yX0_isStanding, .code yX0_isStanding cX0_isStanding 2 (some .boolean), .fieldLink RX0 63 "PushNotices" "minute" "I", .fieldLink RX0 48 "PushNotices" "fallsAt" "[I"] ++ wsX00 ++ (vx_atS RX0 165 "java/lang/IllegalArgumentException" ["java/lang/RuntimeException", "java/lang/Exception"]).filter goodWord)
def wsX0_badge : List Cond := .code yX0_badge cX0_badge 4 (some .int) :: ([.fieldLink RX0 60 "PushNotices" "noticeCount" "I", .fieldLink RX0 54 "PushNotices" "deliveredSet" "[I", .methodLink RX0 84 yX0_requireDevice, .instanceMethod yX0_requireDevice, .selects RX0 yX0_requireDevice yX0_requireDevice, .initialized RX0, .code yX0_requireDevice cX0_requireDevice 2 none, .classLink RX0 166 "java/lang/IndexOutOfBoundsException", .initialized "java/lang/IndexOutOfBoundsException", .fieldLink RX0 41 "PushNotices" "deviceCount" "I", .methodLink RX0 96 yX0_has, .static yX0_has, .code yX0_has cX0_has 2 (some .boolean), .methodLink RX0 80 yX0_bitOf, .static yX0_bitOf, .code yX0_bitOf cX0_bitOf 1 (some .int), .methodLink RX0 127 yX0_isStanding, .instanceMethod yX0_isStanding, .selects RX0 yX0_isStanding yX0_isStanding, .code yX0_isStanding cX0_isStanding 2 (some .boolean), .fieldLink RX0 63 "PushNotices" "minute" "I", .fieldLink RX0 48 "PushNotices" "fallsAt" "[I"] ++ wsX00 ++ (vx_atS RX0 170 "java/lang/IndexOutOfBoundsException" ["java/lang/RuntimeException", "java/lang/Exception"]).filter goodWord)
def wsX0_waiting_r1 : List Cond := [Cond.methodLink RX0 84 yX0_requireDevice, Cond.instanceMethod yX0_requireDevice, Cond.selects RX0 yX0_requireDevice yX0_requireDevice, Cond.initialized RX0, Cond.code yX0_requireDevice cX0_requireDevice 2 none, Cond.classLink RX0 166 "java/lang/IndexOutOfBoundsException", Cond.initialized "java/lang/IndexOutOfBoundsException", Cond.fieldLink RX0 41 "PushNotices" "deviceCount" "I", Cond.methodLink RX0 102 yX0_countWaiting, Cond.instanceMethod yX0_countWaiting, Cond.selects RX0 yX0_countWaiting yX0_countWaiting, Cond.code yX0_countWaiting cX0_countWaiting 4 (some .int), Cond.fieldLink RX0 60 "PushNotices" "noticeCount" "I", Cond.methodLink RX0 132 yX0_waitsNow, Cond.instanceMethod yX0_waitsNow, Cond.selects RX0 yX0_waitsNow yX0_waitsNow, Cond.code yX0_waitsNow cX0_waitsNow 2 (some .int), Cond.fieldLink RX0 51 "PushNotices" "waitSet" "[I", Cond.methodLink RX0 127 yX0_isStanding, Cond.instanceMethod yX0_isStanding, Cond.selects RX0 yX0_isStanding yX0_isStanding, Cond.code yX0_isStanding cX0_isStanding 2 (some .boolean), Cond.fieldLink RX0 63 "PushNotices" "minute" "I", Cond.fieldLink RX0 48 "PushNotices" "fallsAt" "[I"]
def wsX0_waiting_r2 : List Cond := [Cond.methodLink RX0 96 yX0_has, Cond.static yX0_has, Cond.code yX0_has cX0_has 2 (some .boolean), Cond.methodLink RX0 80 yX0_bitOf, Cond.static yX0_bitOf, Cond.code yX0_bitOf cX0_bitOf 1 (some .int)]
def wsX0_waiting : List Cond := .code yX0_waiting cX0_waiting 2 (some .int) :: ((wsX0_waiting_r1 ++ wsX0_waiting_r2) ++ wsX00 ++ (vx_atS RX0 170 "java/lang/IndexOutOfBoundsException" ["java/lang/RuntimeException", "java/lang/Exception"]).filter goodWord)
def wsX0_quota : List Cond := .code yX0_quota cX0_quota 2 (some .int) :: ([.methodLink RX0 84 yX0_requireDevice, .instanceMethod yX0_requireDevice, .selects RX0 yX0_requireDevice yX0_requireDevice, .initialized RX0, .code yX0_requireDevice cX0_requireDevice 2 none, .classLink RX0 166 "java/lang/IndexOutOfBoundsException", .initialized "java/lang/IndexOutOfBoundsException", .fieldLink RX0 41 "PushNotices" "deviceCount" "I", .methodLink RX0 147 yX0_spentToday, .instanceMethod yX0_spentToday, .selects RX0 yX0_spentToday yX0_spentToday, .code yX0_spentToday cX0_spentToday 2 (some .int), .fieldLink RX0 35 "PushNotices" "quotaDay" "[I", .fieldLink RX0 63 "PushNotices" "minute" "I", .fieldLink RX0 38 "PushNotices" "quotaSpent" "[I"] ++ wsX00 ++ (vx_atS RX0 170 "java/lang/IndexOutOfBoundsException" ["java/lang/RuntimeException", "java/lang/Exception"]).filter goodWord)
def wsX0_nextChance : List Cond := .code yX0_nextChance cX0_nextChance 4 (some .int) :: ([.fieldLink RX0 63 "PushNotices" "minute" "I", .fieldLink RX0 41 "PushNotices" "deviceCount" "I", .fieldLink RX0 32 "PushNotices" "quietTo" "[I", .methodLink RX0 156 Lib.Math.min.name, .static Lib.Math.min.name, .initialized "java/lang/Math", .code Lib.Math.min.name Lib.Math.min.code 2 (some .int), .methodLink RX0 105 yX0_isInQuietHours, .instanceMethod yX0_isInQuietHours, .selects RX0 yX0_isInQuietHours yX0_isInQuietHours, .initialized RX0, .code yX0_isInQuietHours cX0_isInQuietHours 4 (some .boolean), .fieldLink RX0 29 "PushNotices" "quietFrom" "[I", .methodLink RX0 178 yX0_localTime, .instanceMethod yX0_localTime, .selects RX0 yX0_localTime yX0_localTime, .code yX0_localTime cX0_localTime 2 (some .int), .fieldLink RX0 26 "PushNotices" "zoneOffset" "[I", .methodLink RX0 175 yJ9_floorMod_7cf53, .static yJ9_floorMod_7cf53, .initialized RJ9, .code yJ9_floorMod_7cf53 cJ9_floorMod_7cf53 3 (some .int)] ++ wsX00)
def wsX0_pass_r1 : List Cond := [Cond.classLink RX0 73 "java/lang/IllegalStateException", Cond.initialized "java/lang/IllegalStateException", Cond.fieldLink RX0 63 "PushNotices" "minute" "I", Cond.constant RX0 150 (100000), Cond.methodLink RX0 156 Lib.Math.min.name, Cond.static Lib.Math.min.name, Cond.initialized "java/lang/Math", Cond.code Lib.Math.min.name Lib.Math.min.code 2 (some .int), Cond.methodLink RX0 69 yX0_requireWithin, Cond.static yX0_requireWithin, Cond.initialized RX0, Cond.code yX0_requireWithin cX0_requireWithin 3 none, Cond.classLink RX0 161 "java/lang/IllegalArgumentException", Cond.initialized "java/lang/IllegalArgumentException", Cond.methodLink RX0 153 yX0_nextChance, Cond.instanceMethod yX0_nextChance, Cond.selects RX0 yX0_nextChance yX0_nextChance, Cond.code yX0_nextChance cX0_nextChance 4 (some .int), Cond.fieldLink RX0 41 "PushNotices" "deviceCount" "I", Cond.fieldLink RX0 32 "PushNotices" "quietTo" "[I", Cond.methodLink RX0 105 yX0_isInQuietHours, Cond.instanceMethod yX0_isInQuietHours, Cond.selects RX0 yX0_isInQuietHours yX0_isInQuietHours, Cond.code yX0_isInQuietHours cX0_isInQuietHours 4 (some .boolean)]
def wsX0_pass_r2 : List Cond := [Cond.fieldLink RX0 29 "PushNotices" "quietFrom" "[I", Cond.methodLink RX0 178 yX0_localTime, Cond.instanceMethod yX0_localTime, Cond.selects RX0 yX0_localTime yX0_localTime, Cond.code yX0_localTime cX0_localTime 2 (some .int), Cond.fieldLink RX0 26 "PushNotices" "zoneOffset" "[I", Cond.methodLink RX0 175 yJ9_floorMod_7cf53, Cond.static yJ9_floorMod_7cf53, Cond.initialized RJ9, Cond.code yJ9_floorMod_7cf53 cJ9_floorMod_7cf53 3 (some .int), Cond.methodLink RX0 92 yX0_deliverNow, Cond.instanceMethod yX0_deliverNow, Cond.selects RX0 yX0_deliverNow yX0_deliverNow, Cond.code yX0_deliverNow cX0_deliverNow 5 (some .int), Cond.fieldLink RX0 66 "PushNotices" "deliveryCount" "I", Cond.fieldLink RX0 60 "PushNotices" "noticeCount" "I", Cond.fieldLink RX0 44 "PushNotices" "isHighNotice" "[Z", Cond.methodLink RX0 181 yX0_openToNormal, Cond.instanceMethod yX0_openToNormal, Cond.selects RX0 yX0_openToNormal yX0_openToNormal, Cond.code yX0_openToNormal cX0_openToNormal 3 (some .int), Cond.fieldLink RX0 20 "PushNotices" "online" "I", Cond.fieldLink RX0 23 "PushNotices" "dozing" "I", Cond.methodLink RX0 88 yX0_changed]
def wsX0_pass_r3 : List Cond := [Cond.static yX0_changed, Cond.code yX0_changed cX0_changed 3 (some .int), Cond.methodLink RX0 80 yX0_bitOf, Cond.static yX0_bitOf, Cond.code yX0_bitOf cX0_bitOf 1 (some .int), Cond.methodLink RX0 132 yX0_waitsNow, Cond.instanceMethod yX0_waitsNow, Cond.selects RX0 yX0_waitsNow yX0_waitsNow, Cond.code yX0_waitsNow cX0_waitsNow 2 (some .int), Cond.fieldLink RX0 51 "PushNotices" "waitSet" "[I", Cond.methodLink RX0 127 yX0_isStanding, Cond.instanceMethod yX0_isStanding, Cond.selects RX0 yX0_isStanding yX0_isStanding, Cond.code yX0_isStanding cX0_isStanding 2 (some .boolean), Cond.fieldLink RX0 48 "PushNotices" "fallsAt" "[I", Cond.methodLink RX0 184 yX0_openToHigh, Cond.instanceMethod yX0_openToHigh, Cond.selects RX0 yX0_openToHigh yX0_openToHigh, Cond.code yX0_openToHigh cX0_openToHigh 3 (some .int), Cond.methodLink RX0 96 yX0_has, Cond.static yX0_has, Cond.code yX0_has cX0_has 2 (some .boolean), Cond.methodLink RX0 147 yX0_spentToday, Cond.instanceMethod yX0_spentToday]
def wsX0_pass_r4 : List Cond := [Cond.selects RX0 yX0_spentToday yX0_spentToday, Cond.code yX0_spentToday cX0_spentToday 2 (some .int), Cond.fieldLink RX0 35 "PushNotices" "quotaDay" "[I", Cond.fieldLink RX0 38 "PushNotices" "quotaSpent" "[I", Cond.methodLink RX0 187 yX0_deliver, Cond.instanceMethod yX0_deliver, Cond.selects RX0 yX0_deliver yX0_deliver, Cond.code yX0_deliver cX0_deliver 3 none, Cond.fieldLink RX0 54 "PushNotices" "deliveredSet" "[I", Cond.methodLink RX0 135 yJ6_bitCount_0f7a4, Cond.static yJ6_bitCount_0f7a4, Cond.initialized RJ6, Cond.code yJ6_bitCount_0f7a4 cJ6_bitCount_0f7a4 1 (some .int), Cond.constant RJ6 265 (1431655765), Cond.constant RJ6 266 (858993459), Cond.constant RJ6 267 (252645135), Cond.methodLink RX0 190 yX0_spendQuota, Cond.instanceMethod yX0_spendQuota, Cond.selects RX0 yX0_spendQuota yX0_spendQuota, Cond.code yX0_spendQuota cX0_spendQuota 3 none]
def wsX0_pass : List Cond := .code yX0_pass cX0_pass 5 (some .int) :: ((wsX0_pass_r1 ++ (wsX0_pass_r2 ++ (wsX0_pass_r3 ++ wsX0_pass_r4))) ++ wsX00 ++ (vx_atS RX0 77 "java/lang/IllegalStateException" ["java/lang/RuntimeException", "java/lang/Exception"]).filter goodWord ++ (vx_atS RX0 165 "java/lang/IllegalArgumentException" ["java/lang/RuntimeException", "java/lang/Exception"]).filter goodWord)
def wsX0_clock : List Cond := .code yX0_clock cX0_clock 1 (some .int) :: ([.fieldLink RX0 63 "PushNotices" "minute" "I"] ++ wsX00)
def wsX0_deliveries : List Cond := .code yX0_deliveries cX0_deliveries 1 (some .int) :: ([.fieldLink RX0 66 "PushNotices" "deliveryCount" "I"] ++ wsX00)
def wsX1_init : List Cond := .code yX1_init cX1_init 1 none :: ([.methodLink RX1 1 objectInit, .instanceMethod objectInit, .code objectInit ⟨#[0xb1]⟩ 1 none, .arrayClass .int, .fieldLink RX1 7 "PushNoticesModel" "owners" "[I", .fieldLink RX1 13 "PushNoticesModel" "offsets" "[I", .arrayClass .boolean, .fieldLink RX1 16 "PushNoticesModel" "isOnline" "[Z", .fieldLink RX1 20 "PushNoticesModel" "isDozing" "[Z", .fieldLink RX1 23 "PushNoticesModel" "isDead" "[Z", .fieldLink RX1 26 "PushNoticesModel" "froms" "[I", .fieldLink RX1 29 "PushNoticesModel" "tos" "[I", .fieldLink RX1 32 "PushNoticesModel" "joined" "[I", .fieldLink RX1 35 "PushNoticesModel" "days" "[I", .fieldLink RX1 38 "PushNoticesModel" "spent" "[I", .fieldLink RX1 41 "PushNoticesModel" "isHigh" "[Z", .fieldLink RX1 44 "PushNoticesModel" "ends" "[I", .fieldLink RX1 47 "PushNoticesModel" "users" "[I", .fieldLink RX1 50 "PushNoticesModel" "keys" "[I", .fieldLink RX1 53 "PushNoticesModel" "isOver" "[Z", .fieldLink RX1 56 "PushNoticesModel" "waits" "[I", .fieldLink RX1 59 "PushNoticesModel" "delivered" "[I"] ++ wsX10)
def wsX1_thrown : List Cond := .code yX1_thrown cX1_thrown 1 (some .int) :: ([.fieldLink RX1 62 "PushNoticesModel" "refusal" "I"] ++ wsX10)
def wsX1_refused : List Cond := .code yX1_refused cX1_refused 2 (some .boolean) :: ([.fieldLink RX1 62 "PushNoticesModel" "refusal" "I"] ++ wsX10)
def wsX1_fine : List Cond := .code yX1_fine cX1_fine 2 (some .int) :: ([.fieldLink RX1 62 "PushNoticesModel" "refusal" "I"] ++ wsX10)
def wsX1_in : List Cond := .code yX1_in cX1_in 3 (some .boolean) :: ([])
def wsX1_isDevice : List Cond := .code yX1_isDevice cX1_isDevice 2 (some .boolean) :: ([.fieldLink RX1 66 "PushNoticesModel" "devices" "I", .methodLink RX1 69 yX1_in, .static yX1_in, .initialized RX1, .code yX1_in cX1_in 3 (some .boolean)] ++ wsX10)
def wsX1_isNotice : List Cond := .code yX1_isNotice cX1_isNotice 2 (some .boolean) :: ([.fieldLink RX1 73 "PushNoticesModel" "notices" "I", .methodLink RX1 69 yX1_in, .static yX1_in, .initialized RX1, .code yX1_in cX1_in 3 (some .boolean)] ++ wsX10)
def wsX1_isQuietNow : List Cond := .code yX1_isQuietNow cX1_isQuietNow 5 (some .boolean) :: ([.fieldLink RX1 76 "PushNoticesModel" "clock" "I", .fieldLink RX1 13 "PushNoticesModel" "offsets" "[I", .fieldLink RX1 26 "PushNoticesModel" "froms" "[I", .fieldLink RX1 29 "PushNoticesModel" "tos" "[I"] ++ wsX10)
def wsX1_used : List Cond := .code yX1_used cX1_used 2 (some .int) :: ([.fieldLink RX1 35 "PushNoticesModel" "days" "[I", .fieldLink RX1 76 "PushNoticesModel" "clock" "I", .fieldLink RX1 38 "PushNoticesModel" "spent" "[I"] ++ wsX10)
def wsX1_can : List Cond := .code yX1_can cX1_can 3 (some .boolean) :: ([.fieldLink RX1 16 "PushNoticesModel" "isOnline" "[Z", .fieldLink RX1 41 "PushNoticesModel" "isHigh" "[Z", .fieldLink RX1 20 "PushNoticesModel" "isDozing" "[Z", .fieldLink RX1 76 "PushNoticesModel" "clock" "I", .methodLink RX1 79 yX1_used, .instanceMethod yX1_used, .selects RX1 yX1_used yX1_used, .initialized RX1, .code yX1_used cX1_used 2 (some .int), .fieldLink RX1 35 "PushNoticesModel" "days" "[I", .fieldLink RX1 38 "PushNoticesModel" "spent" "[I", .methodLink RX1 83 yX1_isQuietNow, .instanceMethod yX1_isQuietNow, .selects RX1 yX1_isQuietNow yX1_isQuietNow, .code yX1_isQuietNow cX1_isQuietNow 5 (some .boolean), .fieldLink RX1 13 "PushNoticesModel" "offsets" "[I", .fieldLink RX1 26 "PushNoticesModel" "froms" "[I", .fieldLink RX1 29 "PushNoticesModel" "tos" "[I"] ++ wsX10)
def wsX1_deliver : List Cond := .code yX1_deliver cX1_deliver 3 none :: ([.fieldLink RX1 56 "PushNoticesModel" "waits" "[I", .fieldLink RX1 59 "PushNoticesModel" "delivered" "[I", .fieldLink RX1 87 "PushNoticesModel" "deliveries" "I", .fieldLink RX1 41 "PushNoticesModel" "isHigh" "[Z", .fieldLink RX1 20 "PushNoticesModel" "isDozing" "[Z", .fieldLink RX1 38 "PushNoticesModel" "spent" "[I", .fieldLink RX1 35 "PushNoticesModel" "days" "[I", .fieldLink RX1 76 "PushNoticesModel" "clock" "I", .methodLink RX1 79 yX1_used, .instanceMethod yX1_used, .selects RX1 yX1_used yX1_used, .initialized RX1, .code yX1_used cX1_used 2 (some .int)] ++ wsX10)
def wsX1_look_r1 : List Cond := [Cond.fieldLink RX1 87 "PushNoticesModel" "deliveries" "I", Cond.fieldLink RX1 66 "PushNoticesModel" "devices" "I", Cond.fieldLink RX1 73 "PushNoticesModel" "notices" "I", Cond.fieldLink RX1 56 "PushNoticesModel" "waits" "[I", Cond.methodLink RX1 90 yX1_can, Cond.instanceMethod yX1_can, Cond.selects RX1 yX1_can yX1_can, Cond.initialized RX1, Cond.code yX1_can cX1_can 3 (some .boolean), Cond.fieldLink RX1 16 "PushNoticesModel" "isOnline" "[Z", Cond.fieldLink RX1 41 "PushNoticesModel" "isHigh" "[Z", Cond.fieldLink RX1 20 "PushNoticesModel" "isDozing" "[Z", Cond.fieldLink RX1 76 "PushNoticesModel" "clock" "I", Cond.methodLink RX1 79 yX1_used, Cond.instanceMethod yX1_used, Cond.selects RX1 yX1_used yX1_used, Cond.code yX1_used cX1_used 2 (some .int), Cond.fieldLink RX1 35 "PushNoticesModel" "days" "[I", Cond.fieldLink RX1 38 "PushNoticesModel" "spent" "[I", Cond.methodLink RX1 83 yX1_isQuietNow, Cond.instanceMethod yX1_isQuietNow, Cond.selects RX1 yX1_isQuietNow yX1_isQuietNow, Cond.code yX1_isQuietNow cX1_isQuietNow 5 (some .boolean), Cond.fieldLink RX1 13 "PushNoticesModel" "offsets" "[I"]
def wsX1_look_r2 : List Cond := [Cond.fieldLink RX1 26 "PushNoticesModel" "froms" "[I", Cond.fieldLink RX1 29 "PushNoticesModel" "tos" "[I", Cond.methodLink RX1 94 yX1_deliver, Cond.instanceMethod yX1_deliver, Cond.selects RX1 yX1_deliver yX1_deliver, Cond.code yX1_deliver cX1_deliver 3 none, Cond.fieldLink RX1 59 "PushNoticesModel" "delivered" "[I"]
def wsX1_look : List Cond := .code yX1_look cX1_look 4 (some .int) :: ((wsX1_look_r1 ++ wsX1_look_r2) ++ wsX10)
def wsX1_end : List Cond := .code yX1_end cX1_end 2 none :: ([.fieldLink RX1 53 "PushNoticesModel" "isOver" "[Z", .fieldLink RX1 56 "PushNoticesModel" "waits" "[I"] ++ wsX10)
def wsX1_addDevice : List Cond := .code yX1_addDevice cX1_addDevice 4 (some .int) :: ([.fieldLink RX1 66 "PushNoticesModel" "devices" "I", .fieldLink RX1 7 "PushNoticesModel" "owners" "[I", .fieldLink RX1 13 "PushNoticesModel" "offsets" "[I", .fieldLink RX1 16 "PushNoticesModel" "isOnline" "[Z", .methodLink RX1 69 yX1_in, .static yX1_in, .initialized RX1, .code yX1_in cX1_in 3 (some .boolean), .methodLink RX1 98 yX1_refused, .instanceMethod yX1_refused, .selects RX1 yX1_refused yX1_refused, .code yX1_refused cX1_refused 2 (some .boolean), .fieldLink RX1 62 "PushNoticesModel" "refusal" "I"] ++ wsX10)
def wsX1_setOnline_r1 : List Cond := [Cond.fieldLink RX1 16 "PushNoticesModel" "isOnline" "[Z", Cond.methodLink RX1 101 yX1_isDevice, Cond.instanceMethod yX1_isDevice, Cond.selects RX1 yX1_isDevice yX1_isDevice, Cond.initialized RX1, Cond.code yX1_isDevice cX1_isDevice 2 (some .boolean), Cond.fieldLink RX1 66 "PushNoticesModel" "devices" "I", Cond.methodLink RX1 69 yX1_in, Cond.static yX1_in, Cond.code yX1_in cX1_in 3 (some .boolean), Cond.methodLink RX1 98 yX1_refused, Cond.instanceMethod yX1_refused, Cond.selects RX1 yX1_refused yX1_refused, Cond.code yX1_refused cX1_refused 2 (some .boolean), Cond.fieldLink RX1 62 "PushNoticesModel" "refusal" "I", Cond.methodLink RX1 104 yX1_look, Cond.instanceMethod yX1_look, Cond.selects RX1 yX1_look yX1_look, Cond.code yX1_look cX1_look 4 (some .int), Cond.fieldLink RX1 87 "PushNoticesModel" "deliveries" "I", Cond.fieldLink RX1 73 "PushNoticesModel" "notices" "I", Cond.fieldLink RX1 56 "PushNoticesModel" "waits" "[I", Cond.methodLink RX1 90 yX1_can, Cond.instanceMethod yX1_can]
def wsX1_setOnline_r2 : List Cond := [Cond.selects RX1 yX1_can yX1_can, Cond.code yX1_can cX1_can 3 (some .boolean), Cond.fieldLink RX1 41 "PushNoticesModel" "isHigh" "[Z", Cond.fieldLink RX1 20 "PushNoticesModel" "isDozing" "[Z", Cond.fieldLink RX1 76 "PushNoticesModel" "clock" "I", Cond.methodLink RX1 79 yX1_used, Cond.instanceMethod yX1_used, Cond.selects RX1 yX1_used yX1_used, Cond.code yX1_used cX1_used 2 (some .int), Cond.fieldLink RX1 35 "PushNoticesModel" "days" "[I", Cond.fieldLink RX1 38 "PushNoticesModel" "spent" "[I", Cond.methodLink RX1 83 yX1_isQuietNow, Cond.instanceMethod yX1_isQuietNow, Cond.selects RX1 yX1_isQuietNow yX1_isQuietNow, Cond.code yX1_isQuietNow cX1_isQuietNow 5 (some .boolean), Cond.fieldLink RX1 13 "PushNoticesModel" "offsets" "[I", Cond.fieldLink RX1 26 "PushNoticesModel" "froms" "[I", Cond.fieldLink RX1 29 "PushNoticesModel" "tos" "[I", Cond.methodLink RX1 94 yX1_deliver, Cond.instanceMethod yX1_deliver, Cond.selects RX1 yX1_deliver yX1_deliver, Cond.code yX1_deliver cX1_deliver 3 none, Cond.fieldLink RX1 59 "PushNoticesModel" "delivered" "[I"]
def wsX1_setOnline : List Cond := .code yX1_setOnline cX1_setOnline 3 (some .int) :: ((wsX1_setOnline_r1 ++ wsX1_setOnline_r2) ++ wsX10)
def wsX1_setDozing_r1 : List Cond := [Cond.fieldLink RX1 20 "PushNoticesModel" "isDozing" "[Z", Cond.methodLink RX1 101 yX1_isDevice, Cond.instanceMethod yX1_isDevice, Cond.selects RX1 yX1_isDevice yX1_isDevice, Cond.initialized RX1, Cond.code yX1_isDevice cX1_isDevice 2 (some .boolean), Cond.fieldLink RX1 66 "PushNoticesModel" "devices" "I", Cond.methodLink RX1 69 yX1_in, Cond.static yX1_in, Cond.code yX1_in cX1_in 3 (some .boolean), Cond.methodLink RX1 98 yX1_refused, Cond.instanceMethod yX1_refused, Cond.selects RX1 yX1_refused yX1_refused, Cond.code yX1_refused cX1_refused 2 (some .boolean), Cond.fieldLink RX1 62 "PushNoticesModel" "refusal" "I", Cond.methodLink RX1 104 yX1_look, Cond.instanceMethod yX1_look, Cond.selects RX1 yX1_look yX1_look, Cond.code yX1_look cX1_look 4 (some .int), Cond.fieldLink RX1 87 "PushNoticesModel" "deliveries" "I", Cond.fieldLink RX1 73 "PushNoticesModel" "notices" "I", Cond.fieldLink RX1 56 "PushNoticesModel" "waits" "[I", Cond.methodLink RX1 90 yX1_can, Cond.instanceMethod yX1_can]
def wsX1_setDozing_r2 : List Cond := [Cond.selects RX1 yX1_can yX1_can, Cond.code yX1_can cX1_can 3 (some .boolean), Cond.fieldLink RX1 16 "PushNoticesModel" "isOnline" "[Z", Cond.fieldLink RX1 41 "PushNoticesModel" "isHigh" "[Z", Cond.fieldLink RX1 76 "PushNoticesModel" "clock" "I", Cond.methodLink RX1 79 yX1_used, Cond.instanceMethod yX1_used, Cond.selects RX1 yX1_used yX1_used, Cond.code yX1_used cX1_used 2 (some .int), Cond.fieldLink RX1 35 "PushNoticesModel" "days" "[I", Cond.fieldLink RX1 38 "PushNoticesModel" "spent" "[I", Cond.methodLink RX1 83 yX1_isQuietNow, Cond.instanceMethod yX1_isQuietNow, Cond.selects RX1 yX1_isQuietNow yX1_isQuietNow, Cond.code yX1_isQuietNow cX1_isQuietNow 5 (some .boolean), Cond.fieldLink RX1 13 "PushNoticesModel" "offsets" "[I", Cond.fieldLink RX1 26 "PushNoticesModel" "froms" "[I", Cond.fieldLink RX1 29 "PushNoticesModel" "tos" "[I", Cond.methodLink RX1 94 yX1_deliver, Cond.instanceMethod yX1_deliver, Cond.selects RX1 yX1_deliver yX1_deliver, Cond.code yX1_deliver cX1_deliver 3 none, Cond.fieldLink RX1 59 "PushNoticesModel" "delivered" "[I"]
def wsX1_setDozing : List Cond := .code yX1_setDozing cX1_setDozing 3 (some .int) :: ((wsX1_setDozing_r1 ++ wsX1_setDozing_r2) ++ wsX10)
def wsX1_setQuiet_r1 : List Cond := [Cond.fieldLink RX1 26 "PushNoticesModel" "froms" "[I", Cond.fieldLink RX1 29 "PushNoticesModel" "tos" "[I", Cond.methodLink RX1 101 yX1_isDevice, Cond.instanceMethod yX1_isDevice, Cond.selects RX1 yX1_isDevice yX1_isDevice, Cond.initialized RX1, Cond.code yX1_isDevice cX1_isDevice 2 (some .boolean), Cond.fieldLink RX1 66 "PushNoticesModel" "devices" "I", Cond.methodLink RX1 69 yX1_in, Cond.static yX1_in, Cond.code yX1_in cX1_in 3 (some .boolean), Cond.methodLink RX1 98 yX1_refused, Cond.instanceMethod yX1_refused, Cond.selects RX1 yX1_refused yX1_refused, Cond.code yX1_refused cX1_refused 2 (some .boolean), Cond.fieldLink RX1 62 "PushNoticesModel" "refusal" "I", Cond.methodLink RX1 104 yX1_look, Cond.instanceMethod yX1_look, Cond.selects RX1 yX1_look yX1_look, Cond.code yX1_look cX1_look 4 (some .int), Cond.fieldLink RX1 87 "PushNoticesModel" "deliveries" "I", Cond.fieldLink RX1 73 "PushNoticesModel" "notices" "I", Cond.fieldLink RX1 56 "PushNoticesModel" "waits" "[I", Cond.methodLink RX1 90 yX1_can]
def wsX1_setQuiet_r2 : List Cond := [Cond.instanceMethod yX1_can, Cond.selects RX1 yX1_can yX1_can, Cond.code yX1_can cX1_can 3 (some .boolean), Cond.fieldLink RX1 16 "PushNoticesModel" "isOnline" "[Z", Cond.fieldLink RX1 41 "PushNoticesModel" "isHigh" "[Z", Cond.fieldLink RX1 20 "PushNoticesModel" "isDozing" "[Z", Cond.fieldLink RX1 76 "PushNoticesModel" "clock" "I", Cond.methodLink RX1 79 yX1_used, Cond.instanceMethod yX1_used, Cond.selects RX1 yX1_used yX1_used, Cond.code yX1_used cX1_used 2 (some .int), Cond.fieldLink RX1 35 "PushNoticesModel" "days" "[I", Cond.fieldLink RX1 38 "PushNoticesModel" "spent" "[I", Cond.methodLink RX1 83 yX1_isQuietNow, Cond.instanceMethod yX1_isQuietNow, Cond.selects RX1 yX1_isQuietNow yX1_isQuietNow, Cond.code yX1_isQuietNow cX1_isQuietNow 5 (some .boolean), Cond.fieldLink RX1 13 "PushNoticesModel" "offsets" "[I", Cond.methodLink RX1 94 yX1_deliver, Cond.instanceMethod yX1_deliver, Cond.selects RX1 yX1_deliver yX1_deliver, Cond.code yX1_deliver cX1_deliver 3 none, Cond.fieldLink RX1 59 "PushNoticesModel" "delivered" "[I"]
def wsX1_setQuiet : List Cond := .code yX1_setQuiet cX1_setQuiet 4 (some .int) :: ((wsX1_setQuiet_r1 ++ wsX1_setQuiet_r2) ++ wsX10)
def wsX1_join : List Cond := .code yX1_join cX1_join 5 (some .boolean) :: ([.fieldLink RX1 32 "PushNoticesModel" "joined" "[I", .methodLink RX1 101 yX1_isDevice, .instanceMethod yX1_isDevice, .selects RX1 yX1_isDevice yX1_isDevice, .initialized RX1, .code yX1_isDevice cX1_isDevice 2 (some .boolean), .fieldLink RX1 66 "PushNoticesModel" "devices" "I", .methodLink RX1 69 yX1_in, .static yX1_in, .code yX1_in cX1_in 3 (some .boolean), .methodLink RX1 98 yX1_refused, .instanceMethod yX1_refused, .selects RX1 yX1_refused yX1_refused, .code yX1_refused cX1_refused 2 (some .boolean), .fieldLink RX1 62 "PushNoticesModel" "refusal" "I"] ++ wsX10)
def wsX1_countWaiting : List Cond := .code yX1_countWaiting cX1_countWaiting 4 (some .int) :: ([.fieldLink RX1 73 "PushNoticesModel" "notices" "I", .fieldLink RX1 56 "PushNoticesModel" "waits" "[I"] ++ wsX10)
def wsX1_kill : List Cond := .code yX1_kill cX1_kill 4 (some .int) :: ([.fieldLink RX1 23 "PushNoticesModel" "isDead" "[Z", .fieldLink RX1 73 "PushNoticesModel" "notices" "I", .fieldLink RX1 56 "PushNoticesModel" "waits" "[I", .methodLink RX1 101 yX1_isDevice, .instanceMethod yX1_isDevice, .selects RX1 yX1_isDevice yX1_isDevice, .initialized RX1, .code yX1_isDevice cX1_isDevice 2 (some .boolean), .fieldLink RX1 66 "PushNoticesModel" "devices" "I", .methodLink RX1 69 yX1_in, .static yX1_in, .code yX1_in cX1_in 3 (some .boolean), .methodLink RX1 98 yX1_refused, .instanceMethod yX1_refused, .selects RX1 yX1_refused yX1_refused, .code yX1_refused cX1_refused 2 (some .boolean), .fieldLink RX1 62 "PushNoticesModel" "refusal" "I", .methodLink RX1 108 yX1_countWaiting, .instanceMethod yX1_countWaiting, .selects RX1 yX1_countWaiting yX1_countWaiting, .code yX1_countWaiting cX1_countWaiting 4 (some .int)] ++ wsX10)
def wsX1_devices : List Cond := .code yX1_devices cX1_devices 1 (some .int) :: ([.fieldLink RX1 66 "PushNoticesModel" "devices" "I", .methodLink RX1 111 yX1_fine, .instanceMethod yX1_fine, .selects RX1 yX1_fine yX1_fine, .initialized RX1, .code yX1_fine cX1_fine 2 (some .int), .fieldLink RX1 62 "PushNoticesModel" "refusal" "I"] ++ wsX10)
def wsX1_isQuiet : List Cond := .code yX1_isQuiet cX1_isQuiet 2 (some .boolean) :: ([.methodLink RX1 101 yX1_isDevice, .instanceMethod yX1_isDevice, .selects RX1 yX1_isDevice yX1_isDevice, .initialized RX1, .code yX1_isDevice cX1_isDevice 2 (some .boolean), .fieldLink RX1 66 "PushNoticesModel" "devices" "I", .methodLink RX1 69 yX1_in, .static yX1_in, .code yX1_in cX1_in 3 (some .boolean), .methodLink RX1 98 yX1_refused, .instanceMethod yX1_refused, .selects RX1 yX1_refused yX1_refused, .code yX1_refused cX1_refused 2 (some .boolean), .fieldLink RX1 62 "PushNoticesModel" "refusal" "I", .methodLink RX1 83 yX1_isQuietNow, .instanceMethod yX1_isQuietNow, .selects RX1 yX1_isQuietNow yX1_isQuietNow, .code yX1_isQuietNow cX1_isQuietNow 5 (some .boolean), .fieldLink RX1 76 "PushNoticesModel" "clock" "I", .fieldLink RX1 13 "PushNoticesModel" "offsets" "[I", .fieldLink RX1 26 "PushNoticesModel" "froms" "[I", .fieldLink RX1 29 "PushNoticesModel" "tos" "[I"] ++ wsX10)
def wsX1_standingNow : List Cond := .code yX1_standingNow cX1_standingNow 5 (some .int) :: ([.fieldLink RX1 73 "PushNoticesModel" "notices" "I", .fieldLink RX1 47 "PushNoticesModel" "users" "[I", .fieldLink RX1 50 "PushNoticesModel" "keys" "[I", .fieldLink RX1 53 "PushNoticesModel" "isOver" "[Z"] ++ wsX10)
def wsX1_add_r1 : List Cond := [Cond.fieldLink RX1 47 "PushNoticesModel" "users" "[I", Cond.fieldLink RX1 73 "PushNoticesModel" "notices" "I", Cond.fieldLink RX1 50 "PushNoticesModel" "keys" "[I", Cond.fieldLink RX1 41 "PushNoticesModel" "isHigh" "[Z", Cond.fieldLink RX1 44 "PushNoticesModel" "ends" "[I", Cond.fieldLink RX1 76 "PushNoticesModel" "clock" "I", Cond.fieldLink RX1 56 "PushNoticesModel" "waits" "[I", Cond.methodLink RX1 104 yX1_look, Cond.instanceMethod yX1_look, Cond.selects RX1 yX1_look yX1_look, Cond.initialized RX1, Cond.code yX1_look cX1_look 4 (some .int), Cond.fieldLink RX1 87 "PushNoticesModel" "deliveries" "I", Cond.fieldLink RX1 66 "PushNoticesModel" "devices" "I", Cond.methodLink RX1 90 yX1_can, Cond.instanceMethod yX1_can, Cond.selects RX1 yX1_can yX1_can, Cond.code yX1_can cX1_can 3 (some .boolean), Cond.fieldLink RX1 16 "PushNoticesModel" "isOnline" "[Z", Cond.fieldLink RX1 20 "PushNoticesModel" "isDozing" "[Z", Cond.methodLink RX1 79 yX1_used, Cond.instanceMethod yX1_used, Cond.selects RX1 yX1_used yX1_used, Cond.code yX1_used cX1_used 2 (some .int)]
def wsX1_add_r2 : List Cond := [Cond.fieldLink RX1 35 "PushNoticesModel" "days" "[I", Cond.fieldLink RX1 38 "PushNoticesModel" "spent" "[I", Cond.methodLink RX1 83 yX1_isQuietNow, Cond.instanceMethod yX1_isQuietNow, Cond.selects RX1 yX1_isQuietNow yX1_isQuietNow, Cond.code yX1_isQuietNow cX1_isQuietNow 5 (some .boolean), Cond.fieldLink RX1 13 "PushNoticesModel" "offsets" "[I", Cond.fieldLink RX1 26 "PushNoticesModel" "froms" "[I", Cond.fieldLink RX1 29 "PushNoticesModel" "tos" "[I", Cond.methodLink RX1 94 yX1_deliver, Cond.instanceMethod yX1_deliver, Cond.selects RX1 yX1_deliver yX1_deliver, Cond.code yX1_deliver cX1_deliver 3 none, Cond.fieldLink RX1 59 "PushNoticesModel" "delivered" "[I"]
def wsX1_add : List Cond := .code yX1_add cX1_add 6 (some .int) :: ((wsX1_add_r1 ++ wsX1_add_r2) ++ wsX10)
def wsX1_send_r1 : List Cond := [Cond.fieldLink RX1 73 "PushNoticesModel" "notices" "I", Cond.fieldLink RX1 66 "PushNoticesModel" "devices" "I", Cond.fieldLink RX1 7 "PushNoticesModel" "owners" "[I", Cond.fieldLink RX1 23 "PushNoticesModel" "isDead" "[Z", Cond.methodLink RX1 69 yX1_in, Cond.static yX1_in, Cond.initialized RX1, Cond.code yX1_in cX1_in 3 (some .boolean), Cond.methodLink RX1 98 yX1_refused, Cond.instanceMethod yX1_refused, Cond.selects RX1 yX1_refused yX1_refused, Cond.code yX1_refused cX1_refused 2 (some .boolean), Cond.fieldLink RX1 62 "PushNoticesModel" "refusal" "I", Cond.methodLink RX1 114 yX1_standingNow, Cond.instanceMethod yX1_standingNow, Cond.selects RX1 yX1_standingNow yX1_standingNow, Cond.code yX1_standingNow cX1_standingNow 5 (some .int), Cond.fieldLink RX1 47 "PushNoticesModel" "users" "[I", Cond.fieldLink RX1 50 "PushNoticesModel" "keys" "[I", Cond.fieldLink RX1 53 "PushNoticesModel" "isOver" "[Z", Cond.methodLink RX1 118 yX1_end, Cond.instanceMethod yX1_end, Cond.selects RX1 yX1_end yX1_end, Cond.code yX1_end cX1_end 2 none]
def wsX1_send_r2 : List Cond := [Cond.fieldLink RX1 56 "PushNoticesModel" "waits" "[I", Cond.methodLink RX1 122 yX1_add, Cond.instanceMethod yX1_add, Cond.selects RX1 yX1_add yX1_add, Cond.code yX1_add cX1_add 6 (some .int), Cond.fieldLink RX1 41 "PushNoticesModel" "isHigh" "[Z", Cond.fieldLink RX1 44 "PushNoticesModel" "ends" "[I", Cond.fieldLink RX1 76 "PushNoticesModel" "clock" "I", Cond.methodLink RX1 104 yX1_look, Cond.instanceMethod yX1_look, Cond.selects RX1 yX1_look yX1_look, Cond.code yX1_look cX1_look 4 (some .int), Cond.fieldLink RX1 87 "PushNoticesModel" "deliveries" "I", Cond.methodLink RX1 90 yX1_can, Cond.instanceMethod yX1_can, Cond.selects RX1 yX1_can yX1_can, Cond.code yX1_can cX1_can 3 (some .boolean), Cond.fieldLink RX1 16 "PushNoticesModel" "isOnline" "[Z", Cond.fieldLink RX1 20 "PushNoticesModel" "isDozing" "[Z", Cond.methodLink RX1 79 yX1_used, Cond.instanceMethod yX1_used, Cond.selects RX1 yX1_used yX1_used, Cond.code yX1_used cX1_used 2 (some .int), Cond.fieldLink RX1 35 "PushNoticesModel" "days" "[I"]
def wsX1_send_r3 : List Cond := [Cond.fieldLink RX1 38 "PushNoticesModel" "spent" "[I", Cond.methodLink RX1 83 yX1_isQuietNow, Cond.instanceMethod yX1_isQuietNow, Cond.selects RX1 yX1_isQuietNow yX1_isQuietNow, Cond.code yX1_isQuietNow cX1_isQuietNow 5 (some .boolean), Cond.fieldLink RX1 13 "PushNoticesModel" "offsets" "[I", Cond.fieldLink RX1 26 "PushNoticesModel" "froms" "[I", Cond.fieldLink RX1 29 "PushNoticesModel" "tos" "[I", Cond.methodLink RX1 94 yX1_deliver, Cond.instanceMethod yX1_deliver, Cond.selects RX1 yX1_deliver yX1_deliver, Cond.code yX1_deliver cX1_deliver 3 none, Cond.fieldLink RX1 59 "PushNoticesModel" "delivered" "[I"]
def wsX1_send : List Cond := .code yX1_send cX1_send 9 (some .int) :: ((wsX1_send_r1 ++ (wsX1_send_r2 ++ wsX1_send_r3)) ++ wsX10)
def wsX1_sendBy_r1 : List Cond := [Cond.fieldLink RX1 73 "PushNoticesModel" "notices" "I", Cond.fieldLink RX1 66 "PushNoticesModel" "devices" "I", Cond.fieldLink RX1 32 "PushNoticesModel" "joined" "[I", Cond.fieldLink RX1 23 "PushNoticesModel" "isDead" "[Z", Cond.methodLink RX1 69 yX1_in, Cond.static yX1_in, Cond.initialized RX1, Cond.code yX1_in cX1_in 3 (some .boolean), Cond.methodLink RX1 98 yX1_refused, Cond.instanceMethod yX1_refused, Cond.selects RX1 yX1_refused yX1_refused, Cond.code yX1_refused cX1_refused 2 (some .boolean), Cond.fieldLink RX1 62 "PushNoticesModel" "refusal" "I", Cond.methodLink RX1 122 yX1_add, Cond.instanceMethod yX1_add, Cond.selects RX1 yX1_add yX1_add, Cond.code yX1_add cX1_add 6 (some .int), Cond.fieldLink RX1 47 "PushNoticesModel" "users" "[I", Cond.fieldLink RX1 50 "PushNoticesModel" "keys" "[I", Cond.fieldLink RX1 41 "PushNoticesModel" "isHigh" "[Z", Cond.fieldLink RX1 44 "PushNoticesModel" "ends" "[I", Cond.fieldLink RX1 76 "PushNoticesModel" "clock" "I", Cond.fieldLink RX1 56 "PushNoticesModel" "waits" "[I", Cond.methodLink RX1 104 yX1_look]
def wsX1_sendBy_r2 : List Cond := [Cond.instanceMethod yX1_look, Cond.selects RX1 yX1_look yX1_look, Cond.code yX1_look cX1_look 4 (some .int), Cond.fieldLink RX1 87 "PushNoticesModel" "deliveries" "I", Cond.methodLink RX1 90 yX1_can, Cond.instanceMethod yX1_can, Cond.selects RX1 yX1_can yX1_can, Cond.code yX1_can cX1_can 3 (some .boolean), Cond.fieldLink RX1 16 "PushNoticesModel" "isOnline" "[Z", Cond.fieldLink RX1 20 "PushNoticesModel" "isDozing" "[Z", Cond.methodLink RX1 79 yX1_used, Cond.instanceMethod yX1_used, Cond.selects RX1 yX1_used yX1_used, Cond.code yX1_used cX1_used 2 (some .int), Cond.fieldLink RX1 35 "PushNoticesModel" "days" "[I", Cond.fieldLink RX1 38 "PushNoticesModel" "spent" "[I", Cond.methodLink RX1 83 yX1_isQuietNow, Cond.instanceMethod yX1_isQuietNow, Cond.selects RX1 yX1_isQuietNow yX1_isQuietNow, Cond.code yX1_isQuietNow cX1_isQuietNow 5 (some .boolean), Cond.fieldLink RX1 13 "PushNoticesModel" "offsets" "[I", Cond.fieldLink RX1 26 "PushNoticesModel" "froms" "[I", Cond.fieldLink RX1 29 "PushNoticesModel" "tos" "[I", Cond.methodLink RX1 94 yX1_deliver]
def wsX1_sendBy_r3 : List Cond := [Cond.instanceMethod yX1_deliver, Cond.selects RX1 yX1_deliver yX1_deliver, Cond.code yX1_deliver cX1_deliver 3 none, Cond.fieldLink RX1 59 "PushNoticesModel" "delivered" "[I"]
def wsX1_sendBy : List Cond := .code yX1_sendBy cX1_sendBy 12 (some .int) :: ((wsX1_sendBy_r1 ++ (wsX1_sendBy_r2 ++ wsX1_sendBy_r3)) ++ wsX10)
def wsX1_bits : List Cond := .code yX1_bits cX1_bits 3 (some .int) :: ([])
def wsX1_read_r1 : List Cond := [Cond.fieldLink RX1 59 "PushNoticesModel" "delivered" "[I", Cond.fieldLink RX1 53 "PushNoticesModel" "isOver" "[Z", Cond.fieldLink RX1 56 "PushNoticesModel" "waits" "[I", Cond.methodLink RX1 101 yX1_isDevice, Cond.instanceMethod yX1_isDevice, Cond.selects RX1 yX1_isDevice yX1_isDevice, Cond.initialized RX1, Cond.code yX1_isDevice cX1_isDevice 2 (some .boolean), Cond.fieldLink RX1 66 "PushNoticesModel" "devices" "I", Cond.methodLink RX1 69 yX1_in, Cond.static yX1_in, Cond.code yX1_in cX1_in 3 (some .boolean), Cond.methodLink RX1 126 yX1_isNotice, Cond.instanceMethod yX1_isNotice, Cond.selects RX1 yX1_isNotice yX1_isNotice, Cond.code yX1_isNotice cX1_isNotice 2 (some .boolean), Cond.fieldLink RX1 73 "PushNoticesModel" "notices" "I", Cond.methodLink RX1 98 yX1_refused, Cond.instanceMethod yX1_refused, Cond.selects RX1 yX1_refused yX1_refused, Cond.code yX1_refused cX1_refused 2 (some .boolean), Cond.fieldLink RX1 62 "PushNoticesModel" "refusal" "I", Cond.methodLink RX1 129 yX1_bits, Cond.static yX1_bits]
def wsX1_read_r2 : List Cond := [Cond.code yX1_bits cX1_bits 3 (some .int), Cond.methodLink RX1 118 yX1_end, Cond.instanceMethod yX1_end, Cond.selects RX1 yX1_end yX1_end, Cond.code yX1_end cX1_end 2 none]
def wsX1_read : List Cond := .code yX1_read cX1_read 6 (some .int) :: ((wsX1_read_r1 ++ wsX1_read_r2) ++ wsX10)
def wsX1_sent : List Cond := .code yX1_sent cX1_sent 1 (some .int) :: ([.fieldLink RX1 73 "PushNoticesModel" "notices" "I", .methodLink RX1 111 yX1_fine, .instanceMethod yX1_fine, .selects RX1 yX1_fine yX1_fine, .initialized RX1, .code yX1_fine cX1_fine 2 (some .int), .fieldLink RX1 62 "PushNoticesModel" "refusal" "I"] ++ wsX10)
def wsX1_noNotice : List Cond := .code yX1_noNotice cX1_noNotice 2 (some .boolean) :: ([.methodLink RX1 126 yX1_isNotice, .instanceMethod yX1_isNotice, .selects RX1 yX1_isNotice yX1_isNotice, .initialized RX1, .code yX1_isNotice cX1_isNotice 2 (some .boolean), .fieldLink RX1 73 "PushNoticesModel" "notices" "I", .methodLink RX1 69 yX1_in, .static yX1_in, .code yX1_in cX1_in 3 (some .boolean), .methodLink RX1 98 yX1_refused, .instanceMethod yX1_refused, .selects RX1 yX1_refused yX1_refused, .code yX1_refused cX1_refused 2 (some .boolean), .fieldLink RX1 62 "PushNoticesModel" "refusal" "I"] ++ wsX10)
def wsX1_stands : List Cond := .code yX1_stands cX1_stands 2 (some .boolean) :: ([.fieldLink RX1 53 "PushNoticesModel" "isOver" "[Z", .methodLink RX1 132 yX1_noNotice, .instanceMethod yX1_noNotice, .selects RX1 yX1_noNotice yX1_noNotice, .initialized RX1, .code yX1_noNotice cX1_noNotice 2 (some .boolean), .methodLink RX1 126 yX1_isNotice, .instanceMethod yX1_isNotice, .selects RX1 yX1_isNotice yX1_isNotice, .code yX1_isNotice cX1_isNotice 2 (some .boolean), .fieldLink RX1 73 "PushNoticesModel" "notices" "I", .methodLink RX1 69 yX1_in, .static yX1_in, .code yX1_in cX1_in 3 (some .boolean), .methodLink RX1 98 yX1_refused, .instanceMethod yX1_refused, .selects RX1 yX1_refused yX1_refused, .code yX1_refused cX1_refused 2 (some .boolean), .fieldLink RX1 62 "PushNoticesModel" "refusal" "I"] ++ wsX10)
def wsX1_waitsFor : List Cond := .code yX1_waitsFor cX1_waitsFor 2 (some .int) :: ([.fieldLink RX1 56 "PushNoticesModel" "waits" "[I", .methodLink RX1 132 yX1_noNotice, .instanceMethod yX1_noNotice, .selects RX1 yX1_noNotice yX1_noNotice, .initialized RX1, .code yX1_noNotice cX1_noNotice 2 (some .boolean), .methodLink RX1 126 yX1_isNotice, .instanceMethod yX1_isNotice, .selects RX1 yX1_isNotice yX1_isNotice, .code yX1_isNotice cX1_isNotice 2 (some .boolean), .fieldLink RX1 73 "PushNoticesModel" "notices" "I", .methodLink RX1 69 yX1_in, .static yX1_in, .code yX1_in cX1_in 3 (some .boolean), .methodLink RX1 98 yX1_refused, .instanceMethod yX1_refused, .selects RX1 yX1_refused yX1_refused, .code yX1_refused cX1_refused 2 (some .boolean), .fieldLink RX1 62 "PushNoticesModel" "refusal" "I"] ++ wsX10)
def wsX1_deliveredTo : List Cond := .code yX1_deliveredTo cX1_deliveredTo 2 (some .int) :: ([.fieldLink RX1 59 "PushNoticesModel" "delivered" "[I", .methodLink RX1 132 yX1_noNotice, .instanceMethod yX1_noNotice, .selects RX1 yX1_noNotice yX1_noNotice, .initialized RX1, .code yX1_noNotice cX1_noNotice 2 (some .boolean), .methodLink RX1 126 yX1_isNotice, .instanceMethod yX1_isNotice, .selects RX1 yX1_isNotice yX1_isNotice, .code yX1_isNotice cX1_isNotice 2 (some .boolean), .fieldLink RX1 73 "PushNoticesModel" "notices" "I", .methodLink RX1 69 yX1_in, .static yX1_in, .code yX1_in cX1_in 3 (some .boolean), .methodLink RX1 98 yX1_refused, .instanceMethod yX1_refused, .selects RX1 yX1_refused yX1_refused, .code yX1_refused cX1_refused 2 (some .boolean), .fieldLink RX1 62 "PushNoticesModel" "refusal" "I"] ++ wsX10)
def wsX1_standing : List Cond := .code yX1_standing cX1_standing 3 (some .int) :: ([.methodLink RX1 69 yX1_in, .static yX1_in, .initialized RX1, .code yX1_in cX1_in 3 (some .boolean), .methodLink RX1 98 yX1_refused, .instanceMethod yX1_refused, .selects RX1 yX1_refused yX1_refused, .code yX1_refused cX1_refused 2 (some .boolean), .fieldLink RX1 62 "PushNoticesModel" "refusal" "I", .methodLink RX1 114 yX1_standingNow, .instanceMethod yX1_standingNow, .selects RX1 yX1_standingNow yX1_standingNow, .code yX1_standingNow cX1_standingNow 5 (some .int), .fieldLink RX1 73 "PushNoticesModel" "notices" "I", .fieldLink RX1 47 "PushNoticesModel" "users" "[I", .fieldLink RX1 50 "PushNoticesModel" "keys" "[I", .fieldLink RX1 53 "PushNoticesModel" "isOver" "[Z"] ++ wsX10)
def wsX1_badge : List Cond := .code yX1_badge cX1_badge 4 (some .int) :: ([.fieldLink RX1 73 "PushNoticesModel" "notices" "I", .fieldLink RX1 53 "PushNoticesModel" "isOver" "[Z", .fieldLink RX1 59 "PushNoticesModel" "delivered" "[I", .methodLink RX1 101 yX1_isDevice, .instanceMethod yX1_isDevice, .selects RX1 yX1_isDevice yX1_isDevice, .initialized RX1, .code yX1_isDevice cX1_isDevice 2 (some .boolean), .fieldLink RX1 66 "PushNoticesModel" "devices" "I", .methodLink RX1 69 yX1_in, .static yX1_in, .code yX1_in cX1_in 3 (some .boolean), .methodLink RX1 98 yX1_refused, .instanceMethod yX1_refused, .selects RX1 yX1_refused yX1_refused, .code yX1_refused cX1_refused 2 (some .boolean), .fieldLink RX1 62 "PushNoticesModel" "refusal" "I"] ++ wsX10)
def wsX1_waiting : List Cond := .code yX1_waiting cX1_waiting 2 (some .int) :: ([.methodLink RX1 101 yX1_isDevice, .instanceMethod yX1_isDevice, .selects RX1 yX1_isDevice yX1_isDevice, .initialized RX1, .code yX1_isDevice cX1_isDevice 2 (some .boolean), .fieldLink RX1 66 "PushNoticesModel" "devices" "I", .methodLink RX1 69 yX1_in, .static yX1_in, .code yX1_in cX1_in 3 (some .boolean), .methodLink RX1 98 yX1_refused, .instanceMethod yX1_refused, .selects RX1 yX1_refused yX1_refused, .code yX1_refused cX1_refused 2 (some .boolean), .fieldLink RX1 62 "PushNoticesModel" "refusal" "I", .methodLink RX1 108 yX1_countWaiting, .instanceMethod yX1_countWaiting, .selects RX1 yX1_countWaiting yX1_countWaiting, .code yX1_countWaiting cX1_countWaiting 4 (some .int), .fieldLink RX1 73 "PushNoticesModel" "notices" "I", .fieldLink RX1 56 "PushNoticesModel" "waits" "[I"] ++ wsX10)
def wsX1_quota : List Cond := .code yX1_quota cX1_quota 2 (some .int) :: ([.methodLink RX1 101 yX1_isDevice, .instanceMethod yX1_isDevice, .selects RX1 yX1_isDevice yX1_isDevice, .initialized RX1, .code yX1_isDevice cX1_isDevice 2 (some .boolean), .fieldLink RX1 66 "PushNoticesModel" "devices" "I", .methodLink RX1 69 yX1_in, .static yX1_in, .code yX1_in cX1_in 3 (some .boolean), .methodLink RX1 98 yX1_refused, .instanceMethod yX1_refused, .selects RX1 yX1_refused yX1_refused, .code yX1_refused cX1_refused 2 (some .boolean), .fieldLink RX1 62 "PushNoticesModel" "refusal" "I", .methodLink RX1 79 yX1_used, .instanceMethod yX1_used, .selects RX1 yX1_used yX1_used, .code yX1_used cX1_used 2 (some .int), .fieldLink RX1 35 "PushNoticesModel" "days" "[I", .fieldLink RX1 76 "PushNoticesModel" "clock" "I", .fieldLink RX1 38 "PushNoticesModel" "spent" "[I"] ++ wsX10)
def wsX1_pass_r1 : List Cond := [Cond.fieldLink RX1 76 "PushNoticesModel" "clock" "I", Cond.constant RX1 135 (100000), Cond.fieldLink RX1 73 "PushNoticesModel" "notices" "I", Cond.fieldLink RX1 53 "PushNoticesModel" "isOver" "[Z", Cond.fieldLink RX1 44 "PushNoticesModel" "ends" "[I", Cond.methodLink RX1 69 yX1_in, Cond.static yX1_in, Cond.initialized RX1, Cond.code yX1_in cX1_in 3 (some .boolean), Cond.methodLink RX1 98 yX1_refused, Cond.instanceMethod yX1_refused, Cond.selects RX1 yX1_refused yX1_refused, Cond.code yX1_refused cX1_refused 2 (some .boolean), Cond.fieldLink RX1 62 "PushNoticesModel" "refusal" "I", Cond.methodLink RX1 118 yX1_end, Cond.instanceMethod yX1_end, Cond.selects RX1 yX1_end yX1_end, Cond.code yX1_end cX1_end 2 none, Cond.fieldLink RX1 56 "PushNoticesModel" "waits" "[I", Cond.methodLink RX1 104 yX1_look, Cond.instanceMethod yX1_look, Cond.selects RX1 yX1_look yX1_look, Cond.code yX1_look cX1_look 4 (some .int), Cond.fieldLink RX1 87 "PushNoticesModel" "deliveries" "I"]
def wsX1_pass_r2 : List Cond := [Cond.fieldLink RX1 66 "PushNoticesModel" "devices" "I", Cond.methodLink RX1 90 yX1_can, Cond.instanceMethod yX1_can, Cond.selects RX1 yX1_can yX1_can, Cond.code yX1_can cX1_can 3 (some .boolean), Cond.fieldLink RX1 16 "PushNoticesModel" "isOnline" "[Z", Cond.fieldLink RX1 41 "PushNoticesModel" "isHigh" "[Z", Cond.fieldLink RX1 20 "PushNoticesModel" "isDozing" "[Z", Cond.methodLink RX1 79 yX1_used, Cond.instanceMethod yX1_used, Cond.selects RX1 yX1_used yX1_used, Cond.code yX1_used cX1_used 2 (some .int), Cond.fieldLink RX1 35 "PushNoticesModel" "days" "[I", Cond.fieldLink RX1 38 "PushNoticesModel" "spent" "[I", Cond.methodLink RX1 83 yX1_isQuietNow, Cond.instanceMethod yX1_isQuietNow, Cond.selects RX1 yX1_isQuietNow yX1_isQuietNow, Cond.code yX1_isQuietNow cX1_isQuietNow 5 (some .boolean), Cond.fieldLink RX1 13 "PushNoticesModel" "offsets" "[I", Cond.fieldLink RX1 26 "PushNoticesModel" "froms" "[I", Cond.fieldLink RX1 29 "PushNoticesModel" "tos" "[I", Cond.methodLink RX1 94 yX1_deliver, Cond.instanceMethod yX1_deliver, Cond.selects RX1 yX1_deliver yX1_deliver]
def wsX1_pass_r3 : List Cond := [Cond.code yX1_deliver cX1_deliver 3 none, Cond.fieldLink RX1 59 "PushNoticesModel" "delivered" "[I"]
def wsX1_pass : List Cond := .code yX1_pass cX1_pass 5 (some .int) :: ((wsX1_pass_r1 ++ (wsX1_pass_r2 ++ wsX1_pass_r3)) ++ wsX10)
def wsX1_clock : List Cond := .code yX1_clock cX1_clock 1 (some .int) :: ([.fieldLink RX1 76 "PushNoticesModel" "clock" "I", .methodLink RX1 111 yX1_fine, .instanceMethod yX1_fine, .selects RX1 yX1_fine yX1_fine, .initialized RX1, .code yX1_fine cX1_fine 2 (some .int), .fieldLink RX1 62 "PushNoticesModel" "refusal" "I"] ++ wsX10)
def wsX1_deliveries : List Cond := .code yX1_deliveries cX1_deliveries 1 (some .int) :: ([.fieldLink RX1 87 "PushNoticesModel" "deliveries" "I", .methodLink RX1 111 yX1_fine, .instanceMethod yX1_fine, .selects RX1 yX1_fine yX1_fine, .initialized RX1, .code yX1_fine cX1_fine 2 (some .int), .fieldLink RX1 62 "PushNoticesModel" "refusal" "I"] ++ wsX10)
def wsJ9_min_7cf53 : List Cond := .code yJ9_min_7cf53 cJ9_min_7cf53 2 (some .int) :: ([])
def wsL_addDevice : List Cond := .codeWith yL_addDevice cL_addDevice 5 (some .int) [(0, 10, 13, 13), (0, 10, 17, 15)] :: ([.classLink RL 13 "java/lang/IllegalArgumentException", .classLink RL 15 "java/lang/IllegalStateException", .methodLink RL 7 yX0_addDevice, .instanceMethod yX0_addDevice, .selects RX0 yX0_addDevice yX0_addDevice, .initialized RX0, .code yX0_addDevice cX0_addDevice 4 (some .int), .classLink RX0 73 "java/lang/IllegalStateException", .initialized "java/lang/IllegalStateException", .fieldLink RX0 41 "PushNotices" "deviceCount" "I", .fieldLink RX0 26 "PushNotices" "zoneOffset" "[I", .fieldLink RX0 9 "PushNotices" "devicesOfUser" "[I", .fieldLink RX0 16 "PushNotices" "alive" "I", .fieldLink RX0 20 "PushNotices" "online" "I", .methodLink RX0 69 yX0_requireWithin, .static yX0_requireWithin, .code yX0_requireWithin cX0_requireWithin 3 none, .classLink RX0 161 "java/lang/IllegalArgumentException", .initialized "java/lang/IllegalArgumentException", .methodLink RX0 80 yX0_bitOf, .static yX0_bitOf, .code yX0_bitOf cX0_bitOf 1 (some .int)] ++ wsX00 ++ (vx_atS RX0 77 "java/lang/IllegalStateException" ["java/lang/RuntimeException", "java/lang/Exception"]).filter goodWord ++ (vx_atS RX0 165 "java/lang/IllegalArgumentException" ["java/lang/RuntimeException", "java/lang/Exception"]).filter goodWord)
def wsL_setOnline_r1 : List Cond := [Cond.classLink RL 21 "java/lang/IndexOutOfBoundsException", Cond.methodLink RL 17 yX0_setOnline, Cond.instanceMethod yX0_setOnline, Cond.selects RX0 yX0_setOnline yX0_setOnline, Cond.initialized RX0, Cond.code yX0_setOnline cX0_setOnline 3 (some .int), Cond.fieldLink RX0 20 "PushNotices" "online" "I", Cond.methodLink RX0 84 yX0_requireDevice, Cond.instanceMethod yX0_requireDevice, Cond.selects RX0 yX0_requireDevice yX0_requireDevice, Cond.code yX0_requireDevice cX0_requireDevice 2 none, Cond.classLink RX0 166 "java/lang/IndexOutOfBoundsException", Cond.initialized "java/lang/IndexOutOfBoundsException", Cond.fieldLink RX0 41 "PushNotices" "deviceCount" "I", Cond.methodLink RX0 88 yX0_changed, Cond.static yX0_changed, Cond.code yX0_changed cX0_changed 3 (some .int), Cond.methodLink RX0 80 yX0_bitOf, Cond.static yX0_bitOf, Cond.code yX0_bitOf cX0_bitOf 1 (some .int), Cond.methodLink RX0 92 yX0_deliverNow, Cond.instanceMethod yX0_deliverNow, Cond.selects RX0 yX0_deliverNow yX0_deliverNow, Cond.code yX0_deliverNow cX0_deliverNow 5 (some .int)]
def wsL_setOnline_r2 : List Cond := [Cond.fieldLink RX0 66 "PushNotices" "deliveryCount" "I", Cond.fieldLink RX0 60 "PushNotices" "noticeCount" "I", Cond.fieldLink RX0 44 "PushNotices" "isHighNotice" "[Z", Cond.methodLink RX0 181 yX0_openToNormal, Cond.instanceMethod yX0_openToNormal, Cond.selects RX0 yX0_openToNormal yX0_openToNormal, Cond.code yX0_openToNormal cX0_openToNormal 3 (some .int), Cond.fieldLink RX0 63 "PushNotices" "minute" "I", Cond.fieldLink RX0 23 "PushNotices" "dozing" "I", Cond.methodLink RX0 105 yX0_isInQuietHours, Cond.instanceMethod yX0_isInQuietHours, Cond.selects RX0 yX0_isInQuietHours yX0_isInQuietHours, Cond.code yX0_isInQuietHours cX0_isInQuietHours 4 (some .boolean), Cond.fieldLink RX0 29 "PushNotices" "quietFrom" "[I", Cond.fieldLink RX0 32 "PushNotices" "quietTo" "[I", Cond.methodLink RX0 178 yX0_localTime, Cond.instanceMethod yX0_localTime, Cond.selects RX0 yX0_localTime yX0_localTime, Cond.code yX0_localTime cX0_localTime 2 (some .int), Cond.fieldLink RX0 26 "PushNotices" "zoneOffset" "[I", Cond.methodLink RX0 175 yJ9_floorMod_7cf53, Cond.static yJ9_floorMod_7cf53, Cond.initialized RJ9, Cond.code yJ9_floorMod_7cf53 cJ9_floorMod_7cf53 3 (some .int)]
def wsL_setOnline_r3 : List Cond := [Cond.methodLink RX0 132 yX0_waitsNow, Cond.instanceMethod yX0_waitsNow, Cond.selects RX0 yX0_waitsNow yX0_waitsNow, Cond.code yX0_waitsNow cX0_waitsNow 2 (some .int), Cond.fieldLink RX0 51 "PushNotices" "waitSet" "[I", Cond.methodLink RX0 127 yX0_isStanding, Cond.instanceMethod yX0_isStanding, Cond.selects RX0 yX0_isStanding yX0_isStanding, Cond.code yX0_isStanding cX0_isStanding 2 (some .boolean), Cond.fieldLink RX0 48 "PushNotices" "fallsAt" "[I", Cond.methodLink RX0 184 yX0_openToHigh, Cond.instanceMethod yX0_openToHigh, Cond.selects RX0 yX0_openToHigh yX0_openToHigh, Cond.code yX0_openToHigh cX0_openToHigh 3 (some .int), Cond.methodLink RX0 96 yX0_has, Cond.static yX0_has, Cond.code yX0_has cX0_has 2 (some .boolean), Cond.methodLink RX0 147 yX0_spentToday, Cond.instanceMethod yX0_spentToday, Cond.selects RX0 yX0_spentToday yX0_spentToday, Cond.code yX0_spentToday cX0_spentToday 2 (some .int), Cond.fieldLink RX0 35 "PushNotices" "quotaDay" "[I", Cond.fieldLink RX0 38 "PushNotices" "quotaSpent" "[I", Cond.methodLink RX0 187 yX0_deliver]
def wsL_setOnline_r4 : List Cond := [Cond.instanceMethod yX0_deliver, Cond.selects RX0 yX0_deliver yX0_deliver, Cond.code yX0_deliver cX0_deliver 3 none, Cond.fieldLink RX0 54 "PushNotices" "deliveredSet" "[I", Cond.methodLink RX0 135 yJ6_bitCount_0f7a4, Cond.static yJ6_bitCount_0f7a4, Cond.initialized RJ6, Cond.code yJ6_bitCount_0f7a4 cJ6_bitCount_0f7a4 1 (some .int), Cond.constant RJ6 265 (1431655765), Cond.constant RJ6 266 (858993459), Cond.constant RJ6 267 (252645135), Cond.methodLink RX0 190 yX0_spendQuota, Cond.instanceMethod yX0_spendQuota, Cond.selects RX0 yX0_spendQuota yX0_spendQuota, Cond.code yX0_spendQuota cX0_spendQuota 3 none]
def wsL_setOnline : List Cond := .codeWith yL_setOnline cL_setOnline 5 (some .int) [(0, 10, 13, 21)] :: ((wsL_setOnline_r1 ++ (wsL_setOnline_r2 ++ (wsL_setOnline_r3 ++ wsL_setOnline_r4))) ++ wsX00 ++ (vx_atS RX0 170 "java/lang/IndexOutOfBoundsException" ["java/lang/RuntimeException", "java/lang/Exception"]).filter goodWord)
def wsL_setDozing_r1 : List Cond := [Cond.classLink RL 21 "java/lang/IndexOutOfBoundsException", Cond.methodLink RL 23 yX0_setDozing, Cond.instanceMethod yX0_setDozing, Cond.selects RX0 yX0_setDozing yX0_setDozing, Cond.initialized RX0, Cond.code yX0_setDozing cX0_setDozing 3 (some .int), Cond.fieldLink RX0 23 "PushNotices" "dozing" "I", Cond.methodLink RX0 84 yX0_requireDevice, Cond.instanceMethod yX0_requireDevice, Cond.selects RX0 yX0_requireDevice yX0_requireDevice, Cond.code yX0_requireDevice cX0_requireDevice 2 none, Cond.classLink RX0 166 "java/lang/IndexOutOfBoundsException", Cond.initialized "java/lang/IndexOutOfBoundsException", Cond.fieldLink RX0 41 "PushNotices" "deviceCount" "I", Cond.methodLink RX0 88 yX0_changed, Cond.static yX0_changed, Cond.code yX0_changed cX0_changed 3 (some .int), Cond.methodLink RX0 80 yX0_bitOf, Cond.static yX0_bitOf, Cond.code yX0_bitOf cX0_bitOf 1 (some .int), Cond.methodLink RX0 92 yX0_deliverNow, Cond.instanceMethod yX0_deliverNow, Cond.selects RX0 yX0_deliverNow yX0_deliverNow, Cond.code yX0_deliverNow cX0_deliverNow 5 (some .int)]
def wsL_setDozing_r2 : List Cond := [Cond.fieldLink RX0 66 "PushNotices" "deliveryCount" "I", Cond.fieldLink RX0 60 "PushNotices" "noticeCount" "I", Cond.fieldLink RX0 44 "PushNotices" "isHighNotice" "[Z", Cond.methodLink RX0 181 yX0_openToNormal, Cond.instanceMethod yX0_openToNormal, Cond.selects RX0 yX0_openToNormal yX0_openToNormal, Cond.code yX0_openToNormal cX0_openToNormal 3 (some .int), Cond.fieldLink RX0 63 "PushNotices" "minute" "I", Cond.fieldLink RX0 20 "PushNotices" "online" "I", Cond.methodLink RX0 105 yX0_isInQuietHours, Cond.instanceMethod yX0_isInQuietHours, Cond.selects RX0 yX0_isInQuietHours yX0_isInQuietHours, Cond.code yX0_isInQuietHours cX0_isInQuietHours 4 (some .boolean), Cond.fieldLink RX0 29 "PushNotices" "quietFrom" "[I", Cond.fieldLink RX0 32 "PushNotices" "quietTo" "[I", Cond.methodLink RX0 178 yX0_localTime, Cond.instanceMethod yX0_localTime, Cond.selects RX0 yX0_localTime yX0_localTime, Cond.code yX0_localTime cX0_localTime 2 (some .int), Cond.fieldLink RX0 26 "PushNotices" "zoneOffset" "[I", Cond.methodLink RX0 175 yJ9_floorMod_7cf53, Cond.static yJ9_floorMod_7cf53, Cond.initialized RJ9, Cond.code yJ9_floorMod_7cf53 cJ9_floorMod_7cf53 3 (some .int)]
def wsL_setDozing_r3 : List Cond := [Cond.methodLink RX0 132 yX0_waitsNow, Cond.instanceMethod yX0_waitsNow, Cond.selects RX0 yX0_waitsNow yX0_waitsNow, Cond.code yX0_waitsNow cX0_waitsNow 2 (some .int), Cond.fieldLink RX0 51 "PushNotices" "waitSet" "[I", Cond.methodLink RX0 127 yX0_isStanding, Cond.instanceMethod yX0_isStanding, Cond.selects RX0 yX0_isStanding yX0_isStanding, Cond.code yX0_isStanding cX0_isStanding 2 (some .boolean), Cond.fieldLink RX0 48 "PushNotices" "fallsAt" "[I", Cond.methodLink RX0 184 yX0_openToHigh, Cond.instanceMethod yX0_openToHigh, Cond.selects RX0 yX0_openToHigh yX0_openToHigh, Cond.code yX0_openToHigh cX0_openToHigh 3 (some .int), Cond.methodLink RX0 96 yX0_has, Cond.static yX0_has, Cond.code yX0_has cX0_has 2 (some .boolean), Cond.methodLink RX0 147 yX0_spentToday, Cond.instanceMethod yX0_spentToday, Cond.selects RX0 yX0_spentToday yX0_spentToday, Cond.code yX0_spentToday cX0_spentToday 2 (some .int), Cond.fieldLink RX0 35 "PushNotices" "quotaDay" "[I", Cond.fieldLink RX0 38 "PushNotices" "quotaSpent" "[I", Cond.methodLink RX0 187 yX0_deliver]
def wsL_setDozing_r4 : List Cond := [Cond.instanceMethod yX0_deliver, Cond.selects RX0 yX0_deliver yX0_deliver, Cond.code yX0_deliver cX0_deliver 3 none, Cond.fieldLink RX0 54 "PushNotices" "deliveredSet" "[I", Cond.methodLink RX0 135 yJ6_bitCount_0f7a4, Cond.static yJ6_bitCount_0f7a4, Cond.initialized RJ6, Cond.code yJ6_bitCount_0f7a4 cJ6_bitCount_0f7a4 1 (some .int), Cond.constant RJ6 265 (1431655765), Cond.constant RJ6 266 (858993459), Cond.constant RJ6 267 (252645135), Cond.methodLink RX0 190 yX0_spendQuota, Cond.instanceMethod yX0_spendQuota, Cond.selects RX0 yX0_spendQuota yX0_spendQuota, Cond.code yX0_spendQuota cX0_spendQuota 3 none]
def wsL_setDozing : List Cond := .codeWith yL_setDozing cL_setDozing 5 (some .int) [(0, 10, 13, 21)] :: ((wsL_setDozing_r1 ++ (wsL_setDozing_r2 ++ (wsL_setDozing_r3 ++ wsL_setDozing_r4))) ++ wsX00 ++ (vx_atS RX0 170 "java/lang/IndexOutOfBoundsException" ["java/lang/RuntimeException", "java/lang/Exception"]).filter goodWord)
def wsL_setQuiet_r1 : List Cond := [Cond.classLink RL 21 "java/lang/IndexOutOfBoundsException", Cond.classLink RL 13 "java/lang/IllegalArgumentException", Cond.methodLink RL 26 yX0_setQuiet, Cond.instanceMethod yX0_setQuiet, Cond.selects RX0 yX0_setQuiet yX0_setQuiet, Cond.initialized RX0, Cond.code yX0_setQuiet cX0_setQuiet 4 (some .int), Cond.fieldLink RX0 29 "PushNotices" "quietFrom" "[I", Cond.fieldLink RX0 32 "PushNotices" "quietTo" "[I", Cond.methodLink RX0 84 yX0_requireDevice, Cond.instanceMethod yX0_requireDevice, Cond.selects RX0 yX0_requireDevice yX0_requireDevice, Cond.code yX0_requireDevice cX0_requireDevice 2 none, Cond.classLink RX0 166 "java/lang/IndexOutOfBoundsException", Cond.initialized "java/lang/IndexOutOfBoundsException", Cond.fieldLink RX0 41 "PushNotices" "deviceCount" "I", Cond.methodLink RX0 69 yX0_requireWithin, Cond.static yX0_requireWithin, Cond.code yX0_requireWithin cX0_requireWithin 3 none, Cond.classLink RX0 161 "java/lang/IllegalArgumentException", Cond.initialized "java/lang/IllegalArgumentException", Cond.methodLink RX0 92 yX0_deliverNow, Cond.instanceMethod yX0_deliverNow, Cond.selects RX0 yX0_deliverNow yX0_deliverNow]
def wsL_setQuiet_r2 : List Cond := [Cond.code yX0_deliverNow cX0_deliverNow 5 (some .int), Cond.fieldLink RX0 66 "PushNotices" "deliveryCount" "I", Cond.fieldLink RX0 60 "PushNotices" "noticeCount" "I", Cond.fieldLink RX0 44 "PushNotices" "isHighNotice" "[Z", Cond.methodLink RX0 181 yX0_openToNormal, Cond.instanceMethod yX0_openToNormal, Cond.selects RX0 yX0_openToNormal yX0_openToNormal, Cond.code yX0_openToNormal cX0_openToNormal 3 (some .int), Cond.fieldLink RX0 63 "PushNotices" "minute" "I", Cond.fieldLink RX0 20 "PushNotices" "online" "I", Cond.fieldLink RX0 23 "PushNotices" "dozing" "I", Cond.methodLink RX0 105 yX0_isInQuietHours, Cond.instanceMethod yX0_isInQuietHours, Cond.selects RX0 yX0_isInQuietHours yX0_isInQuietHours, Cond.code yX0_isInQuietHours cX0_isInQuietHours 4 (some .boolean), Cond.methodLink RX0 178 yX0_localTime, Cond.instanceMethod yX0_localTime, Cond.selects RX0 yX0_localTime yX0_localTime, Cond.code yX0_localTime cX0_localTime 2 (some .int), Cond.fieldLink RX0 26 "PushNotices" "zoneOffset" "[I", Cond.methodLink RX0 175 yJ9_floorMod_7cf53, Cond.static yJ9_floorMod_7cf53, Cond.initialized RJ9, Cond.code yJ9_floorMod_7cf53 cJ9_floorMod_7cf53 3 (some .int)]
def wsL_setQuiet_r3 : List Cond := [Cond.methodLink RX0 88 yX0_changed, Cond.static yX0_changed, Cond.code yX0_changed cX0_changed 3 (some .int), Cond.methodLink RX0 80 yX0_bitOf, Cond.static yX0_bitOf, Cond.code yX0_bitOf cX0_bitOf 1 (some .int), Cond.methodLink RX0 132 yX0_waitsNow, Cond.instanceMethod yX0_waitsNow, Cond.selects RX0 yX0_waitsNow yX0_waitsNow, Cond.code yX0_waitsNow cX0_waitsNow 2 (some .int), Cond.fieldLink RX0 51 "PushNotices" "waitSet" "[I", Cond.methodLink RX0 127 yX0_isStanding, Cond.instanceMethod yX0_isStanding, Cond.selects RX0 yX0_isStanding yX0_isStanding, Cond.code yX0_isStanding cX0_isStanding 2 (some .boolean), Cond.fieldLink RX0 48 "PushNotices" "fallsAt" "[I", Cond.methodLink RX0 184 yX0_openToHigh, Cond.instanceMethod yX0_openToHigh, Cond.selects RX0 yX0_openToHigh yX0_openToHigh, Cond.code yX0_openToHigh cX0_openToHigh 3 (some .int), Cond.methodLink RX0 96 yX0_has, Cond.static yX0_has, Cond.code yX0_has cX0_has 2 (some .boolean), Cond.methodLink RX0 147 yX0_spentToday]
def wsL_setQuiet_r4 : List Cond := [Cond.instanceMethod yX0_spentToday, Cond.selects RX0 yX0_spentToday yX0_spentToday, Cond.code yX0_spentToday cX0_spentToday 2 (some .int), Cond.fieldLink RX0 35 "PushNotices" "quotaDay" "[I", Cond.fieldLink RX0 38 "PushNotices" "quotaSpent" "[I", Cond.methodLink RX0 187 yX0_deliver, Cond.instanceMethod yX0_deliver, Cond.selects RX0 yX0_deliver yX0_deliver, Cond.code yX0_deliver cX0_deliver 3 none, Cond.fieldLink RX0 54 "PushNotices" "deliveredSet" "[I", Cond.methodLink RX0 135 yJ6_bitCount_0f7a4, Cond.static yJ6_bitCount_0f7a4, Cond.initialized RJ6, Cond.code yJ6_bitCount_0f7a4 cJ6_bitCount_0f7a4 1 (some .int), Cond.constant RJ6 265 (1431655765), Cond.constant RJ6 266 (858993459), Cond.constant RJ6 267 (252645135), Cond.methodLink RX0 190 yX0_spendQuota, Cond.instanceMethod yX0_spendQuota, Cond.selects RX0 yX0_spendQuota yX0_spendQuota, Cond.code yX0_spendQuota cX0_spendQuota 3 none]
def wsL_setQuiet : List Cond := .codeWith yL_setQuiet cL_setQuiet 6 (some .int) [(0, 12, 15, 21), (0, 12, 19, 13)] :: ((wsL_setQuiet_r1 ++ (wsL_setQuiet_r2 ++ (wsL_setQuiet_r3 ++ wsL_setQuiet_r4))) ++ wsX00 ++ (vx_atS RX0 170 "java/lang/IndexOutOfBoundsException" ["java/lang/RuntimeException", "java/lang/Exception"]).filter goodWord ++ (vx_atS RX0 165 "java/lang/IllegalArgumentException" ["java/lang/RuntimeException", "java/lang/Exception"]).filter goodWord)
def wsL_join_r1 : List Cond := [Cond.classLink RL 21 "java/lang/IndexOutOfBoundsException", Cond.classLink RL 13 "java/lang/IllegalArgumentException", Cond.methodLink RL 30 yX0_join, Cond.instanceMethod yX0_join, Cond.selects RX0 yX0_join yX0_join, Cond.initialized RX0, Cond.code yX0_join cX0_join 5 (some .boolean), Cond.fieldLink RX0 13 "PushNotices" "devicesOfTopic" "[I", Cond.methodLink RX0 84 yX0_requireDevice, Cond.instanceMethod yX0_requireDevice, Cond.selects RX0 yX0_requireDevice yX0_requireDevice, Cond.code yX0_requireDevice cX0_requireDevice 2 none, Cond.classLink RX0 166 "java/lang/IndexOutOfBoundsException", Cond.initialized "java/lang/IndexOutOfBoundsException", Cond.fieldLink RX0 41 "PushNotices" "deviceCount" "I", Cond.methodLink RX0 69 yX0_requireWithin, Cond.static yX0_requireWithin, Cond.code yX0_requireWithin cX0_requireWithin 3 none, Cond.classLink RX0 161 "java/lang/IllegalArgumentException", Cond.initialized "java/lang/IllegalArgumentException", Cond.methodLink RX0 96 yX0_has, Cond.static yX0_has, Cond.code yX0_has cX0_has 2 (some .boolean), Cond.methodLink RX0 80 yX0_bitOf]
def wsL_join_r2 : List Cond := [Cond.static yX0_bitOf, Cond.code yX0_bitOf cX0_bitOf 1 (some .int), Cond.methodLink RX0 88 yX0_changed, Cond.static yX0_changed, Cond.code yX0_changed cX0_changed 3 (some .int)]
def wsL_join : List Cond := .codeWith yL_join cL_join 6 (some .int) [(0, 19, 22, 21), (0, 19, 26, 13)] :: ((wsL_join_r1 ++ wsL_join_r2) ++ wsX00 ++ (vx_atS RX0 170 "java/lang/IndexOutOfBoundsException" ["java/lang/RuntimeException", "java/lang/Exception"]).filter goodWord ++ (vx_atS RX0 165 "java/lang/IllegalArgumentException" ["java/lang/RuntimeException", "java/lang/Exception"]).filter goodWord)
def wsL_kill_r1 : List Cond := [Cond.classLink RL 21 "java/lang/IndexOutOfBoundsException", Cond.classLink RL 15 "java/lang/IllegalStateException", Cond.methodLink RL 34 yX0_kill, Cond.instanceMethod yX0_kill, Cond.selects RX0 yX0_kill yX0_kill, Cond.initialized RX0, Cond.code yX0_kill cX0_kill 4 (some .int), Cond.classLink RX0 73 "java/lang/IllegalStateException", Cond.initialized "java/lang/IllegalStateException", Cond.fieldLink RX0 16 "PushNotices" "alive" "I", Cond.fieldLink RX0 60 "PushNotices" "noticeCount" "I", Cond.fieldLink RX0 51 "PushNotices" "waitSet" "[I", Cond.methodLink RX0 84 yX0_requireDevice, Cond.instanceMethod yX0_requireDevice, Cond.selects RX0 yX0_requireDevice yX0_requireDevice, Cond.code yX0_requireDevice cX0_requireDevice 2 none, Cond.classLink RX0 166 "java/lang/IndexOutOfBoundsException", Cond.initialized "java/lang/IndexOutOfBoundsException", Cond.fieldLink RX0 41 "PushNotices" "deviceCount" "I", Cond.methodLink RX0 96 yX0_has, Cond.static yX0_has, Cond.code yX0_has cX0_has 2 (some .boolean), Cond.methodLink RX0 80 yX0_bitOf, Cond.static yX0_bitOf]
def wsL_kill_r2 : List Cond := [Cond.code yX0_bitOf cX0_bitOf 1 (some .int), Cond.methodLink RX0 102 yX0_countWaiting, Cond.instanceMethod yX0_countWaiting, Cond.selects RX0 yX0_countWaiting yX0_countWaiting, Cond.code yX0_countWaiting cX0_countWaiting 4 (some .int), Cond.methodLink RX0 132 yX0_waitsNow, Cond.instanceMethod yX0_waitsNow, Cond.selects RX0 yX0_waitsNow yX0_waitsNow, Cond.code yX0_waitsNow cX0_waitsNow 2 (some .int), Cond.methodLink RX0 127 yX0_isStanding, Cond.instanceMethod yX0_isStanding, Cond.selects RX0 yX0_isStanding yX0_isStanding, Cond.code yX0_isStanding cX0_isStanding 2 (some .boolean), Cond.fieldLink RX0 63 "PushNotices" "minute" "I", Cond.fieldLink RX0 48 "PushNotices" "fallsAt" "[I", Cond.methodLink RX0 88 yX0_changed, Cond.static yX0_changed, Cond.code yX0_changed cX0_changed 3 (some .int)]
def wsL_kill : List Cond := .codeWith yL_kill cL_kill 4 (some .int) [(0, 9, 12, 21), (0, 9, 15, 15)] :: ((wsL_kill_r1 ++ wsL_kill_r2) ++ wsX00 ++ (vx_atS RX0 77 "java/lang/IllegalStateException" ["java/lang/RuntimeException", "java/lang/Exception"]).filter goodWord ++ (vx_atS RX0 170 "java/lang/IndexOutOfBoundsException" ["java/lang/RuntimeException", "java/lang/Exception"]).filter goodWord)
def wsL_isQuiet_r1 : List Cond := [Cond.classLink RL 21 "java/lang/IndexOutOfBoundsException", Cond.methodLink RL 38 yX0_isQuiet, Cond.instanceMethod yX0_isQuiet, Cond.selects RX0 yX0_isQuiet yX0_isQuiet, Cond.initialized RX0, Cond.code yX0_isQuiet cX0_isQuiet 2 (some .boolean), Cond.methodLink RX0 84 yX0_requireDevice, Cond.instanceMethod yX0_requireDevice, Cond.selects RX0 yX0_requireDevice yX0_requireDevice, Cond.code yX0_requireDevice cX0_requireDevice 2 none, Cond.classLink RX0 166 "java/lang/IndexOutOfBoundsException", Cond.initialized "java/lang/IndexOutOfBoundsException", Cond.fieldLink RX0 41 "PushNotices" "deviceCount" "I", Cond.methodLink RX0 105 yX0_isInQuietHours, Cond.instanceMethod yX0_isInQuietHours, Cond.selects RX0 yX0_isInQuietHours yX0_isInQuietHours, Cond.code yX0_isInQuietHours cX0_isInQuietHours 4 (some .boolean), Cond.fieldLink RX0 29 "PushNotices" "quietFrom" "[I", Cond.fieldLink RX0 32 "PushNotices" "quietTo" "[I", Cond.methodLink RX0 178 yX0_localTime, Cond.instanceMethod yX0_localTime, Cond.selects RX0 yX0_localTime yX0_localTime, Cond.code yX0_localTime cX0_localTime 2 (some .int), Cond.fieldLink RX0 63 "PushNotices" "minute" "I"]
def wsL_isQuiet_r2 : List Cond := [Cond.fieldLink RX0 26 "PushNotices" "zoneOffset" "[I", Cond.methodLink RX0 175 yJ9_floorMod_7cf53, Cond.static yJ9_floorMod_7cf53, Cond.initialized RJ9, Cond.code yJ9_floorMod_7cf53 cJ9_floorMod_7cf53 3 (some .int)]
def wsL_isQuiet : List Cond := .codeWith yL_isQuiet cL_isQuiet 4 (some .int) [(0, 16, 19, 21)] :: ((wsL_isQuiet_r1 ++ wsL_isQuiet_r2) ++ wsX00 ++ (vx_atS RX0 170 "java/lang/IndexOutOfBoundsException" ["java/lang/RuntimeException", "java/lang/Exception"]).filter goodWord)
def wsL_send_r1 : List Cond := [Cond.classLink RL 13 "java/lang/IllegalArgumentException", Cond.classLink RL 15 "java/lang/IllegalStateException", Cond.methodLink RL 42 yX0_send, Cond.instanceMethod yX0_send, Cond.selects RX0 yX0_send yX0_send, Cond.initialized RX0, Cond.code yX0_send cX0_send 5 (some .int), Cond.fieldLink RX0 9 "PushNotices" "devicesOfUser" "[I", Cond.methodLink RX0 69 yX0_requireWithin, Cond.static yX0_requireWithin, Cond.code yX0_requireWithin cX0_requireWithin 3 none, Cond.classLink RX0 161 "java/lang/IllegalArgumentException", Cond.initialized "java/lang/IllegalArgumentException", Cond.methodLink RX0 109 yX0_requireRoomForNotice, Cond.instanceMethod yX0_requireRoomForNotice, Cond.selects RX0 yX0_requireRoomForNotice yX0_requireRoomForNotice, Cond.code yX0_requireRoomForNotice cX0_requireRoomForNotice 1 none, Cond.classLink RX0 73 "java/lang/IllegalStateException", Cond.initialized "java/lang/IllegalStateException", Cond.fieldLink RX0 60 "PushNotices" "noticeCount" "I", Cond.methodLink RX0 112 yX0_replaceKey, Cond.instanceMethod yX0_replaceKey, Cond.selects RX0 yX0_replaceKey yX0_replaceKey, Cond.code yX0_replaceKey cX0_replaceKey 5 none]
def wsL_send_r2 : List Cond := [Cond.fieldLink RX0 57 "PushNotices" "lastWithKey" "[I", Cond.methodLink RX0 143 yX0_placeOf, Cond.static yX0_placeOf, Cond.code yX0_placeOf cX0_placeOf 2 (some .int), Cond.methodLink RX0 127 yX0_isStanding, Cond.instanceMethod yX0_isStanding, Cond.selects RX0 yX0_isStanding yX0_isStanding, Cond.code yX0_isStanding cX0_isStanding 2 (some .boolean), Cond.fieldLink RX0 63 "PushNotices" "minute" "I", Cond.fieldLink RX0 48 "PushNotices" "fallsAt" "[I", Cond.methodLink RX0 140 yX0_withdraw, Cond.instanceMethod yX0_withdraw, Cond.selects RX0 yX0_withdraw yX0_withdraw, Cond.code yX0_withdraw cX0_withdraw 2 none, Cond.methodLink RX0 116 yX0_sendTo, Cond.instanceMethod yX0_sendTo, Cond.selects RX0 yX0_sendTo yX0_sendTo, Cond.code yX0_sendTo cX0_sendTo 5 (some .int), Cond.fieldLink RX0 44 "PushNotices" "isHighNotice" "[Z", Cond.fieldLink RX0 51 "PushNotices" "waitSet" "[I", Cond.fieldLink RX0 16 "PushNotices" "alive" "I", Cond.methodLink RX0 92 yX0_deliverNow, Cond.instanceMethod yX0_deliverNow, Cond.selects RX0 yX0_deliverNow yX0_deliverNow]
def wsL_send_r3 : List Cond := [Cond.code yX0_deliverNow cX0_deliverNow 5 (some .int), Cond.fieldLink RX0 66 "PushNotices" "deliveryCount" "I", Cond.methodLink RX0 181 yX0_openToNormal, Cond.instanceMethod yX0_openToNormal, Cond.selects RX0 yX0_openToNormal yX0_openToNormal, Cond.code yX0_openToNormal cX0_openToNormal 3 (some .int), Cond.fieldLink RX0 20 "PushNotices" "online" "I", Cond.fieldLink RX0 23 "PushNotices" "dozing" "I", Cond.fieldLink RX0 41 "PushNotices" "deviceCount" "I", Cond.methodLink RX0 105 yX0_isInQuietHours, Cond.instanceMethod yX0_isInQuietHours, Cond.selects RX0 yX0_isInQuietHours yX0_isInQuietHours, Cond.code yX0_isInQuietHours cX0_isInQuietHours 4 (some .boolean), Cond.fieldLink RX0 29 "PushNotices" "quietFrom" "[I", Cond.fieldLink RX0 32 "PushNotices" "quietTo" "[I", Cond.methodLink RX0 178 yX0_localTime, Cond.instanceMethod yX0_localTime, Cond.selects RX0 yX0_localTime yX0_localTime, Cond.code yX0_localTime cX0_localTime 2 (some .int), Cond.fieldLink RX0 26 "PushNotices" "zoneOffset" "[I", Cond.methodLink RX0 175 yJ9_floorMod_7cf53, Cond.static yJ9_floorMod_7cf53, Cond.initialized RJ9, Cond.code yJ9_floorMod_7cf53 cJ9_floorMod_7cf53 3 (some .int)]
def wsL_send_r4 : List Cond := [Cond.methodLink RX0 88 yX0_changed, Cond.static yX0_changed, Cond.code yX0_changed cX0_changed 3 (some .int), Cond.methodLink RX0 80 yX0_bitOf, Cond.static yX0_bitOf, Cond.code yX0_bitOf cX0_bitOf 1 (some .int), Cond.methodLink RX0 132 yX0_waitsNow, Cond.instanceMethod yX0_waitsNow, Cond.selects RX0 yX0_waitsNow yX0_waitsNow, Cond.code yX0_waitsNow cX0_waitsNow 2 (some .int), Cond.methodLink RX0 184 yX0_openToHigh, Cond.instanceMethod yX0_openToHigh, Cond.selects RX0 yX0_openToHigh yX0_openToHigh, Cond.code yX0_openToHigh cX0_openToHigh 3 (some .int), Cond.methodLink RX0 96 yX0_has, Cond.static yX0_has, Cond.code yX0_has cX0_has 2 (some .boolean), Cond.methodLink RX0 147 yX0_spentToday, Cond.instanceMethod yX0_spentToday, Cond.selects RX0 yX0_spentToday yX0_spentToday, Cond.code yX0_spentToday cX0_spentToday 2 (some .int), Cond.fieldLink RX0 35 "PushNotices" "quotaDay" "[I", Cond.fieldLink RX0 38 "PushNotices" "quotaSpent" "[I", Cond.methodLink RX0 187 yX0_deliver]
def wsL_send_r5 : List Cond := [Cond.instanceMethod yX0_deliver, Cond.selects RX0 yX0_deliver yX0_deliver, Cond.code yX0_deliver cX0_deliver 3 none, Cond.fieldLink RX0 54 "PushNotices" "deliveredSet" "[I", Cond.methodLink RX0 135 yJ6_bitCount_0f7a4, Cond.static yJ6_bitCount_0f7a4, Cond.initialized RJ6, Cond.code yJ6_bitCount_0f7a4 cJ6_bitCount_0f7a4 1 (some .int), Cond.constant RJ6 265 (1431655765), Cond.constant RJ6 266 (858993459), Cond.constant RJ6 267 (252645135), Cond.methodLink RX0 190 yX0_spendQuota, Cond.instanceMethod yX0_spendQuota, Cond.selects RX0 yX0_spendQuota yX0_spendQuota, Cond.code yX0_spendQuota cX0_spendQuota 3 none]
def wsL_send : List Cond := .codeWith yL_send cL_send 7 (some .int) [(0, 14, 17, 13), (0, 14, 21, 15)] :: ((wsL_send_r1 ++ (wsL_send_r2 ++ (wsL_send_r3 ++ (wsL_send_r4 ++ wsL_send_r5)))) ++ wsX00 ++ (vx_atS RX0 165 "java/lang/IllegalArgumentException" ["java/lang/RuntimeException", "java/lang/Exception"]).filter goodWord ++ (vx_atS RX0 77 "java/lang/IllegalStateException" ["java/lang/RuntimeException", "java/lang/Exception"]).filter goodWord)
def wsL_sendBy_r1 : List Cond := [Cond.classLink RL 13 "java/lang/IllegalArgumentException", Cond.classLink RL 15 "java/lang/IllegalStateException", Cond.methodLink RL 46 yX0_sendBy, Cond.instanceMethod yX0_sendBy, Cond.selects RX0 yX0_sendBy yX0_sendBy, Cond.initialized RX0, Cond.code yX0_sendBy cX0_sendBy 6 (some .int), Cond.methodLink RX0 69 yX0_requireWithin, Cond.static yX0_requireWithin, Cond.code yX0_requireWithin cX0_requireWithin 3 none, Cond.classLink RX0 161 "java/lang/IllegalArgumentException", Cond.initialized "java/lang/IllegalArgumentException", Cond.methodLink RX0 109 yX0_requireRoomForNotice, Cond.instanceMethod yX0_requireRoomForNotice, Cond.selects RX0 yX0_requireRoomForNotice yX0_requireRoomForNotice, Cond.code yX0_requireRoomForNotice cX0_requireRoomForNotice 1 none, Cond.classLink RX0 73 "java/lang/IllegalStateException", Cond.initialized "java/lang/IllegalStateException", Cond.fieldLink RX0 60 "PushNotices" "noticeCount" "I", Cond.methodLink RX0 120 yX0_devicesThatFulfil, Cond.instanceMethod yX0_devicesThatFulfil, Cond.selects RX0 yX0_devicesThatFulfil yX0_devicesThatFulfil, Cond.code yX0_devicesThatFulfil cX0_devicesThatFulfil 4 (some .int), Cond.fieldLink RX0 13 "PushNotices" "devicesOfTopic" "[I"]
def wsL_sendBy_r2 : List Cond := [Cond.methodLink RX0 116 yX0_sendTo, Cond.instanceMethod yX0_sendTo, Cond.selects RX0 yX0_sendTo yX0_sendTo, Cond.code yX0_sendTo cX0_sendTo 5 (some .int), Cond.fieldLink RX0 44 "PushNotices" "isHighNotice" "[Z", Cond.fieldLink RX0 48 "PushNotices" "fallsAt" "[I", Cond.fieldLink RX0 63 "PushNotices" "minute" "I", Cond.fieldLink RX0 51 "PushNotices" "waitSet" "[I", Cond.fieldLink RX0 16 "PushNotices" "alive" "I", Cond.methodLink RX0 92 yX0_deliverNow, Cond.instanceMethod yX0_deliverNow, Cond.selects RX0 yX0_deliverNow yX0_deliverNow, Cond.code yX0_deliverNow cX0_deliverNow 5 (some .int), Cond.fieldLink RX0 66 "PushNotices" "deliveryCount" "I", Cond.methodLink RX0 181 yX0_openToNormal, Cond.instanceMethod yX0_openToNormal, Cond.selects RX0 yX0_openToNormal yX0_openToNormal, Cond.code yX0_openToNormal cX0_openToNormal 3 (some .int), Cond.fieldLink RX0 20 "PushNotices" "online" "I", Cond.fieldLink RX0 23 "PushNotices" "dozing" "I", Cond.fieldLink RX0 41 "PushNotices" "deviceCount" "I", Cond.methodLink RX0 105 yX0_isInQuietHours, Cond.instanceMethod yX0_isInQuietHours, Cond.selects RX0 yX0_isInQuietHours yX0_isInQuietHours]
def wsL_sendBy_r3 : List Cond := [Cond.code yX0_isInQuietHours cX0_isInQuietHours 4 (some .boolean), Cond.fieldLink RX0 29 "PushNotices" "quietFrom" "[I", Cond.fieldLink RX0 32 "PushNotices" "quietTo" "[I", Cond.methodLink RX0 178 yX0_localTime, Cond.instanceMethod yX0_localTime, Cond.selects RX0 yX0_localTime yX0_localTime, Cond.code yX0_localTime cX0_localTime 2 (some .int), Cond.fieldLink RX0 26 "PushNotices" "zoneOffset" "[I", Cond.methodLink RX0 175 yJ9_floorMod_7cf53, Cond.static yJ9_floorMod_7cf53, Cond.initialized RJ9, Cond.code yJ9_floorMod_7cf53 cJ9_floorMod_7cf53 3 (some .int), Cond.methodLink RX0 88 yX0_changed, Cond.static yX0_changed, Cond.code yX0_changed cX0_changed 3 (some .int), Cond.methodLink RX0 80 yX0_bitOf, Cond.static yX0_bitOf, Cond.code yX0_bitOf cX0_bitOf 1 (some .int), Cond.methodLink RX0 132 yX0_waitsNow, Cond.instanceMethod yX0_waitsNow, Cond.selects RX0 yX0_waitsNow yX0_waitsNow, Cond.code yX0_waitsNow cX0_waitsNow 2 (some .int), Cond.methodLink RX0 127 yX0_isStanding, Cond.instanceMethod yX0_isStanding]
def wsL_sendBy_r4 : List Cond := [Cond.selects RX0 yX0_isStanding yX0_isStanding, Cond.code yX0_isStanding cX0_isStanding 2 (some .boolean), Cond.methodLink RX0 184 yX0_openToHigh, Cond.instanceMethod yX0_openToHigh, Cond.selects RX0 yX0_openToHigh yX0_openToHigh, Cond.code yX0_openToHigh cX0_openToHigh 3 (some .int), Cond.methodLink RX0 96 yX0_has, Cond.static yX0_has, Cond.code yX0_has cX0_has 2 (some .boolean), Cond.methodLink RX0 147 yX0_spentToday, Cond.instanceMethod yX0_spentToday, Cond.selects RX0 yX0_spentToday yX0_spentToday, Cond.code yX0_spentToday cX0_spentToday 2 (some .int), Cond.fieldLink RX0 35 "PushNotices" "quotaDay" "[I", Cond.fieldLink RX0 38 "PushNotices" "quotaSpent" "[I", Cond.methodLink RX0 187 yX0_deliver, Cond.instanceMethod yX0_deliver, Cond.selects RX0 yX0_deliver yX0_deliver, Cond.code yX0_deliver cX0_deliver 3 none, Cond.fieldLink RX0 54 "PushNotices" "deliveredSet" "[I", Cond.methodLink RX0 135 yJ6_bitCount_0f7a4, Cond.static yJ6_bitCount_0f7a4, Cond.initialized RJ6, Cond.code yJ6_bitCount_0f7a4 cJ6_bitCount_0f7a4 1 (some .int)]
def wsL_sendBy_r5 : List Cond := [Cond.constant RJ6 265 (1431655765), Cond.constant RJ6 266 (858993459), Cond.constant RJ6 267 (252645135), Cond.methodLink RX0 190 yX0_spendQuota, Cond.instanceMethod yX0_spendQuota, Cond.selects RX0 yX0_spendQuota yX0_spendQuota, Cond.code yX0_spendQuota cX0_spendQuota 3 none]
def wsL_sendBy : List Cond := .codeWith yL_sendBy cL_sendBy 8 (some .int) [(0, 16, 19, 13), (0, 16, 23, 15)] :: ((wsL_sendBy_r1 ++ (wsL_sendBy_r2 ++ (wsL_sendBy_r3 ++ (wsL_sendBy_r4 ++ wsL_sendBy_r5)))) ++ wsX00 ++ (vx_atS RX0 165 "java/lang/IllegalArgumentException" ["java/lang/RuntimeException", "java/lang/Exception"]).filter goodWord ++ (vx_atS RX0 77 "java/lang/IllegalStateException" ["java/lang/RuntimeException", "java/lang/Exception"]).filter goodWord)
def wsL_read_r1 : List Cond := [Cond.classLink RL 21 "java/lang/IndexOutOfBoundsException", Cond.classLink RL 15 "java/lang/IllegalStateException", Cond.methodLink RL 50 yX0_read, Cond.instanceMethod yX0_read, Cond.selects RX0 yX0_read yX0_read, Cond.initialized RX0, Cond.code yX0_read cX0_read 4 (some .int), Cond.classLink RX0 73 "java/lang/IllegalStateException", Cond.initialized "java/lang/IllegalStateException", Cond.fieldLink RX0 54 "PushNotices" "deliveredSet" "[I", Cond.methodLink RX0 84 yX0_requireDevice, Cond.instanceMethod yX0_requireDevice, Cond.selects RX0 yX0_requireDevice yX0_requireDevice, Cond.code yX0_requireDevice cX0_requireDevice 2 none, Cond.classLink RX0 166 "java/lang/IndexOutOfBoundsException", Cond.initialized "java/lang/IndexOutOfBoundsException", Cond.fieldLink RX0 41 "PushNotices" "deviceCount" "I", Cond.methodLink RX0 124 yX0_requireNotice, Cond.instanceMethod yX0_requireNotice, Cond.selects RX0 yX0_requireNotice yX0_requireNotice, Cond.code yX0_requireNotice cX0_requireNotice 2 none, Cond.fieldLink RX0 60 "PushNotices" "noticeCount" "I", Cond.methodLink RX0 96 yX0_has, Cond.static yX0_has]
def wsL_read_r2 : List Cond := [Cond.code yX0_has cX0_has 2 (some .boolean), Cond.methodLink RX0 80 yX0_bitOf, Cond.static yX0_bitOf, Cond.code yX0_bitOf cX0_bitOf 1 (some .int), Cond.methodLink RX0 127 yX0_isStanding, Cond.instanceMethod yX0_isStanding, Cond.selects RX0 yX0_isStanding yX0_isStanding, Cond.code yX0_isStanding cX0_isStanding 2 (some .boolean), Cond.fieldLink RX0 63 "PushNotices" "minute" "I", Cond.fieldLink RX0 48 "PushNotices" "fallsAt" "[I", Cond.methodLink RX0 132 yX0_waitsNow, Cond.instanceMethod yX0_waitsNow, Cond.selects RX0 yX0_waitsNow yX0_waitsNow, Cond.code yX0_waitsNow cX0_waitsNow 2 (some .int), Cond.fieldLink RX0 51 "PushNotices" "waitSet" "[I", Cond.methodLink RX0 135 yJ6_bitCount_0f7a4, Cond.static yJ6_bitCount_0f7a4, Cond.initialized RJ6, Cond.code yJ6_bitCount_0f7a4 cJ6_bitCount_0f7a4 1 (some .int), Cond.constant RJ6 265 (1431655765), Cond.constant RJ6 266 (858993459), Cond.constant RJ6 267 (252645135), Cond.methodLink RX0 140 yX0_withdraw, Cond.instanceMethod yX0_withdraw]
def wsL_read_r3 : List Cond := [Cond.selects RX0 yX0_withdraw yX0_withdraw, Cond.code yX0_withdraw cX0_withdraw 2 none]
def wsL_read : List Cond := .codeWith yL_read cL_read 5 (some .int) [(0, 10, 13, 21), (0, 10, 17, 15)] :: ((wsL_read_r1 ++ (wsL_read_r2 ++ wsL_read_r3)) ++ wsX00 ++ (vx_atS RX0 77 "java/lang/IllegalStateException" ["java/lang/RuntimeException", "java/lang/Exception"]).filter goodWord ++ (vx_atS RX0 170 "java/lang/IndexOutOfBoundsException" ["java/lang/RuntimeException", "java/lang/Exception"]).filter goodWord)
def wsL_stands : List Cond := .codeWith yL_stands cL_stands 4 (some .int) [(0, 16, 19, 21)] :: ([.classLink RL 21 "java/lang/IndexOutOfBoundsException", .methodLink RL 53 yX0_stands, .instanceMethod yX0_stands, .selects RX0 yX0_stands yX0_stands, .initialized RX0, .code yX0_stands cX0_stands 2 (some .boolean), .methodLink RX0 124 yX0_requireNotice, .instanceMethod yX0_requireNotice, .selects RX0 yX0_requireNotice yX0_requireNotice, .code yX0_requireNotice cX0_requireNotice 2 none, .classLink RX0 166 "java/lang/IndexOutOfBoundsException", .initialized "java/lang/IndexOutOfBoundsException", .fieldLink RX0 60 "PushNotices" "noticeCount" "I", .methodLink RX0 127 yX0_isStanding, .instanceMethod yX0_isStanding, .selects RX0 yX0_isStanding yX0_isStanding, .code yX0_isStanding cX0_isStanding 2 (some .boolean), .fieldLink RX0 63 "PushNotices" "minute" "I", .fieldLink RX0 48 "PushNotices" "fallsAt" "[I"] ++ wsX00 ++ (vx_atS RX0 170 "java/lang/IndexOutOfBoundsException" ["java/lang/RuntimeException", "java/lang/Exception"]).filter goodWord)
def wsL_waitsFor : List Cond := .codeWith yL_waitsFor cL_waitsFor 4 (some .int) [(0, 9, 12, 21)] :: ([.classLink RL 21 "java/lang/IndexOutOfBoundsException", .methodLink RL 56 yX0_waitsFor, .instanceMethod yX0_waitsFor, .selects RX0 yX0_waitsFor yX0_waitsFor, .initialized RX0, .code yX0_waitsFor cX0_waitsFor 2 (some .int), .methodLink RX0 124 yX0_requireNotice, .instanceMethod yX0_requireNotice, .selects RX0 yX0_requireNotice yX0_requireNotice, .code yX0_requireNotice cX0_requireNotice 2 none, .classLink RX0 166 "java/lang/IndexOutOfBoundsException", .initialized "java/lang/IndexOutOfBoundsException", .fieldLink RX0 60 "PushNotices" "noticeCount" "I", .methodLink RX0 132 yX0_waitsNow, .instanceMethod yX0_waitsNow, .selects RX0 yX0_waitsNow yX0_waitsNow, .code yX0_waitsNow cX0_waitsNow 2 (some .int), .fieldLink RX0 51 "PushNotices" "waitSet" "[I", .methodLink RX0 127 yX0_isStanding, .instanceMethod yX0_isStanding, .selects RX0 yX0_isStanding yX0_isStanding, .code yX0_isStanding cX0_isStanding 2 (some .boolean), .fieldLink RX0 63 "PushNotices" "minute" "I", .fieldLink RX0 48 "PushNotices" "fallsAt" "[I"] ++ wsX00 ++ (vx_atS RX0 170 "java/lang/IndexOutOfBoundsException" ["java/lang/RuntimeException", "java/lang/Exception"]).filter goodWord)
def wsL_deliveredTo : List Cond := .codeWith yL_deliveredTo cL_deliveredTo 4 (some .int) [(0, 9, 12, 21)] :: ([.classLink RL 21 "java/lang/IndexOutOfBoundsException", .methodLink RL 59 yX0_deliveredTo, .instanceMethod yX0_deliveredTo, .selects RX0 yX0_deliveredTo yX0_deliveredTo, .initialized RX0, .code yX0_deliveredTo cX0_deliveredTo 2 (some .int), .fieldLink RX0 54 "PushNotices" "deliveredSet" "[I", .methodLink RX0 124 yX0_requireNotice, .instanceMethod yX0_requireNotice, .selects RX0 yX0_requireNotice yX0_requireNotice, .code yX0_requireNotice cX0_requireNotice 2 none, .classLink RX0 166 "java/lang/IndexOutOfBoundsException", .initialized "java/lang/IndexOutOfBoundsException", .fieldLink RX0 60 "PushNotices" "noticeCount" "I"] ++ wsX00 ++ (vx_atS RX0 170 "java/lang/IndexOutOfBoundsException" ["java/lang/RuntimeException", "java/lang/Exception"]).filter goodWord)
def wsL_standing : List Cond := .codeWith yL_standing cL_standing 5 (some .int) [(0, 10, 13, 13)] :: ([.classLink RL 13 "java/lang/IllegalArgumentException", .methodLink RL 62 yX0_standing, .instanceMethod yX0_standing, .selects RX0 yX0_standing yX0_standing, .initialized RX0, .code yX0_standing cX0_standing 4 (some .int), .fieldLink RX0 57 "PushNotices" "lastWithKey" "[I", .methodLink RX0 69 yX0_requireWithin, .static yX0_requireWithin, .code yX0_requireWithin cX0_requireWithin 3 none, .classLink RX0 161 "java/lang/IllegalArgumentException", .initialized "java/lang/IllegalArgumentException", .methodLink RX0 143 yX0_placeOf, .static yX0_placeOf, .code yX0_placeOf cX0_placeOf 2 (some .int), .methodLink RX0 127 yX0_isStanding, .instanceMethod yX0_isStanding, .selects RX0 yX0_isStanding yX0_isStanding, .code yX0_isStanding cX0_isStanding 2 (some .boolean), .fieldLink RX0 63 "PushNotices" "minute" "I", .fieldLink RX0 48 "PushNotices" "fallsAt" "[I"] ++ wsX00 ++ (vx_atS RX0 165 "java/lang/IllegalArgumentException" ["java/lang/RuntimeException", "java/lang/Exception"]).filter goodWord)
def wsL_badge_r1 : List Cond := [Cond.classLink RL 21 "java/lang/IndexOutOfBoundsException", Cond.methodLink RL 65 yX0_badge, Cond.instanceMethod yX0_badge, Cond.selects RX0 yX0_badge yX0_badge, Cond.initialized RX0, Cond.code yX0_badge cX0_badge 4 (some .int), Cond.fieldLink RX0 60 "PushNotices" "noticeCount" "I", Cond.fieldLink RX0 54 "PushNotices" "deliveredSet" "[I", Cond.methodLink RX0 84 yX0_requireDevice, Cond.instanceMethod yX0_requireDevice, Cond.selects RX0 yX0_requireDevice yX0_requireDevice, Cond.code yX0_requireDevice cX0_requireDevice 2 none, Cond.classLink RX0 166 "java/lang/IndexOutOfBoundsException", Cond.initialized "java/lang/IndexOutOfBoundsException", Cond.fieldLink RX0 41 "PushNotices" "deviceCount" "I", Cond.methodLink RX0 96 yX0_has, Cond.static yX0_has, Cond.code yX0_has cX0_has 2 (some .boolean), Cond.methodLink RX0 80 yX0_bitOf, Cond.static yX0_bitOf, Cond.code yX0_bitOf cX0_bitOf 1 (some .int), Cond.methodLink RX0 127 yX0_isStanding, Cond.instanceMethod yX0_isStanding, Cond.selects RX0 yX0_isStanding yX0_isStanding]
def wsL_badge_r2 : List Cond := [Cond.code yX0_isStanding cX0_isStanding 2 (some .boolean), Cond.fieldLink RX0 63 "PushNotices" "minute" "I", Cond.fieldLink RX0 48 "PushNotices" "fallsAt" "[I"]
def wsL_badge : List Cond := .codeWith yL_badge cL_badge 4 (some .int) [(0, 9, 12, 21)] :: ((wsL_badge_r1 ++ wsL_badge_r2) ++ wsX00 ++ (vx_atS RX0 170 "java/lang/IndexOutOfBoundsException" ["java/lang/RuntimeException", "java/lang/Exception"]).filter goodWord)
def wsL_waiting_r1 : List Cond := [Cond.classLink RL 21 "java/lang/IndexOutOfBoundsException", Cond.methodLink RL 68 yX0_waiting, Cond.instanceMethod yX0_waiting, Cond.selects RX0 yX0_waiting yX0_waiting, Cond.initialized RX0, Cond.code yX0_waiting cX0_waiting 2 (some .int), Cond.methodLink RX0 84 yX0_requireDevice, Cond.instanceMethod yX0_requireDevice, Cond.selects RX0 yX0_requireDevice yX0_requireDevice, Cond.code yX0_requireDevice cX0_requireDevice 2 none, Cond.classLink RX0 166 "java/lang/IndexOutOfBoundsException", Cond.initialized "java/lang/IndexOutOfBoundsException", Cond.fieldLink RX0 41 "PushNotices" "deviceCount" "I", Cond.methodLink RX0 102 yX0_countWaiting, Cond.instanceMethod yX0_countWaiting, Cond.selects RX0 yX0_countWaiting yX0_countWaiting, Cond.code yX0_countWaiting cX0_countWaiting 4 (some .int), Cond.fieldLink RX0 60 "PushNotices" "noticeCount" "I", Cond.methodLink RX0 132 yX0_waitsNow, Cond.instanceMethod yX0_waitsNow, Cond.selects RX0 yX0_waitsNow yX0_waitsNow, Cond.code yX0_waitsNow cX0_waitsNow 2 (some .int), Cond.fieldLink RX0 51 "PushNotices" "waitSet" "[I", Cond.methodLink RX0 127 yX0_isStanding]
def wsL_waiting_r2 : List Cond := [Cond.instanceMethod yX0_isStanding, Cond.selects RX0 yX0_isStanding yX0_isStanding, Cond.code yX0_isStanding cX0_isStanding 2 (some .boolean), Cond.fieldLink RX0 63 "PushNotices" "minute" "I", Cond.fieldLink RX0 48 "PushNotices" "fallsAt" "[I", Cond.methodLink RX0 96 yX0_has, Cond.static yX0_has, Cond.code yX0_has cX0_has 2 (some .boolean), Cond.methodLink RX0 80 yX0_bitOf, Cond.static yX0_bitOf, Cond.code yX0_bitOf cX0_bitOf 1 (some .int)]
def wsL_waiting : List Cond := .codeWith yL_waiting cL_waiting 4 (some .int) [(0, 9, 12, 21)] :: ((wsL_waiting_r1 ++ wsL_waiting_r2) ++ wsX00 ++ (vx_atS RX0 170 "java/lang/IndexOutOfBoundsException" ["java/lang/RuntimeException", "java/lang/Exception"]).filter goodWord)
def wsL_quota : List Cond := .codeWith yL_quota cL_quota 4 (some .int) [(0, 9, 12, 21)] :: ([.classLink RL 21 "java/lang/IndexOutOfBoundsException", .methodLink RL 71 yX0_quota, .instanceMethod yX0_quota, .selects RX0 yX0_quota yX0_quota, .initialized RX0, .code yX0_quota cX0_quota 2 (some .int), .methodLink RX0 84 yX0_requireDevice, .instanceMethod yX0_requireDevice, .selects RX0 yX0_requireDevice yX0_requireDevice, .code yX0_requireDevice cX0_requireDevice 2 none, .classLink RX0 166 "java/lang/IndexOutOfBoundsException", .initialized "java/lang/IndexOutOfBoundsException", .fieldLink RX0 41 "PushNotices" "deviceCount" "I", .methodLink RX0 147 yX0_spentToday, .instanceMethod yX0_spentToday, .selects RX0 yX0_spentToday yX0_spentToday, .code yX0_spentToday cX0_spentToday 2 (some .int), .fieldLink RX0 35 "PushNotices" "quotaDay" "[I", .fieldLink RX0 63 "PushNotices" "minute" "I", .fieldLink RX0 38 "PushNotices" "quotaSpent" "[I"] ++ wsX00 ++ (vx_atS RX0 170 "java/lang/IndexOutOfBoundsException" ["java/lang/RuntimeException", "java/lang/Exception"]).filter goodWord)
def wsL_pass_r1 : List Cond := [Cond.classLink RL 13 "java/lang/IllegalArgumentException", Cond.classLink RL 15 "java/lang/IllegalStateException", Cond.methodLink RL 74 yX0_pass, Cond.instanceMethod yX0_pass, Cond.selects RX0 yX0_pass yX0_pass, Cond.initialized RX0, Cond.code yX0_pass cX0_pass 5 (some .int), Cond.classLink RX0 73 "java/lang/IllegalStateException", Cond.initialized "java/lang/IllegalStateException", Cond.fieldLink RX0 63 "PushNotices" "minute" "I", Cond.constant RX0 150 (100000), Cond.methodLink RX0 156 Lib.Math.min.name, Cond.static Lib.Math.min.name, Cond.initialized "java/lang/Math", Cond.code Lib.Math.min.name Lib.Math.min.code 2 (some .int), Cond.methodLink RX0 69 yX0_requireWithin, Cond.static yX0_requireWithin, Cond.code yX0_requireWithin cX0_requireWithin 3 none, Cond.classLink RX0 161 "java/lang/IllegalArgumentException", Cond.initialized "java/lang/IllegalArgumentException", Cond.methodLink RX0 153 yX0_nextChance, Cond.instanceMethod yX0_nextChance, Cond.selects RX0 yX0_nextChance yX0_nextChance, Cond.code yX0_nextChance cX0_nextChance 4 (some .int)]
def wsL_pass_r2 : List Cond := [Cond.fieldLink RX0 41 "PushNotices" "deviceCount" "I", Cond.fieldLink RX0 32 "PushNotices" "quietTo" "[I", Cond.methodLink RX0 105 yX0_isInQuietHours, Cond.instanceMethod yX0_isInQuietHours, Cond.selects RX0 yX0_isInQuietHours yX0_isInQuietHours, Cond.code yX0_isInQuietHours cX0_isInQuietHours 4 (some .boolean), Cond.fieldLink RX0 29 "PushNotices" "quietFrom" "[I", Cond.methodLink RX0 178 yX0_localTime, Cond.instanceMethod yX0_localTime, Cond.selects RX0 yX0_localTime yX0_localTime, Cond.code yX0_localTime cX0_localTime 2 (some .int), Cond.fieldLink RX0 26 "PushNotices" "zoneOffset" "[I", Cond.methodLink RX0 175 yJ9_floorMod_7cf53, Cond.static yJ9_floorMod_7cf53, Cond.initialized RJ9, Cond.code yJ9_floorMod_7cf53 cJ9_floorMod_7cf53 3 (some .int), Cond.methodLink RX0 92 yX0_deliverNow, Cond.instanceMethod yX0_deliverNow, Cond.selects RX0 yX0_deliverNow yX0_deliverNow, Cond.code yX0_deliverNow cX0_deliverNow 5 (some .int), Cond.fieldLink RX0 66 "PushNotices" "deliveryCount" "I", Cond.fieldLink RX0 60 "PushNotices" "noticeCount" "I", Cond.fieldLink RX0 44 "PushNotices" "isHighNotice" "[Z", Cond.methodLink RX0 181 yX0_openToNormal]
def wsL_pass_r3 : List Cond := [Cond.instanceMethod yX0_openToNormal, Cond.selects RX0 yX0_openToNormal yX0_openToNormal, Cond.code yX0_openToNormal cX0_openToNormal 3 (some .int), Cond.fieldLink RX0 20 "PushNotices" "online" "I", Cond.fieldLink RX0 23 "PushNotices" "dozing" "I", Cond.methodLink RX0 88 yX0_changed, Cond.static yX0_changed, Cond.code yX0_changed cX0_changed 3 (some .int), Cond.methodLink RX0 80 yX0_bitOf, Cond.static yX0_bitOf, Cond.code yX0_bitOf cX0_bitOf 1 (some .int), Cond.methodLink RX0 132 yX0_waitsNow, Cond.instanceMethod yX0_waitsNow, Cond.selects RX0 yX0_waitsNow yX0_waitsNow, Cond.code yX0_waitsNow cX0_waitsNow 2 (some .int), Cond.fieldLink RX0 51 "PushNotices" "waitSet" "[I", Cond.methodLink RX0 127 yX0_isStanding, Cond.instanceMethod yX0_isStanding, Cond.selects RX0 yX0_isStanding yX0_isStanding, Cond.code yX0_isStanding cX0_isStanding 2 (some .boolean), Cond.fieldLink RX0 48 "PushNotices" "fallsAt" "[I", Cond.methodLink RX0 184 yX0_openToHigh, Cond.instanceMethod yX0_openToHigh, Cond.selects RX0 yX0_openToHigh yX0_openToHigh]
def wsL_pass_r4 : List Cond := [Cond.code yX0_openToHigh cX0_openToHigh 3 (some .int), Cond.methodLink RX0 96 yX0_has, Cond.static yX0_has, Cond.code yX0_has cX0_has 2 (some .boolean), Cond.methodLink RX0 147 yX0_spentToday, Cond.instanceMethod yX0_spentToday, Cond.selects RX0 yX0_spentToday yX0_spentToday, Cond.code yX0_spentToday cX0_spentToday 2 (some .int), Cond.fieldLink RX0 35 "PushNotices" "quotaDay" "[I", Cond.fieldLink RX0 38 "PushNotices" "quotaSpent" "[I", Cond.methodLink RX0 187 yX0_deliver, Cond.instanceMethod yX0_deliver, Cond.selects RX0 yX0_deliver yX0_deliver, Cond.code yX0_deliver cX0_deliver 3 none, Cond.fieldLink RX0 54 "PushNotices" "deliveredSet" "[I", Cond.methodLink RX0 135 yJ6_bitCount_0f7a4, Cond.static yJ6_bitCount_0f7a4, Cond.initialized RJ6, Cond.code yJ6_bitCount_0f7a4 cJ6_bitCount_0f7a4 1 (some .int), Cond.constant RJ6 265 (1431655765), Cond.constant RJ6 266 (858993459), Cond.constant RJ6 267 (252645135), Cond.methodLink RX0 190 yX0_spendQuota, Cond.instanceMethod yX0_spendQuota]
def wsL_pass_r5 : List Cond := [Cond.selects RX0 yX0_spendQuota yX0_spendQuota, Cond.code yX0_spendQuota cX0_spendQuota 3 none]
def wsL_pass : List Cond := .codeWith yL_pass cL_pass 4 (some .int) [(0, 9, 12, 13), (0, 9, 15, 15)] :: ((wsL_pass_r1 ++ (wsL_pass_r2 ++ (wsL_pass_r3 ++ (wsL_pass_r4 ++ wsL_pass_r5)))) ++ wsX00 ++ (vx_atS RX0 77 "java/lang/IllegalStateException" ["java/lang/RuntimeException", "java/lang/Exception"]).filter goodWord ++ (vx_atS RX0 165 "java/lang/IllegalArgumentException" ["java/lang/RuntimeException", "java/lang/Exception"]).filter goodWord)
def wsL_law0_r1 : List Cond := [Cond.classLink RL 8 RX0, Cond.instantiable RX0 19, Cond.initialized RX0, Cond.classLink RL 78 RX1, Cond.instantiable RX1 22, Cond.initialized RX1, Cond.arrayClass .long, Cond.methodLink RL 77 yX0_init, Cond.instanceMethod yX0_init, Cond.code yX0_init cX0_init 2 none, Cond.methodLink RX0 1 objectInit, Cond.instanceMethod objectInit, Cond.code objectInit ⟨#[0xb1]⟩ 1 none, Cond.arrayClass .int, Cond.fieldLink RX0 9 "PushNotices" "devicesOfUser" "[I", Cond.fieldLink RX0 13 "PushNotices" "devicesOfTopic" "[I", Cond.fieldLink RX0 16 "PushNotices" "alive" "I", Cond.fieldLink RX0 20 "PushNotices" "online" "I", Cond.fieldLink RX0 23 "PushNotices" "dozing" "I", Cond.fieldLink RX0 26 "PushNotices" "zoneOffset" "[I", Cond.fieldLink RX0 29 "PushNotices" "quietFrom" "[I", Cond.fieldLink RX0 32 "PushNotices" "quietTo" "[I", Cond.fieldLink RX0 35 "PushNotices" "quotaDay" "[I", Cond.fieldLink RX0 38 "PushNotices" "quotaSpent" "[I"]
def wsL_law0_r2 : List Cond := [Cond.fieldLink RX0 41 "PushNotices" "deviceCount" "I", Cond.arrayClass .boolean, Cond.fieldLink RX0 44 "PushNotices" "isHighNotice" "[Z", Cond.fieldLink RX0 48 "PushNotices" "fallsAt" "[I", Cond.fieldLink RX0 51 "PushNotices" "waitSet" "[I", Cond.fieldLink RX0 54 "PushNotices" "deliveredSet" "[I", Cond.fieldLink RX0 57 "PushNotices" "lastWithKey" "[I", Cond.fieldLink RX0 60 "PushNotices" "noticeCount" "I", Cond.fieldLink RX0 63 "PushNotices" "minute" "I", Cond.fieldLink RX0 66 "PushNotices" "deliveryCount" "I", Cond.methodLink RL 80 yX1_init, Cond.instanceMethod yX1_init, Cond.code yX1_init cX1_init 1 none, Cond.methodLink RX1 1 objectInit, Cond.fieldLink RX1 7 "PushNoticesModel" "owners" "[I", Cond.fieldLink RX1 13 "PushNoticesModel" "offsets" "[I", Cond.fieldLink RX1 16 "PushNoticesModel" "isOnline" "[Z", Cond.fieldLink RX1 20 "PushNoticesModel" "isDozing" "[Z", Cond.fieldLink RX1 23 "PushNoticesModel" "isDead" "[Z", Cond.fieldLink RX1 26 "PushNoticesModel" "froms" "[I", Cond.fieldLink RX1 29 "PushNoticesModel" "tos" "[I", Cond.fieldLink RX1 32 "PushNoticesModel" "joined" "[I", Cond.fieldLink RX1 35 "PushNoticesModel" "days" "[I", Cond.fieldLink RX1 38 "PushNoticesModel" "spent" "[I"]
def wsL_law0_r3 : List Cond := [Cond.fieldLink RX1 41 "PushNoticesModel" "isHigh" "[Z", Cond.fieldLink RX1 44 "PushNoticesModel" "ends" "[I", Cond.fieldLink RX1 47 "PushNoticesModel" "users" "[I", Cond.fieldLink RX1 50 "PushNoticesModel" "keys" "[I", Cond.fieldLink RX1 53 "PushNoticesModel" "isOver" "[Z", Cond.fieldLink RX1 56 "PushNoticesModel" "waits" "[I", Cond.fieldLink RX1 59 "PushNoticesModel" "delivered" "[I", Cond.methodLink RL 81 yL_addDevice, Cond.static yL_addDevice, Cond.initialized RL, Cond.codeWith yL_addDevice cL_addDevice 5 (some .int) [(0, 10, 13, 13), (0, 10, 17, 15)], Cond.classLink RL 13 "java/lang/IllegalArgumentException", Cond.classLink RL 15 "java/lang/IllegalStateException", Cond.methodLink RL 7 yX0_addDevice, Cond.instanceMethod yX0_addDevice, Cond.selects RX0 yX0_addDevice yX0_addDevice, Cond.code yX0_addDevice cX0_addDevice 4 (some .int), Cond.classLink RX0 73 "java/lang/IllegalStateException", Cond.initialized "java/lang/IllegalStateException", Cond.methodLink RX0 69 yX0_requireWithin, Cond.static yX0_requireWithin, Cond.code yX0_requireWithin cX0_requireWithin 3 none, Cond.classLink RX0 161 "java/lang/IllegalArgumentException", Cond.initialized "java/lang/IllegalArgumentException"]
def wsL_law0_r4 : List Cond := [Cond.methodLink RX0 80 yX0_bitOf, Cond.static yX0_bitOf, Cond.code yX0_bitOf cX0_bitOf 1 (some .int), Cond.methodLink RL 86 yX1_addDevice, Cond.instanceMethod yX1_addDevice, Cond.selects RX1 yX1_addDevice yX1_addDevice, Cond.code yX1_addDevice cX1_addDevice 4 (some .int), Cond.fieldLink RX1 66 "PushNoticesModel" "devices" "I", Cond.methodLink RX1 69 yX1_in, Cond.static yX1_in, Cond.code yX1_in cX1_in 3 (some .boolean), Cond.methodLink RX1 98 yX1_refused, Cond.instanceMethod yX1_refused, Cond.selects RX1 yX1_refused yX1_refused, Cond.code yX1_refused cX1_refused 2 (some .boolean), Cond.fieldLink RX1 62 "PushNoticesModel" "refusal" "I", Cond.methodLink RL 87 yX1_thrown, Cond.instanceMethod yX1_thrown, Cond.selects RX1 yX1_thrown yX1_thrown, Cond.code yX1_thrown cX1_thrown 1 (some .int), Cond.methodLink RL 91 yL_setOnline, Cond.static yL_setOnline, Cond.codeWith yL_setOnline cL_setOnline 5 (some .int) [(0, 10, 13, 21)], Cond.classLink RL 21 "java/lang/IndexOutOfBoundsException"]
def wsL_law0_r5 : List Cond := [Cond.methodLink RL 17 yX0_setOnline, Cond.instanceMethod yX0_setOnline, Cond.selects RX0 yX0_setOnline yX0_setOnline, Cond.code yX0_setOnline cX0_setOnline 3 (some .int), Cond.methodLink RX0 84 yX0_requireDevice, Cond.instanceMethod yX0_requireDevice, Cond.selects RX0 yX0_requireDevice yX0_requireDevice, Cond.code yX0_requireDevice cX0_requireDevice 2 none, Cond.classLink RX0 166 "java/lang/IndexOutOfBoundsException", Cond.initialized "java/lang/IndexOutOfBoundsException", Cond.methodLink RX0 88 yX0_changed, Cond.static yX0_changed, Cond.code yX0_changed cX0_changed 3 (some .int), Cond.methodLink RX0 92 yX0_deliverNow, Cond.instanceMethod yX0_deliverNow, Cond.selects RX0 yX0_deliverNow yX0_deliverNow, Cond.code yX0_deliverNow cX0_deliverNow 5 (some .int), Cond.methodLink RX0 181 yX0_openToNormal, Cond.instanceMethod yX0_openToNormal, Cond.selects RX0 yX0_openToNormal yX0_openToNormal, Cond.code yX0_openToNormal cX0_openToNormal 3 (some .int), Cond.methodLink RX0 105 yX0_isInQuietHours, Cond.instanceMethod yX0_isInQuietHours, Cond.selects RX0 yX0_isInQuietHours yX0_isInQuietHours]
def wsL_law0_r6 : List Cond := [Cond.code yX0_isInQuietHours cX0_isInQuietHours 4 (some .boolean), Cond.methodLink RX0 178 yX0_localTime, Cond.instanceMethod yX0_localTime, Cond.selects RX0 yX0_localTime yX0_localTime, Cond.code yX0_localTime cX0_localTime 2 (some .int), Cond.methodLink RX0 175 yJ9_floorMod_7cf53, Cond.static yJ9_floorMod_7cf53, Cond.initialized RJ9, Cond.code yJ9_floorMod_7cf53 cJ9_floorMod_7cf53 3 (some .int), Cond.methodLink RX0 132 yX0_waitsNow, Cond.instanceMethod yX0_waitsNow, Cond.selects RX0 yX0_waitsNow yX0_waitsNow, Cond.code yX0_waitsNow cX0_waitsNow 2 (some .int), Cond.methodLink RX0 127 yX0_isStanding, Cond.instanceMethod yX0_isStanding, Cond.selects RX0 yX0_isStanding yX0_isStanding, Cond.code yX0_isStanding cX0_isStanding 2 (some .boolean), Cond.methodLink RX0 184 yX0_openToHigh, Cond.instanceMethod yX0_openToHigh, Cond.selects RX0 yX0_openToHigh yX0_openToHigh, Cond.code yX0_openToHigh cX0_openToHigh 3 (some .int), Cond.methodLink RX0 96 yX0_has, Cond.static yX0_has, Cond.code yX0_has cX0_has 2 (some .boolean)]
def wsL_law0_r7 : List Cond := [Cond.methodLink RX0 147 yX0_spentToday, Cond.instanceMethod yX0_spentToday, Cond.selects RX0 yX0_spentToday yX0_spentToday, Cond.code yX0_spentToday cX0_spentToday 2 (some .int), Cond.methodLink RX0 187 yX0_deliver, Cond.instanceMethod yX0_deliver, Cond.selects RX0 yX0_deliver yX0_deliver, Cond.code yX0_deliver cX0_deliver 3 none, Cond.methodLink RX0 135 yJ6_bitCount_0f7a4, Cond.static yJ6_bitCount_0f7a4, Cond.initialized RJ6, Cond.code yJ6_bitCount_0f7a4 cJ6_bitCount_0f7a4 1 (some .int), Cond.constant RJ6 265 (1431655765), Cond.constant RJ6 266 (858993459), Cond.constant RJ6 267 (252645135), Cond.methodLink RX0 190 yX0_spendQuota, Cond.instanceMethod yX0_spendQuota, Cond.selects RX0 yX0_spendQuota yX0_spendQuota, Cond.code yX0_spendQuota cX0_spendQuota 3 none, Cond.methodLink RL 94 yX1_setOnline, Cond.instanceMethod yX1_setOnline, Cond.selects RX1 yX1_setOnline yX1_setOnline, Cond.code yX1_setOnline cX1_setOnline 3 (some .int), Cond.methodLink RX1 101 yX1_isDevice]
def wsL_law0_r8 : List Cond := [Cond.instanceMethod yX1_isDevice, Cond.selects RX1 yX1_isDevice yX1_isDevice, Cond.code yX1_isDevice cX1_isDevice 2 (some .boolean), Cond.methodLink RX1 104 yX1_look, Cond.instanceMethod yX1_look, Cond.selects RX1 yX1_look yX1_look, Cond.code yX1_look cX1_look 4 (some .int), Cond.fieldLink RX1 87 "PushNoticesModel" "deliveries" "I", Cond.fieldLink RX1 73 "PushNoticesModel" "notices" "I", Cond.methodLink RX1 90 yX1_can, Cond.instanceMethod yX1_can, Cond.selects RX1 yX1_can yX1_can, Cond.code yX1_can cX1_can 3 (some .boolean), Cond.fieldLink RX1 76 "PushNoticesModel" "clock" "I", Cond.methodLink RX1 79 yX1_used, Cond.instanceMethod yX1_used, Cond.selects RX1 yX1_used yX1_used, Cond.code yX1_used cX1_used 2 (some .int), Cond.methodLink RX1 83 yX1_isQuietNow, Cond.instanceMethod yX1_isQuietNow, Cond.selects RX1 yX1_isQuietNow yX1_isQuietNow, Cond.code yX1_isQuietNow cX1_isQuietNow 5 (some .boolean), Cond.methodLink RX1 94 yX1_deliver, Cond.instanceMethod yX1_deliver]
def wsL_law0_r9 : List Cond := [Cond.selects RX1 yX1_deliver yX1_deliver, Cond.code yX1_deliver cX1_deliver 3 none, Cond.methodLink RL 95 yL_setDozing, Cond.static yL_setDozing, Cond.codeWith yL_setDozing cL_setDozing 5 (some .int) [(0, 10, 13, 21)], Cond.methodLink RL 23 yX0_setDozing, Cond.instanceMethod yX0_setDozing, Cond.selects RX0 yX0_setDozing yX0_setDozing, Cond.code yX0_setDozing cX0_setDozing 3 (some .int), Cond.methodLink RL 97 yX1_setDozing, Cond.instanceMethod yX1_setDozing, Cond.selects RX1 yX1_setDozing yX1_setDozing, Cond.code yX1_setDozing cX1_setDozing 3 (some .int), Cond.methodLink RL 98 yL_setQuiet, Cond.static yL_setQuiet, Cond.codeWith yL_setQuiet cL_setQuiet 6 (some .int) [(0, 12, 15, 21), (0, 12, 19, 13)], Cond.methodLink RL 26 yX0_setQuiet, Cond.instanceMethod yX0_setQuiet, Cond.selects RX0 yX0_setQuiet yX0_setQuiet, Cond.code yX0_setQuiet cX0_setQuiet 4 (some .int), Cond.methodLink RL 101 yX1_setQuiet, Cond.instanceMethod yX1_setQuiet, Cond.selects RX1 yX1_setQuiet yX1_setQuiet, Cond.code yX1_setQuiet cX1_setQuiet 4 (some .int)]
def wsL_law0_r10 : List Cond := [Cond.methodLink RL 102 yL_join, Cond.static yL_join, Cond.codeWith yL_join cL_join 6 (some .int) [(0, 19, 22, 21), (0, 19, 26, 13)], Cond.methodLink RL 30 yX0_join, Cond.instanceMethod yX0_join, Cond.selects RX0 yX0_join yX0_join, Cond.code yX0_join cX0_join 5 (some .boolean), Cond.methodLink RL 105 yX1_join, Cond.instanceMethod yX1_join, Cond.selects RX1 yX1_join yX1_join, Cond.code yX1_join cX1_join 5 (some .boolean), Cond.methodLink RL 106 yL_kill, Cond.static yL_kill, Cond.codeWith yL_kill cL_kill 4 (some .int) [(0, 9, 12, 21), (0, 9, 15, 15)], Cond.methodLink RL 34 yX0_kill, Cond.instanceMethod yX0_kill, Cond.selects RX0 yX0_kill yX0_kill, Cond.code yX0_kill cX0_kill 4 (some .int), Cond.methodLink RX0 102 yX0_countWaiting, Cond.instanceMethod yX0_countWaiting, Cond.selects RX0 yX0_countWaiting yX0_countWaiting, Cond.code yX0_countWaiting cX0_countWaiting 4 (some .int), Cond.methodLink RL 109 yX1_kill, Cond.instanceMethod yX1_kill]
def wsL_law0_r11 : List Cond := [Cond.selects RX1 yX1_kill yX1_kill, Cond.code yX1_kill cX1_kill 4 (some .int), Cond.methodLink RX1 108 yX1_countWaiting, Cond.instanceMethod yX1_countWaiting, Cond.selects RX1 yX1_countWaiting yX1_countWaiting, Cond.code yX1_countWaiting cX1_countWaiting 4 (some .int), Cond.methodLink RL 110 yX0_devices, Cond.instanceMethod yX0_devices, Cond.selects RX0 yX0_devices yX0_devices, Cond.code yX0_devices cX0_devices 1 (some .int), Cond.methodLink RL 113 yX1_devices, Cond.instanceMethod yX1_devices, Cond.selects RX1 yX1_devices yX1_devices, Cond.code yX1_devices cX1_devices 1 (some .int), Cond.methodLink RX1 111 yX1_fine, Cond.instanceMethod yX1_fine, Cond.selects RX1 yX1_fine yX1_fine, Cond.code yX1_fine cX1_fine 2 (some .int), Cond.methodLink RL 114 yL_isQuiet, Cond.static yL_isQuiet, Cond.codeWith yL_isQuiet cL_isQuiet 4 (some .int) [(0, 16, 19, 21)], Cond.methodLink RL 38 yX0_isQuiet, Cond.instanceMethod yX0_isQuiet, Cond.selects RX0 yX0_isQuiet yX0_isQuiet]
def wsL_law0_r12 : List Cond := [Cond.code yX0_isQuiet cX0_isQuiet 2 (some .boolean), Cond.methodLink RL 116 yX1_isQuiet, Cond.instanceMethod yX1_isQuiet, Cond.selects RX1 yX1_isQuiet yX1_isQuiet, Cond.code yX1_isQuiet cX1_isQuiet 2 (some .boolean), Cond.methodLink RL 117 yL_send, Cond.static yL_send, Cond.codeWith yL_send cL_send 7 (some .int) [(0, 14, 17, 13), (0, 14, 21, 15)], Cond.methodLink RL 42 yX0_send, Cond.instanceMethod yX0_send, Cond.selects RX0 yX0_send yX0_send, Cond.code yX0_send cX0_send 5 (some .int), Cond.methodLink RX0 109 yX0_requireRoomForNotice, Cond.instanceMethod yX0_requireRoomForNotice, Cond.selects RX0 yX0_requireRoomForNotice yX0_requireRoomForNotice, Cond.code yX0_requireRoomForNotice cX0_requireRoomForNotice 1 none, Cond.methodLink RX0 112 yX0_replaceKey, Cond.instanceMethod yX0_replaceKey, Cond.selects RX0 yX0_replaceKey yX0_replaceKey, Cond.code yX0_replaceKey cX0_replaceKey 5 none, Cond.methodLink RX0 143 yX0_placeOf, Cond.static yX0_placeOf, Cond.code yX0_placeOf cX0_placeOf 2 (some .int), Cond.methodLink RX0 140 yX0_withdraw]
def wsL_law0_r13 : List Cond := [Cond.instanceMethod yX0_withdraw, Cond.selects RX0 yX0_withdraw yX0_withdraw, Cond.code yX0_withdraw cX0_withdraw 2 none, Cond.methodLink RX0 116 yX0_sendTo, Cond.instanceMethod yX0_sendTo, Cond.selects RX0 yX0_sendTo yX0_sendTo, Cond.code yX0_sendTo cX0_sendTo 5 (some .int), Cond.methodLink RL 120 yX1_send, Cond.instanceMethod yX1_send, Cond.selects RX1 yX1_send yX1_send, Cond.code yX1_send cX1_send 9 (some .int), Cond.methodLink RX1 114 yX1_standingNow, Cond.instanceMethod yX1_standingNow, Cond.selects RX1 yX1_standingNow yX1_standingNow, Cond.code yX1_standingNow cX1_standingNow 5 (some .int), Cond.methodLink RX1 118 yX1_end, Cond.instanceMethod yX1_end, Cond.selects RX1 yX1_end yX1_end, Cond.code yX1_end cX1_end 2 none, Cond.methodLink RX1 122 yX1_add, Cond.instanceMethod yX1_add, Cond.selects RX1 yX1_add yX1_add, Cond.code yX1_add cX1_add 6 (some .int), Cond.methodLink RL 121 yL_sendBy]
def wsL_law0_r14 : List Cond := [Cond.static yL_sendBy, Cond.codeWith yL_sendBy cL_sendBy 8 (some .int) [(0, 16, 19, 13), (0, 16, 23, 15)], Cond.methodLink RL 46 yX0_sendBy, Cond.instanceMethod yX0_sendBy, Cond.selects RX0 yX0_sendBy yX0_sendBy, Cond.code yX0_sendBy cX0_sendBy 6 (some .int), Cond.methodLink RX0 120 yX0_devicesThatFulfil, Cond.instanceMethod yX0_devicesThatFulfil, Cond.selects RX0 yX0_devicesThatFulfil yX0_devicesThatFulfil, Cond.code yX0_devicesThatFulfil cX0_devicesThatFulfil 4 (some .int), Cond.methodLink RL 124 yX1_sendBy, Cond.instanceMethod yX1_sendBy, Cond.selects RX1 yX1_sendBy yX1_sendBy, Cond.code yX1_sendBy cX1_sendBy 12 (some .int), Cond.methodLink RL 125 yL_read, Cond.static yL_read, Cond.codeWith yL_read cL_read 5 (some .int) [(0, 10, 13, 21), (0, 10, 17, 15)], Cond.methodLink RL 50 yX0_read, Cond.instanceMethod yX0_read, Cond.selects RX0 yX0_read yX0_read, Cond.code yX0_read cX0_read 4 (some .int), Cond.methodLink RX0 124 yX0_requireNotice, Cond.instanceMethod yX0_requireNotice, Cond.selects RX0 yX0_requireNotice yX0_requireNotice]
def wsL_law0_r15 : List Cond := [Cond.code yX0_requireNotice cX0_requireNotice 2 none, Cond.methodLink RL 127 yX1_read, Cond.instanceMethod yX1_read, Cond.selects RX1 yX1_read yX1_read, Cond.code yX1_read cX1_read 6 (some .int), Cond.methodLink RX1 126 yX1_isNotice, Cond.instanceMethod yX1_isNotice, Cond.selects RX1 yX1_isNotice yX1_isNotice, Cond.code yX1_isNotice cX1_isNotice 2 (some .boolean), Cond.methodLink RX1 129 yX1_bits, Cond.static yX1_bits, Cond.code yX1_bits cX1_bits 3 (some .int), Cond.methodLink RL 128 yX0_sent, Cond.instanceMethod yX0_sent, Cond.selects RX0 yX0_sent yX0_sent, Cond.code yX0_sent cX0_sent 1 (some .int), Cond.methodLink RL 131 yX1_sent, Cond.instanceMethod yX1_sent, Cond.selects RX1 yX1_sent yX1_sent, Cond.code yX1_sent cX1_sent 1 (some .int), Cond.methodLink RL 132 yL_stands, Cond.static yL_stands, Cond.codeWith yL_stands cL_stands 4 (some .int) [(0, 16, 19, 21)], Cond.methodLink RL 53 yX0_stands]
def wsL_law0_r16 : List Cond := [Cond.instanceMethod yX0_stands, Cond.selects RX0 yX0_stands yX0_stands, Cond.code yX0_stands cX0_stands 2 (some .boolean), Cond.methodLink RL 134 yX1_stands, Cond.instanceMethod yX1_stands, Cond.selects RX1 yX1_stands yX1_stands, Cond.code yX1_stands cX1_stands 2 (some .boolean), Cond.methodLink RX1 132 yX1_noNotice, Cond.instanceMethod yX1_noNotice, Cond.selects RX1 yX1_noNotice yX1_noNotice, Cond.code yX1_noNotice cX1_noNotice 2 (some .boolean), Cond.methodLink RL 135 yL_waitsFor, Cond.static yL_waitsFor, Cond.codeWith yL_waitsFor cL_waitsFor 4 (some .int) [(0, 9, 12, 21)], Cond.methodLink RL 56 yX0_waitsFor, Cond.instanceMethod yX0_waitsFor, Cond.selects RX0 yX0_waitsFor yX0_waitsFor, Cond.code yX0_waitsFor cX0_waitsFor 2 (some .int), Cond.methodLink RL 137 yX1_waitsFor, Cond.instanceMethod yX1_waitsFor, Cond.selects RX1 yX1_waitsFor yX1_waitsFor, Cond.code yX1_waitsFor cX1_waitsFor 2 (some .int), Cond.methodLink RL 138 yL_deliveredTo, Cond.static yL_deliveredTo]
def wsL_law0_r17 : List Cond := [Cond.codeWith yL_deliveredTo cL_deliveredTo 4 (some .int) [(0, 9, 12, 21)], Cond.methodLink RL 59 yX0_deliveredTo, Cond.instanceMethod yX0_deliveredTo, Cond.selects RX0 yX0_deliveredTo yX0_deliveredTo, Cond.code yX0_deliveredTo cX0_deliveredTo 2 (some .int), Cond.methodLink RL 140 yX1_deliveredTo, Cond.instanceMethod yX1_deliveredTo, Cond.selects RX1 yX1_deliveredTo yX1_deliveredTo, Cond.code yX1_deliveredTo cX1_deliveredTo 2 (some .int), Cond.methodLink RL 141 yL_standing, Cond.static yL_standing, Cond.codeWith yL_standing cL_standing 5 (some .int) [(0, 10, 13, 13)], Cond.methodLink RL 62 yX0_standing, Cond.instanceMethod yX0_standing, Cond.selects RX0 yX0_standing yX0_standing, Cond.code yX0_standing cX0_standing 4 (some .int), Cond.methodLink RL 143 yX1_standing, Cond.instanceMethod yX1_standing, Cond.selects RX1 yX1_standing yX1_standing, Cond.code yX1_standing cX1_standing 3 (some .int), Cond.methodLink RL 144 yL_badge, Cond.static yL_badge, Cond.codeWith yL_badge cL_badge 4 (some .int) [(0, 9, 12, 21)], Cond.methodLink RL 65 yX0_badge]
def wsL_law0_r18 : List Cond := [Cond.instanceMethod yX0_badge, Cond.selects RX0 yX0_badge yX0_badge, Cond.code yX0_badge cX0_badge 4 (some .int), Cond.methodLink RL 146 yX1_badge, Cond.instanceMethod yX1_badge, Cond.selects RX1 yX1_badge yX1_badge, Cond.code yX1_badge cX1_badge 4 (some .int), Cond.methodLink RL 147 yL_waiting, Cond.static yL_waiting, Cond.codeWith yL_waiting cL_waiting 4 (some .int) [(0, 9, 12, 21)], Cond.methodLink RL 68 yX0_waiting, Cond.instanceMethod yX0_waiting, Cond.selects RX0 yX0_waiting yX0_waiting, Cond.code yX0_waiting cX0_waiting 2 (some .int), Cond.methodLink RL 149 yX1_waiting, Cond.instanceMethod yX1_waiting, Cond.selects RX1 yX1_waiting yX1_waiting, Cond.code yX1_waiting cX1_waiting 2 (some .int), Cond.methodLink RL 150 yL_quota, Cond.static yL_quota, Cond.codeWith yL_quota cL_quota 4 (some .int) [(0, 9, 12, 21)], Cond.methodLink RL 71 yX0_quota, Cond.instanceMethod yX0_quota, Cond.selects RX0 yX0_quota yX0_quota]
def wsL_law0_r19 : List Cond := [Cond.code yX0_quota cX0_quota 2 (some .int), Cond.methodLink RL 152 yX1_quota, Cond.instanceMethod yX1_quota, Cond.selects RX1 yX1_quota yX1_quota, Cond.code yX1_quota cX1_quota 2 (some .int), Cond.methodLink RL 153 yL_pass, Cond.static yL_pass, Cond.codeWith yL_pass cL_pass 4 (some .int) [(0, 9, 12, 13), (0, 9, 15, 15)], Cond.methodLink RL 74 yX0_pass, Cond.instanceMethod yX0_pass, Cond.selects RX0 yX0_pass yX0_pass, Cond.code yX0_pass cX0_pass 5 (some .int), Cond.constant RX0 150 (100000), Cond.methodLink RX0 156 Lib.Math.min.name, Cond.static Lib.Math.min.name, Cond.initialized "java/lang/Math", Cond.code Lib.Math.min.name Lib.Math.min.code 2 (some .int), Cond.methodLink RX0 153 yX0_nextChance, Cond.instanceMethod yX0_nextChance, Cond.selects RX0 yX0_nextChance yX0_nextChance, Cond.code yX0_nextChance cX0_nextChance 4 (some .int), Cond.methodLink RL 155 yX1_pass, Cond.instanceMethod yX1_pass, Cond.selects RX1 yX1_pass yX1_pass]
def wsL_law0_r20 : List Cond := [Cond.code yX1_pass cX1_pass 5 (some .int), Cond.constant RX1 135 (100000), Cond.methodLink RL 156 yX0_clock, Cond.instanceMethod yX0_clock, Cond.selects RX0 yX0_clock yX0_clock, Cond.code yX0_clock cX0_clock 1 (some .int), Cond.methodLink RL 159 yX1_clock, Cond.instanceMethod yX1_clock, Cond.selects RX1 yX1_clock yX1_clock, Cond.code yX1_clock cX1_clock 1 (some .int), Cond.methodLink RL 160 yX0_deliveries, Cond.instanceMethod yX0_deliveries, Cond.selects RX0 yX0_deliveries yX0_deliveries, Cond.code yX0_deliveries cX0_deliveries 1 (some .int), Cond.methodLink RL 163 yX1_deliveries, Cond.instanceMethod yX1_deliveries, Cond.selects RX1 yX1_deliveries yX1_deliveries, Cond.code yX1_deliveries cX1_deliveries 1 (some .int)]
def wsL_law0 : List Cond := (wsL_law0_r1 ++ (wsL_law0_r2 ++ (wsL_law0_r3 ++ (wsL_law0_r4 ++ (wsL_law0_r5 ++ (wsL_law0_r6 ++ (wsL_law0_r7 ++ (wsL_law0_r8 ++ (wsL_law0_r9 ++ (wsL_law0_r10 ++ (wsL_law0_r11 ++ (wsL_law0_r12 ++ (wsL_law0_r13 ++ (wsL_law0_r14 ++ (wsL_law0_r15 ++ (wsL_law0_r16 ++ (wsL_law0_r17 ++ (wsL_law0_r18 ++ (wsL_law0_r19 ++ wsL_law0_r20))))))))))))))))))) ++ wsX00 ++ wsX10 ++ ([] : List Cond)
end
section
set_option maxRecDepth 20000 in
theorem lwc_1 : ∀ w ∈ wsL_law0_r1, w ∈ lw_tbl := by decide +kernel
set_option maxRecDepth 20000 in
theorem lwc_2 : ∀ w ∈ wsL_law0_r2, w ∈ lw_tbl := by decide +kernel
set_option maxRecDepth 20000 in
theorem lwc_3 : ∀ w ∈ wsL_law0_r3, w ∈ lw_tbl := by decide +kernel
set_option maxRecDepth 20000 in
theorem lwc_4 : ∀ w ∈ wsL_law0_r4, w ∈ lw_tbl := by decide +kernel
set_option maxRecDepth 20000 in
theorem lwc_5 : ∀ w ∈ wsL_law0_r5, w ∈ lw_tbl := by decide +kernel
set_option maxRecDepth 20000 in
theorem lwc_6 : ∀ w ∈ wsL_law0_r6, w ∈ lw_tbl := by decide +kernel
set_option maxRecDepth 20000 in
theorem lwc_7 : ∀ w ∈ wsL_law0_r7, w ∈ lw_tbl := by decide +kernel
set_option maxRecDepth 20000 in
theorem lwc_8 : ∀ w ∈ wsL_law0_r8, w ∈ lw_tbl := by decide +kernel
set_option maxRecDepth 20000 in
theorem lwc_9 : ∀ w ∈ wsL_law0_r9, w ∈ lw_tbl := by decide +kernel
set_option maxRecDepth 20000 in
theorem lwc_10 : ∀ w ∈ wsL_law0_r10, w ∈ lw_tbl := by decide +kernel
end
section
set_option maxRecDepth 20000 in
theorem lwc_11 : ∀ w ∈ wsL_law0_r11, w ∈ lw_tbl := by decide +kernel
set_option maxRecDepth 20000 in
theorem lwc_12 : ∀ w ∈ wsL_law0_r12, w ∈ lw_tbl := by decide +kernel
set_option maxRecDepth 20000 in
theorem lwc_13 : ∀ w ∈ wsL_law0_r13, w ∈ lw_tbl := by decide +kernel
set_option maxRecDepth 20000 in
theorem lwc_14 : ∀ w ∈ wsL_law0_r14, w ∈ lw_tbl := by decide +kernel
set_option maxRecDepth 20000 in
theorem lwc_15 : ∀ w ∈ wsL_law0_r15, w ∈ lw_tbl := by decide +kernel
set_option maxRecDepth 20000 in
theorem lwc_16 : ∀ w ∈ wsL_law0_r16, w ∈ lw_tbl := by decide +kernel
set_option maxRecDepth 20000 in
theorem lwc_17 : ∀ w ∈ wsL_law0_r17, w ∈ lw_tbl := by decide +kernel
set_option maxRecDepth 20000 in
theorem lwc_18 : ∀ w ∈ wsL_law0_r18, w ∈ lw_tbl := by decide +kernel
set_option maxRecDepth 20000 in
theorem lwc_19 : ∀ w ∈ wsL_law0_r19, w ∈ lw_tbl := by decide +kernel
set_option maxRecDepth 20000 in
theorem lwc_20 : ∀ w ∈ wsL_law0_r20, w ∈ lw_tbl := by decide +kernel
set_option maxRecDepth 20000 in
theorem lwc_X0 : ∀ w ∈ wsX00, w ∈ lw_tbl := by decide +kernel
set_option maxRecDepth 20000 in
theorem lwc_X1 : ∀ w ∈ wsX10, w ∈ lw_tbl := by decide +kernel
end
section
def wsL_law : List Cond := wsL_law0 ++ (vx_atS RX0 77 "java/lang/IllegalStateException" ["java/lang/RuntimeException", "java/lang/Exception"]).filter goodWord ++ (vx_atS RX0 165 "java/lang/IllegalArgumentException" ["java/lang/RuntimeException", "java/lang/Exception"]).filter goodWord ++ (vx_atS RX0 170 "java/lang/IndexOutOfBoundsException" ["java/lang/RuntimeException", "java/lang/Exception"]).filter goodWord
set_option maxRecDepth 20000 in
theorem wsL_law_in0 : ∀ w ∈ wsL_law0, w ∈ lw_tbl := fun w h => (List.mem_append.mp h).elim (fun h => (List.mem_append.mp h).elim (fun h => (List.mem_append.mp h).elim (fun h => (List.mem_append.mp h).elim (lwc_1 w) (fun h => (List.mem_append.mp h).elim (lwc_2 w) (fun h => (List.mem_append.mp h).elim (lwc_3 w) (fun h => (List.mem_append.mp h).elim (lwc_4 w) (fun h => (List.mem_append.mp h).elim (lwc_5 w) (fun h => (List.mem_append.mp h).elim (lwc_6 w) (fun h => (List.mem_append.mp h).elim (lwc_7 w) (fun h => (List.mem_append.mp h).elim (lwc_8 w) (fun h => (List.mem_append.mp h).elim (lwc_9 w) (fun h => (List.mem_append.mp h).elim (lwc_10 w) (fun h => (List.mem_append.mp h).elim (lwc_11 w) (fun h => (List.mem_append.mp h).elim (lwc_12 w) (fun h => (List.mem_append.mp h).elim (lwc_13 w) (fun h => (List.mem_append.mp h).elim (lwc_14 w) (fun h => (List.mem_append.mp h).elim (lwc_15 w) (fun h => (List.mem_append.mp h).elim (lwc_16 w) (fun h => (List.mem_append.mp h).elim (lwc_17 w) (fun h => (List.mem_append.mp h).elim (lwc_18 w) (fun h => (List.mem_append.mp h).elim (lwc_19 w) (fun h => lwc_20 w h)))))))))))))))))))) (lwc_X0 w)) (lwc_X1 w)) (fun h => nomatch h)
theorem wsL_law_x0 : ∀ w ∈ (vx_atS RX0 77 "java/lang/IllegalStateException" ["java/lang/RuntimeException", "java/lang/Exception"]).filter goodWord, w ∈ lw_tbl := by decide +kernel
theorem wsL_law_x1 : ∀ w ∈ (vx_atS RX0 165 "java/lang/IllegalArgumentException" ["java/lang/RuntimeException", "java/lang/Exception"]).filter goodWord, w ∈ lw_tbl := by decide +kernel
theorem wsL_law_x2 : ∀ w ∈ (vx_atS RX0 170 "java/lang/IndexOutOfBoundsException" ["java/lang/RuntimeException", "java/lang/Exception"]).filter goodWord, w ∈ lw_tbl := by decide +kernel
theorem wsL_law_in : ∀ w ∈ wsL_law, w ∈ lw_tbl := fun w h => (List.mem_append.mp h).elim (fun h => (List.mem_append.mp h).elim (fun h => (List.mem_append.mp h).elim (fun h => wsL_law_in0 w h) (fun h => wsL_law_x0 w h)) (fun h => wsL_law_x1 w h)) (fun h => wsL_law_x2 w h)
theorem inlX0 : ∀ w ∈ wsX00, w ∈ wsL_law := fun _ h => List.mem_append_left _ (List.mem_append_left _ (List.mem_append_left _ (List.mem_append_left _ (List.mem_append_left _ (List.mem_append_right _ h)))))
theorem inX0 : ∀ w ∈ wsX00, w ∈ lw_tbl := fun w h => wsL_law_in w (inlX0 w h)
theorem inlX1 : ∀ w ∈ wsX10, w ∈ wsL_law := fun _ h => List.mem_append_left _ (List.mem_append_left _ (List.mem_append_left _ (List.mem_append_left _ (List.mem_append_right _ h))))
theorem inX1 : ∀ w ∈ wsX10, w ∈ lw_tbl := fun w h => wsL_law_in w (inlX1 w h)
theorem inJ6 : ∀ w ∈ wsJ60, w ∈ lw_tbl := by decide +kernel
end
section
theorem inJ9 : ∀ w ∈ wsJ90, w ∈ lw_tbl := by decide +kernel
theorem inJ0 : ∀ w ∈ wsJ00, w ∈ lw_tbl := by decide +kernel
theorem dX0_init_0 : decode cX0_init 0 = .ok (.aload_n 0, 1) := by decide +kernel
theorem dX0_init_1 : decode cX0_init 1 = .ok (.invokespecial 1, 3) := by decide +kernel
theorem dX0_init_4 : decode cX0_init 4 = .ok (.aload_n 0, 1) := by decide +kernel
theorem dX0_init_5 : decode cX0_init 5 = .ok (.bipush 8, 2) := by decide +kernel
theorem dX0_init_7 : decode cX0_init 7 = .ok (.newarray .int, 2) := by decide +kernel
theorem dX0_init_9 : decode cX0_init 9 = .ok (.putfield 9, 3) := by decide +kernel
theorem dX0_init_12 : decode cX0_init 12 = .ok (.aload_n 0, 1) := by decide +kernel
theorem dX0_init_13 : decode cX0_init 13 = .ok (.bipush 6, 2) := by decide +kernel
theorem dX0_init_15 : decode cX0_init 15 = .ok (.newarray .int, 2) := by decide +kernel
theorem dX0_init_17 : decode cX0_init 17 = .ok (.putfield 13, 3) := by decide +kernel
theorem dX0_init_20 : decode cX0_init 20 = .ok (.aload_n 0, 1) := by decide +kernel
theorem dX0_init_21 : decode cX0_init 21 = .ok (.iconst 0, 1) := by decide +kernel
theorem dX0_init_22 : decode cX0_init 22 = .ok (.putfield 16, 3) := by decide +kernel
theorem dX0_init_25 : decode cX0_init 25 = .ok (.aload_n 0, 1) := by decide +kernel
theorem dX0_init_26 : decode cX0_init 26 = .ok (.iconst 0, 1) := by decide +kernel
theorem dX0_init_27 : decode cX0_init 27 = .ok (.putfield 20, 3) := by decide +kernel
theorem dX0_init_30 : decode cX0_init 30 = .ok (.aload_n 0, 1) := by decide +kernel
theorem dX0_init_31 : decode cX0_init 31 = .ok (.iconst 0, 1) := by decide +kernel
theorem dX0_init_32 : decode cX0_init 32 = .ok (.putfield 23, 3) := by decide +kernel
theorem dX0_init_35 : decode cX0_init 35 = .ok (.aload_n 0, 1) := by decide +kernel
theorem dX0_init_36 : decode cX0_init 36 = .ok (.bipush 16, 2) := by decide +kernel
theorem dX0_init_38 : decode cX0_init 38 = .ok (.newarray .int, 2) := by decide +kernel
theorem dX0_init_40 : decode cX0_init 40 = .ok (.putfield 26, 3) := by decide +kernel
theorem dX0_init_43 : decode cX0_init 43 = .ok (.aload_n 0, 1) := by decide +kernel
theorem dX0_init_44 : decode cX0_init 44 = .ok (.bipush 16, 2) := by decide +kernel
theorem dX0_init_46 : decode cX0_init 46 = .ok (.newarray .int, 2) := by decide +kernel
theorem dX0_init_48 : decode cX0_init 48 = .ok (.putfield 29, 3) := by decide +kernel
theorem dX0_init_51 : decode cX0_init 51 = .ok (.aload_n 0, 1) := by decide +kernel
theorem dX0_init_52 : decode cX0_init 52 = .ok (.bipush 16, 2) := by decide +kernel
theorem dX0_init_54 : decode cX0_init 54 = .ok (.newarray .int, 2) := by decide +kernel
theorem dX0_init_56 : decode cX0_init 56 = .ok (.putfield 32, 3) := by decide +kernel
theorem dX0_init_59 : decode cX0_init 59 = .ok (.aload_n 0, 1) := by decide +kernel
theorem dX0_init_60 : decode cX0_init 60 = .ok (.bipush 16, 2) := by decide +kernel
theorem dX0_init_62 : decode cX0_init 62 = .ok (.newarray .int, 2) := by decide +kernel
theorem dX0_init_64 : decode cX0_init 64 = .ok (.putfield 35, 3) := by decide +kernel
theorem dX0_init_67 : decode cX0_init 67 = .ok (.aload_n 0, 1) := by decide +kernel
theorem dX0_init_68 : decode cX0_init 68 = .ok (.bipush 16, 2) := by decide +kernel
theorem dX0_init_70 : decode cX0_init 70 = .ok (.newarray .int, 2) := by decide +kernel
theorem dX0_init_72 : decode cX0_init 72 = .ok (.putfield 38, 3) := by decide +kernel
theorem dX0_init_75 : decode cX0_init 75 = .ok (.aload_n 0, 1) := by decide +kernel
theorem dX0_init_76 : decode cX0_init 76 = .ok (.iconst 0, 1) := by decide +kernel
theorem dX0_init_77 : decode cX0_init 77 = .ok (.putfield 41, 3) := by decide +kernel
theorem dX0_init_80 : decode cX0_init 80 = .ok (.aload_n 0, 1) := by decide +kernel
theorem dX0_init_81 : decode cX0_init 81 = .ok (.bipush 120, 2) := by decide +kernel
theorem dX0_init_83 : decode cX0_init 83 = .ok (.newarray .boolean, 2) := by decide +kernel
theorem dX0_init_85 : decode cX0_init 85 = .ok (.putfield 44, 3) := by decide +kernel
theorem dX0_init_88 : decode cX0_init 88 = .ok (.aload_n 0, 1) := by decide +kernel
theorem dX0_init_89 : decode cX0_init 89 = .ok (.bipush 120, 2) := by decide +kernel
theorem dX0_init_91 : decode cX0_init 91 = .ok (.newarray .int, 2) := by decide +kernel
theorem dX0_init_93 : decode cX0_init 93 = .ok (.putfield 48, 3) := by decide +kernel
theorem dX0_init_96 : decode cX0_init 96 = .ok (.aload_n 0, 1) := by decide +kernel
theorem dX0_init_97 : decode cX0_init 97 = .ok (.bipush 120, 2) := by decide +kernel
theorem dX0_init_99 : decode cX0_init 99 = .ok (.newarray .int, 2) := by decide +kernel
theorem dX0_init_101 : decode cX0_init 101 = .ok (.putfield 51, 3) := by decide +kernel
theorem dX0_init_104 : decode cX0_init 104 = .ok (.aload_n 0, 1) := by decide +kernel
theorem dX0_init_105 : decode cX0_init 105 = .ok (.bipush 120, 2) := by decide +kernel
theorem dX0_init_107 : decode cX0_init 107 = .ok (.newarray .int, 2) := by decide +kernel
theorem dX0_init_109 : decode cX0_init 109 = .ok (.putfield 54, 3) := by decide +kernel
theorem dX0_init_112 : decode cX0_init 112 = .ok (.aload_n 0, 1) := by decide +kernel
theorem dX0_init_113 : decode cX0_init 113 = .ok (.bipush 80, 2) := by decide +kernel
theorem dX0_init_115 : decode cX0_init 115 = .ok (.newarray .int, 2) := by decide +kernel
theorem dX0_init_117 : decode cX0_init 117 = .ok (.putfield 57, 3) := by decide +kernel
theorem dX0_init_120 : decode cX0_init 120 = .ok (.aload_n 0, 1) := by decide +kernel
theorem dX0_init_121 : decode cX0_init 121 = .ok (.iconst 0, 1) := by decide +kernel
theorem dX0_init_122 : decode cX0_init 122 = .ok (.putfield 60, 3) := by decide +kernel
theorem dX0_init_125 : decode cX0_init 125 = .ok (.aload_n 0, 1) := by decide +kernel
theorem dX0_init_126 : decode cX0_init 126 = .ok (.iconst 0, 1) := by decide +kernel
theorem dX0_init_127 : decode cX0_init 127 = .ok (.putfield 63, 3) := by decide +kernel
theorem dX0_init_130 : decode cX0_init 130 = .ok (.aload_n 0, 1) := by decide +kernel
theorem dX0_init_131 : decode cX0_init 131 = .ok (.iconst 0, 1) := by decide +kernel
theorem dX0_init_132 : decode cX0_init 132 = .ok (.putfield 66, 3) := by decide +kernel
theorem dX0_init_135 : decode cX0_init 135 = .ok (.iconst 0, 1) := by decide +kernel
theorem dX0_init_136 : decode cX0_init 136 = .ok (.istore_n 1, 1) := by decide +kernel
theorem dX0_init_137 : decode cX0_init 137 = .ok (.iload_n 1, 1) := by decide +kernel
theorem dX0_init_138 : decode cX0_init 138 = .ok (.bipush 80, 2) := by decide +kernel
theorem dX0_init_140 : decode cX0_init 140 = .ok (.if_icmp .ge 16, 3) := by decide +kernel
theorem dX0_init_143 : decode cX0_init 143 = .ok (.aload_n 0, 1) := by decide +kernel
theorem dX0_init_144 : decode cX0_init 144 = .ok (.getfield 57, 3) := by decide +kernel
theorem dX0_init_147 : decode cX0_init 147 = .ok (.iload_n 1, 1) := by decide +kernel
theorem dX0_init_148 : decode cX0_init 148 = .ok (.iconst (-1), 1) := by decide +kernel
theorem dX0_init_149 : decode cX0_init 149 = .ok (.iastore, 1) := by decide +kernel
theorem dX0_init_150 : decode cX0_init 150 = .ok (.iinc 1 1, 3) := by decide +kernel
theorem dX0_init_153 : decode cX0_init 153 = .ok (.goto (-16), 3) := by decide +kernel
theorem dX0_init_156 : decode cX0_init 156 = .ok (.return_, 1) := by decide +kernel
set_option maxRecDepth 20000 in
theorem ggX0_addDevice_X0_requireWithin : GoodIn wsX0_addDevice wsX0_requireWithin := goodIn_ca (goodIn_r _ [11, 12, 13] (by decide +kernel) (by decide +kernel)) (goodIn_sub (fun _ h => List.mem_cons_of_mem _ (List.mem_append_right _ h)) (by decide +kernel))
set_option maxRecDepth 20000 in
theorem gX0_addDevice_X0_requireWithin : GoodIn wsX0_addDevice (va_wsS RX0 69 yX0_requireWithin wsX0_requireWithin) := goodIn_app (goodIn_of _ (by decide +kernel)) ggX0_addDevice_X0_requireWithin
set_option maxRecDepth 20000 in
theorem ggX0_addDevice_X0_bitOf : GoodIn wsX0_addDevice wsX0_bitOf := goodIn_r _ [16] (by decide +kernel) (by decide +kernel)
set_option maxRecDepth 20000 in
theorem gX0_addDevice_X0_bitOf : GoodIn wsX0_addDevice (va_wsS RX0 80 yX0_bitOf wsX0_bitOf) := goodIn_app (goodIn_of _ (by decide +kernel)) ggX0_addDevice_X0_bitOf
theorem dX0_addDevice_0 : decode cX0_addDevice 0 = .ok (.iload_n 1, 1) := by decide +kernel
theorem dX0_addDevice_1 : decode cX0_addDevice 1 = .ok (.iconst 0, 1) := by decide +kernel
theorem dX0_addDevice_2 : decode cX0_addDevice 2 = .ok (.bipush 7, 2) := by decide +kernel
theorem dX0_addDevice_4 : decode cX0_addDevice 4 = .ok (.invokestatic 69, 3) := by decide +kernel
theorem dX0_addDevice_7 : decode cX0_addDevice 7 = .ok (.iload_n 2, 1) := by decide +kernel
theorem dX0_addDevice_8 : decode cX0_addDevice 8 = .ok (.sipush (-720), 3) := by decide +kernel
theorem dX0_addDevice_11 : decode cX0_addDevice 11 = .ok (.sipush 840, 3) := by decide +kernel
theorem dX0_addDevice_14 : decode cX0_addDevice 14 = .ok (.invokestatic 69, 3) := by decide +kernel
theorem dX0_addDevice_17 : decode cX0_addDevice 17 = .ok (.aload_n 0, 1) := by decide +kernel
theorem dX0_addDevice_18 : decode cX0_addDevice 18 = .ok (.getfield 41, 3) := by decide +kernel
theorem dX0_addDevice_21 : decode cX0_addDevice 21 = .ok (.bipush 16, 2) := by decide +kernel
theorem dX0_addDevice_23 : decode cX0_addDevice 23 = .ok (.if_icmp .lt 13, 3) := by decide +kernel
theorem dX0_addDevice_26 : decode cX0_addDevice 26 = .ok (.new 73, 3) := by decide +kernel
theorem dX0_addDevice_29 : decode cX0_addDevice 29 = .ok (.dup, 1) := by decide +kernel
theorem dX0_addDevice_30 : decode cX0_addDevice 30 = .ok (.ldc 75, 2) := by decide +kernel
theorem dX0_addDevice_32 : decode cX0_addDevice 32 = .ok (.invokespecial 77, 3) := by decide +kernel
theorem dX0_addDevice_35 : decode cX0_addDevice 35 = .ok (.athrow, 1) := by decide +kernel
theorem dX0_addDevice_36 : decode cX0_addDevice 36 = .ok (.aload_n 0, 1) := by decide +kernel
theorem dX0_addDevice_37 : decode cX0_addDevice 37 = .ok (.getfield 41, 3) := by decide +kernel
theorem dX0_addDevice_40 : decode cX0_addDevice 40 = .ok (.istore_n 3, 1) := by decide +kernel
theorem dX0_addDevice_41 : decode cX0_addDevice 41 = .ok (.aload_n 0, 1) := by decide +kernel
theorem dX0_addDevice_42 : decode cX0_addDevice 42 = .ok (.dup, 1) := by decide +kernel
theorem dX0_addDevice_43 : decode cX0_addDevice 43 = .ok (.getfield 41, 3) := by decide +kernel
theorem dX0_addDevice_46 : decode cX0_addDevice 46 = .ok (.iconst 1, 1) := by decide +kernel
theorem dX0_addDevice_47 : decode cX0_addDevice 47 = .ok (.iadd, 1) := by decide +kernel
theorem dX0_addDevice_48 : decode cX0_addDevice 48 = .ok (.putfield 41, 3) := by decide +kernel
theorem dX0_addDevice_51 : decode cX0_addDevice 51 = .ok (.aload_n 0, 1) := by decide +kernel
theorem dX0_addDevice_52 : decode cX0_addDevice 52 = .ok (.getfield 26, 3) := by decide +kernel
theorem dX0_addDevice_55 : decode cX0_addDevice 55 = .ok (.iload_n 3, 1) := by decide +kernel
theorem dX0_addDevice_56 : decode cX0_addDevice 56 = .ok (.iload_n 2, 1) := by decide +kernel
theorem dX0_addDevice_57 : decode cX0_addDevice 57 = .ok (.iastore, 1) := by decide +kernel
theorem dX0_addDevice_58 : decode cX0_addDevice 58 = .ok (.aload_n 0, 1) := by decide +kernel
theorem dX0_addDevice_59 : decode cX0_addDevice 59 = .ok (.getfield 9, 3) := by decide +kernel
theorem dX0_addDevice_62 : decode cX0_addDevice 62 = .ok (.iload_n 1, 1) := by decide +kernel
theorem dX0_addDevice_63 : decode cX0_addDevice 63 = .ok (.dup2, 1) := by decide +kernel
theorem dX0_addDevice_64 : decode cX0_addDevice 64 = .ok (.iaload, 1) := by decide +kernel
theorem dX0_addDevice_65 : decode cX0_addDevice 65 = .ok (.iload_n 3, 1) := by decide +kernel
theorem dX0_addDevice_66 : decode cX0_addDevice 66 = .ok (.invokestatic 80, 3) := by decide +kernel
theorem dX0_addDevice_69 : decode cX0_addDevice 69 = .ok (.ior, 1) := by decide +kernel
theorem dX0_addDevice_70 : decode cX0_addDevice 70 = .ok (.iastore, 1) := by decide +kernel
theorem dX0_addDevice_71 : decode cX0_addDevice 71 = .ok (.aload_n 0, 1) := by decide +kernel
theorem dX0_addDevice_72 : decode cX0_addDevice 72 = .ok (.dup, 1) := by decide +kernel
theorem dX0_addDevice_73 : decode cX0_addDevice 73 = .ok (.getfield 16, 3) := by decide +kernel
theorem dX0_addDevice_76 : decode cX0_addDevice 76 = .ok (.iload_n 3, 1) := by decide +kernel
theorem dX0_addDevice_77 : decode cX0_addDevice 77 = .ok (.invokestatic 80, 3) := by decide +kernel
theorem dX0_addDevice_80 : decode cX0_addDevice 80 = .ok (.ior, 1) := by decide +kernel
theorem dX0_addDevice_81 : decode cX0_addDevice 81 = .ok (.putfield 16, 3) := by decide +kernel
theorem dX0_addDevice_84 : decode cX0_addDevice 84 = .ok (.aload_n 0, 1) := by decide +kernel
theorem dX0_addDevice_85 : decode cX0_addDevice 85 = .ok (.dup, 1) := by decide +kernel
theorem dX0_addDevice_86 : decode cX0_addDevice 86 = .ok (.getfield 20, 3) := by decide +kernel
theorem dX0_addDevice_89 : decode cX0_addDevice 89 = .ok (.iload_n 3, 1) := by decide +kernel
theorem dX0_addDevice_90 : decode cX0_addDevice 90 = .ok (.invokestatic 80, 3) := by decide +kernel
theorem dX0_addDevice_93 : decode cX0_addDevice 93 = .ok (.ior, 1) := by decide +kernel
theorem dX0_addDevice_94 : decode cX0_addDevice 94 = .ok (.putfield 20, 3) := by decide +kernel
theorem dX0_addDevice_97 : decode cX0_addDevice 97 = .ok (.iload_n 3, 1) := by decide +kernel
theorem dX0_addDevice_98 : decode cX0_addDevice 98 = .ok (.ireturn, 1) := by decide +kernel
set_option maxRecDepth 20000 in
theorem ggX0_setOnline_X0_requireDevice : GoodIn wsX0_setOnline wsX0_requireDevice := goodIn_ca (goodIn_r _ [6, 7, 8, 9, 83, 84, 85, 86, 87, 88, 89, 90, 91, 92, 93, 94, 95, 96, 97, 98, 99, 100, 101] (by decide +kernel) (by decide +kernel)) (goodIn_sub (fun _ h => List.mem_cons_of_mem _ (List.mem_append_right _ h)) (by decide +kernel))
set_option maxRecDepth 20000 in
theorem gX0_setOnline_X0_requireDevice : GoodIn wsX0_setOnline (wsV RX0 84 RX0 yX0_requireDevice wsX0_requireDevice) := goodIn_app (goodIn_of _ (by decide +kernel)) ggX0_setOnline_X0_requireDevice
set_option maxRecDepth 20000 in
theorem ggX0_setOnline_X0_changed : GoodIn wsX0_setOnline wsX0_changed := goodIn_r _ [12, 13, 14, 5, 15] (by decide +kernel) (by decide +kernel)
set_option maxRecDepth 20000 in
theorem gX0_setOnline_X0_changed : GoodIn wsX0_setOnline (va_wsS RX0 88 yX0_changed wsX0_changed) := goodIn_app (goodIn_of _ (by decide +kernel)) ggX0_setOnline_X0_changed
set_option maxRecDepth 20000 in
theorem ggX0_setOnline_X0_deliverNow : GoodIn wsX0_setOnline wsX0_deliverNow := goodIn_r _ [19, 20, 21, 22, 23, 24, 25, 5, 26, 27, 1, 28, 9, 29, 30, 31, 32, 33, 34, 35, 36, 37, 38, 39, 40, 41, 42, 43, 10, 11, 12, 13, 14, 15, 44, 45, 46, 47, 48, 49, 50, 51, 52, 53, 54, 55, 56, 57, 58, 59, 60, 61, 62, 63, 64, 65, 66, 67, 68, 69, 70, 71, 72, 73, 74, 75, 76, 77, 78, 79, 80, 81, 82, 83, 84, 85, 86, 87, 88, 89, 90, 91, 92, 93, 94, 95, 96, 97, 98, 99, 100, 101] (by decide +kernel) (by decide +kernel)
set_option maxRecDepth 20000 in
theorem gX0_setOnline_X0_deliverNow : GoodIn wsX0_setOnline (wsV RX0 92 RX0 yX0_deliverNow wsX0_deliverNow) := goodIn_app (goodIn_of _ (by decide +kernel)) ggX0_setOnline_X0_deliverNow
theorem dX0_setOnline_0 : decode cX0_setOnline 0 = .ok (.aload_n 0, 1) := by decide +kernel
theorem dX0_setOnline_1 : decode cX0_setOnline 1 = .ok (.iload_n 1, 1) := by decide +kernel
theorem dX0_setOnline_2 : decode cX0_setOnline 2 = .ok (.invokevirtual 84, 3) := by decide +kernel
theorem dX0_setOnline_5 : decode cX0_setOnline 5 = .ok (.aload_n 0, 1) := by decide +kernel
theorem dX0_setOnline_6 : decode cX0_setOnline 6 = .ok (.aload_n 0, 1) := by decide +kernel
theorem dX0_setOnline_7 : decode cX0_setOnline 7 = .ok (.getfield 20, 3) := by decide +kernel
theorem dX0_setOnline_10 : decode cX0_setOnline 10 = .ok (.iload_n 1, 1) := by decide +kernel
theorem dX0_setOnline_11 : decode cX0_setOnline 11 = .ok (.iload_n 2, 1) := by decide +kernel
theorem dX0_setOnline_12 : decode cX0_setOnline 12 = .ok (.invokestatic 88, 3) := by decide +kernel
theorem dX0_setOnline_15 : decode cX0_setOnline 15 = .ok (.putfield 20, 3) := by decide +kernel
theorem dX0_setOnline_18 : decode cX0_setOnline 18 = .ok (.aload_n 0, 1) := by decide +kernel
theorem dX0_setOnline_19 : decode cX0_setOnline 19 = .ok (.invokevirtual 92, 3) := by decide +kernel
theorem dX0_setOnline_22 : decode cX0_setOnline 22 = .ok (.ireturn, 1) := by decide +kernel
set_option maxRecDepth 20000 in
theorem ggX0_setDozing_X0_requireDevice : GoodIn wsX0_setDozing wsX0_requireDevice := goodIn_ca (goodIn_r _ [6, 7, 8, 9, 83, 84, 85, 86, 87, 88, 89, 90, 91, 92, 93, 94, 95, 96, 97, 98, 99, 100, 101] (by decide +kernel) (by decide +kernel)) (goodIn_sub (fun _ h => List.mem_cons_of_mem _ (List.mem_append_right _ h)) (by decide +kernel))
set_option maxRecDepth 20000 in
theorem gX0_setDozing_X0_requireDevice : GoodIn wsX0_setDozing (wsV RX0 84 RX0 yX0_requireDevice wsX0_requireDevice) := goodIn_app (goodIn_of _ (by decide +kernel)) ggX0_setDozing_X0_requireDevice
set_option maxRecDepth 20000 in
theorem ggX0_setDozing_X0_changed : GoodIn wsX0_setDozing wsX0_changed := goodIn_r _ [12, 13, 14, 5, 15] (by decide +kernel) (by decide +kernel)
set_option maxRecDepth 20000 in
theorem gX0_setDozing_X0_changed : GoodIn wsX0_setDozing (va_wsS RX0 88 yX0_changed wsX0_changed) := goodIn_app (goodIn_of _ (by decide +kernel)) ggX0_setDozing_X0_changed
set_option maxRecDepth 20000 in
theorem ggX0_setDozing_X0_deliverNow : GoodIn wsX0_setDozing wsX0_deliverNow := goodIn_r _ [19, 20, 21, 22, 23, 24, 25, 5, 26, 27, 28, 1, 9, 29, 30, 31, 32, 33, 34, 35, 36, 37, 38, 39, 40, 41, 42, 43, 10, 11, 12, 13, 14, 15, 44, 45, 46, 47, 48, 49, 50, 51, 52, 53, 54, 55, 56, 57, 58, 59, 60, 61, 62, 63, 64, 65, 66, 67, 68, 69, 70, 71, 72, 73, 74, 75, 76, 77, 78, 79, 80, 81, 82, 83, 84, 85, 86, 87, 88, 89, 90, 91, 92, 93, 94, 95, 96, 97, 98, 99, 100, 101] (by decide +kernel) (by decide +kernel)
set_option maxRecDepth 20000 in
theorem gX0_setDozing_X0_deliverNow : GoodIn wsX0_setDozing (wsV RX0 92 RX0 yX0_deliverNow wsX0_deliverNow) := goodIn_app (goodIn_of _ (by decide +kernel)) ggX0_setDozing_X0_deliverNow
theorem dX0_setDozing_0 : decode cX0_setDozing 0 = .ok (.aload_n 0, 1) := by decide +kernel
theorem dX0_setDozing_1 : decode cX0_setDozing 1 = .ok (.iload_n 1, 1) := by decide +kernel
theorem dX0_setDozing_2 : decode cX0_setDozing 2 = .ok (.invokevirtual 84, 3) := by decide +kernel
theorem dX0_setDozing_5 : decode cX0_setDozing 5 = .ok (.aload_n 0, 1) := by decide +kernel
theorem dX0_setDozing_6 : decode cX0_setDozing 6 = .ok (.aload_n 0, 1) := by decide +kernel
theorem dX0_setDozing_7 : decode cX0_setDozing 7 = .ok (.getfield 23, 3) := by decide +kernel
theorem dX0_setDozing_10 : decode cX0_setDozing 10 = .ok (.iload_n 1, 1) := by decide +kernel
theorem dX0_setDozing_11 : decode cX0_setDozing 11 = .ok (.iload_n 2, 1) := by decide +kernel
theorem dX0_setDozing_12 : decode cX0_setDozing 12 = .ok (.invokestatic 88, 3) := by decide +kernel
theorem dX0_setDozing_15 : decode cX0_setDozing 15 = .ok (.putfield 23, 3) := by decide +kernel
theorem dX0_setDozing_18 : decode cX0_setDozing 18 = .ok (.aload_n 0, 1) := by decide +kernel
theorem dX0_setDozing_19 : decode cX0_setDozing 19 = .ok (.invokevirtual 92, 3) := by decide +kernel
theorem dX0_setDozing_22 : decode cX0_setDozing 22 = .ok (.ireturn, 1) := by decide +kernel
set_option maxRecDepth 20000 in
theorem ggX0_setQuiet_X0_requireDevice : GoodIn wsX0_setQuiet wsX0_requireDevice := goodIn_ca (goodIn_r _ [7, 8, 9, 10, 88, 89, 90, 91, 92, 93, 94, 95, 96, 97, 98, 99, 100, 101, 102, 103, 104, 105, 106] (by decide +kernel) (by decide +kernel)) (goodIn_sub (fun _ h => List.mem_cons_of_mem _ (List.mem_append_left _ (List.mem_append_right _ h))) (by decide +kernel))
set_option maxRecDepth 20000 in
theorem gX0_setQuiet_X0_requireDevice : GoodIn wsX0_setQuiet (wsV RX0 84 RX0 yX0_requireDevice wsX0_requireDevice) := goodIn_app (goodIn_of _ (by decide +kernel)) ggX0_setQuiet_X0_requireDevice
set_option maxRecDepth 20000 in
theorem ggX0_setQuiet_X0_requireWithin : GoodIn wsX0_setQuiet wsX0_requireWithin := goodIn_ca (goodIn_r _ [13, 14, 15] (by decide +kernel) (by decide +kernel)) (goodIn_sub (fun _ h => List.mem_cons_of_mem _ (List.mem_append_right _ h)) (by decide +kernel))
set_option maxRecDepth 20000 in
theorem gX0_setQuiet_X0_requireWithin : GoodIn wsX0_setQuiet (va_wsS RX0 69 yX0_requireWithin wsX0_requireWithin) := goodIn_app (goodIn_of _ (by decide +kernel)) ggX0_setQuiet_X0_requireWithin
set_option maxRecDepth 20000 in
theorem ggX0_setQuiet_X0_deliverNow : GoodIn wsX0_setQuiet wsX0_deliverNow := goodIn_r _ [19, 20, 21, 22, 23, 24, 25, 6, 26, 27, 28, 29, 10, 30, 31, 32, 33, 1, 2, 34, 35, 36, 37, 38, 39, 40, 41, 42, 43, 44, 45, 46, 47, 48, 49, 50, 51, 52, 53, 54, 55, 56, 57, 58, 59, 60, 61, 62, 63, 64, 65, 66, 67, 68, 69, 70, 71, 72, 73, 74, 75, 76, 77, 78, 79, 80, 81, 82, 83, 84, 85, 86, 87, 88, 89, 90, 91, 92, 93, 94, 95, 96, 97, 98, 99, 100, 101, 102, 103, 104, 105, 106] (by decide +kernel) (by decide +kernel)
set_option maxRecDepth 20000 in
theorem gX0_setQuiet_X0_deliverNow : GoodIn wsX0_setQuiet (wsV RX0 92 RX0 yX0_deliverNow wsX0_deliverNow) := goodIn_app (goodIn_of _ (by decide +kernel)) ggX0_setQuiet_X0_deliverNow
theorem dX0_setQuiet_0 : decode cX0_setQuiet 0 = .ok (.aload_n 0, 1) := by decide +kernel
theorem dX0_setQuiet_1 : decode cX0_setQuiet 1 = .ok (.iload_n 1, 1) := by decide +kernel
theorem dX0_setQuiet_2 : decode cX0_setQuiet 2 = .ok (.invokevirtual 84, 3) := by decide +kernel
theorem dX0_setQuiet_5 : decode cX0_setQuiet 5 = .ok (.iload_n 2, 1) := by decide +kernel
theorem dX0_setQuiet_6 : decode cX0_setQuiet 6 = .ok (.iconst 0, 1) := by decide +kernel
theorem dX0_setQuiet_7 : decode cX0_setQuiet 7 = .ok (.sipush 1439, 3) := by decide +kernel
theorem dX0_setQuiet_10 : decode cX0_setQuiet 10 = .ok (.invokestatic 69, 3) := by decide +kernel
theorem dX0_setQuiet_13 : decode cX0_setQuiet 13 = .ok (.iload_n 3, 1) := by decide +kernel
theorem dX0_setQuiet_14 : decode cX0_setQuiet 14 = .ok (.iconst 0, 1) := by decide +kernel
theorem dX0_setQuiet_15 : decode cX0_setQuiet 15 = .ok (.sipush 1439, 3) := by decide +kernel
theorem dX0_setQuiet_18 : decode cX0_setQuiet 18 = .ok (.invokestatic 69, 3) := by decide +kernel
theorem dX0_setQuiet_21 : decode cX0_setQuiet 21 = .ok (.aload_n 0, 1) := by decide +kernel
theorem dX0_setQuiet_22 : decode cX0_setQuiet 22 = .ok (.getfield 29, 3) := by decide +kernel
theorem dX0_setQuiet_25 : decode cX0_setQuiet 25 = .ok (.iload_n 1, 1) := by decide +kernel
theorem dX0_setQuiet_26 : decode cX0_setQuiet 26 = .ok (.iload_n 2, 1) := by decide +kernel
theorem dX0_setQuiet_27 : decode cX0_setQuiet 27 = .ok (.iastore, 1) := by decide +kernel
theorem dX0_setQuiet_28 : decode cX0_setQuiet 28 = .ok (.aload_n 0, 1) := by decide +kernel
theorem dX0_setQuiet_29 : decode cX0_setQuiet 29 = .ok (.getfield 32, 3) := by decide +kernel
theorem dX0_setQuiet_32 : decode cX0_setQuiet 32 = .ok (.iload_n 1, 1) := by decide +kernel
theorem dX0_setQuiet_33 : decode cX0_setQuiet 33 = .ok (.iload_n 3, 1) := by decide +kernel
theorem dX0_setQuiet_34 : decode cX0_setQuiet 34 = .ok (.iastore, 1) := by decide +kernel
theorem dX0_setQuiet_35 : decode cX0_setQuiet 35 = .ok (.aload_n 0, 1) := by decide +kernel
theorem dX0_setQuiet_36 : decode cX0_setQuiet 36 = .ok (.invokevirtual 92, 3) := by decide +kernel
theorem dX0_setQuiet_39 : decode cX0_setQuiet 39 = .ok (.ireturn, 1) := by decide +kernel
set_option maxRecDepth 20000 in
theorem ggX0_join_X0_requireDevice : GoodIn wsX0_join wsX0_requireDevice := goodIn_ca (goodIn_r _ [6, 7, 8, 9, 24, 25, 26, 27, 28, 29, 30, 31, 32, 33, 34, 35, 36, 37, 38, 39, 40, 41, 42] (by decide +kernel) (by decide +kernel)) (goodIn_sub (fun _ h => List.mem_cons_of_mem _ (List.mem_append_left _ (List.mem_append_right _ h))) (by decide +kernel))
set_option maxRecDepth 20000 in
theorem gX0_join_X0_requireDevice : GoodIn wsX0_join (wsV RX0 84 RX0 yX0_requireDevice wsX0_requireDevice) := goodIn_app (goodIn_of _ (by decide +kernel)) ggX0_join_X0_requireDevice
set_option maxRecDepth 20000 in
theorem ggX0_join_X0_requireWithin : GoodIn wsX0_join wsX0_requireWithin := goodIn_ca (goodIn_r _ [12, 13, 14] (by decide +kernel) (by decide +kernel)) (goodIn_sub (fun _ h => List.mem_cons_of_mem _ (List.mem_append_right _ h)) (by decide +kernel))
set_option maxRecDepth 20000 in
theorem gX0_join_X0_requireWithin : GoodIn wsX0_join (va_wsS RX0 69 yX0_requireWithin wsX0_requireWithin) := goodIn_app (goodIn_of _ (by decide +kernel)) ggX0_join_X0_requireWithin
set_option maxRecDepth 20000 in
theorem ggX0_join_X0_has : GoodIn wsX0_join wsX0_has := goodIn_r _ [17, 18, 19, 5, 20] (by decide +kernel) (by decide +kernel)
set_option maxRecDepth 20000 in
theorem gX0_join_X0_has : GoodIn wsX0_join (va_wsS RX0 96 yX0_has wsX0_has) := goodIn_app (goodIn_of _ (by decide +kernel)) ggX0_join_X0_has
set_option maxRecDepth 20000 in
theorem ggX0_join_X0_changed : GoodIn wsX0_join wsX0_changed := goodIn_r _ [23, 18, 19, 5, 20] (by decide +kernel) (by decide +kernel)
set_option maxRecDepth 20000 in
theorem gX0_join_X0_changed : GoodIn wsX0_join (va_wsS RX0 88 yX0_changed wsX0_changed) := goodIn_app (goodIn_of _ (by decide +kernel)) ggX0_join_X0_changed
theorem dX0_join_0 : decode cX0_join 0 = .ok (.aload_n 0, 1) := by decide +kernel
theorem dX0_join_1 : decode cX0_join 1 = .ok (.iload_n 1, 1) := by decide +kernel
theorem dX0_join_2 : decode cX0_join 2 = .ok (.invokevirtual 84, 3) := by decide +kernel
theorem dX0_join_5 : decode cX0_join 5 = .ok (.iload_n 2, 1) := by decide +kernel
theorem dX0_join_6 : decode cX0_join 6 = .ok (.iconst 0, 1) := by decide +kernel
theorem dX0_join_7 : decode cX0_join 7 = .ok (.iconst 5, 1) := by decide +kernel
theorem dX0_join_8 : decode cX0_join 8 = .ok (.invokestatic 69, 3) := by decide +kernel
theorem dX0_join_11 : decode cX0_join 11 = .ok (.aload_n 0, 1) := by decide +kernel
theorem dX0_join_12 : decode cX0_join 12 = .ok (.getfield 13, 3) := by decide +kernel
theorem dX0_join_15 : decode cX0_join 15 = .ok (.iload_n 2, 1) := by decide +kernel
theorem dX0_join_16 : decode cX0_join 16 = .ok (.iaload, 1) := by decide +kernel
theorem dX0_join_17 : decode cX0_join 17 = .ok (.iload_n 1, 1) := by decide +kernel
theorem dX0_join_18 : decode cX0_join 18 = .ok (.invokestatic 96, 3) := by decide +kernel
theorem dX0_join_21 : decode cX0_join 21 = .ok (.istore 4, 2) := by decide +kernel
theorem dX0_join_23 : decode cX0_join 23 = .ok (.aload_n 0, 1) := by decide +kernel
theorem dX0_join_24 : decode cX0_join 24 = .ok (.getfield 13, 3) := by decide +kernel
theorem dX0_join_27 : decode cX0_join 27 = .ok (.iload_n 2, 1) := by decide +kernel
theorem dX0_join_28 : decode cX0_join 28 = .ok (.aload_n 0, 1) := by decide +kernel
theorem dX0_join_29 : decode cX0_join 29 = .ok (.getfield 13, 3) := by decide +kernel
theorem dX0_join_32 : decode cX0_join 32 = .ok (.iload_n 2, 1) := by decide +kernel
theorem dX0_join_33 : decode cX0_join 33 = .ok (.iaload, 1) := by decide +kernel
theorem dX0_join_34 : decode cX0_join 34 = .ok (.iload_n 1, 1) := by decide +kernel
theorem dX0_join_35 : decode cX0_join 35 = .ok (.iload_n 3, 1) := by decide +kernel
theorem dX0_join_36 : decode cX0_join 36 = .ok (.invokestatic 88, 3) := by decide +kernel
theorem dX0_join_39 : decode cX0_join 39 = .ok (.iastore, 1) := by decide +kernel
theorem dX0_join_40 : decode cX0_join 40 = .ok (.iload 4, 2) := by decide +kernel
theorem dX0_join_42 : decode cX0_join 42 = .ok (.ireturn, 1) := by decide +kernel
set_option maxRecDepth 20000 in
theorem ggX0_kill_X0_requireDevice : GoodIn wsX0_kill wsX0_requireDevice := goodIn_ca (goodIn_r _ [10, 11, 12, 13, 37, 38, 39, 40, 41, 42, 43, 44, 45, 46, 47, 48, 49, 50, 51, 52, 53, 54, 55] (by decide +kernel) (by decide +kernel)) (goodIn_sub (fun _ h => List.mem_cons_of_mem _ (List.mem_append_right _ h)) (by decide +kernel))
set_option maxRecDepth 20000 in
theorem gX0_kill_X0_requireDevice : GoodIn wsX0_kill (wsV RX0 84 RX0 yX0_requireDevice wsX0_requireDevice) := goodIn_app (goodIn_of _ (by decide +kernel)) ggX0_kill_X0_requireDevice
set_option maxRecDepth 20000 in
theorem ggX0_kill_X0_has : GoodIn wsX0_kill wsX0_has := goodIn_r _ [16, 17, 18, 9, 19] (by decide +kernel) (by decide +kernel)
set_option maxRecDepth 20000 in
theorem gX0_kill_X0_has : GoodIn wsX0_kill (va_wsS RX0 96 yX0_has wsX0_has) := goodIn_app (goodIn_of _ (by decide +kernel)) ggX0_kill_X0_has
set_option maxRecDepth 20000 in
theorem ggX0_kill_X0_countWaiting : GoodIn wsX0_kill wsX0_countWaiting := goodIn_r _ [23, 4, 24, 25, 26, 9, 27, 5, 28, 29, 30, 31, 32, 33, 14, 15, 16, 17, 18, 19, 37, 38, 39, 40, 41, 42, 43, 44, 45, 46, 47, 48, 49, 50, 51, 52, 53, 54, 55] (by decide +kernel) (by decide +kernel)
set_option maxRecDepth 20000 in
theorem gX0_kill_X0_countWaiting : GoodIn wsX0_kill (wsV RX0 102 RX0 yX0_countWaiting wsX0_countWaiting) := goodIn_app (goodIn_of _ (by decide +kernel)) ggX0_kill_X0_countWaiting
set_option maxRecDepth 20000 in
theorem ggX0_kill_X0_changed : GoodIn wsX0_kill wsX0_changed := goodIn_r _ [36, 17, 18, 9, 19] (by decide +kernel) (by decide +kernel)
set_option maxRecDepth 20000 in
theorem gX0_kill_X0_changed : GoodIn wsX0_kill (va_wsS RX0 88 yX0_changed wsX0_changed) := goodIn_app (goodIn_of _ (by decide +kernel)) ggX0_kill_X0_changed
theorem dX0_kill_0 : decode cX0_kill 0 = .ok (.aload_n 0, 1) := by decide +kernel
theorem dX0_kill_1 : decode cX0_kill 1 = .ok (.iload_n 1, 1) := by decide +kernel
theorem dX0_kill_2 : decode cX0_kill 2 = .ok (.invokevirtual 84, 3) := by decide +kernel
theorem dX0_kill_5 : decode cX0_kill 5 = .ok (.aload_n 0, 1) := by decide +kernel
theorem dX0_kill_6 : decode cX0_kill 6 = .ok (.getfield 16, 3) := by decide +kernel
theorem dX0_kill_9 : decode cX0_kill 9 = .ok (.iload_n 1, 1) := by decide +kernel
theorem dX0_kill_10 : decode cX0_kill 10 = .ok (.invokestatic 96, 3) := by decide +kernel
theorem dX0_kill_13 : decode cX0_kill 13 = .ok (.ifCond .ne 13, 3) := by decide +kernel
theorem dX0_kill_16 : decode cX0_kill 16 = .ok (.new 73, 3) := by decide +kernel
theorem dX0_kill_19 : decode cX0_kill 19 = .ok (.dup, 1) := by decide +kernel
theorem dX0_kill_20 : decode cX0_kill 20 = .ok (.ldc 100, 2) := by decide +kernel
theorem dX0_kill_22 : decode cX0_kill 22 = .ok (.invokespecial 77, 3) := by decide +kernel
theorem dX0_kill_25 : decode cX0_kill 25 = .ok (.athrow, 1) := by decide +kernel
theorem dX0_kill_26 : decode cX0_kill 26 = .ok (.aload_n 0, 1) := by decide +kernel
theorem dX0_kill_27 : decode cX0_kill 27 = .ok (.iload_n 1, 1) := by decide +kernel
theorem dX0_kill_28 : decode cX0_kill 28 = .ok (.invokevirtual 102, 3) := by decide +kernel
theorem dX0_kill_31 : decode cX0_kill 31 = .ok (.istore_n 2, 1) := by decide +kernel
theorem dX0_kill_32 : decode cX0_kill 32 = .ok (.aload_n 0, 1) := by decide +kernel
theorem dX0_kill_33 : decode cX0_kill 33 = .ok (.aload_n 0, 1) := by decide +kernel
theorem dX0_kill_34 : decode cX0_kill 34 = .ok (.getfield 16, 3) := by decide +kernel
theorem dX0_kill_37 : decode cX0_kill 37 = .ok (.iload_n 1, 1) := by decide +kernel
theorem dX0_kill_38 : decode cX0_kill 38 = .ok (.iconst 0, 1) := by decide +kernel
theorem dX0_kill_39 : decode cX0_kill 39 = .ok (.invokestatic 88, 3) := by decide +kernel
theorem dX0_kill_42 : decode cX0_kill 42 = .ok (.putfield 16, 3) := by decide +kernel
theorem dX0_kill_45 : decode cX0_kill 45 = .ok (.iconst 0, 1) := by decide +kernel
theorem dX0_kill_46 : decode cX0_kill 46 = .ok (.istore_n 3, 1) := by decide +kernel
theorem dX0_kill_47 : decode cX0_kill 47 = .ok (.iload_n 3, 1) := by decide +kernel
theorem dX0_kill_48 : decode cX0_kill 48 = .ok (.aload_n 0, 1) := by decide +kernel
theorem dX0_kill_49 : decode cX0_kill 49 = .ok (.getfield 60, 3) := by decide +kernel
theorem dX0_kill_52 : decode cX0_kill 52 = .ok (.if_icmp .ge 26, 3) := by decide +kernel
theorem dX0_kill_55 : decode cX0_kill 55 = .ok (.aload_n 0, 1) := by decide +kernel
theorem dX0_kill_56 : decode cX0_kill 56 = .ok (.getfield 51, 3) := by decide +kernel
theorem dX0_kill_59 : decode cX0_kill 59 = .ok (.iload_n 3, 1) := by decide +kernel
theorem dX0_kill_60 : decode cX0_kill 60 = .ok (.aload_n 0, 1) := by decide +kernel
theorem dX0_kill_61 : decode cX0_kill 61 = .ok (.getfield 51, 3) := by decide +kernel
theorem dX0_kill_64 : decode cX0_kill 64 = .ok (.iload_n 3, 1) := by decide +kernel
theorem dX0_kill_65 : decode cX0_kill 65 = .ok (.iaload, 1) := by decide +kernel
theorem dX0_kill_66 : decode cX0_kill 66 = .ok (.iload_n 1, 1) := by decide +kernel
theorem dX0_kill_67 : decode cX0_kill 67 = .ok (.iconst 0, 1) := by decide +kernel
theorem dX0_kill_68 : decode cX0_kill 68 = .ok (.invokestatic 88, 3) := by decide +kernel
theorem dX0_kill_71 : decode cX0_kill 71 = .ok (.iastore, 1) := by decide +kernel
theorem dX0_kill_72 : decode cX0_kill 72 = .ok (.iinc 3 1, 3) := by decide +kernel
theorem dX0_kill_75 : decode cX0_kill 75 = .ok (.goto (-28), 3) := by decide +kernel
theorem dX0_kill_78 : decode cX0_kill 78 = .ok (.iload_n 2, 1) := by decide +kernel
theorem dX0_kill_79 : decode cX0_kill 79 = .ok (.ireturn, 1) := by decide +kernel
theorem dX0_devices_0 : decode cX0_devices 0 = .ok (.aload_n 0, 1) := by decide +kernel
theorem dX0_devices_1 : decode cX0_devices 1 = .ok (.getfield 41, 3) := by decide +kernel
theorem dX0_devices_4 : decode cX0_devices 4 = .ok (.ireturn, 1) := by decide +kernel
set_option maxRecDepth 20000 in
theorem ggX0_isQuiet_X0_requireDevice : GoodIn wsX0_isQuiet wsX0_requireDevice := goodIn_ca (goodIn_r _ [5, 6, 7, 8, 25, 26, 27, 28, 29, 30, 31, 32, 33, 34, 35, 36, 37, 38, 39, 40, 41, 42, 43] (by decide +kernel) (by decide +kernel)) (goodIn_sub (fun _ h => List.mem_cons_of_mem _ (List.mem_append_right _ h)) (by decide +kernel))
set_option maxRecDepth 20000 in
theorem gX0_isQuiet_X0_requireDevice : GoodIn wsX0_isQuiet (wsV RX0 84 RX0 yX0_requireDevice wsX0_requireDevice) := goodIn_app (goodIn_of _ (by decide +kernel)) ggX0_isQuiet_X0_requireDevice
set_option maxRecDepth 20000 in
theorem ggX0_isQuiet_X0_isInQuietHours : GoodIn wsX0_isQuiet wsX0_isInQuietHours := goodIn_r _ [12, 13, 14, 15, 16, 17, 4, 18, 19, 20, 21, 22, 23, 24, 25, 26, 27, 28, 29, 30, 31, 32, 33, 34, 35, 36, 37, 38, 39, 40, 41, 42, 43] (by decide +kernel) (by decide +kernel)
set_option maxRecDepth 20000 in
theorem gX0_isQuiet_X0_isInQuietHours : GoodIn wsX0_isQuiet (wsV RX0 105 RX0 yX0_isInQuietHours wsX0_isInQuietHours) := goodIn_app (goodIn_of _ (by decide +kernel)) ggX0_isQuiet_X0_isInQuietHours
theorem dX0_isQuiet_0 : decode cX0_isQuiet 0 = .ok (.aload_n 0, 1) := by decide +kernel
theorem dX0_isQuiet_1 : decode cX0_isQuiet 1 = .ok (.iload_n 1, 1) := by decide +kernel
theorem dX0_isQuiet_2 : decode cX0_isQuiet 2 = .ok (.invokevirtual 84, 3) := by decide +kernel
theorem dX0_isQuiet_5 : decode cX0_isQuiet 5 = .ok (.aload_n 0, 1) := by decide +kernel
theorem dX0_isQuiet_6 : decode cX0_isQuiet 6 = .ok (.iload_n 1, 1) := by decide +kernel
theorem dX0_isQuiet_7 : decode cX0_isQuiet 7 = .ok (.invokevirtual 105, 3) := by decide +kernel
theorem dX0_isQuiet_10 : decode cX0_isQuiet 10 = .ok (.ireturn, 1) := by decide +kernel
set_option maxRecDepth 20000 in
theorem ggX0_send_X0_requireWithin : GoodIn wsX0_send wsX0_requireWithin := goodIn_ca (goodIn_r _ [5, 6, 7] (by decide +kernel) (by decide +kernel)) (goodIn_sub (fun _ h => List.mem_cons_of_mem _ (List.mem_append_left _ (List.mem_append_right _ h))) (by decide +kernel))
set_option maxRecDepth 20000 in
theorem gX0_send_X0_requireWithin : GoodIn wsX0_send (va_wsS RX0 69 yX0_requireWithin wsX0_requireWithin) := goodIn_app (goodIn_of _ (by decide +kernel)) ggX0_send_X0_requireWithin
set_option maxRecDepth 20000 in
theorem ggX0_send_X0_requireRoomForNotice : GoodIn wsX0_send wsX0_requireRoomForNotice := goodIn_ca (goodIn_r _ [11, 12, 13, 14, 106, 107, 108, 109, 110, 111, 112, 113, 114, 115, 116, 117, 118, 119, 120, 121, 122, 123, 124] (by decide +kernel) (by decide +kernel)) (goodIn_sub (fun _ h => List.mem_cons_of_mem _ (List.mem_append_right _ h)) (by decide +kernel))
set_option maxRecDepth 20000 in
theorem gX0_send_X0_requireRoomForNotice : GoodIn wsX0_send (wsV RX0 109 RX0 yX0_requireRoomForNotice wsX0_requireRoomForNotice) := goodIn_app (goodIn_of _ (by decide +kernel)) ggX0_send_X0_requireRoomForNotice
set_option maxRecDepth 20000 in
theorem ggX0_send_X0_replaceKey : GoodIn wsX0_send wsX0_replaceKey := goodIn_r _ [18, 19, 14, 20, 21, 4, 22, 23, 24, 25, 26, 27, 28, 29, 30, 31, 32, 106, 107, 108, 109, 110, 111, 112, 113, 114, 115, 116, 117, 118, 119, 120, 121, 122, 123, 124] (by decide +kernel) (by decide +kernel)
set_option maxRecDepth 20000 in
theorem gX0_send_X0_replaceKey : GoodIn wsX0_send (wsV RX0 112 RX0 yX0_replaceKey wsX0_replaceKey) := goodIn_app (goodIn_of _ (by decide +kernel)) ggX0_send_X0_replaceKey
set_option maxRecDepth 20000 in
theorem ggX0_send_X0_sendTo : GoodIn wsX0_send wsX0_sendTo := goodIn_r _ [36, 14, 37, 28, 27, 38, 39, 40, 41, 42, 4, 43, 44, 45, 46, 47, 48, 49, 50, 51, 52, 53, 54, 55, 56, 57, 58, 59, 60, 61, 62, 63, 64, 65, 66, 67, 68, 69, 70, 71, 72, 73, 74, 75, 76, 23, 24, 25, 26, 77, 78, 79, 80, 81, 82, 83, 84, 85, 86, 87, 88, 89, 90, 91, 92, 93, 94, 95, 96, 97, 98, 99, 100, 101, 102, 103, 104, 105, 106, 107, 108, 109, 110, 111, 112, 113, 114, 115, 116, 117, 118, 119, 120, 121, 122, 123, 124] (by decide +kernel) (by decide +kernel)
set_option maxRecDepth 20000 in
theorem gX0_send_X0_sendTo : GoodIn wsX0_send (wsV RX0 116 RX0 yX0_sendTo wsX0_sendTo) := goodIn_app (goodIn_of _ (by decide +kernel)) ggX0_send_X0_sendTo
theorem dX0_send_0 : decode cX0_send 0 = .ok (.iload_n 1, 1) := by decide +kernel
theorem dX0_send_1 : decode cX0_send 1 = .ok (.iconst 0, 1) := by decide +kernel
theorem dX0_send_2 : decode cX0_send 2 = .ok (.bipush 7, 2) := by decide +kernel
theorem dX0_send_4 : decode cX0_send 4 = .ok (.invokestatic 69, 3) := by decide +kernel
theorem dX0_send_7 : decode cX0_send 7 = .ok (.iload_n 2, 1) := by decide +kernel
theorem dX0_send_8 : decode cX0_send 8 = .ok (.iconst (-1), 1) := by decide +kernel
theorem dX0_send_9 : decode cX0_send 9 = .ok (.if_icmp .eq 10, 3) := by decide +kernel
theorem dX0_send_12 : decode cX0_send 12 = .ok (.iload_n 2, 1) := by decide +kernel
theorem dX0_send_13 : decode cX0_send 13 = .ok (.iconst 0, 1) := by decide +kernel
theorem dX0_send_14 : decode cX0_send 14 = .ok (.bipush 9, 2) := by decide +kernel
theorem dX0_send_16 : decode cX0_send 16 = .ok (.invokestatic 69, 3) := by decide +kernel
theorem dX0_send_19 : decode cX0_send 19 = .ok (.iload 4, 2) := by decide +kernel
theorem dX0_send_21 : decode cX0_send 21 = .ok (.iconst 1, 1) := by decide +kernel
theorem dX0_send_22 : decode cX0_send 22 = .ok (.sipush 10000, 3) := by decide +kernel
theorem dX0_send_25 : decode cX0_send 25 = .ok (.invokestatic 69, 3) := by decide +kernel
theorem dX0_send_28 : decode cX0_send 28 = .ok (.aload_n 0, 1) := by decide +kernel
theorem dX0_send_29 : decode cX0_send 29 = .ok (.invokevirtual 109, 3) := by decide +kernel
theorem dX0_send_32 : decode cX0_send 32 = .ok (.iload_n 2, 1) := by decide +kernel
theorem dX0_send_33 : decode cX0_send 33 = .ok (.iconst (-1), 1) := by decide +kernel
theorem dX0_send_34 : decode cX0_send 34 = .ok (.if_icmp .eq 9, 3) := by decide +kernel
theorem dX0_send_37 : decode cX0_send 37 = .ok (.aload_n 0, 1) := by decide +kernel
theorem dX0_send_38 : decode cX0_send 38 = .ok (.iload_n 1, 1) := by decide +kernel
theorem dX0_send_39 : decode cX0_send 39 = .ok (.iload_n 2, 1) := by decide +kernel
theorem dX0_send_40 : decode cX0_send 40 = .ok (.invokevirtual 112, 3) := by decide +kernel
theorem dX0_send_43 : decode cX0_send 43 = .ok (.aload_n 0, 1) := by decide +kernel
theorem dX0_send_44 : decode cX0_send 44 = .ok (.aload_n 0, 1) := by decide +kernel
theorem dX0_send_45 : decode cX0_send 45 = .ok (.getfield 9, 3) := by decide +kernel
theorem dX0_send_48 : decode cX0_send 48 = .ok (.iload_n 1, 1) := by decide +kernel
theorem dX0_send_49 : decode cX0_send 49 = .ok (.iaload, 1) := by decide +kernel
theorem dX0_send_50 : decode cX0_send 50 = .ok (.iload_n 3, 1) := by decide +kernel
theorem dX0_send_51 : decode cX0_send 51 = .ok (.iload 4, 2) := by decide +kernel
theorem dX0_send_53 : decode cX0_send 53 = .ok (.invokevirtual 116, 3) := by decide +kernel
theorem dX0_send_56 : decode cX0_send 56 = .ok (.ireturn, 1) := by decide +kernel
set_option maxRecDepth 20000 in
theorem ggX0_sendBy_X0_requireWithin : GoodIn wsX0_sendBy wsX0_requireWithin := goodIn_ca (goodIn_r _ [4, 5, 6] (by decide +kernel) (by decide +kernel)) (goodIn_sub (fun _ h => List.mem_cons_of_mem _ (List.mem_append_left _ (List.mem_append_right _ h))) (by decide +kernel))
set_option maxRecDepth 20000 in
theorem gX0_sendBy_X0_requireWithin : GoodIn wsX0_sendBy (va_wsS RX0 69 yX0_requireWithin wsX0_requireWithin) := goodIn_app (goodIn_of _ (by decide +kernel)) ggX0_sendBy_X0_requireWithin
set_option maxRecDepth 20000 in
theorem ggX0_sendBy_X0_requireRoomForNotice : GoodIn wsX0_sendBy wsX0_requireRoomForNotice := goodIn_ca (goodIn_r _ [10, 11, 12, 13, 98, 99, 100, 101, 102, 103, 104, 105, 106, 107, 108, 109, 110, 111, 112, 113, 114, 115, 116] (by decide +kernel) (by decide +kernel)) (goodIn_sub (fun _ h => List.mem_cons_of_mem _ (List.mem_append_right _ h)) (by decide +kernel))
set_option maxRecDepth 20000 in
theorem gX0_sendBy_X0_requireRoomForNotice : GoodIn wsX0_sendBy (wsV RX0 109 RX0 yX0_requireRoomForNotice wsX0_requireRoomForNotice) := goodIn_app (goodIn_of _ (by decide +kernel)) ggX0_sendBy_X0_requireRoomForNotice
set_option maxRecDepth 20000 in
theorem ggX0_sendBy_X0_devicesThatFulfil : GoodIn wsX0_sendBy wsX0_devicesThatFulfil := goodIn_r _ [17, 18, 98, 99, 100, 101, 102, 103, 104, 105, 106, 107, 108, 109, 110, 111, 112, 113, 114, 115, 116] (by decide +kernel) (by decide +kernel)
set_option maxRecDepth 20000 in
theorem gX0_sendBy_X0_devicesThatFulfil : GoodIn wsX0_sendBy (wsV RX0 120 RX0 yX0_devicesThatFulfil wsX0_devicesThatFulfil) := goodIn_app (goodIn_of _ (by decide +kernel)) ggX0_sendBy_X0_devicesThatFulfil
set_option maxRecDepth 20000 in
theorem ggX0_sendBy_X0_sendTo : GoodIn wsX0_sendBy wsX0_sendTo := goodIn_r _ [22, 13, 23, 24, 25, 26, 27, 28, 29, 30, 3, 31, 32, 33, 34, 35, 36, 37, 38, 39, 40, 41, 42, 43, 44, 45, 46, 47, 48, 49, 50, 51, 52, 53, 54, 55, 56, 57, 58, 59, 60, 61, 62, 63, 64, 65, 66, 67, 68, 69, 70, 71, 72, 73, 74, 75, 76, 77, 78, 79, 80, 81, 82, 83, 84, 85, 86, 87, 88, 89, 90, 91, 92, 93, 94, 95, 96, 97, 98, 99, 100, 101, 102, 103, 104, 105, 106, 107, 108, 109, 110, 111, 112, 113, 114, 115, 116] (by decide +kernel) (by decide +kernel)
set_option maxRecDepth 20000 in
theorem gX0_sendBy_X0_sendTo : GoodIn wsX0_sendBy (wsV RX0 116 RX0 yX0_sendTo wsX0_sendTo) := goodIn_app (goodIn_of _ (by decide +kernel)) ggX0_sendBy_X0_sendTo
theorem dX0_sendBy_0 : decode cX0_sendBy 0 = .ok (.iload_n 1, 1) := by decide +kernel
theorem dX0_sendBy_1 : decode cX0_sendBy 1 = .ok (.iconst 0, 1) := by decide +kernel
theorem dX0_sendBy_2 : decode cX0_sendBy 2 = .ok (.iconst 2, 1) := by decide +kernel
theorem dX0_sendBy_3 : decode cX0_sendBy 3 = .ok (.invokestatic 69, 3) := by decide +kernel
theorem dX0_sendBy_6 : decode cX0_sendBy 6 = .ok (.iload_n 2, 1) := by decide +kernel
theorem dX0_sendBy_7 : decode cX0_sendBy 7 = .ok (.iconst 0, 1) := by decide +kernel
theorem dX0_sendBy_8 : decode cX0_sendBy 8 = .ok (.iconst 5, 1) := by decide +kernel
theorem dX0_sendBy_9 : decode cX0_sendBy 9 = .ok (.invokestatic 69, 3) := by decide +kernel
theorem dX0_sendBy_12 : decode cX0_sendBy 12 = .ok (.iload_n 3, 1) := by decide +kernel
theorem dX0_sendBy_13 : decode cX0_sendBy 13 = .ok (.iconst 0, 1) := by decide +kernel
theorem dX0_sendBy_14 : decode cX0_sendBy 14 = .ok (.iconst 5, 1) := by decide +kernel
theorem dX0_sendBy_15 : decode cX0_sendBy 15 = .ok (.invokestatic 69, 3) := by decide +kernel
theorem dX0_sendBy_18 : decode cX0_sendBy 18 = .ok (.iload 5, 2) := by decide +kernel
theorem dX0_sendBy_20 : decode cX0_sendBy 20 = .ok (.iconst 1, 1) := by decide +kernel
theorem dX0_sendBy_21 : decode cX0_sendBy 21 = .ok (.sipush 10000, 3) := by decide +kernel
theorem dX0_sendBy_24 : decode cX0_sendBy 24 = .ok (.invokestatic 69, 3) := by decide +kernel
theorem dX0_sendBy_27 : decode cX0_sendBy 27 = .ok (.aload_n 0, 1) := by decide +kernel
theorem dX0_sendBy_28 : decode cX0_sendBy 28 = .ok (.invokevirtual 109, 3) := by decide +kernel
theorem dX0_sendBy_31 : decode cX0_sendBy 31 = .ok (.aload_n 0, 1) := by decide +kernel
theorem dX0_sendBy_32 : decode cX0_sendBy 32 = .ok (.aload_n 0, 1) := by decide +kernel
theorem dX0_sendBy_33 : decode cX0_sendBy 33 = .ok (.iload_n 1, 1) := by decide +kernel
theorem dX0_sendBy_34 : decode cX0_sendBy 34 = .ok (.iload_n 2, 1) := by decide +kernel
theorem dX0_sendBy_35 : decode cX0_sendBy 35 = .ok (.iload_n 3, 1) := by decide +kernel
theorem dX0_sendBy_36 : decode cX0_sendBy 36 = .ok (.invokevirtual 120, 3) := by decide +kernel
theorem dX0_sendBy_39 : decode cX0_sendBy 39 = .ok (.iload 4, 2) := by decide +kernel
theorem dX0_sendBy_41 : decode cX0_sendBy 41 = .ok (.iload 5, 2) := by decide +kernel
theorem dX0_sendBy_43 : decode cX0_sendBy 43 = .ok (.invokevirtual 116, 3) := by decide +kernel
theorem dX0_sendBy_46 : decode cX0_sendBy 46 = .ok (.ireturn, 1) := by decide +kernel
set_option maxRecDepth 20000 in
theorem ggX0_read_X0_requireDevice : GoodIn wsX0_read wsX0_requireDevice := goodIn_ca (goodIn_r _ [8, 9, 10, 11, 45, 46, 47, 48, 49, 50, 51, 52, 53, 54, 55, 56, 57, 58, 59, 60, 61, 62, 63] (by decide +kernel) (by decide +kernel)) (goodIn_sub (fun _ h => List.mem_cons_of_mem _ (List.mem_append_right _ h)) (by decide +kernel))
set_option maxRecDepth 20000 in
theorem gX0_read_X0_requireDevice : GoodIn wsX0_read (wsV RX0 84 RX0 yX0_requireDevice wsX0_requireDevice) := goodIn_app (goodIn_of _ (by decide +kernel)) ggX0_read_X0_requireDevice
set_option maxRecDepth 20000 in
theorem ggX0_read_X0_requireNotice : GoodIn wsX0_read wsX0_requireNotice := goodIn_ca (goodIn_r _ [15, 9, 10, 16, 45, 46, 47, 48, 49, 50, 51, 52, 53, 54, 55, 56, 57, 58, 59, 60, 61, 62, 63] (by decide +kernel) (by decide +kernel)) (goodIn_sub (fun _ h => List.mem_cons_of_mem _ (List.mem_append_right _ h)) (by decide +kernel))
set_option maxRecDepth 20000 in
theorem gX0_read_X0_requireNotice : GoodIn wsX0_read (wsV RX0 124 RX0 yX0_requireNotice wsX0_requireNotice) := goodIn_app (goodIn_of _ (by decide +kernel)) ggX0_read_X0_requireNotice
set_option maxRecDepth 20000 in
theorem ggX0_read_X0_has : GoodIn wsX0_read wsX0_has := goodIn_r _ [19, 20, 21, 7, 22] (by decide +kernel) (by decide +kernel)
set_option maxRecDepth 20000 in
theorem gX0_read_X0_has : GoodIn wsX0_read (va_wsS RX0 96 yX0_has wsX0_has) := goodIn_app (goodIn_of _ (by decide +kernel)) ggX0_read_X0_has
set_option maxRecDepth 20000 in
theorem ggX0_read_X0_isStanding : GoodIn wsX0_read wsX0_isStanding := goodIn_r _ [26, 27, 28, 45, 46, 47, 48, 49, 50, 51, 52, 53, 54, 55, 56, 57, 58, 59, 60, 61, 62, 63] (by decide +kernel) (by decide +kernel)
set_option maxRecDepth 20000 in
theorem gX0_read_X0_isStanding : GoodIn wsX0_read (wsV RX0 127 RX0 yX0_isStanding wsX0_isStanding) := goodIn_app (goodIn_of _ (by decide +kernel)) ggX0_read_X0_isStanding
set_option maxRecDepth 20000 in
theorem ggX0_read_X0_waitsNow : GoodIn wsX0_read wsX0_waitsNow := goodIn_r _ [32, 33, 23, 24, 25, 7, 26, 27, 28, 45, 46, 47, 48, 49, 50, 51, 52, 53, 54, 55, 56, 57, 58, 59, 60, 61, 62, 63] (by decide +kernel) (by decide +kernel)
set_option maxRecDepth 20000 in
theorem gX0_read_X0_waitsNow : GoodIn wsX0_read (wsV RX0 132 RX0 yX0_waitsNow wsX0_waitsNow) := goodIn_app (goodIn_of _ (by decide +kernel)) ggX0_read_X0_waitsNow
set_option maxRecDepth 20000 in
theorem ggX0_read_J6_bitCount_0f7a4 : GoodIn wsX0_read wsJ6_bitCount_0f7a4 := goodIn_r _ [37, 38, 39, 40] (by decide +kernel) (by decide +kernel)
set_option maxRecDepth 20000 in
theorem gX0_read_J6_bitCount_0f7a4 : GoodIn wsX0_read (va_wsS RX0 135 yJ6_bitCount_0f7a4 wsJ6_bitCount_0f7a4) := goodIn_app (goodIn_of _ (by decide +kernel)) ggX0_read_J6_bitCount_0f7a4
set_option maxRecDepth 20000 in
theorem ggX0_read_X0_withdraw : GoodIn wsX0_read wsX0_withdraw := goodIn_r _ [44, 28, 27, 45, 46, 47, 48, 49, 50, 51, 52, 53, 54, 55, 56, 57, 58, 59, 60, 61, 62, 63] (by decide +kernel) (by decide +kernel)
set_option maxRecDepth 20000 in
theorem gX0_read_X0_withdraw : GoodIn wsX0_read (wsV RX0 140 RX0 yX0_withdraw wsX0_withdraw) := goodIn_app (goodIn_of _ (by decide +kernel)) ggX0_read_X0_withdraw
theorem dX0_read_0 : decode cX0_read 0 = .ok (.aload_n 0, 1) := by decide +kernel
theorem dX0_read_1 : decode cX0_read 1 = .ok (.iload_n 1, 1) := by decide +kernel
theorem dX0_read_2 : decode cX0_read 2 = .ok (.invokevirtual 84, 3) := by decide +kernel
theorem dX0_read_5 : decode cX0_read 5 = .ok (.aload_n 0, 1) := by decide +kernel
theorem dX0_read_6 : decode cX0_read 6 = .ok (.iload_n 2, 1) := by decide +kernel
theorem dX0_read_7 : decode cX0_read 7 = .ok (.invokevirtual 124, 3) := by decide +kernel
theorem dX0_read_10 : decode cX0_read 10 = .ok (.aload_n 0, 1) := by decide +kernel
theorem dX0_read_11 : decode cX0_read 11 = .ok (.getfield 54, 3) := by decide +kernel
theorem dX0_read_14 : decode cX0_read 14 = .ok (.iload_n 2, 1) := by decide +kernel
theorem dX0_read_15 : decode cX0_read 15 = .ok (.iaload, 1) := by decide +kernel
theorem dX0_read_16 : decode cX0_read 16 = .ok (.iload_n 1, 1) := by decide +kernel
theorem dX0_read_17 : decode cX0_read 17 = .ok (.invokestatic 96, 3) := by decide +kernel
theorem dX0_read_20 : decode cX0_read 20 = .ok (.ifCond .eq 11, 3) := by decide +kernel
theorem dX0_read_23 : decode cX0_read 23 = .ok (.aload_n 0, 1) := by decide +kernel
theorem dX0_read_24 : decode cX0_read 24 = .ok (.iload_n 2, 1) := by decide +kernel
theorem dX0_read_25 : decode cX0_read 25 = .ok (.invokevirtual 127, 3) := by decide +kernel
theorem dX0_read_28 : decode cX0_read 28 = .ok (.ifCond .ne 13, 3) := by decide +kernel
theorem dX0_read_31 : decode cX0_read 31 = .ok (.new 73, 3) := by decide +kernel
theorem dX0_read_34 : decode cX0_read 34 = .ok (.dup, 1) := by decide +kernel
theorem dX0_read_35 : decode cX0_read 35 = .ok (.ldc 130, 2) := by decide +kernel
theorem dX0_read_37 : decode cX0_read 37 = .ok (.invokespecial 77, 3) := by decide +kernel
theorem dX0_read_40 : decode cX0_read 40 = .ok (.athrow, 1) := by decide +kernel
theorem dX0_read_41 : decode cX0_read 41 = .ok (.aload_n 0, 1) := by decide +kernel
theorem dX0_read_42 : decode cX0_read 42 = .ok (.iload_n 2, 1) := by decide +kernel
theorem dX0_read_43 : decode cX0_read 43 = .ok (.invokevirtual 132, 3) := by decide +kernel
theorem dX0_read_46 : decode cX0_read 46 = .ok (.invokestatic 135, 3) := by decide +kernel
theorem dX0_read_49 : decode cX0_read 49 = .ok (.istore_n 3, 1) := by decide +kernel
theorem dX0_read_50 : decode cX0_read 50 = .ok (.aload_n 0, 1) := by decide +kernel
theorem dX0_read_51 : decode cX0_read 51 = .ok (.iload_n 2, 1) := by decide +kernel
theorem dX0_read_52 : decode cX0_read 52 = .ok (.invokevirtual 140, 3) := by decide +kernel
theorem dX0_read_55 : decode cX0_read 55 = .ok (.iload_n 3, 1) := by decide +kernel
theorem dX0_read_56 : decode cX0_read 56 = .ok (.ireturn, 1) := by decide +kernel
theorem dX0_sent_0 : decode cX0_sent 0 = .ok (.aload_n 0, 1) := by decide +kernel
theorem dX0_sent_1 : decode cX0_sent 1 = .ok (.getfield 60, 3) := by decide +kernel
theorem dX0_sent_4 : decode cX0_sent 4 = .ok (.ireturn, 1) := by decide +kernel
set_option maxRecDepth 20000 in
theorem ggX0_stands_X0_requireNotice : GoodIn wsX0_stands wsX0_requireNotice := goodIn_ca (goodIn_r _ [5, 6, 7, 8, 15, 16, 17, 18, 19, 20, 21, 22, 23, 24, 25, 26, 27, 28, 29, 30, 31, 32, 33] (by decide +kernel) (by decide +kernel)) (goodIn_sub (fun _ h => List.mem_cons_of_mem _ (List.mem_append_right _ h)) (by decide +kernel))
set_option maxRecDepth 20000 in
theorem gX0_stands_X0_requireNotice : GoodIn wsX0_stands (wsV RX0 124 RX0 yX0_requireNotice wsX0_requireNotice) := goodIn_app (goodIn_of _ (by decide +kernel)) ggX0_stands_X0_requireNotice
set_option maxRecDepth 20000 in
theorem ggX0_stands_X0_isStanding : GoodIn wsX0_stands wsX0_isStanding := goodIn_r _ [12, 13, 14, 15, 16, 17, 18, 19, 20, 21, 22, 23, 24, 25, 26, 27, 28, 29, 30, 31, 32, 33] (by decide +kernel) (by decide +kernel)
set_option maxRecDepth 20000 in
theorem gX0_stands_X0_isStanding : GoodIn wsX0_stands (wsV RX0 127 RX0 yX0_isStanding wsX0_isStanding) := goodIn_app (goodIn_of _ (by decide +kernel)) ggX0_stands_X0_isStanding
theorem dX0_stands_0 : decode cX0_stands 0 = .ok (.aload_n 0, 1) := by decide +kernel
theorem dX0_stands_1 : decode cX0_stands 1 = .ok (.iload_n 1, 1) := by decide +kernel
theorem dX0_stands_2 : decode cX0_stands 2 = .ok (.invokevirtual 124, 3) := by decide +kernel
theorem dX0_stands_5 : decode cX0_stands 5 = .ok (.aload_n 0, 1) := by decide +kernel
theorem dX0_stands_6 : decode cX0_stands 6 = .ok (.iload_n 1, 1) := by decide +kernel
theorem dX0_stands_7 : decode cX0_stands 7 = .ok (.invokevirtual 127, 3) := by decide +kernel
theorem dX0_stands_10 : decode cX0_stands 10 = .ok (.ireturn, 1) := by decide +kernel
set_option maxRecDepth 20000 in
theorem ggX0_waitsFor_X0_requireNotice : GoodIn wsX0_waitsFor wsX0_requireNotice := goodIn_ca (goodIn_r _ [5, 6, 7, 8, 20, 21, 22, 23, 24, 25, 26, 27, 28, 29, 30, 31, 32, 33, 34, 35, 36, 37, 38] (by decide +kernel) (by decide +kernel)) (goodIn_sub (fun _ h => List.mem_cons_of_mem _ (List.mem_append_right _ h)) (by decide +kernel))
set_option maxRecDepth 20000 in
theorem gX0_waitsFor_X0_requireNotice : GoodIn wsX0_waitsFor (wsV RX0 124 RX0 yX0_requireNotice wsX0_requireNotice) := goodIn_app (goodIn_of _ (by decide +kernel)) ggX0_waitsFor_X0_requireNotice
set_option maxRecDepth 20000 in
theorem ggX0_waitsFor_X0_waitsNow : GoodIn wsX0_waitsFor wsX0_waitsNow := goodIn_r _ [12, 13, 14, 15, 16, 4, 17, 18, 19, 20, 21, 22, 23, 24, 25, 26, 27, 28, 29, 30, 31, 32, 33, 34, 35, 36, 37, 38] (by decide +kernel) (by decide +kernel)
set_option maxRecDepth 20000 in
theorem gX0_waitsFor_X0_waitsNow : GoodIn wsX0_waitsFor (wsV RX0 132 RX0 yX0_waitsNow wsX0_waitsNow) := goodIn_app (goodIn_of _ (by decide +kernel)) ggX0_waitsFor_X0_waitsNow
theorem dX0_waitsFor_0 : decode cX0_waitsFor 0 = .ok (.aload_n 0, 1) := by decide +kernel
theorem dX0_waitsFor_1 : decode cX0_waitsFor 1 = .ok (.iload_n 1, 1) := by decide +kernel
theorem dX0_waitsFor_2 : decode cX0_waitsFor 2 = .ok (.invokevirtual 124, 3) := by decide +kernel
theorem dX0_waitsFor_5 : decode cX0_waitsFor 5 = .ok (.aload_n 0, 1) := by decide +kernel
theorem dX0_waitsFor_6 : decode cX0_waitsFor 6 = .ok (.iload_n 1, 1) := by decide +kernel
theorem dX0_waitsFor_7 : decode cX0_waitsFor 7 = .ok (.invokevirtual 132, 3) := by decide +kernel
theorem dX0_waitsFor_10 : decode cX0_waitsFor 10 = .ok (.ireturn, 1) := by decide +kernel
set_option maxRecDepth 20000 in
theorem ggX0_deliveredTo_X0_requireNotice : GoodIn wsX0_deliveredTo wsX0_requireNotice := goodIn_ca (goodIn_r _ [6, 7, 8, 9, 10, 11, 12, 13, 14, 15, 16, 17, 18, 19, 20, 21, 22, 23, 24, 25, 26, 27, 28] (by decide +kernel) (by decide +kernel)) (goodIn_sub (fun _ h => List.mem_cons_of_mem _ (List.mem_append_right _ h)) (by decide +kernel))
set_option maxRecDepth 20000 in
theorem gX0_deliveredTo_X0_requireNotice : GoodIn wsX0_deliveredTo (wsV RX0 124 RX0 yX0_requireNotice wsX0_requireNotice) := goodIn_app (goodIn_of _ (by decide +kernel)) ggX0_deliveredTo_X0_requireNotice
theorem dX0_deliveredTo_0 : decode cX0_deliveredTo 0 = .ok (.aload_n 0, 1) := by decide +kernel
theorem dX0_deliveredTo_1 : decode cX0_deliveredTo 1 = .ok (.iload_n 1, 1) := by decide +kernel
theorem dX0_deliveredTo_2 : decode cX0_deliveredTo 2 = .ok (.invokevirtual 124, 3) := by decide +kernel
theorem dX0_deliveredTo_5 : decode cX0_deliveredTo 5 = .ok (.aload_n 0, 1) := by decide +kernel
theorem dX0_deliveredTo_6 : decode cX0_deliveredTo 6 = .ok (.getfield 54, 3) := by decide +kernel
theorem dX0_deliveredTo_9 : decode cX0_deliveredTo 9 = .ok (.iload_n 1, 1) := by decide +kernel
theorem dX0_deliveredTo_10 : decode cX0_deliveredTo 10 = .ok (.iaload, 1) := by decide +kernel
theorem dX0_deliveredTo_11 : decode cX0_deliveredTo 11 = .ok (.ireturn, 1) := by decide +kernel
set_option maxRecDepth 20000 in
theorem ggX0_standing_X0_requireWithin : GoodIn wsX0_standing wsX0_requireWithin := goodIn_ca (goodIn_r _ [5, 6, 7] (by decide +kernel) (by decide +kernel)) (goodIn_sub (fun _ h => List.mem_cons_of_mem _ (List.mem_append_right _ h)) (by decide +kernel))
set_option maxRecDepth 20000 in
theorem gX0_standing_X0_requireWithin : GoodIn wsX0_standing (va_wsS RX0 69 yX0_requireWithin wsX0_requireWithin) := goodIn_app (goodIn_of _ (by decide +kernel)) ggX0_standing_X0_requireWithin
set_option maxRecDepth 20000 in
theorem ggX0_standing_X0_placeOf : GoodIn wsX0_standing wsX0_placeOf := goodIn_r _ [10] (by decide +kernel) (by decide +kernel)
set_option maxRecDepth 20000 in
theorem gX0_standing_X0_placeOf : GoodIn wsX0_standing (va_wsS RX0 143 yX0_placeOf wsX0_placeOf) := goodIn_app (goodIn_of _ (by decide +kernel)) ggX0_standing_X0_placeOf
set_option maxRecDepth 20000 in
theorem ggX0_standing_X0_isStanding : GoodIn wsX0_standing wsX0_isStanding := goodIn_r _ [14, 15, 16, 17, 18, 19, 20, 21, 22, 23, 24, 25, 26, 27, 28, 29, 30, 31, 32, 33, 34, 35] (by decide +kernel) (by decide +kernel)
set_option maxRecDepth 20000 in
theorem gX0_standing_X0_isStanding : GoodIn wsX0_standing (wsV RX0 127 RX0 yX0_isStanding wsX0_isStanding) := goodIn_app (goodIn_of _ (by decide +kernel)) ggX0_standing_X0_isStanding
end
section
theorem dX0_standing_0 : decode cX0_standing 0 = .ok (.iload_n 1, 1) := by decide +kernel
theorem dX0_standing_1 : decode cX0_standing 1 = .ok (.iconst 0, 1) := by decide +kernel
theorem dX0_standing_2 : decode cX0_standing 2 = .ok (.bipush 7, 2) := by decide +kernel
theorem dX0_standing_4 : decode cX0_standing 4 = .ok (.invokestatic 69, 3) := by decide +kernel
theorem dX0_standing_7 : decode cX0_standing 7 = .ok (.iload_n 2, 1) := by decide +kernel
theorem dX0_standing_8 : decode cX0_standing 8 = .ok (.iconst 0, 1) := by decide +kernel
theorem dX0_standing_9 : decode cX0_standing 9 = .ok (.bipush 9, 2) := by decide +kernel
theorem dX0_standing_11 : decode cX0_standing 11 = .ok (.invokestatic 69, 3) := by decide +kernel
theorem dX0_standing_14 : decode cX0_standing 14 = .ok (.aload_n 0, 1) := by decide +kernel
theorem dX0_standing_15 : decode cX0_standing 15 = .ok (.getfield 57, 3) := by decide +kernel
theorem dX0_standing_18 : decode cX0_standing 18 = .ok (.iload_n 1, 1) := by decide +kernel
theorem dX0_standing_19 : decode cX0_standing 19 = .ok (.iload_n 2, 1) := by decide +kernel
theorem dX0_standing_20 : decode cX0_standing 20 = .ok (.invokestatic 143, 3) := by decide +kernel
theorem dX0_standing_23 : decode cX0_standing 23 = .ok (.iaload, 1) := by decide +kernel
theorem dX0_standing_24 : decode cX0_standing 24 = .ok (.istore_n 3, 1) := by decide +kernel
theorem dX0_standing_25 : decode cX0_standing 25 = .ok (.iload_n 3, 1) := by decide +kernel
theorem dX0_standing_26 : decode cX0_standing 26 = .ok (.iconst (-1), 1) := by decide +kernel
theorem dX0_standing_27 : decode cX0_standing 27 = .ok (.if_icmp .eq 15, 3) := by decide +kernel
theorem dX0_standing_30 : decode cX0_standing 30 = .ok (.aload_n 0, 1) := by decide +kernel
theorem dX0_standing_31 : decode cX0_standing 31 = .ok (.iload_n 3, 1) := by decide +kernel
theorem dX0_standing_32 : decode cX0_standing 32 = .ok (.invokevirtual 127, 3) := by decide +kernel
theorem dX0_standing_35 : decode cX0_standing 35 = .ok (.ifCond .eq 7, 3) := by decide +kernel
theorem dX0_standing_38 : decode cX0_standing 38 = .ok (.iload_n 3, 1) := by decide +kernel
theorem dX0_standing_39 : decode cX0_standing 39 = .ok (.goto 4, 3) := by decide +kernel
theorem dX0_standing_42 : decode cX0_standing 42 = .ok (.iconst (-1), 1) := by decide +kernel
theorem dX0_standing_43 : decode cX0_standing 43 = .ok (.ireturn, 1) := by decide +kernel
set_option maxRecDepth 20000 in
theorem ggX0_badge_X0_requireDevice : GoodIn wsX0_badge wsX0_requireDevice := goodIn_ca (goodIn_r _ [7, 8, 9, 10, 23, 24, 25, 26, 27, 28, 29, 30, 31, 32, 33, 34, 35, 36, 37, 38, 39, 40, 41] (by decide +kernel) (by decide +kernel)) (goodIn_sub (fun _ h => List.mem_cons_of_mem _ (List.mem_append_right _ h)) (by decide +kernel))
set_option maxRecDepth 20000 in
theorem gX0_badge_X0_requireDevice : GoodIn wsX0_badge (wsV RX0 84 RX0 yX0_requireDevice wsX0_requireDevice) := goodIn_app (goodIn_of _ (by decide +kernel)) ggX0_badge_X0_requireDevice
set_option maxRecDepth 20000 in
theorem ggX0_badge_X0_has : GoodIn wsX0_badge wsX0_has := goodIn_r _ [13, 14, 15, 6, 16] (by decide +kernel) (by decide +kernel)
set_option maxRecDepth 20000 in
theorem gX0_badge_X0_has : GoodIn wsX0_badge (va_wsS RX0 96 yX0_has wsX0_has) := goodIn_app (goodIn_of _ (by decide +kernel)) ggX0_badge_X0_has
set_option maxRecDepth 20000 in
theorem ggX0_badge_X0_isStanding : GoodIn wsX0_badge wsX0_isStanding := goodIn_r _ [20, 21, 22, 23, 24, 25, 26, 27, 28, 29, 30, 31, 32, 33, 34, 35, 36, 37, 38, 39, 40, 41] (by decide +kernel) (by decide +kernel)
set_option maxRecDepth 20000 in
theorem gX0_badge_X0_isStanding : GoodIn wsX0_badge (wsV RX0 127 RX0 yX0_isStanding wsX0_isStanding) := goodIn_app (goodIn_of _ (by decide +kernel)) ggX0_badge_X0_isStanding
theorem dX0_badge_0 : decode cX0_badge 0 = .ok (.aload_n 0, 1) := by decide +kernel
theorem dX0_badge_1 : decode cX0_badge 1 = .ok (.iload_n 1, 1) := by decide +kernel
theorem dX0_badge_2 : decode cX0_badge 2 = .ok (.invokevirtual 84, 3) := by decide +kernel
theorem dX0_badge_5 : decode cX0_badge 5 = .ok (.iconst 0, 1) := by decide +kernel
theorem dX0_badge_6 : decode cX0_badge 6 = .ok (.istore_n 2, 1) := by decide +kernel
theorem dX0_badge_7 : decode cX0_badge 7 = .ok (.iconst 0, 1) := by decide +kernel
theorem dX0_badge_8 : decode cX0_badge 8 = .ok (.istore_n 3, 1) := by decide +kernel
theorem dX0_badge_9 : decode cX0_badge 9 = .ok (.iload_n 3, 1) := by decide +kernel
theorem dX0_badge_10 : decode cX0_badge 10 = .ok (.aload_n 0, 1) := by decide +kernel
theorem dX0_badge_11 : decode cX0_badge 11 = .ok (.getfield 60, 3) := by decide +kernel
theorem dX0_badge_14 : decode cX0_badge 14 = .ok (.if_icmp .ge 33, 3) := by decide +kernel
theorem dX0_badge_17 : decode cX0_badge 17 = .ok (.aload_n 0, 1) := by decide +kernel
theorem dX0_badge_18 : decode cX0_badge 18 = .ok (.getfield 54, 3) := by decide +kernel
theorem dX0_badge_21 : decode cX0_badge 21 = .ok (.iload_n 3, 1) := by decide +kernel
theorem dX0_badge_22 : decode cX0_badge 22 = .ok (.iaload, 1) := by decide +kernel
theorem dX0_badge_23 : decode cX0_badge 23 = .ok (.iload_n 1, 1) := by decide +kernel
theorem dX0_badge_24 : decode cX0_badge 24 = .ok (.invokestatic 96, 3) := by decide +kernel
theorem dX0_badge_27 : decode cX0_badge 27 = .ok (.ifCond .eq 14, 3) := by decide +kernel
theorem dX0_badge_30 : decode cX0_badge 30 = .ok (.aload_n 0, 1) := by decide +kernel
theorem dX0_badge_31 : decode cX0_badge 31 = .ok (.iload_n 3, 1) := by decide +kernel
theorem dX0_badge_32 : decode cX0_badge 32 = .ok (.invokevirtual 127, 3) := by decide +kernel
theorem dX0_badge_35 : decode cX0_badge 35 = .ok (.ifCond .eq 6, 3) := by decide +kernel
theorem dX0_badge_38 : decode cX0_badge 38 = .ok (.iinc 2 1, 3) := by decide +kernel
theorem dX0_badge_41 : decode cX0_badge 41 = .ok (.iinc 3 1, 3) := by decide +kernel
theorem dX0_badge_44 : decode cX0_badge 44 = .ok (.goto (-35), 3) := by decide +kernel
theorem dX0_badge_47 : decode cX0_badge 47 = .ok (.iload_n 2, 1) := by decide +kernel
theorem dX0_badge_48 : decode cX0_badge 48 = .ok (.ireturn, 1) := by decide +kernel
set_option maxRecDepth 20000 in
theorem ggX0_waiting_X0_requireDevice : GoodIn wsX0_waiting wsX0_requireDevice := goodIn_ca (goodIn_r _ [5, 6, 7, 8, 31, 32, 33, 34, 35, 36, 37, 38, 39, 40, 41, 42, 43, 44, 45, 46, 47, 48, 49] (by decide +kernel) (by decide +kernel)) (goodIn_sub (fun _ h => List.mem_cons_of_mem _ (List.mem_append_right _ h)) (by decide +kernel))
set_option maxRecDepth 20000 in
theorem gX0_waiting_X0_requireDevice : GoodIn wsX0_waiting (wsV RX0 84 RX0 yX0_requireDevice wsX0_requireDevice) := goodIn_app (goodIn_of _ (by decide +kernel)) ggX0_waiting_X0_requireDevice
set_option maxRecDepth 20000 in
theorem ggX0_waiting_X0_countWaiting : GoodIn wsX0_waiting wsX0_countWaiting := goodIn_r _ [12, 13, 14, 15, 16, 4, 17, 18, 19, 20, 21, 22, 23, 24, 25, 26, 27, 28, 29, 30, 31, 32, 33, 34, 35, 36, 37, 38, 39, 40, 41, 42, 43, 44, 45, 46, 47, 48, 49] (by decide +kernel) (by decide +kernel)
set_option maxRecDepth 20000 in
theorem gX0_waiting_X0_countWaiting : GoodIn wsX0_waiting (wsV RX0 102 RX0 yX0_countWaiting wsX0_countWaiting) := goodIn_app (goodIn_of _ (by decide +kernel)) ggX0_waiting_X0_countWaiting
theorem dX0_waiting_0 : decode cX0_waiting 0 = .ok (.aload_n 0, 1) := by decide +kernel
theorem dX0_waiting_1 : decode cX0_waiting 1 = .ok (.iload_n 1, 1) := by decide +kernel
theorem dX0_waiting_2 : decode cX0_waiting 2 = .ok (.invokevirtual 84, 3) := by decide +kernel
theorem dX0_waiting_5 : decode cX0_waiting 5 = .ok (.aload_n 0, 1) := by decide +kernel
theorem dX0_waiting_6 : decode cX0_waiting 6 = .ok (.iload_n 1, 1) := by decide +kernel
theorem dX0_waiting_7 : decode cX0_waiting 7 = .ok (.invokevirtual 102, 3) := by decide +kernel
theorem dX0_waiting_10 : decode cX0_waiting 10 = .ok (.ireturn, 1) := by decide +kernel
set_option maxRecDepth 20000 in
theorem ggX0_quota_X0_requireDevice : GoodIn wsX0_quota wsX0_requireDevice := goodIn_ca (goodIn_r _ [5, 6, 7, 8, 16, 17, 18, 19, 20, 21, 22, 23, 24, 25, 26, 27, 28, 29, 30, 31, 32, 33, 34] (by decide +kernel) (by decide +kernel)) (goodIn_sub (fun _ h => List.mem_cons_of_mem _ (List.mem_append_right _ h)) (by decide +kernel))
set_option maxRecDepth 20000 in
theorem gX0_quota_X0_requireDevice : GoodIn wsX0_quota (wsV RX0 84 RX0 yX0_requireDevice wsX0_requireDevice) := goodIn_app (goodIn_of _ (by decide +kernel)) ggX0_quota_X0_requireDevice
set_option maxRecDepth 20000 in
theorem ggX0_quota_X0_spentToday : GoodIn wsX0_quota wsX0_spentToday := goodIn_r _ [12, 13, 14, 15, 16, 17, 18, 19, 20, 21, 22, 23, 24, 25, 26, 27, 28, 29, 30, 31, 32, 33, 34] (by decide +kernel) (by decide +kernel)
set_option maxRecDepth 20000 in
theorem gX0_quota_X0_spentToday : GoodIn wsX0_quota (wsV RX0 147 RX0 yX0_spentToday wsX0_spentToday) := goodIn_app (goodIn_of _ (by decide +kernel)) ggX0_quota_X0_spentToday
theorem dX0_quota_0 : decode cX0_quota 0 = .ok (.aload_n 0, 1) := by decide +kernel
theorem dX0_quota_1 : decode cX0_quota 1 = .ok (.iload_n 1, 1) := by decide +kernel
theorem dX0_quota_2 : decode cX0_quota 2 = .ok (.invokevirtual 84, 3) := by decide +kernel
theorem dX0_quota_5 : decode cX0_quota 5 = .ok (.iconst 3, 1) := by decide +kernel
theorem dX0_quota_6 : decode cX0_quota 6 = .ok (.aload_n 0, 1) := by decide +kernel
theorem dX0_quota_7 : decode cX0_quota 7 = .ok (.iload_n 1, 1) := by decide +kernel
theorem dX0_quota_8 : decode cX0_quota 8 = .ok (.invokevirtual 147, 3) := by decide +kernel
theorem dX0_quota_11 : decode cX0_quota 11 = .ok (.isub, 1) := by decide +kernel
theorem dX0_quota_12 : decode cX0_quota 12 = .ok (.ireturn, 1) := by decide +kernel
set_option maxRecDepth 20000 in
theorem ggX0_pass_X0_requireWithin : GoodIn wsX0_pass wsX0_requireWithin := goodIn_ca (goodIn_r _ [12, 13, 14] (by decide +kernel) (by decide +kernel)) (goodIn_sub (fun _ h => List.mem_cons_of_mem _ (List.mem_append_right _ h)) (by decide +kernel))
set_option maxRecDepth 20000 in
theorem gX0_pass_X0_requireWithin : GoodIn wsX0_pass (va_wsS RX0 69 yX0_requireWithin wsX0_requireWithin) := goodIn_app (goodIn_of _ (by decide +kernel)) ggX0_pass_X0_requireWithin
set_option maxRecDepth 20000 in
theorem ggX0_pass_X0_nextChance : GoodIn wsX0_pass wsX0_nextChance := goodIn_r _ [18, 3, 19, 20, 5, 6, 7, 8, 21, 22, 23, 11, 24, 25, 26, 27, 28, 29, 30, 31, 32, 33, 34, 93, 94, 95, 96, 97, 98, 99, 100, 101, 102, 103, 104, 105, 106, 107, 108, 109, 110, 111] (by decide +kernel) (by decide +kernel)
set_option maxRecDepth 20000 in
theorem gX0_pass_X0_nextChance : GoodIn wsX0_pass (wsV RX0 153 RX0 yX0_nextChance wsX0_nextChance) := goodIn_app (goodIn_of _ (by decide +kernel)) ggX0_pass_X0_nextChance
set_option maxRecDepth 20000 in
theorem ggX0_pass_X0_deliverNow : GoodIn wsX0_pass wsX0_deliverNow := goodIn_r _ [38, 39, 40, 41, 42, 43, 44, 11, 45, 3, 46, 47, 19, 21, 22, 23, 24, 25, 20, 26, 27, 28, 29, 30, 31, 32, 33, 34, 48, 49, 50, 51, 52, 53, 54, 55, 56, 57, 58, 59, 60, 61, 62, 63, 64, 65, 66, 67, 68, 69, 70, 71, 72, 73, 74, 75, 76, 77, 78, 79, 80, 81, 82, 83, 84, 85, 86, 87, 88, 89, 90, 91, 92, 93, 94, 95, 96, 97, 98, 99, 100, 101, 102, 103, 104, 105, 106, 107, 108, 109, 110, 111] (by decide +kernel) (by decide +kernel)
set_option maxRecDepth 20000 in
theorem gX0_pass_X0_deliverNow : GoodIn wsX0_pass (wsV RX0 92 RX0 yX0_deliverNow wsX0_deliverNow) := goodIn_app (goodIn_of _ (by decide +kernel)) ggX0_pass_X0_deliverNow
theorem dX0_pass_0 : decode cX0_pass 0 = .ok (.iload_n 1, 1) := by decide +kernel
theorem dX0_pass_1 : decode cX0_pass 1 = .ok (.iconst 1, 1) := by decide +kernel
theorem dX0_pass_2 : decode cX0_pass 2 = .ok (.sipush 3000, 3) := by decide +kernel
theorem dX0_pass_5 : decode cX0_pass 5 = .ok (.invokestatic 69, 3) := by decide +kernel
theorem dX0_pass_8 : decode cX0_pass 8 = .ok (.aload_n 0, 1) := by decide +kernel
theorem dX0_pass_9 : decode cX0_pass 9 = .ok (.getfield 63, 3) := by decide +kernel
theorem dX0_pass_12 : decode cX0_pass 12 = .ok (.iload_n 1, 1) := by decide +kernel
theorem dX0_pass_13 : decode cX0_pass 13 = .ok (.iadd, 1) := by decide +kernel
theorem dX0_pass_14 : decode cX0_pass 14 = .ok (.ldc 150, 2) := by decide +kernel
theorem dX0_pass_16 : decode cX0_pass 16 = .ok (.if_icmp .le 13, 3) := by decide +kernel
theorem dX0_pass_19 : decode cX0_pass 19 = .ok (.new 73, 3) := by decide +kernel
theorem dX0_pass_22 : decode cX0_pass 22 = .ok (.dup, 1) := by decide +kernel
theorem dX0_pass_23 : decode cX0_pass 23 = .ok (.ldc 151, 2) := by decide +kernel
theorem dX0_pass_25 : decode cX0_pass 25 = .ok (.invokespecial 77, 3) := by decide +kernel
theorem dX0_pass_28 : decode cX0_pass 28 = .ok (.athrow, 1) := by decide +kernel
theorem dX0_pass_29 : decode cX0_pass 29 = .ok (.aload_n 0, 1) := by decide +kernel
theorem dX0_pass_30 : decode cX0_pass 30 = .ok (.getfield 63, 3) := by decide +kernel
theorem dX0_pass_33 : decode cX0_pass 33 = .ok (.iload_n 1, 1) := by decide +kernel
theorem dX0_pass_34 : decode cX0_pass 34 = .ok (.iadd, 1) := by decide +kernel
theorem dX0_pass_35 : decode cX0_pass 35 = .ok (.istore_n 2, 1) := by decide +kernel
theorem dX0_pass_36 : decode cX0_pass 36 = .ok (.iconst 0, 1) := by decide +kernel
theorem dX0_pass_37 : decode cX0_pass 37 = .ok (.istore_n 3, 1) := by decide +kernel
theorem dX0_pass_38 : decode cX0_pass 38 = .ok (.iconst 0, 1) := by decide +kernel
theorem dX0_pass_39 : decode cX0_pass 39 = .ok (.istore 4, 2) := by decide +kernel
theorem dX0_pass_41 : decode cX0_pass 41 = .ok (.iload 4, 2) := by decide +kernel
theorem dX0_pass_43 : decode cX0_pass 43 = .ok (.iload_n 1, 1) := by decide +kernel
theorem dX0_pass_44 : decode cX0_pass 44 = .ok (.if_icmp .ge 36, 3) := by decide +kernel
theorem dX0_pass_47 : decode cX0_pass 47 = .ok (.aload_n 0, 1) := by decide +kernel
theorem dX0_pass_48 : decode cX0_pass 48 = .ok (.getfield 63, 3) := by decide +kernel
theorem dX0_pass_51 : decode cX0_pass 51 = .ok (.iload_n 2, 1) := by decide +kernel
theorem dX0_pass_52 : decode cX0_pass 52 = .ok (.if_icmp .ge 28, 3) := by decide +kernel
theorem dX0_pass_55 : decode cX0_pass 55 = .ok (.aload_n 0, 1) := by decide +kernel
theorem dX0_pass_56 : decode cX0_pass 56 = .ok (.iload_n 2, 1) := by decide +kernel
theorem dX0_pass_57 : decode cX0_pass 57 = .ok (.aload_n 0, 1) := by decide +kernel
theorem dX0_pass_58 : decode cX0_pass 58 = .ok (.invokevirtual 153, 3) := by decide +kernel
theorem dX0_pass_61 : decode cX0_pass 61 = .ok (.invokestatic 156, 3) := by decide +kernel
theorem dX0_pass_64 : decode cX0_pass 64 = .ok (.putfield 63, 3) := by decide +kernel
theorem dX0_pass_67 : decode cX0_pass 67 = .ok (.iload_n 3, 1) := by decide +kernel
theorem dX0_pass_68 : decode cX0_pass 68 = .ok (.aload_n 0, 1) := by decide +kernel
theorem dX0_pass_69 : decode cX0_pass 69 = .ok (.invokevirtual 92, 3) := by decide +kernel
theorem dX0_pass_72 : decode cX0_pass 72 = .ok (.iadd, 1) := by decide +kernel
theorem dX0_pass_73 : decode cX0_pass 73 = .ok (.istore_n 3, 1) := by decide +kernel
theorem dX0_pass_74 : decode cX0_pass 74 = .ok (.iinc 4 1, 3) := by decide +kernel
theorem dX0_pass_77 : decode cX0_pass 77 = .ok (.goto (-36), 3) := by decide +kernel
theorem dX0_pass_80 : decode cX0_pass 80 = .ok (.iload_n 3, 1) := by decide +kernel
theorem dX0_pass_81 : decode cX0_pass 81 = .ok (.ireturn, 1) := by decide +kernel
theorem dX0_clock_0 : decode cX0_clock 0 = .ok (.aload_n 0, 1) := by decide +kernel
theorem dX0_clock_1 : decode cX0_clock 1 = .ok (.getfield 63, 3) := by decide +kernel
theorem dX0_clock_4 : decode cX0_clock 4 = .ok (.ireturn, 1) := by decide +kernel
theorem dX0_deliveries_0 : decode cX0_deliveries 0 = .ok (.aload_n 0, 1) := by decide +kernel
theorem dX0_deliveries_1 : decode cX0_deliveries 1 = .ok (.getfield 66, 3) := by decide +kernel
theorem dX0_deliveries_4 : decode cX0_deliveries 4 = .ok (.ireturn, 1) := by decide +kernel
theorem dX0_requireWithin_0 : decode cX0_requireWithin 0 = .ok (.iload_n 0, 1) := by decide +kernel
theorem dX0_requireWithin_1 : decode cX0_requireWithin 1 = .ok (.iload_n 1, 1) := by decide +kernel
theorem dX0_requireWithin_2 : decode cX0_requireWithin 2 = .ok (.if_icmp .lt 8, 3) := by decide +kernel
theorem dX0_requireWithin_5 : decode cX0_requireWithin 5 = .ok (.iload_n 0, 1) := by decide +kernel
theorem dX0_requireWithin_6 : decode cX0_requireWithin 6 = .ok (.iload_n 2, 1) := by decide +kernel
theorem dX0_requireWithin_7 : decode cX0_requireWithin 7 = .ok (.if_icmp .le 13, 3) := by decide +kernel
theorem dX0_requireWithin_10 : decode cX0_requireWithin 10 = .ok (.new 161, 3) := by decide +kernel
theorem dX0_requireWithin_13 : decode cX0_requireWithin 13 = .ok (.dup, 1) := by decide +kernel
theorem dX0_requireWithin_14 : decode cX0_requireWithin 14 = .ok (.ldc 163, 2) := by decide +kernel
theorem dX0_requireWithin_16 : decode cX0_requireWithin 16 = .ok (.invokespecial 165, 3) := by decide +kernel
theorem dX0_requireWithin_19 : decode cX0_requireWithin 19 = .ok (.athrow, 1) := by decide +kernel
theorem dX0_requireWithin_20 : decode cX0_requireWithin 20 = .ok (.return_, 1) := by decide +kernel
theorem dX0_requireDevice_0 : decode cX0_requireDevice 0 = .ok (.iload_n 1, 1) := by decide +kernel
theorem dX0_requireDevice_1 : decode cX0_requireDevice 1 = .ok (.ifCond .lt 11, 3) := by decide +kernel
theorem dX0_requireDevice_4 : decode cX0_requireDevice 4 = .ok (.iload_n 1, 1) := by decide +kernel
theorem dX0_requireDevice_5 : decode cX0_requireDevice 5 = .ok (.aload_n 0, 1) := by decide +kernel
theorem dX0_requireDevice_6 : decode cX0_requireDevice 6 = .ok (.getfield 41, 3) := by decide +kernel
theorem dX0_requireDevice_9 : decode cX0_requireDevice 9 = .ok (.if_icmp .lt 13, 3) := by decide +kernel
theorem dX0_requireDevice_12 : decode cX0_requireDevice 12 = .ok (.new 166, 3) := by decide +kernel
theorem dX0_requireDevice_15 : decode cX0_requireDevice 15 = .ok (.dup, 1) := by decide +kernel
theorem dX0_requireDevice_16 : decode cX0_requireDevice 16 = .ok (.ldc 168, 2) := by decide +kernel
theorem dX0_requireDevice_18 : decode cX0_requireDevice 18 = .ok (.invokespecial 170, 3) := by decide +kernel
theorem dX0_requireDevice_21 : decode cX0_requireDevice 21 = .ok (.athrow, 1) := by decide +kernel
theorem dX0_requireDevice_22 : decode cX0_requireDevice 22 = .ok (.return_, 1) := by decide +kernel
theorem dX0_requireNotice_0 : decode cX0_requireNotice 0 = .ok (.iload_n 1, 1) := by decide +kernel
theorem dX0_requireNotice_1 : decode cX0_requireNotice 1 = .ok (.ifCond .lt 11, 3) := by decide +kernel
theorem dX0_requireNotice_4 : decode cX0_requireNotice 4 = .ok (.iload_n 1, 1) := by decide +kernel
theorem dX0_requireNotice_5 : decode cX0_requireNotice 5 = .ok (.aload_n 0, 1) := by decide +kernel
theorem dX0_requireNotice_6 : decode cX0_requireNotice 6 = .ok (.getfield 60, 3) := by decide +kernel
theorem dX0_requireNotice_9 : decode cX0_requireNotice 9 = .ok (.if_icmp .lt 13, 3) := by decide +kernel
theorem dX0_requireNotice_12 : decode cX0_requireNotice 12 = .ok (.new 166, 3) := by decide +kernel
theorem dX0_requireNotice_15 : decode cX0_requireNotice 15 = .ok (.dup, 1) := by decide +kernel
theorem dX0_requireNotice_16 : decode cX0_requireNotice 16 = .ok (.ldc 171, 2) := by decide +kernel
theorem dX0_requireNotice_18 : decode cX0_requireNotice 18 = .ok (.invokespecial 170, 3) := by decide +kernel
theorem dX0_requireNotice_21 : decode cX0_requireNotice 21 = .ok (.athrow, 1) := by decide +kernel
theorem dX0_requireNotice_22 : decode cX0_requireNotice 22 = .ok (.return_, 1) := by decide +kernel
theorem dX0_requireRoomForNotice_0 : decode cX0_requireRoomForNotice 0 = .ok (.aload_n 0, 1) := by decide +kernel
theorem dX0_requireRoomForNotice_1 : decode cX0_requireRoomForNotice 1 = .ok (.getfield 60, 3) := by decide +kernel
theorem dX0_requireRoomForNotice_4 : decode cX0_requireRoomForNotice 4 = .ok (.bipush 120, 2) := by decide +kernel
theorem dX0_requireRoomForNotice_6 : decode cX0_requireRoomForNotice 6 = .ok (.if_icmp .lt 13, 3) := by decide +kernel
theorem dX0_requireRoomForNotice_9 : decode cX0_requireRoomForNotice 9 = .ok (.new 73, 3) := by decide +kernel
theorem dX0_requireRoomForNotice_12 : decode cX0_requireRoomForNotice 12 = .ok (.dup, 1) := by decide +kernel
theorem dX0_requireRoomForNotice_13 : decode cX0_requireRoomForNotice 13 = .ok (.ldc 173, 2) := by decide +kernel
theorem dX0_requireRoomForNotice_15 : decode cX0_requireRoomForNotice 15 = .ok (.invokespecial 77, 3) := by decide +kernel
theorem dX0_requireRoomForNotice_18 : decode cX0_requireRoomForNotice 18 = .ok (.athrow, 1) := by decide +kernel
theorem dX0_requireRoomForNotice_19 : decode cX0_requireRoomForNotice 19 = .ok (.return_, 1) := by decide +kernel
theorem dX0_bitOf_0 : decode cX0_bitOf 0 = .ok (.iconst 1, 1) := by decide +kernel
theorem dX0_bitOf_1 : decode cX0_bitOf 1 = .ok (.iload_n 0, 1) := by decide +kernel
theorem dX0_bitOf_2 : decode cX0_bitOf 2 = .ok (.ishl, 1) := by decide +kernel
theorem dX0_bitOf_3 : decode cX0_bitOf 3 = .ok (.ireturn, 1) := by decide +kernel
set_option maxRecDepth 20000 in
theorem ggX0_has_X0_bitOf : GoodIn wsX0_has wsX0_bitOf := goodIn_r _ [4] (by decide +kernel) (by decide +kernel)
set_option maxRecDepth 20000 in
theorem gX0_has_X0_bitOf : GoodIn wsX0_has (va_wsS RX0 80 yX0_bitOf wsX0_bitOf) := goodIn_app (goodIn_of _ (by decide +kernel)) ggX0_has_X0_bitOf
theorem dX0_has_0 : decode cX0_has 0 = .ok (.iload_n 0, 1) := by decide +kernel
theorem dX0_has_1 : decode cX0_has 1 = .ok (.iload_n 1, 1) := by decide +kernel
theorem dX0_has_2 : decode cX0_has 2 = .ok (.invokestatic 80, 3) := by decide +kernel
theorem dX0_has_5 : decode cX0_has 5 = .ok (.iand, 1) := by decide +kernel
theorem dX0_has_6 : decode cX0_has 6 = .ok (.ifCond .eq 7, 3) := by decide +kernel
theorem dX0_has_9 : decode cX0_has 9 = .ok (.iconst 1, 1) := by decide +kernel
theorem dX0_has_10 : decode cX0_has 10 = .ok (.goto 4, 3) := by decide +kernel
theorem dX0_has_13 : decode cX0_has 13 = .ok (.iconst 0, 1) := by decide +kernel
theorem dX0_has_14 : decode cX0_has 14 = .ok (.ireturn, 1) := by decide +kernel
set_option maxRecDepth 20000 in
theorem ggX0_changed_X0_bitOf : GoodIn wsX0_changed wsX0_bitOf := goodIn_r _ [4] (by decide +kernel) (by decide +kernel)
set_option maxRecDepth 20000 in
theorem gX0_changed_X0_bitOf : GoodIn wsX0_changed (va_wsS RX0 80 yX0_bitOf wsX0_bitOf) := goodIn_app (goodIn_of _ (by decide +kernel)) ggX0_changed_X0_bitOf
theorem dX0_changed_0 : decode cX0_changed 0 = .ok (.iload_n 2, 1) := by decide +kernel
theorem dX0_changed_1 : decode cX0_changed 1 = .ok (.ifCond .eq 12, 3) := by decide +kernel
theorem dX0_changed_4 : decode cX0_changed 4 = .ok (.iload_n 0, 1) := by decide +kernel
theorem dX0_changed_5 : decode cX0_changed 5 = .ok (.iload_n 1, 1) := by decide +kernel
theorem dX0_changed_6 : decode cX0_changed 6 = .ok (.invokestatic 80, 3) := by decide +kernel
theorem dX0_changed_9 : decode cX0_changed 9 = .ok (.ior, 1) := by decide +kernel
theorem dX0_changed_10 : decode cX0_changed 10 = .ok (.goto 11, 3) := by decide +kernel
theorem dX0_changed_13 : decode cX0_changed 13 = .ok (.iload_n 0, 1) := by decide +kernel
theorem dX0_changed_14 : decode cX0_changed 14 = .ok (.iload_n 1, 1) := by decide +kernel
theorem dX0_changed_15 : decode cX0_changed 15 = .ok (.invokestatic 80, 3) := by decide +kernel
theorem dX0_changed_18 : decode cX0_changed 18 = .ok (.iconst (-1), 1) := by decide +kernel
theorem dX0_changed_19 : decode cX0_changed 19 = .ok (.ixor, 1) := by decide +kernel
theorem dX0_changed_20 : decode cX0_changed 20 = .ok (.iand, 1) := by decide +kernel
theorem dX0_changed_21 : decode cX0_changed 21 = .ok (.ireturn, 1) := by decide +kernel
theorem dX0_devicesThatFulfil_0 : decode cX0_devicesThatFulfil 0 = .ok (.iload_n 1, 1) := by decide +kernel
theorem dX0_devicesThatFulfil_1 : decode cX0_devicesThatFulfil 1 = .ok (.lookupswitch 55 #[(0, 27), (1, 41)], 27) := by decide +kernel
theorem dX0_devicesThatFulfil_28 : decode cX0_devicesThatFulfil 28 = .ok (.aload_n 0, 1) := by decide +kernel
theorem dX0_devicesThatFulfil_29 : decode cX0_devicesThatFulfil 29 = .ok (.getfield 13, 3) := by decide +kernel
theorem dX0_devicesThatFulfil_32 : decode cX0_devicesThatFulfil 32 = .ok (.iload_n 2, 1) := by decide +kernel
theorem dX0_devicesThatFulfil_33 : decode cX0_devicesThatFulfil 33 = .ok (.iaload, 1) := by decide +kernel
theorem dX0_devicesThatFulfil_34 : decode cX0_devicesThatFulfil 34 = .ok (.aload_n 0, 1) := by decide +kernel
theorem dX0_devicesThatFulfil_35 : decode cX0_devicesThatFulfil 35 = .ok (.getfield 13, 3) := by decide +kernel
theorem dX0_devicesThatFulfil_38 : decode cX0_devicesThatFulfil 38 = .ok (.iload_n 3, 1) := by decide +kernel
theorem dX0_devicesThatFulfil_39 : decode cX0_devicesThatFulfil 39 = .ok (.iaload, 1) := by decide +kernel
theorem dX0_devicesThatFulfil_40 : decode cX0_devicesThatFulfil 40 = .ok (.iand, 1) := by decide +kernel
theorem dX0_devicesThatFulfil_41 : decode cX0_devicesThatFulfil 41 = .ok (.ireturn, 1) := by decide +kernel
theorem dX0_devicesThatFulfil_42 : decode cX0_devicesThatFulfil 42 = .ok (.aload_n 0, 1) := by decide +kernel
theorem dX0_devicesThatFulfil_43 : decode cX0_devicesThatFulfil 43 = .ok (.getfield 13, 3) := by decide +kernel
theorem dX0_devicesThatFulfil_46 : decode cX0_devicesThatFulfil 46 = .ok (.iload_n 2, 1) := by decide +kernel
theorem dX0_devicesThatFulfil_47 : decode cX0_devicesThatFulfil 47 = .ok (.iaload, 1) := by decide +kernel
theorem dX0_devicesThatFulfil_48 : decode cX0_devicesThatFulfil 48 = .ok (.aload_n 0, 1) := by decide +kernel
theorem dX0_devicesThatFulfil_49 : decode cX0_devicesThatFulfil 49 = .ok (.getfield 13, 3) := by decide +kernel
theorem dX0_devicesThatFulfil_52 : decode cX0_devicesThatFulfil 52 = .ok (.iload_n 3, 1) := by decide +kernel
theorem dX0_devicesThatFulfil_53 : decode cX0_devicesThatFulfil 53 = .ok (.iaload, 1) := by decide +kernel
theorem dX0_devicesThatFulfil_54 : decode cX0_devicesThatFulfil 54 = .ok (.ior, 1) := by decide +kernel
theorem dX0_devicesThatFulfil_55 : decode cX0_devicesThatFulfil 55 = .ok (.ireturn, 1) := by decide +kernel
theorem dX0_devicesThatFulfil_56 : decode cX0_devicesThatFulfil 56 = .ok (.aload_n 0, 1) := by decide +kernel
theorem dX0_devicesThatFulfil_57 : decode cX0_devicesThatFulfil 57 = .ok (.getfield 13, 3) := by decide +kernel
theorem dX0_devicesThatFulfil_60 : decode cX0_devicesThatFulfil 60 = .ok (.iload_n 2, 1) := by decide +kernel
theorem dX0_devicesThatFulfil_61 : decode cX0_devicesThatFulfil 61 = .ok (.iaload, 1) := by decide +kernel
theorem dX0_devicesThatFulfil_62 : decode cX0_devicesThatFulfil 62 = .ok (.aload_n 0, 1) := by decide +kernel
theorem dX0_devicesThatFulfil_63 : decode cX0_devicesThatFulfil 63 = .ok (.getfield 13, 3) := by decide +kernel
theorem dX0_devicesThatFulfil_66 : decode cX0_devicesThatFulfil 66 = .ok (.iload_n 3, 1) := by decide +kernel
theorem dX0_devicesThatFulfil_67 : decode cX0_devicesThatFulfil 67 = .ok (.iaload, 1) := by decide +kernel
theorem dX0_devicesThatFulfil_68 : decode cX0_devicesThatFulfil 68 = .ok (.iconst (-1), 1) := by decide +kernel
theorem dX0_devicesThatFulfil_69 : decode cX0_devicesThatFulfil 69 = .ok (.ixor, 1) := by decide +kernel
theorem dX0_devicesThatFulfil_70 : decode cX0_devicesThatFulfil 70 = .ok (.iand, 1) := by decide +kernel
theorem dX0_devicesThatFulfil_71 : decode cX0_devicesThatFulfil 71 = .ok (.ireturn, 1) := by decide +kernel
theorem dX0_placeOf_0 : decode cX0_placeOf 0 = .ok (.iload_n 0, 1) := by decide +kernel
theorem dX0_placeOf_1 : decode cX0_placeOf 1 = .ok (.bipush 10, 2) := by decide +kernel
theorem dX0_placeOf_3 : decode cX0_placeOf 3 = .ok (.imul, 1) := by decide +kernel
theorem dX0_placeOf_4 : decode cX0_placeOf 4 = .ok (.iload_n 1, 1) := by decide +kernel
theorem dX0_placeOf_5 : decode cX0_placeOf 5 = .ok (.iadd, 1) := by decide +kernel
theorem dX0_placeOf_6 : decode cX0_placeOf 6 = .ok (.ireturn, 1) := by decide +kernel
set_option maxRecDepth 20000 in
theorem ggX0_replaceKey_X0_placeOf : GoodIn wsX0_replaceKey wsX0_placeOf := goodIn_r _ [6] (by decide +kernel) (by decide +kernel)
set_option maxRecDepth 20000 in
theorem gX0_replaceKey_X0_placeOf : GoodIn wsX0_replaceKey (va_wsS RX0 143 yX0_placeOf wsX0_placeOf) := goodIn_app (goodIn_of _ (by decide +kernel)) ggX0_replaceKey_X0_placeOf
set_option maxRecDepth 20000 in
theorem ggX0_replaceKey_X0_isStanding : GoodIn wsX0_replaceKey wsX0_isStanding := goodIn_r _ [10, 11, 12, 17, 18, 19, 20, 21, 22, 23, 24, 25, 26, 27, 28, 29, 30, 31, 32, 33, 34, 35] (by decide +kernel) (by decide +kernel)
set_option maxRecDepth 20000 in
theorem gX0_replaceKey_X0_isStanding : GoodIn wsX0_replaceKey (wsV RX0 127 RX0 yX0_isStanding wsX0_isStanding) := goodIn_app (goodIn_of _ (by decide +kernel)) ggX0_replaceKey_X0_isStanding
set_option maxRecDepth 20000 in
theorem ggX0_replaceKey_X0_withdraw : GoodIn wsX0_replaceKey wsX0_withdraw := goodIn_r _ [16, 12, 11, 17, 18, 19, 20, 21, 22, 23, 24, 25, 26, 27, 28, 29, 30, 31, 32, 33, 34, 35] (by decide +kernel) (by decide +kernel)
set_option maxRecDepth 20000 in
theorem gX0_replaceKey_X0_withdraw : GoodIn wsX0_replaceKey (wsV RX0 140 RX0 yX0_withdraw wsX0_withdraw) := goodIn_app (goodIn_of _ (by decide +kernel)) ggX0_replaceKey_X0_withdraw
theorem dX0_replaceKey_0 : decode cX0_replaceKey 0 = .ok (.iload_n 1, 1) := by decide +kernel
theorem dX0_replaceKey_1 : decode cX0_replaceKey 1 = .ok (.iload_n 2, 1) := by decide +kernel
theorem dX0_replaceKey_2 : decode cX0_replaceKey 2 = .ok (.invokestatic 143, 3) := by decide +kernel
theorem dX0_replaceKey_5 : decode cX0_replaceKey 5 = .ok (.istore_n 3, 1) := by decide +kernel
theorem dX0_replaceKey_6 : decode cX0_replaceKey 6 = .ok (.aload_n 0, 1) := by decide +kernel
theorem dX0_replaceKey_7 : decode cX0_replaceKey 7 = .ok (.getfield 57, 3) := by decide +kernel
theorem dX0_replaceKey_10 : decode cX0_replaceKey 10 = .ok (.iload_n 3, 1) := by decide +kernel
theorem dX0_replaceKey_11 : decode cX0_replaceKey 11 = .ok (.iaload, 1) := by decide +kernel
theorem dX0_replaceKey_12 : decode cX0_replaceKey 12 = .ok (.istore 4, 2) := by decide +kernel
theorem dX0_replaceKey_14 : decode cX0_replaceKey 14 = .ok (.iload 4, 2) := by decide +kernel
theorem dX0_replaceKey_16 : decode cX0_replaceKey 16 = .ok (.iconst (-1), 1) := by decide +kernel
theorem dX0_replaceKey_17 : decode cX0_replaceKey 17 = .ok (.if_icmp .eq 18, 3) := by decide +kernel
theorem dX0_replaceKey_20 : decode cX0_replaceKey 20 = .ok (.aload_n 0, 1) := by decide +kernel
theorem dX0_replaceKey_21 : decode cX0_replaceKey 21 = .ok (.iload 4, 2) := by decide +kernel
theorem dX0_replaceKey_23 : decode cX0_replaceKey 23 = .ok (.invokevirtual 127, 3) := by decide +kernel
theorem dX0_replaceKey_26 : decode cX0_replaceKey 26 = .ok (.ifCond .eq 9, 3) := by decide +kernel
theorem dX0_replaceKey_29 : decode cX0_replaceKey 29 = .ok (.aload_n 0, 1) := by decide +kernel
theorem dX0_replaceKey_30 : decode cX0_replaceKey 30 = .ok (.iload 4, 2) := by decide +kernel
theorem dX0_replaceKey_32 : decode cX0_replaceKey 32 = .ok (.invokevirtual 140, 3) := by decide +kernel
theorem dX0_replaceKey_35 : decode cX0_replaceKey 35 = .ok (.aload_n 0, 1) := by decide +kernel
theorem dX0_replaceKey_36 : decode cX0_replaceKey 36 = .ok (.getfield 57, 3) := by decide +kernel
theorem dX0_replaceKey_39 : decode cX0_replaceKey 39 = .ok (.iload_n 3, 1) := by decide +kernel
theorem dX0_replaceKey_40 : decode cX0_replaceKey 40 = .ok (.aload_n 0, 1) := by decide +kernel
theorem dX0_replaceKey_41 : decode cX0_replaceKey 41 = .ok (.getfield 60, 3) := by decide +kernel
theorem dX0_replaceKey_44 : decode cX0_replaceKey 44 = .ok (.iastore, 1) := by decide +kernel
theorem dX0_replaceKey_45 : decode cX0_replaceKey 45 = .ok (.return_, 1) := by decide +kernel
set_option maxRecDepth 20000 in
theorem ggX0_sendTo_X0_deliverNow : GoodIn wsX0_sendTo wsX0_deliverNow := goodIn_r _ [11, 12, 1, 2, 13, 14, 15, 10, 16, 4, 17, 18, 19, 20, 21, 22, 23, 24, 25, 26, 27, 28, 29, 30, 31, 32, 33, 34, 35, 36, 37, 38, 39, 40, 41, 42, 43, 44, 5, 45, 46, 47, 48, 3, 49, 50, 51, 52, 53, 54, 55, 56, 57, 58, 59, 60, 61, 62, 63, 64, 65, 66, 67, 68, 69, 70, 71, 72, 73, 74, 75, 76, 77, 78, 79, 80, 81, 82, 83, 84, 85, 86, 87, 88, 89, 90, 91, 92, 93, 94, 95, 96] (by decide +kernel) (by decide +kernel)
set_option maxRecDepth 20000 in
theorem gX0_sendTo_X0_deliverNow : GoodIn wsX0_sendTo (wsV RX0 92 RX0 yX0_deliverNow wsX0_deliverNow) := goodIn_app (goodIn_of _ (by decide +kernel)) ggX0_sendTo_X0_deliverNow
theorem dX0_sendTo_0 : decode cX0_sendTo 0 = .ok (.aload_n 0, 1) := by decide +kernel
theorem dX0_sendTo_1 : decode cX0_sendTo 1 = .ok (.getfield 60, 3) := by decide +kernel
theorem dX0_sendTo_4 : decode cX0_sendTo 4 = .ok (.istore 4, 2) := by decide +kernel
theorem dX0_sendTo_6 : decode cX0_sendTo 6 = .ok (.aload_n 0, 1) := by decide +kernel
theorem dX0_sendTo_7 : decode cX0_sendTo 7 = .ok (.dup, 1) := by decide +kernel
theorem dX0_sendTo_8 : decode cX0_sendTo 8 = .ok (.getfield 60, 3) := by decide +kernel
theorem dX0_sendTo_11 : decode cX0_sendTo 11 = .ok (.iconst 1, 1) := by decide +kernel
theorem dX0_sendTo_12 : decode cX0_sendTo 12 = .ok (.iadd, 1) := by decide +kernel
theorem dX0_sendTo_13 : decode cX0_sendTo 13 = .ok (.putfield 60, 3) := by decide +kernel
theorem dX0_sendTo_16 : decode cX0_sendTo 16 = .ok (.aload_n 0, 1) := by decide +kernel
theorem dX0_sendTo_17 : decode cX0_sendTo 17 = .ok (.getfield 44, 3) := by decide +kernel
theorem dX0_sendTo_20 : decode cX0_sendTo 20 = .ok (.iload 4, 2) := by decide +kernel
theorem dX0_sendTo_22 : decode cX0_sendTo 22 = .ok (.iload_n 2, 1) := by decide +kernel
theorem dX0_sendTo_23 : decode cX0_sendTo 23 = .ok (.bastore, 1) := by decide +kernel
theorem dX0_sendTo_24 : decode cX0_sendTo 24 = .ok (.aload_n 0, 1) := by decide +kernel
theorem dX0_sendTo_25 : decode cX0_sendTo 25 = .ok (.getfield 48, 3) := by decide +kernel
theorem dX0_sendTo_28 : decode cX0_sendTo 28 = .ok (.iload 4, 2) := by decide +kernel
theorem dX0_sendTo_30 : decode cX0_sendTo 30 = .ok (.aload_n 0, 1) := by decide +kernel
theorem dX0_sendTo_31 : decode cX0_sendTo 31 = .ok (.getfield 63, 3) := by decide +kernel
theorem dX0_sendTo_34 : decode cX0_sendTo 34 = .ok (.iload_n 3, 1) := by decide +kernel
theorem dX0_sendTo_35 : decode cX0_sendTo 35 = .ok (.iadd, 1) := by decide +kernel
theorem dX0_sendTo_36 : decode cX0_sendTo 36 = .ok (.iastore, 1) := by decide +kernel
theorem dX0_sendTo_37 : decode cX0_sendTo 37 = .ok (.aload_n 0, 1) := by decide +kernel
theorem dX0_sendTo_38 : decode cX0_sendTo 38 = .ok (.getfield 51, 3) := by decide +kernel
theorem dX0_sendTo_41 : decode cX0_sendTo 41 = .ok (.iload 4, 2) := by decide +kernel
theorem dX0_sendTo_43 : decode cX0_sendTo 43 = .ok (.iload_n 1, 1) := by decide +kernel
theorem dX0_sendTo_44 : decode cX0_sendTo 44 = .ok (.aload_n 0, 1) := by decide +kernel
theorem dX0_sendTo_45 : decode cX0_sendTo 45 = .ok (.getfield 16, 3) := by decide +kernel
theorem dX0_sendTo_48 : decode cX0_sendTo 48 = .ok (.iand, 1) := by decide +kernel
theorem dX0_sendTo_49 : decode cX0_sendTo 49 = .ok (.iastore, 1) := by decide +kernel
theorem dX0_sendTo_50 : decode cX0_sendTo 50 = .ok (.aload_n 0, 1) := by decide +kernel
theorem dX0_sendTo_51 : decode cX0_sendTo 51 = .ok (.invokevirtual 92, 3) := by decide +kernel
theorem dX0_sendTo_54 : decode cX0_sendTo 54 = .ok (.pop, 1) := by decide +kernel
theorem dX0_sendTo_55 : decode cX0_sendTo 55 = .ok (.iload 4, 2) := by decide +kernel
theorem dX0_sendTo_57 : decode cX0_sendTo 57 = .ok (.ireturn, 1) := by decide +kernel
theorem dX0_withdraw_0 : decode cX0_withdraw 0 = .ok (.aload_n 0, 1) := by decide +kernel
theorem dX0_withdraw_1 : decode cX0_withdraw 1 = .ok (.getfield 48, 3) := by decide +kernel
theorem dX0_withdraw_4 : decode cX0_withdraw 4 = .ok (.iload_n 1, 1) := by decide +kernel
theorem dX0_withdraw_5 : decode cX0_withdraw 5 = .ok (.aload_n 0, 1) := by decide +kernel
theorem dX0_withdraw_6 : decode cX0_withdraw 6 = .ok (.getfield 63, 3) := by decide +kernel
theorem dX0_withdraw_9 : decode cX0_withdraw 9 = .ok (.iastore, 1) := by decide +kernel
theorem dX0_withdraw_10 : decode cX0_withdraw 10 = .ok (.return_, 1) := by decide +kernel
theorem dX0_isStanding_0 : decode cX0_isStanding 0 = .ok (.aload_n 0, 1) := by decide +kernel
theorem dX0_isStanding_1 : decode cX0_isStanding 1 = .ok (.getfield 63, 3) := by decide +kernel
theorem dX0_isStanding_4 : decode cX0_isStanding 4 = .ok (.aload_n 0, 1) := by decide +kernel
theorem dX0_isStanding_5 : decode cX0_isStanding 5 = .ok (.getfield 48, 3) := by decide +kernel
theorem dX0_isStanding_8 : decode cX0_isStanding 8 = .ok (.iload_n 1, 1) := by decide +kernel
theorem dX0_isStanding_9 : decode cX0_isStanding 9 = .ok (.iaload, 1) := by decide +kernel
theorem dX0_isStanding_10 : decode cX0_isStanding 10 = .ok (.if_icmp .ge 7, 3) := by decide +kernel
theorem dX0_isStanding_13 : decode cX0_isStanding 13 = .ok (.iconst 1, 1) := by decide +kernel
theorem dX0_isStanding_14 : decode cX0_isStanding 14 = .ok (.goto 4, 3) := by decide +kernel
theorem dX0_isStanding_17 : decode cX0_isStanding 17 = .ok (.iconst 0, 1) := by decide +kernel
theorem dX0_isStanding_18 : decode cX0_isStanding 18 = .ok (.ireturn, 1) := by decide +kernel
set_option maxRecDepth 20000 in
theorem ggX0_waitsNow_X0_isStanding : GoodIn wsX0_waitsNow wsX0_isStanding := goodIn_r _ [6, 7, 8, 9, 10, 11, 12, 13, 14, 15, 16, 17, 18, 19, 20, 21, 22, 23, 24, 25, 26, 27] (by decide +kernel) (by decide +kernel)
set_option maxRecDepth 20000 in
theorem gX0_waitsNow_X0_isStanding : GoodIn wsX0_waitsNow (wsV RX0 127 RX0 yX0_isStanding wsX0_isStanding) := goodIn_app (goodIn_of _ (by decide +kernel)) ggX0_waitsNow_X0_isStanding
theorem dX0_waitsNow_0 : decode cX0_waitsNow 0 = .ok (.aload_n 0, 1) := by decide +kernel
theorem dX0_waitsNow_1 : decode cX0_waitsNow 1 = .ok (.iload_n 1, 1) := by decide +kernel
theorem dX0_waitsNow_2 : decode cX0_waitsNow 2 = .ok (.invokevirtual 127, 3) := by decide +kernel
theorem dX0_waitsNow_5 : decode cX0_waitsNow 5 = .ok (.ifCond .eq 12, 3) := by decide +kernel
theorem dX0_waitsNow_8 : decode cX0_waitsNow 8 = .ok (.aload_n 0, 1) := by decide +kernel
theorem dX0_waitsNow_9 : decode cX0_waitsNow 9 = .ok (.getfield 51, 3) := by decide +kernel
theorem dX0_waitsNow_12 : decode cX0_waitsNow 12 = .ok (.iload_n 1, 1) := by decide +kernel
theorem dX0_waitsNow_13 : decode cX0_waitsNow 13 = .ok (.iaload, 1) := by decide +kernel
theorem dX0_waitsNow_14 : decode cX0_waitsNow 14 = .ok (.goto 4, 3) := by decide +kernel
theorem dX0_waitsNow_17 : decode cX0_waitsNow 17 = .ok (.iconst 0, 1) := by decide +kernel
theorem dX0_waitsNow_18 : decode cX0_waitsNow 18 = .ok (.ireturn, 1) := by decide +kernel
set_option maxRecDepth 20000 in
theorem ggX0_countWaiting_X0_waitsNow : GoodIn wsX0_countWaiting wsX0_waitsNow := goodIn_r _ [6, 7, 8, 9, 10, 5, 11, 12, 13, 20, 21, 22, 23, 24, 25, 26, 27, 28, 29, 30, 31, 32, 33, 34, 35, 36, 37, 38] (by decide +kernel) (by decide +kernel)
set_option maxRecDepth 20000 in
theorem gX0_countWaiting_X0_waitsNow : GoodIn wsX0_countWaiting (wsV RX0 132 RX0 yX0_waitsNow wsX0_waitsNow) := goodIn_app (goodIn_of _ (by decide +kernel)) ggX0_countWaiting_X0_waitsNow
set_option maxRecDepth 20000 in
theorem ggX0_countWaiting_X0_has : GoodIn wsX0_countWaiting wsX0_has := goodIn_r _ [16, 17, 18, 5, 19] (by decide +kernel) (by decide +kernel)
set_option maxRecDepth 20000 in
theorem gX0_countWaiting_X0_has : GoodIn wsX0_countWaiting (va_wsS RX0 96 yX0_has wsX0_has) := goodIn_app (goodIn_of _ (by decide +kernel)) ggX0_countWaiting_X0_has
theorem dX0_countWaiting_0 : decode cX0_countWaiting 0 = .ok (.iconst 0, 1) := by decide +kernel
theorem dX0_countWaiting_1 : decode cX0_countWaiting 1 = .ok (.istore_n 2, 1) := by decide +kernel
theorem dX0_countWaiting_2 : decode cX0_countWaiting 2 = .ok (.iconst 0, 1) := by decide +kernel
theorem dX0_countWaiting_3 : decode cX0_countWaiting 3 = .ok (.istore_n 3, 1) := by decide +kernel
theorem dX0_countWaiting_4 : decode cX0_countWaiting 4 = .ok (.iload_n 3, 1) := by decide +kernel
theorem dX0_countWaiting_5 : decode cX0_countWaiting 5 = .ok (.aload_n 0, 1) := by decide +kernel
theorem dX0_countWaiting_6 : decode cX0_countWaiting 6 = .ok (.getfield 60, 3) := by decide +kernel
theorem dX0_countWaiting_9 : decode cX0_countWaiting 9 = .ok (.if_icmp .ge 24, 3) := by decide +kernel
theorem dX0_countWaiting_12 : decode cX0_countWaiting 12 = .ok (.aload_n 0, 1) := by decide +kernel
theorem dX0_countWaiting_13 : decode cX0_countWaiting 13 = .ok (.iload_n 3, 1) := by decide +kernel
theorem dX0_countWaiting_14 : decode cX0_countWaiting 14 = .ok (.invokevirtual 132, 3) := by decide +kernel
theorem dX0_countWaiting_17 : decode cX0_countWaiting 17 = .ok (.iload_n 1, 1) := by decide +kernel
theorem dX0_countWaiting_18 : decode cX0_countWaiting 18 = .ok (.invokestatic 96, 3) := by decide +kernel
theorem dX0_countWaiting_21 : decode cX0_countWaiting 21 = .ok (.ifCond .eq 6, 3) := by decide +kernel
theorem dX0_countWaiting_24 : decode cX0_countWaiting 24 = .ok (.iinc 2 1, 3) := by decide +kernel
theorem dX0_countWaiting_27 : decode cX0_countWaiting 27 = .ok (.iinc 3 1, 3) := by decide +kernel
theorem dX0_countWaiting_30 : decode cX0_countWaiting 30 = .ok (.goto (-26), 3) := by decide +kernel
theorem dX0_countWaiting_33 : decode cX0_countWaiting 33 = .ok (.iload_n 2, 1) := by decide +kernel
theorem dX0_countWaiting_34 : decode cX0_countWaiting 34 = .ok (.ireturn, 1) := by decide +kernel
set_option maxRecDepth 20000 in
theorem ggX0_localTime_J9_floorMod_7cf53 : GoodIn wsX0_localTime wsJ9_floorMod_7cf53 := goodIn_r _ [6] (by decide +kernel) (by decide +kernel)
set_option maxRecDepth 20000 in
theorem gX0_localTime_J9_floorMod_7cf53 : GoodIn wsX0_localTime (va_wsS RX0 175 yJ9_floorMod_7cf53 wsJ9_floorMod_7cf53) := goodIn_app (goodIn_of _ (by decide +kernel)) ggX0_localTime_J9_floorMod_7cf53
theorem dX0_localTime_0 : decode cX0_localTime 0 = .ok (.aload_n 0, 1) := by decide +kernel
theorem dX0_localTime_1 : decode cX0_localTime 1 = .ok (.getfield 63, 3) := by decide +kernel
theorem dX0_localTime_4 : decode cX0_localTime 4 = .ok (.aload_n 0, 1) := by decide +kernel
theorem dX0_localTime_5 : decode cX0_localTime 5 = .ok (.getfield 26, 3) := by decide +kernel
theorem dX0_localTime_8 : decode cX0_localTime 8 = .ok (.iload_n 1, 1) := by decide +kernel
theorem dX0_localTime_9 : decode cX0_localTime 9 = .ok (.iaload, 1) := by decide +kernel
theorem dX0_localTime_10 : decode cX0_localTime 10 = .ok (.iadd, 1) := by decide +kernel
theorem dX0_localTime_11 : decode cX0_localTime 11 = .ok (.sipush 1440, 3) := by decide +kernel
theorem dX0_localTime_14 : decode cX0_localTime 14 = .ok (.invokestatic 175, 3) := by decide +kernel
theorem dX0_localTime_17 : decode cX0_localTime 17 = .ok (.ireturn, 1) := by decide +kernel
set_option maxRecDepth 20000 in
theorem ggX0_isInQuietHours_X0_localTime : GoodIn wsX0_isInQuietHours wsX0_localTime := goodIn_r _ [7, 8, 9, 10, 11, 12, 13, 14, 15, 16, 17, 18, 19, 20, 21, 22, 23, 24, 25, 26, 27, 28, 29, 30, 31, 32] (by decide +kernel) (by decide +kernel)
set_option maxRecDepth 20000 in
theorem gX0_isInQuietHours_X0_localTime : GoodIn wsX0_isInQuietHours (wsV RX0 178 RX0 yX0_localTime wsX0_localTime) := goodIn_app (goodIn_of _ (by decide +kernel)) ggX0_isInQuietHours_X0_localTime
set_option maxRecDepth 20000 in
theorem ggX0_isInQuietHours_J9_floorMod_7cf53 : GoodIn wsX0_isInQuietHours wsJ9_floorMod_7cf53 := goodIn_r _ [13] (by decide +kernel) (by decide +kernel)
set_option maxRecDepth 20000 in
theorem gX0_isInQuietHours_J9_floorMod_7cf53 : GoodIn wsX0_isInQuietHours (va_wsS RX0 175 yJ9_floorMod_7cf53 wsJ9_floorMod_7cf53) := goodIn_app (goodIn_of _ (by decide +kernel)) ggX0_isInQuietHours_J9_floorMod_7cf53
theorem dX0_isInQuietHours_0 : decode cX0_isInQuietHours 0 = .ok (.aload_n 0, 1) := by decide +kernel
theorem dX0_isInQuietHours_1 : decode cX0_isInQuietHours 1 = .ok (.iload_n 1, 1) := by decide +kernel
theorem dX0_isInQuietHours_2 : decode cX0_isInQuietHours 2 = .ok (.invokevirtual 178, 3) := by decide +kernel
theorem dX0_isInQuietHours_5 : decode cX0_isInQuietHours 5 = .ok (.aload_n 0, 1) := by decide +kernel
theorem dX0_isInQuietHours_6 : decode cX0_isInQuietHours 6 = .ok (.getfield 29, 3) := by decide +kernel
theorem dX0_isInQuietHours_9 : decode cX0_isInQuietHours 9 = .ok (.iload_n 1, 1) := by decide +kernel
theorem dX0_isInQuietHours_10 : decode cX0_isInQuietHours 10 = .ok (.iaload, 1) := by decide +kernel
theorem dX0_isInQuietHours_11 : decode cX0_isInQuietHours 11 = .ok (.isub, 1) := by decide +kernel
theorem dX0_isInQuietHours_12 : decode cX0_isInQuietHours 12 = .ok (.sipush 1440, 3) := by decide +kernel
theorem dX0_isInQuietHours_15 : decode cX0_isInQuietHours 15 = .ok (.invokestatic 175, 3) := by decide +kernel
theorem dX0_isInQuietHours_18 : decode cX0_isInQuietHours 18 = .ok (.istore_n 2, 1) := by decide +kernel
theorem dX0_isInQuietHours_19 : decode cX0_isInQuietHours 19 = .ok (.aload_n 0, 1) := by decide +kernel
theorem dX0_isInQuietHours_20 : decode cX0_isInQuietHours 20 = .ok (.getfield 32, 3) := by decide +kernel
theorem dX0_isInQuietHours_23 : decode cX0_isInQuietHours 23 = .ok (.iload_n 1, 1) := by decide +kernel
theorem dX0_isInQuietHours_24 : decode cX0_isInQuietHours 24 = .ok (.iaload, 1) := by decide +kernel
theorem dX0_isInQuietHours_25 : decode cX0_isInQuietHours 25 = .ok (.aload_n 0, 1) := by decide +kernel
theorem dX0_isInQuietHours_26 : decode cX0_isInQuietHours 26 = .ok (.getfield 29, 3) := by decide +kernel
theorem dX0_isInQuietHours_29 : decode cX0_isInQuietHours 29 = .ok (.iload_n 1, 1) := by decide +kernel
theorem dX0_isInQuietHours_30 : decode cX0_isInQuietHours 30 = .ok (.iaload, 1) := by decide +kernel
theorem dX0_isInQuietHours_31 : decode cX0_isInQuietHours 31 = .ok (.isub, 1) := by decide +kernel
theorem dX0_isInQuietHours_32 : decode cX0_isInQuietHours 32 = .ok (.sipush 1440, 3) := by decide +kernel
theorem dX0_isInQuietHours_35 : decode cX0_isInQuietHours 35 = .ok (.invokestatic 175, 3) := by decide +kernel
theorem dX0_isInQuietHours_38 : decode cX0_isInQuietHours 38 = .ok (.istore_n 3, 1) := by decide +kernel
theorem dX0_isInQuietHours_39 : decode cX0_isInQuietHours 39 = .ok (.iload_n 2, 1) := by decide +kernel
theorem dX0_isInQuietHours_40 : decode cX0_isInQuietHours 40 = .ok (.iload_n 3, 1) := by decide +kernel
theorem dX0_isInQuietHours_41 : decode cX0_isInQuietHours 41 = .ok (.if_icmp .ge 7, 3) := by decide +kernel
theorem dX0_isInQuietHours_44 : decode cX0_isInQuietHours 44 = .ok (.iconst 1, 1) := by decide +kernel
theorem dX0_isInQuietHours_45 : decode cX0_isInQuietHours 45 = .ok (.goto 4, 3) := by decide +kernel
theorem dX0_isInQuietHours_48 : decode cX0_isInQuietHours 48 = .ok (.iconst 0, 1) := by decide +kernel
theorem dX0_isInQuietHours_49 : decode cX0_isInQuietHours 49 = .ok (.ireturn, 1) := by decide +kernel
theorem dX0_spentToday_0 : decode cX0_spentToday 0 = .ok (.aload_n 0, 1) := by decide +kernel
theorem dX0_spentToday_1 : decode cX0_spentToday 1 = .ok (.getfield 35, 3) := by decide +kernel
theorem dX0_spentToday_4 : decode cX0_spentToday 4 = .ok (.iload_n 1, 1) := by decide +kernel
theorem dX0_spentToday_5 : decode cX0_spentToday 5 = .ok (.iaload, 1) := by decide +kernel
theorem dX0_spentToday_6 : decode cX0_spentToday 6 = .ok (.aload_n 0, 1) := by decide +kernel
theorem dX0_spentToday_7 : decode cX0_spentToday 7 = .ok (.getfield 63, 3) := by decide +kernel
theorem dX0_spentToday_10 : decode cX0_spentToday 10 = .ok (.sipush 1440, 3) := by decide +kernel
theorem dX0_spentToday_13 : decode cX0_spentToday 13 = .ok (.idiv, 1) := by decide +kernel
theorem dX0_spentToday_14 : decode cX0_spentToday 14 = .ok (.if_icmp .ne 12, 3) := by decide +kernel
theorem dX0_spentToday_17 : decode cX0_spentToday 17 = .ok (.aload_n 0, 1) := by decide +kernel
theorem dX0_spentToday_18 : decode cX0_spentToday 18 = .ok (.getfield 38, 3) := by decide +kernel
theorem dX0_spentToday_21 : decode cX0_spentToday 21 = .ok (.iload_n 1, 1) := by decide +kernel
theorem dX0_spentToday_22 : decode cX0_spentToday 22 = .ok (.iaload, 1) := by decide +kernel
theorem dX0_spentToday_23 : decode cX0_spentToday 23 = .ok (.goto 4, 3) := by decide +kernel
theorem dX0_spentToday_26 : decode cX0_spentToday 26 = .ok (.iconst 0, 1) := by decide +kernel
theorem dX0_spentToday_27 : decode cX0_spentToday 27 = .ok (.ireturn, 1) := by decide +kernel
set_option maxRecDepth 20000 in
theorem ggX0_spendQuota_X0_has : GoodIn wsX0_spendQuota wsX0_has := goodIn_r _ [8, 9, 10, 7, 11] (by decide +kernel) (by decide +kernel)
set_option maxRecDepth 20000 in
theorem gX0_spendQuota_X0_has : GoodIn wsX0_spendQuota (va_wsS RX0 96 yX0_has wsX0_has) := goodIn_app (goodIn_of _ (by decide +kernel)) ggX0_spendQuota_X0_has
set_option maxRecDepth 20000 in
theorem ggX0_spendQuota_X0_spentToday : GoodIn wsX0_spendQuota wsX0_spentToday := goodIn_r _ [15, 3, 4, 2, 16, 17, 18, 19, 20, 21, 22, 23, 24, 25, 26, 27, 28, 29, 30, 31, 32, 33, 34] (by decide +kernel) (by decide +kernel)
set_option maxRecDepth 20000 in
theorem gX0_spendQuota_X0_spentToday : GoodIn wsX0_spendQuota (wsV RX0 147 RX0 yX0_spentToday wsX0_spentToday) := goodIn_app (goodIn_of _ (by decide +kernel)) ggX0_spendQuota_X0_spentToday
theorem dX0_spendQuota_0 : decode cX0_spendQuota 0 = .ok (.iconst 0, 1) := by decide +kernel
theorem dX0_spendQuota_1 : decode cX0_spendQuota 1 = .ok (.istore_n 2, 1) := by decide +kernel
theorem dX0_spendQuota_2 : decode cX0_spendQuota 2 = .ok (.iload_n 2, 1) := by decide +kernel
theorem dX0_spendQuota_3 : decode cX0_spendQuota 3 = .ok (.aload_n 0, 1) := by decide +kernel
theorem dX0_spendQuota_4 : decode cX0_spendQuota 4 = .ok (.getfield 41, 3) := by decide +kernel
theorem dX0_spendQuota_7 : decode cX0_spendQuota 7 = .ok (.if_icmp .ge 44, 3) := by decide +kernel
theorem dX0_spendQuota_10 : decode cX0_spendQuota 10 = .ok (.iload_n 1, 1) := by decide +kernel
theorem dX0_spendQuota_11 : decode cX0_spendQuota 11 = .ok (.iload_n 2, 1) := by decide +kernel
theorem dX0_spendQuota_12 : decode cX0_spendQuota 12 = .ok (.invokestatic 96, 3) := by decide +kernel
theorem dX0_spendQuota_15 : decode cX0_spendQuota 15 = .ok (.ifCond .eq 30, 3) := by decide +kernel
theorem dX0_spendQuota_18 : decode cX0_spendQuota 18 = .ok (.aload_n 0, 1) := by decide +kernel
theorem dX0_spendQuota_19 : decode cX0_spendQuota 19 = .ok (.getfield 38, 3) := by decide +kernel
theorem dX0_spendQuota_22 : decode cX0_spendQuota 22 = .ok (.iload_n 2, 1) := by decide +kernel
theorem dX0_spendQuota_23 : decode cX0_spendQuota 23 = .ok (.aload_n 0, 1) := by decide +kernel
theorem dX0_spendQuota_24 : decode cX0_spendQuota 24 = .ok (.iload_n 2, 1) := by decide +kernel
theorem dX0_spendQuota_25 : decode cX0_spendQuota 25 = .ok (.invokevirtual 147, 3) := by decide +kernel
theorem dX0_spendQuota_28 : decode cX0_spendQuota 28 = .ok (.iconst 1, 1) := by decide +kernel
theorem dX0_spendQuota_29 : decode cX0_spendQuota 29 = .ok (.iadd, 1) := by decide +kernel
theorem dX0_spendQuota_30 : decode cX0_spendQuota 30 = .ok (.iastore, 1) := by decide +kernel
theorem dX0_spendQuota_31 : decode cX0_spendQuota 31 = .ok (.aload_n 0, 1) := by decide +kernel
theorem dX0_spendQuota_32 : decode cX0_spendQuota 32 = .ok (.getfield 35, 3) := by decide +kernel
theorem dX0_spendQuota_35 : decode cX0_spendQuota 35 = .ok (.iload_n 2, 1) := by decide +kernel
theorem dX0_spendQuota_36 : decode cX0_spendQuota 36 = .ok (.aload_n 0, 1) := by decide +kernel
theorem dX0_spendQuota_37 : decode cX0_spendQuota 37 = .ok (.getfield 63, 3) := by decide +kernel
theorem dX0_spendQuota_40 : decode cX0_spendQuota 40 = .ok (.sipush 1440, 3) := by decide +kernel
theorem dX0_spendQuota_43 : decode cX0_spendQuota 43 = .ok (.idiv, 1) := by decide +kernel
theorem dX0_spendQuota_44 : decode cX0_spendQuota 44 = .ok (.iastore, 1) := by decide +kernel
theorem dX0_spendQuota_45 : decode cX0_spendQuota 45 = .ok (.iinc 2 1, 3) := by decide +kernel
theorem dX0_spendQuota_48 : decode cX0_spendQuota 48 = .ok (.goto (-46), 3) := by decide +kernel
theorem dX0_spendQuota_51 : decode cX0_spendQuota 51 = .ok (.return_, 1) := by decide +kernel
set_option maxRecDepth 20000 in
theorem ggX0_deliverNow_X0_openToNormal : GoodIn wsX0_deliverNow wsX0_openToNormal := goodIn_r _ [8, 9, 10, 11, 12, 13, 14, 15, 7, 16, 17, 18, 19, 20, 21, 22, 23, 24, 25, 26, 27, 28, 29, 30, 31, 32, 33, 73, 74, 75, 76, 77, 78, 79, 80, 81, 82, 83, 84, 85, 86, 87, 88, 89, 90, 91] (by decide +kernel) (by decide +kernel)
set_option maxRecDepth 20000 in
theorem gX0_deliverNow_X0_openToNormal : GoodIn wsX0_deliverNow (wsV RX0 181 RX0 yX0_openToNormal wsX0_openToNormal) := goodIn_app (goodIn_of _ (by decide +kernel)) ggX0_deliverNow_X0_openToNormal
set_option maxRecDepth 20000 in
theorem ggX0_deliverNow_X0_waitsNow : GoodIn wsX0_deliverNow wsX0_waitsNow := goodIn_r _ [37, 38, 39, 40, 41, 7, 42, 9, 43, 73, 74, 75, 76, 77, 78, 79, 80, 81, 82, 83, 84, 85, 86, 87, 88, 89, 90, 91] (by decide +kernel) (by decide +kernel)
end
section
set_option maxRecDepth 20000 in
theorem gX0_deliverNow_X0_waitsNow : GoodIn wsX0_deliverNow (wsV RX0 132 RX0 yX0_waitsNow wsX0_waitsNow) := goodIn_app (goodIn_of _ (by decide +kernel)) ggX0_deliverNow_X0_waitsNow
set_option maxRecDepth 20000 in
theorem ggX0_deliverNow_X0_openToHigh : GoodIn wsX0_deliverNow wsX0_openToHigh := goodIn_r _ [47, 10, 12, 11, 48, 49, 7, 50, 31, 32, 33, 51, 52, 53, 54, 55, 9, 56, 28, 29, 30, 73, 74, 75, 76, 77, 78, 79, 80, 81, 82, 83, 84, 85, 86, 87, 88, 89, 90, 91] (by decide +kernel) (by decide +kernel)
set_option maxRecDepth 20000 in
theorem gX0_deliverNow_X0_openToHigh : GoodIn wsX0_deliverNow (wsV RX0 184 RX0 yX0_openToHigh wsX0_openToHigh) := goodIn_app (goodIn_of _ (by decide +kernel)) ggX0_deliverNow_X0_openToHigh
set_option maxRecDepth 20000 in
theorem ggX0_deliverNow_X0_deliver : GoodIn wsX0_deliverNow wsX0_deliver := goodIn_r _ [60, 38, 61, 1, 3, 11, 62, 63, 64, 65, 66, 67, 68, 69, 70, 71, 7, 72, 12, 56, 55, 9, 48, 49, 50, 31, 32, 33, 51, 52, 53, 54, 73, 74, 75, 76, 77, 78, 79, 80, 81, 82, 83, 84, 85, 86, 87, 88, 89, 90, 91] (by decide +kernel) (by decide +kernel)
set_option maxRecDepth 20000 in
theorem gX0_deliverNow_X0_deliver : GoodIn wsX0_deliverNow (wsV RX0 187 RX0 yX0_deliver wsX0_deliver) := goodIn_app (goodIn_of _ (by decide +kernel)) ggX0_deliverNow_X0_deliver
theorem dX0_deliverNow_0 : decode cX0_deliverNow 0 = .ok (.aload_n 0, 1) := by decide +kernel
theorem dX0_deliverNow_1 : decode cX0_deliverNow 1 = .ok (.getfield 66, 3) := by decide +kernel
theorem dX0_deliverNow_4 : decode cX0_deliverNow 4 = .ok (.istore_n 1, 1) := by decide +kernel
theorem dX0_deliverNow_5 : decode cX0_deliverNow 5 = .ok (.aload_n 0, 1) := by decide +kernel
theorem dX0_deliverNow_6 : decode cX0_deliverNow 6 = .ok (.invokevirtual 181, 3) := by decide +kernel
theorem dX0_deliverNow_9 : decode cX0_deliverNow 9 = .ok (.istore_n 2, 1) := by decide +kernel
theorem dX0_deliverNow_10 : decode cX0_deliverNow 10 = .ok (.iconst 0, 1) := by decide +kernel
theorem dX0_deliverNow_11 : decode cX0_deliverNow 11 = .ok (.istore_n 3, 1) := by decide +kernel
theorem dX0_deliverNow_12 : decode cX0_deliverNow 12 = .ok (.iload_n 3, 1) := by decide +kernel
theorem dX0_deliverNow_13 : decode cX0_deliverNow 13 = .ok (.aload_n 0, 1) := by decide +kernel
theorem dX0_deliverNow_14 : decode cX0_deliverNow 14 = .ok (.getfield 60, 3) := by decide +kernel
theorem dX0_deliverNow_17 : decode cX0_deliverNow 17 = .ok (.if_icmp .ge 46, 3) := by decide +kernel
theorem dX0_deliverNow_20 : decode cX0_deliverNow 20 = .ok (.aload_n 0, 1) := by decide +kernel
theorem dX0_deliverNow_21 : decode cX0_deliverNow 21 = .ok (.iload_n 3, 1) := by decide +kernel
theorem dX0_deliverNow_22 : decode cX0_deliverNow 22 = .ok (.invokevirtual 132, 3) := by decide +kernel
theorem dX0_deliverNow_25 : decode cX0_deliverNow 25 = .ok (.istore 4, 2) := by decide +kernel
theorem dX0_deliverNow_27 : decode cX0_deliverNow 27 = .ok (.iload 4, 2) := by decide +kernel
theorem dX0_deliverNow_29 : decode cX0_deliverNow 29 = .ok (.ifCond .eq 28, 3) := by decide +kernel
theorem dX0_deliverNow_32 : decode cX0_deliverNow 32 = .ok (.aload_n 0, 1) := by decide +kernel
theorem dX0_deliverNow_33 : decode cX0_deliverNow 33 = .ok (.iload_n 3, 1) := by decide +kernel
theorem dX0_deliverNow_34 : decode cX0_deliverNow 34 = .ok (.iload 4, 2) := by decide +kernel
theorem dX0_deliverNow_36 : decode cX0_deliverNow 36 = .ok (.aload_n 0, 1) := by decide +kernel
theorem dX0_deliverNow_37 : decode cX0_deliverNow 37 = .ok (.getfield 44, 3) := by decide +kernel
theorem dX0_deliverNow_40 : decode cX0_deliverNow 40 = .ok (.iload_n 3, 1) := by decide +kernel
theorem dX0_deliverNow_41 : decode cX0_deliverNow 41 = .ok (.baload, 1) := by decide +kernel
theorem dX0_deliverNow_42 : decode cX0_deliverNow 42 = .ok (.ifCond .eq 10, 3) := by decide +kernel
theorem dX0_deliverNow_45 : decode cX0_deliverNow 45 = .ok (.aload_n 0, 1) := by decide +kernel
theorem dX0_deliverNow_46 : decode cX0_deliverNow 46 = .ok (.invokevirtual 184, 3) := by decide +kernel
theorem dX0_deliverNow_49 : decode cX0_deliverNow 49 = .ok (.goto 4, 3) := by decide +kernel
theorem dX0_deliverNow_52 : decode cX0_deliverNow 52 = .ok (.iload_n 2, 1) := by decide +kernel
theorem dX0_deliverNow_53 : decode cX0_deliverNow 53 = .ok (.iand, 1) := by decide +kernel
theorem dX0_deliverNow_54 : decode cX0_deliverNow 54 = .ok (.invokevirtual 187, 3) := by decide +kernel
theorem dX0_deliverNow_57 : decode cX0_deliverNow 57 = .ok (.iinc 3 1, 3) := by decide +kernel
theorem dX0_deliverNow_60 : decode cX0_deliverNow 60 = .ok (.goto (-48), 3) := by decide +kernel
theorem dX0_deliverNow_63 : decode cX0_deliverNow 63 = .ok (.aload_n 0, 1) := by decide +kernel
theorem dX0_deliverNow_64 : decode cX0_deliverNow 64 = .ok (.getfield 66, 3) := by decide +kernel
theorem dX0_deliverNow_67 : decode cX0_deliverNow 67 = .ok (.iload_n 1, 1) := by decide +kernel
theorem dX0_deliverNow_68 : decode cX0_deliverNow 68 = .ok (.isub, 1) := by decide +kernel
theorem dX0_deliverNow_69 : decode cX0_deliverNow 69 = .ok (.ireturn, 1) := by decide +kernel
set_option maxRecDepth 20000 in
theorem ggX0_deliver_J6_bitCount_0f7a4 : GoodIn wsX0_deliver wsJ6_bitCount_0f7a4 := goodIn_r _ [9, 10, 11, 12] (by decide +kernel) (by decide +kernel)
set_option maxRecDepth 20000 in
theorem gX0_deliver_J6_bitCount_0f7a4 : GoodIn wsX0_deliver (va_wsS RX0 135 yJ6_bitCount_0f7a4 wsJ6_bitCount_0f7a4) := goodIn_app (goodIn_of _ (by decide +kernel)) ggX0_deliver_J6_bitCount_0f7a4
set_option maxRecDepth 20000 in
theorem ggX0_deliver_X0_spendQuota : GoodIn wsX0_deliver wsX0_spendQuota := goodIn_r _ [17, 18, 19, 20, 21, 22, 23, 16, 24, 25, 26, 27, 28, 29, 30, 31, 32, 33, 34, 35, 36, 37, 38, 39, 40, 41, 42, 43, 44, 45, 46, 47, 48, 49, 50] (by decide +kernel) (by decide +kernel)
set_option maxRecDepth 20000 in
theorem gX0_deliver_X0_spendQuota : GoodIn wsX0_deliver (wsV RX0 190 RX0 yX0_spendQuota wsX0_spendQuota) := goodIn_app (goodIn_of _ (by decide +kernel)) ggX0_deliver_X0_spendQuota
theorem dX0_deliver_0 : decode cX0_deliver 0 = .ok (.aload_n 0, 1) := by decide +kernel
theorem dX0_deliver_1 : decode cX0_deliver 1 = .ok (.getfield 51, 3) := by decide +kernel
theorem dX0_deliver_4 : decode cX0_deliver 4 = .ok (.iload_n 1, 1) := by decide +kernel
theorem dX0_deliver_5 : decode cX0_deliver 5 = .ok (.dup2, 1) := by decide +kernel
theorem dX0_deliver_6 : decode cX0_deliver 6 = .ok (.iaload, 1) := by decide +kernel
theorem dX0_deliver_7 : decode cX0_deliver 7 = .ok (.iload_n 2, 1) := by decide +kernel
theorem dX0_deliver_8 : decode cX0_deliver 8 = .ok (.iconst (-1), 1) := by decide +kernel
theorem dX0_deliver_9 : decode cX0_deliver 9 = .ok (.ixor, 1) := by decide +kernel
theorem dX0_deliver_10 : decode cX0_deliver 10 = .ok (.iand, 1) := by decide +kernel
theorem dX0_deliver_11 : decode cX0_deliver 11 = .ok (.iastore, 1) := by decide +kernel
theorem dX0_deliver_12 : decode cX0_deliver 12 = .ok (.aload_n 0, 1) := by decide +kernel
theorem dX0_deliver_13 : decode cX0_deliver 13 = .ok (.getfield 54, 3) := by decide +kernel
theorem dX0_deliver_16 : decode cX0_deliver 16 = .ok (.iload_n 1, 1) := by decide +kernel
theorem dX0_deliver_17 : decode cX0_deliver 17 = .ok (.dup2, 1) := by decide +kernel
theorem dX0_deliver_18 : decode cX0_deliver 18 = .ok (.iaload, 1) := by decide +kernel
theorem dX0_deliver_19 : decode cX0_deliver 19 = .ok (.iload_n 2, 1) := by decide +kernel
theorem dX0_deliver_20 : decode cX0_deliver 20 = .ok (.ior, 1) := by decide +kernel
theorem dX0_deliver_21 : decode cX0_deliver 21 = .ok (.iastore, 1) := by decide +kernel
theorem dX0_deliver_22 : decode cX0_deliver 22 = .ok (.aload_n 0, 1) := by decide +kernel
theorem dX0_deliver_23 : decode cX0_deliver 23 = .ok (.dup, 1) := by decide +kernel
theorem dX0_deliver_24 : decode cX0_deliver 24 = .ok (.getfield 66, 3) := by decide +kernel
theorem dX0_deliver_27 : decode cX0_deliver 27 = .ok (.iload_n 2, 1) := by decide +kernel
theorem dX0_deliver_28 : decode cX0_deliver 28 = .ok (.invokestatic 135, 3) := by decide +kernel
theorem dX0_deliver_31 : decode cX0_deliver 31 = .ok (.iadd, 1) := by decide +kernel
theorem dX0_deliver_32 : decode cX0_deliver 32 = .ok (.putfield 66, 3) := by decide +kernel
theorem dX0_deliver_35 : decode cX0_deliver 35 = .ok (.aload_n 0, 1) := by decide +kernel
theorem dX0_deliver_36 : decode cX0_deliver 36 = .ok (.getfield 44, 3) := by decide +kernel
theorem dX0_deliver_39 : decode cX0_deliver 39 = .ok (.iload_n 1, 1) := by decide +kernel
theorem dX0_deliver_40 : decode cX0_deliver 40 = .ok (.baload, 1) := by decide +kernel
theorem dX0_deliver_41 : decode cX0_deliver 41 = .ok (.ifCond .eq 13, 3) := by decide +kernel
theorem dX0_deliver_44 : decode cX0_deliver 44 = .ok (.aload_n 0, 1) := by decide +kernel
theorem dX0_deliver_45 : decode cX0_deliver 45 = .ok (.iload_n 2, 1) := by decide +kernel
theorem dX0_deliver_46 : decode cX0_deliver 46 = .ok (.aload_n 0, 1) := by decide +kernel
theorem dX0_deliver_47 : decode cX0_deliver 47 = .ok (.getfield 23, 3) := by decide +kernel
theorem dX0_deliver_50 : decode cX0_deliver 50 = .ok (.iand, 1) := by decide +kernel
theorem dX0_deliver_51 : decode cX0_deliver 51 = .ok (.invokevirtual 190, 3) := by decide +kernel
theorem dX0_deliver_54 : decode cX0_deliver 54 = .ok (.return_, 1) := by decide +kernel
set_option maxRecDepth 20000 in
theorem ggX0_openToNormal_X0_isInQuietHours : GoodIn wsX0_openToNormal wsX0_isInQuietHours := goodIn_r _ [9, 10, 11, 12, 13, 14, 8, 15, 1, 16, 17, 18, 19, 20, 27, 28, 29, 30, 31, 32, 33, 34, 35, 36, 37, 38, 39, 40, 41, 42, 43, 44, 45] (by decide +kernel) (by decide +kernel)
set_option maxRecDepth 20000 in
theorem gX0_openToNormal_X0_isInQuietHours : GoodIn wsX0_openToNormal (wsV RX0 105 RX0 yX0_isInQuietHours wsX0_isInQuietHours) := goodIn_app (goodIn_of _ (by decide +kernel)) ggX0_openToNormal_X0_isInQuietHours
set_option maxRecDepth 20000 in
theorem ggX0_openToNormal_X0_changed : GoodIn wsX0_openToNormal wsX0_changed := goodIn_r _ [23, 24, 25, 8, 26] (by decide +kernel) (by decide +kernel)
set_option maxRecDepth 20000 in
theorem gX0_openToNormal_X0_changed : GoodIn wsX0_openToNormal (va_wsS RX0 88 yX0_changed wsX0_changed) := goodIn_app (goodIn_of _ (by decide +kernel)) ggX0_openToNormal_X0_changed
theorem dX0_openToNormal_0 : decode cX0_openToNormal 0 = .ok (.aload_n 0, 1) := by decide +kernel
theorem dX0_openToNormal_1 : decode cX0_openToNormal 1 = .ok (.getfield 63, 3) := by decide +kernel
theorem dX0_openToNormal_4 : decode cX0_openToNormal 4 = .ok (.bipush 60, 2) := by decide +kernel
theorem dX0_openToNormal_6 : decode cX0_openToNormal 6 = .ok (.irem, 1) := by decide +kernel
theorem dX0_openToNormal_7 : decode cX0_openToNormal 7 = .ok (.ifCond .ne 10, 3) := by decide +kernel
theorem dX0_openToNormal_10 : decode cX0_openToNormal 10 = .ok (.aload_n 0, 1) := by decide +kernel
theorem dX0_openToNormal_11 : decode cX0_openToNormal 11 = .ok (.getfield 20, 3) := by decide +kernel
theorem dX0_openToNormal_14 : decode cX0_openToNormal 14 = .ok (.goto 14, 3) := by decide +kernel
theorem dX0_openToNormal_17 : decode cX0_openToNormal 17 = .ok (.aload_n 0, 1) := by decide +kernel
theorem dX0_openToNormal_18 : decode cX0_openToNormal 18 = .ok (.getfield 20, 3) := by decide +kernel
theorem dX0_openToNormal_21 : decode cX0_openToNormal 21 = .ok (.aload_n 0, 1) := by decide +kernel
theorem dX0_openToNormal_22 : decode cX0_openToNormal 22 = .ok (.getfield 23, 3) := by decide +kernel
theorem dX0_openToNormal_25 : decode cX0_openToNormal 25 = .ok (.iconst (-1), 1) := by decide +kernel
theorem dX0_openToNormal_26 : decode cX0_openToNormal 26 = .ok (.ixor, 1) := by decide +kernel
theorem dX0_openToNormal_27 : decode cX0_openToNormal 27 = .ok (.iand, 1) := by decide +kernel
theorem dX0_openToNormal_28 : decode cX0_openToNormal 28 = .ok (.istore_n 1, 1) := by decide +kernel
theorem dX0_openToNormal_29 : decode cX0_openToNormal 29 = .ok (.iconst 0, 1) := by decide +kernel
theorem dX0_openToNormal_30 : decode cX0_openToNormal 30 = .ok (.istore_n 2, 1) := by decide +kernel
theorem dX0_openToNormal_31 : decode cX0_openToNormal 31 = .ok (.iload_n 2, 1) := by decide +kernel
theorem dX0_openToNormal_32 : decode cX0_openToNormal 32 = .ok (.aload_n 0, 1) := by decide +kernel
theorem dX0_openToNormal_33 : decode cX0_openToNormal 33 = .ok (.getfield 41, 3) := by decide +kernel
theorem dX0_openToNormal_36 : decode cX0_openToNormal 36 = .ok (.if_icmp .ge 24, 3) := by decide +kernel
theorem dX0_openToNormal_39 : decode cX0_openToNormal 39 = .ok (.aload_n 0, 1) := by decide +kernel
theorem dX0_openToNormal_40 : decode cX0_openToNormal 40 = .ok (.iload_n 2, 1) := by decide +kernel
theorem dX0_openToNormal_41 : decode cX0_openToNormal 41 = .ok (.invokevirtual 105, 3) := by decide +kernel
theorem dX0_openToNormal_44 : decode cX0_openToNormal 44 = .ok (.ifCond .eq 10, 3) := by decide +kernel
theorem dX0_openToNormal_47 : decode cX0_openToNormal 47 = .ok (.iload_n 1, 1) := by decide +kernel
theorem dX0_openToNormal_48 : decode cX0_openToNormal 48 = .ok (.iload_n 2, 1) := by decide +kernel
theorem dX0_openToNormal_49 : decode cX0_openToNormal 49 = .ok (.iconst 0, 1) := by decide +kernel
theorem dX0_openToNormal_50 : decode cX0_openToNormal 50 = .ok (.invokestatic 88, 3) := by decide +kernel
theorem dX0_openToNormal_53 : decode cX0_openToNormal 53 = .ok (.istore_n 1, 1) := by decide +kernel
theorem dX0_openToNormal_54 : decode cX0_openToNormal 54 = .ok (.iinc 2 1, 3) := by decide +kernel
theorem dX0_openToNormal_57 : decode cX0_openToNormal 57 = .ok (.goto (-26), 3) := by decide +kernel
theorem dX0_openToNormal_60 : decode cX0_openToNormal 60 = .ok (.iload_n 1, 1) := by decide +kernel
theorem dX0_openToNormal_61 : decode cX0_openToNormal 61 = .ok (.ireturn, 1) := by decide +kernel
set_option maxRecDepth 20000 in
theorem ggX0_openToHigh_X0_has : GoodIn wsX0_openToHigh wsX0_has := goodIn_r _ [7, 8, 9, 6, 10] (by decide +kernel) (by decide +kernel)
set_option maxRecDepth 20000 in
theorem gX0_openToHigh_X0_has : GoodIn wsX0_openToHigh (va_wsS RX0 96 yX0_has wsX0_has) := goodIn_app (goodIn_of _ (by decide +kernel)) ggX0_openToHigh_X0_has
set_option maxRecDepth 20000 in
theorem ggX0_openToHigh_X0_spentToday : GoodIn wsX0_openToHigh wsX0_spentToday := goodIn_r _ [14, 15, 16, 17, 21, 22, 23, 24, 25, 26, 27, 28, 29, 30, 31, 32, 33, 34, 35, 36, 37, 38, 39] (by decide +kernel) (by decide +kernel)
set_option maxRecDepth 20000 in
theorem gX0_openToHigh_X0_spentToday : GoodIn wsX0_openToHigh (wsV RX0 147 RX0 yX0_spentToday wsX0_spentToday) := goodIn_app (goodIn_of _ (by decide +kernel)) ggX0_openToHigh_X0_spentToday
set_option maxRecDepth 20000 in
theorem ggX0_openToHigh_X0_changed : GoodIn wsX0_openToHigh wsX0_changed := goodIn_r _ [20, 8, 9, 6, 10] (by decide +kernel) (by decide +kernel)
set_option maxRecDepth 20000 in
theorem gX0_openToHigh_X0_changed : GoodIn wsX0_openToHigh (va_wsS RX0 88 yX0_changed wsX0_changed) := goodIn_app (goodIn_of _ (by decide +kernel)) ggX0_openToHigh_X0_changed
theorem dX0_openToHigh_0 : decode cX0_openToHigh 0 = .ok (.aload_n 0, 1) := by decide +kernel
theorem dX0_openToHigh_1 : decode cX0_openToHigh 1 = .ok (.getfield 20, 3) := by decide +kernel
theorem dX0_openToHigh_4 : decode cX0_openToHigh 4 = .ok (.istore_n 1, 1) := by decide +kernel
theorem dX0_openToHigh_5 : decode cX0_openToHigh 5 = .ok (.iconst 0, 1) := by decide +kernel
theorem dX0_openToHigh_6 : decode cX0_openToHigh 6 = .ok (.istore_n 2, 1) := by decide +kernel
theorem dX0_openToHigh_7 : decode cX0_openToHigh 7 = .ok (.iload_n 2, 1) := by decide +kernel
theorem dX0_openToHigh_8 : decode cX0_openToHigh 8 = .ok (.aload_n 0, 1) := by decide +kernel
theorem dX0_openToHigh_9 : decode cX0_openToHigh 9 = .ok (.getfield 41, 3) := by decide +kernel
theorem dX0_openToHigh_12 : decode cX0_openToHigh 12 = .ok (.if_icmp .ge 36, 3) := by decide +kernel
theorem dX0_openToHigh_15 : decode cX0_openToHigh 15 = .ok (.aload_n 0, 1) := by decide +kernel
theorem dX0_openToHigh_16 : decode cX0_openToHigh 16 = .ok (.getfield 23, 3) := by decide +kernel
theorem dX0_openToHigh_19 : decode cX0_openToHigh 19 = .ok (.iload_n 2, 1) := by decide +kernel
theorem dX0_openToHigh_20 : decode cX0_openToHigh 20 = .ok (.invokestatic 96, 3) := by decide +kernel
theorem dX0_openToHigh_23 : decode cX0_openToHigh 23 = .ok (.ifCond .eq 19, 3) := by decide +kernel
theorem dX0_openToHigh_26 : decode cX0_openToHigh 26 = .ok (.aload_n 0, 1) := by decide +kernel
theorem dX0_openToHigh_27 : decode cX0_openToHigh 27 = .ok (.iload_n 2, 1) := by decide +kernel
theorem dX0_openToHigh_28 : decode cX0_openToHigh 28 = .ok (.invokevirtual 147, 3) := by decide +kernel
theorem dX0_openToHigh_31 : decode cX0_openToHigh 31 = .ok (.iconst 3, 1) := by decide +kernel
theorem dX0_openToHigh_32 : decode cX0_openToHigh 32 = .ok (.if_icmp .lt 10, 3) := by decide +kernel
theorem dX0_openToHigh_35 : decode cX0_openToHigh 35 = .ok (.iload_n 1, 1) := by decide +kernel
theorem dX0_openToHigh_36 : decode cX0_openToHigh 36 = .ok (.iload_n 2, 1) := by decide +kernel
theorem dX0_openToHigh_37 : decode cX0_openToHigh 37 = .ok (.iconst 0, 1) := by decide +kernel
theorem dX0_openToHigh_38 : decode cX0_openToHigh 38 = .ok (.invokestatic 88, 3) := by decide +kernel
theorem dX0_openToHigh_41 : decode cX0_openToHigh 41 = .ok (.istore_n 1, 1) := by decide +kernel
theorem dX0_openToHigh_42 : decode cX0_openToHigh 42 = .ok (.iinc 2 1, 3) := by decide +kernel
theorem dX0_openToHigh_45 : decode cX0_openToHigh 45 = .ok (.goto (-38), 3) := by decide +kernel
theorem dX0_openToHigh_48 : decode cX0_openToHigh 48 = .ok (.iload_n 1, 1) := by decide +kernel
theorem dX0_openToHigh_49 : decode cX0_openToHigh 49 = .ok (.ireturn, 1) := by decide +kernel
set_option maxRecDepth 20000 in
theorem ggX0_nextChance_X0_isInQuietHours : GoodIn wsX0_nextChance wsX0_isInQuietHours := goodIn_r _ [12, 13, 3, 14, 15, 16, 11, 17, 1, 18, 19, 20, 21, 22, 23, 24, 25, 26, 27, 28, 29, 30, 31, 32, 33, 34, 35, 36, 37, 38, 39, 40, 41] (by decide +kernel) (by decide +kernel)
set_option maxRecDepth 20000 in
theorem gX0_nextChance_X0_isInQuietHours : GoodIn wsX0_nextChance (wsV RX0 105 RX0 yX0_isInQuietHours wsX0_isInQuietHours) := goodIn_app (goodIn_of _ (by decide +kernel)) ggX0_nextChance_X0_isInQuietHours
set_option maxRecDepth 20000 in
theorem ggX0_nextChance_X0_localTime : GoodIn wsX0_nextChance wsX0_localTime := goodIn_r _ [17, 1, 18, 19, 20, 21, 22, 23, 24, 25, 26, 27, 28, 29, 30, 31, 32, 33, 34, 35, 36, 37, 38, 39, 40, 41] (by decide +kernel) (by decide +kernel)
set_option maxRecDepth 20000 in
theorem gX0_nextChance_X0_localTime : GoodIn wsX0_nextChance (wsV RX0 178 RX0 yX0_localTime wsX0_localTime) := goodIn_app (goodIn_of _ (by decide +kernel)) ggX0_nextChance_X0_localTime
set_option maxRecDepth 20000 in
theorem ggX0_nextChance_J9_floorMod_7cf53 : GoodIn wsX0_nextChance wsJ9_floorMod_7cf53 := goodIn_r _ [22] (by decide +kernel) (by decide +kernel)
set_option maxRecDepth 20000 in
theorem gX0_nextChance_J9_floorMod_7cf53 : GoodIn wsX0_nextChance (va_wsS RX0 175 yJ9_floorMod_7cf53 wsJ9_floorMod_7cf53) := goodIn_app (goodIn_of _ (by decide +kernel)) ggX0_nextChance_J9_floorMod_7cf53
theorem dX0_nextChance_0 : decode cX0_nextChance 0 = .ok (.aload_n 0, 1) := by decide +kernel
theorem dX0_nextChance_1 : decode cX0_nextChance 1 = .ok (.getfield 63, 3) := by decide +kernel
theorem dX0_nextChance_4 : decode cX0_nextChance 4 = .ok (.aload_n 0, 1) := by decide +kernel
theorem dX0_nextChance_5 : decode cX0_nextChance 5 = .ok (.getfield 63, 3) := by decide +kernel
theorem dX0_nextChance_8 : decode cX0_nextChance 8 = .ok (.bipush 60, 2) := by decide +kernel
theorem dX0_nextChance_10 : decode cX0_nextChance 10 = .ok (.irem, 1) := by decide +kernel
theorem dX0_nextChance_11 : decode cX0_nextChance 11 = .ok (.isub, 1) := by decide +kernel
theorem dX0_nextChance_12 : decode cX0_nextChance 12 = .ok (.bipush 60, 2) := by decide +kernel
theorem dX0_nextChance_14 : decode cX0_nextChance 14 = .ok (.iadd, 1) := by decide +kernel
theorem dX0_nextChance_15 : decode cX0_nextChance 15 = .ok (.istore_n 1, 1) := by decide +kernel
theorem dX0_nextChance_16 : decode cX0_nextChance 16 = .ok (.iconst 0, 1) := by decide +kernel
theorem dX0_nextChance_17 : decode cX0_nextChance 17 = .ok (.istore_n 2, 1) := by decide +kernel
theorem dX0_nextChance_18 : decode cX0_nextChance 18 = .ok (.iload_n 2, 1) := by decide +kernel
theorem dX0_nextChance_19 : decode cX0_nextChance 19 = .ok (.aload_n 0, 1) := by decide +kernel
theorem dX0_nextChance_20 : decode cX0_nextChance 20 = .ok (.getfield 41, 3) := by decide +kernel
theorem dX0_nextChance_23 : decode cX0_nextChance 23 = .ok (.if_icmp .ge 47, 3) := by decide +kernel
theorem dX0_nextChance_26 : decode cX0_nextChance 26 = .ok (.aload_n 0, 1) := by decide +kernel
theorem dX0_nextChance_27 : decode cX0_nextChance 27 = .ok (.iload_n 2, 1) := by decide +kernel
theorem dX0_nextChance_28 : decode cX0_nextChance 28 = .ok (.invokevirtual 105, 3) := by decide +kernel
theorem dX0_nextChance_31 : decode cX0_nextChance 31 = .ok (.ifCond .eq 33, 3) := by decide +kernel
theorem dX0_nextChance_34 : decode cX0_nextChance 34 = .ok (.aload_n 0, 1) := by decide +kernel
theorem dX0_nextChance_35 : decode cX0_nextChance 35 = .ok (.getfield 32, 3) := by decide +kernel
theorem dX0_nextChance_38 : decode cX0_nextChance 38 = .ok (.iload_n 2, 1) := by decide +kernel
theorem dX0_nextChance_39 : decode cX0_nextChance 39 = .ok (.iaload, 1) := by decide +kernel
theorem dX0_nextChance_40 : decode cX0_nextChance 40 = .ok (.aload_n 0, 1) := by decide +kernel
theorem dX0_nextChance_41 : decode cX0_nextChance 41 = .ok (.iload_n 2, 1) := by decide +kernel
theorem dX0_nextChance_42 : decode cX0_nextChance 42 = .ok (.invokevirtual 178, 3) := by decide +kernel
theorem dX0_nextChance_45 : decode cX0_nextChance 45 = .ok (.isub, 1) := by decide +kernel
theorem dX0_nextChance_46 : decode cX0_nextChance 46 = .ok (.sipush 1440, 3) := by decide +kernel
theorem dX0_nextChance_49 : decode cX0_nextChance 49 = .ok (.invokestatic 175, 3) := by decide +kernel
theorem dX0_nextChance_52 : decode cX0_nextChance 52 = .ok (.istore_n 3, 1) := by decide +kernel
theorem dX0_nextChance_53 : decode cX0_nextChance 53 = .ok (.iload_n 1, 1) := by decide +kernel
theorem dX0_nextChance_54 : decode cX0_nextChance 54 = .ok (.aload_n 0, 1) := by decide +kernel
theorem dX0_nextChance_55 : decode cX0_nextChance 55 = .ok (.getfield 63, 3) := by decide +kernel
theorem dX0_nextChance_58 : decode cX0_nextChance 58 = .ok (.iload_n 3, 1) := by decide +kernel
theorem dX0_nextChance_59 : decode cX0_nextChance 59 = .ok (.iadd, 1) := by decide +kernel
theorem dX0_nextChance_60 : decode cX0_nextChance 60 = .ok (.invokestatic 156, 3) := by decide +kernel
theorem dX0_nextChance_63 : decode cX0_nextChance 63 = .ok (.istore_n 1, 1) := by decide +kernel
theorem dX0_nextChance_64 : decode cX0_nextChance 64 = .ok (.iinc 2 1, 3) := by decide +kernel
theorem dX0_nextChance_67 : decode cX0_nextChance 67 = .ok (.goto (-49), 3) := by decide +kernel
theorem dX0_nextChance_70 : decode cX0_nextChance 70 = .ok (.iload_n 1, 1) := by decide +kernel
theorem dX0_nextChance_71 : decode cX0_nextChance 71 = .ok (.ireturn, 1) := by decide +kernel
theorem dX1_init_0 : decode cX1_init 0 = .ok (.aload_n 0, 1) := by decide +kernel
theorem dX1_init_1 : decode cX1_init 1 = .ok (.invokespecial 1, 3) := by decide +kernel
theorem dX1_init_4 : decode cX1_init 4 = .ok (.aload_n 0, 1) := by decide +kernel
theorem dX1_init_5 : decode cX1_init 5 = .ok (.bipush 16, 2) := by decide +kernel
theorem dX1_init_7 : decode cX1_init 7 = .ok (.newarray .int, 2) := by decide +kernel
theorem dX1_init_9 : decode cX1_init 9 = .ok (.putfield 7, 3) := by decide +kernel
theorem dX1_init_12 : decode cX1_init 12 = .ok (.aload_n 0, 1) := by decide +kernel
theorem dX1_init_13 : decode cX1_init 13 = .ok (.bipush 16, 2) := by decide +kernel
theorem dX1_init_15 : decode cX1_init 15 = .ok (.newarray .int, 2) := by decide +kernel
theorem dX1_init_17 : decode cX1_init 17 = .ok (.putfield 13, 3) := by decide +kernel
theorem dX1_init_20 : decode cX1_init 20 = .ok (.aload_n 0, 1) := by decide +kernel
theorem dX1_init_21 : decode cX1_init 21 = .ok (.bipush 16, 2) := by decide +kernel
theorem dX1_init_23 : decode cX1_init 23 = .ok (.newarray .boolean, 2) := by decide +kernel
theorem dX1_init_25 : decode cX1_init 25 = .ok (.putfield 16, 3) := by decide +kernel
theorem dX1_init_28 : decode cX1_init 28 = .ok (.aload_n 0, 1) := by decide +kernel
theorem dX1_init_29 : decode cX1_init 29 = .ok (.bipush 16, 2) := by decide +kernel
theorem dX1_init_31 : decode cX1_init 31 = .ok (.newarray .boolean, 2) := by decide +kernel
theorem dX1_init_33 : decode cX1_init 33 = .ok (.putfield 20, 3) := by decide +kernel
theorem dX1_init_36 : decode cX1_init 36 = .ok (.aload_n 0, 1) := by decide +kernel
theorem dX1_init_37 : decode cX1_init 37 = .ok (.bipush 16, 2) := by decide +kernel
theorem dX1_init_39 : decode cX1_init 39 = .ok (.newarray .boolean, 2) := by decide +kernel
theorem dX1_init_41 : decode cX1_init 41 = .ok (.putfield 23, 3) := by decide +kernel
theorem dX1_init_44 : decode cX1_init 44 = .ok (.aload_n 0, 1) := by decide +kernel
theorem dX1_init_45 : decode cX1_init 45 = .ok (.bipush 16, 2) := by decide +kernel
theorem dX1_init_47 : decode cX1_init 47 = .ok (.newarray .int, 2) := by decide +kernel
theorem dX1_init_49 : decode cX1_init 49 = .ok (.putfield 26, 3) := by decide +kernel
theorem dX1_init_52 : decode cX1_init 52 = .ok (.aload_n 0, 1) := by decide +kernel
theorem dX1_init_53 : decode cX1_init 53 = .ok (.bipush 16, 2) := by decide +kernel
theorem dX1_init_55 : decode cX1_init 55 = .ok (.newarray .int, 2) := by decide +kernel
theorem dX1_init_57 : decode cX1_init 57 = .ok (.putfield 29, 3) := by decide +kernel
theorem dX1_init_60 : decode cX1_init 60 = .ok (.aload_n 0, 1) := by decide +kernel
theorem dX1_init_61 : decode cX1_init 61 = .ok (.bipush 16, 2) := by decide +kernel
theorem dX1_init_63 : decode cX1_init 63 = .ok (.newarray .int, 2) := by decide +kernel
theorem dX1_init_65 : decode cX1_init 65 = .ok (.putfield 32, 3) := by decide +kernel
theorem dX1_init_68 : decode cX1_init 68 = .ok (.aload_n 0, 1) := by decide +kernel
theorem dX1_init_69 : decode cX1_init 69 = .ok (.bipush 16, 2) := by decide +kernel
theorem dX1_init_71 : decode cX1_init 71 = .ok (.newarray .int, 2) := by decide +kernel
theorem dX1_init_73 : decode cX1_init 73 = .ok (.putfield 35, 3) := by decide +kernel
theorem dX1_init_76 : decode cX1_init 76 = .ok (.aload_n 0, 1) := by decide +kernel
theorem dX1_init_77 : decode cX1_init 77 = .ok (.bipush 16, 2) := by decide +kernel
theorem dX1_init_79 : decode cX1_init 79 = .ok (.newarray .int, 2) := by decide +kernel
theorem dX1_init_81 : decode cX1_init 81 = .ok (.putfield 38, 3) := by decide +kernel
theorem dX1_init_84 : decode cX1_init 84 = .ok (.aload_n 0, 1) := by decide +kernel
theorem dX1_init_85 : decode cX1_init 85 = .ok (.bipush 120, 2) := by decide +kernel
theorem dX1_init_87 : decode cX1_init 87 = .ok (.newarray .boolean, 2) := by decide +kernel
theorem dX1_init_89 : decode cX1_init 89 = .ok (.putfield 41, 3) := by decide +kernel
theorem dX1_init_92 : decode cX1_init 92 = .ok (.aload_n 0, 1) := by decide +kernel
theorem dX1_init_93 : decode cX1_init 93 = .ok (.bipush 120, 2) := by decide +kernel
theorem dX1_init_95 : decode cX1_init 95 = .ok (.newarray .int, 2) := by decide +kernel
theorem dX1_init_97 : decode cX1_init 97 = .ok (.putfield 44, 3) := by decide +kernel
theorem dX1_init_100 : decode cX1_init 100 = .ok (.aload_n 0, 1) := by decide +kernel
theorem dX1_init_101 : decode cX1_init 101 = .ok (.bipush 120, 2) := by decide +kernel
theorem dX1_init_103 : decode cX1_init 103 = .ok (.newarray .int, 2) := by decide +kernel
theorem dX1_init_105 : decode cX1_init 105 = .ok (.putfield 47, 3) := by decide +kernel
theorem dX1_init_108 : decode cX1_init 108 = .ok (.aload_n 0, 1) := by decide +kernel
theorem dX1_init_109 : decode cX1_init 109 = .ok (.bipush 120, 2) := by decide +kernel
theorem dX1_init_111 : decode cX1_init 111 = .ok (.newarray .int, 2) := by decide +kernel
theorem dX1_init_113 : decode cX1_init 113 = .ok (.putfield 50, 3) := by decide +kernel
theorem dX1_init_116 : decode cX1_init 116 = .ok (.aload_n 0, 1) := by decide +kernel
theorem dX1_init_117 : decode cX1_init 117 = .ok (.bipush 120, 2) := by decide +kernel
theorem dX1_init_119 : decode cX1_init 119 = .ok (.newarray .boolean, 2) := by decide +kernel
theorem dX1_init_121 : decode cX1_init 121 = .ok (.putfield 53, 3) := by decide +kernel
theorem dX1_init_124 : decode cX1_init 124 = .ok (.aload_n 0, 1) := by decide +kernel
theorem dX1_init_125 : decode cX1_init 125 = .ok (.bipush 120, 2) := by decide +kernel
theorem dX1_init_127 : decode cX1_init 127 = .ok (.newarray .int, 2) := by decide +kernel
theorem dX1_init_129 : decode cX1_init 129 = .ok (.putfield 56, 3) := by decide +kernel
theorem dX1_init_132 : decode cX1_init 132 = .ok (.aload_n 0, 1) := by decide +kernel
theorem dX1_init_133 : decode cX1_init 133 = .ok (.bipush 120, 2) := by decide +kernel
theorem dX1_init_135 : decode cX1_init 135 = .ok (.newarray .int, 2) := by decide +kernel
theorem dX1_init_137 : decode cX1_init 137 = .ok (.putfield 59, 3) := by decide +kernel
theorem dX1_init_140 : decode cX1_init 140 = .ok (.return_, 1) := by decide +kernel
theorem dX1_thrown_0 : decode cX1_thrown 0 = .ok (.aload_n 0, 1) := by decide +kernel
theorem dX1_thrown_1 : decode cX1_thrown 1 = .ok (.getfield 62, 3) := by decide +kernel
theorem dX1_thrown_4 : decode cX1_thrown 4 = .ok (.ireturn, 1) := by decide +kernel
theorem dX1_refused_0 : decode cX1_refused 0 = .ok (.aload_n 0, 1) := by decide +kernel
theorem dX1_refused_1 : decode cX1_refused 1 = .ok (.iload_n 1, 1) := by decide +kernel
theorem dX1_refused_2 : decode cX1_refused 2 = .ok (.putfield 62, 3) := by decide +kernel
theorem dX1_refused_5 : decode cX1_refused 5 = .ok (.iload_n 1, 1) := by decide +kernel
theorem dX1_refused_6 : decode cX1_refused 6 = .ok (.ifCond .eq 7, 3) := by decide +kernel
theorem dX1_refused_9 : decode cX1_refused 9 = .ok (.iconst 1, 1) := by decide +kernel
theorem dX1_refused_10 : decode cX1_refused 10 = .ok (.goto 4, 3) := by decide +kernel
theorem dX1_refused_13 : decode cX1_refused 13 = .ok (.iconst 0, 1) := by decide +kernel
theorem dX1_refused_14 : decode cX1_refused 14 = .ok (.ireturn, 1) := by decide +kernel
theorem dX1_fine_0 : decode cX1_fine 0 = .ok (.aload_n 0, 1) := by decide +kernel
theorem dX1_fine_1 : decode cX1_fine 1 = .ok (.iconst 0, 1) := by decide +kernel
theorem dX1_fine_2 : decode cX1_fine 2 = .ok (.putfield 62, 3) := by decide +kernel
theorem dX1_fine_5 : decode cX1_fine 5 = .ok (.iload_n 1, 1) := by decide +kernel
theorem dX1_fine_6 : decode cX1_fine 6 = .ok (.ireturn, 1) := by decide +kernel
theorem dX1_in_0 : decode cX1_in 0 = .ok (.iload_n 0, 1) := by decide +kernel
theorem dX1_in_1 : decode cX1_in 1 = .ok (.iload_n 1, 1) := by decide +kernel
theorem dX1_in_2 : decode cX1_in 2 = .ok (.if_icmp .lt 12, 3) := by decide +kernel
theorem dX1_in_5 : decode cX1_in 5 = .ok (.iload_n 0, 1) := by decide +kernel
theorem dX1_in_6 : decode cX1_in 6 = .ok (.iload_n 2, 1) := by decide +kernel
theorem dX1_in_7 : decode cX1_in 7 = .ok (.if_icmp .gt 7, 3) := by decide +kernel
theorem dX1_in_10 : decode cX1_in 10 = .ok (.iconst 1, 1) := by decide +kernel
theorem dX1_in_11 : decode cX1_in 11 = .ok (.goto 4, 3) := by decide +kernel
theorem dX1_in_14 : decode cX1_in 14 = .ok (.iconst 0, 1) := by decide +kernel
theorem dX1_in_15 : decode cX1_in 15 = .ok (.ireturn, 1) := by decide +kernel
set_option maxRecDepth 20000 in
theorem ggX1_isDevice_X1_in : GoodIn wsX1_isDevice wsX1_in := goodIn_r _ [5] (by decide +kernel) (by decide +kernel)
set_option maxRecDepth 20000 in
theorem gX1_isDevice_X1_in : GoodIn wsX1_isDevice (va_wsS RX1 69 yX1_in wsX1_in) := goodIn_app (goodIn_of _ (by decide +kernel)) ggX1_isDevice_X1_in
theorem dX1_isDevice_0 : decode cX1_isDevice 0 = .ok (.iload_n 1, 1) := by decide +kernel
theorem dX1_isDevice_1 : decode cX1_isDevice 1 = .ok (.iconst 0, 1) := by decide +kernel
theorem dX1_isDevice_2 : decode cX1_isDevice 2 = .ok (.aload_n 0, 1) := by decide +kernel
theorem dX1_isDevice_3 : decode cX1_isDevice 3 = .ok (.getfield 66, 3) := by decide +kernel
theorem dX1_isDevice_6 : decode cX1_isDevice 6 = .ok (.iconst 1, 1) := by decide +kernel
theorem dX1_isDevice_7 : decode cX1_isDevice 7 = .ok (.isub, 1) := by decide +kernel
theorem dX1_isDevice_8 : decode cX1_isDevice 8 = .ok (.invokestatic 69, 3) := by decide +kernel
theorem dX1_isDevice_11 : decode cX1_isDevice 11 = .ok (.ireturn, 1) := by decide +kernel
set_option maxRecDepth 20000 in
theorem ggX1_isNotice_X1_in : GoodIn wsX1_isNotice wsX1_in := goodIn_r _ [5] (by decide +kernel) (by decide +kernel)
set_option maxRecDepth 20000 in
theorem gX1_isNotice_X1_in : GoodIn wsX1_isNotice (va_wsS RX1 69 yX1_in wsX1_in) := goodIn_app (goodIn_of _ (by decide +kernel)) ggX1_isNotice_X1_in
theorem dX1_isNotice_0 : decode cX1_isNotice 0 = .ok (.iload_n 1, 1) := by decide +kernel
theorem dX1_isNotice_1 : decode cX1_isNotice 1 = .ok (.iconst 0, 1) := by decide +kernel
theorem dX1_isNotice_2 : decode cX1_isNotice 2 = .ok (.aload_n 0, 1) := by decide +kernel
theorem dX1_isNotice_3 : decode cX1_isNotice 3 = .ok (.getfield 73, 3) := by decide +kernel
theorem dX1_isNotice_6 : decode cX1_isNotice 6 = .ok (.iconst 1, 1) := by decide +kernel
theorem dX1_isNotice_7 : decode cX1_isNotice 7 = .ok (.isub, 1) := by decide +kernel
theorem dX1_isNotice_8 : decode cX1_isNotice 8 = .ok (.invokestatic 69, 3) := by decide +kernel
theorem dX1_isNotice_11 : decode cX1_isNotice 11 = .ok (.ireturn, 1) := by decide +kernel
theorem dX1_isQuietNow_0 : decode cX1_isQuietNow 0 = .ok (.aload_n 0, 1) := by decide +kernel
theorem dX1_isQuietNow_1 : decode cX1_isQuietNow 1 = .ok (.getfield 76, 3) := by decide +kernel
theorem dX1_isQuietNow_4 : decode cX1_isQuietNow 4 = .ok (.aload_n 0, 1) := by decide +kernel
theorem dX1_isQuietNow_5 : decode cX1_isQuietNow 5 = .ok (.getfield 13, 3) := by decide +kernel
theorem dX1_isQuietNow_8 : decode cX1_isQuietNow 8 = .ok (.iload_n 1, 1) := by decide +kernel
theorem dX1_isQuietNow_9 : decode cX1_isQuietNow 9 = .ok (.iaload, 1) := by decide +kernel
theorem dX1_isQuietNow_10 : decode cX1_isQuietNow 10 = .ok (.iadd, 1) := by decide +kernel
theorem dX1_isQuietNow_11 : decode cX1_isQuietNow 11 = .ok (.sipush 1440, 3) := by decide +kernel
theorem dX1_isQuietNow_14 : decode cX1_isQuietNow 14 = .ok (.iadd, 1) := by decide +kernel
theorem dX1_isQuietNow_15 : decode cX1_isQuietNow 15 = .ok (.sipush 1440, 3) := by decide +kernel
theorem dX1_isQuietNow_18 : decode cX1_isQuietNow 18 = .ok (.irem, 1) := by decide +kernel
theorem dX1_isQuietNow_19 : decode cX1_isQuietNow 19 = .ok (.istore_n 2, 1) := by decide +kernel
theorem dX1_isQuietNow_20 : decode cX1_isQuietNow 20 = .ok (.aload_n 0, 1) := by decide +kernel
theorem dX1_isQuietNow_21 : decode cX1_isQuietNow 21 = .ok (.getfield 26, 3) := by decide +kernel
theorem dX1_isQuietNow_24 : decode cX1_isQuietNow 24 = .ok (.iload_n 1, 1) := by decide +kernel
theorem dX1_isQuietNow_25 : decode cX1_isQuietNow 25 = .ok (.iaload, 1) := by decide +kernel
theorem dX1_isQuietNow_26 : decode cX1_isQuietNow 26 = .ok (.istore_n 3, 1) := by decide +kernel
theorem dX1_isQuietNow_27 : decode cX1_isQuietNow 27 = .ok (.aload_n 0, 1) := by decide +kernel
theorem dX1_isQuietNow_28 : decode cX1_isQuietNow 28 = .ok (.getfield 29, 3) := by decide +kernel
theorem dX1_isQuietNow_31 : decode cX1_isQuietNow 31 = .ok (.iload_n 1, 1) := by decide +kernel
theorem dX1_isQuietNow_32 : decode cX1_isQuietNow 32 = .ok (.iaload, 1) := by decide +kernel
theorem dX1_isQuietNow_33 : decode cX1_isQuietNow 33 = .ok (.istore 4, 2) := by decide +kernel
theorem dX1_isQuietNow_35 : decode cX1_isQuietNow 35 = .ok (.iload_n 3, 1) := by decide +kernel
theorem dX1_isQuietNow_36 : decode cX1_isQuietNow 36 = .ok (.iload 4, 2) := by decide +kernel
theorem dX1_isQuietNow_38 : decode cX1_isQuietNow 38 = .ok (.if_icmp .gt 22, 3) := by decide +kernel
theorem dX1_isQuietNow_41 : decode cX1_isQuietNow 41 = .ok (.iload_n 2, 1) := by decide +kernel
theorem dX1_isQuietNow_42 : decode cX1_isQuietNow 42 = .ok (.iload_n 3, 1) := by decide +kernel
theorem dX1_isQuietNow_43 : decode cX1_isQuietNow 43 = .ok (.if_icmp .lt 13, 3) := by decide +kernel
theorem dX1_isQuietNow_46 : decode cX1_isQuietNow 46 = .ok (.iload_n 2, 1) := by decide +kernel
theorem dX1_isQuietNow_47 : decode cX1_isQuietNow 47 = .ok (.iload 4, 2) := by decide +kernel
theorem dX1_isQuietNow_49 : decode cX1_isQuietNow 49 = .ok (.if_icmp .ge 7, 3) := by decide +kernel
theorem dX1_isQuietNow_52 : decode cX1_isQuietNow 52 = .ok (.iconst 1, 1) := by decide +kernel
theorem dX1_isQuietNow_53 : decode cX1_isQuietNow 53 = .ok (.goto 23, 3) := by decide +kernel
theorem dX1_isQuietNow_56 : decode cX1_isQuietNow 56 = .ok (.iconst 0, 1) := by decide +kernel
theorem dX1_isQuietNow_57 : decode cX1_isQuietNow 57 = .ok (.goto 19, 3) := by decide +kernel
theorem dX1_isQuietNow_60 : decode cX1_isQuietNow 60 = .ok (.iload_n 2, 1) := by decide +kernel
theorem dX1_isQuietNow_61 : decode cX1_isQuietNow 61 = .ok (.iload_n 3, 1) := by decide +kernel
theorem dX1_isQuietNow_62 : decode cX1_isQuietNow 62 = .ok (.if_icmp .ge 9, 3) := by decide +kernel
theorem dX1_isQuietNow_65 : decode cX1_isQuietNow 65 = .ok (.iload_n 2, 1) := by decide +kernel
theorem dX1_isQuietNow_66 : decode cX1_isQuietNow 66 = .ok (.iload 4, 2) := by decide +kernel
theorem dX1_isQuietNow_68 : decode cX1_isQuietNow 68 = .ok (.if_icmp .ge 7, 3) := by decide +kernel
theorem dX1_isQuietNow_71 : decode cX1_isQuietNow 71 = .ok (.iconst 1, 1) := by decide +kernel
theorem dX1_isQuietNow_72 : decode cX1_isQuietNow 72 = .ok (.goto 4, 3) := by decide +kernel
theorem dX1_isQuietNow_75 : decode cX1_isQuietNow 75 = .ok (.iconst 0, 1) := by decide +kernel
theorem dX1_isQuietNow_76 : decode cX1_isQuietNow 76 = .ok (.ireturn, 1) := by decide +kernel
theorem dX1_used_0 : decode cX1_used 0 = .ok (.aload_n 0, 1) := by decide +kernel
theorem dX1_used_1 : decode cX1_used 1 = .ok (.getfield 35, 3) := by decide +kernel
theorem dX1_used_4 : decode cX1_used 4 = .ok (.iload_n 1, 1) := by decide +kernel
theorem dX1_used_5 : decode cX1_used 5 = .ok (.iaload, 1) := by decide +kernel
theorem dX1_used_6 : decode cX1_used 6 = .ok (.aload_n 0, 1) := by decide +kernel
theorem dX1_used_7 : decode cX1_used 7 = .ok (.getfield 76, 3) := by decide +kernel
theorem dX1_used_10 : decode cX1_used 10 = .ok (.sipush 1440, 3) := by decide +kernel
theorem dX1_used_13 : decode cX1_used 13 = .ok (.idiv, 1) := by decide +kernel
theorem dX1_used_14 : decode cX1_used 14 = .ok (.if_icmp .ne 12, 3) := by decide +kernel
theorem dX1_used_17 : decode cX1_used 17 = .ok (.aload_n 0, 1) := by decide +kernel
theorem dX1_used_18 : decode cX1_used 18 = .ok (.getfield 38, 3) := by decide +kernel
theorem dX1_used_21 : decode cX1_used 21 = .ok (.iload_n 1, 1) := by decide +kernel
theorem dX1_used_22 : decode cX1_used 22 = .ok (.iaload, 1) := by decide +kernel
theorem dX1_used_23 : decode cX1_used 23 = .ok (.goto 4, 3) := by decide +kernel
theorem dX1_used_26 : decode cX1_used 26 = .ok (.iconst 0, 1) := by decide +kernel
theorem dX1_used_27 : decode cX1_used 27 = .ok (.ireturn, 1) := by decide +kernel
set_option maxRecDepth 20000 in
theorem ggX1_can_X1_used : GoodIn wsX1_can wsX1_used := goodIn_r _ [9, 10, 4, 11, 19, 20, 21, 22, 23, 24, 25, 26, 27, 28, 29, 30, 31, 32, 33, 34, 35, 36, 37, 38, 39, 40] (by decide +kernel) (by decide +kernel)
set_option maxRecDepth 20000 in
theorem gX1_can_X1_used : GoodIn wsX1_can (wsV RX1 79 RX1 yX1_used wsX1_used) := goodIn_app (goodIn_of _ (by decide +kernel)) ggX1_can_X1_used
set_option maxRecDepth 20000 in
theorem ggX1_can_X1_isQuietNow : GoodIn wsX1_can wsX1_isQuietNow := goodIn_r _ [15, 4, 16, 17, 18, 19, 20, 21, 22, 23, 24, 25, 26, 27, 28, 29, 30, 31, 32, 33, 34, 35, 36, 37, 38, 39, 40] (by decide +kernel) (by decide +kernel)
set_option maxRecDepth 20000 in
theorem gX1_can_X1_isQuietNow : GoodIn wsX1_can (wsV RX1 83 RX1 yX1_isQuietNow wsX1_isQuietNow) := goodIn_app (goodIn_of _ (by decide +kernel)) ggX1_can_X1_isQuietNow
theorem dX1_can_0 : decode cX1_can 0 = .ok (.aload_n 0, 1) := by decide +kernel
theorem dX1_can_1 : decode cX1_can 1 = .ok (.getfield 16, 3) := by decide +kernel
theorem dX1_can_4 : decode cX1_can 4 = .ok (.iload_n 1, 1) := by decide +kernel
theorem dX1_can_5 : decode cX1_can 5 = .ok (.baload, 1) := by decide +kernel
theorem dX1_can_6 : decode cX1_can 6 = .ok (.ifCond .ne 5, 3) := by decide +kernel
theorem dX1_can_9 : decode cX1_can 9 = .ok (.iconst 0, 1) := by decide +kernel
theorem dX1_can_10 : decode cX1_can 10 = .ok (.ireturn, 1) := by decide +kernel
theorem dX1_can_11 : decode cX1_can 11 = .ok (.aload_n 0, 1) := by decide +kernel
theorem dX1_can_12 : decode cX1_can 12 = .ok (.getfield 41, 3) := by decide +kernel
theorem dX1_can_15 : decode cX1_can 15 = .ok (.iload_n 2, 1) := by decide +kernel
theorem dX1_can_16 : decode cX1_can 16 = .ok (.baload, 1) := by decide +kernel
theorem dX1_can_17 : decode cX1_can 17 = .ok (.ifCond .eq 27, 3) := by decide +kernel
theorem dX1_can_20 : decode cX1_can 20 = .ok (.aload_n 0, 1) := by decide +kernel
theorem dX1_can_21 : decode cX1_can 21 = .ok (.getfield 20, 3) := by decide +kernel
theorem dX1_can_24 : decode cX1_can 24 = .ok (.iload_n 1, 1) := by decide +kernel
theorem dX1_can_25 : decode cX1_can 25 = .ok (.baload, 1) := by decide +kernel
theorem dX1_can_26 : decode cX1_can 26 = .ok (.ifCond .eq 12, 3) := by decide +kernel
theorem dX1_can_29 : decode cX1_can 29 = .ok (.aload_n 0, 1) := by decide +kernel
theorem dX1_can_30 : decode cX1_can 30 = .ok (.iload_n 1, 1) := by decide +kernel
theorem dX1_can_31 : decode cX1_can 31 = .ok (.invokevirtual 79, 3) := by decide +kernel
theorem dX1_can_34 : decode cX1_can 34 = .ok (.iconst 3, 1) := by decide +kernel
theorem dX1_can_35 : decode cX1_can 35 = .ok (.if_icmp .ge 7, 3) := by decide +kernel
theorem dX1_can_38 : decode cX1_can 38 = .ok (.iconst 1, 1) := by decide +kernel
theorem dX1_can_39 : decode cX1_can 39 = .ok (.goto 4, 3) := by decide +kernel
theorem dX1_can_42 : decode cX1_can 42 = .ok (.iconst 0, 1) := by decide +kernel
theorem dX1_can_43 : decode cX1_can 43 = .ok (.ireturn, 1) := by decide +kernel
theorem dX1_can_44 : decode cX1_can 44 = .ok (.aload_n 0, 1) := by decide +kernel
theorem dX1_can_45 : decode cX1_can 45 = .ok (.iload_n 1, 1) := by decide +kernel
theorem dX1_can_46 : decode cX1_can 46 = .ok (.invokevirtual 83, 3) := by decide +kernel
theorem dX1_can_49 : decode cX1_can 49 = .ok (.ifCond .ne 26, 3) := by decide +kernel
theorem dX1_can_52 : decode cX1_can 52 = .ok (.aload_n 0, 1) := by decide +kernel
theorem dX1_can_53 : decode cX1_can 53 = .ok (.getfield 20, 3) := by decide +kernel
theorem dX1_can_56 : decode cX1_can 56 = .ok (.iload_n 1, 1) := by decide +kernel
theorem dX1_can_57 : decode cX1_can 57 = .ok (.baload, 1) := by decide +kernel
theorem dX1_can_58 : decode cX1_can 58 = .ok (.ifCond .eq 13, 3) := by decide +kernel
theorem dX1_can_61 : decode cX1_can 61 = .ok (.aload_n 0, 1) := by decide +kernel
theorem dX1_can_62 : decode cX1_can 62 = .ok (.getfield 76, 3) := by decide +kernel
theorem dX1_can_65 : decode cX1_can 65 = .ok (.bipush 60, 2) := by decide +kernel
theorem dX1_can_67 : decode cX1_can 67 = .ok (.irem, 1) := by decide +kernel
theorem dX1_can_68 : decode cX1_can 68 = .ok (.ifCond .ne 7, 3) := by decide +kernel
theorem dX1_can_71 : decode cX1_can 71 = .ok (.iconst 1, 1) := by decide +kernel
theorem dX1_can_72 : decode cX1_can 72 = .ok (.goto 4, 3) := by decide +kernel
theorem dX1_can_75 : decode cX1_can 75 = .ok (.iconst 0, 1) := by decide +kernel
theorem dX1_can_76 : decode cX1_can 76 = .ok (.ireturn, 1) := by decide +kernel
set_option maxRecDepth 20000 in
theorem ggX1_deliver_X1_used : GoodIn wsX1_deliver wsX1_used := goodIn_r _ [13, 7, 8, 6, 14, 15, 16, 17, 18, 19, 20, 21, 22, 23, 24, 25, 26, 27, 28, 29, 30, 31, 32, 33, 34, 35] (by decide +kernel) (by decide +kernel)
set_option maxRecDepth 20000 in
theorem gX1_deliver_X1_used : GoodIn wsX1_deliver (wsV RX1 79 RX1 yX1_used wsX1_used) := goodIn_app (goodIn_of _ (by decide +kernel)) ggX1_deliver_X1_used
theorem dX1_deliver_0 : decode cX1_deliver 0 = .ok (.aload_n 0, 1) := by decide +kernel
theorem dX1_deliver_1 : decode cX1_deliver 1 = .ok (.getfield 56, 3) := by decide +kernel
theorem dX1_deliver_4 : decode cX1_deliver 4 = .ok (.iload_n 2, 1) := by decide +kernel
theorem dX1_deliver_5 : decode cX1_deliver 5 = .ok (.dup2, 1) := by decide +kernel
theorem dX1_deliver_6 : decode cX1_deliver 6 = .ok (.iaload, 1) := by decide +kernel
theorem dX1_deliver_7 : decode cX1_deliver 7 = .ok (.iconst 1, 1) := by decide +kernel
theorem dX1_deliver_8 : decode cX1_deliver 8 = .ok (.iload_n 1, 1) := by decide +kernel
theorem dX1_deliver_9 : decode cX1_deliver 9 = .ok (.ishl, 1) := by decide +kernel
theorem dX1_deliver_10 : decode cX1_deliver 10 = .ok (.iconst (-1), 1) := by decide +kernel
theorem dX1_deliver_11 : decode cX1_deliver 11 = .ok (.ixor, 1) := by decide +kernel
theorem dX1_deliver_12 : decode cX1_deliver 12 = .ok (.iand, 1) := by decide +kernel
theorem dX1_deliver_13 : decode cX1_deliver 13 = .ok (.iastore, 1) := by decide +kernel
theorem dX1_deliver_14 : decode cX1_deliver 14 = .ok (.aload_n 0, 1) := by decide +kernel
theorem dX1_deliver_15 : decode cX1_deliver 15 = .ok (.getfield 59, 3) := by decide +kernel
theorem dX1_deliver_18 : decode cX1_deliver 18 = .ok (.iload_n 2, 1) := by decide +kernel
theorem dX1_deliver_19 : decode cX1_deliver 19 = .ok (.dup2, 1) := by decide +kernel
theorem dX1_deliver_20 : decode cX1_deliver 20 = .ok (.iaload, 1) := by decide +kernel
theorem dX1_deliver_21 : decode cX1_deliver 21 = .ok (.iconst 1, 1) := by decide +kernel
theorem dX1_deliver_22 : decode cX1_deliver 22 = .ok (.iload_n 1, 1) := by decide +kernel
theorem dX1_deliver_23 : decode cX1_deliver 23 = .ok (.ishl, 1) := by decide +kernel
theorem dX1_deliver_24 : decode cX1_deliver 24 = .ok (.ior, 1) := by decide +kernel
theorem dX1_deliver_25 : decode cX1_deliver 25 = .ok (.iastore, 1) := by decide +kernel
theorem dX1_deliver_26 : decode cX1_deliver 26 = .ok (.aload_n 0, 1) := by decide +kernel
theorem dX1_deliver_27 : decode cX1_deliver 27 = .ok (.dup, 1) := by decide +kernel
theorem dX1_deliver_28 : decode cX1_deliver 28 = .ok (.getfield 87, 3) := by decide +kernel
theorem dX1_deliver_31 : decode cX1_deliver 31 = .ok (.iconst 1, 1) := by decide +kernel
theorem dX1_deliver_32 : decode cX1_deliver 32 = .ok (.iadd, 1) := by decide +kernel
theorem dX1_deliver_33 : decode cX1_deliver 33 = .ok (.putfield 87, 3) := by decide +kernel
theorem dX1_deliver_36 : decode cX1_deliver 36 = .ok (.aload_n 0, 1) := by decide +kernel
theorem dX1_deliver_37 : decode cX1_deliver 37 = .ok (.getfield 41, 3) := by decide +kernel
theorem dX1_deliver_40 : decode cX1_deliver 40 = .ok (.iload_n 2, 1) := by decide +kernel
theorem dX1_deliver_41 : decode cX1_deliver 41 = .ok (.baload, 1) := by decide +kernel
theorem dX1_deliver_42 : decode cX1_deliver 42 = .ok (.ifCond .eq 39, 3) := by decide +kernel
theorem dX1_deliver_45 : decode cX1_deliver 45 = .ok (.aload_n 0, 1) := by decide +kernel
theorem dX1_deliver_46 : decode cX1_deliver 46 = .ok (.getfield 20, 3) := by decide +kernel
theorem dX1_deliver_49 : decode cX1_deliver 49 = .ok (.iload_n 1, 1) := by decide +kernel
theorem dX1_deliver_50 : decode cX1_deliver 50 = .ok (.baload, 1) := by decide +kernel
theorem dX1_deliver_51 : decode cX1_deliver 51 = .ok (.ifCond .eq 30, 3) := by decide +kernel
theorem dX1_deliver_54 : decode cX1_deliver 54 = .ok (.aload_n 0, 1) := by decide +kernel
theorem dX1_deliver_55 : decode cX1_deliver 55 = .ok (.getfield 38, 3) := by decide +kernel
theorem dX1_deliver_58 : decode cX1_deliver 58 = .ok (.iload_n 1, 1) := by decide +kernel
theorem dX1_deliver_59 : decode cX1_deliver 59 = .ok (.aload_n 0, 1) := by decide +kernel
theorem dX1_deliver_60 : decode cX1_deliver 60 = .ok (.iload_n 1, 1) := by decide +kernel
theorem dX1_deliver_61 : decode cX1_deliver 61 = .ok (.invokevirtual 79, 3) := by decide +kernel
theorem dX1_deliver_64 : decode cX1_deliver 64 = .ok (.iconst 1, 1) := by decide +kernel
end
section
theorem dX1_deliver_65 : decode cX1_deliver 65 = .ok (.iadd, 1) := by decide +kernel
theorem dX1_deliver_66 : decode cX1_deliver 66 = .ok (.iastore, 1) := by decide +kernel
theorem dX1_deliver_67 : decode cX1_deliver 67 = .ok (.aload_n 0, 1) := by decide +kernel
theorem dX1_deliver_68 : decode cX1_deliver 68 = .ok (.getfield 35, 3) := by decide +kernel
theorem dX1_deliver_71 : decode cX1_deliver 71 = .ok (.iload_n 1, 1) := by decide +kernel
theorem dX1_deliver_72 : decode cX1_deliver 72 = .ok (.aload_n 0, 1) := by decide +kernel
theorem dX1_deliver_73 : decode cX1_deliver 73 = .ok (.getfield 76, 3) := by decide +kernel
theorem dX1_deliver_76 : decode cX1_deliver 76 = .ok (.sipush 1440, 3) := by decide +kernel
theorem dX1_deliver_79 : decode cX1_deliver 79 = .ok (.idiv, 1) := by decide +kernel
theorem dX1_deliver_80 : decode cX1_deliver 80 = .ok (.iastore, 1) := by decide +kernel
theorem dX1_deliver_81 : decode cX1_deliver 81 = .ok (.return_, 1) := by decide +kernel
set_option maxRecDepth 20000 in
theorem ggX1_look_X1_can : GoodIn wsX1_look wsX1_can := goodIn_r _ [9, 10, 11, 12, 13, 14, 15, 16, 8, 17, 18, 19, 20, 21, 22, 23, 24, 25, 26, 32, 33, 34, 35, 36, 37, 38, 39, 40, 41, 42, 43, 44, 45, 46, 47, 48, 49, 50, 51, 52, 53] (by decide +kernel) (by decide +kernel)
set_option maxRecDepth 20000 in
theorem gX1_look_X1_can : GoodIn wsX1_look (wsV RX1 90 RX1 yX1_can wsX1_can) := goodIn_app (goodIn_of _ (by decide +kernel)) ggX1_look_X1_can
set_option maxRecDepth 20000 in
theorem ggX1_look_X1_deliver : GoodIn wsX1_look wsX1_deliver := goodIn_r _ [30, 4, 31, 1, 11, 12, 19, 18, 13, 14, 15, 16, 8, 17, 32, 33, 34, 35, 36, 37, 38, 39, 40, 41, 42, 43, 44, 45, 46, 47, 48, 49, 50, 51, 52, 53] (by decide +kernel) (by decide +kernel)
set_option maxRecDepth 20000 in
theorem gX1_look_X1_deliver : GoodIn wsX1_look (wsV RX1 94 RX1 yX1_deliver wsX1_deliver) := goodIn_app (goodIn_of _ (by decide +kernel)) ggX1_look_X1_deliver
theorem dX1_look_0 : decode cX1_look 0 = .ok (.aload_n 0, 1) := by decide +kernel
theorem dX1_look_1 : decode cX1_look 1 = .ok (.getfield 87, 3) := by decide +kernel
theorem dX1_look_4 : decode cX1_look 4 = .ok (.istore_n 1, 1) := by decide +kernel
theorem dX1_look_5 : decode cX1_look 5 = .ok (.iconst 0, 1) := by decide +kernel
theorem dX1_look_6 : decode cX1_look 6 = .ok (.istore_n 2, 1) := by decide +kernel
theorem dX1_look_7 : decode cX1_look 7 = .ok (.iload_n 2, 1) := by decide +kernel
theorem dX1_look_8 : decode cX1_look 8 = .ok (.aload_n 0, 1) := by decide +kernel
theorem dX1_look_9 : decode cX1_look 9 = .ok (.getfield 66, 3) := by decide +kernel
theorem dX1_look_12 : decode cX1_look 12 = .ok (.if_icmp .ge 54, 3) := by decide +kernel
theorem dX1_look_15 : decode cX1_look 15 = .ok (.iconst 0, 1) := by decide +kernel
theorem dX1_look_16 : decode cX1_look 16 = .ok (.istore_n 3, 1) := by decide +kernel
theorem dX1_look_17 : decode cX1_look 17 = .ok (.iload_n 3, 1) := by decide +kernel
theorem dX1_look_18 : decode cX1_look 18 = .ok (.aload_n 0, 1) := by decide +kernel
theorem dX1_look_19 : decode cX1_look 19 = .ok (.getfield 73, 3) := by decide +kernel
theorem dX1_look_22 : decode cX1_look 22 = .ok (.if_icmp .ge 38, 3) := by decide +kernel
theorem dX1_look_25 : decode cX1_look 25 = .ok (.aload_n 0, 1) := by decide +kernel
theorem dX1_look_26 : decode cX1_look 26 = .ok (.getfield 56, 3) := by decide +kernel
theorem dX1_look_29 : decode cX1_look 29 = .ok (.iload_n 3, 1) := by decide +kernel
theorem dX1_look_30 : decode cX1_look 30 = .ok (.iaload, 1) := by decide +kernel
theorem dX1_look_31 : decode cX1_look 31 = .ok (.iload_n 2, 1) := by decide +kernel
theorem dX1_look_32 : decode cX1_look 32 = .ok (.ishr, 1) := by decide +kernel
theorem dX1_look_33 : decode cX1_look 33 = .ok (.iconst 1, 1) := by decide +kernel
theorem dX1_look_34 : decode cX1_look 34 = .ok (.iand, 1) := by decide +kernel
theorem dX1_look_35 : decode cX1_look 35 = .ok (.iconst 1, 1) := by decide +kernel
theorem dX1_look_36 : decode cX1_look 36 = .ok (.if_icmp .ne 18, 3) := by decide +kernel
theorem dX1_look_39 : decode cX1_look 39 = .ok (.aload_n 0, 1) := by decide +kernel
theorem dX1_look_40 : decode cX1_look 40 = .ok (.iload_n 2, 1) := by decide +kernel
theorem dX1_look_41 : decode cX1_look 41 = .ok (.iload_n 3, 1) := by decide +kernel
theorem dX1_look_42 : decode cX1_look 42 = .ok (.invokevirtual 90, 3) := by decide +kernel
theorem dX1_look_45 : decode cX1_look 45 = .ok (.ifCond .eq 9, 3) := by decide +kernel
theorem dX1_look_48 : decode cX1_look 48 = .ok (.aload_n 0, 1) := by decide +kernel
theorem dX1_look_49 : decode cX1_look 49 = .ok (.iload_n 2, 1) := by decide +kernel
theorem dX1_look_50 : decode cX1_look 50 = .ok (.iload_n 3, 1) := by decide +kernel
theorem dX1_look_51 : decode cX1_look 51 = .ok (.invokevirtual 94, 3) := by decide +kernel
theorem dX1_look_54 : decode cX1_look 54 = .ok (.iinc 3 1, 3) := by decide +kernel
theorem dX1_look_57 : decode cX1_look 57 = .ok (.goto (-40), 3) := by decide +kernel
theorem dX1_look_60 : decode cX1_look 60 = .ok (.iinc 2 1, 3) := by decide +kernel
theorem dX1_look_63 : decode cX1_look 63 = .ok (.goto (-56), 3) := by decide +kernel
theorem dX1_look_66 : decode cX1_look 66 = .ok (.aload_n 0, 1) := by decide +kernel
theorem dX1_look_67 : decode cX1_look 67 = .ok (.getfield 87, 3) := by decide +kernel
theorem dX1_look_70 : decode cX1_look 70 = .ok (.iload_n 1, 1) := by decide +kernel
theorem dX1_look_71 : decode cX1_look 71 = .ok (.isub, 1) := by decide +kernel
theorem dX1_look_72 : decode cX1_look 72 = .ok (.ireturn, 1) := by decide +kernel
theorem dX1_end_0 : decode cX1_end 0 = .ok (.aload_n 0, 1) := by decide +kernel
theorem dX1_end_1 : decode cX1_end 1 = .ok (.getfield 53, 3) := by decide +kernel
theorem dX1_end_4 : decode cX1_end 4 = .ok (.iload_n 1, 1) := by decide +kernel
theorem dX1_end_5 : decode cX1_end 5 = .ok (.iconst 1, 1) := by decide +kernel
theorem dX1_end_6 : decode cX1_end 6 = .ok (.bastore, 1) := by decide +kernel
theorem dX1_end_7 : decode cX1_end 7 = .ok (.aload_n 0, 1) := by decide +kernel
theorem dX1_end_8 : decode cX1_end 8 = .ok (.getfield 56, 3) := by decide +kernel
theorem dX1_end_11 : decode cX1_end 11 = .ok (.iload_n 1, 1) := by decide +kernel
theorem dX1_end_12 : decode cX1_end 12 = .ok (.iconst 0, 1) := by decide +kernel
theorem dX1_end_13 : decode cX1_end 13 = .ok (.iastore, 1) := by decide +kernel
theorem dX1_end_14 : decode cX1_end 14 = .ok (.return_, 1) := by decide +kernel
set_option maxRecDepth 20000 in
theorem ggX1_addDevice_X1_in : GoodIn wsX1_addDevice wsX1_in := goodIn_r _ [8] (by decide +kernel) (by decide +kernel)
set_option maxRecDepth 20000 in
theorem gX1_addDevice_X1_in : GoodIn wsX1_addDevice (va_wsS RX1 69 yX1_in wsX1_in) := goodIn_app (goodIn_of _ (by decide +kernel)) ggX1_addDevice_X1_in
set_option maxRecDepth 20000 in
theorem ggX1_addDevice_X1_refused : GoodIn wsX1_addDevice wsX1_refused := goodIn_r _ [12, 13, 14, 15, 16, 17, 18, 19, 20, 21, 22, 23, 24, 25, 26, 27, 28, 29, 30, 31, 32, 33, 34, 35] (by decide +kernel) (by decide +kernel)
set_option maxRecDepth 20000 in
theorem gX1_addDevice_X1_refused : GoodIn wsX1_addDevice (wsV RX1 98 RX1 yX1_refused wsX1_refused) := goodIn_app (goodIn_of _ (by decide +kernel)) ggX1_addDevice_X1_refused
theorem dX1_addDevice_0 : decode cX1_addDevice 0 = .ok (.iload_n 1, 1) := by decide +kernel
theorem dX1_addDevice_1 : decode cX1_addDevice 1 = .ok (.iconst 0, 1) := by decide +kernel
theorem dX1_addDevice_2 : decode cX1_addDevice 2 = .ok (.bipush 7, 2) := by decide +kernel
theorem dX1_addDevice_4 : decode cX1_addDevice 4 = .ok (.invokestatic 69, 3) := by decide +kernel
theorem dX1_addDevice_7 : decode cX1_addDevice 7 = .ok (.ifCond .eq 20, 3) := by decide +kernel
theorem dX1_addDevice_10 : decode cX1_addDevice 10 = .ok (.iload_n 2, 1) := by decide +kernel
theorem dX1_addDevice_11 : decode cX1_addDevice 11 = .ok (.sipush (-720), 3) := by decide +kernel
theorem dX1_addDevice_14 : decode cX1_addDevice 14 = .ok (.sipush 840, 3) := by decide +kernel
theorem dX1_addDevice_17 : decode cX1_addDevice 17 = .ok (.invokestatic 69, 3) := by decide +kernel
theorem dX1_addDevice_20 : decode cX1_addDevice 20 = .ok (.ifCond .eq 7, 3) := by decide +kernel
theorem dX1_addDevice_23 : decode cX1_addDevice 23 = .ok (.iconst 1, 1) := by decide +kernel
theorem dX1_addDevice_24 : decode cX1_addDevice 24 = .ok (.goto 4, 3) := by decide +kernel
theorem dX1_addDevice_27 : decode cX1_addDevice 27 = .ok (.iconst 0, 1) := by decide +kernel
theorem dX1_addDevice_28 : decode cX1_addDevice 28 = .ok (.istore_n 3, 1) := by decide +kernel
theorem dX1_addDevice_29 : decode cX1_addDevice 29 = .ok (.aload_n 0, 1) := by decide +kernel
theorem dX1_addDevice_30 : decode cX1_addDevice 30 = .ok (.iload_n 3, 1) := by decide +kernel
theorem dX1_addDevice_31 : decode cX1_addDevice 31 = .ok (.ifCond .ne 7, 3) := by decide +kernel
theorem dX1_addDevice_34 : decode cX1_addDevice 34 = .ok (.iconst 1, 1) := by decide +kernel
theorem dX1_addDevice_35 : decode cX1_addDevice 35 = .ok (.goto 17, 3) := by decide +kernel
theorem dX1_addDevice_38 : decode cX1_addDevice 38 = .ok (.aload_n 0, 1) := by decide +kernel
theorem dX1_addDevice_39 : decode cX1_addDevice 39 = .ok (.getfield 66, 3) := by decide +kernel
theorem dX1_addDevice_42 : decode cX1_addDevice 42 = .ok (.bipush 16, 2) := by decide +kernel
theorem dX1_addDevice_44 : decode cX1_addDevice 44 = .ok (.if_icmp .ne 7, 3) := by decide +kernel
theorem dX1_addDevice_47 : decode cX1_addDevice 47 = .ok (.iconst 2, 1) := by decide +kernel
theorem dX1_addDevice_48 : decode cX1_addDevice 48 = .ok (.goto 4, 3) := by decide +kernel
theorem dX1_addDevice_51 : decode cX1_addDevice 51 = .ok (.iconst 0, 1) := by decide +kernel
theorem dX1_addDevice_52 : decode cX1_addDevice 52 = .ok (.invokevirtual 98, 3) := by decide +kernel
theorem dX1_addDevice_55 : decode cX1_addDevice 55 = .ok (.ifCond .eq 5, 3) := by decide +kernel
theorem dX1_addDevice_58 : decode cX1_addDevice 58 = .ok (.iconst 0, 1) := by decide +kernel
theorem dX1_addDevice_59 : decode cX1_addDevice 59 = .ok (.ireturn, 1) := by decide +kernel
theorem dX1_addDevice_60 : decode cX1_addDevice 60 = .ok (.aload_n 0, 1) := by decide +kernel
theorem dX1_addDevice_61 : decode cX1_addDevice 61 = .ok (.getfield 7, 3) := by decide +kernel
theorem dX1_addDevice_64 : decode cX1_addDevice 64 = .ok (.aload_n 0, 1) := by decide +kernel
theorem dX1_addDevice_65 : decode cX1_addDevice 65 = .ok (.getfield 66, 3) := by decide +kernel
theorem dX1_addDevice_68 : decode cX1_addDevice 68 = .ok (.iload_n 1, 1) := by decide +kernel
theorem dX1_addDevice_69 : decode cX1_addDevice 69 = .ok (.iastore, 1) := by decide +kernel
theorem dX1_addDevice_70 : decode cX1_addDevice 70 = .ok (.aload_n 0, 1) := by decide +kernel
theorem dX1_addDevice_71 : decode cX1_addDevice 71 = .ok (.getfield 13, 3) := by decide +kernel
theorem dX1_addDevice_74 : decode cX1_addDevice 74 = .ok (.aload_n 0, 1) := by decide +kernel
theorem dX1_addDevice_75 : decode cX1_addDevice 75 = .ok (.getfield 66, 3) := by decide +kernel
theorem dX1_addDevice_78 : decode cX1_addDevice 78 = .ok (.iload_n 2, 1) := by decide +kernel
theorem dX1_addDevice_79 : decode cX1_addDevice 79 = .ok (.iastore, 1) := by decide +kernel
theorem dX1_addDevice_80 : decode cX1_addDevice 80 = .ok (.aload_n 0, 1) := by decide +kernel
theorem dX1_addDevice_81 : decode cX1_addDevice 81 = .ok (.getfield 16, 3) := by decide +kernel
theorem dX1_addDevice_84 : decode cX1_addDevice 84 = .ok (.aload_n 0, 1) := by decide +kernel
theorem dX1_addDevice_85 : decode cX1_addDevice 85 = .ok (.getfield 66, 3) := by decide +kernel
theorem dX1_addDevice_88 : decode cX1_addDevice 88 = .ok (.iconst 1, 1) := by decide +kernel
theorem dX1_addDevice_89 : decode cX1_addDevice 89 = .ok (.bastore, 1) := by decide +kernel
theorem dX1_addDevice_90 : decode cX1_addDevice 90 = .ok (.aload_n 0, 1) := by decide +kernel
theorem dX1_addDevice_91 : decode cX1_addDevice 91 = .ok (.dup, 1) := by decide +kernel
theorem dX1_addDevice_92 : decode cX1_addDevice 92 = .ok (.getfield 66, 3) := by decide +kernel
theorem dX1_addDevice_95 : decode cX1_addDevice 95 = .ok (.iconst 1, 1) := by decide +kernel
theorem dX1_addDevice_96 : decode cX1_addDevice 96 = .ok (.iadd, 1) := by decide +kernel
theorem dX1_addDevice_97 : decode cX1_addDevice 97 = .ok (.putfield 66, 3) := by decide +kernel
theorem dX1_addDevice_100 : decode cX1_addDevice 100 = .ok (.aload_n 0, 1) := by decide +kernel
theorem dX1_addDevice_101 : decode cX1_addDevice 101 = .ok (.getfield 66, 3) := by decide +kernel
theorem dX1_addDevice_104 : decode cX1_addDevice 104 = .ok (.iconst 1, 1) := by decide +kernel
theorem dX1_addDevice_105 : decode cX1_addDevice 105 = .ok (.isub, 1) := by decide +kernel
theorem dX1_addDevice_106 : decode cX1_addDevice 106 = .ok (.ireturn, 1) := by decide +kernel
set_option maxRecDepth 20000 in
theorem ggX1_setOnline_X1_isDevice : GoodIn wsX1_setOnline wsX1_isDevice := goodIn_r _ [6, 7, 8, 9, 5, 10, 48, 49, 50, 51, 52, 53, 54, 55, 56, 57, 58, 59, 60, 61, 62, 63, 64, 65, 66, 67, 68, 69] (by decide +kernel) (by decide +kernel)
set_option maxRecDepth 20000 in
theorem gX1_setOnline_X1_isDevice : GoodIn wsX1_setOnline (wsV RX1 101 RX1 yX1_isDevice wsX1_isDevice) := goodIn_app (goodIn_of _ (by decide +kernel)) ggX1_setOnline_X1_isDevice
set_option maxRecDepth 20000 in
theorem ggX1_setOnline_X1_refused : GoodIn wsX1_setOnline wsX1_refused := goodIn_r _ [14, 15, 48, 49, 50, 51, 52, 53, 54, 55, 56, 57, 58, 59, 60, 61, 62, 63, 64, 65, 66, 67, 68, 69] (by decide +kernel) (by decide +kernel)
set_option maxRecDepth 20000 in
theorem gX1_setOnline_X1_refused : GoodIn wsX1_setOnline (wsV RX1 98 RX1 yX1_refused wsX1_refused) := goodIn_app (goodIn_of _ (by decide +kernel)) ggX1_setOnline_X1_refused
set_option maxRecDepth 20000 in
theorem ggX1_setOnline_X1_look : GoodIn wsX1_setOnline wsX1_look := goodIn_r _ [19, 20, 7, 21, 22, 23, 24, 25, 5, 26, 1, 27, 28, 29, 30, 31, 32, 33, 34, 35, 36, 37, 38, 39, 40, 41, 42, 43, 44, 45, 46, 47, 48, 49, 50, 51, 52, 53, 54, 55, 56, 57, 58, 59, 60, 61, 62, 63, 64, 65, 66, 67, 68, 69] (by decide +kernel) (by decide +kernel)
set_option maxRecDepth 20000 in
theorem gX1_setOnline_X1_look : GoodIn wsX1_setOnline (wsV RX1 104 RX1 yX1_look wsX1_look) := goodIn_app (goodIn_of _ (by decide +kernel)) ggX1_setOnline_X1_look
theorem dX1_setOnline_0 : decode cX1_setOnline 0 = .ok (.aload_n 0, 1) := by decide +kernel
theorem dX1_setOnline_1 : decode cX1_setOnline 1 = .ok (.aload_n 0, 1) := by decide +kernel
theorem dX1_setOnline_2 : decode cX1_setOnline 2 = .ok (.iload_n 1, 1) := by decide +kernel
theorem dX1_setOnline_3 : decode cX1_setOnline 3 = .ok (.invokevirtual 101, 3) := by decide +kernel
theorem dX1_setOnline_6 : decode cX1_setOnline 6 = .ok (.ifCond .eq 7, 3) := by decide +kernel
theorem dX1_setOnline_9 : decode cX1_setOnline 9 = .ok (.iconst 0, 1) := by decide +kernel
theorem dX1_setOnline_10 : decode cX1_setOnline 10 = .ok (.goto 4, 3) := by decide +kernel
theorem dX1_setOnline_13 : decode cX1_setOnline 13 = .ok (.iconst 1, 1) := by decide +kernel
theorem dX1_setOnline_14 : decode cX1_setOnline 14 = .ok (.invokevirtual 98, 3) := by decide +kernel
theorem dX1_setOnline_17 : decode cX1_setOnline 17 = .ok (.ifCond .eq 5, 3) := by decide +kernel
theorem dX1_setOnline_20 : decode cX1_setOnline 20 = .ok (.iconst 0, 1) := by decide +kernel
theorem dX1_setOnline_21 : decode cX1_setOnline 21 = .ok (.ireturn, 1) := by decide +kernel
theorem dX1_setOnline_22 : decode cX1_setOnline 22 = .ok (.aload_n 0, 1) := by decide +kernel
theorem dX1_setOnline_23 : decode cX1_setOnline 23 = .ok (.getfield 16, 3) := by decide +kernel
theorem dX1_setOnline_26 : decode cX1_setOnline 26 = .ok (.iload_n 1, 1) := by decide +kernel
theorem dX1_setOnline_27 : decode cX1_setOnline 27 = .ok (.iload_n 2, 1) := by decide +kernel
theorem dX1_setOnline_28 : decode cX1_setOnline 28 = .ok (.bastore, 1) := by decide +kernel
theorem dX1_setOnline_29 : decode cX1_setOnline 29 = .ok (.aload_n 0, 1) := by decide +kernel
theorem dX1_setOnline_30 : decode cX1_setOnline 30 = .ok (.invokevirtual 104, 3) := by decide +kernel
theorem dX1_setOnline_33 : decode cX1_setOnline 33 = .ok (.ireturn, 1) := by decide +kernel
set_option maxRecDepth 20000 in
theorem ggX1_setDozing_X1_isDevice : GoodIn wsX1_setDozing wsX1_isDevice := goodIn_r _ [6, 7, 8, 9, 5, 10, 48, 49, 50, 51, 52, 53, 54, 55, 56, 57, 58, 59, 60, 61, 62, 63, 64, 65, 66, 67, 68, 69] (by decide +kernel) (by decide +kernel)
set_option maxRecDepth 20000 in
theorem gX1_setDozing_X1_isDevice : GoodIn wsX1_setDozing (wsV RX1 101 RX1 yX1_isDevice wsX1_isDevice) := goodIn_app (goodIn_of _ (by decide +kernel)) ggX1_setDozing_X1_isDevice
set_option maxRecDepth 20000 in
theorem ggX1_setDozing_X1_refused : GoodIn wsX1_setDozing wsX1_refused := goodIn_r _ [14, 15, 48, 49, 50, 51, 52, 53, 54, 55, 56, 57, 58, 59, 60, 61, 62, 63, 64, 65, 66, 67, 68, 69] (by decide +kernel) (by decide +kernel)
set_option maxRecDepth 20000 in
theorem gX1_setDozing_X1_refused : GoodIn wsX1_setDozing (wsV RX1 98 RX1 yX1_refused wsX1_refused) := goodIn_app (goodIn_of _ (by decide +kernel)) ggX1_setDozing_X1_refused
set_option maxRecDepth 20000 in
theorem ggX1_setDozing_X1_look : GoodIn wsX1_setDozing wsX1_look := goodIn_r _ [19, 20, 7, 21, 22, 23, 24, 25, 5, 26, 27, 28, 1, 29, 30, 31, 32, 33, 34, 35, 36, 37, 38, 39, 40, 41, 42, 43, 44, 45, 46, 47, 48, 49, 50, 51, 52, 53, 54, 55, 56, 57, 58, 59, 60, 61, 62, 63, 64, 65, 66, 67, 68, 69] (by decide +kernel) (by decide +kernel)
set_option maxRecDepth 20000 in
theorem gX1_setDozing_X1_look : GoodIn wsX1_setDozing (wsV RX1 104 RX1 yX1_look wsX1_look) := goodIn_app (goodIn_of _ (by decide +kernel)) ggX1_setDozing_X1_look
theorem dX1_setDozing_0 : decode cX1_setDozing 0 = .ok (.aload_n 0, 1) := by decide +kernel
theorem dX1_setDozing_1 : decode cX1_setDozing 1 = .ok (.aload_n 0, 1) := by decide +kernel
theorem dX1_setDozing_2 : decode cX1_setDozing 2 = .ok (.iload_n 1, 1) := by decide +kernel
theorem dX1_setDozing_3 : decode cX1_setDozing 3 = .ok (.invokevirtual 101, 3) := by decide +kernel
theorem dX1_setDozing_6 : decode cX1_setDozing 6 = .ok (.ifCond .eq 7, 3) := by decide +kernel
theorem dX1_setDozing_9 : decode cX1_setDozing 9 = .ok (.iconst 0, 1) := by decide +kernel
theorem dX1_setDozing_10 : decode cX1_setDozing 10 = .ok (.goto 4, 3) := by decide +kernel
theorem dX1_setDozing_13 : decode cX1_setDozing 13 = .ok (.iconst 1, 1) := by decide +kernel
theorem dX1_setDozing_14 : decode cX1_setDozing 14 = .ok (.invokevirtual 98, 3) := by decide +kernel
theorem dX1_setDozing_17 : decode cX1_setDozing 17 = .ok (.ifCond .eq 5, 3) := by decide +kernel
theorem dX1_setDozing_20 : decode cX1_setDozing 20 = .ok (.iconst 0, 1) := by decide +kernel
theorem dX1_setDozing_21 : decode cX1_setDozing 21 = .ok (.ireturn, 1) := by decide +kernel
theorem dX1_setDozing_22 : decode cX1_setDozing 22 = .ok (.aload_n 0, 1) := by decide +kernel
theorem dX1_setDozing_23 : decode cX1_setDozing 23 = .ok (.getfield 20, 3) := by decide +kernel
theorem dX1_setDozing_26 : decode cX1_setDozing 26 = .ok (.iload_n 1, 1) := by decide +kernel
theorem dX1_setDozing_27 : decode cX1_setDozing 27 = .ok (.iload_n 2, 1) := by decide +kernel
theorem dX1_setDozing_28 : decode cX1_setDozing 28 = .ok (.bastore, 1) := by decide +kernel
theorem dX1_setDozing_29 : decode cX1_setDozing 29 = .ok (.aload_n 0, 1) := by decide +kernel
theorem dX1_setDozing_30 : decode cX1_setDozing 30 = .ok (.invokevirtual 104, 3) := by decide +kernel
theorem dX1_setDozing_33 : decode cX1_setDozing 33 = .ok (.ireturn, 1) := by decide +kernel
set_option maxRecDepth 20000 in
theorem ggX1_setQuiet_X1_isDevice : GoodIn wsX1_setQuiet wsX1_isDevice := goodIn_r _ [7, 8, 9, 10, 6, 11, 48, 49, 50, 51, 52, 53, 54, 55, 56, 57, 58, 59, 60, 61, 62, 63, 64, 65, 66, 67, 68, 69] (by decide +kernel) (by decide +kernel)
set_option maxRecDepth 20000 in
theorem gX1_setQuiet_X1_isDevice : GoodIn wsX1_setQuiet (wsV RX1 101 RX1 yX1_isDevice wsX1_isDevice) := goodIn_app (goodIn_of _ (by decide +kernel)) ggX1_setQuiet_X1_isDevice
set_option maxRecDepth 20000 in
theorem ggX1_setQuiet_X1_in : GoodIn wsX1_setQuiet wsX1_in := goodIn_r _ [11] (by decide +kernel) (by decide +kernel)
set_option maxRecDepth 20000 in
theorem gX1_setQuiet_X1_in : GoodIn wsX1_setQuiet (va_wsS RX1 69 yX1_in wsX1_in) := goodIn_app (goodIn_of _ (by decide +kernel)) ggX1_setQuiet_X1_in
set_option maxRecDepth 20000 in
theorem ggX1_setQuiet_X1_refused : GoodIn wsX1_setQuiet wsX1_refused := goodIn_r _ [15, 16, 48, 49, 50, 51, 52, 53, 54, 55, 56, 57, 58, 59, 60, 61, 62, 63, 64, 65, 66, 67, 68, 69] (by decide +kernel) (by decide +kernel)
set_option maxRecDepth 20000 in
theorem gX1_setQuiet_X1_refused : GoodIn wsX1_setQuiet (wsV RX1 98 RX1 yX1_refused wsX1_refused) := goodIn_app (goodIn_of _ (by decide +kernel)) ggX1_setQuiet_X1_refused
set_option maxRecDepth 20000 in
theorem ggX1_setQuiet_X1_look : GoodIn wsX1_setQuiet wsX1_look := goodIn_r _ [20, 21, 8, 22, 23, 24, 25, 26, 6, 27, 28, 29, 30, 31, 32, 33, 34, 35, 36, 37, 38, 39, 40, 41, 42, 1, 2, 43, 44, 45, 46, 47, 48, 49, 50, 51, 52, 53, 54, 55, 56, 57, 58, 59, 60, 61, 62, 63, 64, 65, 66, 67, 68, 69] (by decide +kernel) (by decide +kernel)
set_option maxRecDepth 20000 in
theorem gX1_setQuiet_X1_look : GoodIn wsX1_setQuiet (wsV RX1 104 RX1 yX1_look wsX1_look) := goodIn_app (goodIn_of _ (by decide +kernel)) ggX1_setQuiet_X1_look
theorem dX1_setQuiet_0 : decode cX1_setQuiet 0 = .ok (.aload_n 0, 1) := by decide +kernel
theorem dX1_setQuiet_1 : decode cX1_setQuiet 1 = .ok (.aload_n 0, 1) := by decide +kernel
theorem dX1_setQuiet_2 : decode cX1_setQuiet 2 = .ok (.iload_n 1, 1) := by decide +kernel
theorem dX1_setQuiet_3 : decode cX1_setQuiet 3 = .ok (.invokevirtual 101, 3) := by decide +kernel
theorem dX1_setQuiet_6 : decode cX1_setQuiet 6 = .ok (.ifCond .ne 7, 3) := by decide +kernel
theorem dX1_setQuiet_9 : decode cX1_setQuiet 9 = .ok (.iconst 1, 1) := by decide +kernel
theorem dX1_setQuiet_10 : decode cX1_setQuiet 10 = .ok (.goto 30, 3) := by decide +kernel
theorem dX1_setQuiet_13 : decode cX1_setQuiet 13 = .ok (.iload_n 2, 1) := by decide +kernel
theorem dX1_setQuiet_14 : decode cX1_setQuiet 14 = .ok (.iconst 0, 1) := by decide +kernel
theorem dX1_setQuiet_15 : decode cX1_setQuiet 15 = .ok (.sipush 1439, 3) := by decide +kernel
theorem dX1_setQuiet_18 : decode cX1_setQuiet 18 = .ok (.invokestatic 69, 3) := by decide +kernel
theorem dX1_setQuiet_21 : decode cX1_setQuiet 21 = .ok (.ifCond .eq 18, 3) := by decide +kernel
theorem dX1_setQuiet_24 : decode cX1_setQuiet 24 = .ok (.iload_n 3, 1) := by decide +kernel
theorem dX1_setQuiet_25 : decode cX1_setQuiet 25 = .ok (.iconst 0, 1) := by decide +kernel
theorem dX1_setQuiet_26 : decode cX1_setQuiet 26 = .ok (.sipush 1439, 3) := by decide +kernel
theorem dX1_setQuiet_29 : decode cX1_setQuiet 29 = .ok (.invokestatic 69, 3) := by decide +kernel
theorem dX1_setQuiet_32 : decode cX1_setQuiet 32 = .ok (.ifCond .eq 7, 3) := by decide +kernel
theorem dX1_setQuiet_35 : decode cX1_setQuiet 35 = .ok (.iconst 0, 1) := by decide +kernel
theorem dX1_setQuiet_36 : decode cX1_setQuiet 36 = .ok (.goto 4, 3) := by decide +kernel
theorem dX1_setQuiet_39 : decode cX1_setQuiet 39 = .ok (.iconst 2, 1) := by decide +kernel
theorem dX1_setQuiet_40 : decode cX1_setQuiet 40 = .ok (.invokevirtual 98, 3) := by decide +kernel
theorem dX1_setQuiet_43 : decode cX1_setQuiet 43 = .ok (.ifCond .eq 5, 3) := by decide +kernel
theorem dX1_setQuiet_46 : decode cX1_setQuiet 46 = .ok (.iconst 0, 1) := by decide +kernel
theorem dX1_setQuiet_47 : decode cX1_setQuiet 47 = .ok (.ireturn, 1) := by decide +kernel
theorem dX1_setQuiet_48 : decode cX1_setQuiet 48 = .ok (.aload_n 0, 1) := by decide +kernel
theorem dX1_setQuiet_49 : decode cX1_setQuiet 49 = .ok (.getfield 26, 3) := by decide +kernel
theorem dX1_setQuiet_52 : decode cX1_setQuiet 52 = .ok (.iload_n 1, 1) := by decide +kernel
theorem dX1_setQuiet_53 : decode cX1_setQuiet 53 = .ok (.iload_n 2, 1) := by decide +kernel
theorem dX1_setQuiet_54 : decode cX1_setQuiet 54 = .ok (.iastore, 1) := by decide +kernel
theorem dX1_setQuiet_55 : decode cX1_setQuiet 55 = .ok (.aload_n 0, 1) := by decide +kernel
theorem dX1_setQuiet_56 : decode cX1_setQuiet 56 = .ok (.getfield 29, 3) := by decide +kernel
theorem dX1_setQuiet_59 : decode cX1_setQuiet 59 = .ok (.iload_n 1, 1) := by decide +kernel
theorem dX1_setQuiet_60 : decode cX1_setQuiet 60 = .ok (.iload_n 3, 1) := by decide +kernel
theorem dX1_setQuiet_61 : decode cX1_setQuiet 61 = .ok (.iastore, 1) := by decide +kernel
theorem dX1_setQuiet_62 : decode cX1_setQuiet 62 = .ok (.aload_n 0, 1) := by decide +kernel
theorem dX1_setQuiet_63 : decode cX1_setQuiet 63 = .ok (.invokevirtual 104, 3) := by decide +kernel
theorem dX1_setQuiet_66 : decode cX1_setQuiet 66 = .ok (.ireturn, 1) := by decide +kernel
set_option maxRecDepth 20000 in
theorem ggX1_join_X1_isDevice : GoodIn wsX1_join wsX1_isDevice := goodIn_r _ [6, 7, 8, 9, 5, 10, 16, 17, 18, 19, 20, 21, 22, 23, 24, 25, 26, 27, 28, 29, 30, 31, 32, 33, 34, 35, 36, 37] (by decide +kernel) (by decide +kernel)
set_option maxRecDepth 20000 in
theorem gX1_join_X1_isDevice : GoodIn wsX1_join (wsV RX1 101 RX1 yX1_isDevice wsX1_isDevice) := goodIn_app (goodIn_of _ (by decide +kernel)) ggX1_join_X1_isDevice
set_option maxRecDepth 20000 in
theorem ggX1_join_X1_in : GoodIn wsX1_join wsX1_in := goodIn_r _ [10] (by decide +kernel) (by decide +kernel)
set_option maxRecDepth 20000 in
theorem gX1_join_X1_in : GoodIn wsX1_join (va_wsS RX1 69 yX1_in wsX1_in) := goodIn_app (goodIn_of _ (by decide +kernel)) ggX1_join_X1_in
set_option maxRecDepth 20000 in
theorem ggX1_join_X1_refused : GoodIn wsX1_join wsX1_refused := goodIn_r _ [14, 15, 16, 17, 18, 19, 20, 21, 22, 23, 24, 25, 26, 27, 28, 29, 30, 31, 32, 33, 34, 35, 36, 37] (by decide +kernel) (by decide +kernel)
set_option maxRecDepth 20000 in
theorem gX1_join_X1_refused : GoodIn wsX1_join (wsV RX1 98 RX1 yX1_refused wsX1_refused) := goodIn_app (goodIn_of _ (by decide +kernel)) ggX1_join_X1_refused
theorem dX1_join_0 : decode cX1_join 0 = .ok (.aload_n 0, 1) := by decide +kernel
theorem dX1_join_1 : decode cX1_join 1 = .ok (.aload_n 0, 1) := by decide +kernel
theorem dX1_join_2 : decode cX1_join 2 = .ok (.iload_n 1, 1) := by decide +kernel
theorem dX1_join_3 : decode cX1_join 3 = .ok (.invokevirtual 101, 3) := by decide +kernel
theorem dX1_join_6 : decode cX1_join 6 = .ok (.ifCond .ne 7, 3) := by decide +kernel
theorem dX1_join_9 : decode cX1_join 9 = .ok (.iconst 1, 1) := by decide +kernel
theorem dX1_join_10 : decode cX1_join 10 = .ok (.goto 17, 3) := by decide +kernel
theorem dX1_join_13 : decode cX1_join 13 = .ok (.iload_n 2, 1) := by decide +kernel
theorem dX1_join_14 : decode cX1_join 14 = .ok (.iconst 0, 1) := by decide +kernel
theorem dX1_join_15 : decode cX1_join 15 = .ok (.iconst 5, 1) := by decide +kernel
theorem dX1_join_16 : decode cX1_join 16 = .ok (.invokestatic 69, 3) := by decide +kernel
theorem dX1_join_19 : decode cX1_join 19 = .ok (.ifCond .eq 7, 3) := by decide +kernel
theorem dX1_join_22 : decode cX1_join 22 = .ok (.iconst 0, 1) := by decide +kernel
theorem dX1_join_23 : decode cX1_join 23 = .ok (.goto 4, 3) := by decide +kernel
theorem dX1_join_26 : decode cX1_join 26 = .ok (.iconst 2, 1) := by decide +kernel
theorem dX1_join_27 : decode cX1_join 27 = .ok (.invokevirtual 98, 3) := by decide +kernel
theorem dX1_join_30 : decode cX1_join 30 = .ok (.ifCond .eq 5, 3) := by decide +kernel
theorem dX1_join_33 : decode cX1_join 33 = .ok (.iconst 0, 1) := by decide +kernel
theorem dX1_join_34 : decode cX1_join 34 = .ok (.ireturn, 1) := by decide +kernel
theorem dX1_join_35 : decode cX1_join 35 = .ok (.aload_n 0, 1) := by decide +kernel
theorem dX1_join_36 : decode cX1_join 36 = .ok (.getfield 32, 3) := by decide +kernel
theorem dX1_join_39 : decode cX1_join 39 = .ok (.iload_n 1, 1) := by decide +kernel
theorem dX1_join_40 : decode cX1_join 40 = .ok (.iaload, 1) := by decide +kernel
theorem dX1_join_41 : decode cX1_join 41 = .ok (.iload_n 2, 1) := by decide +kernel
theorem dX1_join_42 : decode cX1_join 42 = .ok (.ishr, 1) := by decide +kernel
theorem dX1_join_43 : decode cX1_join 43 = .ok (.iconst 1, 1) := by decide +kernel
theorem dX1_join_44 : decode cX1_join 44 = .ok (.iand, 1) := by decide +kernel
theorem dX1_join_45 : decode cX1_join 45 = .ok (.iconst 1, 1) := by decide +kernel
theorem dX1_join_46 : decode cX1_join 46 = .ok (.if_icmp .ne 7, 3) := by decide +kernel
theorem dX1_join_49 : decode cX1_join 49 = .ok (.iconst 1, 1) := by decide +kernel
theorem dX1_join_50 : decode cX1_join 50 = .ok (.goto 4, 3) := by decide +kernel
theorem dX1_join_53 : decode cX1_join 53 = .ok (.iconst 0, 1) := by decide +kernel
theorem dX1_join_54 : decode cX1_join 54 = .ok (.istore 4, 2) := by decide +kernel
theorem dX1_join_56 : decode cX1_join 56 = .ok (.aload_n 0, 1) := by decide +kernel
theorem dX1_join_57 : decode cX1_join 57 = .ok (.getfield 32, 3) := by decide +kernel
theorem dX1_join_60 : decode cX1_join 60 = .ok (.iload_n 1, 1) := by decide +kernel
theorem dX1_join_61 : decode cX1_join 61 = .ok (.iload_n 3, 1) := by decide +kernel
theorem dX1_join_62 : decode cX1_join 62 = .ok (.ifCond .eq 16, 3) := by decide +kernel
theorem dX1_join_65 : decode cX1_join 65 = .ok (.aload_n 0, 1) := by decide +kernel
theorem dX1_join_66 : decode cX1_join 66 = .ok (.getfield 32, 3) := by decide +kernel
theorem dX1_join_69 : decode cX1_join 69 = .ok (.iload_n 1, 1) := by decide +kernel
theorem dX1_join_70 : decode cX1_join 70 = .ok (.iaload, 1) := by decide +kernel
theorem dX1_join_71 : decode cX1_join 71 = .ok (.iconst 1, 1) := by decide +kernel
theorem dX1_join_72 : decode cX1_join 72 = .ok (.iload_n 2, 1) := by decide +kernel
theorem dX1_join_73 : decode cX1_join 73 = .ok (.ishl, 1) := by decide +kernel
theorem dX1_join_74 : decode cX1_join 74 = .ok (.ior, 1) := by decide +kernel
theorem dX1_join_75 : decode cX1_join 75 = .ok (.goto 15, 3) := by decide +kernel
theorem dX1_join_78 : decode cX1_join 78 = .ok (.aload_n 0, 1) := by decide +kernel
theorem dX1_join_79 : decode cX1_join 79 = .ok (.getfield 32, 3) := by decide +kernel
theorem dX1_join_82 : decode cX1_join 82 = .ok (.iload_n 1, 1) := by decide +kernel
theorem dX1_join_83 : decode cX1_join 83 = .ok (.iaload, 1) := by decide +kernel
theorem dX1_join_84 : decode cX1_join 84 = .ok (.iconst 1, 1) := by decide +kernel
theorem dX1_join_85 : decode cX1_join 85 = .ok (.iload_n 2, 1) := by decide +kernel
theorem dX1_join_86 : decode cX1_join 86 = .ok (.ishl, 1) := by decide +kernel
theorem dX1_join_87 : decode cX1_join 87 = .ok (.iconst (-1), 1) := by decide +kernel
theorem dX1_join_88 : decode cX1_join 88 = .ok (.ixor, 1) := by decide +kernel
theorem dX1_join_89 : decode cX1_join 89 = .ok (.iand, 1) := by decide +kernel
theorem dX1_join_90 : decode cX1_join 90 = .ok (.iastore, 1) := by decide +kernel
theorem dX1_join_91 : decode cX1_join 91 = .ok (.iload 4, 2) := by decide +kernel
theorem dX1_join_93 : decode cX1_join 93 = .ok (.ireturn, 1) := by decide +kernel
theorem dX1_countWaiting_0 : decode cX1_countWaiting 0 = .ok (.iconst 0, 1) := by decide +kernel
theorem dX1_countWaiting_1 : decode cX1_countWaiting 1 = .ok (.istore_n 2, 1) := by decide +kernel
theorem dX1_countWaiting_2 : decode cX1_countWaiting 2 = .ok (.iconst 0, 1) := by decide +kernel
theorem dX1_countWaiting_3 : decode cX1_countWaiting 3 = .ok (.istore_n 3, 1) := by decide +kernel
theorem dX1_countWaiting_4 : decode cX1_countWaiting 4 = .ok (.iload_n 3, 1) := by decide +kernel
theorem dX1_countWaiting_5 : decode cX1_countWaiting 5 = .ok (.aload_n 0, 1) := by decide +kernel
theorem dX1_countWaiting_6 : decode cX1_countWaiting 6 = .ok (.getfield 73, 3) := by decide +kernel
theorem dX1_countWaiting_9 : decode cX1_countWaiting 9 = .ok (.if_icmp .ge 22, 3) := by decide +kernel
theorem dX1_countWaiting_12 : decode cX1_countWaiting 12 = .ok (.iload_n 2, 1) := by decide +kernel
theorem dX1_countWaiting_13 : decode cX1_countWaiting 13 = .ok (.aload_n 0, 1) := by decide +kernel
theorem dX1_countWaiting_14 : decode cX1_countWaiting 14 = .ok (.getfield 56, 3) := by decide +kernel
theorem dX1_countWaiting_17 : decode cX1_countWaiting 17 = .ok (.iload_n 3, 1) := by decide +kernel
theorem dX1_countWaiting_18 : decode cX1_countWaiting 18 = .ok (.iaload, 1) := by decide +kernel
theorem dX1_countWaiting_19 : decode cX1_countWaiting 19 = .ok (.iload_n 1, 1) := by decide +kernel
theorem dX1_countWaiting_20 : decode cX1_countWaiting 20 = .ok (.ishr, 1) := by decide +kernel
theorem dX1_countWaiting_21 : decode cX1_countWaiting 21 = .ok (.iconst 1, 1) := by decide +kernel
theorem dX1_countWaiting_22 : decode cX1_countWaiting 22 = .ok (.iand, 1) := by decide +kernel
theorem dX1_countWaiting_23 : decode cX1_countWaiting 23 = .ok (.iadd, 1) := by decide +kernel
theorem dX1_countWaiting_24 : decode cX1_countWaiting 24 = .ok (.istore_n 2, 1) := by decide +kernel
theorem dX1_countWaiting_25 : decode cX1_countWaiting 25 = .ok (.iinc 3 1, 3) := by decide +kernel
theorem dX1_countWaiting_28 : decode cX1_countWaiting 28 = .ok (.goto (-24), 3) := by decide +kernel
theorem dX1_countWaiting_31 : decode cX1_countWaiting 31 = .ok (.iload_n 2, 1) := by decide +kernel
theorem dX1_countWaiting_32 : decode cX1_countWaiting 32 = .ok (.ireturn, 1) := by decide +kernel
set_option maxRecDepth 20000 in
theorem ggX1_kill_X1_isDevice : GoodIn wsX1_kill wsX1_isDevice := goodIn_r _ [8, 9, 10, 11, 7, 12, 22, 23, 24, 25, 26, 27, 28, 29, 30, 31, 32, 33, 34, 35, 36, 37, 38, 39, 40, 41, 42, 43] (by decide +kernel) (by decide +kernel)
set_option maxRecDepth 20000 in
theorem gX1_kill_X1_isDevice : GoodIn wsX1_kill (wsV RX1 101 RX1 yX1_isDevice wsX1_isDevice) := goodIn_app (goodIn_of _ (by decide +kernel)) ggX1_kill_X1_isDevice
set_option maxRecDepth 20000 in
theorem ggX1_kill_X1_refused : GoodIn wsX1_kill wsX1_refused := goodIn_r _ [16, 17, 22, 23, 24, 25, 26, 27, 28, 29, 30, 31, 32, 33, 34, 35, 36, 37, 38, 39, 40, 41, 42, 43] (by decide +kernel) (by decide +kernel)
set_option maxRecDepth 20000 in
theorem gX1_kill_X1_refused : GoodIn wsX1_kill (wsV RX1 98 RX1 yX1_refused wsX1_refused) := goodIn_app (goodIn_of _ (by decide +kernel)) ggX1_kill_X1_refused
set_option maxRecDepth 20000 in
theorem ggX1_kill_X1_countWaiting : GoodIn wsX1_kill wsX1_countWaiting := goodIn_r _ [21, 2, 3, 22, 23, 24, 25, 26, 27, 28, 29, 30, 31, 32, 33, 34, 35, 36, 37, 38, 39, 40, 41, 42, 43] (by decide +kernel) (by decide +kernel)
set_option maxRecDepth 20000 in
theorem gX1_kill_X1_countWaiting : GoodIn wsX1_kill (wsV RX1 108 RX1 yX1_countWaiting wsX1_countWaiting) := goodIn_app (goodIn_of _ (by decide +kernel)) ggX1_kill_X1_countWaiting
theorem dX1_kill_0 : decode cX1_kill 0 = .ok (.aload_n 0, 1) := by decide +kernel
theorem dX1_kill_1 : decode cX1_kill 1 = .ok (.aload_n 0, 1) := by decide +kernel
theorem dX1_kill_2 : decode cX1_kill 2 = .ok (.iload_n 1, 1) := by decide +kernel
theorem dX1_kill_3 : decode cX1_kill 3 = .ok (.invokevirtual 101, 3) := by decide +kernel
theorem dX1_kill_6 : decode cX1_kill 6 = .ok (.ifCond .ne 7, 3) := by decide +kernel
theorem dX1_kill_9 : decode cX1_kill 9 = .ok (.iconst 1, 1) := by decide +kernel
theorem dX1_kill_10 : decode cX1_kill 10 = .ok (.goto 17, 3) := by decide +kernel
theorem dX1_kill_13 : decode cX1_kill 13 = .ok (.aload_n 0, 1) := by decide +kernel
theorem dX1_kill_14 : decode cX1_kill 14 = .ok (.getfield 23, 3) := by decide +kernel
theorem dX1_kill_17 : decode cX1_kill 17 = .ok (.iload_n 1, 1) := by decide +kernel
theorem dX1_kill_18 : decode cX1_kill 18 = .ok (.baload, 1) := by decide +kernel
theorem dX1_kill_19 : decode cX1_kill 19 = .ok (.ifCond .eq 7, 3) := by decide +kernel
theorem dX1_kill_22 : decode cX1_kill 22 = .ok (.iconst 2, 1) := by decide +kernel
theorem dX1_kill_23 : decode cX1_kill 23 = .ok (.goto 4, 3) := by decide +kernel
theorem dX1_kill_26 : decode cX1_kill 26 = .ok (.iconst 0, 1) := by decide +kernel
theorem dX1_kill_27 : decode cX1_kill 27 = .ok (.invokevirtual 98, 3) := by decide +kernel
theorem dX1_kill_30 : decode cX1_kill 30 = .ok (.ifCond .eq 5, 3) := by decide +kernel
theorem dX1_kill_33 : decode cX1_kill 33 = .ok (.iconst 0, 1) := by decide +kernel
theorem dX1_kill_34 : decode cX1_kill 34 = .ok (.ireturn, 1) := by decide +kernel
theorem dX1_kill_35 : decode cX1_kill 35 = .ok (.aload_n 0, 1) := by decide +kernel
theorem dX1_kill_36 : decode cX1_kill 36 = .ok (.iload_n 1, 1) := by decide +kernel
theorem dX1_kill_37 : decode cX1_kill 37 = .ok (.invokevirtual 108, 3) := by decide +kernel
theorem dX1_kill_40 : decode cX1_kill 40 = .ok (.istore_n 2, 1) := by decide +kernel
theorem dX1_kill_41 : decode cX1_kill 41 = .ok (.aload_n 0, 1) := by decide +kernel
theorem dX1_kill_42 : decode cX1_kill 42 = .ok (.getfield 23, 3) := by decide +kernel
theorem dX1_kill_45 : decode cX1_kill 45 = .ok (.iload_n 1, 1) := by decide +kernel
theorem dX1_kill_46 : decode cX1_kill 46 = .ok (.iconst 1, 1) := by decide +kernel
theorem dX1_kill_47 : decode cX1_kill 47 = .ok (.bastore, 1) := by decide +kernel
theorem dX1_kill_48 : decode cX1_kill 48 = .ok (.iconst 0, 1) := by decide +kernel
theorem dX1_kill_49 : decode cX1_kill 49 = .ok (.istore_n 3, 1) := by decide +kernel
theorem dX1_kill_50 : decode cX1_kill 50 = .ok (.iload_n 3, 1) := by decide +kernel
theorem dX1_kill_51 : decode cX1_kill 51 = .ok (.aload_n 0, 1) := by decide +kernel
theorem dX1_kill_52 : decode cX1_kill 52 = .ok (.getfield 73, 3) := by decide +kernel
theorem dX1_kill_55 : decode cX1_kill 55 = .ok (.if_icmp .ge 23, 3) := by decide +kernel
theorem dX1_kill_58 : decode cX1_kill 58 = .ok (.aload_n 0, 1) := by decide +kernel
theorem dX1_kill_59 : decode cX1_kill 59 = .ok (.getfield 56, 3) := by decide +kernel
theorem dX1_kill_62 : decode cX1_kill 62 = .ok (.iload_n 3, 1) := by decide +kernel
theorem dX1_kill_63 : decode cX1_kill 63 = .ok (.dup2, 1) := by decide +kernel
theorem dX1_kill_64 : decode cX1_kill 64 = .ok (.iaload, 1) := by decide +kernel
theorem dX1_kill_65 : decode cX1_kill 65 = .ok (.iconst 1, 1) := by decide +kernel
theorem dX1_kill_66 : decode cX1_kill 66 = .ok (.iload_n 1, 1) := by decide +kernel
theorem dX1_kill_67 : decode cX1_kill 67 = .ok (.ishl, 1) := by decide +kernel
theorem dX1_kill_68 : decode cX1_kill 68 = .ok (.iconst (-1), 1) := by decide +kernel
theorem dX1_kill_69 : decode cX1_kill 69 = .ok (.ixor, 1) := by decide +kernel
theorem dX1_kill_70 : decode cX1_kill 70 = .ok (.iand, 1) := by decide +kernel
theorem dX1_kill_71 : decode cX1_kill 71 = .ok (.iastore, 1) := by decide +kernel
theorem dX1_kill_72 : decode cX1_kill 72 = .ok (.iinc 3 1, 3) := by decide +kernel
theorem dX1_kill_75 : decode cX1_kill 75 = .ok (.goto (-25), 3) := by decide +kernel
theorem dX1_kill_78 : decode cX1_kill 78 = .ok (.iload_n 2, 1) := by decide +kernel
theorem dX1_kill_79 : decode cX1_kill 79 = .ok (.ireturn, 1) := by decide +kernel
set_option maxRecDepth 20000 in
theorem ggX1_devices_X1_fine : GoodIn wsX1_devices wsX1_fine := goodIn_r _ [6, 7, 8, 9, 10, 11, 12, 13, 14, 15, 16, 17, 18, 19, 20, 21, 22, 23, 24, 25, 26, 27, 28, 29] (by decide +kernel) (by decide +kernel)
set_option maxRecDepth 20000 in
theorem gX1_devices_X1_fine : GoodIn wsX1_devices (wsV RX1 111 RX1 yX1_fine wsX1_fine) := goodIn_app (goodIn_of _ (by decide +kernel)) ggX1_devices_X1_fine
theorem dX1_devices_0 : decode cX1_devices 0 = .ok (.aload_n 0, 1) := by decide +kernel
theorem dX1_devices_1 : decode cX1_devices 1 = .ok (.aload_n 0, 1) := by decide +kernel
theorem dX1_devices_2 : decode cX1_devices 2 = .ok (.getfield 66, 3) := by decide +kernel
theorem dX1_devices_5 : decode cX1_devices 5 = .ok (.invokevirtual 111, 3) := by decide +kernel
theorem dX1_devices_8 : decode cX1_devices 8 = .ok (.ireturn, 1) := by decide +kernel
set_option maxRecDepth 20000 in
theorem ggX1_isQuiet_X1_isDevice : GoodIn wsX1_isQuiet wsX1_isDevice := goodIn_r _ [5, 6, 7, 8, 4, 9, 23, 24, 25, 26, 27, 28, 29, 30, 31, 32, 33, 34, 35, 36, 37, 38, 39, 40, 41, 42, 43, 44] (by decide +kernel) (by decide +kernel)
set_option maxRecDepth 20000 in
theorem gX1_isQuiet_X1_isDevice : GoodIn wsX1_isQuiet (wsV RX1 101 RX1 yX1_isDevice wsX1_isDevice) := goodIn_app (goodIn_of _ (by decide +kernel)) ggX1_isQuiet_X1_isDevice
set_option maxRecDepth 20000 in
theorem ggX1_isQuiet_X1_refused : GoodIn wsX1_isQuiet wsX1_refused := goodIn_r _ [13, 14, 23, 24, 25, 26, 27, 28, 29, 30, 31, 32, 33, 34, 35, 36, 37, 38, 39, 40, 41, 42, 43, 44] (by decide +kernel) (by decide +kernel)
set_option maxRecDepth 20000 in
theorem gX1_isQuiet_X1_refused : GoodIn wsX1_isQuiet (wsV RX1 98 RX1 yX1_refused wsX1_refused) := goodIn_app (goodIn_of _ (by decide +kernel)) ggX1_isQuiet_X1_refused
set_option maxRecDepth 20000 in
theorem ggX1_isQuiet_X1_isQuietNow : GoodIn wsX1_isQuiet wsX1_isQuietNow := goodIn_r _ [18, 19, 20, 21, 22, 23, 24, 25, 26, 27, 28, 29, 30, 31, 32, 33, 34, 35, 36, 37, 38, 39, 40, 41, 42, 43, 44] (by decide +kernel) (by decide +kernel)
set_option maxRecDepth 20000 in
theorem gX1_isQuiet_X1_isQuietNow : GoodIn wsX1_isQuiet (wsV RX1 83 RX1 yX1_isQuietNow wsX1_isQuietNow) := goodIn_app (goodIn_of _ (by decide +kernel)) ggX1_isQuiet_X1_isQuietNow
theorem dX1_isQuiet_0 : decode cX1_isQuiet 0 = .ok (.aload_n 0, 1) := by decide +kernel
theorem dX1_isQuiet_1 : decode cX1_isQuiet 1 = .ok (.aload_n 0, 1) := by decide +kernel
theorem dX1_isQuiet_2 : decode cX1_isQuiet 2 = .ok (.iload_n 1, 1) := by decide +kernel
theorem dX1_isQuiet_3 : decode cX1_isQuiet 3 = .ok (.invokevirtual 101, 3) := by decide +kernel
theorem dX1_isQuiet_6 : decode cX1_isQuiet 6 = .ok (.ifCond .eq 7, 3) := by decide +kernel
theorem dX1_isQuiet_9 : decode cX1_isQuiet 9 = .ok (.iconst 0, 1) := by decide +kernel
theorem dX1_isQuiet_10 : decode cX1_isQuiet 10 = .ok (.goto 4, 3) := by decide +kernel
theorem dX1_isQuiet_13 : decode cX1_isQuiet 13 = .ok (.iconst 1, 1) := by decide +kernel
theorem dX1_isQuiet_14 : decode cX1_isQuiet 14 = .ok (.invokevirtual 98, 3) := by decide +kernel
theorem dX1_isQuiet_17 : decode cX1_isQuiet 17 = .ok (.ifCond .ne 15, 3) := by decide +kernel
theorem dX1_isQuiet_20 : decode cX1_isQuiet 20 = .ok (.aload_n 0, 1) := by decide +kernel
theorem dX1_isQuiet_21 : decode cX1_isQuiet 21 = .ok (.iload_n 1, 1) := by decide +kernel
theorem dX1_isQuiet_22 : decode cX1_isQuiet 22 = .ok (.invokevirtual 83, 3) := by decide +kernel
theorem dX1_isQuiet_25 : decode cX1_isQuiet 25 = .ok (.ifCond .eq 7, 3) := by decide +kernel
theorem dX1_isQuiet_28 : decode cX1_isQuiet 28 = .ok (.iconst 1, 1) := by decide +kernel
theorem dX1_isQuiet_29 : decode cX1_isQuiet 29 = .ok (.goto 4, 3) := by decide +kernel
theorem dX1_isQuiet_32 : decode cX1_isQuiet 32 = .ok (.iconst 0, 1) := by decide +kernel
theorem dX1_isQuiet_33 : decode cX1_isQuiet 33 = .ok (.ireturn, 1) := by decide +kernel
theorem dX1_standingNow_0 : decode cX1_standingNow 0 = .ok (.iconst (-1), 1) := by decide +kernel
theorem dX1_standingNow_1 : decode cX1_standingNow 1 = .ok (.istore_n 3, 1) := by decide +kernel
theorem dX1_standingNow_2 : decode cX1_standingNow 2 = .ok (.iconst 0, 1) := by decide +kernel
theorem dX1_standingNow_3 : decode cX1_standingNow 3 = .ok (.istore 4, 2) := by decide +kernel
theorem dX1_standingNow_5 : decode cX1_standingNow 5 = .ok (.iload 4, 2) := by decide +kernel
theorem dX1_standingNow_7 : decode cX1_standingNow 7 = .ok (.aload_n 0, 1) := by decide +kernel
theorem dX1_standingNow_8 : decode cX1_standingNow 8 = .ok (.getfield 73, 3) := by decide +kernel
theorem dX1_standingNow_11 : decode cX1_standingNow 11 = .ok (.if_icmp .ge 48, 3) := by decide +kernel
theorem dX1_standingNow_14 : decode cX1_standingNow 14 = .ok (.aload_n 0, 1) := by decide +kernel
theorem dX1_standingNow_15 : decode cX1_standingNow 15 = .ok (.getfield 47, 3) := by decide +kernel
theorem dX1_standingNow_18 : decode cX1_standingNow 18 = .ok (.iload 4, 2) := by decide +kernel
theorem dX1_standingNow_20 : decode cX1_standingNow 20 = .ok (.iaload, 1) := by decide +kernel
theorem dX1_standingNow_21 : decode cX1_standingNow 21 = .ok (.iload_n 1, 1) := by decide +kernel
theorem dX1_standingNow_22 : decode cX1_standingNow 22 = .ok (.if_icmp .ne 29, 3) := by decide +kernel
theorem dX1_standingNow_25 : decode cX1_standingNow 25 = .ok (.aload_n 0, 1) := by decide +kernel
theorem dX1_standingNow_26 : decode cX1_standingNow 26 = .ok (.getfield 50, 3) := by decide +kernel
theorem dX1_standingNow_29 : decode cX1_standingNow 29 = .ok (.iload 4, 2) := by decide +kernel
theorem dX1_standingNow_31 : decode cX1_standingNow 31 = .ok (.iaload, 1) := by decide +kernel
theorem dX1_standingNow_32 : decode cX1_standingNow 32 = .ok (.iload_n 2, 1) := by decide +kernel
theorem dX1_standingNow_33 : decode cX1_standingNow 33 = .ok (.if_icmp .ne 18, 3) := by decide +kernel
theorem dX1_standingNow_36 : decode cX1_standingNow 36 = .ok (.aload_n 0, 1) := by decide +kernel
theorem dX1_standingNow_37 : decode cX1_standingNow 37 = .ok (.getfield 53, 3) := by decide +kernel
theorem dX1_standingNow_40 : decode cX1_standingNow 40 = .ok (.iload 4, 2) := by decide +kernel
theorem dX1_standingNow_42 : decode cX1_standingNow 42 = .ok (.baload, 1) := by decide +kernel
theorem dX1_standingNow_43 : decode cX1_standingNow 43 = .ok (.ifCond .ne 8, 3) := by decide +kernel
theorem dX1_standingNow_46 : decode cX1_standingNow 46 = .ok (.iload 4, 2) := by decide +kernel
theorem dX1_standingNow_48 : decode cX1_standingNow 48 = .ok (.goto 4, 3) := by decide +kernel
theorem dX1_standingNow_51 : decode cX1_standingNow 51 = .ok (.iload_n 3, 1) := by decide +kernel
theorem dX1_standingNow_52 : decode cX1_standingNow 52 = .ok (.istore_n 3, 1) := by decide +kernel
theorem dX1_standingNow_53 : decode cX1_standingNow 53 = .ok (.iinc 4 1, 3) := by decide +kernel
theorem dX1_standingNow_56 : decode cX1_standingNow 56 = .ok (.goto (-51), 3) := by decide +kernel
theorem dX1_standingNow_59 : decode cX1_standingNow 59 = .ok (.iload_n 3, 1) := by decide +kernel
theorem dX1_standingNow_60 : decode cX1_standingNow 60 = .ok (.ireturn, 1) := by decide +kernel
set_option maxRecDepth 20000 in
theorem ggX1_add_X1_look : GoodIn wsX1_add wsX1_look := goodIn_r _ [12, 13, 14, 2, 7, 15, 16, 17, 11, 18, 19, 4, 20, 6, 21, 22, 23, 24, 25, 26, 27, 28, 29, 30, 31, 32, 33, 34, 35, 36, 37, 38, 39, 40, 41, 42, 43, 44, 45, 46, 47, 48, 49, 50, 51, 52, 53, 54, 55, 56, 57, 58, 59, 60] (by decide +kernel) (by decide +kernel)
set_option maxRecDepth 20000 in
theorem gX1_add_X1_look : GoodIn wsX1_add (wsV RX1 104 RX1 yX1_look wsX1_look) := goodIn_app (goodIn_of _ (by decide +kernel)) ggX1_add_X1_look
theorem dX1_add_0 : decode cX1_add 0 = .ok (.aload_n 0, 1) := by decide +kernel
theorem dX1_add_1 : decode cX1_add 1 = .ok (.getfield 47, 3) := by decide +kernel
theorem dX1_add_4 : decode cX1_add 4 = .ok (.aload_n 0, 1) := by decide +kernel
theorem dX1_add_5 : decode cX1_add 5 = .ok (.getfield 73, 3) := by decide +kernel
theorem dX1_add_8 : decode cX1_add 8 = .ok (.iload_n 1, 1) := by decide +kernel
theorem dX1_add_9 : decode cX1_add 9 = .ok (.iastore, 1) := by decide +kernel
theorem dX1_add_10 : decode cX1_add 10 = .ok (.aload_n 0, 1) := by decide +kernel
theorem dX1_add_11 : decode cX1_add 11 = .ok (.getfield 50, 3) := by decide +kernel
theorem dX1_add_14 : decode cX1_add 14 = .ok (.aload_n 0, 1) := by decide +kernel
theorem dX1_add_15 : decode cX1_add 15 = .ok (.getfield 73, 3) := by decide +kernel
theorem dX1_add_18 : decode cX1_add 18 = .ok (.iload_n 2, 1) := by decide +kernel
theorem dX1_add_19 : decode cX1_add 19 = .ok (.iastore, 1) := by decide +kernel
theorem dX1_add_20 : decode cX1_add 20 = .ok (.aload_n 0, 1) := by decide +kernel
theorem dX1_add_21 : decode cX1_add 21 = .ok (.getfield 41, 3) := by decide +kernel
theorem dX1_add_24 : decode cX1_add 24 = .ok (.aload_n 0, 1) := by decide +kernel
theorem dX1_add_25 : decode cX1_add 25 = .ok (.getfield 73, 3) := by decide +kernel
theorem dX1_add_28 : decode cX1_add 28 = .ok (.iload_n 3, 1) := by decide +kernel
theorem dX1_add_29 : decode cX1_add 29 = .ok (.bastore, 1) := by decide +kernel
theorem dX1_add_30 : decode cX1_add 30 = .ok (.aload_n 0, 1) := by decide +kernel
theorem dX1_add_31 : decode cX1_add 31 = .ok (.getfield 44, 3) := by decide +kernel
theorem dX1_add_34 : decode cX1_add 34 = .ok (.aload_n 0, 1) := by decide +kernel
theorem dX1_add_35 : decode cX1_add 35 = .ok (.getfield 73, 3) := by decide +kernel
theorem dX1_add_38 : decode cX1_add 38 = .ok (.aload_n 0, 1) := by decide +kernel
theorem dX1_add_39 : decode cX1_add 39 = .ok (.getfield 76, 3) := by decide +kernel
theorem dX1_add_42 : decode cX1_add 42 = .ok (.iload 4, 2) := by decide +kernel
theorem dX1_add_44 : decode cX1_add 44 = .ok (.iadd, 1) := by decide +kernel
theorem dX1_add_45 : decode cX1_add 45 = .ok (.iastore, 1) := by decide +kernel
theorem dX1_add_46 : decode cX1_add 46 = .ok (.aload_n 0, 1) := by decide +kernel
theorem dX1_add_47 : decode cX1_add 47 = .ok (.getfield 56, 3) := by decide +kernel
theorem dX1_add_50 : decode cX1_add 50 = .ok (.aload_n 0, 1) := by decide +kernel
theorem dX1_add_51 : decode cX1_add 51 = .ok (.getfield 73, 3) := by decide +kernel
theorem dX1_add_54 : decode cX1_add 54 = .ok (.iload 5, 2) := by decide +kernel
theorem dX1_add_56 : decode cX1_add 56 = .ok (.iastore, 1) := by decide +kernel
theorem dX1_add_57 : decode cX1_add 57 = .ok (.aload_n 0, 1) := by decide +kernel
theorem dX1_add_58 : decode cX1_add 58 = .ok (.dup, 1) := by decide +kernel
theorem dX1_add_59 : decode cX1_add 59 = .ok (.getfield 73, 3) := by decide +kernel
theorem dX1_add_62 : decode cX1_add 62 = .ok (.iconst 1, 1) := by decide +kernel
theorem dX1_add_63 : decode cX1_add 63 = .ok (.iadd, 1) := by decide +kernel
theorem dX1_add_64 : decode cX1_add 64 = .ok (.putfield 73, 3) := by decide +kernel
theorem dX1_add_67 : decode cX1_add 67 = .ok (.aload_n 0, 1) := by decide +kernel
end
section
theorem dX1_add_68 : decode cX1_add 68 = .ok (.invokevirtual 104, 3) := by decide +kernel
theorem dX1_add_71 : decode cX1_add 71 = .ok (.pop, 1) := by decide +kernel
theorem dX1_add_72 : decode cX1_add 72 = .ok (.aload_n 0, 1) := by decide +kernel
theorem dX1_add_73 : decode cX1_add 73 = .ok (.getfield 73, 3) := by decide +kernel
theorem dX1_add_76 : decode cX1_add 76 = .ok (.iconst 1, 1) := by decide +kernel
theorem dX1_add_77 : decode cX1_add 77 = .ok (.isub, 1) := by decide +kernel
theorem dX1_add_78 : decode cX1_add 78 = .ok (.ireturn, 1) := by decide +kernel
set_option maxRecDepth 20000 in
theorem ggX1_send_X1_in : GoodIn wsX1_send wsX1_in := goodIn_r _ [8] (by decide +kernel) (by decide +kernel)
set_option maxRecDepth 20000 in
theorem gX1_send_X1_in : GoodIn wsX1_send (va_wsS RX1 69 yX1_in wsX1_in) := goodIn_app (goodIn_of _ (by decide +kernel)) ggX1_send_X1_in
set_option maxRecDepth 20000 in
theorem ggX1_send_X1_refused : GoodIn wsX1_send wsX1_refused := goodIn_r _ [12, 13, 62, 63, 64, 65, 66, 67, 68, 69, 70, 71, 72, 73, 74, 75, 76, 77, 78, 79, 80, 81, 82, 83] (by decide +kernel) (by decide +kernel)
set_option maxRecDepth 20000 in
theorem gX1_send_X1_refused : GoodIn wsX1_send (wsV RX1 98 RX1 yX1_refused wsX1_refused) := goodIn_app (goodIn_of _ (by decide +kernel)) ggX1_send_X1_refused
set_option maxRecDepth 20000 in
theorem ggX1_send_X1_standingNow : GoodIn wsX1_send wsX1_standingNow := goodIn_r _ [17, 1, 18, 19, 20, 62, 63, 64, 65, 66, 67, 68, 69, 70, 71, 72, 73, 74, 75, 76, 77, 78, 79, 80, 81, 82, 83] (by decide +kernel) (by decide +kernel)
set_option maxRecDepth 20000 in
theorem gX1_send_X1_standingNow : GoodIn wsX1_send (wsV RX1 114 RX1 yX1_standingNow wsX1_standingNow) := goodIn_app (goodIn_of _ (by decide +kernel)) ggX1_send_X1_standingNow
set_option maxRecDepth 20000 in
theorem ggX1_send_X1_end : GoodIn wsX1_send wsX1_end := goodIn_r _ [24, 20, 25, 62, 63, 64, 65, 66, 67, 68, 69, 70, 71, 72, 73, 74, 75, 76, 77, 78, 79, 80, 81, 82, 83] (by decide +kernel) (by decide +kernel)
set_option maxRecDepth 20000 in
theorem gX1_send_X1_end : GoodIn wsX1_send (wsV RX1 118 RX1 yX1_end wsX1_end) := goodIn_app (goodIn_of _ (by decide +kernel)) ggX1_send_X1_end
set_option maxRecDepth 20000 in
theorem ggX1_send_X1_add : GoodIn wsX1_send wsX1_add := goodIn_r _ [29, 18, 1, 19, 30, 31, 32, 25, 33, 34, 35, 7, 36, 37, 2, 38, 39, 40, 41, 42, 43, 44, 45, 46, 47, 48, 49, 50, 51, 52, 53, 54, 55, 56, 57, 58, 59, 60, 61, 62, 63, 64, 65, 66, 67, 68, 69, 70, 71, 72, 73, 74, 75, 76, 77, 78, 79, 80, 81, 82, 83] (by decide +kernel) (by decide +kernel)
set_option maxRecDepth 20000 in
theorem gX1_send_X1_add : GoodIn wsX1_send (wsV RX1 122 RX1 yX1_add wsX1_add) := goodIn_app (goodIn_of _ (by decide +kernel)) ggX1_send_X1_add
theorem dX1_send_0 : decode cX1_send 0 = .ok (.iload_n 1, 1) := by decide +kernel
theorem dX1_send_1 : decode cX1_send 1 = .ok (.iconst 0, 1) := by decide +kernel
theorem dX1_send_2 : decode cX1_send 2 = .ok (.bipush 7, 2) := by decide +kernel
theorem dX1_send_4 : decode cX1_send 4 = .ok (.invokestatic 69, 3) := by decide +kernel
theorem dX1_send_7 : decode cX1_send 7 = .ok (.ifCond .eq 29, 3) := by decide +kernel
theorem dX1_send_10 : decode cX1_send 10 = .ok (.iload_n 2, 1) := by decide +kernel
theorem dX1_send_11 : decode cX1_send 11 = .ok (.iconst (-1), 1) := by decide +kernel
theorem dX1_send_12 : decode cX1_send 12 = .ok (.bipush 9, 2) := by decide +kernel
theorem dX1_send_14 : decode cX1_send 14 = .ok (.invokestatic 69, 3) := by decide +kernel
theorem dX1_send_17 : decode cX1_send 17 = .ok (.ifCond .eq 19, 3) := by decide +kernel
theorem dX1_send_20 : decode cX1_send 20 = .ok (.iload 4, 2) := by decide +kernel
theorem dX1_send_22 : decode cX1_send 22 = .ok (.iconst 1, 1) := by decide +kernel
theorem dX1_send_23 : decode cX1_send 23 = .ok (.sipush 10000, 3) := by decide +kernel
theorem dX1_send_26 : decode cX1_send 26 = .ok (.invokestatic 69, 3) := by decide +kernel
theorem dX1_send_29 : decode cX1_send 29 = .ok (.ifCond .eq 7, 3) := by decide +kernel
theorem dX1_send_32 : decode cX1_send 32 = .ok (.iconst 1, 1) := by decide +kernel
theorem dX1_send_33 : decode cX1_send 33 = .ok (.goto 4, 3) := by decide +kernel
theorem dX1_send_36 : decode cX1_send 36 = .ok (.iconst 0, 1) := by decide +kernel
theorem dX1_send_37 : decode cX1_send 37 = .ok (.istore 5, 2) := by decide +kernel
theorem dX1_send_39 : decode cX1_send 39 = .ok (.aload_n 0, 1) := by decide +kernel
theorem dX1_send_40 : decode cX1_send 40 = .ok (.iload 5, 2) := by decide +kernel
theorem dX1_send_42 : decode cX1_send 42 = .ok (.ifCond .ne 7, 3) := by decide +kernel
theorem dX1_send_45 : decode cX1_send 45 = .ok (.iconst 1, 1) := by decide +kernel
theorem dX1_send_46 : decode cX1_send 46 = .ok (.goto 17, 3) := by decide +kernel
theorem dX1_send_49 : decode cX1_send 49 = .ok (.aload_n 0, 1) := by decide +kernel
theorem dX1_send_50 : decode cX1_send 50 = .ok (.getfield 73, 3) := by decide +kernel
theorem dX1_send_53 : decode cX1_send 53 = .ok (.bipush 120, 2) := by decide +kernel
theorem dX1_send_55 : decode cX1_send 55 = .ok (.if_icmp .ne 7, 3) := by decide +kernel
theorem dX1_send_58 : decode cX1_send 58 = .ok (.iconst 2, 1) := by decide +kernel
theorem dX1_send_59 : decode cX1_send 59 = .ok (.goto 4, 3) := by decide +kernel
theorem dX1_send_62 : decode cX1_send 62 = .ok (.iconst 0, 1) := by decide +kernel
theorem dX1_send_63 : decode cX1_send 63 = .ok (.invokevirtual 98, 3) := by decide +kernel
theorem dX1_send_66 : decode cX1_send 66 = .ok (.ifCond .eq 5, 3) := by decide +kernel
theorem dX1_send_69 : decode cX1_send 69 = .ok (.iconst 0, 1) := by decide +kernel
theorem dX1_send_70 : decode cX1_send 70 = .ok (.ireturn, 1) := by decide +kernel
theorem dX1_send_71 : decode cX1_send 71 = .ok (.iload_n 2, 1) := by decide +kernel
theorem dX1_send_72 : decode cX1_send 72 = .ok (.iconst (-1), 1) := by decide +kernel
theorem dX1_send_73 : decode cX1_send 73 = .ok (.if_icmp .ne 7, 3) := by decide +kernel
theorem dX1_send_76 : decode cX1_send 76 = .ok (.iconst (-1), 1) := by decide +kernel
theorem dX1_send_77 : decode cX1_send 77 = .ok (.goto 9, 3) := by decide +kernel
theorem dX1_send_80 : decode cX1_send 80 = .ok (.aload_n 0, 1) := by decide +kernel
theorem dX1_send_81 : decode cX1_send 81 = .ok (.iload_n 1, 1) := by decide +kernel
theorem dX1_send_82 : decode cX1_send 82 = .ok (.iload_n 2, 1) := by decide +kernel
theorem dX1_send_83 : decode cX1_send 83 = .ok (.invokevirtual 114, 3) := by decide +kernel
theorem dX1_send_86 : decode cX1_send 86 = .ok (.istore 6, 2) := by decide +kernel
theorem dX1_send_88 : decode cX1_send 88 = .ok (.iload 6, 2) := by decide +kernel
theorem dX1_send_90 : decode cX1_send 90 = .ok (.iconst (-1), 1) := by decide +kernel
theorem dX1_send_91 : decode cX1_send 91 = .ok (.if_icmp .eq 9, 3) := by decide +kernel
theorem dX1_send_94 : decode cX1_send 94 = .ok (.aload_n 0, 1) := by decide +kernel
theorem dX1_send_95 : decode cX1_send 95 = .ok (.iload 6, 2) := by decide +kernel
theorem dX1_send_97 : decode cX1_send 97 = .ok (.invokevirtual 118, 3) := by decide +kernel
theorem dX1_send_100 : decode cX1_send 100 = .ok (.iconst 0, 1) := by decide +kernel
theorem dX1_send_101 : decode cX1_send 101 = .ok (.istore 7, 2) := by decide +kernel
theorem dX1_send_103 : decode cX1_send 103 = .ok (.iconst 0, 1) := by decide +kernel
theorem dX1_send_104 : decode cX1_send 104 = .ok (.istore 8, 2) := by decide +kernel
theorem dX1_send_106 : decode cX1_send 106 = .ok (.iload 8, 2) := by decide +kernel
theorem dX1_send_108 : decode cX1_send 108 = .ok (.aload_n 0, 1) := by decide +kernel
theorem dX1_send_109 : decode cX1_send 109 = .ok (.getfield 66, 3) := by decide +kernel
theorem dX1_send_112 : decode cX1_send 112 = .ok (.if_icmp .ge 43, 3) := by decide +kernel
theorem dX1_send_115 : decode cX1_send 115 = .ok (.iload 7, 2) := by decide +kernel
theorem dX1_send_117 : decode cX1_send 117 = .ok (.aload_n 0, 1) := by decide +kernel
theorem dX1_send_118 : decode cX1_send 118 = .ok (.getfield 7, 3) := by decide +kernel
theorem dX1_send_121 : decode cX1_send 121 = .ok (.iload 8, 2) := by decide +kernel
theorem dX1_send_123 : decode cX1_send 123 = .ok (.iaload, 1) := by decide +kernel
theorem dX1_send_124 : decode cX1_send 124 = .ok (.iload_n 1, 1) := by decide +kernel
theorem dX1_send_125 : decode cX1_send 125 = .ok (.if_icmp .ne 20, 3) := by decide +kernel
theorem dX1_send_128 : decode cX1_send 128 = .ok (.aload_n 0, 1) := by decide +kernel
theorem dX1_send_129 : decode cX1_send 129 = .ok (.getfield 23, 3) := by decide +kernel
theorem dX1_send_132 : decode cX1_send 132 = .ok (.iload 8, 2) := by decide +kernel
theorem dX1_send_134 : decode cX1_send 134 = .ok (.baload, 1) := by decide +kernel
theorem dX1_send_135 : decode cX1_send 135 = .ok (.ifCond .ne 10, 3) := by decide +kernel
theorem dX1_send_138 : decode cX1_send 138 = .ok (.iconst 1, 1) := by decide +kernel
theorem dX1_send_139 : decode cX1_send 139 = .ok (.iload 8, 2) := by decide +kernel
theorem dX1_send_141 : decode cX1_send 141 = .ok (.ishl, 1) := by decide +kernel
theorem dX1_send_142 : decode cX1_send 142 = .ok (.goto 4, 3) := by decide +kernel
theorem dX1_send_145 : decode cX1_send 145 = .ok (.iconst 0, 1) := by decide +kernel
theorem dX1_send_146 : decode cX1_send 146 = .ok (.ior, 1) := by decide +kernel
theorem dX1_send_147 : decode cX1_send 147 = .ok (.istore 7, 2) := by decide +kernel
theorem dX1_send_149 : decode cX1_send 149 = .ok (.iinc 8 1, 3) := by decide +kernel
theorem dX1_send_152 : decode cX1_send 152 = .ok (.goto (-46), 3) := by decide +kernel
theorem dX1_send_155 : decode cX1_send 155 = .ok (.aload_n 0, 1) := by decide +kernel
theorem dX1_send_156 : decode cX1_send 156 = .ok (.iload_n 1, 1) := by decide +kernel
theorem dX1_send_157 : decode cX1_send 157 = .ok (.iload_n 2, 1) := by decide +kernel
theorem dX1_send_158 : decode cX1_send 158 = .ok (.iload_n 3, 1) := by decide +kernel
theorem dX1_send_159 : decode cX1_send 159 = .ok (.iload 4, 2) := by decide +kernel
theorem dX1_send_161 : decode cX1_send 161 = .ok (.iload 7, 2) := by decide +kernel
theorem dX1_send_163 : decode cX1_send 163 = .ok (.invokevirtual 122, 3) := by decide +kernel
theorem dX1_send_166 : decode cX1_send 166 = .ok (.ireturn, 1) := by decide +kernel
set_option maxRecDepth 20000 in
theorem ggX1_sendBy_X1_in : GoodIn wsX1_sendBy wsX1_in := goodIn_r _ [8] (by decide +kernel) (by decide +kernel)
set_option maxRecDepth 20000 in
theorem gX1_sendBy_X1_in : GoodIn wsX1_sendBy (va_wsS RX1 69 yX1_in wsX1_in) := goodIn_app (goodIn_of _ (by decide +kernel)) ggX1_sendBy_X1_in
set_option maxRecDepth 20000 in
theorem ggX1_sendBy_X1_refused : GoodIn wsX1_sendBy wsX1_refused := goodIn_r _ [12, 13, 53, 54, 55, 56, 57, 58, 59, 60, 61, 62, 63, 64, 65, 66, 67, 68, 69, 70, 71, 72, 73, 74] (by decide +kernel) (by decide +kernel)
set_option maxRecDepth 20000 in
theorem gX1_sendBy_X1_refused : GoodIn wsX1_sendBy (wsV RX1 98 RX1 yX1_refused wsX1_refused) := goodIn_app (goodIn_of _ (by decide +kernel)) ggX1_sendBy_X1_refused
set_option maxRecDepth 20000 in
theorem ggX1_sendBy_X1_add : GoodIn wsX1_sendBy wsX1_add := goodIn_r _ [17, 18, 1, 19, 20, 21, 22, 23, 24, 25, 26, 7, 27, 28, 2, 29, 30, 31, 32, 33, 34, 35, 36, 37, 38, 39, 40, 41, 42, 43, 44, 45, 46, 47, 48, 49, 50, 51, 52, 53, 54, 55, 56, 57, 58, 59, 60, 61, 62, 63, 64, 65, 66, 67, 68, 69, 70, 71, 72, 73, 74] (by decide +kernel) (by decide +kernel)
set_option maxRecDepth 20000 in
theorem gX1_sendBy_X1_add : GoodIn wsX1_sendBy (wsV RX1 122 RX1 yX1_add wsX1_add) := goodIn_app (goodIn_of _ (by decide +kernel)) ggX1_sendBy_X1_add
theorem dX1_sendBy_0 : decode cX1_sendBy 0 = .ok (.iload_n 1, 1) := by decide +kernel
theorem dX1_sendBy_1 : decode cX1_sendBy 1 = .ok (.iconst 0, 1) := by decide +kernel
theorem dX1_sendBy_2 : decode cX1_sendBy 2 = .ok (.iconst 2, 1) := by decide +kernel
theorem dX1_sendBy_3 : decode cX1_sendBy 3 = .ok (.invokestatic 69, 3) := by decide +kernel
theorem dX1_sendBy_6 : decode cX1_sendBy 6 = .ok (.ifCond .eq 37, 3) := by decide +kernel
theorem dX1_sendBy_9 : decode cX1_sendBy 9 = .ok (.iload_n 2, 1) := by decide +kernel
theorem dX1_sendBy_10 : decode cX1_sendBy 10 = .ok (.iconst 0, 1) := by decide +kernel
theorem dX1_sendBy_11 : decode cX1_sendBy 11 = .ok (.iconst 5, 1) := by decide +kernel
theorem dX1_sendBy_12 : decode cX1_sendBy 12 = .ok (.invokestatic 69, 3) := by decide +kernel
theorem dX1_sendBy_15 : decode cX1_sendBy 15 = .ok (.ifCond .eq 28, 3) := by decide +kernel
theorem dX1_sendBy_18 : decode cX1_sendBy 18 = .ok (.iload_n 3, 1) := by decide +kernel
theorem dX1_sendBy_19 : decode cX1_sendBy 19 = .ok (.iconst 0, 1) := by decide +kernel
theorem dX1_sendBy_20 : decode cX1_sendBy 20 = .ok (.iconst 5, 1) := by decide +kernel
theorem dX1_sendBy_21 : decode cX1_sendBy 21 = .ok (.invokestatic 69, 3) := by decide +kernel
theorem dX1_sendBy_24 : decode cX1_sendBy 24 = .ok (.ifCond .eq 19, 3) := by decide +kernel
theorem dX1_sendBy_27 : decode cX1_sendBy 27 = .ok (.iload 5, 2) := by decide +kernel
theorem dX1_sendBy_29 : decode cX1_sendBy 29 = .ok (.iconst 1, 1) := by decide +kernel
theorem dX1_sendBy_30 : decode cX1_sendBy 30 = .ok (.sipush 10000, 3) := by decide +kernel
theorem dX1_sendBy_33 : decode cX1_sendBy 33 = .ok (.invokestatic 69, 3) := by decide +kernel
theorem dX1_sendBy_36 : decode cX1_sendBy 36 = .ok (.ifCond .eq 7, 3) := by decide +kernel
theorem dX1_sendBy_39 : decode cX1_sendBy 39 = .ok (.iconst 1, 1) := by decide +kernel
theorem dX1_sendBy_40 : decode cX1_sendBy 40 = .ok (.goto 4, 3) := by decide +kernel
theorem dX1_sendBy_43 : decode cX1_sendBy 43 = .ok (.iconst 0, 1) := by decide +kernel
theorem dX1_sendBy_44 : decode cX1_sendBy 44 = .ok (.istore 6, 2) := by decide +kernel
theorem dX1_sendBy_46 : decode cX1_sendBy 46 = .ok (.aload_n 0, 1) := by decide +kernel
theorem dX1_sendBy_47 : decode cX1_sendBy 47 = .ok (.iload 6, 2) := by decide +kernel
theorem dX1_sendBy_49 : decode cX1_sendBy 49 = .ok (.ifCond .ne 7, 3) := by decide +kernel
theorem dX1_sendBy_52 : decode cX1_sendBy 52 = .ok (.iconst 1, 1) := by decide +kernel
theorem dX1_sendBy_53 : decode cX1_sendBy 53 = .ok (.goto 17, 3) := by decide +kernel
theorem dX1_sendBy_56 : decode cX1_sendBy 56 = .ok (.aload_n 0, 1) := by decide +kernel
theorem dX1_sendBy_57 : decode cX1_sendBy 57 = .ok (.getfield 73, 3) := by decide +kernel
theorem dX1_sendBy_60 : decode cX1_sendBy 60 = .ok (.bipush 120, 2) := by decide +kernel
theorem dX1_sendBy_62 : decode cX1_sendBy 62 = .ok (.if_icmp .ne 7, 3) := by decide +kernel
theorem dX1_sendBy_65 : decode cX1_sendBy 65 = .ok (.iconst 2, 1) := by decide +kernel
theorem dX1_sendBy_66 : decode cX1_sendBy 66 = .ok (.goto 4, 3) := by decide +kernel
theorem dX1_sendBy_69 : decode cX1_sendBy 69 = .ok (.iconst 0, 1) := by decide +kernel
theorem dX1_sendBy_70 : decode cX1_sendBy 70 = .ok (.invokevirtual 98, 3) := by decide +kernel
theorem dX1_sendBy_73 : decode cX1_sendBy 73 = .ok (.ifCond .eq 5, 3) := by decide +kernel
theorem dX1_sendBy_76 : decode cX1_sendBy 76 = .ok (.iconst 0, 1) := by decide +kernel
theorem dX1_sendBy_77 : decode cX1_sendBy 77 = .ok (.ireturn, 1) := by decide +kernel
theorem dX1_sendBy_78 : decode cX1_sendBy 78 = .ok (.iconst 0, 1) := by decide +kernel
theorem dX1_sendBy_79 : decode cX1_sendBy 79 = .ok (.istore 7, 2) := by decide +kernel
theorem dX1_sendBy_81 : decode cX1_sendBy 81 = .ok (.iconst 0, 1) := by decide +kernel
theorem dX1_sendBy_82 : decode cX1_sendBy 82 = .ok (.istore 8, 2) := by decide +kernel
theorem dX1_sendBy_84 : decode cX1_sendBy 84 = .ok (.iload 8, 2) := by decide +kernel
theorem dX1_sendBy_86 : decode cX1_sendBy 86 = .ok (.aload_n 0, 1) := by decide +kernel
theorem dX1_sendBy_87 : decode cX1_sendBy 87 = .ok (.getfield 66, 3) := by decide +kernel
theorem dX1_sendBy_90 : decode cX1_sendBy 90 = .ok (.if_icmp .ge 143, 3) := by decide +kernel
theorem dX1_sendBy_93 : decode cX1_sendBy 93 = .ok (.aload_n 0, 1) := by decide +kernel
theorem dX1_sendBy_94 : decode cX1_sendBy 94 = .ok (.getfield 32, 3) := by decide +kernel
theorem dX1_sendBy_97 : decode cX1_sendBy 97 = .ok (.iload 8, 2) := by decide +kernel
theorem dX1_sendBy_99 : decode cX1_sendBy 99 = .ok (.iaload, 1) := by decide +kernel
theorem dX1_sendBy_100 : decode cX1_sendBy 100 = .ok (.iload_n 2, 1) := by decide +kernel
theorem dX1_sendBy_101 : decode cX1_sendBy 101 = .ok (.ishr, 1) := by decide +kernel
theorem dX1_sendBy_102 : decode cX1_sendBy 102 = .ok (.iconst 1, 1) := by decide +kernel
theorem dX1_sendBy_103 : decode cX1_sendBy 103 = .ok (.iand, 1) := by decide +kernel
theorem dX1_sendBy_104 : decode cX1_sendBy 104 = .ok (.iconst 1, 1) := by decide +kernel
theorem dX1_sendBy_105 : decode cX1_sendBy 105 = .ok (.if_icmp .ne 7, 3) := by decide +kernel
theorem dX1_sendBy_108 : decode cX1_sendBy 108 = .ok (.iconst 1, 1) := by decide +kernel
theorem dX1_sendBy_109 : decode cX1_sendBy 109 = .ok (.goto 4, 3) := by decide +kernel
theorem dX1_sendBy_112 : decode cX1_sendBy 112 = .ok (.iconst 0, 1) := by decide +kernel
theorem dX1_sendBy_113 : decode cX1_sendBy 113 = .ok (.istore 9, 2) := by decide +kernel
theorem dX1_sendBy_115 : decode cX1_sendBy 115 = .ok (.aload_n 0, 1) := by decide +kernel
theorem dX1_sendBy_116 : decode cX1_sendBy 116 = .ok (.getfield 32, 3) := by decide +kernel
theorem dX1_sendBy_119 : decode cX1_sendBy 119 = .ok (.iload 8, 2) := by decide +kernel
theorem dX1_sendBy_121 : decode cX1_sendBy 121 = .ok (.iaload, 1) := by decide +kernel
theorem dX1_sendBy_122 : decode cX1_sendBy 122 = .ok (.iload_n 3, 1) := by decide +kernel
theorem dX1_sendBy_123 : decode cX1_sendBy 123 = .ok (.ishr, 1) := by decide +kernel
theorem dX1_sendBy_124 : decode cX1_sendBy 124 = .ok (.iconst 1, 1) := by decide +kernel
theorem dX1_sendBy_125 : decode cX1_sendBy 125 = .ok (.iand, 1) := by decide +kernel
theorem dX1_sendBy_126 : decode cX1_sendBy 126 = .ok (.iconst 1, 1) := by decide +kernel
theorem dX1_sendBy_127 : decode cX1_sendBy 127 = .ok (.if_icmp .ne 7, 3) := by decide +kernel
theorem dX1_sendBy_130 : decode cX1_sendBy 130 = .ok (.iconst 1, 1) := by decide +kernel
theorem dX1_sendBy_131 : decode cX1_sendBy 131 = .ok (.goto 4, 3) := by decide +kernel
theorem dX1_sendBy_134 : decode cX1_sendBy 134 = .ok (.iconst 0, 1) := by decide +kernel
theorem dX1_sendBy_135 : decode cX1_sendBy 135 = .ok (.istore 10, 2) := by decide +kernel
theorem dX1_sendBy_137 : decode cX1_sendBy 137 = .ok (.iload_n 1, 1) := by decide +kernel
theorem dX1_sendBy_138 : decode cX1_sendBy 138 = .ok (.ifCond .ne 21, 3) := by decide +kernel
theorem dX1_sendBy_141 : decode cX1_sendBy 141 = .ok (.iload 9, 2) := by decide +kernel
theorem dX1_sendBy_143 : decode cX1_sendBy 143 = .ok (.ifCond .eq 12, 3) := by decide +kernel
theorem dX1_sendBy_146 : decode cX1_sendBy 146 = .ok (.iload 10, 2) := by decide +kernel
theorem dX1_sendBy_148 : decode cX1_sendBy 148 = .ok (.ifCond .eq 7, 3) := by decide +kernel
theorem dX1_sendBy_151 : decode cX1_sendBy 151 = .ok (.iconst 1, 1) := by decide +kernel
theorem dX1_sendBy_152 : decode cX1_sendBy 152 = .ok (.goto 45, 3) := by decide +kernel
theorem dX1_sendBy_155 : decode cX1_sendBy 155 = .ok (.iconst 0, 1) := by decide +kernel
theorem dX1_sendBy_156 : decode cX1_sendBy 156 = .ok (.goto 41, 3) := by decide +kernel
theorem dX1_sendBy_159 : decode cX1_sendBy 159 = .ok (.iload_n 1, 1) := by decide +kernel
theorem dX1_sendBy_160 : decode cX1_sendBy 160 = .ok (.iconst 1, 1) := by decide +kernel
theorem dX1_sendBy_161 : decode cX1_sendBy 161 = .ok (.if_icmp .ne 21, 3) := by decide +kernel
theorem dX1_sendBy_164 : decode cX1_sendBy 164 = .ok (.iload 9, 2) := by decide +kernel
theorem dX1_sendBy_166 : decode cX1_sendBy 166 = .ok (.ifCond .ne 8, 3) := by decide +kernel
theorem dX1_sendBy_169 : decode cX1_sendBy 169 = .ok (.iload 10, 2) := by decide +kernel
theorem dX1_sendBy_171 : decode cX1_sendBy 171 = .ok (.ifCond .eq 7, 3) := by decide +kernel
theorem dX1_sendBy_174 : decode cX1_sendBy 174 = .ok (.iconst 1, 1) := by decide +kernel
theorem dX1_sendBy_175 : decode cX1_sendBy 175 = .ok (.goto 22, 3) := by decide +kernel
theorem dX1_sendBy_178 : decode cX1_sendBy 178 = .ok (.iconst 0, 1) := by decide +kernel
theorem dX1_sendBy_179 : decode cX1_sendBy 179 = .ok (.goto 18, 3) := by decide +kernel
theorem dX1_sendBy_182 : decode cX1_sendBy 182 = .ok (.iload 9, 2) := by decide +kernel
theorem dX1_sendBy_184 : decode cX1_sendBy 184 = .ok (.ifCond .eq 12, 3) := by decide +kernel
theorem dX1_sendBy_187 : decode cX1_sendBy 187 = .ok (.iload 10, 2) := by decide +kernel
theorem dX1_sendBy_189 : decode cX1_sendBy 189 = .ok (.ifCond .ne 7, 3) := by decide +kernel
theorem dX1_sendBy_192 : decode cX1_sendBy 192 = .ok (.iconst 1, 1) := by decide +kernel
theorem dX1_sendBy_193 : decode cX1_sendBy 193 = .ok (.goto 4, 3) := by decide +kernel
theorem dX1_sendBy_196 : decode cX1_sendBy 196 = .ok (.iconst 0, 1) := by decide +kernel
theorem dX1_sendBy_197 : decode cX1_sendBy 197 = .ok (.istore 11, 2) := by decide +kernel
theorem dX1_sendBy_199 : decode cX1_sendBy 199 = .ok (.iload 7, 2) := by decide +kernel
theorem dX1_sendBy_201 : decode cX1_sendBy 201 = .ok (.iload 11, 2) := by decide +kernel
theorem dX1_sendBy_203 : decode cX1_sendBy 203 = .ok (.ifCond .eq 20, 3) := by decide +kernel
theorem dX1_sendBy_206 : decode cX1_sendBy 206 = .ok (.aload_n 0, 1) := by decide +kernel
theorem dX1_sendBy_207 : decode cX1_sendBy 207 = .ok (.getfield 23, 3) := by decide +kernel
theorem dX1_sendBy_210 : decode cX1_sendBy 210 = .ok (.iload 8, 2) := by decide +kernel
theorem dX1_sendBy_212 : decode cX1_sendBy 212 = .ok (.baload, 1) := by decide +kernel
theorem dX1_sendBy_213 : decode cX1_sendBy 213 = .ok (.ifCond .ne 10, 3) := by decide +kernel
theorem dX1_sendBy_216 : decode cX1_sendBy 216 = .ok (.iconst 1, 1) := by decide +kernel
theorem dX1_sendBy_217 : decode cX1_sendBy 217 = .ok (.iload 8, 2) := by decide +kernel
theorem dX1_sendBy_219 : decode cX1_sendBy 219 = .ok (.ishl, 1) := by decide +kernel
theorem dX1_sendBy_220 : decode cX1_sendBy 220 = .ok (.goto 4, 3) := by decide +kernel
theorem dX1_sendBy_223 : decode cX1_sendBy 223 = .ok (.iconst 0, 1) := by decide +kernel
theorem dX1_sendBy_224 : decode cX1_sendBy 224 = .ok (.ior, 1) := by decide +kernel
theorem dX1_sendBy_225 : decode cX1_sendBy 225 = .ok (.istore 7, 2) := by decide +kernel
theorem dX1_sendBy_227 : decode cX1_sendBy 227 = .ok (.iinc 8 1, 3) := by decide +kernel
theorem dX1_sendBy_230 : decode cX1_sendBy 230 = .ok (.goto (-146), 3) := by decide +kernel
theorem dX1_sendBy_233 : decode cX1_sendBy 233 = .ok (.aload_n 0, 1) := by decide +kernel
theorem dX1_sendBy_234 : decode cX1_sendBy 234 = .ok (.iconst (-1), 1) := by decide +kernel
theorem dX1_sendBy_235 : decode cX1_sendBy 235 = .ok (.iconst (-1), 1) := by decide +kernel
theorem dX1_sendBy_236 : decode cX1_sendBy 236 = .ok (.iload 4, 2) := by decide +kernel
theorem dX1_sendBy_238 : decode cX1_sendBy 238 = .ok (.iload 5, 2) := by decide +kernel
theorem dX1_sendBy_240 : decode cX1_sendBy 240 = .ok (.iload 7, 2) := by decide +kernel
theorem dX1_sendBy_242 : decode cX1_sendBy 242 = .ok (.invokevirtual 122, 3) := by decide +kernel
theorem dX1_sendBy_245 : decode cX1_sendBy 245 = .ok (.ireturn, 1) := by decide +kernel
theorem dX1_bits_0 : decode cX1_bits 0 = .ok (.iconst 0, 1) := by decide +kernel
theorem dX1_bits_1 : decode cX1_bits 1 = .ok (.istore_n 1, 1) := by decide +kernel
theorem dX1_bits_2 : decode cX1_bits 2 = .ok (.iload_n 0, 1) := by decide +kernel
theorem dX1_bits_3 : decode cX1_bits 3 = .ok (.istore_n 2, 1) := by decide +kernel
theorem dX1_bits_4 : decode cX1_bits 4 = .ok (.iload_n 2, 1) := by decide +kernel
theorem dX1_bits_5 : decode cX1_bits 5 = .ok (.ifCond .eq 15, 3) := by decide +kernel
theorem dX1_bits_8 : decode cX1_bits 8 = .ok (.iinc 1 1, 3) := by decide +kernel
theorem dX1_bits_11 : decode cX1_bits 11 = .ok (.iload_n 2, 1) := by decide +kernel
theorem dX1_bits_12 : decode cX1_bits 12 = .ok (.iload_n 2, 1) := by decide +kernel
theorem dX1_bits_13 : decode cX1_bits 13 = .ok (.iconst 1, 1) := by decide +kernel
theorem dX1_bits_14 : decode cX1_bits 14 = .ok (.isub, 1) := by decide +kernel
theorem dX1_bits_15 : decode cX1_bits 15 = .ok (.iand, 1) := by decide +kernel
theorem dX1_bits_16 : decode cX1_bits 16 = .ok (.istore_n 2, 1) := by decide +kernel
theorem dX1_bits_17 : decode cX1_bits 17 = .ok (.goto (-13), 3) := by decide +kernel
theorem dX1_bits_20 : decode cX1_bits 20 = .ok (.iload_n 1, 1) := by decide +kernel
theorem dX1_bits_21 : decode cX1_bits 21 = .ok (.ireturn, 1) := by decide +kernel
set_option maxRecDepth 20000 in
theorem ggX1_read_X1_isDevice : GoodIn wsX1_read wsX1_isDevice := goodIn_r _ [8, 9, 10, 11, 7, 12, 30, 31, 32, 33, 34, 35, 36, 37, 38, 39, 40, 41, 42, 43, 44, 45, 46, 47, 48, 49, 50, 51] (by decide +kernel) (by decide +kernel)
set_option maxRecDepth 20000 in
theorem gX1_read_X1_isDevice : GoodIn wsX1_read (wsV RX1 101 RX1 yX1_isDevice wsX1_isDevice) := goodIn_app (goodIn_of _ (by decide +kernel)) ggX1_read_X1_isDevice
set_option maxRecDepth 20000 in
theorem ggX1_read_X1_isNotice : GoodIn wsX1_read wsX1_isNotice := goodIn_r _ [16, 17, 10, 11, 7, 12, 30, 31, 32, 33, 34, 35, 36, 37, 38, 39, 40, 41, 42, 43, 44, 45, 46, 47, 48, 49, 50, 51] (by decide +kernel) (by decide +kernel)
set_option maxRecDepth 20000 in
theorem gX1_read_X1_isNotice : GoodIn wsX1_read (wsV RX1 126 RX1 yX1_isNotice wsX1_isNotice) := goodIn_app (goodIn_of _ (by decide +kernel)) ggX1_read_X1_isNotice
set_option maxRecDepth 20000 in
theorem ggX1_read_X1_refused : GoodIn wsX1_read wsX1_refused := goodIn_r _ [21, 22, 30, 31, 32, 33, 34, 35, 36, 37, 38, 39, 40, 41, 42, 43, 44, 45, 46, 47, 48, 49, 50, 51] (by decide +kernel) (by decide +kernel)
set_option maxRecDepth 20000 in
theorem gX1_read_X1_refused : GoodIn wsX1_read (wsV RX1 98 RX1 yX1_refused wsX1_refused) := goodIn_app (goodIn_of _ (by decide +kernel)) ggX1_read_X1_refused
set_option maxRecDepth 20000 in
theorem ggX1_read_X1_bits : GoodIn wsX1_read wsX1_bits := goodIn_r _ [25] (by decide +kernel) (by decide +kernel)
set_option maxRecDepth 20000 in
theorem gX1_read_X1_bits : GoodIn wsX1_read (va_wsS RX1 129 yX1_bits wsX1_bits) := goodIn_app (goodIn_of _ (by decide +kernel)) ggX1_read_X1_bits
set_option maxRecDepth 20000 in
theorem ggX1_read_X1_end : GoodIn wsX1_read wsX1_end := goodIn_r _ [29, 2, 3, 30, 31, 32, 33, 34, 35, 36, 37, 38, 39, 40, 41, 42, 43, 44, 45, 46, 47, 48, 49, 50, 51] (by decide +kernel) (by decide +kernel)
set_option maxRecDepth 20000 in
theorem gX1_read_X1_end : GoodIn wsX1_read (wsV RX1 118 RX1 yX1_end wsX1_end) := goodIn_app (goodIn_of _ (by decide +kernel)) ggX1_read_X1_end
theorem dX1_read_0 : decode cX1_read 0 = .ok (.aload_n 0, 1) := by decide +kernel
theorem dX1_read_1 : decode cX1_read 1 = .ok (.iload_n 1, 1) := by decide +kernel
theorem dX1_read_2 : decode cX1_read 2 = .ok (.invokevirtual 101, 3) := by decide +kernel
theorem dX1_read_5 : decode cX1_read 5 = .ok (.ifCond .eq 15, 3) := by decide +kernel
theorem dX1_read_8 : decode cX1_read 8 = .ok (.aload_n 0, 1) := by decide +kernel
theorem dX1_read_9 : decode cX1_read 9 = .ok (.iload_n 2, 1) := by decide +kernel
theorem dX1_read_10 : decode cX1_read 10 = .ok (.invokevirtual 126, 3) := by decide +kernel
theorem dX1_read_13 : decode cX1_read 13 = .ok (.ifCond .eq 7, 3) := by decide +kernel
theorem dX1_read_16 : decode cX1_read 16 = .ok (.iconst 1, 1) := by decide +kernel
theorem dX1_read_17 : decode cX1_read 17 = .ok (.goto 4, 3) := by decide +kernel
theorem dX1_read_20 : decode cX1_read 20 = .ok (.iconst 0, 1) := by decide +kernel
theorem dX1_read_21 : decode cX1_read 21 = .ok (.istore_n 3, 1) := by decide +kernel
theorem dX1_read_22 : decode cX1_read 22 = .ok (.iload_n 3, 1) := by decide +kernel
theorem dX1_read_23 : decode cX1_read 23 = .ok (.ifCond .eq 30, 3) := by decide +kernel
theorem dX1_read_26 : decode cX1_read 26 = .ok (.aload_n 0, 1) := by decide +kernel
theorem dX1_read_27 : decode cX1_read 27 = .ok (.getfield 59, 3) := by decide +kernel
theorem dX1_read_30 : decode cX1_read 30 = .ok (.iload_n 2, 1) := by decide +kernel
theorem dX1_read_31 : decode cX1_read 31 = .ok (.iaload, 1) := by decide +kernel
theorem dX1_read_32 : decode cX1_read 32 = .ok (.iload_n 1, 1) := by decide +kernel
theorem dX1_read_33 : decode cX1_read 33 = .ok (.ishr, 1) := by decide +kernel
theorem dX1_read_34 : decode cX1_read 34 = .ok (.iconst 1, 1) := by decide +kernel
theorem dX1_read_35 : decode cX1_read 35 = .ok (.iand, 1) := by decide +kernel
theorem dX1_read_36 : decode cX1_read 36 = .ok (.iconst 1, 1) := by decide +kernel
theorem dX1_read_37 : decode cX1_read 37 = .ok (.if_icmp .ne 16, 3) := by decide +kernel
theorem dX1_read_40 : decode cX1_read 40 = .ok (.aload_n 0, 1) := by decide +kernel
theorem dX1_read_41 : decode cX1_read 41 = .ok (.getfield 53, 3) := by decide +kernel
theorem dX1_read_44 : decode cX1_read 44 = .ok (.iload_n 2, 1) := by decide +kernel
theorem dX1_read_45 : decode cX1_read 45 = .ok (.baload, 1) := by decide +kernel
theorem dX1_read_46 : decode cX1_read 46 = .ok (.ifCond .ne 7, 3) := by decide +kernel
theorem dX1_read_49 : decode cX1_read 49 = .ok (.iconst 1, 1) := by decide +kernel
theorem dX1_read_50 : decode cX1_read 50 = .ok (.goto 4, 3) := by decide +kernel
theorem dX1_read_53 : decode cX1_read 53 = .ok (.iconst 0, 1) := by decide +kernel
theorem dX1_read_54 : decode cX1_read 54 = .ok (.istore 4, 2) := by decide +kernel
theorem dX1_read_56 : decode cX1_read 56 = .ok (.aload_n 0, 1) := by decide +kernel
theorem dX1_read_57 : decode cX1_read 57 = .ok (.iload_n 3, 1) := by decide +kernel
theorem dX1_read_58 : decode cX1_read 58 = .ok (.ifCond .ne 7, 3) := by decide +kernel
theorem dX1_read_61 : decode cX1_read 61 = .ok (.iconst 1, 1) := by decide +kernel
theorem dX1_read_62 : decode cX1_read 62 = .ok (.goto 13, 3) := by decide +kernel
theorem dX1_read_65 : decode cX1_read 65 = .ok (.iload 4, 2) := by decide +kernel
theorem dX1_read_67 : decode cX1_read 67 = .ok (.ifCond .eq 7, 3) := by decide +kernel
theorem dX1_read_70 : decode cX1_read 70 = .ok (.iconst 0, 1) := by decide +kernel
theorem dX1_read_71 : decode cX1_read 71 = .ok (.goto 4, 3) := by decide +kernel
theorem dX1_read_74 : decode cX1_read 74 = .ok (.iconst 2, 1) := by decide +kernel
theorem dX1_read_75 : decode cX1_read 75 = .ok (.invokevirtual 98, 3) := by decide +kernel
theorem dX1_read_78 : decode cX1_read 78 = .ok (.ifCond .eq 5, 3) := by decide +kernel
theorem dX1_read_81 : decode cX1_read 81 = .ok (.iconst 0, 1) := by decide +kernel
theorem dX1_read_82 : decode cX1_read 82 = .ok (.ireturn, 1) := by decide +kernel
theorem dX1_read_83 : decode cX1_read 83 = .ok (.aload_n 0, 1) := by decide +kernel
theorem dX1_read_84 : decode cX1_read 84 = .ok (.getfield 56, 3) := by decide +kernel
theorem dX1_read_87 : decode cX1_read 87 = .ok (.iload_n 2, 1) := by decide +kernel
theorem dX1_read_88 : decode cX1_read 88 = .ok (.iaload, 1) := by decide +kernel
theorem dX1_read_89 : decode cX1_read 89 = .ok (.invokestatic 129, 3) := by decide +kernel
theorem dX1_read_92 : decode cX1_read 92 = .ok (.istore 5, 2) := by decide +kernel
theorem dX1_read_94 : decode cX1_read 94 = .ok (.aload_n 0, 1) := by decide +kernel
theorem dX1_read_95 : decode cX1_read 95 = .ok (.iload_n 2, 1) := by decide +kernel
theorem dX1_read_96 : decode cX1_read 96 = .ok (.invokevirtual 118, 3) := by decide +kernel
theorem dX1_read_99 : decode cX1_read 99 = .ok (.iload 5, 2) := by decide +kernel
theorem dX1_read_101 : decode cX1_read 101 = .ok (.ireturn, 1) := by decide +kernel
set_option maxRecDepth 20000 in
theorem ggX1_sent_X1_fine : GoodIn wsX1_sent wsX1_fine := goodIn_r _ [6, 7, 8, 9, 10, 11, 12, 13, 14, 15, 16, 17, 18, 19, 20, 21, 22, 23, 24, 25, 26, 27, 28, 29] (by decide +kernel) (by decide +kernel)
set_option maxRecDepth 20000 in
theorem gX1_sent_X1_fine : GoodIn wsX1_sent (wsV RX1 111 RX1 yX1_fine wsX1_fine) := goodIn_app (goodIn_of _ (by decide +kernel)) ggX1_sent_X1_fine
theorem dX1_sent_0 : decode cX1_sent 0 = .ok (.aload_n 0, 1) := by decide +kernel
theorem dX1_sent_1 : decode cX1_sent 1 = .ok (.aload_n 0, 1) := by decide +kernel
theorem dX1_sent_2 : decode cX1_sent 2 = .ok (.getfield 73, 3) := by decide +kernel
theorem dX1_sent_5 : decode cX1_sent 5 = .ok (.invokevirtual 111, 3) := by decide +kernel
theorem dX1_sent_8 : decode cX1_sent 8 = .ok (.ireturn, 1) := by decide +kernel
set_option maxRecDepth 20000 in
theorem ggX1_noNotice_X1_isNotice : GoodIn wsX1_noNotice wsX1_isNotice := goodIn_r _ [5, 6, 7, 8, 4, 9, 15, 16, 17, 18, 19, 20, 21, 22, 23, 24, 25, 26, 27, 28, 29, 30, 31, 32, 33, 34, 35, 36] (by decide +kernel) (by decide +kernel)
set_option maxRecDepth 20000 in
theorem gX1_noNotice_X1_isNotice : GoodIn wsX1_noNotice (wsV RX1 126 RX1 yX1_isNotice wsX1_isNotice) := goodIn_app (goodIn_of _ (by decide +kernel)) ggX1_noNotice_X1_isNotice
set_option maxRecDepth 20000 in
theorem ggX1_noNotice_X1_refused : GoodIn wsX1_noNotice wsX1_refused := goodIn_r _ [13, 14, 15, 16, 17, 18, 19, 20, 21, 22, 23, 24, 25, 26, 27, 28, 29, 30, 31, 32, 33, 34, 35, 36] (by decide +kernel) (by decide +kernel)
set_option maxRecDepth 20000 in
theorem gX1_noNotice_X1_refused : GoodIn wsX1_noNotice (wsV RX1 98 RX1 yX1_refused wsX1_refused) := goodIn_app (goodIn_of _ (by decide +kernel)) ggX1_noNotice_X1_refused
theorem dX1_noNotice_0 : decode cX1_noNotice 0 = .ok (.aload_n 0, 1) := by decide +kernel
theorem dX1_noNotice_1 : decode cX1_noNotice 1 = .ok (.aload_n 0, 1) := by decide +kernel
theorem dX1_noNotice_2 : decode cX1_noNotice 2 = .ok (.iload_n 1, 1) := by decide +kernel
theorem dX1_noNotice_3 : decode cX1_noNotice 3 = .ok (.invokevirtual 126, 3) := by decide +kernel
theorem dX1_noNotice_6 : decode cX1_noNotice 6 = .ok (.ifCond .eq 7, 3) := by decide +kernel
theorem dX1_noNotice_9 : decode cX1_noNotice 9 = .ok (.iconst 0, 1) := by decide +kernel
theorem dX1_noNotice_10 : decode cX1_noNotice 10 = .ok (.goto 4, 3) := by decide +kernel
theorem dX1_noNotice_13 : decode cX1_noNotice 13 = .ok (.iconst 1, 1) := by decide +kernel
theorem dX1_noNotice_14 : decode cX1_noNotice 14 = .ok (.invokevirtual 98, 3) := by decide +kernel
theorem dX1_noNotice_17 : decode cX1_noNotice 17 = .ok (.ireturn, 1) := by decide +kernel
set_option maxRecDepth 20000 in
theorem ggX1_stands_X1_noNotice : GoodIn wsX1_stands wsX1_noNotice := goodIn_r _ [6, 7, 8, 9, 5, 10, 11, 12, 13, 14, 15, 16, 17, 18, 19, 20, 21, 22, 23, 24, 25, 26, 27, 28, 29, 30, 31, 32, 33, 34, 35, 36, 37, 38, 39, 40, 41] (by decide +kernel) (by decide +kernel)
set_option maxRecDepth 20000 in
theorem gX1_stands_X1_noNotice : GoodIn wsX1_stands (wsV RX1 132 RX1 yX1_noNotice wsX1_noNotice) := goodIn_app (goodIn_of _ (by decide +kernel)) ggX1_stands_X1_noNotice
theorem dX1_stands_0 : decode cX1_stands 0 = .ok (.aload_n 0, 1) := by decide +kernel
theorem dX1_stands_1 : decode cX1_stands 1 = .ok (.iload_n 1, 1) := by decide +kernel
theorem dX1_stands_2 : decode cX1_stands 2 = .ok (.invokevirtual 132, 3) := by decide +kernel
theorem dX1_stands_5 : decode cX1_stands 5 = .ok (.ifCond .ne 16, 3) := by decide +kernel
theorem dX1_stands_8 : decode cX1_stands 8 = .ok (.aload_n 0, 1) := by decide +kernel
theorem dX1_stands_9 : decode cX1_stands 9 = .ok (.getfield 53, 3) := by decide +kernel
theorem dX1_stands_12 : decode cX1_stands 12 = .ok (.iload_n 1, 1) := by decide +kernel
theorem dX1_stands_13 : decode cX1_stands 13 = .ok (.baload, 1) := by decide +kernel
theorem dX1_stands_14 : decode cX1_stands 14 = .ok (.ifCond .ne 7, 3) := by decide +kernel
theorem dX1_stands_17 : decode cX1_stands 17 = .ok (.iconst 1, 1) := by decide +kernel
theorem dX1_stands_18 : decode cX1_stands 18 = .ok (.goto 4, 3) := by decide +kernel
theorem dX1_stands_21 : decode cX1_stands 21 = .ok (.iconst 0, 1) := by decide +kernel
theorem dX1_stands_22 : decode cX1_stands 22 = .ok (.ireturn, 1) := by decide +kernel
set_option maxRecDepth 20000 in
theorem ggX1_waitsFor_X1_noNotice : GoodIn wsX1_waitsFor wsX1_noNotice := goodIn_r _ [6, 7, 8, 9, 5, 10, 11, 12, 13, 14, 15, 16, 17, 18, 19, 20, 21, 22, 23, 24, 25, 26, 27, 28, 29, 30, 31, 32, 33, 34, 35, 36, 37, 38, 39, 40, 41] (by decide +kernel) (by decide +kernel)
set_option maxRecDepth 20000 in
theorem gX1_waitsFor_X1_noNotice : GoodIn wsX1_waitsFor (wsV RX1 132 RX1 yX1_noNotice wsX1_noNotice) := goodIn_app (goodIn_of _ (by decide +kernel)) ggX1_waitsFor_X1_noNotice
theorem dX1_waitsFor_0 : decode cX1_waitsFor 0 = .ok (.aload_n 0, 1) := by decide +kernel
theorem dX1_waitsFor_1 : decode cX1_waitsFor 1 = .ok (.iload_n 1, 1) := by decide +kernel
theorem dX1_waitsFor_2 : decode cX1_waitsFor 2 = .ok (.invokevirtual 132, 3) := by decide +kernel
theorem dX1_waitsFor_5 : decode cX1_waitsFor 5 = .ok (.ifCond .eq 7, 3) := by decide +kernel
theorem dX1_waitsFor_8 : decode cX1_waitsFor 8 = .ok (.iconst 0, 1) := by decide +kernel
theorem dX1_waitsFor_9 : decode cX1_waitsFor 9 = .ok (.goto 9, 3) := by decide +kernel
theorem dX1_waitsFor_12 : decode cX1_waitsFor 12 = .ok (.aload_n 0, 1) := by decide +kernel
theorem dX1_waitsFor_13 : decode cX1_waitsFor 13 = .ok (.getfield 56, 3) := by decide +kernel
theorem dX1_waitsFor_16 : decode cX1_waitsFor 16 = .ok (.iload_n 1, 1) := by decide +kernel
theorem dX1_waitsFor_17 : decode cX1_waitsFor 17 = .ok (.iaload, 1) := by decide +kernel
theorem dX1_waitsFor_18 : decode cX1_waitsFor 18 = .ok (.ireturn, 1) := by decide +kernel
set_option maxRecDepth 20000 in
theorem ggX1_deliveredTo_X1_noNotice : GoodIn wsX1_deliveredTo wsX1_noNotice := goodIn_r _ [6, 7, 8, 9, 5, 10, 11, 12, 13, 14, 15, 16, 17, 18, 19, 20, 21, 22, 23, 24, 25, 26, 27, 28, 29, 30, 31, 32, 33, 34, 35, 36, 37, 38, 39, 40, 41] (by decide +kernel) (by decide +kernel)
set_option maxRecDepth 20000 in
theorem gX1_deliveredTo_X1_noNotice : GoodIn wsX1_deliveredTo (wsV RX1 132 RX1 yX1_noNotice wsX1_noNotice) := goodIn_app (goodIn_of _ (by decide +kernel)) ggX1_deliveredTo_X1_noNotice
theorem dX1_deliveredTo_0 : decode cX1_deliveredTo 0 = .ok (.aload_n 0, 1) := by decide +kernel
theorem dX1_deliveredTo_1 : decode cX1_deliveredTo 1 = .ok (.iload_n 1, 1) := by decide +kernel
theorem dX1_deliveredTo_2 : decode cX1_deliveredTo 2 = .ok (.invokevirtual 132, 3) := by decide +kernel
theorem dX1_deliveredTo_5 : decode cX1_deliveredTo 5 = .ok (.ifCond .eq 7, 3) := by decide +kernel
theorem dX1_deliveredTo_8 : decode cX1_deliveredTo 8 = .ok (.iconst 0, 1) := by decide +kernel
theorem dX1_deliveredTo_9 : decode cX1_deliveredTo 9 = .ok (.goto 9, 3) := by decide +kernel
theorem dX1_deliveredTo_12 : decode cX1_deliveredTo 12 = .ok (.aload_n 0, 1) := by decide +kernel
theorem dX1_deliveredTo_13 : decode cX1_deliveredTo 13 = .ok (.getfield 59, 3) := by decide +kernel
theorem dX1_deliveredTo_16 : decode cX1_deliveredTo 16 = .ok (.iload_n 1, 1) := by decide +kernel
theorem dX1_deliveredTo_17 : decode cX1_deliveredTo 17 = .ok (.iaload, 1) := by decide +kernel
theorem dX1_deliveredTo_18 : decode cX1_deliveredTo 18 = .ok (.ireturn, 1) := by decide +kernel
set_option maxRecDepth 20000 in
theorem ggX1_standing_X1_in : GoodIn wsX1_standing wsX1_in := goodIn_r _ [4] (by decide +kernel) (by decide +kernel)
set_option maxRecDepth 20000 in
theorem gX1_standing_X1_in : GoodIn wsX1_standing (va_wsS RX1 69 yX1_in wsX1_in) := goodIn_app (goodIn_of _ (by decide +kernel)) ggX1_standing_X1_in
set_option maxRecDepth 20000 in
theorem ggX1_standing_X1_refused : GoodIn wsX1_standing wsX1_refused := goodIn_r _ [8, 9, 18, 19, 20, 21, 22, 23, 24, 25, 26, 27, 28, 29, 30, 31, 32, 33, 34, 35, 36, 37, 38, 39] (by decide +kernel) (by decide +kernel)
set_option maxRecDepth 20000 in
theorem gX1_standing_X1_refused : GoodIn wsX1_standing (wsV RX1 98 RX1 yX1_refused wsX1_refused) := goodIn_app (goodIn_of _ (by decide +kernel)) ggX1_standing_X1_refused
set_option maxRecDepth 20000 in
theorem ggX1_standing_X1_standingNow : GoodIn wsX1_standing wsX1_standingNow := goodIn_r _ [13, 14, 15, 16, 17, 18, 19, 20, 21, 22, 23, 24, 25, 26, 27, 28, 29, 30, 31, 32, 33, 34, 35, 36, 37, 38, 39] (by decide +kernel) (by decide +kernel)
set_option maxRecDepth 20000 in
theorem gX1_standing_X1_standingNow : GoodIn wsX1_standing (wsV RX1 114 RX1 yX1_standingNow wsX1_standingNow) := goodIn_app (goodIn_of _ (by decide +kernel)) ggX1_standing_X1_standingNow
theorem dX1_standing_0 : decode cX1_standing 0 = .ok (.aload_n 0, 1) := by decide +kernel
theorem dX1_standing_1 : decode cX1_standing 1 = .ok (.iload_n 1, 1) := by decide +kernel
theorem dX1_standing_2 : decode cX1_standing 2 = .ok (.iconst 0, 1) := by decide +kernel
theorem dX1_standing_3 : decode cX1_standing 3 = .ok (.bipush 7, 2) := by decide +kernel
theorem dX1_standing_5 : decode cX1_standing 5 = .ok (.invokestatic 69, 3) := by decide +kernel
theorem dX1_standing_8 : decode cX1_standing 8 = .ok (.ifCond .eq 17, 3) := by decide +kernel
theorem dX1_standing_11 : decode cX1_standing 11 = .ok (.iload_n 2, 1) := by decide +kernel
theorem dX1_standing_12 : decode cX1_standing 12 = .ok (.iconst 0, 1) := by decide +kernel
theorem dX1_standing_13 : decode cX1_standing 13 = .ok (.bipush 9, 2) := by decide +kernel
theorem dX1_standing_15 : decode cX1_standing 15 = .ok (.invokestatic 69, 3) := by decide +kernel
theorem dX1_standing_18 : decode cX1_standing 18 = .ok (.ifCond .eq 7, 3) := by decide +kernel
theorem dX1_standing_21 : decode cX1_standing 21 = .ok (.iconst 0, 1) := by decide +kernel
theorem dX1_standing_22 : decode cX1_standing 22 = .ok (.goto 4, 3) := by decide +kernel
theorem dX1_standing_25 : decode cX1_standing 25 = .ok (.iconst 1, 1) := by decide +kernel
theorem dX1_standing_26 : decode cX1_standing 26 = .ok (.invokevirtual 98, 3) := by decide +kernel
theorem dX1_standing_29 : decode cX1_standing 29 = .ok (.ifCond .eq 7, 3) := by decide +kernel
theorem dX1_standing_32 : decode cX1_standing 32 = .ok (.iconst 0, 1) := by decide +kernel
theorem dX1_standing_33 : decode cX1_standing 33 = .ok (.goto 9, 3) := by decide +kernel
theorem dX1_standing_36 : decode cX1_standing 36 = .ok (.aload_n 0, 1) := by decide +kernel
theorem dX1_standing_37 : decode cX1_standing 37 = .ok (.iload_n 1, 1) := by decide +kernel
theorem dX1_standing_38 : decode cX1_standing 38 = .ok (.iload_n 2, 1) := by decide +kernel
theorem dX1_standing_39 : decode cX1_standing 39 = .ok (.invokevirtual 114, 3) := by decide +kernel
theorem dX1_standing_42 : decode cX1_standing 42 = .ok (.ireturn, 1) := by decide +kernel
set_option maxRecDepth 20000 in
theorem ggX1_badge_X1_isDevice : GoodIn wsX1_badge wsX1_isDevice := goodIn_r _ [8, 9, 10, 11, 7, 12, 18, 19, 20, 21, 22, 23, 24, 25, 26, 27, 28, 29, 30, 31, 32, 33, 34, 35, 36, 37, 38, 39] (by decide +kernel) (by decide +kernel)
set_option maxRecDepth 20000 in
theorem gX1_badge_X1_isDevice : GoodIn wsX1_badge (wsV RX1 101 RX1 yX1_isDevice wsX1_isDevice) := goodIn_app (goodIn_of _ (by decide +kernel)) ggX1_badge_X1_isDevice
set_option maxRecDepth 20000 in
theorem ggX1_badge_X1_refused : GoodIn wsX1_badge wsX1_refused := goodIn_r _ [16, 17, 18, 19, 20, 21, 22, 23, 24, 25, 26, 27, 28, 29, 30, 31, 32, 33, 34, 35, 36, 37, 38, 39] (by decide +kernel) (by decide +kernel)
set_option maxRecDepth 20000 in
theorem gX1_badge_X1_refused : GoodIn wsX1_badge (wsV RX1 98 RX1 yX1_refused wsX1_refused) := goodIn_app (goodIn_of _ (by decide +kernel)) ggX1_badge_X1_refused
theorem dX1_badge_0 : decode cX1_badge 0 = .ok (.aload_n 0, 1) := by decide +kernel
theorem dX1_badge_1 : decode cX1_badge 1 = .ok (.aload_n 0, 1) := by decide +kernel
theorem dX1_badge_2 : decode cX1_badge 2 = .ok (.iload_n 1, 1) := by decide +kernel
theorem dX1_badge_3 : decode cX1_badge 3 = .ok (.invokevirtual 101, 3) := by decide +kernel
theorem dX1_badge_6 : decode cX1_badge 6 = .ok (.ifCond .eq 7, 3) := by decide +kernel
theorem dX1_badge_9 : decode cX1_badge 9 = .ok (.iconst 0, 1) := by decide +kernel
theorem dX1_badge_10 : decode cX1_badge 10 = .ok (.goto 4, 3) := by decide +kernel
theorem dX1_badge_13 : decode cX1_badge 13 = .ok (.iconst 1, 1) := by decide +kernel
theorem dX1_badge_14 : decode cX1_badge 14 = .ok (.invokevirtual 98, 3) := by decide +kernel
theorem dX1_badge_17 : decode cX1_badge 17 = .ok (.ifCond .eq 5, 3) := by decide +kernel
theorem dX1_badge_20 : decode cX1_badge 20 = .ok (.iconst 0, 1) := by decide +kernel
theorem dX1_badge_21 : decode cX1_badge 21 = .ok (.ireturn, 1) := by decide +kernel
theorem dX1_badge_22 : decode cX1_badge 22 = .ok (.iconst 0, 1) := by decide +kernel
theorem dX1_badge_23 : decode cX1_badge 23 = .ok (.istore_n 2, 1) := by decide +kernel
theorem dX1_badge_24 : decode cX1_badge 24 = .ok (.iconst 0, 1) := by decide +kernel
theorem dX1_badge_25 : decode cX1_badge 25 = .ok (.istore_n 3, 1) := by decide +kernel
theorem dX1_badge_26 : decode cX1_badge 26 = .ok (.iload_n 3, 1) := by decide +kernel
theorem dX1_badge_27 : decode cX1_badge 27 = .ok (.aload_n 0, 1) := by decide +kernel
theorem dX1_badge_28 : decode cX1_badge 28 = .ok (.getfield 73, 3) := by decide +kernel
theorem dX1_badge_31 : decode cX1_badge 31 = .ok (.if_icmp .ge 35, 3) := by decide +kernel
theorem dX1_badge_34 : decode cX1_badge 34 = .ok (.iload_n 2, 1) := by decide +kernel
theorem dX1_badge_35 : decode cX1_badge 35 = .ok (.aload_n 0, 1) := by decide +kernel
theorem dX1_badge_36 : decode cX1_badge 36 = .ok (.getfield 53, 3) := by decide +kernel
theorem dX1_badge_39 : decode cX1_badge 39 = .ok (.iload_n 3, 1) := by decide +kernel
theorem dX1_badge_40 : decode cX1_badge 40 = .ok (.baload, 1) := by decide +kernel
theorem dX1_badge_41 : decode cX1_badge 41 = .ok (.ifCond .eq 7, 3) := by decide +kernel
theorem dX1_badge_44 : decode cX1_badge 44 = .ok (.iconst 0, 1) := by decide +kernel
theorem dX1_badge_45 : decode cX1_badge 45 = .ok (.goto 13, 3) := by decide +kernel
theorem dX1_badge_48 : decode cX1_badge 48 = .ok (.aload_n 0, 1) := by decide +kernel
theorem dX1_badge_49 : decode cX1_badge 49 = .ok (.getfield 59, 3) := by decide +kernel
theorem dX1_badge_52 : decode cX1_badge 52 = .ok (.iload_n 3, 1) := by decide +kernel
theorem dX1_badge_53 : decode cX1_badge 53 = .ok (.iaload, 1) := by decide +kernel
theorem dX1_badge_54 : decode cX1_badge 54 = .ok (.iload_n 1, 1) := by decide +kernel
theorem dX1_badge_55 : decode cX1_badge 55 = .ok (.ishr, 1) := by decide +kernel
theorem dX1_badge_56 : decode cX1_badge 56 = .ok (.iconst 1, 1) := by decide +kernel
theorem dX1_badge_57 : decode cX1_badge 57 = .ok (.iand, 1) := by decide +kernel
theorem dX1_badge_58 : decode cX1_badge 58 = .ok (.iadd, 1) := by decide +kernel
theorem dX1_badge_59 : decode cX1_badge 59 = .ok (.istore_n 2, 1) := by decide +kernel
theorem dX1_badge_60 : decode cX1_badge 60 = .ok (.iinc 3 1, 3) := by decide +kernel
theorem dX1_badge_63 : decode cX1_badge 63 = .ok (.goto (-37), 3) := by decide +kernel
theorem dX1_badge_66 : decode cX1_badge 66 = .ok (.iload_n 2, 1) := by decide +kernel
theorem dX1_badge_67 : decode cX1_badge 67 = .ok (.ireturn, 1) := by decide +kernel
set_option maxRecDepth 20000 in
theorem ggX1_waiting_X1_isDevice : GoodIn wsX1_waiting wsX1_isDevice := goodIn_r _ [5, 6, 7, 8, 4, 9, 21, 22, 23, 24, 25, 26, 27, 28, 29, 30, 31, 32, 33, 34, 35, 36, 37, 38, 39, 40, 41, 42] (by decide +kernel) (by decide +kernel)
set_option maxRecDepth 20000 in
theorem gX1_waiting_X1_isDevice : GoodIn wsX1_waiting (wsV RX1 101 RX1 yX1_isDevice wsX1_isDevice) := goodIn_app (goodIn_of _ (by decide +kernel)) ggX1_waiting_X1_isDevice
set_option maxRecDepth 20000 in
theorem ggX1_waiting_X1_refused : GoodIn wsX1_waiting wsX1_refused := goodIn_r _ [13, 14, 21, 22, 23, 24, 25, 26, 27, 28, 29, 30, 31, 32, 33, 34, 35, 36, 37, 38, 39, 40, 41, 42] (by decide +kernel) (by decide +kernel)
set_option maxRecDepth 20000 in
theorem gX1_waiting_X1_refused : GoodIn wsX1_waiting (wsV RX1 98 RX1 yX1_refused wsX1_refused) := goodIn_app (goodIn_of _ (by decide +kernel)) ggX1_waiting_X1_refused
set_option maxRecDepth 20000 in
theorem ggX1_waiting_X1_countWaiting : GoodIn wsX1_waiting wsX1_countWaiting := goodIn_r _ [18, 19, 20, 21, 22, 23, 24, 25, 26, 27, 28, 29, 30, 31, 32, 33, 34, 35, 36, 37, 38, 39, 40, 41, 42] (by decide +kernel) (by decide +kernel)
set_option maxRecDepth 20000 in
theorem gX1_waiting_X1_countWaiting : GoodIn wsX1_waiting (wsV RX1 108 RX1 yX1_countWaiting wsX1_countWaiting) := goodIn_app (goodIn_of _ (by decide +kernel)) ggX1_waiting_X1_countWaiting
theorem dX1_waiting_0 : decode cX1_waiting 0 = .ok (.aload_n 0, 1) := by decide +kernel
theorem dX1_waiting_1 : decode cX1_waiting 1 = .ok (.aload_n 0, 1) := by decide +kernel
theorem dX1_waiting_2 : decode cX1_waiting 2 = .ok (.iload_n 1, 1) := by decide +kernel
theorem dX1_waiting_3 : decode cX1_waiting 3 = .ok (.invokevirtual 101, 3) := by decide +kernel
theorem dX1_waiting_6 : decode cX1_waiting 6 = .ok (.ifCond .eq 7, 3) := by decide +kernel
theorem dX1_waiting_9 : decode cX1_waiting 9 = .ok (.iconst 0, 1) := by decide +kernel
theorem dX1_waiting_10 : decode cX1_waiting 10 = .ok (.goto 4, 3) := by decide +kernel
theorem dX1_waiting_13 : decode cX1_waiting 13 = .ok (.iconst 1, 1) := by decide +kernel
theorem dX1_waiting_14 : decode cX1_waiting 14 = .ok (.invokevirtual 98, 3) := by decide +kernel
theorem dX1_waiting_17 : decode cX1_waiting 17 = .ok (.ifCond .eq 7, 3) := by decide +kernel
theorem dX1_waiting_20 : decode cX1_waiting 20 = .ok (.iconst 0, 1) := by decide +kernel
theorem dX1_waiting_21 : decode cX1_waiting 21 = .ok (.goto 8, 3) := by decide +kernel
end
section
theorem dX1_waiting_24 : decode cX1_waiting 24 = .ok (.aload_n 0, 1) := by decide +kernel
theorem dX1_waiting_25 : decode cX1_waiting 25 = .ok (.iload_n 1, 1) := by decide +kernel
theorem dX1_waiting_26 : decode cX1_waiting 26 = .ok (.invokevirtual 108, 3) := by decide +kernel
theorem dX1_waiting_29 : decode cX1_waiting 29 = .ok (.ireturn, 1) := by decide +kernel
set_option maxRecDepth 20000 in
theorem ggX1_quota_X1_isDevice : GoodIn wsX1_quota wsX1_isDevice := goodIn_r _ [5, 6, 7, 8, 4, 9, 22, 23, 24, 25, 26, 27, 28, 29, 30, 31, 32, 33, 34, 35, 36, 37, 38, 39, 40, 41, 42, 43] (by decide +kernel) (by decide +kernel)
set_option maxRecDepth 20000 in
theorem gX1_quota_X1_isDevice : GoodIn wsX1_quota (wsV RX1 101 RX1 yX1_isDevice wsX1_isDevice) := goodIn_app (goodIn_of _ (by decide +kernel)) ggX1_quota_X1_isDevice
set_option maxRecDepth 20000 in
theorem ggX1_quota_X1_refused : GoodIn wsX1_quota wsX1_refused := goodIn_r _ [13, 14, 22, 23, 24, 25, 26, 27, 28, 29, 30, 31, 32, 33, 34, 35, 36, 37, 38, 39, 40, 41, 42, 43] (by decide +kernel) (by decide +kernel)
set_option maxRecDepth 20000 in
theorem gX1_quota_X1_refused : GoodIn wsX1_quota (wsV RX1 98 RX1 yX1_refused wsX1_refused) := goodIn_app (goodIn_of _ (by decide +kernel)) ggX1_quota_X1_refused
set_option maxRecDepth 20000 in
theorem ggX1_quota_X1_used : GoodIn wsX1_quota wsX1_used := goodIn_r _ [18, 19, 20, 21, 22, 23, 24, 25, 26, 27, 28, 29, 30, 31, 32, 33, 34, 35, 36, 37, 38, 39, 40, 41, 42, 43] (by decide +kernel) (by decide +kernel)
set_option maxRecDepth 20000 in
theorem gX1_quota_X1_used : GoodIn wsX1_quota (wsV RX1 79 RX1 yX1_used wsX1_used) := goodIn_app (goodIn_of _ (by decide +kernel)) ggX1_quota_X1_used
theorem dX1_quota_0 : decode cX1_quota 0 = .ok (.aload_n 0, 1) := by decide +kernel
theorem dX1_quota_1 : decode cX1_quota 1 = .ok (.aload_n 0, 1) := by decide +kernel
theorem dX1_quota_2 : decode cX1_quota 2 = .ok (.iload_n 1, 1) := by decide +kernel
theorem dX1_quota_3 : decode cX1_quota 3 = .ok (.invokevirtual 101, 3) := by decide +kernel
theorem dX1_quota_6 : decode cX1_quota 6 = .ok (.ifCond .eq 7, 3) := by decide +kernel
theorem dX1_quota_9 : decode cX1_quota 9 = .ok (.iconst 0, 1) := by decide +kernel
theorem dX1_quota_10 : decode cX1_quota 10 = .ok (.goto 4, 3) := by decide +kernel
theorem dX1_quota_13 : decode cX1_quota 13 = .ok (.iconst 1, 1) := by decide +kernel
theorem dX1_quota_14 : decode cX1_quota 14 = .ok (.invokevirtual 98, 3) := by decide +kernel
theorem dX1_quota_17 : decode cX1_quota 17 = .ok (.ifCond .eq 7, 3) := by decide +kernel
theorem dX1_quota_20 : decode cX1_quota 20 = .ok (.iconst 0, 1) := by decide +kernel
theorem dX1_quota_21 : decode cX1_quota 21 = .ok (.goto 10, 3) := by decide +kernel
theorem dX1_quota_24 : decode cX1_quota 24 = .ok (.iconst 3, 1) := by decide +kernel
theorem dX1_quota_25 : decode cX1_quota 25 = .ok (.aload_n 0, 1) := by decide +kernel
theorem dX1_quota_26 : decode cX1_quota 26 = .ok (.iload_n 1, 1) := by decide +kernel
theorem dX1_quota_27 : decode cX1_quota 27 = .ok (.invokevirtual 79, 3) := by decide +kernel
theorem dX1_quota_30 : decode cX1_quota 30 = .ok (.isub, 1) := by decide +kernel
theorem dX1_quota_31 : decode cX1_quota 31 = .ok (.ireturn, 1) := by decide +kernel
set_option maxRecDepth 20000 in
theorem ggX1_pass_X1_in : GoodIn wsX1_pass wsX1_in := goodIn_r _ [9] (by decide +kernel) (by decide +kernel)
set_option maxRecDepth 20000 in
theorem gX1_pass_X1_in : GoodIn wsX1_pass (va_wsS RX1 69 yX1_in wsX1_in) := goodIn_app (goodIn_of _ (by decide +kernel)) ggX1_pass_X1_in
set_option maxRecDepth 20000 in
theorem ggX1_pass_X1_refused : GoodIn wsX1_pass wsX1_refused := goodIn_r _ [13, 14, 51, 52, 53, 54, 55, 56, 57, 58, 59, 60, 61, 62, 63, 64, 65, 66, 67, 68, 69, 70, 71, 72] (by decide +kernel) (by decide +kernel)
set_option maxRecDepth 20000 in
theorem gX1_pass_X1_refused : GoodIn wsX1_pass (wsV RX1 98 RX1 yX1_refused wsX1_refused) := goodIn_app (goodIn_of _ (by decide +kernel)) ggX1_pass_X1_refused
set_option maxRecDepth 20000 in
theorem ggX1_pass_X1_end : GoodIn wsX1_pass wsX1_end := goodIn_r _ [18, 4, 19, 51, 52, 53, 54, 55, 56, 57, 58, 59, 60, 61, 62, 63, 64, 65, 66, 67, 68, 69, 70, 71, 72] (by decide +kernel) (by decide +kernel)
set_option maxRecDepth 20000 in
theorem gX1_pass_X1_end : GoodIn wsX1_pass (wsV RX1 118 RX1 yX1_end wsX1_end) := goodIn_app (goodIn_of _ (by decide +kernel)) ggX1_pass_X1_end
set_option maxRecDepth 20000 in
theorem ggX1_pass_X1_look : GoodIn wsX1_pass wsX1_look := goodIn_r _ [23, 24, 25, 3, 19, 26, 27, 28, 8, 29, 30, 31, 32, 1, 33, 34, 35, 36, 37, 38, 39, 40, 41, 42, 43, 44, 45, 46, 47, 48, 49, 50, 51, 52, 53, 54, 55, 56, 57, 58, 59, 60, 61, 62, 63, 64, 65, 66, 67, 68, 69, 70, 71, 72] (by decide +kernel) (by decide +kernel)
set_option maxRecDepth 20000 in
theorem gX1_pass_X1_look : GoodIn wsX1_pass (wsV RX1 104 RX1 yX1_look wsX1_look) := goodIn_app (goodIn_of _ (by decide +kernel)) ggX1_pass_X1_look
theorem dX1_pass_0 : decode cX1_pass 0 = .ok (.aload_n 0, 1) := by decide +kernel
theorem dX1_pass_1 : decode cX1_pass 1 = .ok (.iload_n 1, 1) := by decide +kernel
theorem dX1_pass_2 : decode cX1_pass 2 = .ok (.iconst 1, 1) := by decide +kernel
theorem dX1_pass_3 : decode cX1_pass 3 = .ok (.sipush 3000, 3) := by decide +kernel
theorem dX1_pass_6 : decode cX1_pass 6 = .ok (.invokestatic 69, 3) := by decide +kernel
theorem dX1_pass_9 : decode cX1_pass 9 = .ok (.ifCond .ne 7, 3) := by decide +kernel
theorem dX1_pass_12 : decode cX1_pass 12 = .ok (.iconst 1, 1) := by decide +kernel
theorem dX1_pass_13 : decode cX1_pass 13 = .ok (.goto 19, 3) := by decide +kernel
theorem dX1_pass_16 : decode cX1_pass 16 = .ok (.aload_n 0, 1) := by decide +kernel
theorem dX1_pass_17 : decode cX1_pass 17 = .ok (.getfield 76, 3) := by decide +kernel
theorem dX1_pass_20 : decode cX1_pass 20 = .ok (.iload_n 1, 1) := by decide +kernel
theorem dX1_pass_21 : decode cX1_pass 21 = .ok (.iadd, 1) := by decide +kernel
theorem dX1_pass_22 : decode cX1_pass 22 = .ok (.ldc 135, 2) := by decide +kernel
theorem dX1_pass_24 : decode cX1_pass 24 = .ok (.if_icmp .le 7, 3) := by decide +kernel
theorem dX1_pass_27 : decode cX1_pass 27 = .ok (.iconst 2, 1) := by decide +kernel
theorem dX1_pass_28 : decode cX1_pass 28 = .ok (.goto 4, 3) := by decide +kernel
theorem dX1_pass_31 : decode cX1_pass 31 = .ok (.iconst 0, 1) := by decide +kernel
theorem dX1_pass_32 : decode cX1_pass 32 = .ok (.invokevirtual 98, 3) := by decide +kernel
theorem dX1_pass_35 : decode cX1_pass 35 = .ok (.ifCond .eq 5, 3) := by decide +kernel
theorem dX1_pass_38 : decode cX1_pass 38 = .ok (.iconst 0, 1) := by decide +kernel
theorem dX1_pass_39 : decode cX1_pass 39 = .ok (.ireturn, 1) := by decide +kernel
theorem dX1_pass_40 : decode cX1_pass 40 = .ok (.iconst 0, 1) := by decide +kernel
theorem dX1_pass_41 : decode cX1_pass 41 = .ok (.istore_n 2, 1) := by decide +kernel
theorem dX1_pass_42 : decode cX1_pass 42 = .ok (.iconst 0, 1) := by decide +kernel
theorem dX1_pass_43 : decode cX1_pass 43 = .ok (.istore_n 3, 1) := by decide +kernel
theorem dX1_pass_44 : decode cX1_pass 44 = .ok (.iload_n 3, 1) := by decide +kernel
theorem dX1_pass_45 : decode cX1_pass 45 = .ok (.iload_n 1, 1) := by decide +kernel
theorem dX1_pass_46 : decode cX1_pass 46 = .ok (.if_icmp .ge 74, 3) := by decide +kernel
theorem dX1_pass_49 : decode cX1_pass 49 = .ok (.aload_n 0, 1) := by decide +kernel
theorem dX1_pass_50 : decode cX1_pass 50 = .ok (.dup, 1) := by decide +kernel
theorem dX1_pass_51 : decode cX1_pass 51 = .ok (.getfield 76, 3) := by decide +kernel
theorem dX1_pass_54 : decode cX1_pass 54 = .ok (.iconst 1, 1) := by decide +kernel
theorem dX1_pass_55 : decode cX1_pass 55 = .ok (.iadd, 1) := by decide +kernel
theorem dX1_pass_56 : decode cX1_pass 56 = .ok (.putfield 76, 3) := by decide +kernel
theorem dX1_pass_59 : decode cX1_pass 59 = .ok (.iconst 0, 1) := by decide +kernel
theorem dX1_pass_60 : decode cX1_pass 60 = .ok (.istore 4, 2) := by decide +kernel
theorem dX1_pass_62 : decode cX1_pass 62 = .ok (.iload 4, 2) := by decide +kernel
theorem dX1_pass_64 : decode cX1_pass 64 = .ok (.aload_n 0, 1) := by decide +kernel
theorem dX1_pass_65 : decode cX1_pass 65 = .ok (.getfield 73, 3) := by decide +kernel
theorem dX1_pass_68 : decode cX1_pass 68 = .ok (.if_icmp .ge 39, 3) := by decide +kernel
theorem dX1_pass_71 : decode cX1_pass 71 = .ok (.aload_n 0, 1) := by decide +kernel
theorem dX1_pass_72 : decode cX1_pass 72 = .ok (.getfield 53, 3) := by decide +kernel
theorem dX1_pass_75 : decode cX1_pass 75 = .ok (.iload 4, 2) := by decide +kernel
theorem dX1_pass_77 : decode cX1_pass 77 = .ok (.baload, 1) := by decide +kernel
theorem dX1_pass_78 : decode cX1_pass 78 = .ok (.ifCond .ne 23, 3) := by decide +kernel
theorem dX1_pass_81 : decode cX1_pass 81 = .ok (.aload_n 0, 1) := by decide +kernel
theorem dX1_pass_82 : decode cX1_pass 82 = .ok (.getfield 44, 3) := by decide +kernel
theorem dX1_pass_85 : decode cX1_pass 85 = .ok (.iload 4, 2) := by decide +kernel
theorem dX1_pass_87 : decode cX1_pass 87 = .ok (.iaload, 1) := by decide +kernel
theorem dX1_pass_88 : decode cX1_pass 88 = .ok (.aload_n 0, 1) := by decide +kernel
theorem dX1_pass_89 : decode cX1_pass 89 = .ok (.getfield 76, 3) := by decide +kernel
theorem dX1_pass_92 : decode cX1_pass 92 = .ok (.if_icmp .gt 9, 3) := by decide +kernel
theorem dX1_pass_95 : decode cX1_pass 95 = .ok (.aload_n 0, 1) := by decide +kernel
theorem dX1_pass_96 : decode cX1_pass 96 = .ok (.iload 4, 2) := by decide +kernel
theorem dX1_pass_98 : decode cX1_pass 98 = .ok (.invokevirtual 118, 3) := by decide +kernel
theorem dX1_pass_101 : decode cX1_pass 101 = .ok (.iinc 4 1, 3) := by decide +kernel
theorem dX1_pass_104 : decode cX1_pass 104 = .ok (.goto (-42), 3) := by decide +kernel
theorem dX1_pass_107 : decode cX1_pass 107 = .ok (.iload_n 2, 1) := by decide +kernel
theorem dX1_pass_108 : decode cX1_pass 108 = .ok (.aload_n 0, 1) := by decide +kernel
theorem dX1_pass_109 : decode cX1_pass 109 = .ok (.invokevirtual 104, 3) := by decide +kernel
theorem dX1_pass_112 : decode cX1_pass 112 = .ok (.iadd, 1) := by decide +kernel
theorem dX1_pass_113 : decode cX1_pass 113 = .ok (.istore_n 2, 1) := by decide +kernel
theorem dX1_pass_114 : decode cX1_pass 114 = .ok (.iinc 3 1, 3) := by decide +kernel
theorem dX1_pass_117 : decode cX1_pass 117 = .ok (.goto (-73), 3) := by decide +kernel
theorem dX1_pass_120 : decode cX1_pass 120 = .ok (.iload_n 2, 1) := by decide +kernel
theorem dX1_pass_121 : decode cX1_pass 121 = .ok (.ireturn, 1) := by decide +kernel
set_option maxRecDepth 20000 in
theorem ggX1_clock_X1_fine : GoodIn wsX1_clock wsX1_fine := goodIn_r _ [6, 7, 8, 9, 10, 11, 12, 13, 14, 15, 16, 17, 18, 19, 20, 21, 22, 23, 24, 25, 26, 27, 28, 29] (by decide +kernel) (by decide +kernel)
set_option maxRecDepth 20000 in
theorem gX1_clock_X1_fine : GoodIn wsX1_clock (wsV RX1 111 RX1 yX1_fine wsX1_fine) := goodIn_app (goodIn_of _ (by decide +kernel)) ggX1_clock_X1_fine
theorem dX1_clock_0 : decode cX1_clock 0 = .ok (.aload_n 0, 1) := by decide +kernel
theorem dX1_clock_1 : decode cX1_clock 1 = .ok (.aload_n 0, 1) := by decide +kernel
theorem dX1_clock_2 : decode cX1_clock 2 = .ok (.getfield 76, 3) := by decide +kernel
theorem dX1_clock_5 : decode cX1_clock 5 = .ok (.invokevirtual 111, 3) := by decide +kernel
theorem dX1_clock_8 : decode cX1_clock 8 = .ok (.ireturn, 1) := by decide +kernel
set_option maxRecDepth 20000 in
theorem ggX1_deliveries_X1_fine : GoodIn wsX1_deliveries wsX1_fine := goodIn_r _ [6, 7, 8, 9, 10, 11, 12, 13, 14, 15, 16, 17, 18, 19, 20, 21, 22, 23, 24, 25, 26, 27, 28, 29] (by decide +kernel) (by decide +kernel)
set_option maxRecDepth 20000 in
theorem gX1_deliveries_X1_fine : GoodIn wsX1_deliveries (wsV RX1 111 RX1 yX1_fine wsX1_fine) := goodIn_app (goodIn_of _ (by decide +kernel)) ggX1_deliveries_X1_fine
theorem dX1_deliveries_0 : decode cX1_deliveries 0 = .ok (.aload_n 0, 1) := by decide +kernel
theorem dX1_deliveries_1 : decode cX1_deliveries 1 = .ok (.aload_n 0, 1) := by decide +kernel
theorem dX1_deliveries_2 : decode cX1_deliveries 2 = .ok (.getfield 87, 3) := by decide +kernel
theorem dX1_deliveries_5 : decode cX1_deliveries 5 = .ok (.invokevirtual 111, 3) := by decide +kernel
theorem dX1_deliveries_8 : decode cX1_deliveries 8 = .ok (.ireturn, 1) := by decide +kernel
theorem dJ6_bitCount_0f7a4_0 : decode cJ6_bitCount_0f7a4 0 = .ok (.iload_n 0, 1) := by decide +kernel
theorem dJ6_bitCount_0f7a4_1 : decode cJ6_bitCount_0f7a4 1 = .ok (.iload_n 0, 1) := by decide +kernel
theorem dJ6_bitCount_0f7a4_2 : decode cJ6_bitCount_0f7a4 2 = .ok (.iconst 1, 1) := by decide +kernel
theorem dJ6_bitCount_0f7a4_3 : decode cJ6_bitCount_0f7a4 3 = .ok (.iushr, 1) := by decide +kernel
theorem dJ6_bitCount_0f7a4_4 : decode cJ6_bitCount_0f7a4 4 = .ok (.ldc_w 265, 3) := by decide +kernel
theorem dJ6_bitCount_0f7a4_7 : decode cJ6_bitCount_0f7a4 7 = .ok (.iand, 1) := by decide +kernel
theorem dJ6_bitCount_0f7a4_8 : decode cJ6_bitCount_0f7a4 8 = .ok (.isub, 1) := by decide +kernel
theorem dJ6_bitCount_0f7a4_9 : decode cJ6_bitCount_0f7a4 9 = .ok (.istore_n 0, 1) := by decide +kernel
theorem dJ6_bitCount_0f7a4_10 : decode cJ6_bitCount_0f7a4 10 = .ok (.iload_n 0, 1) := by decide +kernel
theorem dJ6_bitCount_0f7a4_11 : decode cJ6_bitCount_0f7a4 11 = .ok (.ldc_w 266, 3) := by decide +kernel
theorem dJ6_bitCount_0f7a4_14 : decode cJ6_bitCount_0f7a4 14 = .ok (.iand, 1) := by decide +kernel
theorem dJ6_bitCount_0f7a4_15 : decode cJ6_bitCount_0f7a4 15 = .ok (.iload_n 0, 1) := by decide +kernel
theorem dJ6_bitCount_0f7a4_16 : decode cJ6_bitCount_0f7a4 16 = .ok (.iconst 2, 1) := by decide +kernel
theorem dJ6_bitCount_0f7a4_17 : decode cJ6_bitCount_0f7a4 17 = .ok (.iushr, 1) := by decide +kernel
theorem dJ6_bitCount_0f7a4_18 : decode cJ6_bitCount_0f7a4 18 = .ok (.ldc_w 266, 3) := by decide +kernel
theorem dJ6_bitCount_0f7a4_21 : decode cJ6_bitCount_0f7a4 21 = .ok (.iand, 1) := by decide +kernel
theorem dJ6_bitCount_0f7a4_22 : decode cJ6_bitCount_0f7a4 22 = .ok (.iadd, 1) := by decide +kernel
theorem dJ6_bitCount_0f7a4_23 : decode cJ6_bitCount_0f7a4 23 = .ok (.istore_n 0, 1) := by decide +kernel
theorem dJ6_bitCount_0f7a4_24 : decode cJ6_bitCount_0f7a4 24 = .ok (.iload_n 0, 1) := by decide +kernel
theorem dJ6_bitCount_0f7a4_25 : decode cJ6_bitCount_0f7a4 25 = .ok (.iload_n 0, 1) := by decide +kernel
theorem dJ6_bitCount_0f7a4_26 : decode cJ6_bitCount_0f7a4 26 = .ok (.iconst 4, 1) := by decide +kernel
theorem dJ6_bitCount_0f7a4_27 : decode cJ6_bitCount_0f7a4 27 = .ok (.iushr, 1) := by decide +kernel
theorem dJ6_bitCount_0f7a4_28 : decode cJ6_bitCount_0f7a4 28 = .ok (.iadd, 1) := by decide +kernel
theorem dJ6_bitCount_0f7a4_29 : decode cJ6_bitCount_0f7a4 29 = .ok (.ldc_w 267, 3) := by decide +kernel
theorem dJ6_bitCount_0f7a4_32 : decode cJ6_bitCount_0f7a4 32 = .ok (.iand, 1) := by decide +kernel
theorem dJ6_bitCount_0f7a4_33 : decode cJ6_bitCount_0f7a4 33 = .ok (.istore_n 0, 1) := by decide +kernel
theorem dJ6_bitCount_0f7a4_34 : decode cJ6_bitCount_0f7a4 34 = .ok (.iload_n 0, 1) := by decide +kernel
theorem dJ6_bitCount_0f7a4_35 : decode cJ6_bitCount_0f7a4 35 = .ok (.iload_n 0, 1) := by decide +kernel
theorem dJ6_bitCount_0f7a4_36 : decode cJ6_bitCount_0f7a4 36 = .ok (.bipush 8, 2) := by decide +kernel
theorem dJ6_bitCount_0f7a4_38 : decode cJ6_bitCount_0f7a4 38 = .ok (.iushr, 1) := by decide +kernel
theorem dJ6_bitCount_0f7a4_39 : decode cJ6_bitCount_0f7a4 39 = .ok (.iadd, 1) := by decide +kernel
theorem dJ6_bitCount_0f7a4_40 : decode cJ6_bitCount_0f7a4 40 = .ok (.istore_n 0, 1) := by decide +kernel
theorem dJ6_bitCount_0f7a4_41 : decode cJ6_bitCount_0f7a4 41 = .ok (.iload_n 0, 1) := by decide +kernel
theorem dJ6_bitCount_0f7a4_42 : decode cJ6_bitCount_0f7a4 42 = .ok (.iload_n 0, 1) := by decide +kernel
theorem dJ6_bitCount_0f7a4_43 : decode cJ6_bitCount_0f7a4 43 = .ok (.bipush 16, 2) := by decide +kernel
theorem dJ6_bitCount_0f7a4_45 : decode cJ6_bitCount_0f7a4 45 = .ok (.iushr, 1) := by decide +kernel
theorem dJ6_bitCount_0f7a4_46 : decode cJ6_bitCount_0f7a4 46 = .ok (.iadd, 1) := by decide +kernel
theorem dJ6_bitCount_0f7a4_47 : decode cJ6_bitCount_0f7a4 47 = .ok (.istore_n 0, 1) := by decide +kernel
theorem dJ6_bitCount_0f7a4_48 : decode cJ6_bitCount_0f7a4 48 = .ok (.iload_n 0, 1) := by decide +kernel
theorem dJ6_bitCount_0f7a4_49 : decode cJ6_bitCount_0f7a4 49 = .ok (.bipush 63, 2) := by decide +kernel
theorem dJ6_bitCount_0f7a4_51 : decode cJ6_bitCount_0f7a4 51 = .ok (.iand, 1) := by decide +kernel
theorem dJ6_bitCount_0f7a4_52 : decode cJ6_bitCount_0f7a4 52 = .ok (.ireturn, 1) := by decide +kernel
theorem dJ9_floorMod_7cf53_0 : decode cJ9_floorMod_7cf53 0 = .ok (.iload_n 0, 1) := by decide +kernel
theorem dJ9_floorMod_7cf53_1 : decode cJ9_floorMod_7cf53 1 = .ok (.iload_n 1, 1) := by decide +kernel
theorem dJ9_floorMod_7cf53_2 : decode cJ9_floorMod_7cf53 2 = .ok (.irem, 1) := by decide +kernel
theorem dJ9_floorMod_7cf53_3 : decode cJ9_floorMod_7cf53 3 = .ok (.istore_n 2, 1) := by decide +kernel
theorem dJ9_floorMod_7cf53_4 : decode cJ9_floorMod_7cf53 4 = .ok (.iload_n 0, 1) := by decide +kernel
theorem dJ9_floorMod_7cf53_5 : decode cJ9_floorMod_7cf53 5 = .ok (.iload_n 1, 1) := by decide +kernel
theorem dJ9_floorMod_7cf53_6 : decode cJ9_floorMod_7cf53 6 = .ok (.ixor, 1) := by decide +kernel
theorem dJ9_floorMod_7cf53_7 : decode cJ9_floorMod_7cf53 7 = .ok (.ifCond .ge 11, 3) := by decide +kernel
theorem dJ9_floorMod_7cf53_10 : decode cJ9_floorMod_7cf53 10 = .ok (.iload_n 2, 1) := by decide +kernel
theorem dJ9_floorMod_7cf53_11 : decode cJ9_floorMod_7cf53 11 = .ok (.ifCond .eq 7, 3) := by decide +kernel
theorem dJ9_floorMod_7cf53_14 : decode cJ9_floorMod_7cf53 14 = .ok (.iload_n 2, 1) := by decide +kernel
theorem dJ9_floorMod_7cf53_15 : decode cJ9_floorMod_7cf53 15 = .ok (.iload_n 1, 1) := by decide +kernel
theorem dJ9_floorMod_7cf53_16 : decode cJ9_floorMod_7cf53 16 = .ok (.iadd, 1) := by decide +kernel
theorem dJ9_floorMod_7cf53_17 : decode cJ9_floorMod_7cf53 17 = .ok (.ireturn, 1) := by decide +kernel
theorem dJ9_floorMod_7cf53_18 : decode cJ9_floorMod_7cf53 18 = .ok (.iload_n 2, 1) := by decide +kernel
theorem dJ9_floorMod_7cf53_19 : decode cJ9_floorMod_7cf53 19 = .ok (.ireturn, 1) := by decide +kernel
theorem dJ9_min_7cf53_0 : decode cJ9_min_7cf53 0 = .ok (.iload_n 0, 1) := by decide +kernel
theorem dJ9_min_7cf53_1 : decode cJ9_min_7cf53 1 = .ok (.iload_n 1, 1) := by decide +kernel
theorem dJ9_min_7cf53_2 : decode cJ9_min_7cf53 2 = .ok (.if_icmp .gt 7, 3) := by decide +kernel
theorem dJ9_min_7cf53_5 : decode cJ9_min_7cf53 5 = .ok (.iload_n 0, 1) := by decide +kernel
theorem dJ9_min_7cf53_6 : decode cJ9_min_7cf53 6 = .ok (.goto 4, 3) := by decide +kernel
theorem dJ9_min_7cf53_9 : decode cJ9_min_7cf53 9 = .ok (.iload_n 1, 1) := by decide +kernel
theorem dJ9_min_7cf53_10 : decode cJ9_min_7cf53 10 = .ok (.ireturn, 1) := by decide +kernel
set_option maxRecDepth 20000 in
theorem ggL_addDevice_X0_addDevice : GoodIn wsL_addDevice wsX0_addDevice := goodIn_ca (goodIn_ca (goodIn_r _ [7, 8, 9, 10, 11, 12, 13, 14, 15, 16, 6, 17, 18, 19, 20, 21, 22, 23, 24, 25, 26, 27, 28, 29, 30, 31, 32, 33, 34, 35, 36, 37, 38, 39, 40, 41] (by decide +kernel) (by decide +kernel)) (goodIn_sub (fun _ h => List.mem_cons_of_mem _ (List.mem_append_left _ (List.mem_append_right _ h))) (by decide +kernel))) (goodIn_sub (fun _ h => List.mem_cons_of_mem _ (List.mem_append_right _ h)) (by decide +kernel))
set_option maxRecDepth 20000 in
theorem gL_addDevice_X0_addDevice : GoodIn wsL_addDevice (wsV RL 7 RX0 yX0_addDevice wsX0_addDevice) := goodIn_app (goodIn_of _ (by decide +kernel)) ggL_addDevice_X0_addDevice
theorem dL_addDevice_0 : decode cL_addDevice 0 = .ok (.aload_n 3, 1) := by decide +kernel
theorem dL_addDevice_1 : decode cL_addDevice 1 = .ok (.iconst 0, 1) := by decide +kernel
theorem dL_addDevice_2 : decode cL_addDevice 2 = .ok (.aload_n 0, 1) := by decide +kernel
theorem dL_addDevice_3 : decode cL_addDevice 3 = .ok (.iload_n 1, 1) := by decide +kernel
theorem dL_addDevice_4 : decode cL_addDevice 4 = .ok (.iload_n 2, 1) := by decide +kernel
theorem dL_addDevice_5 : decode cL_addDevice 5 = .ok (.invokevirtual 7, 3) := by decide +kernel
theorem dL_addDevice_8 : decode cL_addDevice 8 = .ok (.i2l, 1) := by decide +kernel
theorem dL_addDevice_9 : decode cL_addDevice 9 = .ok (.lastore, 1) := by decide +kernel
theorem dL_addDevice_10 : decode cL_addDevice 10 = .ok (.goto 11, 3) := by decide +kernel
theorem dL_addDevice_13 : decode cL_addDevice 13 = .ok (.astore 4, 2) := by decide +kernel
theorem dL_addDevice_15 : decode cL_addDevice 15 = .ok (.iconst 1, 1) := by decide +kernel
theorem dL_addDevice_16 : decode cL_addDevice 16 = .ok (.ireturn, 1) := by decide +kernel
theorem dL_addDevice_17 : decode cL_addDevice 17 = .ok (.astore 4, 2) := by decide +kernel
theorem dL_addDevice_19 : decode cL_addDevice 19 = .ok (.iconst 2, 1) := by decide +kernel
theorem dL_addDevice_20 : decode cL_addDevice 20 = .ok (.ireturn, 1) := by decide +kernel
theorem dL_addDevice_21 : decode cL_addDevice 21 = .ok (.iconst 0, 1) := by decide +kernel
theorem dL_addDevice_22 : decode cL_addDevice 22 = .ok (.ireturn, 1) := by decide +kernel
set_option maxRecDepth 20000 in
theorem ggL_setOnline_X0_setOnline : GoodIn wsL_setOnline wsX0_setOnline := goodIn_ca (goodIn_r _ [6, 7, 8, 9, 10, 5, 11, 12, 13, 14, 15, 16, 17, 18, 19, 20, 21, 22, 23, 24, 25, 26, 27, 28, 29, 30, 31, 32, 33, 34, 35, 36, 37, 38, 39, 40, 41, 42, 43, 44, 45, 46, 47, 48, 49, 50, 51, 52, 53, 54, 55, 56, 57, 58, 59, 60, 61, 62, 63, 64, 65, 66, 67, 68, 69, 70, 71, 72, 73, 74, 75, 76, 77, 78, 79, 80, 81, 82, 83, 84, 85, 86, 87, 88, 89, 90, 91, 92, 93, 94, 95, 96, 97, 98, 99, 100, 101, 102, 103, 104, 105, 106] (by decide +kernel) (by decide +kernel)) (goodIn_sub (fun _ h => List.mem_cons_of_mem _ (List.mem_append_right _ h)) (by decide +kernel))
set_option maxRecDepth 20000 in
theorem gL_setOnline_X0_setOnline : GoodIn wsL_setOnline (wsV RL 17 RX0 yX0_setOnline wsX0_setOnline) := goodIn_app (goodIn_of _ (by decide +kernel)) ggL_setOnline_X0_setOnline
theorem dL_setOnline_0 : decode cL_setOnline 0 = .ok (.aload_n 3, 1) := by decide +kernel
theorem dL_setOnline_1 : decode cL_setOnline 1 = .ok (.iconst 0, 1) := by decide +kernel
theorem dL_setOnline_2 : decode cL_setOnline 2 = .ok (.aload_n 0, 1) := by decide +kernel
theorem dL_setOnline_3 : decode cL_setOnline 3 = .ok (.iload_n 1, 1) := by decide +kernel
theorem dL_setOnline_4 : decode cL_setOnline 4 = .ok (.iload_n 2, 1) := by decide +kernel
theorem dL_setOnline_5 : decode cL_setOnline 5 = .ok (.invokevirtual 17, 3) := by decide +kernel
theorem dL_setOnline_8 : decode cL_setOnline 8 = .ok (.i2l, 1) := by decide +kernel
theorem dL_setOnline_9 : decode cL_setOnline 9 = .ok (.lastore, 1) := by decide +kernel
theorem dL_setOnline_10 : decode cL_setOnline 10 = .ok (.goto 7, 3) := by decide +kernel
theorem dL_setOnline_13 : decode cL_setOnline 13 = .ok (.astore 4, 2) := by decide +kernel
theorem dL_setOnline_15 : decode cL_setOnline 15 = .ok (.iconst 1, 1) := by decide +kernel
theorem dL_setOnline_16 : decode cL_setOnline 16 = .ok (.ireturn, 1) := by decide +kernel
theorem dL_setOnline_17 : decode cL_setOnline 17 = .ok (.iconst 0, 1) := by decide +kernel
theorem dL_setOnline_18 : decode cL_setOnline 18 = .ok (.ireturn, 1) := by decide +kernel
set_option maxRecDepth 20000 in
theorem ggL_setDozing_X0_setDozing : GoodIn wsL_setDozing wsX0_setDozing := goodIn_ca (goodIn_r _ [6, 7, 8, 9, 10, 5, 11, 12, 13, 14, 15, 16, 17, 18, 19, 20, 21, 22, 23, 24, 25, 26, 27, 28, 29, 30, 31, 32, 33, 34, 35, 36, 37, 38, 39, 40, 41, 42, 43, 44, 45, 46, 47, 48, 49, 50, 51, 52, 53, 54, 55, 56, 57, 58, 59, 60, 61, 62, 63, 64, 65, 66, 67, 68, 69, 70, 71, 72, 73, 74, 75, 76, 77, 78, 79, 80, 81, 82, 83, 84, 85, 86, 87, 88, 89, 90, 91, 92, 93, 94, 95, 96, 97, 98, 99, 100, 101, 102, 103, 104, 105, 106] (by decide +kernel) (by decide +kernel)) (goodIn_sub (fun _ h => List.mem_cons_of_mem _ (List.mem_append_right _ h)) (by decide +kernel))
set_option maxRecDepth 20000 in
theorem gL_setDozing_X0_setDozing : GoodIn wsL_setDozing (wsV RL 23 RX0 yX0_setDozing wsX0_setDozing) := goodIn_app (goodIn_of _ (by decide +kernel)) ggL_setDozing_X0_setDozing
theorem dL_setDozing_0 : decode cL_setDozing 0 = .ok (.aload_n 3, 1) := by decide +kernel
theorem dL_setDozing_1 : decode cL_setDozing 1 = .ok (.iconst 0, 1) := by decide +kernel
theorem dL_setDozing_2 : decode cL_setDozing 2 = .ok (.aload_n 0, 1) := by decide +kernel
theorem dL_setDozing_3 : decode cL_setDozing 3 = .ok (.iload_n 1, 1) := by decide +kernel
theorem dL_setDozing_4 : decode cL_setDozing 4 = .ok (.iload_n 2, 1) := by decide +kernel
theorem dL_setDozing_5 : decode cL_setDozing 5 = .ok (.invokevirtual 23, 3) := by decide +kernel
theorem dL_setDozing_8 : decode cL_setDozing 8 = .ok (.i2l, 1) := by decide +kernel
theorem dL_setDozing_9 : decode cL_setDozing 9 = .ok (.lastore, 1) := by decide +kernel
theorem dL_setDozing_10 : decode cL_setDozing 10 = .ok (.goto 7, 3) := by decide +kernel
theorem dL_setDozing_13 : decode cL_setDozing 13 = .ok (.astore 4, 2) := by decide +kernel
theorem dL_setDozing_15 : decode cL_setDozing 15 = .ok (.iconst 1, 1) := by decide +kernel
theorem dL_setDozing_16 : decode cL_setDozing 16 = .ok (.ireturn, 1) := by decide +kernel
theorem dL_setDozing_17 : decode cL_setDozing 17 = .ok (.iconst 0, 1) := by decide +kernel
theorem dL_setDozing_18 : decode cL_setDozing 18 = .ok (.ireturn, 1) := by decide +kernel
set_option maxRecDepth 20000 in
theorem ggL_setQuiet_X0_setQuiet : GoodIn wsL_setQuiet wsX0_setQuiet := goodIn_ca (goodIn_ca (goodIn_r _ [7, 8, 9, 10, 11, 12, 6, 13, 14, 15, 16, 17, 18, 19, 20, 21, 22, 23, 24, 25, 26, 27, 28, 29, 30, 31, 32, 33, 34, 35, 36, 37, 38, 39, 40, 41, 42, 43, 44, 45, 46, 47, 48, 49, 50, 51, 52, 53, 54, 55, 56, 57, 58, 59, 60, 61, 62, 63, 64, 65, 66, 67, 68, 69, 70, 71, 72, 73, 74, 75, 76, 77, 78, 79, 80, 81, 82, 83, 84, 85, 86, 87, 88, 89, 90, 91, 92, 93, 94, 95, 96, 97, 98, 99, 100, 101, 102, 103, 104, 105, 106, 107, 108, 109, 110, 111, 112] (by decide +kernel) (by decide +kernel)) (goodIn_sub (fun _ h => List.mem_cons_of_mem _ (List.mem_append_left _ (List.mem_append_right _ h))) (by decide +kernel))) (goodIn_sub (fun _ h => List.mem_cons_of_mem _ (List.mem_append_right _ h)) (by decide +kernel))
set_option maxRecDepth 20000 in
theorem gL_setQuiet_X0_setQuiet : GoodIn wsL_setQuiet (wsV RL 26 RX0 yX0_setQuiet wsX0_setQuiet) := goodIn_app (goodIn_of _ (by decide +kernel)) ggL_setQuiet_X0_setQuiet
theorem dL_setQuiet_0 : decode cL_setQuiet 0 = .ok (.aload 4, 2) := by decide +kernel
theorem dL_setQuiet_2 : decode cL_setQuiet 2 = .ok (.iconst 0, 1) := by decide +kernel
theorem dL_setQuiet_3 : decode cL_setQuiet 3 = .ok (.aload_n 0, 1) := by decide +kernel
theorem dL_setQuiet_4 : decode cL_setQuiet 4 = .ok (.iload_n 1, 1) := by decide +kernel
theorem dL_setQuiet_5 : decode cL_setQuiet 5 = .ok (.iload_n 2, 1) := by decide +kernel
theorem dL_setQuiet_6 : decode cL_setQuiet 6 = .ok (.iload_n 3, 1) := by decide +kernel
theorem dL_setQuiet_7 : decode cL_setQuiet 7 = .ok (.invokevirtual 26, 3) := by decide +kernel
theorem dL_setQuiet_10 : decode cL_setQuiet 10 = .ok (.i2l, 1) := by decide +kernel
theorem dL_setQuiet_11 : decode cL_setQuiet 11 = .ok (.lastore, 1) := by decide +kernel
theorem dL_setQuiet_12 : decode cL_setQuiet 12 = .ok (.goto 11, 3) := by decide +kernel
theorem dL_setQuiet_15 : decode cL_setQuiet 15 = .ok (.astore 5, 2) := by decide +kernel
theorem dL_setQuiet_17 : decode cL_setQuiet 17 = .ok (.iconst 1, 1) := by decide +kernel
theorem dL_setQuiet_18 : decode cL_setQuiet 18 = .ok (.ireturn, 1) := by decide +kernel
theorem dL_setQuiet_19 : decode cL_setQuiet 19 = .ok (.astore 5, 2) := by decide +kernel
theorem dL_setQuiet_21 : decode cL_setQuiet 21 = .ok (.iconst 2, 1) := by decide +kernel
theorem dL_setQuiet_22 : decode cL_setQuiet 22 = .ok (.ireturn, 1) := by decide +kernel
theorem dL_setQuiet_23 : decode cL_setQuiet 23 = .ok (.iconst 0, 1) := by decide +kernel
theorem dL_setQuiet_24 : decode cL_setQuiet 24 = .ok (.ireturn, 1) := by decide +kernel
set_option maxRecDepth 20000 in
theorem ggL_join_X0_join : GoodIn wsL_join wsX0_join := goodIn_ca (goodIn_ca (goodIn_r _ [7, 8, 9, 10, 11, 6, 12, 13, 14, 15, 16, 17, 18, 19, 20, 21, 22, 23, 24, 25, 26, 27, 28, 29, 30, 31, 32, 33, 34, 35, 36, 37, 38, 39, 40, 41, 42, 43, 44, 45, 46, 47, 48] (by decide +kernel) (by decide +kernel)) (goodIn_sub (fun _ h => List.mem_cons_of_mem _ (List.mem_append_left _ (List.mem_append_right _ h))) (by decide +kernel))) (goodIn_sub (fun _ h => List.mem_cons_of_mem _ (List.mem_append_right _ h)) (by decide +kernel))
set_option maxRecDepth 20000 in
theorem gL_join_X0_join : GoodIn wsL_join (wsV RL 30 RX0 yX0_join wsX0_join) := goodIn_app (goodIn_of _ (by decide +kernel)) ggL_join_X0_join
theorem dL_join_0 : decode cL_join 0 = .ok (.aload 4, 2) := by decide +kernel
theorem dL_join_2 : decode cL_join 2 = .ok (.iconst 0, 1) := by decide +kernel
theorem dL_join_3 : decode cL_join 3 = .ok (.aload_n 0, 1) := by decide +kernel
theorem dL_join_4 : decode cL_join 4 = .ok (.iload_n 1, 1) := by decide +kernel
theorem dL_join_5 : decode cL_join 5 = .ok (.iload_n 2, 1) := by decide +kernel
theorem dL_join_6 : decode cL_join 6 = .ok (.iload_n 3, 1) := by decide +kernel
theorem dL_join_7 : decode cL_join 7 = .ok (.invokevirtual 30, 3) := by decide +kernel
theorem dL_join_10 : decode cL_join 10 = .ok (.ifCond .eq 7, 3) := by decide +kernel
theorem dL_join_13 : decode cL_join 13 = .ok (.lconst 1, 1) := by decide +kernel
theorem dL_join_14 : decode cL_join 14 = .ok (.goto 4, 3) := by decide +kernel
theorem dL_join_17 : decode cL_join 17 = .ok (.lconst 0, 1) := by decide +kernel
theorem dL_join_18 : decode cL_join 18 = .ok (.lastore, 1) := by decide +kernel
theorem dL_join_19 : decode cL_join 19 = .ok (.goto 11, 3) := by decide +kernel
theorem dL_join_22 : decode cL_join 22 = .ok (.astore 5, 2) := by decide +kernel
theorem dL_join_24 : decode cL_join 24 = .ok (.iconst 1, 1) := by decide +kernel
theorem dL_join_25 : decode cL_join 25 = .ok (.ireturn, 1) := by decide +kernel
theorem dL_join_26 : decode cL_join 26 = .ok (.astore 5, 2) := by decide +kernel
theorem dL_join_28 : decode cL_join 28 = .ok (.iconst 2, 1) := by decide +kernel
theorem dL_join_29 : decode cL_join 29 = .ok (.ireturn, 1) := by decide +kernel
theorem dL_join_30 : decode cL_join 30 = .ok (.iconst 0, 1) := by decide +kernel
theorem dL_join_31 : decode cL_join 31 = .ok (.ireturn, 1) := by decide +kernel
set_option maxRecDepth 20000 in
theorem ggL_kill_X0_kill : GoodIn wsL_kill wsX0_kill := goodIn_ca (goodIn_ca (goodIn_r _ [7, 8, 9, 10, 11, 12, 13, 14, 15, 6, 16, 17, 18, 19, 20, 21, 22, 23, 24, 25, 26, 27, 28, 29, 30, 31, 32, 33, 34, 35, 36, 37, 38, 39, 40, 41, 42, 43, 44, 45, 46, 47, 48, 49, 50, 51, 52, 53, 54, 55, 56, 57, 58, 59, 60, 61] (by decide +kernel) (by decide +kernel)) (goodIn_sub (fun _ h => List.mem_cons_of_mem _ (List.mem_append_left _ (List.mem_append_right _ h))) (by decide +kernel))) (goodIn_sub (fun _ h => List.mem_cons_of_mem _ (List.mem_append_right _ h)) (by decide +kernel))
set_option maxRecDepth 20000 in
theorem gL_kill_X0_kill : GoodIn wsL_kill (wsV RL 34 RX0 yX0_kill wsX0_kill) := goodIn_app (goodIn_of _ (by decide +kernel)) ggL_kill_X0_kill
theorem dL_kill_0 : decode cL_kill 0 = .ok (.aload_n 2, 1) := by decide +kernel
theorem dL_kill_1 : decode cL_kill 1 = .ok (.iconst 0, 1) := by decide +kernel
theorem dL_kill_2 : decode cL_kill 2 = .ok (.aload_n 0, 1) := by decide +kernel
theorem dL_kill_3 : decode cL_kill 3 = .ok (.iload_n 1, 1) := by decide +kernel
theorem dL_kill_4 : decode cL_kill 4 = .ok (.invokevirtual 34, 3) := by decide +kernel
theorem dL_kill_7 : decode cL_kill 7 = .ok (.i2l, 1) := by decide +kernel
theorem dL_kill_8 : decode cL_kill 8 = .ok (.lastore, 1) := by decide +kernel
theorem dL_kill_9 : decode cL_kill 9 = .ok (.goto 9, 3) := by decide +kernel
theorem dL_kill_12 : decode cL_kill 12 = .ok (.astore_n 3, 1) := by decide +kernel
theorem dL_kill_13 : decode cL_kill 13 = .ok (.iconst 1, 1) := by decide +kernel
theorem dL_kill_14 : decode cL_kill 14 = .ok (.ireturn, 1) := by decide +kernel
theorem dL_kill_15 : decode cL_kill 15 = .ok (.astore_n 3, 1) := by decide +kernel
theorem dL_kill_16 : decode cL_kill 16 = .ok (.iconst 2, 1) := by decide +kernel
theorem dL_kill_17 : decode cL_kill 17 = .ok (.ireturn, 1) := by decide +kernel
theorem dL_kill_18 : decode cL_kill 18 = .ok (.iconst 0, 1) := by decide +kernel
theorem dL_kill_19 : decode cL_kill 19 = .ok (.ireturn, 1) := by decide +kernel
set_option maxRecDepth 20000 in
theorem ggL_isQuiet_X0_isQuiet : GoodIn wsL_isQuiet wsX0_isQuiet := goodIn_ca (goodIn_r _ [6, 7, 8, 9, 5, 10, 11, 12, 13, 14, 15, 16, 17, 18, 19, 20, 21, 22, 23, 24, 25, 26, 27, 28, 29, 30, 31, 32, 33, 34, 35, 36, 37, 38, 39, 40, 41, 42, 43, 44, 45, 46, 47, 48] (by decide +kernel) (by decide +kernel)) (goodIn_sub (fun _ h => List.mem_cons_of_mem _ (List.mem_append_right _ h)) (by decide +kernel))
set_option maxRecDepth 20000 in
theorem gL_isQuiet_X0_isQuiet : GoodIn wsL_isQuiet (wsV RL 38 RX0 yX0_isQuiet wsX0_isQuiet) := goodIn_app (goodIn_of _ (by decide +kernel)) ggL_isQuiet_X0_isQuiet
theorem dL_isQuiet_0 : decode cL_isQuiet 0 = .ok (.aload_n 2, 1) := by decide +kernel
theorem dL_isQuiet_1 : decode cL_isQuiet 1 = .ok (.iconst 0, 1) := by decide +kernel
theorem dL_isQuiet_2 : decode cL_isQuiet 2 = .ok (.aload_n 0, 1) := by decide +kernel
theorem dL_isQuiet_3 : decode cL_isQuiet 3 = .ok (.iload_n 1, 1) := by decide +kernel
theorem dL_isQuiet_4 : decode cL_isQuiet 4 = .ok (.invokevirtual 38, 3) := by decide +kernel
theorem dL_isQuiet_7 : decode cL_isQuiet 7 = .ok (.ifCond .eq 7, 3) := by decide +kernel
theorem dL_isQuiet_10 : decode cL_isQuiet 10 = .ok (.lconst 1, 1) := by decide +kernel
theorem dL_isQuiet_11 : decode cL_isQuiet 11 = .ok (.goto 4, 3) := by decide +kernel
theorem dL_isQuiet_14 : decode cL_isQuiet 14 = .ok (.lconst 0, 1) := by decide +kernel
theorem dL_isQuiet_15 : decode cL_isQuiet 15 = .ok (.lastore, 1) := by decide +kernel
theorem dL_isQuiet_16 : decode cL_isQuiet 16 = .ok (.goto 6, 3) := by decide +kernel
theorem dL_isQuiet_19 : decode cL_isQuiet 19 = .ok (.astore_n 3, 1) := by decide +kernel
theorem dL_isQuiet_20 : decode cL_isQuiet 20 = .ok (.iconst 1, 1) := by decide +kernel
theorem dL_isQuiet_21 : decode cL_isQuiet 21 = .ok (.ireturn, 1) := by decide +kernel
theorem dL_isQuiet_22 : decode cL_isQuiet 22 = .ok (.iconst 0, 1) := by decide +kernel
theorem dL_isQuiet_23 : decode cL_isQuiet 23 = .ok (.ireturn, 1) := by decide +kernel
set_option maxRecDepth 20000 in
theorem ggL_send_X0_send : GoodIn wsL_send wsX0_send := goodIn_ca (goodIn_ca (goodIn_r _ [7, 8, 9, 10, 6, 11, 12, 13, 14, 15, 16, 17, 18, 19, 20, 21, 22, 23, 24, 25, 26, 27, 28, 29, 30, 31, 32, 33, 34, 35, 36, 37, 38, 39, 40, 41, 42, 43, 44, 45, 46, 47, 48, 49, 50, 51, 52, 53, 54, 55, 56, 57, 58, 59, 60, 61, 62, 63, 64, 65, 66, 67, 68, 69, 70, 71, 72, 73, 74, 75, 76, 77, 78, 79, 80, 81, 82, 83, 84, 85, 86, 87, 88, 89, 90, 91, 92, 93, 94, 95, 96, 97, 98, 99, 100, 101, 102, 103, 104, 105, 106, 107, 108, 109, 110, 111, 112, 113, 114, 115, 116, 117, 118, 119, 120, 121, 122, 123, 124, 125, 126, 127, 128, 129, 130] (by decide +kernel) (by decide +kernel)) (goodIn_sub (fun _ h => List.mem_cons_of_mem _ (List.mem_append_left _ (List.mem_append_right _ h))) (by decide +kernel))) (goodIn_sub (fun _ h => List.mem_cons_of_mem _ (List.mem_append_right _ h)) (by decide +kernel))
set_option maxRecDepth 20000 in
theorem gL_send_X0_send : GoodIn wsL_send (wsV RL 42 RX0 yX0_send wsX0_send) := goodIn_app (goodIn_of _ (by decide +kernel)) ggL_send_X0_send
theorem dL_send_0 : decode cL_send 0 = .ok (.aload 5, 2) := by decide +kernel
theorem dL_send_2 : decode cL_send 2 = .ok (.iconst 0, 1) := by decide +kernel
theorem dL_send_3 : decode cL_send 3 = .ok (.aload_n 0, 1) := by decide +kernel
theorem dL_send_4 : decode cL_send 4 = .ok (.iload_n 1, 1) := by decide +kernel
theorem dL_send_5 : decode cL_send 5 = .ok (.iload_n 2, 1) := by decide +kernel
theorem dL_send_6 : decode cL_send 6 = .ok (.iload_n 3, 1) := by decide +kernel
theorem dL_send_7 : decode cL_send 7 = .ok (.iload 4, 2) := by decide +kernel
theorem dL_send_9 : decode cL_send 9 = .ok (.invokevirtual 42, 3) := by decide +kernel
theorem dL_send_12 : decode cL_send 12 = .ok (.i2l, 1) := by decide +kernel
theorem dL_send_13 : decode cL_send 13 = .ok (.lastore, 1) := by decide +kernel
theorem dL_send_14 : decode cL_send 14 = .ok (.goto 11, 3) := by decide +kernel
theorem dL_send_17 : decode cL_send 17 = .ok (.astore 6, 2) := by decide +kernel
theorem dL_send_19 : decode cL_send 19 = .ok (.iconst 1, 1) := by decide +kernel
theorem dL_send_20 : decode cL_send 20 = .ok (.ireturn, 1) := by decide +kernel
theorem dL_send_21 : decode cL_send 21 = .ok (.astore 6, 2) := by decide +kernel
theorem dL_send_23 : decode cL_send 23 = .ok (.iconst 2, 1) := by decide +kernel
theorem dL_send_24 : decode cL_send 24 = .ok (.ireturn, 1) := by decide +kernel
theorem dL_send_25 : decode cL_send 25 = .ok (.iconst 0, 1) := by decide +kernel
theorem dL_send_26 : decode cL_send 26 = .ok (.ireturn, 1) := by decide +kernel
set_option maxRecDepth 20000 in
theorem ggL_sendBy_X0_sendBy : GoodIn wsL_sendBy wsX0_sendBy := goodIn_ca (goodIn_ca (goodIn_r _ [7, 8, 9, 6, 10, 11, 12, 13, 14, 15, 16, 17, 18, 19, 20, 21, 22, 23, 24, 25, 26, 27, 28, 29, 30, 31, 32, 33, 34, 35, 36, 37, 38, 39, 40, 41, 42, 43, 44, 45, 46, 47, 48, 49, 50, 51, 52, 53, 54, 55, 56, 57, 58, 59, 60, 61, 62, 63, 64, 65, 66, 67, 68, 69, 70, 71, 72, 73, 74, 75, 76, 77, 78, 79, 80, 81, 82, 83, 84, 85, 86, 87, 88, 89, 90, 91, 92, 93, 94, 95, 96, 97, 98, 99, 100, 101, 102, 103, 104, 105, 106, 107, 108, 109, 110, 111, 112, 113, 114, 115, 116, 117, 118, 119, 120, 121, 122] (by decide +kernel) (by decide +kernel)) (goodIn_sub (fun _ h => List.mem_cons_of_mem _ (List.mem_append_left _ (List.mem_append_right _ h))) (by decide +kernel))) (goodIn_sub (fun _ h => List.mem_cons_of_mem _ (List.mem_append_right _ h)) (by decide +kernel))
set_option maxRecDepth 20000 in
theorem gL_sendBy_X0_sendBy : GoodIn wsL_sendBy (wsV RL 46 RX0 yX0_sendBy wsX0_sendBy) := goodIn_app (goodIn_of _ (by decide +kernel)) ggL_sendBy_X0_sendBy
theorem dL_sendBy_0 : decode cL_sendBy 0 = .ok (.aload 6, 2) := by decide +kernel
theorem dL_sendBy_2 : decode cL_sendBy 2 = .ok (.iconst 0, 1) := by decide +kernel
theorem dL_sendBy_3 : decode cL_sendBy 3 = .ok (.aload_n 0, 1) := by decide +kernel
theorem dL_sendBy_4 : decode cL_sendBy 4 = .ok (.iload_n 1, 1) := by decide +kernel
theorem dL_sendBy_5 : decode cL_sendBy 5 = .ok (.iload_n 2, 1) := by decide +kernel
theorem dL_sendBy_6 : decode cL_sendBy 6 = .ok (.iload_n 3, 1) := by decide +kernel
theorem dL_sendBy_7 : decode cL_sendBy 7 = .ok (.iload 4, 2) := by decide +kernel
theorem dL_sendBy_9 : decode cL_sendBy 9 = .ok (.iload 5, 2) := by decide +kernel
theorem dL_sendBy_11 : decode cL_sendBy 11 = .ok (.invokevirtual 46, 3) := by decide +kernel
theorem dL_sendBy_14 : decode cL_sendBy 14 = .ok (.i2l, 1) := by decide +kernel
theorem dL_sendBy_15 : decode cL_sendBy 15 = .ok (.lastore, 1) := by decide +kernel
theorem dL_sendBy_16 : decode cL_sendBy 16 = .ok (.goto 11, 3) := by decide +kernel
theorem dL_sendBy_19 : decode cL_sendBy 19 = .ok (.astore 7, 2) := by decide +kernel
theorem dL_sendBy_21 : decode cL_sendBy 21 = .ok (.iconst 1, 1) := by decide +kernel
theorem dL_sendBy_22 : decode cL_sendBy 22 = .ok (.ireturn, 1) := by decide +kernel
theorem dL_sendBy_23 : decode cL_sendBy 23 = .ok (.astore 7, 2) := by decide +kernel
theorem dL_sendBy_25 : decode cL_sendBy 25 = .ok (.iconst 2, 1) := by decide +kernel
theorem dL_sendBy_26 : decode cL_sendBy 26 = .ok (.ireturn, 1) := by decide +kernel
theorem dL_sendBy_27 : decode cL_sendBy 27 = .ok (.iconst 0, 1) := by decide +kernel
theorem dL_sendBy_28 : decode cL_sendBy 28 = .ok (.ireturn, 1) := by decide +kernel
set_option maxRecDepth 20000 in
theorem ggL_read_X0_read : GoodIn wsL_read wsX0_read := goodIn_ca (goodIn_ca (goodIn_r _ [7, 8, 9, 10, 11, 12, 13, 6, 14, 15, 16, 17, 18, 19, 20, 21, 22, 23, 24, 25, 26, 27, 28, 29, 30, 31, 32, 33, 34, 35, 36, 37, 38, 39, 40, 41, 42, 43, 44, 45, 46, 47, 48, 49, 50, 51, 52, 53, 54, 55, 56, 57, 58, 59, 60, 61, 62, 63, 64, 65, 66, 67, 68, 69] (by decide +kernel) (by decide +kernel)) (goodIn_sub (fun _ h => List.mem_cons_of_mem _ (List.mem_append_left _ (List.mem_append_right _ h))) (by decide +kernel))) (goodIn_sub (fun _ h => List.mem_cons_of_mem _ (List.mem_append_right _ h)) (by decide +kernel))
set_option maxRecDepth 20000 in
theorem gL_read_X0_read : GoodIn wsL_read (wsV RL 50 RX0 yX0_read wsX0_read) := goodIn_app (goodIn_of _ (by decide +kernel)) ggL_read_X0_read
theorem dL_read_0 : decode cL_read 0 = .ok (.aload_n 3, 1) := by decide +kernel
theorem dL_read_1 : decode cL_read 1 = .ok (.iconst 0, 1) := by decide +kernel
theorem dL_read_2 : decode cL_read 2 = .ok (.aload_n 0, 1) := by decide +kernel
theorem dL_read_3 : decode cL_read 3 = .ok (.iload_n 1, 1) := by decide +kernel
theorem dL_read_4 : decode cL_read 4 = .ok (.iload_n 2, 1) := by decide +kernel
theorem dL_read_5 : decode cL_read 5 = .ok (.invokevirtual 50, 3) := by decide +kernel
theorem dL_read_8 : decode cL_read 8 = .ok (.i2l, 1) := by decide +kernel
theorem dL_read_9 : decode cL_read 9 = .ok (.lastore, 1) := by decide +kernel
theorem dL_read_10 : decode cL_read 10 = .ok (.goto 11, 3) := by decide +kernel
theorem dL_read_13 : decode cL_read 13 = .ok (.astore 4, 2) := by decide +kernel
theorem dL_read_15 : decode cL_read 15 = .ok (.iconst 1, 1) := by decide +kernel
theorem dL_read_16 : decode cL_read 16 = .ok (.ireturn, 1) := by decide +kernel
theorem dL_read_17 : decode cL_read 17 = .ok (.astore 4, 2) := by decide +kernel
theorem dL_read_19 : decode cL_read 19 = .ok (.iconst 2, 1) := by decide +kernel
theorem dL_read_20 : decode cL_read 20 = .ok (.ireturn, 1) := by decide +kernel
theorem dL_read_21 : decode cL_read 21 = .ok (.iconst 0, 1) := by decide +kernel
theorem dL_read_22 : decode cL_read 22 = .ok (.ireturn, 1) := by decide +kernel
set_option maxRecDepth 20000 in
theorem ggL_stands_X0_stands : GoodIn wsL_stands wsX0_stands := goodIn_ca (goodIn_r _ [6, 7, 8, 9, 5, 10, 11, 12, 13, 14, 15, 16, 17, 18, 19, 20, 21, 22, 23, 24, 25, 26, 27, 28, 29, 30, 31, 32, 33, 34, 35, 36, 37, 38] (by decide +kernel) (by decide +kernel)) (goodIn_sub (fun _ h => List.mem_cons_of_mem _ (List.mem_append_right _ h)) (by decide +kernel))
set_option maxRecDepth 20000 in
theorem gL_stands_X0_stands : GoodIn wsL_stands (wsV RL 53 RX0 yX0_stands wsX0_stands) := goodIn_app (goodIn_of _ (by decide +kernel)) ggL_stands_X0_stands
theorem dL_stands_0 : decode cL_stands 0 = .ok (.aload_n 2, 1) := by decide +kernel
theorem dL_stands_1 : decode cL_stands 1 = .ok (.iconst 0, 1) := by decide +kernel
theorem dL_stands_2 : decode cL_stands 2 = .ok (.aload_n 0, 1) := by decide +kernel
theorem dL_stands_3 : decode cL_stands 3 = .ok (.iload_n 1, 1) := by decide +kernel
theorem dL_stands_4 : decode cL_stands 4 = .ok (.invokevirtual 53, 3) := by decide +kernel
theorem dL_stands_7 : decode cL_stands 7 = .ok (.ifCond .eq 7, 3) := by decide +kernel
theorem dL_stands_10 : decode cL_stands 10 = .ok (.lconst 1, 1) := by decide +kernel
theorem dL_stands_11 : decode cL_stands 11 = .ok (.goto 4, 3) := by decide +kernel
theorem dL_stands_14 : decode cL_stands 14 = .ok (.lconst 0, 1) := by decide +kernel
theorem dL_stands_15 : decode cL_stands 15 = .ok (.lastore, 1) := by decide +kernel
theorem dL_stands_16 : decode cL_stands 16 = .ok (.goto 6, 3) := by decide +kernel
theorem dL_stands_19 : decode cL_stands 19 = .ok (.astore_n 3, 1) := by decide +kernel
theorem dL_stands_20 : decode cL_stands 20 = .ok (.iconst 1, 1) := by decide +kernel
theorem dL_stands_21 : decode cL_stands 21 = .ok (.ireturn, 1) := by decide +kernel
theorem dL_stands_22 : decode cL_stands 22 = .ok (.iconst 0, 1) := by decide +kernel
theorem dL_stands_23 : decode cL_stands 23 = .ok (.ireturn, 1) := by decide +kernel
set_option maxRecDepth 20000 in
theorem ggL_waitsFor_X0_waitsFor : GoodIn wsL_waitsFor wsX0_waitsFor := goodIn_ca (goodIn_r _ [6, 7, 8, 9, 5, 10, 11, 12, 13, 14, 15, 16, 17, 18, 19, 20, 21, 22, 23, 24, 25, 26, 27, 28, 29, 30, 31, 32, 33, 34, 35, 36, 37, 38, 39, 40, 41, 42, 43] (by decide +kernel) (by decide +kernel)) (goodIn_sub (fun _ h => List.mem_cons_of_mem _ (List.mem_append_right _ h)) (by decide +kernel))
set_option maxRecDepth 20000 in
theorem gL_waitsFor_X0_waitsFor : GoodIn wsL_waitsFor (wsV RL 56 RX0 yX0_waitsFor wsX0_waitsFor) := goodIn_app (goodIn_of _ (by decide +kernel)) ggL_waitsFor_X0_waitsFor
theorem dL_waitsFor_0 : decode cL_waitsFor 0 = .ok (.aload_n 2, 1) := by decide +kernel
theorem dL_waitsFor_1 : decode cL_waitsFor 1 = .ok (.iconst 0, 1) := by decide +kernel
theorem dL_waitsFor_2 : decode cL_waitsFor 2 = .ok (.aload_n 0, 1) := by decide +kernel
theorem dL_waitsFor_3 : decode cL_waitsFor 3 = .ok (.iload_n 1, 1) := by decide +kernel
theorem dL_waitsFor_4 : decode cL_waitsFor 4 = .ok (.invokevirtual 56, 3) := by decide +kernel
theorem dL_waitsFor_7 : decode cL_waitsFor 7 = .ok (.i2l, 1) := by decide +kernel
theorem dL_waitsFor_8 : decode cL_waitsFor 8 = .ok (.lastore, 1) := by decide +kernel
theorem dL_waitsFor_9 : decode cL_waitsFor 9 = .ok (.goto 6, 3) := by decide +kernel
theorem dL_waitsFor_12 : decode cL_waitsFor 12 = .ok (.astore_n 3, 1) := by decide +kernel
theorem dL_waitsFor_13 : decode cL_waitsFor 13 = .ok (.iconst 1, 1) := by decide +kernel
theorem dL_waitsFor_14 : decode cL_waitsFor 14 = .ok (.ireturn, 1) := by decide +kernel
theorem dL_waitsFor_15 : decode cL_waitsFor 15 = .ok (.iconst 0, 1) := by decide +kernel
theorem dL_waitsFor_16 : decode cL_waitsFor 16 = .ok (.ireturn, 1) := by decide +kernel
set_option maxRecDepth 20000 in
theorem ggL_deliveredTo_X0_deliveredTo : GoodIn wsL_deliveredTo wsX0_deliveredTo := goodIn_ca (goodIn_r _ [6, 7, 8, 9, 10, 5, 11, 12, 13, 14, 15, 16, 17, 18, 19, 20, 21, 22, 23, 24, 25, 26, 27, 28, 29, 30, 31, 32, 33] (by decide +kernel) (by decide +kernel)) (goodIn_sub (fun _ h => List.mem_cons_of_mem _ (List.mem_append_right _ h)) (by decide +kernel))
set_option maxRecDepth 20000 in
theorem gL_deliveredTo_X0_deliveredTo : GoodIn wsL_deliveredTo (wsV RL 59 RX0 yX0_deliveredTo wsX0_deliveredTo) := goodIn_app (goodIn_of _ (by decide +kernel)) ggL_deliveredTo_X0_deliveredTo
theorem dL_deliveredTo_0 : decode cL_deliveredTo 0 = .ok (.aload_n 2, 1) := by decide +kernel
theorem dL_deliveredTo_1 : decode cL_deliveredTo 1 = .ok (.iconst 0, 1) := by decide +kernel
theorem dL_deliveredTo_2 : decode cL_deliveredTo 2 = .ok (.aload_n 0, 1) := by decide +kernel
theorem dL_deliveredTo_3 : decode cL_deliveredTo 3 = .ok (.iload_n 1, 1) := by decide +kernel
theorem dL_deliveredTo_4 : decode cL_deliveredTo 4 = .ok (.invokevirtual 59, 3) := by decide +kernel
theorem dL_deliveredTo_7 : decode cL_deliveredTo 7 = .ok (.i2l, 1) := by decide +kernel
theorem dL_deliveredTo_8 : decode cL_deliveredTo 8 = .ok (.lastore, 1) := by decide +kernel
theorem dL_deliveredTo_9 : decode cL_deliveredTo 9 = .ok (.goto 6, 3) := by decide +kernel
theorem dL_deliveredTo_12 : decode cL_deliveredTo 12 = .ok (.astore_n 3, 1) := by decide +kernel
theorem dL_deliveredTo_13 : decode cL_deliveredTo 13 = .ok (.iconst 1, 1) := by decide +kernel
theorem dL_deliveredTo_14 : decode cL_deliveredTo 14 = .ok (.ireturn, 1) := by decide +kernel
theorem dL_deliveredTo_15 : decode cL_deliveredTo 15 = .ok (.iconst 0, 1) := by decide +kernel
theorem dL_deliveredTo_16 : decode cL_deliveredTo 16 = .ok (.ireturn, 1) := by decide +kernel
set_option maxRecDepth 20000 in
theorem ggL_standing_X0_standing : GoodIn wsL_standing wsX0_standing := goodIn_ca (goodIn_r _ [6, 7, 8, 9, 5, 10, 11, 12, 13, 14, 15, 16, 17, 18, 19, 20, 21, 22, 23, 24, 25, 26, 27, 28, 29, 30, 31, 32, 33, 34, 35, 36, 37, 38, 39, 40] (by decide +kernel) (by decide +kernel)) (goodIn_sub (fun _ h => List.mem_cons_of_mem _ (List.mem_append_right _ h)) (by decide +kernel))
set_option maxRecDepth 20000 in
theorem gL_standing_X0_standing : GoodIn wsL_standing (wsV RL 62 RX0 yX0_standing wsX0_standing) := goodIn_app (goodIn_of _ (by decide +kernel)) ggL_standing_X0_standing
theorem dL_standing_0 : decode cL_standing 0 = .ok (.aload_n 3, 1) := by decide +kernel
theorem dL_standing_1 : decode cL_standing 1 = .ok (.iconst 0, 1) := by decide +kernel
theorem dL_standing_2 : decode cL_standing 2 = .ok (.aload_n 0, 1) := by decide +kernel
theorem dL_standing_3 : decode cL_standing 3 = .ok (.iload_n 1, 1) := by decide +kernel
theorem dL_standing_4 : decode cL_standing 4 = .ok (.iload_n 2, 1) := by decide +kernel
theorem dL_standing_5 : decode cL_standing 5 = .ok (.invokevirtual 62, 3) := by decide +kernel
theorem dL_standing_8 : decode cL_standing 8 = .ok (.i2l, 1) := by decide +kernel
theorem dL_standing_9 : decode cL_standing 9 = .ok (.lastore, 1) := by decide +kernel
theorem dL_standing_10 : decode cL_standing 10 = .ok (.goto 7, 3) := by decide +kernel
theorem dL_standing_13 : decode cL_standing 13 = .ok (.astore 4, 2) := by decide +kernel
theorem dL_standing_15 : decode cL_standing 15 = .ok (.iconst 1, 1) := by decide +kernel
theorem dL_standing_16 : decode cL_standing 16 = .ok (.ireturn, 1) := by decide +kernel
theorem dL_standing_17 : decode cL_standing 17 = .ok (.iconst 0, 1) := by decide +kernel
theorem dL_standing_18 : decode cL_standing 18 = .ok (.ireturn, 1) := by decide +kernel
set_option maxRecDepth 20000 in
theorem ggL_badge_X0_badge : GoodIn wsL_badge wsX0_badge := goodIn_ca (goodIn_r _ [6, 7, 8, 9, 10, 11, 5, 12, 13, 14, 15, 16, 17, 18, 19, 20, 21, 22, 23, 24, 25, 26, 27, 28, 29, 30, 31, 32, 33, 34, 35, 36, 37, 38, 39, 40, 41, 42, 43, 44, 45, 46] (by decide +kernel) (by decide +kernel)) (goodIn_sub (fun _ h => List.mem_cons_of_mem _ (List.mem_append_right _ h)) (by decide +kernel))
set_option maxRecDepth 20000 in
theorem gL_badge_X0_badge : GoodIn wsL_badge (wsV RL 65 RX0 yX0_badge wsX0_badge) := goodIn_app (goodIn_of _ (by decide +kernel)) ggL_badge_X0_badge
theorem dL_badge_0 : decode cL_badge 0 = .ok (.aload_n 2, 1) := by decide +kernel
theorem dL_badge_1 : decode cL_badge 1 = .ok (.iconst 0, 1) := by decide +kernel
theorem dL_badge_2 : decode cL_badge 2 = .ok (.aload_n 0, 1) := by decide +kernel
theorem dL_badge_3 : decode cL_badge 3 = .ok (.iload_n 1, 1) := by decide +kernel
theorem dL_badge_4 : decode cL_badge 4 = .ok (.invokevirtual 65, 3) := by decide +kernel
theorem dL_badge_7 : decode cL_badge 7 = .ok (.i2l, 1) := by decide +kernel
theorem dL_badge_8 : decode cL_badge 8 = .ok (.lastore, 1) := by decide +kernel
theorem dL_badge_9 : decode cL_badge 9 = .ok (.goto 6, 3) := by decide +kernel
theorem dL_badge_12 : decode cL_badge 12 = .ok (.astore_n 3, 1) := by decide +kernel
theorem dL_badge_13 : decode cL_badge 13 = .ok (.iconst 1, 1) := by decide +kernel
theorem dL_badge_14 : decode cL_badge 14 = .ok (.ireturn, 1) := by decide +kernel
theorem dL_badge_15 : decode cL_badge 15 = .ok (.iconst 0, 1) := by decide +kernel
theorem dL_badge_16 : decode cL_badge 16 = .ok (.ireturn, 1) := by decide +kernel
set_option maxRecDepth 20000 in
theorem ggL_waiting_X0_waiting : GoodIn wsL_waiting wsX0_waiting := goodIn_ca (goodIn_r _ [6, 7, 8, 9, 5, 10, 11, 12, 13, 14, 15, 16, 17, 18, 19, 20, 21, 22, 23, 24, 25, 26, 27, 28, 29, 30, 31, 32, 33, 34, 35, 36, 37, 38, 39, 40, 41, 42, 43, 44, 45, 46, 47, 48, 49, 50, 51, 52, 53, 54] (by decide +kernel) (by decide +kernel)) (goodIn_sub (fun _ h => List.mem_cons_of_mem _ (List.mem_append_right _ h)) (by decide +kernel))
set_option maxRecDepth 20000 in
theorem gL_waiting_X0_waiting : GoodIn wsL_waiting (wsV RL 68 RX0 yX0_waiting wsX0_waiting) := goodIn_app (goodIn_of _ (by decide +kernel)) ggL_waiting_X0_waiting
theorem dL_waiting_0 : decode cL_waiting 0 = .ok (.aload_n 2, 1) := by decide +kernel
theorem dL_waiting_1 : decode cL_waiting 1 = .ok (.iconst 0, 1) := by decide +kernel
theorem dL_waiting_2 : decode cL_waiting 2 = .ok (.aload_n 0, 1) := by decide +kernel
theorem dL_waiting_3 : decode cL_waiting 3 = .ok (.iload_n 1, 1) := by decide +kernel
theorem dL_waiting_4 : decode cL_waiting 4 = .ok (.invokevirtual 68, 3) := by decide +kernel
theorem dL_waiting_7 : decode cL_waiting 7 = .ok (.i2l, 1) := by decide +kernel
theorem dL_waiting_8 : decode cL_waiting 8 = .ok (.lastore, 1) := by decide +kernel
theorem dL_waiting_9 : decode cL_waiting 9 = .ok (.goto 6, 3) := by decide +kernel
theorem dL_waiting_12 : decode cL_waiting 12 = .ok (.astore_n 3, 1) := by decide +kernel
theorem dL_waiting_13 : decode cL_waiting 13 = .ok (.iconst 1, 1) := by decide +kernel
theorem dL_waiting_14 : decode cL_waiting 14 = .ok (.ireturn, 1) := by decide +kernel
theorem dL_waiting_15 : decode cL_waiting 15 = .ok (.iconst 0, 1) := by decide +kernel
theorem dL_waiting_16 : decode cL_waiting 16 = .ok (.ireturn, 1) := by decide +kernel
set_option maxRecDepth 20000 in
theorem ggL_quota_X0_quota : GoodIn wsL_quota wsX0_quota := goodIn_ca (goodIn_r _ [6, 7, 8, 9, 5, 10, 11, 12, 13, 14, 15, 16, 17, 18, 19, 20, 21, 22, 23, 24, 25, 26, 27, 28, 29, 30, 31, 32, 33, 34, 35, 36, 37, 38, 39] (by decide +kernel) (by decide +kernel)) (goodIn_sub (fun _ h => List.mem_cons_of_mem _ (List.mem_append_right _ h)) (by decide +kernel))
set_option maxRecDepth 20000 in
theorem gL_quota_X0_quota : GoodIn wsL_quota (wsV RL 71 RX0 yX0_quota wsX0_quota) := goodIn_app (goodIn_of _ (by decide +kernel)) ggL_quota_X0_quota
theorem dL_quota_0 : decode cL_quota 0 = .ok (.aload_n 2, 1) := by decide +kernel
theorem dL_quota_1 : decode cL_quota 1 = .ok (.iconst 0, 1) := by decide +kernel
theorem dL_quota_2 : decode cL_quota 2 = .ok (.aload_n 0, 1) := by decide +kernel
theorem dL_quota_3 : decode cL_quota 3 = .ok (.iload_n 1, 1) := by decide +kernel
theorem dL_quota_4 : decode cL_quota 4 = .ok (.invokevirtual 71, 3) := by decide +kernel
theorem dL_quota_7 : decode cL_quota 7 = .ok (.i2l, 1) := by decide +kernel
theorem dL_quota_8 : decode cL_quota 8 = .ok (.lastore, 1) := by decide +kernel
theorem dL_quota_9 : decode cL_quota 9 = .ok (.goto 6, 3) := by decide +kernel
theorem dL_quota_12 : decode cL_quota 12 = .ok (.astore_n 3, 1) := by decide +kernel
theorem dL_quota_13 : decode cL_quota 13 = .ok (.iconst 1, 1) := by decide +kernel
theorem dL_quota_14 : decode cL_quota 14 = .ok (.ireturn, 1) := by decide +kernel
end
section
theorem dL_quota_15 : decode cL_quota 15 = .ok (.iconst 0, 1) := by decide +kernel
theorem dL_quota_16 : decode cL_quota 16 = .ok (.ireturn, 1) := by decide +kernel
set_option maxRecDepth 20000 in
theorem ggL_pass_X0_pass : GoodIn wsL_pass wsX0_pass := goodIn_ca (goodIn_ca (goodIn_r _ [7, 8, 9, 10, 11, 12, 13, 14, 15, 16, 17, 6, 18, 19, 20, 21, 22, 23, 24, 25, 26, 27, 28, 29, 30, 31, 32, 33, 34, 35, 36, 37, 38, 39, 40, 41, 42, 43, 44, 45, 46, 47, 48, 49, 50, 51, 52, 53, 54, 55, 56, 57, 58, 59, 60, 61, 62, 63, 64, 65, 66, 67, 68, 69, 70, 71, 72, 73, 74, 75, 76, 77, 78, 79, 80, 81, 82, 83, 84, 85, 86, 87, 88, 89, 90, 91, 92, 93, 94, 95, 96, 97, 98, 99, 100, 101, 102, 103, 104, 105, 106, 107, 108, 109, 110, 111, 112, 113, 114, 115, 116, 117] (by decide +kernel) (by decide +kernel)) (goodIn_sub (fun _ h => List.mem_cons_of_mem _ (List.mem_append_left _ (List.mem_append_right _ h))) (by decide +kernel))) (goodIn_sub (fun _ h => List.mem_cons_of_mem _ (List.mem_append_right _ h)) (by decide +kernel))
set_option maxRecDepth 20000 in
theorem gL_pass_X0_pass : GoodIn wsL_pass (wsV RL 74 RX0 yX0_pass wsX0_pass) := goodIn_app (goodIn_of _ (by decide +kernel)) ggL_pass_X0_pass
theorem dL_pass_0 : decode cL_pass 0 = .ok (.aload_n 2, 1) := by decide +kernel
theorem dL_pass_1 : decode cL_pass 1 = .ok (.iconst 0, 1) := by decide +kernel
theorem dL_pass_2 : decode cL_pass 2 = .ok (.aload_n 0, 1) := by decide +kernel
theorem dL_pass_3 : decode cL_pass 3 = .ok (.iload_n 1, 1) := by decide +kernel
theorem dL_pass_4 : decode cL_pass 4 = .ok (.invokevirtual 74, 3) := by decide +kernel
theorem dL_pass_7 : decode cL_pass 7 = .ok (.i2l, 1) := by decide +kernel
theorem dL_pass_8 : decode cL_pass 8 = .ok (.lastore, 1) := by decide +kernel
theorem dL_pass_9 : decode cL_pass 9 = .ok (.goto 9, 3) := by decide +kernel
theorem dL_pass_12 : decode cL_pass 12 = .ok (.astore_n 3, 1) := by decide +kernel
theorem dL_pass_13 : decode cL_pass 13 = .ok (.iconst 1, 1) := by decide +kernel
theorem dL_pass_14 : decode cL_pass 14 = .ok (.ireturn, 1) := by decide +kernel
theorem dL_pass_15 : decode cL_pass 15 = .ok (.astore_n 3, 1) := by decide +kernel
theorem dL_pass_16 : decode cL_pass 16 = .ok (.iconst 2, 1) := by decide +kernel
theorem dL_pass_17 : decode cL_pass 17 = .ok (.ireturn, 1) := by decide +kernel
theorem dL_pass_18 : decode cL_pass 18 = .ok (.iconst 0, 1) := by decide +kernel
theorem dL_pass_19 : decode cL_pass 19 = .ok (.ireturn, 1) := by decide +kernel
set_option maxRecDepth 20000 in
theorem ggL_law_X0_init : GoodIn wsL_law wsX0_init := goodIn_r _ [9, 10, 11, 12, 13, 14, 15, 16, 17, 18, 19, 20, 21, 22, 23, 24, 25, 26, 27, 28, 29, 30, 31, 32, 33, 474, 475, 476, 477, 478, 479, 480, 481, 482, 483, 484, 485, 486, 487, 488, 489, 490, 491, 492] (by decide +kernel) (by decide +kernel)
set_option maxRecDepth 20000 in
theorem gL_law_X0_init : GoodIn wsL_law (wsX0_init) := ggL_law_X0_init
set_option maxRecDepth 20000 in
theorem ggL_law_X1_init : GoodIn wsL_law wsX1_init := goodIn_r _ [36, 37, 11, 12, 13, 38, 39, 25, 40, 41, 42, 43, 44, 45, 46, 47, 48, 49, 50, 51, 52, 53, 54, 493, 494, 495, 496, 497, 498, 499, 500, 501, 502, 503, 504, 505, 506, 507, 508, 509, 510, 511, 512, 513, 514] (by decide +kernel) (by decide +kernel)
set_option maxRecDepth 20000 in
theorem gL_law_X1_init : GoodIn wsL_law (wsX1_init) := ggL_law_X1_init
set_option maxRecDepth 20000 in
theorem ggL_law_L_addDevice : GoodIn wsL_law wsL_addDevice := goodIn_ca (goodIn_ca (goodIn_r _ [58, 59, 60, 61, 62, 63, 2, 64, 65, 66, 24, 19, 14, 16, 17, 67, 68, 69, 70, 71, 72, 73, 74, 474, 475, 476, 477, 478, 479, 480, 481, 482, 483, 484, 485, 486, 487, 488, 489, 490, 491, 492] (by decide +kernel) (by decide +kernel)) (goodIn_sub (fun _ h => List.mem_append_left _ (List.mem_append_left _ (List.mem_append_right _ h))) (by decide +kernel))) (goodIn_sub (fun _ h => List.mem_append_left _ (List.mem_append_right _ h)) (by decide +kernel))
set_option maxRecDepth 20000 in
theorem gL_law_L_addDevice : GoodIn wsL_law (va_wsS RL 81 yL_addDevice wsL_addDevice) := goodIn_app (goodIn_of _ (by decide +kernel)) ggL_law_L_addDevice
set_option maxRecDepth 20000 in
theorem ggL_law_X1_addDevice : GoodIn wsL_law wsX1_addDevice := goodIn_r _ [78, 79, 38, 39, 40, 80, 81, 5, 82, 83, 84, 85, 86, 87, 493, 494, 495, 496, 497, 498, 499, 500, 501, 502, 503, 504, 505, 506, 507, 508, 509, 510, 511, 512, 513, 514] (by decide +kernel) (by decide +kernel)
set_option maxRecDepth 20000 in
theorem gL_law_X1_addDevice : GoodIn wsL_law (wsV RL 86 RX1 yX1_addDevice wsX1_addDevice) := goodIn_app (goodIn_of _ (by decide +kernel)) ggL_law_X1_addDevice
set_option maxRecDepth 20000 in
theorem ggL_law_X1_thrown : GoodIn wsL_law wsX1_thrown := goodIn_r _ [91, 87, 493, 494, 495, 496, 497, 498, 499, 500, 501, 502, 503, 504, 505, 506, 507, 508, 509, 510, 511, 512, 513, 514] (by decide +kernel) (by decide +kernel)
set_option maxRecDepth 20000 in
theorem gL_law_X1_thrown : GoodIn wsL_law (wsV RL 87 RX1 yX1_thrown wsX1_thrown) := goodIn_app (goodIn_of _ (by decide +kernel)) ggL_law_X1_thrown
set_option maxRecDepth 20000 in
theorem ggL_law_L_setOnline : GoodIn wsL_law wsL_setOnline := goodIn_ca (goodIn_r _ [94, 95, 96, 97, 98, 2, 99, 17, 100, 101, 102, 103, 104, 105, 24, 106, 107, 108, 72, 73, 74, 109, 110, 111, 112, 33, 31, 26, 113, 114, 115, 116, 32, 18, 117, 118, 119, 120, 20, 21, 121, 122, 123, 124, 19, 125, 126, 127, 128, 129, 130, 131, 132, 28, 133, 134, 135, 136, 27, 137, 138, 139, 140, 141, 142, 143, 144, 145, 146, 147, 22, 23, 148, 149, 150, 151, 29, 152, 153, 154, 155, 156, 157, 158, 159, 160, 161, 162, 474, 475, 476, 477, 478, 479, 480, 481, 482, 483, 484, 485, 486, 487, 488, 489, 490, 491, 492] (by decide +kernel) (by decide +kernel)) (goodIn_sub (fun _ h => List.mem_append_right _ h) (by decide +kernel))
set_option maxRecDepth 20000 in
theorem gL_law_L_setOnline : GoodIn wsL_law (va_wsS RL 91 yL_setOnline wsL_setOnline) := goodIn_app (goodIn_of _ (by decide +kernel)) ggL_law_L_setOnline
set_option maxRecDepth 20000 in
theorem ggL_law_X1_setOnline : GoodIn wsL_law wsX1_setOnline := goodIn_r _ [166, 40, 167, 168, 169, 5, 170, 79, 80, 81, 82, 83, 84, 85, 86, 87, 171, 172, 173, 174, 175, 176, 53, 177, 178, 179, 180, 48, 41, 181, 182, 183, 184, 185, 46, 47, 186, 187, 188, 189, 39, 43, 44, 190, 191, 192, 193, 54, 493, 494, 495, 496, 497, 498, 499, 500, 501, 502, 503, 504, 505, 506, 507, 508, 509, 510, 511, 512, 513, 514] (by decide +kernel) (by decide +kernel)
set_option maxRecDepth 20000 in
theorem gL_law_X1_setOnline : GoodIn wsL_law (wsV RL 94 RX1 yX1_setOnline wsX1_setOnline) := goodIn_app (goodIn_of _ (by decide +kernel)) ggL_law_X1_setOnline
set_option maxRecDepth 20000 in
theorem ggL_law_L_setDozing : GoodIn wsL_law wsL_setDozing := goodIn_ca (goodIn_r _ [196, 95, 197, 198, 199, 2, 200, 18, 100, 101, 102, 103, 104, 105, 24, 106, 107, 108, 72, 73, 74, 109, 110, 111, 112, 33, 31, 26, 113, 114, 115, 116, 32, 17, 117, 118, 119, 120, 20, 21, 121, 122, 123, 124, 19, 125, 126, 127, 128, 129, 130, 131, 132, 28, 133, 134, 135, 136, 27, 137, 138, 139, 140, 141, 142, 143, 144, 145, 146, 147, 22, 23, 148, 149, 150, 151, 29, 152, 153, 154, 155, 156, 157, 158, 159, 160, 161, 162, 474, 475, 476, 477, 478, 479, 480, 481, 482, 483, 484, 485, 486, 487, 488, 489, 490, 491, 492] (by decide +kernel) (by decide +kernel)) (goodIn_sub (fun _ h => List.mem_append_right _ h) (by decide +kernel))
set_option maxRecDepth 20000 in
theorem gL_law_L_setDozing : GoodIn wsL_law (va_wsS RL 95 yL_setDozing wsL_setDozing) := goodIn_app (goodIn_of _ (by decide +kernel)) ggL_law_L_setDozing
set_option maxRecDepth 20000 in
theorem ggL_law_X1_setDozing : GoodIn wsL_law wsX1_setDozing := goodIn_r _ [204, 41, 167, 168, 169, 5, 170, 79, 80, 81, 82, 83, 84, 85, 86, 87, 171, 172, 173, 174, 175, 176, 53, 177, 178, 179, 180, 40, 48, 181, 182, 183, 184, 185, 46, 47, 186, 187, 188, 189, 39, 43, 44, 190, 191, 192, 193, 54, 493, 494, 495, 496, 497, 498, 499, 500, 501, 502, 503, 504, 505, 506, 507, 508, 509, 510, 511, 512, 513, 514] (by decide +kernel) (by decide +kernel)
set_option maxRecDepth 20000 in
theorem gL_law_X1_setDozing : GoodIn wsL_law (wsV RL 97 RX1 yX1_setDozing wsX1_setDozing) := goodIn_app (goodIn_of _ (by decide +kernel)) ggL_law_X1_setDozing
set_option maxRecDepth 20000 in
theorem ggL_law_L_setQuiet : GoodIn wsL_law wsL_setQuiet := goodIn_ca (goodIn_ca (goodIn_r _ [207, 95, 59, 208, 209, 210, 2, 211, 20, 21, 100, 101, 102, 103, 104, 105, 24, 67, 68, 69, 70, 71, 109, 110, 111, 112, 33, 31, 26, 113, 114, 115, 116, 32, 17, 18, 117, 118, 119, 120, 121, 122, 123, 124, 19, 125, 126, 127, 128, 106, 107, 108, 72, 73, 74, 129, 130, 131, 132, 28, 133, 134, 135, 136, 27, 137, 138, 139, 140, 141, 142, 143, 144, 145, 146, 147, 22, 23, 148, 149, 150, 151, 29, 152, 153, 154, 155, 156, 157, 158, 159, 160, 161, 162, 474, 475, 476, 477, 478, 479, 480, 481, 482, 483, 484, 485, 486, 487, 488, 489, 490, 491, 492] (by decide +kernel) (by decide +kernel)) (goodIn_sub (fun _ h => List.mem_append_right _ h) (by decide +kernel))) (goodIn_sub (fun _ h => List.mem_append_left _ (List.mem_append_right _ h)) (by decide +kernel))
set_option maxRecDepth 20000 in
theorem gL_law_L_setQuiet : GoodIn wsL_law (va_wsS RL 98 yL_setQuiet wsL_setQuiet) := goodIn_app (goodIn_of _ (by decide +kernel)) ggL_law_L_setQuiet
set_option maxRecDepth 20000 in
theorem ggL_law_X1_setQuiet : GoodIn wsL_law wsX1_setQuiet := goodIn_r _ [215, 43, 44, 167, 168, 169, 5, 170, 79, 80, 81, 82, 83, 84, 85, 86, 87, 171, 172, 173, 174, 175, 176, 53, 177, 178, 179, 180, 40, 48, 41, 181, 182, 183, 184, 185, 46, 47, 186, 187, 188, 189, 39, 190, 191, 192, 193, 54, 493, 494, 495, 496, 497, 498, 499, 500, 501, 502, 503, 504, 505, 506, 507, 508, 509, 510, 511, 512, 513, 514] (by decide +kernel) (by decide +kernel)
set_option maxRecDepth 20000 in
theorem gL_law_X1_setQuiet : GoodIn wsL_law (wsV RL 101 RX1 yX1_setQuiet wsX1_setQuiet) := goodIn_app (goodIn_of _ (by decide +kernel)) ggL_law_X1_setQuiet
set_option maxRecDepth 20000 in
theorem ggL_law_L_join : GoodIn wsL_law wsL_join := goodIn_ca (goodIn_ca (goodIn_r _ [218, 95, 59, 219, 220, 221, 2, 222, 15, 100, 101, 102, 103, 104, 105, 24, 67, 68, 69, 70, 71, 141, 142, 143, 72, 73, 74, 106, 107, 108, 474, 475, 476, 477, 478, 479, 480, 481, 482, 483, 484, 485, 486, 487, 488, 489, 490, 491, 492] (by decide +kernel) (by decide +kernel)) (goodIn_sub (fun _ h => List.mem_append_right _ h) (by decide +kernel))) (goodIn_sub (fun _ h => List.mem_append_left _ (List.mem_append_right _ h)) (by decide +kernel))
set_option maxRecDepth 20000 in
theorem gL_law_L_join : GoodIn wsL_law (va_wsS RL 102 yL_join wsL_join) := goodIn_app (goodIn_of _ (by decide +kernel)) ggL_law_L_join
set_option maxRecDepth 20000 in
theorem ggL_law_X1_join : GoodIn wsL_law wsX1_join := goodIn_r _ [226, 45, 167, 168, 169, 5, 170, 79, 80, 81, 82, 83, 84, 85, 86, 87, 493, 494, 495, 496, 497, 498, 499, 500, 501, 502, 503, 504, 505, 506, 507, 508, 509, 510, 511, 512, 513, 514] (by decide +kernel) (by decide +kernel)
set_option maxRecDepth 20000 in
theorem gL_law_X1_join : GoodIn wsL_law (wsV RL 105 RX1 yX1_join wsX1_join) := goodIn_app (goodIn_of _ (by decide +kernel)) ggL_law_X1_join
set_option maxRecDepth 20000 in
theorem ggL_law_L_kill : GoodIn wsL_law wsL_kill := goodIn_ca (goodIn_ca (goodIn_r _ [229, 95, 60, 230, 231, 232, 2, 233, 65, 66, 16, 31, 28, 100, 101, 102, 103, 104, 105, 24, 141, 142, 143, 72, 73, 74, 234, 235, 236, 237, 129, 130, 131, 132, 133, 134, 135, 136, 32, 27, 106, 107, 108, 474, 475, 476, 477, 478, 479, 480, 481, 482, 483, 484, 485, 486, 487, 488, 489, 490, 491, 492] (by decide +kernel) (by decide +kernel)) (goodIn_sub (fun _ h => List.mem_append_left _ (List.mem_append_left _ (List.mem_append_right _ h))) (by decide +kernel))) (goodIn_sub (fun _ h => List.mem_append_right _ h) (by decide +kernel))
set_option maxRecDepth 20000 in
theorem gL_law_L_kill : GoodIn wsL_law (va_wsS RL 106 yL_kill wsL_kill) := goodIn_app (goodIn_of _ (by decide +kernel)) ggL_law_L_kill
set_option maxRecDepth 20000 in
theorem ggL_law_X1_kill : GoodIn wsL_law wsX1_kill := goodIn_r _ [241, 42, 176, 53, 167, 168, 169, 5, 170, 79, 80, 81, 82, 83, 84, 85, 86, 87, 242, 243, 244, 245, 493, 494, 495, 496, 497, 498, 499, 500, 501, 502, 503, 504, 505, 506, 507, 508, 509, 510, 511, 512, 513, 514] (by decide +kernel) (by decide +kernel)
set_option maxRecDepth 20000 in
theorem gL_law_X1_kill : GoodIn wsL_law (wsV RL 109 RX1 yX1_kill wsX1_kill) := goodIn_app (goodIn_of _ (by decide +kernel)) ggL_law_X1_kill
set_option maxRecDepth 20000 in
theorem ggL_law_X0_devices : GoodIn wsL_law wsX0_devices := goodIn_r _ [249, 24, 474, 475, 476, 477, 478, 479, 480, 481, 482, 483, 484, 485, 486, 487, 488, 489, 490, 491, 492] (by decide +kernel) (by decide +kernel)
set_option maxRecDepth 20000 in
theorem gL_law_X0_devices : GoodIn wsL_law (wsV RL 110 RX0 yX0_devices wsX0_devices) := goodIn_app (goodIn_of _ (by decide +kernel)) ggL_law_X0_devices
set_option maxRecDepth 20000 in
theorem ggL_law_X1_devices : GoodIn wsL_law wsX1_devices := goodIn_r _ [253, 79, 254, 255, 256, 5, 257, 87, 493, 494, 495, 496, 497, 498, 499, 500, 501, 502, 503, 504, 505, 506, 507, 508, 509, 510, 511, 512, 513, 514] (by decide +kernel) (by decide +kernel)
set_option maxRecDepth 20000 in
theorem gL_law_X1_devices : GoodIn wsL_law (wsV RL 113 RX1 yX1_devices wsX1_devices) := goodIn_app (goodIn_of _ (by decide +kernel)) ggL_law_X1_devices
set_option maxRecDepth 20000 in
theorem ggL_law_L_isQuiet : GoodIn wsL_law wsL_isQuiet := goodIn_ca (goodIn_r _ [260, 95, 261, 262, 263, 2, 264, 100, 101, 102, 103, 104, 105, 24, 117, 118, 119, 120, 20, 21, 121, 122, 123, 124, 32, 19, 125, 126, 127, 128, 474, 475, 476, 477, 478, 479, 480, 481, 482, 483, 484, 485, 486, 487, 488, 489, 490, 491, 492] (by decide +kernel) (by decide +kernel)) (goodIn_sub (fun _ h => List.mem_append_right _ h) (by decide +kernel))
set_option maxRecDepth 20000 in
theorem gL_law_L_isQuiet : GoodIn wsL_law (va_wsS RL 114 yL_isQuiet wsL_isQuiet) := goodIn_app (goodIn_of _ (by decide +kernel)) ggL_law_L_isQuiet
set_option maxRecDepth 20000 in
theorem ggL_law_X1_isQuiet : GoodIn wsL_law wsX1_isQuiet := goodIn_r _ [268, 167, 168, 169, 5, 170, 79, 80, 81, 82, 83, 84, 85, 86, 87, 186, 187, 188, 189, 181, 39, 43, 44, 493, 494, 495, 496, 497, 498, 499, 500, 501, 502, 503, 504, 505, 506, 507, 508, 509, 510, 511, 512, 513, 514] (by decide +kernel) (by decide +kernel)
set_option maxRecDepth 20000 in
theorem gL_law_X1_isQuiet : GoodIn wsL_law (wsV RL 116 RX1 yX1_isQuiet wsX1_isQuiet) := goodIn_app (goodIn_of _ (by decide +kernel)) ggL_law_X1_isQuiet
set_option maxRecDepth 20000 in
theorem ggL_law_L_send : GoodIn wsL_law wsL_send := goodIn_ca (goodIn_ca (goodIn_r _ [271, 59, 60, 272, 273, 274, 2, 275, 14, 67, 68, 69, 70, 71, 276, 277, 278, 279, 65, 66, 31, 280, 281, 282, 283, 30, 284, 285, 286, 133, 134, 135, 136, 32, 27, 287, 288, 289, 290, 291, 292, 293, 294, 26, 28, 16, 109, 110, 111, 112, 33, 113, 114, 115, 116, 17, 18, 24, 117, 118, 119, 120, 20, 21, 121, 122, 123, 124, 19, 125, 126, 127, 128, 106, 107, 108, 72, 73, 74, 129, 130, 131, 132, 137, 138, 139, 140, 141, 142, 143, 144, 145, 146, 147, 22, 23, 148, 149, 150, 151, 29, 152, 153, 154, 155, 156, 157, 158, 159, 160, 161, 162, 474, 475, 476, 477, 478, 479, 480, 481, 482, 483, 484, 485, 486, 487, 488, 489, 490, 491, 492] (by decide +kernel) (by decide +kernel)) (goodIn_sub (fun _ h => List.mem_append_left _ (List.mem_append_right _ h)) (by decide +kernel))) (goodIn_sub (fun _ h => List.mem_append_left _ (List.mem_append_left _ (List.mem_append_right _ h))) (by decide +kernel))
set_option maxRecDepth 20000 in
theorem gL_law_L_send : GoodIn wsL_law (va_wsS RL 117 yL_send wsL_send) := goodIn_app (goodIn_of _ (by decide +kernel)) ggL_law_L_send
set_option maxRecDepth 20000 in
theorem ggL_law_X1_send : GoodIn wsL_law wsX1_send := goodIn_r _ [298, 176, 79, 38, 42, 80, 81, 5, 82, 83, 84, 85, 86, 87, 299, 300, 301, 302, 50, 51, 52, 303, 304, 305, 306, 53, 307, 308, 309, 310, 48, 49, 181, 171, 172, 173, 174, 175, 177, 178, 179, 180, 40, 41, 182, 183, 184, 185, 46, 47, 186, 187, 188, 189, 39, 43, 44, 190, 191, 192, 193, 54, 493, 494, 495, 496, 497, 498, 499, 500, 501, 502, 503, 504, 505, 506, 507, 508, 509, 510, 511, 512, 513, 514] (by decide +kernel) (by decide +kernel)
set_option maxRecDepth 20000 in
theorem gL_law_X1_send : GoodIn wsL_law (wsV RL 120 RX1 yX1_send wsX1_send) := goodIn_app (goodIn_of _ (by decide +kernel)) ggL_law_X1_send
set_option maxRecDepth 20000 in
theorem ggL_law_L_sendBy : GoodIn wsL_law wsL_sendBy := goodIn_ca (goodIn_ca (goodIn_r _ [313, 59, 60, 314, 315, 316, 2, 317, 67, 68, 69, 70, 71, 276, 277, 278, 279, 65, 66, 31, 318, 319, 320, 321, 15, 291, 292, 293, 294, 26, 27, 32, 28, 16, 109, 110, 111, 112, 33, 113, 114, 115, 116, 17, 18, 24, 117, 118, 119, 120, 20, 21, 121, 122, 123, 124, 19, 125, 126, 127, 128, 106, 107, 108, 72, 73, 74, 129, 130, 131, 132, 133, 134, 135, 136, 137, 138, 139, 140, 141, 142, 143, 144, 145, 146, 147, 22, 23, 148, 149, 150, 151, 29, 152, 153, 154, 155, 156, 157, 158, 159, 160, 161, 162, 474, 475, 476, 477, 478, 479, 480, 481, 482, 483, 484, 485, 486, 487, 488, 489, 490, 491, 492] (by decide +kernel) (by decide +kernel)) (goodIn_sub (fun _ h => List.mem_append_left _ (List.mem_append_right _ h)) (by decide +kernel))) (goodIn_sub (fun _ h => List.mem_append_left _ (List.mem_append_left _ (List.mem_append_right _ h))) (by decide +kernel))
set_option maxRecDepth 20000 in
theorem gL_law_L_sendBy : GoodIn wsL_law (va_wsS RL 121 yL_sendBy wsL_sendBy) := goodIn_app (goodIn_of _ (by decide +kernel)) ggL_law_L_sendBy
set_option maxRecDepth 20000 in
theorem ggL_law_X1_sendBy : GoodIn wsL_law wsX1_sendBy := goodIn_r _ [325, 176, 79, 45, 42, 80, 81, 5, 82, 83, 84, 85, 86, 87, 307, 308, 309, 310, 50, 51, 48, 49, 181, 53, 171, 172, 173, 174, 175, 177, 178, 179, 180, 40, 41, 182, 183, 184, 185, 46, 47, 186, 187, 188, 189, 39, 43, 44, 190, 191, 192, 193, 54, 493, 494, 495, 496, 497, 498, 499, 500, 501, 502, 503, 504, 505, 506, 507, 508, 509, 510, 511, 512, 513, 514] (by decide +kernel) (by decide +kernel)
set_option maxRecDepth 20000 in
theorem gL_law_X1_sendBy : GoodIn wsL_law (wsV RL 124 RX1 yX1_sendBy wsX1_sendBy) := goodIn_app (goodIn_of _ (by decide +kernel)) ggL_law_X1_sendBy
set_option maxRecDepth 20000 in
theorem ggL_law_L_read : GoodIn wsL_law wsL_read := goodIn_ca (goodIn_ca (goodIn_r _ [328, 95, 60, 329, 330, 331, 2, 332, 65, 66, 29, 100, 101, 102, 103, 104, 105, 24, 333, 334, 335, 336, 31, 141, 142, 143, 72, 73, 74, 133, 134, 135, 136, 32, 27, 129, 130, 131, 132, 28, 152, 153, 154, 155, 156, 157, 158, 287, 288, 289, 290, 474, 475, 476, 477, 478, 479, 480, 481, 482, 483, 484, 485, 486, 487, 488, 489, 490, 491, 492] (by decide +kernel) (by decide +kernel)) (goodIn_sub (fun _ h => List.mem_append_left _ (List.mem_append_left _ (List.mem_append_right _ h))) (by decide +kernel))) (goodIn_sub (fun _ h => List.mem_append_right _ h) (by decide +kernel))
set_option maxRecDepth 20000 in
theorem gL_law_L_read : GoodIn wsL_law (va_wsS RL 125 yL_read wsL_read) := goodIn_app (goodIn_of _ (by decide +kernel)) ggL_law_L_read
set_option maxRecDepth 20000 in
theorem ggL_law_X1_read : GoodIn wsL_law wsX1_read := goodIn_r _ [340, 54, 52, 53, 167, 168, 169, 5, 170, 79, 80, 81, 82, 341, 342, 343, 344, 176, 83, 84, 85, 86, 87, 345, 346, 347, 303, 304, 305, 306, 493, 494, 495, 496, 497, 498, 499, 500, 501, 502, 503, 504, 505, 506, 507, 508, 509, 510, 511, 512, 513, 514] (by decide +kernel) (by decide +kernel)
set_option maxRecDepth 20000 in
theorem gL_law_X1_read : GoodIn wsL_law (wsV RL 127 RX1 yX1_read wsX1_read) := goodIn_app (goodIn_of _ (by decide +kernel)) ggL_law_X1_read
set_option maxRecDepth 20000 in
theorem ggL_law_X0_sent : GoodIn wsL_law wsX0_sent := goodIn_r _ [351, 31, 474, 475, 476, 477, 478, 479, 480, 481, 482, 483, 484, 485, 486, 487, 488, 489, 490, 491, 492] (by decide +kernel) (by decide +kernel)
set_option maxRecDepth 20000 in
theorem gL_law_X0_sent : GoodIn wsL_law (wsV RL 128 RX0 yX0_sent wsX0_sent) := goodIn_app (goodIn_of _ (by decide +kernel)) ggL_law_X0_sent
set_option maxRecDepth 20000 in
theorem ggL_law_X1_sent : GoodIn wsL_law wsX1_sent := goodIn_r _ [355, 176, 254, 255, 256, 5, 257, 87, 493, 494, 495, 496, 497, 498, 499, 500, 501, 502, 503, 504, 505, 506, 507, 508, 509, 510, 511, 512, 513, 514] (by decide +kernel) (by decide +kernel)
set_option maxRecDepth 20000 in
theorem gL_law_X1_sent : GoodIn wsL_law (wsV RL 131 RX1 yX1_sent wsX1_sent) := goodIn_app (goodIn_of _ (by decide +kernel)) ggL_law_X1_sent
set_option maxRecDepth 20000 in
theorem ggL_law_L_stands : GoodIn wsL_law wsL_stands := goodIn_ca (goodIn_r _ [358, 95, 359, 360, 361, 2, 362, 333, 334, 335, 336, 104, 105, 31, 133, 134, 135, 136, 32, 27, 474, 475, 476, 477, 478, 479, 480, 481, 482, 483, 484, 485, 486, 487, 488, 489, 490, 491, 492] (by decide +kernel) (by decide +kernel)) (goodIn_sub (fun _ h => List.mem_append_right _ h) (by decide +kernel))
set_option maxRecDepth 20000 in
theorem gL_law_L_stands : GoodIn wsL_law (va_wsS RL 132 yL_stands wsL_stands) := goodIn_app (goodIn_of _ (by decide +kernel)) ggL_law_L_stands
set_option maxRecDepth 20000 in
theorem ggL_law_X1_stands : GoodIn wsL_law wsX1_stands := goodIn_r _ [366, 52, 367, 368, 369, 5, 370, 341, 342, 343, 344, 176, 80, 81, 82, 83, 84, 85, 86, 87, 493, 494, 495, 496, 497, 498, 499, 500, 501, 502, 503, 504, 505, 506, 507, 508, 509, 510, 511, 512, 513, 514] (by decide +kernel) (by decide +kernel)
set_option maxRecDepth 20000 in
theorem gL_law_X1_stands : GoodIn wsL_law (wsV RL 134 RX1 yX1_stands wsX1_stands) := goodIn_app (goodIn_of _ (by decide +kernel)) ggL_law_X1_stands
set_option maxRecDepth 20000 in
theorem ggL_law_L_waitsFor : GoodIn wsL_law wsL_waitsFor := goodIn_ca (goodIn_r _ [373, 95, 374, 375, 376, 2, 377, 333, 334, 335, 336, 104, 105, 31, 129, 130, 131, 132, 28, 133, 134, 135, 136, 32, 27, 474, 475, 476, 477, 478, 479, 480, 481, 482, 483, 484, 485, 486, 487, 488, 489, 490, 491, 492] (by decide +kernel) (by decide +kernel)) (goodIn_sub (fun _ h => List.mem_append_right _ h) (by decide +kernel))
set_option maxRecDepth 20000 in
theorem gL_law_L_waitsFor : GoodIn wsL_law (va_wsS RL 135 yL_waitsFor wsL_waitsFor) := goodIn_app (goodIn_of _ (by decide +kernel)) ggL_law_L_waitsFor
set_option maxRecDepth 20000 in
theorem ggL_law_X1_waitsFor : GoodIn wsL_law wsX1_waitsFor := goodIn_r _ [381, 53, 367, 368, 369, 5, 370, 341, 342, 343, 344, 176, 80, 81, 82, 83, 84, 85, 86, 87, 493, 494, 495, 496, 497, 498, 499, 500, 501, 502, 503, 504, 505, 506, 507, 508, 509, 510, 511, 512, 513, 514] (by decide +kernel) (by decide +kernel)
set_option maxRecDepth 20000 in
theorem gL_law_X1_waitsFor : GoodIn wsL_law (wsV RL 137 RX1 yX1_waitsFor wsX1_waitsFor) := goodIn_app (goodIn_of _ (by decide +kernel)) ggL_law_X1_waitsFor
set_option maxRecDepth 20000 in
theorem ggL_law_L_deliveredTo : GoodIn wsL_law wsL_deliveredTo := goodIn_ca (goodIn_r _ [384, 95, 385, 386, 387, 2, 388, 29, 333, 334, 335, 336, 104, 105, 31, 474, 475, 476, 477, 478, 479, 480, 481, 482, 483, 484, 485, 486, 487, 488, 489, 490, 491, 492] (by decide +kernel) (by decide +kernel)) (goodIn_sub (fun _ h => List.mem_append_right _ h) (by decide +kernel))
set_option maxRecDepth 20000 in
theorem gL_law_L_deliveredTo : GoodIn wsL_law (va_wsS RL 138 yL_deliveredTo wsL_deliveredTo) := goodIn_app (goodIn_of _ (by decide +kernel)) ggL_law_L_deliveredTo
set_option maxRecDepth 20000 in
theorem ggL_law_X1_deliveredTo : GoodIn wsL_law wsX1_deliveredTo := goodIn_r _ [392, 54, 367, 368, 369, 5, 370, 341, 342, 343, 344, 176, 80, 81, 82, 83, 84, 85, 86, 87, 493, 494, 495, 496, 497, 498, 499, 500, 501, 502, 503, 504, 505, 506, 507, 508, 509, 510, 511, 512, 513, 514] (by decide +kernel) (by decide +kernel)
set_option maxRecDepth 20000 in
theorem gL_law_X1_deliveredTo : GoodIn wsL_law (wsV RL 140 RX1 yX1_deliveredTo wsX1_deliveredTo) := goodIn_app (goodIn_of _ (by decide +kernel)) ggL_law_X1_deliveredTo
set_option maxRecDepth 20000 in
theorem ggL_law_L_standing : GoodIn wsL_law wsL_standing := goodIn_ca (goodIn_r _ [395, 59, 396, 397, 398, 2, 399, 30, 67, 68, 69, 70, 71, 284, 285, 286, 133, 134, 135, 136, 32, 27, 474, 475, 476, 477, 478, 479, 480, 481, 482, 483, 484, 485, 486, 487, 488, 489, 490, 491, 492] (by decide +kernel) (by decide +kernel)) (goodIn_sub (fun _ h => List.mem_append_left _ (List.mem_append_right _ h)) (by decide +kernel))
set_option maxRecDepth 20000 in
theorem gL_law_L_standing : GoodIn wsL_law (va_wsS RL 141 yL_standing wsL_standing) := goodIn_app (goodIn_of _ (by decide +kernel)) ggL_law_L_standing
set_option maxRecDepth 20000 in
theorem ggL_law_X1_standing : GoodIn wsL_law wsX1_standing := goodIn_r _ [403, 80, 81, 5, 82, 83, 84, 85, 86, 87, 299, 300, 301, 302, 176, 50, 51, 52, 493, 494, 495, 496, 497, 498, 499, 500, 501, 502, 503, 504, 505, 506, 507, 508, 509, 510, 511, 512, 513, 514] (by decide +kernel) (by decide +kernel)
set_option maxRecDepth 20000 in
theorem gL_law_X1_standing : GoodIn wsL_law (wsV RL 143 RX1 yX1_standing wsX1_standing) := goodIn_app (goodIn_of _ (by decide +kernel)) ggL_law_X1_standing
set_option maxRecDepth 20000 in
theorem ggL_law_L_badge : GoodIn wsL_law wsL_badge := goodIn_ca (goodIn_r _ [406, 95, 407, 408, 409, 2, 410, 31, 29, 100, 101, 102, 103, 104, 105, 24, 141, 142, 143, 72, 73, 74, 133, 134, 135, 136, 32, 27, 474, 475, 476, 477, 478, 479, 480, 481, 482, 483, 484, 485, 486, 487, 488, 489, 490, 491, 492] (by decide +kernel) (by decide +kernel)) (goodIn_sub (fun _ h => List.mem_append_right _ h) (by decide +kernel))
set_option maxRecDepth 20000 in
theorem gL_law_L_badge : GoodIn wsL_law (va_wsS RL 144 yL_badge wsL_badge) := goodIn_app (goodIn_of _ (by decide +kernel)) ggL_law_L_badge
set_option maxRecDepth 20000 in
theorem ggL_law_X1_badge : GoodIn wsL_law wsX1_badge := goodIn_r _ [414, 176, 52, 54, 167, 168, 169, 5, 170, 79, 80, 81, 82, 83, 84, 85, 86, 87, 493, 494, 495, 496, 497, 498, 499, 500, 501, 502, 503, 504, 505, 506, 507, 508, 509, 510, 511, 512, 513, 514] (by decide +kernel) (by decide +kernel)
set_option maxRecDepth 20000 in
theorem gL_law_X1_badge : GoodIn wsL_law (wsV RL 146 RX1 yX1_badge wsX1_badge) := goodIn_app (goodIn_of _ (by decide +kernel)) ggL_law_X1_badge
set_option maxRecDepth 20000 in
theorem ggL_law_L_waiting : GoodIn wsL_law wsL_waiting := goodIn_ca (goodIn_r _ [417, 95, 418, 419, 420, 2, 421, 100, 101, 102, 103, 104, 105, 24, 234, 235, 236, 237, 31, 129, 130, 131, 132, 28, 133, 134, 135, 136, 32, 27, 141, 142, 143, 72, 73, 74, 474, 475, 476, 477, 478, 479, 480, 481, 482, 483, 484, 485, 486, 487, 488, 489, 490, 491, 492] (by decide +kernel) (by decide +kernel)) (goodIn_sub (fun _ h => List.mem_append_right _ h) (by decide +kernel))
set_option maxRecDepth 20000 in
theorem gL_law_L_waiting : GoodIn wsL_law (va_wsS RL 147 yL_waiting wsL_waiting) := goodIn_app (goodIn_of _ (by decide +kernel)) ggL_law_L_waiting
set_option maxRecDepth 20000 in
theorem ggL_law_X1_waiting : GoodIn wsL_law wsX1_waiting := goodIn_r _ [425, 167, 168, 169, 5, 170, 79, 80, 81, 82, 83, 84, 85, 86, 87, 242, 243, 244, 245, 176, 53, 493, 494, 495, 496, 497, 498, 499, 500, 501, 502, 503, 504, 505, 506, 507, 508, 509, 510, 511, 512, 513, 514] (by decide +kernel) (by decide +kernel)
set_option maxRecDepth 20000 in
theorem gL_law_X1_waiting : GoodIn wsL_law (wsV RL 149 RX1 yX1_waiting wsX1_waiting) := goodIn_app (goodIn_of _ (by decide +kernel)) ggL_law_X1_waiting
set_option maxRecDepth 20000 in
theorem ggL_law_L_quota : GoodIn wsL_law wsL_quota := goodIn_ca (goodIn_r _ [428, 95, 429, 430, 431, 2, 432, 100, 101, 102, 103, 104, 105, 24, 144, 145, 146, 147, 22, 32, 23, 474, 475, 476, 477, 478, 479, 480, 481, 482, 483, 484, 485, 486, 487, 488, 489, 490, 491, 492] (by decide +kernel) (by decide +kernel)) (goodIn_sub (fun _ h => List.mem_append_right _ h) (by decide +kernel))
set_option maxRecDepth 20000 in
theorem gL_law_L_quota : GoodIn wsL_law (va_wsS RL 150 yL_quota wsL_quota) := goodIn_app (goodIn_of _ (by decide +kernel)) ggL_law_L_quota
set_option maxRecDepth 20000 in
theorem ggL_law_X1_quota : GoodIn wsL_law wsX1_quota := goodIn_r _ [436, 167, 168, 169, 5, 170, 79, 80, 81, 82, 83, 84, 85, 86, 87, 182, 183, 184, 185, 46, 181, 47, 493, 494, 495, 496, 497, 498, 499, 500, 501, 502, 503, 504, 505, 506, 507, 508, 509, 510, 511, 512, 513, 514] (by decide +kernel) (by decide +kernel)
set_option maxRecDepth 20000 in
theorem gL_law_X1_quota : GoodIn wsL_law (wsV RL 152 RX1 yX1_quota wsX1_quota) := goodIn_app (goodIn_of _ (by decide +kernel)) ggL_law_X1_quota
set_option maxRecDepth 20000 in
theorem ggL_law_L_pass : GoodIn wsL_law wsL_pass := goodIn_ca (goodIn_ca (goodIn_r _ [439, 59, 60, 440, 441, 442, 2, 443, 65, 66, 32, 444, 445, 446, 447, 448, 67, 68, 69, 70, 71, 449, 450, 451, 452, 24, 21, 117, 118, 119, 120, 20, 121, 122, 123, 124, 19, 125, 126, 127, 128, 109, 110, 111, 112, 33, 31, 26, 113, 114, 115, 116, 17, 18, 106, 107, 108, 72, 73, 74, 129, 130, 131, 132, 28, 133, 134, 135, 136, 27, 137, 138, 139, 140, 141, 142, 143, 144, 145, 146, 147, 22, 23, 148, 149, 150, 151, 29, 152, 153, 154, 155, 156, 157, 158, 159, 160, 161, 162, 474, 475, 476, 477, 478, 479, 480, 481, 482, 483, 484, 485, 486, 487, 488, 489, 490, 491, 492] (by decide +kernel) (by decide +kernel)) (goodIn_sub (fun _ h => List.mem_append_left _ (List.mem_append_left _ (List.mem_append_right _ h))) (by decide +kernel))) (goodIn_sub (fun _ h => List.mem_append_left _ (List.mem_append_right _ h)) (by decide +kernel))
set_option maxRecDepth 20000 in
theorem gL_law_L_pass : GoodIn wsL_law (va_wsS RL 153 yL_pass wsL_pass) := goodIn_app (goodIn_of _ (by decide +kernel)) ggL_law_L_pass
set_option maxRecDepth 20000 in
theorem ggL_law_X1_pass : GoodIn wsL_law wsX1_pass := goodIn_r _ [456, 181, 457, 176, 52, 49, 80, 81, 5, 82, 83, 84, 85, 86, 87, 303, 304, 305, 306, 53, 171, 172, 173, 174, 175, 79, 177, 178, 179, 180, 40, 48, 41, 182, 183, 184, 185, 46, 47, 186, 187, 188, 189, 39, 43, 44, 190, 191, 192, 193, 54, 493, 494, 495, 496, 497, 498, 499, 500, 501, 502, 503, 504, 505, 506, 507, 508, 509, 510, 511, 512, 513, 514] (by decide +kernel) (by decide +kernel)
set_option maxRecDepth 20000 in
theorem gL_law_X1_pass : GoodIn wsL_law (wsV RL 155 RX1 yX1_pass wsX1_pass) := goodIn_app (goodIn_of _ (by decide +kernel)) ggL_law_X1_pass
set_option maxRecDepth 20000 in
theorem ggL_law_X0_clock : GoodIn wsL_law wsX0_clock := goodIn_r _ [461, 32, 474, 475, 476, 477, 478, 479, 480, 481, 482, 483, 484, 485, 486, 487, 488, 489, 490, 491, 492] (by decide +kernel) (by decide +kernel)
set_option maxRecDepth 20000 in
theorem gL_law_X0_clock : GoodIn wsL_law (wsV RL 156 RX0 yX0_clock wsX0_clock) := goodIn_app (goodIn_of _ (by decide +kernel)) ggL_law_X0_clock
set_option maxRecDepth 20000 in
theorem ggL_law_X1_clock : GoodIn wsL_law wsX1_clock := goodIn_r _ [465, 181, 254, 255, 256, 5, 257, 87, 493, 494, 495, 496, 497, 498, 499, 500, 501, 502, 503, 504, 505, 506, 507, 508, 509, 510, 511, 512, 513, 514] (by decide +kernel) (by decide +kernel)
set_option maxRecDepth 20000 in
theorem gL_law_X1_clock : GoodIn wsL_law (wsV RL 159 RX1 yX1_clock wsX1_clock) := goodIn_app (goodIn_of _ (by decide +kernel)) ggL_law_X1_clock
set_option maxRecDepth 20000 in
theorem ggL_law_X0_deliveries : GoodIn wsL_law wsX0_deliveries := goodIn_r _ [469, 33, 474, 475, 476, 477, 478, 479, 480, 481, 482, 483, 484, 485, 486, 487, 488, 489, 490, 491, 492] (by decide +kernel) (by decide +kernel)
set_option maxRecDepth 20000 in
theorem gL_law_X0_deliveries : GoodIn wsL_law (wsV RL 160 RX0 yX0_deliveries wsX0_deliveries) := goodIn_app (goodIn_of _ (by decide +kernel)) ggL_law_X0_deliveries
set_option maxRecDepth 20000 in
theorem ggL_law_X1_deliveries : GoodIn wsL_law wsX1_deliveries := goodIn_r _ [473, 175, 254, 255, 256, 5, 257, 87, 493, 494, 495, 496, 497, 498, 499, 500, 501, 502, 503, 504, 505, 506, 507, 508, 509, 510, 511, 512, 513, 514] (by decide +kernel) (by decide +kernel)
set_option maxRecDepth 20000 in
theorem gL_law_X1_deliveries : GoodIn wsL_law (wsV RL 163 RX1 yX1_deliveries wsX1_deliveries) := goodIn_app (goodIn_of _ (by decide +kernel)) ggL_law_X1_deliveries
theorem dL_law_0 : decode cL_law 0 = .ok (.new 8, 3) := by decide +kernel
theorem dL_law_3 : decode cL_law 3 = .ok (.dup, 1) := by decide +kernel
theorem dL_law_4 : decode cL_law 4 = .ok (.invokespecial 77, 3) := by decide +kernel
theorem dL_law_7 : decode cL_law 7 = .ok (.astore_n 1, 1) := by decide +kernel
theorem dL_law_8 : decode cL_law 8 = .ok (.new 78, 3) := by decide +kernel
theorem dL_law_11 : decode cL_law 11 = .ok (.dup, 1) := by decide +kernel
theorem dL_law_12 : decode cL_law 12 = .ok (.invokespecial 80, 3) := by decide +kernel
theorem dL_law_15 : decode cL_law 15 = .ok (.astore_n 2, 1) := by decide +kernel
theorem dL_law_16 : decode cL_law 16 = .ok (.iconst 1, 1) := by decide +kernel
theorem dL_law_17 : decode cL_law 17 = .ok (.newarray .long, 2) := by decide +kernel
theorem dL_law_19 : decode cL_law 19 = .ok (.astore_n 3, 1) := by decide +kernel
theorem dL_law_20 : decode cL_law 20 = .ok (.iconst 0, 1) := by decide +kernel
theorem dL_law_21 : decode cL_law 21 = .ok (.istore 4, 2) := by decide +kernel
theorem dL_law_23 : decode cL_law 23 = .ok (.iload 4, 2) := by decide +kernel
theorem dL_law_25 : decode cL_law 25 = .ok (.aload_n 0, 1) := by decide +kernel
theorem dL_law_26 : decode cL_law 26 = .ok (.arraylength, 1) := by decide +kernel
theorem dL_law_27 : decode cL_law 27 = .ok (.bipush 6, 2) := by decide +kernel
theorem dL_law_29 : decode cL_law 29 = .ok (.isub, 1) := by decide +kernel
theorem dL_law_30 : decode cL_law 30 = .ok (.if_icmp .gt 1473, 3) := by decide +kernel
theorem dL_law_33 : decode cL_law 33 = .ok (.aload_n 0, 1) := by decide +kernel
theorem dL_law_34 : decode cL_law 34 = .ok (.iload 4, 2) := by decide +kernel
theorem dL_law_36 : decode cL_law 36 = .ok (.iaload, 1) := by decide +kernel
theorem dL_law_37 : decode cL_law 37 = .ok (.bipush 31, 2) := by decide +kernel
theorem dL_law_39 : decode cL_law 39 = .ok (.iand, 1) := by decide +kernel
theorem dL_law_40 : decode cL_law 40 = .ok (.tableswitch 1457 0 21 #[104, 172, 256, 340, 420, 523, 579, 592, 655, 763, 883, 951, 964, 1027, 1083, 1139, 1207, 1263, 1319, 1375, 1431, 1444], 104) := by decide +kernel
theorem dL_law_144 : decode cL_law 144 = .ok (.aload_n 1, 1) := by decide +kernel
theorem dL_law_145 : decode cL_law 145 = .ok (.aload_n 0, 1) := by decide +kernel
theorem dL_law_146 : decode cL_law 146 = .ok (.iload 4, 2) := by decide +kernel
theorem dL_law_148 : decode cL_law 148 = .ok (.iconst 1, 1) := by decide +kernel
theorem dL_law_149 : decode cL_law 149 = .ok (.iadd, 1) := by decide +kernel
theorem dL_law_150 : decode cL_law 150 = .ok (.iaload, 1) := by decide +kernel
theorem dL_law_151 : decode cL_law 151 = .ok (.aload_n 0, 1) := by decide +kernel
theorem dL_law_152 : decode cL_law 152 = .ok (.iload 4, 2) := by decide +kernel
theorem dL_law_154 : decode cL_law 154 = .ok (.iconst 2, 1) := by decide +kernel
theorem dL_law_155 : decode cL_law 155 = .ok (.iadd, 1) := by decide +kernel
theorem dL_law_156 : decode cL_law 156 = .ok (.iaload, 1) := by decide +kernel
theorem dL_law_157 : decode cL_law 157 = .ok (.aload_n 3, 1) := by decide +kernel
theorem dL_law_158 : decode cL_law 158 = .ok (.invokestatic 81, 3) := by decide +kernel
theorem dL_law_161 : decode cL_law 161 = .ok (.istore 5, 2) := by decide +kernel
theorem dL_law_163 : decode cL_law 163 = .ok (.aload_n 2, 1) := by decide +kernel
theorem dL_law_164 : decode cL_law 164 = .ok (.aload_n 0, 1) := by decide +kernel
theorem dL_law_165 : decode cL_law 165 = .ok (.iload 4, 2) := by decide +kernel
theorem dL_law_167 : decode cL_law 167 = .ok (.iconst 1, 1) := by decide +kernel
theorem dL_law_168 : decode cL_law 168 = .ok (.iadd, 1) := by decide +kernel
theorem dL_law_169 : decode cL_law 169 = .ok (.iaload, 1) := by decide +kernel
theorem dL_law_170 : decode cL_law 170 = .ok (.aload_n 0, 1) := by decide +kernel
theorem dL_law_171 : decode cL_law 171 = .ok (.iload 4, 2) := by decide +kernel
theorem dL_law_173 : decode cL_law 173 = .ok (.iconst 2, 1) := by decide +kernel
theorem dL_law_174 : decode cL_law 174 = .ok (.iadd, 1) := by decide +kernel
theorem dL_law_175 : decode cL_law 175 = .ok (.iaload, 1) := by decide +kernel
theorem dL_law_176 : decode cL_law 176 = .ok (.invokevirtual 86, 3) := by decide +kernel
theorem dL_law_179 : decode cL_law 179 = .ok (.istore 6, 2) := by decide +kernel
theorem dL_law_181 : decode cL_law 181 = .ok (.aload_n 2, 1) := by decide +kernel
theorem dL_law_182 : decode cL_law 182 = .ok (.invokevirtual 87, 3) := by decide +kernel
theorem dL_law_185 : decode cL_law 185 = .ok (.iload 5, 2) := by decide +kernel
theorem dL_law_187 : decode cL_law 187 = .ok (.if_icmp .eq 5, 3) := by decide +kernel
theorem dL_law_190 : decode cL_law 190 = .ok (.iconst 0, 1) := by decide +kernel
theorem dL_law_191 : decode cL_law 191 = .ok (.ireturn, 1) := by decide +kernel
theorem dL_law_192 : decode cL_law 192 = .ok (.iload 5, 2) := by decide +kernel
theorem dL_law_194 : decode cL_law 194 = .ok (.ifCond .ne 15, 3) := by decide +kernel
theorem dL_law_197 : decode cL_law 197 = .ok (.aload_n 3, 1) := by decide +kernel
theorem dL_law_198 : decode cL_law 198 = .ok (.iconst 0, 1) := by decide +kernel
theorem dL_law_199 : decode cL_law 199 = .ok (.laload, 1) := by decide +kernel
theorem dL_law_200 : decode cL_law 200 = .ok (.iload 6, 2) := by decide +kernel
theorem dL_law_202 : decode cL_law 202 = .ok (.i2l, 1) := by decide +kernel
theorem dL_law_203 : decode cL_law 203 = .ok (.lcmp, 1) := by decide +kernel
theorem dL_law_204 : decode cL_law 204 = .ok (.ifCond .eq 5, 3) := by decide +kernel
theorem dL_law_207 : decode cL_law 207 = .ok (.iconst 0, 1) := by decide +kernel
theorem dL_law_208 : decode cL_law 208 = .ok (.ireturn, 1) := by decide +kernel
theorem dL_law_209 : decode cL_law 209 = .ok (.goto 1288, 3) := by decide +kernel
theorem dL_law_212 : decode cL_law 212 = .ok (.aload_n 1, 1) := by decide +kernel
theorem dL_law_213 : decode cL_law 213 = .ok (.aload_n 0, 1) := by decide +kernel
theorem dL_law_214 : decode cL_law 214 = .ok (.iload 4, 2) := by decide +kernel
theorem dL_law_216 : decode cL_law 216 = .ok (.iconst 1, 1) := by decide +kernel
theorem dL_law_217 : decode cL_law 217 = .ok (.iadd, 1) := by decide +kernel
theorem dL_law_218 : decode cL_law 218 = .ok (.iaload, 1) := by decide +kernel
theorem dL_law_219 : decode cL_law 219 = .ok (.aload_n 0, 1) := by decide +kernel
theorem dL_law_220 : decode cL_law 220 = .ok (.iload 4, 2) := by decide +kernel
theorem dL_law_222 : decode cL_law 222 = .ok (.iconst 2, 1) := by decide +kernel
theorem dL_law_223 : decode cL_law 223 = .ok (.iadd, 1) := by decide +kernel
theorem dL_law_224 : decode cL_law 224 = .ok (.iaload, 1) := by decide +kernel
theorem dL_law_225 : decode cL_law 225 = .ok (.ifCond .eq 7, 3) := by decide +kernel
theorem dL_law_228 : decode cL_law 228 = .ok (.iconst 1, 1) := by decide +kernel
theorem dL_law_229 : decode cL_law 229 = .ok (.goto 4, 3) := by decide +kernel
theorem dL_law_232 : decode cL_law 232 = .ok (.iconst 0, 1) := by decide +kernel
theorem dL_law_233 : decode cL_law 233 = .ok (.aload_n 3, 1) := by decide +kernel
theorem dL_law_234 : decode cL_law 234 = .ok (.invokestatic 91, 3) := by decide +kernel
theorem dL_law_237 : decode cL_law 237 = .ok (.istore 5, 2) := by decide +kernel
theorem dL_law_239 : decode cL_law 239 = .ok (.aload_n 2, 1) := by decide +kernel
theorem dL_law_240 : decode cL_law 240 = .ok (.aload_n 0, 1) := by decide +kernel
theorem dL_law_241 : decode cL_law 241 = .ok (.iload 4, 2) := by decide +kernel
theorem dL_law_243 : decode cL_law 243 = .ok (.iconst 1, 1) := by decide +kernel
theorem dL_law_244 : decode cL_law 244 = .ok (.iadd, 1) := by decide +kernel
theorem dL_law_245 : decode cL_law 245 = .ok (.iaload, 1) := by decide +kernel
theorem dL_law_246 : decode cL_law 246 = .ok (.aload_n 0, 1) := by decide +kernel
theorem dL_law_247 : decode cL_law 247 = .ok (.iload 4, 2) := by decide +kernel
theorem dL_law_249 : decode cL_law 249 = .ok (.iconst 2, 1) := by decide +kernel
theorem dL_law_250 : decode cL_law 250 = .ok (.iadd, 1) := by decide +kernel
theorem dL_law_251 : decode cL_law 251 = .ok (.iaload, 1) := by decide +kernel
theorem dL_law_252 : decode cL_law 252 = .ok (.ifCond .eq 7, 3) := by decide +kernel
theorem dL_law_255 : decode cL_law 255 = .ok (.iconst 1, 1) := by decide +kernel
theorem dL_law_256 : decode cL_law 256 = .ok (.goto 4, 3) := by decide +kernel
theorem dL_law_259 : decode cL_law 259 = .ok (.iconst 0, 1) := by decide +kernel
theorem dL_law_260 : decode cL_law 260 = .ok (.invokevirtual 94, 3) := by decide +kernel
theorem dL_law_263 : decode cL_law 263 = .ok (.istore 6, 2) := by decide +kernel
theorem dL_law_265 : decode cL_law 265 = .ok (.aload_n 2, 1) := by decide +kernel
theorem dL_law_266 : decode cL_law 266 = .ok (.invokevirtual 87, 3) := by decide +kernel
theorem dL_law_269 : decode cL_law 269 = .ok (.iload 5, 2) := by decide +kernel
theorem dL_law_271 : decode cL_law 271 = .ok (.if_icmp .eq 5, 3) := by decide +kernel
theorem dL_law_274 : decode cL_law 274 = .ok (.iconst 0, 1) := by decide +kernel
theorem dL_law_275 : decode cL_law 275 = .ok (.ireturn, 1) := by decide +kernel
theorem dL_law_276 : decode cL_law 276 = .ok (.iload 5, 2) := by decide +kernel
theorem dL_law_278 : decode cL_law 278 = .ok (.ifCond .ne 15, 3) := by decide +kernel
theorem dL_law_281 : decode cL_law 281 = .ok (.aload_n 3, 1) := by decide +kernel
theorem dL_law_282 : decode cL_law 282 = .ok (.iconst 0, 1) := by decide +kernel
theorem dL_law_283 : decode cL_law 283 = .ok (.laload, 1) := by decide +kernel
theorem dL_law_284 : decode cL_law 284 = .ok (.iload 6, 2) := by decide +kernel
theorem dL_law_286 : decode cL_law 286 = .ok (.i2l, 1) := by decide +kernel
theorem dL_law_287 : decode cL_law 287 = .ok (.lcmp, 1) := by decide +kernel
theorem dL_law_288 : decode cL_law 288 = .ok (.ifCond .eq 5, 3) := by decide +kernel
theorem dL_law_291 : decode cL_law 291 = .ok (.iconst 0, 1) := by decide +kernel
theorem dL_law_292 : decode cL_law 292 = .ok (.ireturn, 1) := by decide +kernel
theorem dL_law_293 : decode cL_law 293 = .ok (.goto 1204, 3) := by decide +kernel
theorem dL_law_296 : decode cL_law 296 = .ok (.aload_n 1, 1) := by decide +kernel
theorem dL_law_297 : decode cL_law 297 = .ok (.aload_n 0, 1) := by decide +kernel
theorem dL_law_298 : decode cL_law 298 = .ok (.iload 4, 2) := by decide +kernel
theorem dL_law_300 : decode cL_law 300 = .ok (.iconst 1, 1) := by decide +kernel
theorem dL_law_301 : decode cL_law 301 = .ok (.iadd, 1) := by decide +kernel
theorem dL_law_302 : decode cL_law 302 = .ok (.iaload, 1) := by decide +kernel
theorem dL_law_303 : decode cL_law 303 = .ok (.aload_n 0, 1) := by decide +kernel
theorem dL_law_304 : decode cL_law 304 = .ok (.iload 4, 2) := by decide +kernel
theorem dL_law_306 : decode cL_law 306 = .ok (.iconst 2, 1) := by decide +kernel
theorem dL_law_307 : decode cL_law 307 = .ok (.iadd, 1) := by decide +kernel
theorem dL_law_308 : decode cL_law 308 = .ok (.iaload, 1) := by decide +kernel
theorem dL_law_309 : decode cL_law 309 = .ok (.ifCond .eq 7, 3) := by decide +kernel
theorem dL_law_312 : decode cL_law 312 = .ok (.iconst 1, 1) := by decide +kernel
theorem dL_law_313 : decode cL_law 313 = .ok (.goto 4, 3) := by decide +kernel
theorem dL_law_316 : decode cL_law 316 = .ok (.iconst 0, 1) := by decide +kernel
theorem dL_law_317 : decode cL_law 317 = .ok (.aload_n 3, 1) := by decide +kernel
theorem dL_law_318 : decode cL_law 318 = .ok (.invokestatic 95, 3) := by decide +kernel
theorem dL_law_321 : decode cL_law 321 = .ok (.istore 5, 2) := by decide +kernel
theorem dL_law_323 : decode cL_law 323 = .ok (.aload_n 2, 1) := by decide +kernel
theorem dL_law_324 : decode cL_law 324 = .ok (.aload_n 0, 1) := by decide +kernel
theorem dL_law_325 : decode cL_law 325 = .ok (.iload 4, 2) := by decide +kernel
theorem dL_law_327 : decode cL_law 327 = .ok (.iconst 1, 1) := by decide +kernel
theorem dL_law_328 : decode cL_law 328 = .ok (.iadd, 1) := by decide +kernel
theorem dL_law_329 : decode cL_law 329 = .ok (.iaload, 1) := by decide +kernel
theorem dL_law_330 : decode cL_law 330 = .ok (.aload_n 0, 1) := by decide +kernel
theorem dL_law_331 : decode cL_law 331 = .ok (.iload 4, 2) := by decide +kernel
theorem dL_law_333 : decode cL_law 333 = .ok (.iconst 2, 1) := by decide +kernel
theorem dL_law_334 : decode cL_law 334 = .ok (.iadd, 1) := by decide +kernel
theorem dL_law_335 : decode cL_law 335 = .ok (.iaload, 1) := by decide +kernel
theorem dL_law_336 : decode cL_law 336 = .ok (.ifCond .eq 7, 3) := by decide +kernel
theorem dL_law_339 : decode cL_law 339 = .ok (.iconst 1, 1) := by decide +kernel
theorem dL_law_340 : decode cL_law 340 = .ok (.goto 4, 3) := by decide +kernel
theorem dL_law_343 : decode cL_law 343 = .ok (.iconst 0, 1) := by decide +kernel
theorem dL_law_344 : decode cL_law 344 = .ok (.invokevirtual 97, 3) := by decide +kernel
theorem dL_law_347 : decode cL_law 347 = .ok (.istore 6, 2) := by decide +kernel
theorem dL_law_349 : decode cL_law 349 = .ok (.aload_n 2, 1) := by decide +kernel
theorem dL_law_350 : decode cL_law 350 = .ok (.invokevirtual 87, 3) := by decide +kernel
theorem dL_law_353 : decode cL_law 353 = .ok (.iload 5, 2) := by decide +kernel
theorem dL_law_355 : decode cL_law 355 = .ok (.if_icmp .eq 5, 3) := by decide +kernel
theorem dL_law_358 : decode cL_law 358 = .ok (.iconst 0, 1) := by decide +kernel
theorem dL_law_359 : decode cL_law 359 = .ok (.ireturn, 1) := by decide +kernel
theorem dL_law_360 : decode cL_law 360 = .ok (.iload 5, 2) := by decide +kernel
theorem dL_law_362 : decode cL_law 362 = .ok (.ifCond .ne 15, 3) := by decide +kernel
theorem dL_law_365 : decode cL_law 365 = .ok (.aload_n 3, 1) := by decide +kernel
theorem dL_law_366 : decode cL_law 366 = .ok (.iconst 0, 1) := by decide +kernel
theorem dL_law_367 : decode cL_law 367 = .ok (.laload, 1) := by decide +kernel
theorem dL_law_368 : decode cL_law 368 = .ok (.iload 6, 2) := by decide +kernel
theorem dL_law_370 : decode cL_law 370 = .ok (.i2l, 1) := by decide +kernel
theorem dL_law_371 : decode cL_law 371 = .ok (.lcmp, 1) := by decide +kernel
theorem dL_law_372 : decode cL_law 372 = .ok (.ifCond .eq 5, 3) := by decide +kernel
theorem dL_law_375 : decode cL_law 375 = .ok (.iconst 0, 1) := by decide +kernel
theorem dL_law_376 : decode cL_law 376 = .ok (.ireturn, 1) := by decide +kernel
theorem dL_law_377 : decode cL_law 377 = .ok (.goto 1120, 3) := by decide +kernel
theorem dL_law_380 : decode cL_law 380 = .ok (.aload_n 1, 1) := by decide +kernel
theorem dL_law_381 : decode cL_law 381 = .ok (.aload_n 0, 1) := by decide +kernel
theorem dL_law_382 : decode cL_law 382 = .ok (.iload 4, 2) := by decide +kernel
theorem dL_law_384 : decode cL_law 384 = .ok (.iconst 1, 1) := by decide +kernel
theorem dL_law_385 : decode cL_law 385 = .ok (.iadd, 1) := by decide +kernel
theorem dL_law_386 : decode cL_law 386 = .ok (.iaload, 1) := by decide +kernel
theorem dL_law_387 : decode cL_law 387 = .ok (.aload_n 0, 1) := by decide +kernel
theorem dL_law_388 : decode cL_law 388 = .ok (.iload 4, 2) := by decide +kernel
theorem dL_law_390 : decode cL_law 390 = .ok (.iconst 2, 1) := by decide +kernel
theorem dL_law_391 : decode cL_law 391 = .ok (.iadd, 1) := by decide +kernel
theorem dL_law_392 : decode cL_law 392 = .ok (.iaload, 1) := by decide +kernel
theorem dL_law_393 : decode cL_law 393 = .ok (.aload_n 0, 1) := by decide +kernel
theorem dL_law_394 : decode cL_law 394 = .ok (.iload 4, 2) := by decide +kernel
theorem dL_law_396 : decode cL_law 396 = .ok (.iconst 3, 1) := by decide +kernel
theorem dL_law_397 : decode cL_law 397 = .ok (.iadd, 1) := by decide +kernel
theorem dL_law_398 : decode cL_law 398 = .ok (.iaload, 1) := by decide +kernel
theorem dL_law_399 : decode cL_law 399 = .ok (.aload_n 3, 1) := by decide +kernel
theorem dL_law_400 : decode cL_law 400 = .ok (.invokestatic 98, 3) := by decide +kernel
theorem dL_law_403 : decode cL_law 403 = .ok (.istore 5, 2) := by decide +kernel
theorem dL_law_405 : decode cL_law 405 = .ok (.aload_n 2, 1) := by decide +kernel
theorem dL_law_406 : decode cL_law 406 = .ok (.aload_n 0, 1) := by decide +kernel
theorem dL_law_407 : decode cL_law 407 = .ok (.iload 4, 2) := by decide +kernel
theorem dL_law_409 : decode cL_law 409 = .ok (.iconst 1, 1) := by decide +kernel
theorem dL_law_410 : decode cL_law 410 = .ok (.iadd, 1) := by decide +kernel
theorem dL_law_411 : decode cL_law 411 = .ok (.iaload, 1) := by decide +kernel
theorem dL_law_412 : decode cL_law 412 = .ok (.aload_n 0, 1) := by decide +kernel
theorem dL_law_413 : decode cL_law 413 = .ok (.iload 4, 2) := by decide +kernel
theorem dL_law_415 : decode cL_law 415 = .ok (.iconst 2, 1) := by decide +kernel
theorem dL_law_416 : decode cL_law 416 = .ok (.iadd, 1) := by decide +kernel
theorem dL_law_417 : decode cL_law 417 = .ok (.iaload, 1) := by decide +kernel
theorem dL_law_418 : decode cL_law 418 = .ok (.aload_n 0, 1) := by decide +kernel
theorem dL_law_419 : decode cL_law 419 = .ok (.iload 4, 2) := by decide +kernel
theorem dL_law_421 : decode cL_law 421 = .ok (.iconst 3, 1) := by decide +kernel
theorem dL_law_422 : decode cL_law 422 = .ok (.iadd, 1) := by decide +kernel
theorem dL_law_423 : decode cL_law 423 = .ok (.iaload, 1) := by decide +kernel
theorem dL_law_424 : decode cL_law 424 = .ok (.invokevirtual 101, 3) := by decide +kernel
theorem dL_law_427 : decode cL_law 427 = .ok (.istore 6, 2) := by decide +kernel
theorem dL_law_429 : decode cL_law 429 = .ok (.aload_n 2, 1) := by decide +kernel
theorem dL_law_430 : decode cL_law 430 = .ok (.invokevirtual 87, 3) := by decide +kernel
theorem dL_law_433 : decode cL_law 433 = .ok (.iload 5, 2) := by decide +kernel
theorem dL_law_435 : decode cL_law 435 = .ok (.if_icmp .eq 5, 3) := by decide +kernel
theorem dL_law_438 : decode cL_law 438 = .ok (.iconst 0, 1) := by decide +kernel
theorem dL_law_439 : decode cL_law 439 = .ok (.ireturn, 1) := by decide +kernel
theorem dL_law_440 : decode cL_law 440 = .ok (.iload 5, 2) := by decide +kernel
theorem dL_law_442 : decode cL_law 442 = .ok (.ifCond .ne 15, 3) := by decide +kernel
theorem dL_law_445 : decode cL_law 445 = .ok (.aload_n 3, 1) := by decide +kernel
theorem dL_law_446 : decode cL_law 446 = .ok (.iconst 0, 1) := by decide +kernel
theorem dL_law_447 : decode cL_law 447 = .ok (.laload, 1) := by decide +kernel
theorem dL_law_448 : decode cL_law 448 = .ok (.iload 6, 2) := by decide +kernel
theorem dL_law_450 : decode cL_law 450 = .ok (.i2l, 1) := by decide +kernel
theorem dL_law_451 : decode cL_law 451 = .ok (.lcmp, 1) := by decide +kernel
theorem dL_law_452 : decode cL_law 452 = .ok (.ifCond .eq 5, 3) := by decide +kernel
theorem dL_law_455 : decode cL_law 455 = .ok (.iconst 0, 1) := by decide +kernel
theorem dL_law_456 : decode cL_law 456 = .ok (.ireturn, 1) := by decide +kernel
theorem dL_law_457 : decode cL_law 457 = .ok (.goto 1040, 3) := by decide +kernel
theorem dL_law_460 : decode cL_law 460 = .ok (.aload_n 1, 1) := by decide +kernel
theorem dL_law_461 : decode cL_law 461 = .ok (.aload_n 0, 1) := by decide +kernel
theorem dL_law_462 : decode cL_law 462 = .ok (.iload 4, 2) := by decide +kernel
theorem dL_law_464 : decode cL_law 464 = .ok (.iconst 1, 1) := by decide +kernel
theorem dL_law_465 : decode cL_law 465 = .ok (.iadd, 1) := by decide +kernel
theorem dL_law_466 : decode cL_law 466 = .ok (.iaload, 1) := by decide +kernel
theorem dL_law_467 : decode cL_law 467 = .ok (.aload_n 0, 1) := by decide +kernel
theorem dL_law_468 : decode cL_law 468 = .ok (.iload 4, 2) := by decide +kernel
theorem dL_law_470 : decode cL_law 470 = .ok (.iconst 2, 1) := by decide +kernel
theorem dL_law_471 : decode cL_law 471 = .ok (.iadd, 1) := by decide +kernel
theorem dL_law_472 : decode cL_law 472 = .ok (.iaload, 1) := by decide +kernel
theorem dL_law_473 : decode cL_law 473 = .ok (.aload_n 0, 1) := by decide +kernel
theorem dL_law_474 : decode cL_law 474 = .ok (.iload 4, 2) := by decide +kernel
theorem dL_law_476 : decode cL_law 476 = .ok (.iconst 3, 1) := by decide +kernel
theorem dL_law_477 : decode cL_law 477 = .ok (.iadd, 1) := by decide +kernel
theorem dL_law_478 : decode cL_law 478 = .ok (.iaload, 1) := by decide +kernel
theorem dL_law_479 : decode cL_law 479 = .ok (.ifCond .eq 7, 3) := by decide +kernel
theorem dL_law_482 : decode cL_law 482 = .ok (.iconst 1, 1) := by decide +kernel
theorem dL_law_483 : decode cL_law 483 = .ok (.goto 4, 3) := by decide +kernel
theorem dL_law_486 : decode cL_law 486 = .ok (.iconst 0, 1) := by decide +kernel
theorem dL_law_487 : decode cL_law 487 = .ok (.aload_n 3, 1) := by decide +kernel
theorem dL_law_488 : decode cL_law 488 = .ok (.invokestatic 102, 3) := by decide +kernel
theorem dL_law_491 : decode cL_law 491 = .ok (.istore 5, 2) := by decide +kernel
theorem dL_law_493 : decode cL_law 493 = .ok (.aload_n 2, 1) := by decide +kernel
theorem dL_law_494 : decode cL_law 494 = .ok (.aload_n 0, 1) := by decide +kernel
theorem dL_law_495 : decode cL_law 495 = .ok (.iload 4, 2) := by decide +kernel
theorem dL_law_497 : decode cL_law 497 = .ok (.iconst 1, 1) := by decide +kernel
theorem dL_law_498 : decode cL_law 498 = .ok (.iadd, 1) := by decide +kernel
theorem dL_law_499 : decode cL_law 499 = .ok (.iaload, 1) := by decide +kernel
theorem dL_law_500 : decode cL_law 500 = .ok (.aload_n 0, 1) := by decide +kernel
theorem dL_law_501 : decode cL_law 501 = .ok (.iload 4, 2) := by decide +kernel
theorem dL_law_503 : decode cL_law 503 = .ok (.iconst 2, 1) := by decide +kernel
theorem dL_law_504 : decode cL_law 504 = .ok (.iadd, 1) := by decide +kernel
theorem dL_law_505 : decode cL_law 505 = .ok (.iaload, 1) := by decide +kernel
theorem dL_law_506 : decode cL_law 506 = .ok (.aload_n 0, 1) := by decide +kernel
theorem dL_law_507 : decode cL_law 507 = .ok (.iload 4, 2) := by decide +kernel
theorem dL_law_509 : decode cL_law 509 = .ok (.iconst 3, 1) := by decide +kernel
theorem dL_law_510 : decode cL_law 510 = .ok (.iadd, 1) := by decide +kernel
theorem dL_law_511 : decode cL_law 511 = .ok (.iaload, 1) := by decide +kernel
theorem dL_law_512 : decode cL_law 512 = .ok (.ifCond .eq 7, 3) := by decide +kernel
theorem dL_law_515 : decode cL_law 515 = .ok (.iconst 1, 1) := by decide +kernel
theorem dL_law_516 : decode cL_law 516 = .ok (.goto 4, 3) := by decide +kernel
theorem dL_law_519 : decode cL_law 519 = .ok (.iconst 0, 1) := by decide +kernel
theorem dL_law_520 : decode cL_law 520 = .ok (.invokevirtual 105, 3) := by decide +kernel
theorem dL_law_523 : decode cL_law 523 = .ok (.istore 6, 2) := by decide +kernel
theorem dL_law_525 : decode cL_law 525 = .ok (.aload_n 2, 1) := by decide +kernel
theorem dL_law_526 : decode cL_law 526 = .ok (.invokevirtual 87, 3) := by decide +kernel
theorem dL_law_529 : decode cL_law 529 = .ok (.iload 5, 2) := by decide +kernel
theorem dL_law_531 : decode cL_law 531 = .ok (.if_icmp .eq 5, 3) := by decide +kernel
theorem dL_law_534 : decode cL_law 534 = .ok (.iconst 0, 1) := by decide +kernel
theorem dL_law_535 : decode cL_law 535 = .ok (.ireturn, 1) := by decide +kernel
theorem dL_law_536 : decode cL_law 536 = .ok (.iload 5, 2) := by decide +kernel
theorem dL_law_538 : decode cL_law 538 = .ok (.ifCond .ne 22, 3) := by decide +kernel
theorem dL_law_541 : decode cL_law 541 = .ok (.aload_n 3, 1) := by decide +kernel
theorem dL_law_542 : decode cL_law 542 = .ok (.iconst 0, 1) := by decide +kernel
theorem dL_law_543 : decode cL_law 543 = .ok (.laload, 1) := by decide +kernel
theorem dL_law_544 : decode cL_law 544 = .ok (.iload 6, 2) := by decide +kernel
theorem dL_law_546 : decode cL_law 546 = .ok (.ifCond .eq 7, 3) := by decide +kernel
theorem dL_law_549 : decode cL_law 549 = .ok (.lconst 1, 1) := by decide +kernel
theorem dL_law_550 : decode cL_law 550 = .ok (.goto 4, 3) := by decide +kernel
theorem dL_law_553 : decode cL_law 553 = .ok (.lconst 0, 1) := by decide +kernel
theorem dL_law_554 : decode cL_law 554 = .ok (.lcmp, 1) := by decide +kernel
theorem dL_law_555 : decode cL_law 555 = .ok (.ifCond .eq 5, 3) := by decide +kernel
theorem dL_law_558 : decode cL_law 558 = .ok (.iconst 0, 1) := by decide +kernel
theorem dL_law_559 : decode cL_law 559 = .ok (.ireturn, 1) := by decide +kernel
theorem dL_law_560 : decode cL_law 560 = .ok (.goto 937, 3) := by decide +kernel
theorem dL_law_563 : decode cL_law 563 = .ok (.aload_n 1, 1) := by decide +kernel
theorem dL_law_564 : decode cL_law 564 = .ok (.aload_n 0, 1) := by decide +kernel
theorem dL_law_565 : decode cL_law 565 = .ok (.iload 4, 2) := by decide +kernel
theorem dL_law_567 : decode cL_law 567 = .ok (.iconst 1, 1) := by decide +kernel
theorem dL_law_568 : decode cL_law 568 = .ok (.iadd, 1) := by decide +kernel
theorem dL_law_569 : decode cL_law 569 = .ok (.iaload, 1) := by decide +kernel
theorem dL_law_570 : decode cL_law 570 = .ok (.aload_n 3, 1) := by decide +kernel
theorem dL_law_571 : decode cL_law 571 = .ok (.invokestatic 106, 3) := by decide +kernel
theorem dL_law_574 : decode cL_law 574 = .ok (.istore 5, 2) := by decide +kernel
theorem dL_law_576 : decode cL_law 576 = .ok (.aload_n 2, 1) := by decide +kernel
theorem dL_law_577 : decode cL_law 577 = .ok (.aload_n 0, 1) := by decide +kernel
theorem dL_law_578 : decode cL_law 578 = .ok (.iload 4, 2) := by decide +kernel
theorem dL_law_580 : decode cL_law 580 = .ok (.iconst 1, 1) := by decide +kernel
theorem dL_law_581 : decode cL_law 581 = .ok (.iadd, 1) := by decide +kernel
theorem dL_law_582 : decode cL_law 582 = .ok (.iaload, 1) := by decide +kernel
theorem dL_law_583 : decode cL_law 583 = .ok (.invokevirtual 109, 3) := by decide +kernel
theorem dL_law_586 : decode cL_law 586 = .ok (.istore 6, 2) := by decide +kernel
theorem dL_law_588 : decode cL_law 588 = .ok (.aload_n 2, 1) := by decide +kernel
theorem dL_law_589 : decode cL_law 589 = .ok (.invokevirtual 87, 3) := by decide +kernel
theorem dL_law_592 : decode cL_law 592 = .ok (.iload 5, 2) := by decide +kernel
theorem dL_law_594 : decode cL_law 594 = .ok (.if_icmp .eq 5, 3) := by decide +kernel
theorem dL_law_597 : decode cL_law 597 = .ok (.iconst 0, 1) := by decide +kernel
theorem dL_law_598 : decode cL_law 598 = .ok (.ireturn, 1) := by decide +kernel
theorem dL_law_599 : decode cL_law 599 = .ok (.iload 5, 2) := by decide +kernel
theorem dL_law_601 : decode cL_law 601 = .ok (.ifCond .ne 15, 3) := by decide +kernel
theorem dL_law_604 : decode cL_law 604 = .ok (.aload_n 3, 1) := by decide +kernel
theorem dL_law_605 : decode cL_law 605 = .ok (.iconst 0, 1) := by decide +kernel
theorem dL_law_606 : decode cL_law 606 = .ok (.laload, 1) := by decide +kernel
theorem dL_law_607 : decode cL_law 607 = .ok (.iload 6, 2) := by decide +kernel
theorem dL_law_609 : decode cL_law 609 = .ok (.i2l, 1) := by decide +kernel
theorem dL_law_610 : decode cL_law 610 = .ok (.lcmp, 1) := by decide +kernel
theorem dL_law_611 : decode cL_law 611 = .ok (.ifCond .eq 5, 3) := by decide +kernel
theorem dL_law_614 : decode cL_law 614 = .ok (.iconst 0, 1) := by decide +kernel
theorem dL_law_615 : decode cL_law 615 = .ok (.ireturn, 1) := by decide +kernel
theorem dL_law_616 : decode cL_law 616 = .ok (.goto 881, 3) := by decide +kernel
theorem dL_law_619 : decode cL_law 619 = .ok (.aload_n 1, 1) := by decide +kernel
theorem dL_law_620 : decode cL_law 620 = .ok (.invokevirtual 110, 3) := by decide +kernel
theorem dL_law_623 : decode cL_law 623 = .ok (.aload_n 2, 1) := by decide +kernel
theorem dL_law_624 : decode cL_law 624 = .ok (.invokevirtual 113, 3) := by decide +kernel
theorem dL_law_627 : decode cL_law 627 = .ok (.if_icmp .eq 870, 3) := by decide +kernel
theorem dL_law_630 : decode cL_law 630 = .ok (.iconst 0, 1) := by decide +kernel
theorem dL_law_631 : decode cL_law 631 = .ok (.ireturn, 1) := by decide +kernel
theorem dL_law_632 : decode cL_law 632 = .ok (.aload_n 1, 1) := by decide +kernel
theorem dL_law_633 : decode cL_law 633 = .ok (.aload_n 0, 1) := by decide +kernel
theorem dL_law_634 : decode cL_law 634 = .ok (.iload 4, 2) := by decide +kernel
theorem dL_law_636 : decode cL_law 636 = .ok (.iconst 1, 1) := by decide +kernel
theorem dL_law_637 : decode cL_law 637 = .ok (.iadd, 1) := by decide +kernel
theorem dL_law_638 : decode cL_law 638 = .ok (.iaload, 1) := by decide +kernel
theorem dL_law_639 : decode cL_law 639 = .ok (.aload_n 3, 1) := by decide +kernel
theorem dL_law_640 : decode cL_law 640 = .ok (.invokestatic 114, 3) := by decide +kernel
theorem dL_law_643 : decode cL_law 643 = .ok (.istore 5, 2) := by decide +kernel
theorem dL_law_645 : decode cL_law 645 = .ok (.aload_n 2, 1) := by decide +kernel
theorem dL_law_646 : decode cL_law 646 = .ok (.aload_n 0, 1) := by decide +kernel
theorem dL_law_647 : decode cL_law 647 = .ok (.iload 4, 2) := by decide +kernel
theorem dL_law_649 : decode cL_law 649 = .ok (.iconst 1, 1) := by decide +kernel
theorem dL_law_650 : decode cL_law 650 = .ok (.iadd, 1) := by decide +kernel
theorem dL_law_651 : decode cL_law 651 = .ok (.iaload, 1) := by decide +kernel
theorem dL_law_652 : decode cL_law 652 = .ok (.invokevirtual 116, 3) := by decide +kernel
theorem dL_law_655 : decode cL_law 655 = .ok (.istore 6, 2) := by decide +kernel
theorem dL_law_657 : decode cL_law 657 = .ok (.aload_n 2, 1) := by decide +kernel
theorem dL_law_658 : decode cL_law 658 = .ok (.invokevirtual 87, 3) := by decide +kernel
theorem dL_law_661 : decode cL_law 661 = .ok (.iload 5, 2) := by decide +kernel
theorem dL_law_663 : decode cL_law 663 = .ok (.if_icmp .eq 5, 3) := by decide +kernel
theorem dL_law_666 : decode cL_law 666 = .ok (.iconst 0, 1) := by decide +kernel
theorem dL_law_667 : decode cL_law 667 = .ok (.ireturn, 1) := by decide +kernel
theorem dL_law_668 : decode cL_law 668 = .ok (.iload 5, 2) := by decide +kernel
theorem dL_law_670 : decode cL_law 670 = .ok (.ifCond .ne 22, 3) := by decide +kernel
theorem dL_law_673 : decode cL_law 673 = .ok (.aload_n 3, 1) := by decide +kernel
theorem dL_law_674 : decode cL_law 674 = .ok (.iconst 0, 1) := by decide +kernel
end
section
theorem dL_law_675 : decode cL_law 675 = .ok (.laload, 1) := by decide +kernel
theorem dL_law_676 : decode cL_law 676 = .ok (.iload 6, 2) := by decide +kernel
theorem dL_law_678 : decode cL_law 678 = .ok (.ifCond .eq 7, 3) := by decide +kernel
theorem dL_law_681 : decode cL_law 681 = .ok (.lconst 1, 1) := by decide +kernel
theorem dL_law_682 : decode cL_law 682 = .ok (.goto 4, 3) := by decide +kernel
theorem dL_law_685 : decode cL_law 685 = .ok (.lconst 0, 1) := by decide +kernel
theorem dL_law_686 : decode cL_law 686 = .ok (.lcmp, 1) := by decide +kernel
theorem dL_law_687 : decode cL_law 687 = .ok (.ifCond .eq 5, 3) := by decide +kernel
theorem dL_law_690 : decode cL_law 690 = .ok (.iconst 0, 1) := by decide +kernel
theorem dL_law_691 : decode cL_law 691 = .ok (.ireturn, 1) := by decide +kernel
theorem dL_law_692 : decode cL_law 692 = .ok (.goto 805, 3) := by decide +kernel
theorem dL_law_695 : decode cL_law 695 = .ok (.aload_n 1, 1) := by decide +kernel
theorem dL_law_696 : decode cL_law 696 = .ok (.aload_n 0, 1) := by decide +kernel
theorem dL_law_697 : decode cL_law 697 = .ok (.iload 4, 2) := by decide +kernel
theorem dL_law_699 : decode cL_law 699 = .ok (.iconst 1, 1) := by decide +kernel
theorem dL_law_700 : decode cL_law 700 = .ok (.iadd, 1) := by decide +kernel
theorem dL_law_701 : decode cL_law 701 = .ok (.iaload, 1) := by decide +kernel
theorem dL_law_702 : decode cL_law 702 = .ok (.aload_n 0, 1) := by decide +kernel
theorem dL_law_703 : decode cL_law 703 = .ok (.iload 4, 2) := by decide +kernel
theorem dL_law_705 : decode cL_law 705 = .ok (.iconst 2, 1) := by decide +kernel
theorem dL_law_706 : decode cL_law 706 = .ok (.iadd, 1) := by decide +kernel
theorem dL_law_707 : decode cL_law 707 = .ok (.iaload, 1) := by decide +kernel
theorem dL_law_708 : decode cL_law 708 = .ok (.aload_n 0, 1) := by decide +kernel
theorem dL_law_709 : decode cL_law 709 = .ok (.iload 4, 2) := by decide +kernel
theorem dL_law_711 : decode cL_law 711 = .ok (.iconst 3, 1) := by decide +kernel
theorem dL_law_712 : decode cL_law 712 = .ok (.iadd, 1) := by decide +kernel
theorem dL_law_713 : decode cL_law 713 = .ok (.iaload, 1) := by decide +kernel
theorem dL_law_714 : decode cL_law 714 = .ok (.ifCond .eq 7, 3) := by decide +kernel
theorem dL_law_717 : decode cL_law 717 = .ok (.iconst 1, 1) := by decide +kernel
theorem dL_law_718 : decode cL_law 718 = .ok (.goto 4, 3) := by decide +kernel
theorem dL_law_721 : decode cL_law 721 = .ok (.iconst 0, 1) := by decide +kernel
theorem dL_law_722 : decode cL_law 722 = .ok (.aload_n 0, 1) := by decide +kernel
theorem dL_law_723 : decode cL_law 723 = .ok (.iload 4, 2) := by decide +kernel
theorem dL_law_725 : decode cL_law 725 = .ok (.iconst 4, 1) := by decide +kernel
theorem dL_law_726 : decode cL_law 726 = .ok (.iadd, 1) := by decide +kernel
theorem dL_law_727 : decode cL_law 727 = .ok (.iaload, 1) := by decide +kernel
theorem dL_law_728 : decode cL_law 728 = .ok (.aload_n 3, 1) := by decide +kernel
theorem dL_law_729 : decode cL_law 729 = .ok (.invokestatic 117, 3) := by decide +kernel
theorem dL_law_732 : decode cL_law 732 = .ok (.istore 5, 2) := by decide +kernel
theorem dL_law_734 : decode cL_law 734 = .ok (.aload_n 2, 1) := by decide +kernel
theorem dL_law_735 : decode cL_law 735 = .ok (.aload_n 0, 1) := by decide +kernel
theorem dL_law_736 : decode cL_law 736 = .ok (.iload 4, 2) := by decide +kernel
theorem dL_law_738 : decode cL_law 738 = .ok (.iconst 1, 1) := by decide +kernel
theorem dL_law_739 : decode cL_law 739 = .ok (.iadd, 1) := by decide +kernel
theorem dL_law_740 : decode cL_law 740 = .ok (.iaload, 1) := by decide +kernel
theorem dL_law_741 : decode cL_law 741 = .ok (.aload_n 0, 1) := by decide +kernel
theorem dL_law_742 : decode cL_law 742 = .ok (.iload 4, 2) := by decide +kernel
theorem dL_law_744 : decode cL_law 744 = .ok (.iconst 2, 1) := by decide +kernel
theorem dL_law_745 : decode cL_law 745 = .ok (.iadd, 1) := by decide +kernel
theorem dL_law_746 : decode cL_law 746 = .ok (.iaload, 1) := by decide +kernel
theorem dL_law_747 : decode cL_law 747 = .ok (.aload_n 0, 1) := by decide +kernel
theorem dL_law_748 : decode cL_law 748 = .ok (.iload 4, 2) := by decide +kernel
theorem dL_law_750 : decode cL_law 750 = .ok (.iconst 3, 1) := by decide +kernel
theorem dL_law_751 : decode cL_law 751 = .ok (.iadd, 1) := by decide +kernel
theorem dL_law_752 : decode cL_law 752 = .ok (.iaload, 1) := by decide +kernel
theorem dL_law_753 : decode cL_law 753 = .ok (.ifCond .eq 7, 3) := by decide +kernel
theorem dL_law_756 : decode cL_law 756 = .ok (.iconst 1, 1) := by decide +kernel
theorem dL_law_757 : decode cL_law 757 = .ok (.goto 4, 3) := by decide +kernel
theorem dL_law_760 : decode cL_law 760 = .ok (.iconst 0, 1) := by decide +kernel
theorem dL_law_761 : decode cL_law 761 = .ok (.aload_n 0, 1) := by decide +kernel
theorem dL_law_762 : decode cL_law 762 = .ok (.iload 4, 2) := by decide +kernel
theorem dL_law_764 : decode cL_law 764 = .ok (.iconst 4, 1) := by decide +kernel
theorem dL_law_765 : decode cL_law 765 = .ok (.iadd, 1) := by decide +kernel
theorem dL_law_766 : decode cL_law 766 = .ok (.iaload, 1) := by decide +kernel
theorem dL_law_767 : decode cL_law 767 = .ok (.invokevirtual 120, 3) := by decide +kernel
theorem dL_law_770 : decode cL_law 770 = .ok (.istore 6, 2) := by decide +kernel
theorem dL_law_772 : decode cL_law 772 = .ok (.aload_n 2, 1) := by decide +kernel
theorem dL_law_773 : decode cL_law 773 = .ok (.invokevirtual 87, 3) := by decide +kernel
theorem dL_law_776 : decode cL_law 776 = .ok (.iload 5, 2) := by decide +kernel
theorem dL_law_778 : decode cL_law 778 = .ok (.if_icmp .eq 5, 3) := by decide +kernel
theorem dL_law_781 : decode cL_law 781 = .ok (.iconst 0, 1) := by decide +kernel
theorem dL_law_782 : decode cL_law 782 = .ok (.ireturn, 1) := by decide +kernel
theorem dL_law_783 : decode cL_law 783 = .ok (.iload 5, 2) := by decide +kernel
theorem dL_law_785 : decode cL_law 785 = .ok (.ifCond .ne 15, 3) := by decide +kernel
theorem dL_law_788 : decode cL_law 788 = .ok (.aload_n 3, 1) := by decide +kernel
theorem dL_law_789 : decode cL_law 789 = .ok (.iconst 0, 1) := by decide +kernel
theorem dL_law_790 : decode cL_law 790 = .ok (.laload, 1) := by decide +kernel
theorem dL_law_791 : decode cL_law 791 = .ok (.iload 6, 2) := by decide +kernel
theorem dL_law_793 : decode cL_law 793 = .ok (.i2l, 1) := by decide +kernel
theorem dL_law_794 : decode cL_law 794 = .ok (.lcmp, 1) := by decide +kernel
theorem dL_law_795 : decode cL_law 795 = .ok (.ifCond .eq 5, 3) := by decide +kernel
theorem dL_law_798 : decode cL_law 798 = .ok (.iconst 0, 1) := by decide +kernel
theorem dL_law_799 : decode cL_law 799 = .ok (.ireturn, 1) := by decide +kernel
theorem dL_law_800 : decode cL_law 800 = .ok (.goto 697, 3) := by decide +kernel
theorem dL_law_803 : decode cL_law 803 = .ok (.aload_n 1, 1) := by decide +kernel
theorem dL_law_804 : decode cL_law 804 = .ok (.aload_n 0, 1) := by decide +kernel
theorem dL_law_805 : decode cL_law 805 = .ok (.iload 4, 2) := by decide +kernel
theorem dL_law_807 : decode cL_law 807 = .ok (.iconst 1, 1) := by decide +kernel
theorem dL_law_808 : decode cL_law 808 = .ok (.iadd, 1) := by decide +kernel
theorem dL_law_809 : decode cL_law 809 = .ok (.iaload, 1) := by decide +kernel
theorem dL_law_810 : decode cL_law 810 = .ok (.aload_n 0, 1) := by decide +kernel
theorem dL_law_811 : decode cL_law 811 = .ok (.iload 4, 2) := by decide +kernel
theorem dL_law_813 : decode cL_law 813 = .ok (.iconst 2, 1) := by decide +kernel
theorem dL_law_814 : decode cL_law 814 = .ok (.iadd, 1) := by decide +kernel
theorem dL_law_815 : decode cL_law 815 = .ok (.iaload, 1) := by decide +kernel
theorem dL_law_816 : decode cL_law 816 = .ok (.aload_n 0, 1) := by decide +kernel
theorem dL_law_817 : decode cL_law 817 = .ok (.iload 4, 2) := by decide +kernel
theorem dL_law_819 : decode cL_law 819 = .ok (.iconst 3, 1) := by decide +kernel
theorem dL_law_820 : decode cL_law 820 = .ok (.iadd, 1) := by decide +kernel
theorem dL_law_821 : decode cL_law 821 = .ok (.iaload, 1) := by decide +kernel
theorem dL_law_822 : decode cL_law 822 = .ok (.aload_n 0, 1) := by decide +kernel
theorem dL_law_823 : decode cL_law 823 = .ok (.iload 4, 2) := by decide +kernel
theorem dL_law_825 : decode cL_law 825 = .ok (.iconst 4, 1) := by decide +kernel
theorem dL_law_826 : decode cL_law 826 = .ok (.iadd, 1) := by decide +kernel
theorem dL_law_827 : decode cL_law 827 = .ok (.iaload, 1) := by decide +kernel
theorem dL_law_828 : decode cL_law 828 = .ok (.ifCond .eq 7, 3) := by decide +kernel
theorem dL_law_831 : decode cL_law 831 = .ok (.iconst 1, 1) := by decide +kernel
theorem dL_law_832 : decode cL_law 832 = .ok (.goto 4, 3) := by decide +kernel
theorem dL_law_835 : decode cL_law 835 = .ok (.iconst 0, 1) := by decide +kernel
theorem dL_law_836 : decode cL_law 836 = .ok (.aload_n 0, 1) := by decide +kernel
theorem dL_law_837 : decode cL_law 837 = .ok (.iload 4, 2) := by decide +kernel
theorem dL_law_839 : decode cL_law 839 = .ok (.iconst 5, 1) := by decide +kernel
theorem dL_law_840 : decode cL_law 840 = .ok (.iadd, 1) := by decide +kernel
theorem dL_law_841 : decode cL_law 841 = .ok (.iaload, 1) := by decide +kernel
theorem dL_law_842 : decode cL_law 842 = .ok (.aload_n 3, 1) := by decide +kernel
theorem dL_law_843 : decode cL_law 843 = .ok (.invokestatic 121, 3) := by decide +kernel
theorem dL_law_846 : decode cL_law 846 = .ok (.istore 5, 2) := by decide +kernel
theorem dL_law_848 : decode cL_law 848 = .ok (.aload_n 2, 1) := by decide +kernel
theorem dL_law_849 : decode cL_law 849 = .ok (.aload_n 0, 1) := by decide +kernel
theorem dL_law_850 : decode cL_law 850 = .ok (.iload 4, 2) := by decide +kernel
theorem dL_law_852 : decode cL_law 852 = .ok (.iconst 1, 1) := by decide +kernel
theorem dL_law_853 : decode cL_law 853 = .ok (.iadd, 1) := by decide +kernel
theorem dL_law_854 : decode cL_law 854 = .ok (.iaload, 1) := by decide +kernel
theorem dL_law_855 : decode cL_law 855 = .ok (.aload_n 0, 1) := by decide +kernel
theorem dL_law_856 : decode cL_law 856 = .ok (.iload 4, 2) := by decide +kernel
theorem dL_law_858 : decode cL_law 858 = .ok (.iconst 2, 1) := by decide +kernel
theorem dL_law_859 : decode cL_law 859 = .ok (.iadd, 1) := by decide +kernel
theorem dL_law_860 : decode cL_law 860 = .ok (.iaload, 1) := by decide +kernel
theorem dL_law_861 : decode cL_law 861 = .ok (.aload_n 0, 1) := by decide +kernel
theorem dL_law_862 : decode cL_law 862 = .ok (.iload 4, 2) := by decide +kernel
theorem dL_law_864 : decode cL_law 864 = .ok (.iconst 3, 1) := by decide +kernel
theorem dL_law_865 : decode cL_law 865 = .ok (.iadd, 1) := by decide +kernel
theorem dL_law_866 : decode cL_law 866 = .ok (.iaload, 1) := by decide +kernel
theorem dL_law_867 : decode cL_law 867 = .ok (.aload_n 0, 1) := by decide +kernel
theorem dL_law_868 : decode cL_law 868 = .ok (.iload 4, 2) := by decide +kernel
theorem dL_law_870 : decode cL_law 870 = .ok (.iconst 4, 1) := by decide +kernel
theorem dL_law_871 : decode cL_law 871 = .ok (.iadd, 1) := by decide +kernel
theorem dL_law_872 : decode cL_law 872 = .ok (.iaload, 1) := by decide +kernel
theorem dL_law_873 : decode cL_law 873 = .ok (.ifCond .eq 7, 3) := by decide +kernel
theorem dL_law_876 : decode cL_law 876 = .ok (.iconst 1, 1) := by decide +kernel
theorem dL_law_877 : decode cL_law 877 = .ok (.goto 4, 3) := by decide +kernel
theorem dL_law_880 : decode cL_law 880 = .ok (.iconst 0, 1) := by decide +kernel
theorem dL_law_881 : decode cL_law 881 = .ok (.aload_n 0, 1) := by decide +kernel
theorem dL_law_882 : decode cL_law 882 = .ok (.iload 4, 2) := by decide +kernel
theorem dL_law_884 : decode cL_law 884 = .ok (.iconst 5, 1) := by decide +kernel
theorem dL_law_885 : decode cL_law 885 = .ok (.iadd, 1) := by decide +kernel
theorem dL_law_886 : decode cL_law 886 = .ok (.iaload, 1) := by decide +kernel
theorem dL_law_887 : decode cL_law 887 = .ok (.invokevirtual 124, 3) := by decide +kernel
theorem dL_law_890 : decode cL_law 890 = .ok (.istore 6, 2) := by decide +kernel
theorem dL_law_892 : decode cL_law 892 = .ok (.aload_n 2, 1) := by decide +kernel
theorem dL_law_893 : decode cL_law 893 = .ok (.invokevirtual 87, 3) := by decide +kernel
theorem dL_law_896 : decode cL_law 896 = .ok (.iload 5, 2) := by decide +kernel
theorem dL_law_898 : decode cL_law 898 = .ok (.if_icmp .eq 5, 3) := by decide +kernel
theorem dL_law_901 : decode cL_law 901 = .ok (.iconst 0, 1) := by decide +kernel
theorem dL_law_902 : decode cL_law 902 = .ok (.ireturn, 1) := by decide +kernel
theorem dL_law_903 : decode cL_law 903 = .ok (.iload 5, 2) := by decide +kernel
theorem dL_law_905 : decode cL_law 905 = .ok (.ifCond .ne 15, 3) := by decide +kernel
theorem dL_law_908 : decode cL_law 908 = .ok (.aload_n 3, 1) := by decide +kernel
theorem dL_law_909 : decode cL_law 909 = .ok (.iconst 0, 1) := by decide +kernel
theorem dL_law_910 : decode cL_law 910 = .ok (.laload, 1) := by decide +kernel
theorem dL_law_911 : decode cL_law 911 = .ok (.iload 6, 2) := by decide +kernel
theorem dL_law_913 : decode cL_law 913 = .ok (.i2l, 1) := by decide +kernel
theorem dL_law_914 : decode cL_law 914 = .ok (.lcmp, 1) := by decide +kernel
theorem dL_law_915 : decode cL_law 915 = .ok (.ifCond .eq 5, 3) := by decide +kernel
theorem dL_law_918 : decode cL_law 918 = .ok (.iconst 0, 1) := by decide +kernel
theorem dL_law_919 : decode cL_law 919 = .ok (.ireturn, 1) := by decide +kernel
theorem dL_law_920 : decode cL_law 920 = .ok (.goto 577, 3) := by decide +kernel
theorem dL_law_923 : decode cL_law 923 = .ok (.aload_n 1, 1) := by decide +kernel
theorem dL_law_924 : decode cL_law 924 = .ok (.aload_n 0, 1) := by decide +kernel
theorem dL_law_925 : decode cL_law 925 = .ok (.iload 4, 2) := by decide +kernel
theorem dL_law_927 : decode cL_law 927 = .ok (.iconst 1, 1) := by decide +kernel
theorem dL_law_928 : decode cL_law 928 = .ok (.iadd, 1) := by decide +kernel
theorem dL_law_929 : decode cL_law 929 = .ok (.iaload, 1) := by decide +kernel
theorem dL_law_930 : decode cL_law 930 = .ok (.aload_n 0, 1) := by decide +kernel
theorem dL_law_931 : decode cL_law 931 = .ok (.iload 4, 2) := by decide +kernel
theorem dL_law_933 : decode cL_law 933 = .ok (.iconst 2, 1) := by decide +kernel
theorem dL_law_934 : decode cL_law 934 = .ok (.iadd, 1) := by decide +kernel
theorem dL_law_935 : decode cL_law 935 = .ok (.iaload, 1) := by decide +kernel
theorem dL_law_936 : decode cL_law 936 = .ok (.aload_n 3, 1) := by decide +kernel
theorem dL_law_937 : decode cL_law 937 = .ok (.invokestatic 125, 3) := by decide +kernel
theorem dL_law_940 : decode cL_law 940 = .ok (.istore 5, 2) := by decide +kernel
theorem dL_law_942 : decode cL_law 942 = .ok (.aload_n 2, 1) := by decide +kernel
theorem dL_law_943 : decode cL_law 943 = .ok (.aload_n 0, 1) := by decide +kernel
theorem dL_law_944 : decode cL_law 944 = .ok (.iload 4, 2) := by decide +kernel
theorem dL_law_946 : decode cL_law 946 = .ok (.iconst 1, 1) := by decide +kernel
theorem dL_law_947 : decode cL_law 947 = .ok (.iadd, 1) := by decide +kernel
theorem dL_law_948 : decode cL_law 948 = .ok (.iaload, 1) := by decide +kernel
theorem dL_law_949 : decode cL_law 949 = .ok (.aload_n 0, 1) := by decide +kernel
theorem dL_law_950 : decode cL_law 950 = .ok (.iload 4, 2) := by decide +kernel
theorem dL_law_952 : decode cL_law 952 = .ok (.iconst 2, 1) := by decide +kernel
theorem dL_law_953 : decode cL_law 953 = .ok (.iadd, 1) := by decide +kernel
theorem dL_law_954 : decode cL_law 954 = .ok (.iaload, 1) := by decide +kernel
theorem dL_law_955 : decode cL_law 955 = .ok (.invokevirtual 127, 3) := by decide +kernel
theorem dL_law_958 : decode cL_law 958 = .ok (.istore 6, 2) := by decide +kernel
theorem dL_law_960 : decode cL_law 960 = .ok (.aload_n 2, 1) := by decide +kernel
theorem dL_law_961 : decode cL_law 961 = .ok (.invokevirtual 87, 3) := by decide +kernel
theorem dL_law_964 : decode cL_law 964 = .ok (.iload 5, 2) := by decide +kernel
theorem dL_law_966 : decode cL_law 966 = .ok (.if_icmp .eq 5, 3) := by decide +kernel
theorem dL_law_969 : decode cL_law 969 = .ok (.iconst 0, 1) := by decide +kernel
theorem dL_law_970 : decode cL_law 970 = .ok (.ireturn, 1) := by decide +kernel
theorem dL_law_971 : decode cL_law 971 = .ok (.iload 5, 2) := by decide +kernel
theorem dL_law_973 : decode cL_law 973 = .ok (.ifCond .ne 15, 3) := by decide +kernel
theorem dL_law_976 : decode cL_law 976 = .ok (.aload_n 3, 1) := by decide +kernel
theorem dL_law_977 : decode cL_law 977 = .ok (.iconst 0, 1) := by decide +kernel
theorem dL_law_978 : decode cL_law 978 = .ok (.laload, 1) := by decide +kernel
theorem dL_law_979 : decode cL_law 979 = .ok (.iload 6, 2) := by decide +kernel
theorem dL_law_981 : decode cL_law 981 = .ok (.i2l, 1) := by decide +kernel
theorem dL_law_982 : decode cL_law 982 = .ok (.lcmp, 1) := by decide +kernel
theorem dL_law_983 : decode cL_law 983 = .ok (.ifCond .eq 5, 3) := by decide +kernel
theorem dL_law_986 : decode cL_law 986 = .ok (.iconst 0, 1) := by decide +kernel
theorem dL_law_987 : decode cL_law 987 = .ok (.ireturn, 1) := by decide +kernel
theorem dL_law_988 : decode cL_law 988 = .ok (.goto 509, 3) := by decide +kernel
theorem dL_law_991 : decode cL_law 991 = .ok (.aload_n 1, 1) := by decide +kernel
theorem dL_law_992 : decode cL_law 992 = .ok (.invokevirtual 128, 3) := by decide +kernel
theorem dL_law_995 : decode cL_law 995 = .ok (.aload_n 2, 1) := by decide +kernel
theorem dL_law_996 : decode cL_law 996 = .ok (.invokevirtual 131, 3) := by decide +kernel
theorem dL_law_999 : decode cL_law 999 = .ok (.if_icmp .eq 498, 3) := by decide +kernel
theorem dL_law_1002 : decode cL_law 1002 = .ok (.iconst 0, 1) := by decide +kernel
theorem dL_law_1003 : decode cL_law 1003 = .ok (.ireturn, 1) := by decide +kernel
theorem dL_law_1004 : decode cL_law 1004 = .ok (.aload_n 1, 1) := by decide +kernel
theorem dL_law_1005 : decode cL_law 1005 = .ok (.aload_n 0, 1) := by decide +kernel
theorem dL_law_1006 : decode cL_law 1006 = .ok (.iload 4, 2) := by decide +kernel
theorem dL_law_1008 : decode cL_law 1008 = .ok (.iconst 1, 1) := by decide +kernel
theorem dL_law_1009 : decode cL_law 1009 = .ok (.iadd, 1) := by decide +kernel
theorem dL_law_1010 : decode cL_law 1010 = .ok (.iaload, 1) := by decide +kernel
theorem dL_law_1011 : decode cL_law 1011 = .ok (.aload_n 3, 1) := by decide +kernel
theorem dL_law_1012 : decode cL_law 1012 = .ok (.invokestatic 132, 3) := by decide +kernel
theorem dL_law_1015 : decode cL_law 1015 = .ok (.istore 5, 2) := by decide +kernel
theorem dL_law_1017 : decode cL_law 1017 = .ok (.aload_n 2, 1) := by decide +kernel
theorem dL_law_1018 : decode cL_law 1018 = .ok (.aload_n 0, 1) := by decide +kernel
theorem dL_law_1019 : decode cL_law 1019 = .ok (.iload 4, 2) := by decide +kernel
theorem dL_law_1021 : decode cL_law 1021 = .ok (.iconst 1, 1) := by decide +kernel
theorem dL_law_1022 : decode cL_law 1022 = .ok (.iadd, 1) := by decide +kernel
theorem dL_law_1023 : decode cL_law 1023 = .ok (.iaload, 1) := by decide +kernel
theorem dL_law_1024 : decode cL_law 1024 = .ok (.invokevirtual 134, 3) := by decide +kernel
theorem dL_law_1027 : decode cL_law 1027 = .ok (.istore 6, 2) := by decide +kernel
theorem dL_law_1029 : decode cL_law 1029 = .ok (.aload_n 2, 1) := by decide +kernel
theorem dL_law_1030 : decode cL_law 1030 = .ok (.invokevirtual 87, 3) := by decide +kernel
theorem dL_law_1033 : decode cL_law 1033 = .ok (.iload 5, 2) := by decide +kernel
theorem dL_law_1035 : decode cL_law 1035 = .ok (.if_icmp .eq 5, 3) := by decide +kernel
theorem dL_law_1038 : decode cL_law 1038 = .ok (.iconst 0, 1) := by decide +kernel
theorem dL_law_1039 : decode cL_law 1039 = .ok (.ireturn, 1) := by decide +kernel
theorem dL_law_1040 : decode cL_law 1040 = .ok (.iload 5, 2) := by decide +kernel
theorem dL_law_1042 : decode cL_law 1042 = .ok (.ifCond .ne 22, 3) := by decide +kernel
theorem dL_law_1045 : decode cL_law 1045 = .ok (.aload_n 3, 1) := by decide +kernel
theorem dL_law_1046 : decode cL_law 1046 = .ok (.iconst 0, 1) := by decide +kernel
theorem dL_law_1047 : decode cL_law 1047 = .ok (.laload, 1) := by decide +kernel
theorem dL_law_1048 : decode cL_law 1048 = .ok (.iload 6, 2) := by decide +kernel
theorem dL_law_1050 : decode cL_law 1050 = .ok (.ifCond .eq 7, 3) := by decide +kernel
theorem dL_law_1053 : decode cL_law 1053 = .ok (.lconst 1, 1) := by decide +kernel
theorem dL_law_1054 : decode cL_law 1054 = .ok (.goto 4, 3) := by decide +kernel
theorem dL_law_1057 : decode cL_law 1057 = .ok (.lconst 0, 1) := by decide +kernel
theorem dL_law_1058 : decode cL_law 1058 = .ok (.lcmp, 1) := by decide +kernel
theorem dL_law_1059 : decode cL_law 1059 = .ok (.ifCond .eq 5, 3) := by decide +kernel
theorem dL_law_1062 : decode cL_law 1062 = .ok (.iconst 0, 1) := by decide +kernel
theorem dL_law_1063 : decode cL_law 1063 = .ok (.ireturn, 1) := by decide +kernel
theorem dL_law_1064 : decode cL_law 1064 = .ok (.goto 433, 3) := by decide +kernel
theorem dL_law_1067 : decode cL_law 1067 = .ok (.aload_n 1, 1) := by decide +kernel
theorem dL_law_1068 : decode cL_law 1068 = .ok (.aload_n 0, 1) := by decide +kernel
theorem dL_law_1069 : decode cL_law 1069 = .ok (.iload 4, 2) := by decide +kernel
theorem dL_law_1071 : decode cL_law 1071 = .ok (.iconst 1, 1) := by decide +kernel
theorem dL_law_1072 : decode cL_law 1072 = .ok (.iadd, 1) := by decide +kernel
theorem dL_law_1073 : decode cL_law 1073 = .ok (.iaload, 1) := by decide +kernel
theorem dL_law_1074 : decode cL_law 1074 = .ok (.aload_n 3, 1) := by decide +kernel
theorem dL_law_1075 : decode cL_law 1075 = .ok (.invokestatic 135, 3) := by decide +kernel
theorem dL_law_1078 : decode cL_law 1078 = .ok (.istore 5, 2) := by decide +kernel
theorem dL_law_1080 : decode cL_law 1080 = .ok (.aload_n 2, 1) := by decide +kernel
theorem dL_law_1081 : decode cL_law 1081 = .ok (.aload_n 0, 1) := by decide +kernel
theorem dL_law_1082 : decode cL_law 1082 = .ok (.iload 4, 2) := by decide +kernel
theorem dL_law_1084 : decode cL_law 1084 = .ok (.iconst 1, 1) := by decide +kernel
theorem dL_law_1085 : decode cL_law 1085 = .ok (.iadd, 1) := by decide +kernel
theorem dL_law_1086 : decode cL_law 1086 = .ok (.iaload, 1) := by decide +kernel
theorem dL_law_1087 : decode cL_law 1087 = .ok (.invokevirtual 137, 3) := by decide +kernel
theorem dL_law_1090 : decode cL_law 1090 = .ok (.istore 6, 2) := by decide +kernel
theorem dL_law_1092 : decode cL_law 1092 = .ok (.aload_n 2, 1) := by decide +kernel
theorem dL_law_1093 : decode cL_law 1093 = .ok (.invokevirtual 87, 3) := by decide +kernel
theorem dL_law_1096 : decode cL_law 1096 = .ok (.iload 5, 2) := by decide +kernel
theorem dL_law_1098 : decode cL_law 1098 = .ok (.if_icmp .eq 5, 3) := by decide +kernel
theorem dL_law_1101 : decode cL_law 1101 = .ok (.iconst 0, 1) := by decide +kernel
theorem dL_law_1102 : decode cL_law 1102 = .ok (.ireturn, 1) := by decide +kernel
theorem dL_law_1103 : decode cL_law 1103 = .ok (.iload 5, 2) := by decide +kernel
theorem dL_law_1105 : decode cL_law 1105 = .ok (.ifCond .ne 15, 3) := by decide +kernel
theorem dL_law_1108 : decode cL_law 1108 = .ok (.aload_n 3, 1) := by decide +kernel
theorem dL_law_1109 : decode cL_law 1109 = .ok (.iconst 0, 1) := by decide +kernel
theorem dL_law_1110 : decode cL_law 1110 = .ok (.laload, 1) := by decide +kernel
theorem dL_law_1111 : decode cL_law 1111 = .ok (.iload 6, 2) := by decide +kernel
theorem dL_law_1113 : decode cL_law 1113 = .ok (.i2l, 1) := by decide +kernel
theorem dL_law_1114 : decode cL_law 1114 = .ok (.lcmp, 1) := by decide +kernel
theorem dL_law_1115 : decode cL_law 1115 = .ok (.ifCond .eq 5, 3) := by decide +kernel
theorem dL_law_1118 : decode cL_law 1118 = .ok (.iconst 0, 1) := by decide +kernel
theorem dL_law_1119 : decode cL_law 1119 = .ok (.ireturn, 1) := by decide +kernel
theorem dL_law_1120 : decode cL_law 1120 = .ok (.goto 377, 3) := by decide +kernel
theorem dL_law_1123 : decode cL_law 1123 = .ok (.aload_n 1, 1) := by decide +kernel
theorem dL_law_1124 : decode cL_law 1124 = .ok (.aload_n 0, 1) := by decide +kernel
theorem dL_law_1125 : decode cL_law 1125 = .ok (.iload 4, 2) := by decide +kernel
theorem dL_law_1127 : decode cL_law 1127 = .ok (.iconst 1, 1) := by decide +kernel
theorem dL_law_1128 : decode cL_law 1128 = .ok (.iadd, 1) := by decide +kernel
theorem dL_law_1129 : decode cL_law 1129 = .ok (.iaload, 1) := by decide +kernel
theorem dL_law_1130 : decode cL_law 1130 = .ok (.aload_n 3, 1) := by decide +kernel
theorem dL_law_1131 : decode cL_law 1131 = .ok (.invokestatic 138, 3) := by decide +kernel
theorem dL_law_1134 : decode cL_law 1134 = .ok (.istore 5, 2) := by decide +kernel
theorem dL_law_1136 : decode cL_law 1136 = .ok (.aload_n 2, 1) := by decide +kernel
theorem dL_law_1137 : decode cL_law 1137 = .ok (.aload_n 0, 1) := by decide +kernel
theorem dL_law_1138 : decode cL_law 1138 = .ok (.iload 4, 2) := by decide +kernel
theorem dL_law_1140 : decode cL_law 1140 = .ok (.iconst 1, 1) := by decide +kernel
theorem dL_law_1141 : decode cL_law 1141 = .ok (.iadd, 1) := by decide +kernel
theorem dL_law_1142 : decode cL_law 1142 = .ok (.iaload, 1) := by decide +kernel
theorem dL_law_1143 : decode cL_law 1143 = .ok (.invokevirtual 140, 3) := by decide +kernel
theorem dL_law_1146 : decode cL_law 1146 = .ok (.istore 6, 2) := by decide +kernel
theorem dL_law_1148 : decode cL_law 1148 = .ok (.aload_n 2, 1) := by decide +kernel
theorem dL_law_1149 : decode cL_law 1149 = .ok (.invokevirtual 87, 3) := by decide +kernel
theorem dL_law_1152 : decode cL_law 1152 = .ok (.iload 5, 2) := by decide +kernel
theorem dL_law_1154 : decode cL_law 1154 = .ok (.if_icmp .eq 5, 3) := by decide +kernel
theorem dL_law_1157 : decode cL_law 1157 = .ok (.iconst 0, 1) := by decide +kernel
theorem dL_law_1158 : decode cL_law 1158 = .ok (.ireturn, 1) := by decide +kernel
theorem dL_law_1159 : decode cL_law 1159 = .ok (.iload 5, 2) := by decide +kernel
theorem dL_law_1161 : decode cL_law 1161 = .ok (.ifCond .ne 15, 3) := by decide +kernel
theorem dL_law_1164 : decode cL_law 1164 = .ok (.aload_n 3, 1) := by decide +kernel
theorem dL_law_1165 : decode cL_law 1165 = .ok (.iconst 0, 1) := by decide +kernel
theorem dL_law_1166 : decode cL_law 1166 = .ok (.laload, 1) := by decide +kernel
theorem dL_law_1167 : decode cL_law 1167 = .ok (.iload 6, 2) := by decide +kernel
theorem dL_law_1169 : decode cL_law 1169 = .ok (.i2l, 1) := by decide +kernel
theorem dL_law_1170 : decode cL_law 1170 = .ok (.lcmp, 1) := by decide +kernel
theorem dL_law_1171 : decode cL_law 1171 = .ok (.ifCond .eq 5, 3) := by decide +kernel
theorem dL_law_1174 : decode cL_law 1174 = .ok (.iconst 0, 1) := by decide +kernel
theorem dL_law_1175 : decode cL_law 1175 = .ok (.ireturn, 1) := by decide +kernel
theorem dL_law_1176 : decode cL_law 1176 = .ok (.goto 321, 3) := by decide +kernel
theorem dL_law_1179 : decode cL_law 1179 = .ok (.aload_n 1, 1) := by decide +kernel
theorem dL_law_1180 : decode cL_law 1180 = .ok (.aload_n 0, 1) := by decide +kernel
theorem dL_law_1181 : decode cL_law 1181 = .ok (.iload 4, 2) := by decide +kernel
theorem dL_law_1183 : decode cL_law 1183 = .ok (.iconst 1, 1) := by decide +kernel
theorem dL_law_1184 : decode cL_law 1184 = .ok (.iadd, 1) := by decide +kernel
theorem dL_law_1185 : decode cL_law 1185 = .ok (.iaload, 1) := by decide +kernel
theorem dL_law_1186 : decode cL_law 1186 = .ok (.aload_n 0, 1) := by decide +kernel
theorem dL_law_1187 : decode cL_law 1187 = .ok (.iload 4, 2) := by decide +kernel
theorem dL_law_1189 : decode cL_law 1189 = .ok (.iconst 2, 1) := by decide +kernel
theorem dL_law_1190 : decode cL_law 1190 = .ok (.iadd, 1) := by decide +kernel
theorem dL_law_1191 : decode cL_law 1191 = .ok (.iaload, 1) := by decide +kernel
theorem dL_law_1192 : decode cL_law 1192 = .ok (.aload_n 3, 1) := by decide +kernel
theorem dL_law_1193 : decode cL_law 1193 = .ok (.invokestatic 141, 3) := by decide +kernel
theorem dL_law_1196 : decode cL_law 1196 = .ok (.istore 5, 2) := by decide +kernel
theorem dL_law_1198 : decode cL_law 1198 = .ok (.aload_n 2, 1) := by decide +kernel
theorem dL_law_1199 : decode cL_law 1199 = .ok (.aload_n 0, 1) := by decide +kernel
theorem dL_law_1200 : decode cL_law 1200 = .ok (.iload 4, 2) := by decide +kernel
theorem dL_law_1202 : decode cL_law 1202 = .ok (.iconst 1, 1) := by decide +kernel
theorem dL_law_1203 : decode cL_law 1203 = .ok (.iadd, 1) := by decide +kernel
theorem dL_law_1204 : decode cL_law 1204 = .ok (.iaload, 1) := by decide +kernel
theorem dL_law_1205 : decode cL_law 1205 = .ok (.aload_n 0, 1) := by decide +kernel
theorem dL_law_1206 : decode cL_law 1206 = .ok (.iload 4, 2) := by decide +kernel
theorem dL_law_1208 : decode cL_law 1208 = .ok (.iconst 2, 1) := by decide +kernel
theorem dL_law_1209 : decode cL_law 1209 = .ok (.iadd, 1) := by decide +kernel
theorem dL_law_1210 : decode cL_law 1210 = .ok (.iaload, 1) := by decide +kernel
theorem dL_law_1211 : decode cL_law 1211 = .ok (.invokevirtual 143, 3) := by decide +kernel
theorem dL_law_1214 : decode cL_law 1214 = .ok (.istore 6, 2) := by decide +kernel
theorem dL_law_1216 : decode cL_law 1216 = .ok (.aload_n 2, 1) := by decide +kernel
theorem dL_law_1217 : decode cL_law 1217 = .ok (.invokevirtual 87, 3) := by decide +kernel
theorem dL_law_1220 : decode cL_law 1220 = .ok (.iload 5, 2) := by decide +kernel
theorem dL_law_1222 : decode cL_law 1222 = .ok (.if_icmp .eq 5, 3) := by decide +kernel
theorem dL_law_1225 : decode cL_law 1225 = .ok (.iconst 0, 1) := by decide +kernel
theorem dL_law_1226 : decode cL_law 1226 = .ok (.ireturn, 1) := by decide +kernel
theorem dL_law_1227 : decode cL_law 1227 = .ok (.iload 5, 2) := by decide +kernel
theorem dL_law_1229 : decode cL_law 1229 = .ok (.ifCond .ne 15, 3) := by decide +kernel
theorem dL_law_1232 : decode cL_law 1232 = .ok (.aload_n 3, 1) := by decide +kernel
theorem dL_law_1233 : decode cL_law 1233 = .ok (.iconst 0, 1) := by decide +kernel
theorem dL_law_1234 : decode cL_law 1234 = .ok (.laload, 1) := by decide +kernel
theorem dL_law_1235 : decode cL_law 1235 = .ok (.iload 6, 2) := by decide +kernel
theorem dL_law_1237 : decode cL_law 1237 = .ok (.i2l, 1) := by decide +kernel
theorem dL_law_1238 : decode cL_law 1238 = .ok (.lcmp, 1) := by decide +kernel
theorem dL_law_1239 : decode cL_law 1239 = .ok (.ifCond .eq 5, 3) := by decide +kernel
theorem dL_law_1242 : decode cL_law 1242 = .ok (.iconst 0, 1) := by decide +kernel
theorem dL_law_1243 : decode cL_law 1243 = .ok (.ireturn, 1) := by decide +kernel
theorem dL_law_1244 : decode cL_law 1244 = .ok (.goto 253, 3) := by decide +kernel
theorem dL_law_1247 : decode cL_law 1247 = .ok (.aload_n 1, 1) := by decide +kernel
theorem dL_law_1248 : decode cL_law 1248 = .ok (.aload_n 0, 1) := by decide +kernel
theorem dL_law_1249 : decode cL_law 1249 = .ok (.iload 4, 2) := by decide +kernel
theorem dL_law_1251 : decode cL_law 1251 = .ok (.iconst 1, 1) := by decide +kernel
theorem dL_law_1252 : decode cL_law 1252 = .ok (.iadd, 1) := by decide +kernel
theorem dL_law_1253 : decode cL_law 1253 = .ok (.iaload, 1) := by decide +kernel
theorem dL_law_1254 : decode cL_law 1254 = .ok (.aload_n 3, 1) := by decide +kernel
theorem dL_law_1255 : decode cL_law 1255 = .ok (.invokestatic 144, 3) := by decide +kernel
theorem dL_law_1258 : decode cL_law 1258 = .ok (.istore 5, 2) := by decide +kernel
theorem dL_law_1260 : decode cL_law 1260 = .ok (.aload_n 2, 1) := by decide +kernel
theorem dL_law_1261 : decode cL_law 1261 = .ok (.aload_n 0, 1) := by decide +kernel
theorem dL_law_1262 : decode cL_law 1262 = .ok (.iload 4, 2) := by decide +kernel
theorem dL_law_1264 : decode cL_law 1264 = .ok (.iconst 1, 1) := by decide +kernel
theorem dL_law_1265 : decode cL_law 1265 = .ok (.iadd, 1) := by decide +kernel
theorem dL_law_1266 : decode cL_law 1266 = .ok (.iaload, 1) := by decide +kernel
theorem dL_law_1267 : decode cL_law 1267 = .ok (.invokevirtual 146, 3) := by decide +kernel
theorem dL_law_1270 : decode cL_law 1270 = .ok (.istore 6, 2) := by decide +kernel
theorem dL_law_1272 : decode cL_law 1272 = .ok (.aload_n 2, 1) := by decide +kernel
theorem dL_law_1273 : decode cL_law 1273 = .ok (.invokevirtual 87, 3) := by decide +kernel
theorem dL_law_1276 : decode cL_law 1276 = .ok (.iload 5, 2) := by decide +kernel
theorem dL_law_1278 : decode cL_law 1278 = .ok (.if_icmp .eq 5, 3) := by decide +kernel
theorem dL_law_1281 : decode cL_law 1281 = .ok (.iconst 0, 1) := by decide +kernel
theorem dL_law_1282 : decode cL_law 1282 = .ok (.ireturn, 1) := by decide +kernel
theorem dL_law_1283 : decode cL_law 1283 = .ok (.iload 5, 2) := by decide +kernel
theorem dL_law_1285 : decode cL_law 1285 = .ok (.ifCond .ne 15, 3) := by decide +kernel
theorem dL_law_1288 : decode cL_law 1288 = .ok (.aload_n 3, 1) := by decide +kernel
theorem dL_law_1289 : decode cL_law 1289 = .ok (.iconst 0, 1) := by decide +kernel
theorem dL_law_1290 : decode cL_law 1290 = .ok (.laload, 1) := by decide +kernel
theorem dL_law_1291 : decode cL_law 1291 = .ok (.iload 6, 2) := by decide +kernel
theorem dL_law_1293 : decode cL_law 1293 = .ok (.i2l, 1) := by decide +kernel
theorem dL_law_1294 : decode cL_law 1294 = .ok (.lcmp, 1) := by decide +kernel
theorem dL_law_1295 : decode cL_law 1295 = .ok (.ifCond .eq 5, 3) := by decide +kernel
theorem dL_law_1298 : decode cL_law 1298 = .ok (.iconst 0, 1) := by decide +kernel
theorem dL_law_1299 : decode cL_law 1299 = .ok (.ireturn, 1) := by decide +kernel
theorem dL_law_1300 : decode cL_law 1300 = .ok (.goto 197, 3) := by decide +kernel
theorem dL_law_1303 : decode cL_law 1303 = .ok (.aload_n 1, 1) := by decide +kernel
theorem dL_law_1304 : decode cL_law 1304 = .ok (.aload_n 0, 1) := by decide +kernel
theorem dL_law_1305 : decode cL_law 1305 = .ok (.iload 4, 2) := by decide +kernel
theorem dL_law_1307 : decode cL_law 1307 = .ok (.iconst 1, 1) := by decide +kernel
theorem dL_law_1308 : decode cL_law 1308 = .ok (.iadd, 1) := by decide +kernel
theorem dL_law_1309 : decode cL_law 1309 = .ok (.iaload, 1) := by decide +kernel
theorem dL_law_1310 : decode cL_law 1310 = .ok (.aload_n 3, 1) := by decide +kernel
theorem dL_law_1311 : decode cL_law 1311 = .ok (.invokestatic 147, 3) := by decide +kernel
theorem dL_law_1314 : decode cL_law 1314 = .ok (.istore 5, 2) := by decide +kernel
theorem dL_law_1316 : decode cL_law 1316 = .ok (.aload_n 2, 1) := by decide +kernel
theorem dL_law_1317 : decode cL_law 1317 = .ok (.aload_n 0, 1) := by decide +kernel
theorem dL_law_1318 : decode cL_law 1318 = .ok (.iload 4, 2) := by decide +kernel
theorem dL_law_1320 : decode cL_law 1320 = .ok (.iconst 1, 1) := by decide +kernel
theorem dL_law_1321 : decode cL_law 1321 = .ok (.iadd, 1) := by decide +kernel
theorem dL_law_1322 : decode cL_law 1322 = .ok (.iaload, 1) := by decide +kernel
theorem dL_law_1323 : decode cL_law 1323 = .ok (.invokevirtual 149, 3) := by decide +kernel
theorem dL_law_1326 : decode cL_law 1326 = .ok (.istore 6, 2) := by decide +kernel
theorem dL_law_1328 : decode cL_law 1328 = .ok (.aload_n 2, 1) := by decide +kernel
theorem dL_law_1329 : decode cL_law 1329 = .ok (.invokevirtual 87, 3) := by decide +kernel
theorem dL_law_1332 : decode cL_law 1332 = .ok (.iload 5, 2) := by decide +kernel
theorem dL_law_1334 : decode cL_law 1334 = .ok (.if_icmp .eq 5, 3) := by decide +kernel
theorem dL_law_1337 : decode cL_law 1337 = .ok (.iconst 0, 1) := by decide +kernel
theorem dL_law_1338 : decode cL_law 1338 = .ok (.ireturn, 1) := by decide +kernel
theorem dL_law_1339 : decode cL_law 1339 = .ok (.iload 5, 2) := by decide +kernel
theorem dL_law_1341 : decode cL_law 1341 = .ok (.ifCond .ne 15, 3) := by decide +kernel
theorem dL_law_1344 : decode cL_law 1344 = .ok (.aload_n 3, 1) := by decide +kernel
theorem dL_law_1345 : decode cL_law 1345 = .ok (.iconst 0, 1) := by decide +kernel
theorem dL_law_1346 : decode cL_law 1346 = .ok (.laload, 1) := by decide +kernel
theorem dL_law_1347 : decode cL_law 1347 = .ok (.iload 6, 2) := by decide +kernel
theorem dL_law_1349 : decode cL_law 1349 = .ok (.i2l, 1) := by decide +kernel
theorem dL_law_1350 : decode cL_law 1350 = .ok (.lcmp, 1) := by decide +kernel
theorem dL_law_1351 : decode cL_law 1351 = .ok (.ifCond .eq 5, 3) := by decide +kernel
theorem dL_law_1354 : decode cL_law 1354 = .ok (.iconst 0, 1) := by decide +kernel
theorem dL_law_1355 : decode cL_law 1355 = .ok (.ireturn, 1) := by decide +kernel
theorem dL_law_1356 : decode cL_law 1356 = .ok (.goto 141, 3) := by decide +kernel
theorem dL_law_1359 : decode cL_law 1359 = .ok (.aload_n 1, 1) := by decide +kernel
theorem dL_law_1360 : decode cL_law 1360 = .ok (.aload_n 0, 1) := by decide +kernel
theorem dL_law_1361 : decode cL_law 1361 = .ok (.iload 4, 2) := by decide +kernel
theorem dL_law_1363 : decode cL_law 1363 = .ok (.iconst 1, 1) := by decide +kernel
theorem dL_law_1364 : decode cL_law 1364 = .ok (.iadd, 1) := by decide +kernel
theorem dL_law_1365 : decode cL_law 1365 = .ok (.iaload, 1) := by decide +kernel
theorem dL_law_1366 : decode cL_law 1366 = .ok (.aload_n 3, 1) := by decide +kernel
theorem dL_law_1367 : decode cL_law 1367 = .ok (.invokestatic 150, 3) := by decide +kernel
theorem dL_law_1370 : decode cL_law 1370 = .ok (.istore 5, 2) := by decide +kernel
theorem dL_law_1372 : decode cL_law 1372 = .ok (.aload_n 2, 1) := by decide +kernel
theorem dL_law_1373 : decode cL_law 1373 = .ok (.aload_n 0, 1) := by decide +kernel
theorem dL_law_1374 : decode cL_law 1374 = .ok (.iload 4, 2) := by decide +kernel
theorem dL_law_1376 : decode cL_law 1376 = .ok (.iconst 1, 1) := by decide +kernel
theorem dL_law_1377 : decode cL_law 1377 = .ok (.iadd, 1) := by decide +kernel
theorem dL_law_1378 : decode cL_law 1378 = .ok (.iaload, 1) := by decide +kernel
theorem dL_law_1379 : decode cL_law 1379 = .ok (.invokevirtual 152, 3) := by decide +kernel
theorem dL_law_1382 : decode cL_law 1382 = .ok (.istore 6, 2) := by decide +kernel
theorem dL_law_1384 : decode cL_law 1384 = .ok (.aload_n 2, 1) := by decide +kernel
theorem dL_law_1385 : decode cL_law 1385 = .ok (.invokevirtual 87, 3) := by decide +kernel
theorem dL_law_1388 : decode cL_law 1388 = .ok (.iload 5, 2) := by decide +kernel
theorem dL_law_1390 : decode cL_law 1390 = .ok (.if_icmp .eq 5, 3) := by decide +kernel
theorem dL_law_1393 : decode cL_law 1393 = .ok (.iconst 0, 1) := by decide +kernel
theorem dL_law_1394 : decode cL_law 1394 = .ok (.ireturn, 1) := by decide +kernel
theorem dL_law_1395 : decode cL_law 1395 = .ok (.iload 5, 2) := by decide +kernel
theorem dL_law_1397 : decode cL_law 1397 = .ok (.ifCond .ne 15, 3) := by decide +kernel
theorem dL_law_1400 : decode cL_law 1400 = .ok (.aload_n 3, 1) := by decide +kernel
theorem dL_law_1401 : decode cL_law 1401 = .ok (.iconst 0, 1) := by decide +kernel
theorem dL_law_1402 : decode cL_law 1402 = .ok (.laload, 1) := by decide +kernel
theorem dL_law_1403 : decode cL_law 1403 = .ok (.iload 6, 2) := by decide +kernel
theorem dL_law_1405 : decode cL_law 1405 = .ok (.i2l, 1) := by decide +kernel
theorem dL_law_1406 : decode cL_law 1406 = .ok (.lcmp, 1) := by decide +kernel
theorem dL_law_1407 : decode cL_law 1407 = .ok (.ifCond .eq 5, 3) := by decide +kernel
theorem dL_law_1410 : decode cL_law 1410 = .ok (.iconst 0, 1) := by decide +kernel
theorem dL_law_1411 : decode cL_law 1411 = .ok (.ireturn, 1) := by decide +kernel
theorem dL_law_1412 : decode cL_law 1412 = .ok (.goto 85, 3) := by decide +kernel
theorem dL_law_1415 : decode cL_law 1415 = .ok (.aload_n 1, 1) := by decide +kernel
theorem dL_law_1416 : decode cL_law 1416 = .ok (.aload_n 0, 1) := by decide +kernel
theorem dL_law_1417 : decode cL_law 1417 = .ok (.iload 4, 2) := by decide +kernel
end
section
theorem dL_law_1419 : decode cL_law 1419 = .ok (.iconst 1, 1) := by decide +kernel
theorem dL_law_1420 : decode cL_law 1420 = .ok (.iadd, 1) := by decide +kernel
theorem dL_law_1421 : decode cL_law 1421 = .ok (.iaload, 1) := by decide +kernel
theorem dL_law_1422 : decode cL_law 1422 = .ok (.aload_n 3, 1) := by decide +kernel
theorem dL_law_1423 : decode cL_law 1423 = .ok (.invokestatic 153, 3) := by decide +kernel
theorem dL_law_1426 : decode cL_law 1426 = .ok (.istore 5, 2) := by decide +kernel
theorem dL_law_1428 : decode cL_law 1428 = .ok (.aload_n 2, 1) := by decide +kernel
theorem dL_law_1429 : decode cL_law 1429 = .ok (.aload_n 0, 1) := by decide +kernel
theorem dL_law_1430 : decode cL_law 1430 = .ok (.iload 4, 2) := by decide +kernel
theorem dL_law_1432 : decode cL_law 1432 = .ok (.iconst 1, 1) := by decide +kernel
theorem dL_law_1433 : decode cL_law 1433 = .ok (.iadd, 1) := by decide +kernel
theorem dL_law_1434 : decode cL_law 1434 = .ok (.iaload, 1) := by decide +kernel
theorem dL_law_1435 : decode cL_law 1435 = .ok (.invokevirtual 155, 3) := by decide +kernel
theorem dL_law_1438 : decode cL_law 1438 = .ok (.istore 6, 2) := by decide +kernel
theorem dL_law_1440 : decode cL_law 1440 = .ok (.aload_n 2, 1) := by decide +kernel
theorem dL_law_1441 : decode cL_law 1441 = .ok (.invokevirtual 87, 3) := by decide +kernel
theorem dL_law_1444 : decode cL_law 1444 = .ok (.iload 5, 2) := by decide +kernel
theorem dL_law_1446 : decode cL_law 1446 = .ok (.if_icmp .eq 5, 3) := by decide +kernel
theorem dL_law_1449 : decode cL_law 1449 = .ok (.iconst 0, 1) := by decide +kernel
theorem dL_law_1450 : decode cL_law 1450 = .ok (.ireturn, 1) := by decide +kernel
theorem dL_law_1451 : decode cL_law 1451 = .ok (.iload 5, 2) := by decide +kernel
theorem dL_law_1453 : decode cL_law 1453 = .ok (.ifCond .ne 15, 3) := by decide +kernel
theorem dL_law_1456 : decode cL_law 1456 = .ok (.aload_n 3, 1) := by decide +kernel
theorem dL_law_1457 : decode cL_law 1457 = .ok (.iconst 0, 1) := by decide +kernel
theorem dL_law_1458 : decode cL_law 1458 = .ok (.laload, 1) := by decide +kernel
theorem dL_law_1459 : decode cL_law 1459 = .ok (.iload 6, 2) := by decide +kernel
theorem dL_law_1461 : decode cL_law 1461 = .ok (.i2l, 1) := by decide +kernel
theorem dL_law_1462 : decode cL_law 1462 = .ok (.lcmp, 1) := by decide +kernel
theorem dL_law_1463 : decode cL_law 1463 = .ok (.ifCond .eq 5, 3) := by decide +kernel
theorem dL_law_1466 : decode cL_law 1466 = .ok (.iconst 0, 1) := by decide +kernel
theorem dL_law_1467 : decode cL_law 1467 = .ok (.ireturn, 1) := by decide +kernel
theorem dL_law_1468 : decode cL_law 1468 = .ok (.goto 29, 3) := by decide +kernel
theorem dL_law_1471 : decode cL_law 1471 = .ok (.aload_n 1, 1) := by decide +kernel
theorem dL_law_1472 : decode cL_law 1472 = .ok (.invokevirtual 156, 3) := by decide +kernel
theorem dL_law_1475 : decode cL_law 1475 = .ok (.aload_n 2, 1) := by decide +kernel
theorem dL_law_1476 : decode cL_law 1476 = .ok (.invokevirtual 159, 3) := by decide +kernel
theorem dL_law_1479 : decode cL_law 1479 = .ok (.if_icmp .eq 18, 3) := by decide +kernel
theorem dL_law_1482 : decode cL_law 1482 = .ok (.iconst 0, 1) := by decide +kernel
theorem dL_law_1483 : decode cL_law 1483 = .ok (.ireturn, 1) := by decide +kernel
theorem dL_law_1484 : decode cL_law 1484 = .ok (.aload_n 1, 1) := by decide +kernel
theorem dL_law_1485 : decode cL_law 1485 = .ok (.invokevirtual 160, 3) := by decide +kernel
theorem dL_law_1488 : decode cL_law 1488 = .ok (.aload_n 2, 1) := by decide +kernel
theorem dL_law_1489 : decode cL_law 1489 = .ok (.invokevirtual 163, 3) := by decide +kernel
theorem dL_law_1492 : decode cL_law 1492 = .ok (.if_icmp .eq 5, 3) := by decide +kernel
theorem dL_law_1495 : decode cL_law 1495 = .ok (.iconst 0, 1) := by decide +kernel
theorem dL_law_1496 : decode cL_law 1496 = .ok (.ireturn, 1) := by decide +kernel
theorem dL_law_1497 : decode cL_law 1497 = .ok (.iinc 4 6, 3) := by decide +kernel
theorem dL_law_1500 : decode cL_law 1500 = .ok (.goto (-1477), 3) := by decide +kernel
theorem dL_law_1503 : decode cL_law 1503 = .ok (.iconst 1, 1) := by decide +kernel
theorem dL_law_1504 : decode cL_law 1504 = .ok (.ireturn, 1) := by decide +kernel
abbrev vwCl : List vw_C := [(RX0, TX0, 19), (RX1, TX1, 22)]
end
section
/-- the fixed surroundings of a walk -/
abbrev ZE : Type := Program × Launch × Env × State × MethodId × Array Value × List Frame × Method × Code × (Nat → Prop) × (State → Prop)
/-- in the world w, at pc with the locals L and the stack st, the walk comes to its end -/
def ZW (E : ZE) (G : State → (Nat → Prop) → Prop) (R : Room) (cc : ByteArray) (own : String) (Ts : List Cond) (n : Nat) (D : va_G) (tys : List (ClassId × FieldType)) (cells slots : Nat) (w : va_W) (pc : Nat) (L : List (Nat × Value)) (st : List Value) : Prop :=
  match E with
  | (p, l, e, s, m, args, below, meth, c, A, Q) => p.tables.exec = Jvm.exec → c.code = cc → c.maxLocals = n → s.vm.findClass own = some m.cls → (∀ w ∈ Ts, w.before args s = true) → (∀ q, s.heap.size ≤ q → A q) → G s A → va_K D vwCl tys s →
    ∀ (H : Heap) (locs : List Loc) (ls : Array Slot), va_P D vwCl w H → va_D A w → va_S A s.heap H locs → lv_has ls n L → W p l e R s m args below meth c H locs cells slots Q (F0 m pc ls st)
/-- an exception of a class E' with px E', raised at pc, is brought to its end -/
def ZX (E : ZE) (G : State → (Nat → Prop) → Prop) (R : Room) (cc : ByteArray) (own : String) (Ts : List Cond) (n : Nat) (D : va_G) (tys : List (ClassId × FieldType)) (cells slots : Nat) (w : va_W) (pc : Nat) (L : List (Nat × Value)) (px : String → Prop) : Prop :=
  match E with
  | (p, l, e, s, m, args, below, meth, c, A, Q) => p.tables.exec = Jvm.exec → c.code = cc → c.maxLocals = n → s.vm.findClass own = some m.cls → (∀ w ∈ Ts, w.before args s = true) → (∀ q, s.heap.size ≤ q → A q) → G s A → va_K D vwCl tys s →
    ∀ (H : Heap) (locs : List Loc) (ls : Array Slot), va_P D vwCl w H → va_D A w → va_S A s.heap H locs → lv_has ls n L →
      ∀ (E' : String) (ce : Cell) (q9 : Addr) (rest : List Value), px E' → H[q9]? = some ce → ce.vm = .none → s.vm.findClass E' = some ce.cls → vx_W p l e R s m args below meth c H locs cells slots Q (F0 m pc ls rest) q9
def z_set (i : Nat) (v : Value) (L : List (Nat × Value)) : List (Nat × Value) := (i, v) :: L.filter (fun q => !(q.1 == i) && !(q.1 + 1 == i && q.2.category == 2))
section ZRows
variable {E : ZE} {G : State → (Nat → Prop) → Prop} {R : Room} {cc : ByteArray} {own : String} {Ts : List Cond} {n : Nat} {D : va_G} {tys : List (ClassId × FieldType)} {cells slots : Nat} {w : va_W} {pc : Nat} {L : List (Nat × Value)} {st : List Value}
theorem z_iconst {k : Int} {v : Int32} (d : decode cc pc = .ok (.iconst k, 1)) (hv : Int32.ofInt k = v) (kk : ZW E G R cc own Ts n D tys cells slots w (pc + 1) L (.int v :: st)) : ZW E G R cc own Ts n D tys cells slots w (pc) L (st) := by
  obtain ⟨p, l, e, s, m, args, below, meth, c, A, Q⟩ := E
  intro hx hb hml hown hts hA hG hK H locs ls hP hD hS hl
  exact lv_iconst hx hb d hv (kk hx hb hml hown hts hA hG hK H locs ls hP hD hS hl)
theorem z_bipush {k : Int} {v : Int32} (d : decode cc pc = .ok (.bipush k, 2)) (hv : (Int8.ofInt k).toInt32 = v) (kk : ZW E G R cc own Ts n D tys cells slots w (pc + 2) L (.int v :: st)) : ZW E G R cc own Ts n D tys cells slots w (pc) L (st) := by
  obtain ⟨p, l, e, s, m, args, below, meth, c, A, Q⟩ := E
  intro hx hb hml hown hts hA hG hK H locs ls hP hD hS hl
  exact lv_bipush hx hb d hv (kk hx hb hml hown hts hA hG hK H locs ls hP hD hS hl)
theorem z_sipush {k : Int} {v : Int32} (d : decode cc pc = .ok (.sipush k, 3)) (hv : (Int16.ofInt k).toInt32 = v) (kk : ZW E G R cc own Ts n D tys cells slots w (pc + 3) L (.int v :: st)) : ZW E G R cc own Ts n D tys cells slots w (pc) L (st) := by
  obtain ⟨p, l, e, s, m, args, below, meth, c, A, Q⟩ := E
  intro hx hb hml hown hts hA hG hK H locs ls hP hD hS hl
  exact lv_sipush hx hb d hv (kk hx hb hml hown hts hA hG hK H locs ls hP hD hS hl)
theorem z_lconst {k : Fin 2} {v : Int64} (d : decode cc pc = .ok (.lconst k, 1)) (hv : Int64.ofNat (k : Nat) = v) (kk : ZW E G R cc own Ts n D tys cells slots w (pc + 1) L (.long v :: st)) : ZW E G R cc own Ts n D tys cells slots w (pc) L (st) := by
  obtain ⟨p, l, e, s, m, args, below, meth, c, A, Q⟩ := E
  intro hx hb hml hown hts hA hG hK H locs ls hP hD hS hl
  exact lv_lconst hx hb d hv (kk hx hb hml hown hts hA hG hK H locs ls hP hD hS hl)
theorem z_ldcw {index : Nat} {v : Int32} (hc : Cond.constant own index v ∈ Ts) (d : decode cc pc = .ok (.ldc_w index, 3)) (kk : ZW E G R cc own Ts n D tys cells slots w (pc + 3) L (.int v :: st)) : ZW E G R cc own Ts n D tys cells slots w (pc) L (st) := by
  obtain ⟨p, l, e, s, m, args, below, meth, c, A, Q⟩ := E
  intro hx hb hml hown hts hA hG hK H locs ls hP hD hS hl
  exact lv_ldcw hx hb hown (hts _ hc) d (kk hx hb hml hown hts hA hG hK H locs ls hP hD hS hl)
theorem z_ldc {index : Nat} {v : Int32} (hc : Cond.constant own index v ∈ Ts) (d : decode cc pc = .ok (.ldc index, 2)) (kk : ZW E G R cc own Ts n D tys cells slots w (pc + 2) L (.int v :: st)) : ZW E G R cc own Ts n D tys cells slots w (pc) L (st) := by
  obtain ⟨p, l, e, s, m, args, below, meth, c, A, Q⟩ := E
  intro hx hb hml hown hts hA hG hK H locs ls hP hD hS hl
  exact lv_ldc hx hb hown (hts _ hc) d (kk hx hb hml hown hts hA hG hK H locs ls hP hD hS hl)
theorem z_iload_n {k : Fin 4} {x : Int32} (j : Nat) (d : decode cc pc = .ok (.iload_n k, 1)) (hj : L[j]? = some ((k : Nat), .int x)) (kk : ZW E G R cc own Ts n D tys cells slots w (pc + 1) L (.int x :: st)) : ZW E G R cc own Ts n D tys cells slots w (pc) L (st) := by
  obtain ⟨p, l, e, s, m, args, below, meth, c, A, Q⟩ := E
  intro hx hb hml hown hts hA hG hK H locs ls hP hD hS hl
  exact lv_iload_n hx hb d rfl (lv_at hl j hj) (kk hx hb hml hown hts hA hG hK H locs ls hP hD hS hl)
theorem z_iload {i : Nat} {x : Int32} (j : Nat) (d : decode cc pc = .ok (.iload i, 2)) (hj : L[j]? = some (i, .int x)) (kk : ZW E G R cc own Ts n D tys cells slots w (pc + 2) L (.int x :: st)) : ZW E G R cc own Ts n D tys cells slots w (pc) L (st) := by
  obtain ⟨p, l, e, s, m, args, below, meth, c, A, Q⟩ := E
  intro hx hb hml hown hts hA hG hK H locs ls hP hD hS hl
  exact lv_iload hx hb d (lv_at hl j hj) (kk hx hb hml hown hts hA hG hK H locs ls hP hD hS hl)
theorem z_aload_n {k : Fin 4} {x : Nat} (j : Nat) (d : decode cc pc = .ok (.aload_n k, 1)) (hj : L[j]? = some ((k : Nat), .ref x)) (kk : ZW E G R cc own Ts n D tys cells slots w (pc + 1) L (.ref x :: st)) : ZW E G R cc own Ts n D tys cells slots w (pc) L (st) := by
  obtain ⟨p, l, e, s, m, args, below, meth, c, A, Q⟩ := E
  intro hx hb hml hown hts hA hG hK H locs ls hP hD hS hl
  exact lv_aload_n hx hb d rfl (lv_at hl j hj) (kk hx hb hml hown hts hA hG hK H locs ls hP hD hS hl)
theorem z_aload {i : Nat} {x : Nat} (j : Nat) (d : decode cc pc = .ok (.aload i, 2)) (hj : L[j]? = some (i, .ref x)) (kk : ZW E G R cc own Ts n D tys cells slots w (pc + 2) L (.ref x :: st)) : ZW E G R cc own Ts n D tys cells slots w (pc) L (st) := by
  obtain ⟨p, l, e, s, m, args, below, meth, c, A, Q⟩ := E
  intro hx hb hml hown hts hA hG hK H locs ls hP hD hS hl
  exact lv_aload hx hb d (lv_at hl j hj) (kk hx hb hml hown hts hA hG hK H locs ls hP hD hS hl)
theorem z_istore_n {k : Fin 4} {x : Int32} {L' : List (Nat × Value)} (d : decode cc pc = .ok (.istore_n k, 1)) (hn : (k : Nat) < n) (hL : z_set (k : Nat) (.int x) L = L') (kk : ZW E G R cc own Ts n D tys cells slots w (pc + 1) L' (st)) : ZW E G R cc own Ts n D tys cells slots w (pc) L (.int x :: st) := by
  obtain ⟨p, l, e, s, m, args, below, meth, c, A, Q⟩ := E
  intro hx hb hml hown hts hA hG hK H locs ls hP hD hS hl
  exact lv_istore_n hx hb d rfl hl hn hL (fun ls2 hl2 => kk hx hb hml hown hts hA hG hK H locs ls2 hP hD hS hl2)
theorem z_istore {i : Nat} {x : Int32} {L' : List (Nat × Value)} (d : decode cc pc = .ok (.istore i, 2)) (hn : i < n) (hL : z_set i (.int x) L = L') (kk : ZW E G R cc own Ts n D tys cells slots w (pc + 2) L' (st)) : ZW E G R cc own Ts n D tys cells slots w (pc) L (.int x :: st) := by
  obtain ⟨p, l, e, s, m, args, below, meth, c, A, Q⟩ := E
  intro hx hb hml hown hts hA hG hK H locs ls hP hD hS hl
  exact lv_istore hx hb d hl hn hL (fun ls2 hl2 => kk hx hb hml hown hts hA hG hK H locs ls2 hP hD hS hl2)
theorem z_astore_n {k : Fin 4} {x : Nat} {L' : List (Nat × Value)} (d : decode cc pc = .ok (.astore_n k, 1)) (hn : (k : Nat) < n) (hL : z_set (k : Nat) (.ref x) L = L') (kk : ZW E G R cc own Ts n D tys cells slots w (pc + 1) L' (st)) : ZW E G R cc own Ts n D tys cells slots w (pc) L (.ref x :: st) := by
  obtain ⟨p, l, e, s, m, args, below, meth, c, A, Q⟩ := E
  intro hx hb hml hown hts hA hG hK H locs ls hP hD hS hl
  exact lv_astore_n hx hb d rfl hl hn hL (fun ls2 hl2 => kk hx hb hml hown hts hA hG hK H locs ls2 hP hD hS hl2)
theorem z_astore {i : Nat} {x : Nat} {L' : List (Nat × Value)} (d : decode cc pc = .ok (.astore i, 2)) (hn : i < n) (hL : z_set i (.ref x) L = L') (kk : ZW E G R cc own Ts n D tys cells slots w (pc + 2) L' (st)) : ZW E G R cc own Ts n D tys cells slots w (pc) L (.ref x :: st) := by
  obtain ⟨p, l, e, s, m, args, below, meth, c, A, Q⟩ := E
  intro hx hb hml hown hts hA hG hK H locs ls hP hD hS hl
  exact lv_astore hx hb d hl hn hL (fun ls2 hl2 => kk hx hb hml hown hts hA hG hK H locs ls2 hP hD hS hl2)
theorem z_iinc {i : Nat} {k : Int} {x v : Int32} {L' : List (Nat × Value)} (j : Nat) (d : decode cc pc = .ok (.iinc i k, 3)) (hj : L[j]? = some (i, .int x)) (hv : x + Int32.ofInt k = v) (hn : i < n) (hL : z_set i (.int v) L = L') (kk : ZW E G R cc own Ts n D tys cells slots w (pc + 3) L' (st)) : ZW E G R cc own Ts n D tys cells slots w (pc) L (st) := by
  obtain ⟨p, l, e, s, m, args, below, meth, c, A, Q⟩ := E
  intro hx hb hml hown hts hA hG hK H locs ls hP hD hS hl
  exact lv_iinc hx hb d hl hj hv hn hL (fun ls2 hl2 => kk hx hb hml hown hts hA hG hK H locs ls2 hP hD hS hl2)
theorem z_sub {L' : List (Nat × Value)} (ks : List Nat) (hL : lv_pick L ks = L') (kk : ZW E G R cc own Ts n D tys cells slots w (pc) L' (st)) : ZW E G R cc own Ts n D tys cells slots w (pc) L (st) := by
  obtain ⟨p, l, e, s, m, args, below, meth, c, A, Q⟩ := E
  intro hx hb hml hown hts hA hG hK H locs ls hP hD hS hl
  exact kk hx hb hml hown hts hA hG hK H locs ls hP hD hS (lv_sub hl ks hL)
theorem z_iadd {x y : Int32} (d : decode cc pc = .ok (.iadd, 1)) (kk : ZW E G R cc own Ts n D tys cells slots w (pc + 1) L (.int (x + y) :: st)) : ZW E G R cc own Ts n D tys cells slots w (pc) L (.int y :: .int x :: st) := by
  obtain ⟨p, l, e, s, m, args, below, meth, c, A, Q⟩ := E
  intro hx hb hml hown hts hA hG hK H locs ls hP hD hS hl
  exact lv_iadd hx hb d (kk hx hb hml hown hts hA hG hK H locs ls hP hD hS hl)
theorem z_isub {x y : Int32} (d : decode cc pc = .ok (.isub, 1)) (kk : ZW E G R cc own Ts n D tys cells slots w (pc + 1) L (.int (x - y) :: st)) : ZW E G R cc own Ts n D tys cells slots w (pc) L (.int y :: .int x :: st) := by
  obtain ⟨p, l, e, s, m, args, below, meth, c, A, Q⟩ := E
  intro hx hb hml hown hts hA hG hK H locs ls hP hD hS hl
  exact lv_isub hx hb d (kk hx hb hml hown hts hA hG hK H locs ls hP hD hS hl)
theorem z_imul {x y : Int32} (d : decode cc pc = .ok (.imul, 1)) (kk : ZW E G R cc own Ts n D tys cells slots w (pc + 1) L (.int (x * y) :: st)) : ZW E G R cc own Ts n D tys cells slots w (pc) L (.int y :: .int x :: st) := by
  obtain ⟨p, l, e, s, m, args, below, meth, c, A, Q⟩ := E
  intro hx hb hml hown hts hA hG hK H locs ls hP hD hS hl
  exact lv_imul hx hb d (kk hx hb hml hown hts hA hG hK H locs ls hP hD hS hl)
theorem z_iand {x y : Int32} (d : decode cc pc = .ok (.iand, 1)) (kk : ZW E G R cc own Ts n D tys cells slots w (pc + 1) L (.int (x &&& y) :: st)) : ZW E G R cc own Ts n D tys cells slots w (pc) L (.int y :: .int x :: st) := by
  obtain ⟨p, l, e, s, m, args, below, meth, c, A, Q⟩ := E
  intro hx hb hml hown hts hA hG hK H locs ls hP hD hS hl
  exact lv_iand hx hb d (kk hx hb hml hown hts hA hG hK H locs ls hP hD hS hl)
theorem z_ior {x y : Int32} (d : decode cc pc = .ok (.ior, 1)) (kk : ZW E G R cc own Ts n D tys cells slots w (pc + 1) L (.int (x ||| y) :: st)) : ZW E G R cc own Ts n D tys cells slots w (pc) L (.int y :: .int x :: st) := by
  obtain ⟨p, l, e, s, m, args, below, meth, c, A, Q⟩ := E
  intro hx hb hml hown hts hA hG hK H locs ls hP hD hS hl
  exact lv_ior hx hb d (kk hx hb hml hown hts hA hG hK H locs ls hP hD hS hl)
theorem z_ixor {x y : Int32} (d : decode cc pc = .ok (.ixor, 1)) (kk : ZW E G R cc own Ts n D tys cells slots w (pc + 1) L (.int (x ^^^ y) :: st)) : ZW E G R cc own Ts n D tys cells slots w (pc) L (.int y :: .int x :: st) := by
  obtain ⟨p, l, e, s, m, args, below, meth, c, A, Q⟩ := E
  intro hx hb hml hown hts hA hG hK H locs ls hP hD hS hl
  exact lv_ixor hx hb d (kk hx hb hml hown hts hA hG hK H locs ls hP hD hS hl)
theorem z_ishl {x y : Int32} (d : decode cc pc = .ok (.ishl, 1)) (kk : ZW E G R cc own Ts n D tys cells slots w (pc + 1) L (.int (x <<< (y &&& 31)) :: st)) : ZW E G R cc own Ts n D tys cells slots w (pc) L (.int y :: .int x :: st) := by
  obtain ⟨p, l, e, s, m, args, below, meth, c, A, Q⟩ := E
  intro hx hb hml hown hts hA hG hK H locs ls hP hD hS hl
  exact lv_ishl hx hb d (kk hx hb hml hown hts hA hG hK H locs ls hP hD hS hl)
theorem z_ishr {x y : Int32} (d : decode cc pc = .ok (.ishr, 1)) (kk : ZW E G R cc own Ts n D tys cells slots w (pc + 1) L (.int (x >>> (y &&& 31)) :: st)) : ZW E G R cc own Ts n D tys cells slots w (pc) L (.int y :: .int x :: st) := by
  obtain ⟨p, l, e, s, m, args, below, meth, c, A, Q⟩ := E
  intro hx hb hml hown hts hA hG hK H locs ls hP hD hS hl
  exact lv_ishr hx hb d (kk hx hb hml hown hts hA hG hK H locs ls hP hD hS hl)
theorem z_idiv {x y : Int32} (d : decode cc pc = .ok (.idiv, 1)) (hne : ¬ y = 0) (kk : ZW E G R cc own Ts n D tys cells slots w (pc + 1) L (.int (x / y) :: st)) : ZW E G R cc own Ts n D tys cells slots w (pc) L (.int y :: .int x :: st) := by
  obtain ⟨p, l, e, s, m, args, below, meth, c, A, Q⟩ := E
  intro hx hb hml hown hts hA hG hK H locs ls hP hD hS hl
  exact lv_idiv hx hb d hne (kk hx hb hml hown hts hA hG hK H locs ls hP hD hS hl)
theorem z_irem {x y : Int32} (d : decode cc pc = .ok (.irem, 1)) (hne : ¬ y = 0) (kk : ZW E G R cc own Ts n D tys cells slots w (pc + 1) L (.int (x - x / y * y) :: st)) : ZW E G R cc own Ts n D tys cells slots w (pc) L (.int y :: .int x :: st) := by
  obtain ⟨p, l, e, s, m, args, below, meth, c, A, Q⟩ := E
  intro hx hb hml hown hts hA hG hK H locs ls hP hD hS hl
  exact lv_irem hx hb d hne (kk hx hb hml hown hts hA hG hK H locs ls hP hD hS hl)
theorem z_iushr {x y v : Int32} (d : decode cc pc = .ok (.iushr, 1)) (hv : (x.toUInt32 >>> (y.toUInt32 &&& Int32.toUInt32 31)).toInt32 = v) (kk : ZW E G R cc own Ts n D tys cells slots w (pc + 1) L (.int v :: st)) : ZW E G R cc own Ts n D tys cells slots w (pc) L (.int y :: .int x :: st) := by
  obtain ⟨p, l, e, s, m, args, below, meth, c, A, Q⟩ := E
  intro hx hb hml hown hts hA hG hK H locs ls hP hD hS hl
  exact lv_iushr hx hb d hv (kk hx hb hml hown hts hA hG hK H locs ls hP hD hS hl)
theorem z_i2l {x : Int32} {v : Int64} (d : decode cc pc = .ok (.i2l, 1)) (hv : x.toInt64 = v) (kk : ZW E G R cc own Ts n D tys cells slots w (pc + 1) L (.long v :: st)) : ZW E G R cc own Ts n D tys cells slots w (pc) L (.int x :: st) := by
  obtain ⟨p, l, e, s, m, args, below, meth, c, A, Q⟩ := E
  intro hx hb hml hown hts hA hG hK H locs ls hP hD hS hl
  exact lv_i2l hx hb d hv (kk hx hb hml hown hts hA hG hK H locs ls hP hD hS hl)
theorem z_dup {v : Value} (d : decode cc pc = .ok (.dup, 1)) (hv : v.category = 1) (kk : ZW E G R cc own Ts n D tys cells slots w (pc + 1) L (v :: v :: st)) : ZW E G R cc own Ts n D tys cells slots w (pc) L (v :: st) := by
  obtain ⟨p, l, e, s, m, args, below, meth, c, A, Q⟩ := E
  intro hx hb hml hown hts hA hG hK H locs ls hP hD hS hl
  exact lv_dup hx hb d hv (kk hx hb hml hown hts hA hG hK H locs ls hP hD hS hl)
theorem z_dup2 {v v2 : Value} (d : decode cc pc = .ok (.dup2, 1)) (hv : v.category = 1) (hv2 : v2.category = 1) (kk : ZW E G R cc own Ts n D tys cells slots w (pc + 1) L (v :: v2 :: v :: v2 :: st)) : ZW E G R cc own Ts n D tys cells slots w (pc) L (v :: v2 :: st) := by
  obtain ⟨p, l, e, s, m, args, below, meth, c, A, Q⟩ := E
  intro hx hb hml hown hts hA hG hK H locs ls hP hD hS hl
  exact lv_dup2_11 hx hb d hv hv2 (kk hx hb hml hown hts hA hG hK H locs ls hP hD hS hl)
theorem z_pop {v : Value} (d : decode cc pc = .ok (.pop, 1)) (hv : v.category = 1) (kk : ZW E G R cc own Ts n D tys cells slots w (pc + 1) L (st)) : ZW E G R cc own Ts n D tys cells slots w (pc) L (v :: st) := by
  obtain ⟨p, l, e, s, m, args, below, meth, c, A, Q⟩ := E
  intro hx hb hml hown hts hA hG hK H locs ls hP hD hS hl
  exact lv_pop hx hb d hv (kk hx hb hml hown hts hA hG hK H locs ls hP hD hS hl)
theorem z_if_eq {x : Int32} {off : Int} (tgt : Nat) (d : decode cc pc = .ok (.ifCond .eq off, 3)) (ht : (pc : Int) + off = (tgt : Int)) (kt : x = 0 → ZW E G R cc own Ts n D tys cells slots w (tgt) L (st)) (kf : ¬ x = 0 → ZW E G R cc own Ts n D tys cells slots w (pc + 3) L (st)) : ZW E G R cc own Ts n D tys cells slots w (pc) L (.int x :: st) := by
  obtain ⟨p, l, e, s, m, args, below, meth, c, A, Q⟩ := E
  intro hx hb hml hown hts hA hG hK H locs ls hP hD hS hl
  exact lv_if_eq hx hb d ht (fun h => kt h hx hb hml hown hts hA hG hK H locs ls hP hD hS hl) (fun h => kf h hx hb hml hown hts hA hG hK H locs ls hP hD hS hl)
theorem z_if_ne {x : Int32} {off : Int} (tgt : Nat) (d : decode cc pc = .ok (.ifCond .ne off, 3)) (ht : (pc : Int) + off = (tgt : Int)) (kt : ¬ x = 0 → ZW E G R cc own Ts n D tys cells slots w (tgt) L (st)) (kf : x = 0 → ZW E G R cc own Ts n D tys cells slots w (pc + 3) L (st)) : ZW E G R cc own Ts n D tys cells slots w (pc) L (.int x :: st) := by
  obtain ⟨p, l, e, s, m, args, below, meth, c, A, Q⟩ := E
  intro hx hb hml hown hts hA hG hK H locs ls hP hD hS hl
  exact lv_if_ne hx hb d ht (fun h => kt h hx hb hml hown hts hA hG hK H locs ls hP hD hS hl) (fun h => kf h hx hb hml hown hts hA hG hK H locs ls hP hD hS hl)
theorem z_if_lt {x : Int32} {off : Int} (tgt : Nat) (d : decode cc pc = .ok (.ifCond .lt off, 3)) (ht : (pc : Int) + off = (tgt : Int)) (kt : x < 0 → ZW E G R cc own Ts n D tys cells slots w (tgt) L (st)) (kf : ¬ x < 0 → ZW E G R cc own Ts n D tys cells slots w (pc + 3) L (st)) : ZW E G R cc own Ts n D tys cells slots w (pc) L (.int x :: st) := by
  obtain ⟨p, l, e, s, m, args, below, meth, c, A, Q⟩ := E
  intro hx hb hml hown hts hA hG hK H locs ls hP hD hS hl
  exact lv_if_lt hx hb d ht (fun h => kt h hx hb hml hown hts hA hG hK H locs ls hP hD hS hl) (fun h => kf h hx hb hml hown hts hA hG hK H locs ls hP hD hS hl)
theorem z_if_ge {x : Int32} {off : Int} (tgt : Nat) (d : decode cc pc = .ok (.ifCond .ge off, 3)) (ht : (pc : Int) + off = (tgt : Int)) (kt : 0 ≤ x → ZW E G R cc own Ts n D tys cells slots w (tgt) L (st)) (kf : ¬ 0 ≤ x → ZW E G R cc own Ts n D tys cells slots w (pc + 3) L (st)) : ZW E G R cc own Ts n D tys cells slots w (pc) L (.int x :: st) := by
  obtain ⟨p, l, e, s, m, args, below, meth, c, A, Q⟩ := E
  intro hx hb hml hown hts hA hG hK H locs ls hP hD hS hl
  exact lv_if_ge hx hb d ht (fun h => kt h hx hb hml hown hts hA hG hK H locs ls hP hD hS hl) (fun h => kf h hx hb hml hown hts hA hG hK H locs ls hP hD hS hl)
theorem z_icmp_eq {x y : Int32} {off : Int} (tgt : Nat) (d : decode cc pc = .ok (.if_icmp .eq off, 3)) (ht : (pc : Int) + off = (tgt : Int)) (kt : x = y → ZW E G R cc own Ts n D tys cells slots w (tgt) L (st)) (kf : ¬ x = y → ZW E G R cc own Ts n D tys cells slots w (pc + 3) L (st)) : ZW E G R cc own Ts n D tys cells slots w (pc) L (.int y :: .int x :: st) := by
  obtain ⟨p, l, e, s, m, args, below, meth, c, A, Q⟩ := E
  intro hx hb hml hown hts hA hG hK H locs ls hP hD hS hl
  exact lv_icmp_eq hx hb d ht (fun h => kt h hx hb hml hown hts hA hG hK H locs ls hP hD hS hl) (fun h => kf h hx hb hml hown hts hA hG hK H locs ls hP hD hS hl)
theorem z_icmp_ne {x y : Int32} {off : Int} (tgt : Nat) (d : decode cc pc = .ok (.if_icmp .ne off, 3)) (ht : (pc : Int) + off = (tgt : Int)) (kt : ¬ x = y → ZW E G R cc own Ts n D tys cells slots w (tgt) L (st)) (kf : x = y → ZW E G R cc own Ts n D tys cells slots w (pc + 3) L (st)) : ZW E G R cc own Ts n D tys cells slots w (pc) L (.int y :: .int x :: st) := by
  obtain ⟨p, l, e, s, m, args, below, meth, c, A, Q⟩ := E
  intro hx hb hml hown hts hA hG hK H locs ls hP hD hS hl
  exact lv_icmp_ne hx hb d ht (fun h => kt h hx hb hml hown hts hA hG hK H locs ls hP hD hS hl) (fun h => kf h hx hb hml hown hts hA hG hK H locs ls hP hD hS hl)
theorem z_icmp_lt {x y : Int32} {off : Int} (tgt : Nat) (d : decode cc pc = .ok (.if_icmp .lt off, 3)) (ht : (pc : Int) + off = (tgt : Int)) (kt : x < y → ZW E G R cc own Ts n D tys cells slots w (tgt) L (st)) (kf : ¬ x < y → ZW E G R cc own Ts n D tys cells slots w (pc + 3) L (st)) : ZW E G R cc own Ts n D tys cells slots w (pc) L (.int y :: .int x :: st) := by
  obtain ⟨p, l, e, s, m, args, below, meth, c, A, Q⟩ := E
  intro hx hb hml hown hts hA hG hK H locs ls hP hD hS hl
  exact lv_icmp_lt hx hb d ht (fun h => kt h hx hb hml hown hts hA hG hK H locs ls hP hD hS hl) (fun h => kf h hx hb hml hown hts hA hG hK H locs ls hP hD hS hl)
theorem z_icmp_ge {x y : Int32} {off : Int} (tgt : Nat) (d : decode cc pc = .ok (.if_icmp .ge off, 3)) (ht : (pc : Int) + off = (tgt : Int)) (kt : y ≤ x → ZW E G R cc own Ts n D tys cells slots w (tgt) L (st)) (kf : ¬ y ≤ x → ZW E G R cc own Ts n D tys cells slots w (pc + 3) L (st)) : ZW E G R cc own Ts n D tys cells slots w (pc) L (.int y :: .int x :: st) := by
  obtain ⟨p, l, e, s, m, args, below, meth, c, A, Q⟩ := E
  intro hx hb hml hown hts hA hG hK H locs ls hP hD hS hl
  exact lv_icmp_ge hx hb d ht (fun h => kt h hx hb hml hown hts hA hG hK H locs ls hP hD hS hl) (fun h => kf h hx hb hml hown hts hA hG hK H locs ls hP hD hS hl)
theorem z_icmp_gt {x y : Int32} {off : Int} (tgt : Nat) (d : decode cc pc = .ok (.if_icmp .gt off, 3)) (ht : (pc : Int) + off = (tgt : Int)) (kt : y < x → ZW E G R cc own Ts n D tys cells slots w (tgt) L (st)) (kf : ¬ y < x → ZW E G R cc own Ts n D tys cells slots w (pc + 3) L (st)) : ZW E G R cc own Ts n D tys cells slots w (pc) L (.int y :: .int x :: st) := by
  obtain ⟨p, l, e, s, m, args, below, meth, c, A, Q⟩ := E
  intro hx hb hml hown hts hA hG hK H locs ls hP hD hS hl
  exact lv_icmp_gt hx hb d ht (fun h => kt h hx hb hml hown hts hA hG hK H locs ls hP hD hS hl) (fun h => kf h hx hb hml hown hts hA hG hK H locs ls hP hD hS hl)
theorem z_icmp_le {x y : Int32} {off : Int} (tgt : Nat) (d : decode cc pc = .ok (.if_icmp .le off, 3)) (ht : (pc : Int) + off = (tgt : Int)) (kt : x ≤ y → ZW E G R cc own Ts n D tys cells slots w (tgt) L (st)) (kf : ¬ x ≤ y → ZW E G R cc own Ts n D tys cells slots w (pc + 3) L (st)) : ZW E G R cc own Ts n D tys cells slots w (pc) L (.int y :: .int x :: st) := by
  obtain ⟨p, l, e, s, m, args, below, meth, c, A, Q⟩ := E
  intro hx hb hml hown hts hA hG hK H locs ls hP hD hS hl
  exact lv_icmp_le hx hb d ht (fun h => kt h hx hb hml hown hts hA hG hK H locs ls hP hD hS hl) (fun h => kf h hx hb hml hown hts hA hG hK H locs ls hP hD hS hl)
theorem z_goto {off : Int} (tgt : Nat) (d : decode cc pc = .ok (.goto off, 3)) (ht : (pc : Int) + off = (tgt : Int)) (kk : ZW E G R cc own Ts n D tys cells slots w (tgt) L (st)) : ZW E G R cc own Ts n D tys cells slots w (pc) L (st) := by
  obtain ⟨p, l, e, s, m, args, below, meth, c, A, Q⟩ := E
  intro hx hb hml hown hts hA hG hK H locs ls hP hD hS hl
  exact lv_goto hx hb d ht (kk hx hb hml hown hts hA hG hK H locs ls hP hD hS hl)
theorem z_switch01 {x : Int32} {o0 o1 df : Int} {len : Nat} (t0 t1 td : Nat) (d : decode cc pc = .ok (.lookupswitch df #[(0, o0), (1, o1)], len)) (h0 : (pc : Int) + o0 = (t0 : Int)) (h1 : (pc : Int) + o1 = (t1 : Int)) (hd : (pc : Int) + df = (td : Int)) (k0 : x = 0 → ZW E G R cc own Ts n D tys cells slots w (t0) L (st)) (k1 : ¬ x = 0 → x = 1 → ZW E G R cc own Ts n D tys cells slots w (t1) L (st)) (kd : ¬ x = 0 → ¬ x = 1 → ZW E G R cc own Ts n D tys cells slots w (td) L (st)) : ZW E G R cc own Ts n D tys cells slots w (pc) L (.int x :: st) := by
  obtain ⟨p, l, e, s, m, args, below, meth, c, A, Q⟩ := E
  intro hx hb hml hown hts hA hG hK H locs ls hP hD hS hl
  have e0 : ∀ y : Int32, x.toInt = y.toInt ↔ x = y := fun y => ⟨fun h => by rw [← Int32.ofInt_toInt x, h, Int32.ofInt_toInt], fun h => by rw [h]⟩
  by_cases q0 : x = 0
  · refine lv_lookup hx hb d rfl (off := o0) ?_ h0 (k0 q0 hx hb hml hown hts hA hG hK H locs ls hP hD hS hl)
    rw [q0]; rfl
  · by_cases q1 : x = 1
    · refine lv_lookup hx hb d rfl (off := o1) ?_ h1 (k1 q0 q1 hx hb hml hown hts hA hG hK H locs ls hP hD hS hl)
      rw [q1]; rfl
    · refine lv_lookup hx hb d rfl (off := df) ?_ hd (kd q0 q1 hx hb hml hown hts hA hG hK H locs ls hP hD hS hl)
      have n0 : ¬ x.toInt = 0 := fun h => q0 ((e0 0).mp h)
      have n1 : ¬ x.toInt = 1 := fun h => q1 ((e0 1).mp h)
      simp [Op.lookupswitch.offset, Ne.symm n0, Ne.symm n1, n0, n1]
theorem z_get {ref C : String} {T : u_T} {N ci index a : Nat} {fs : List Value} {v : Value} (hin : ∀ w ∈ u_ws C T N, w ∈ Ts) (q0 : Nat) (he : w[q0]? = some (a, .inr (ci, fs))) (hc : vwCl[ci]? = some (C, T, N)) (k : Nat) (hk : k < N) (hlink : Cond.fieldLink own index ref (T k).2.1 (T k).2.2.1 ∈ Ts) (hsame : (T k).1 = ref) (hv : fs[k]? = some v) (d : decode cc pc = .ok (.getfield index, 3)) (kk : ZW E G R cc own Ts n D tys cells slots w (pc + 3) L (v :: st)) : ZW E G R cc own Ts n D tys cells slots w (pc) L (.ref a :: st) := by
  obtain ⟨p, l, e, s, m, args, below, meth, c, A, Q⟩ := E
  intro hx hb hml hown hts hA hG hK H locs ls hP hD hS hl
  exact va_get hx hb hts hin hown hK hP q0 he hc k hk (hts _ hlink) (fun x h => by rw [← hsame]; exact h) hv d (kk hx hb hml hown hts hA hG hK H locs ls hP hD hS hl)
theorem z_put {ref C : String} {T : u_T} {N ci index a : Nat} {fs : List Value} {v : Value} (hin : ∀ w ∈ u_ws C T N, w ∈ Ts) (q0 : Nat) (he : w[q0]? = some (a, .inr (ci, fs))) (hc : vwCl[ci]? = some (C, T, N)) (k : Nat) (hk : k < N) (hlink : Cond.fieldLink own index ref (T k).2.1 (T k).2.2.1 ∈ Ts) (hsame : (T k).1 = ref) (ty0 : Nat → FieldType) (hty : ∀ k, k < N → parseFieldDescriptor (T k).2.2.1 = some (ty0 k)) (hnm : ∀ a, a < N → ∀ b, b < N → a ≠ b → (T a).2.1 ≠ (T b).2.1) (hfin : (T k).2.2.2 = false) (hn : narrow (ty0 k) v = v) (hfit : fits (ty0 k) v = true) (hl9 : k < fs.length) {w' : va_W} (hw : w.set q0 (a, .inr (ci, fs.set k v)) = w') (d : decode cc pc = .ok (.putfield index, 3)) (kk : ZW E G R cc own Ts n D tys cells slots w' (pc + 3) L (st)) : ZW E G R cc own Ts n D tys cells slots w (pc) L (v :: .ref a :: st) := by
  obtain ⟨p, l, e, s, m, args, below, meth, c, A, Q⟩ := E
  intro hx hb hml hown hts hA hG hK H locs ls hP hD hS hl
  subst hw
  exact va_put hx hb hts hin ty0 hty hnm hown hK hP hD hS q0 he hc k hk (hts _ hlink) (fun x h => by rw [← hsame]; exact h) hfin (hty k hk) hn hfit hl9 d (fun H1 locs1 hP1 hD1 hS1 => kk hx hb hml hown hts hA hG hK H1 locs1 ls hP1 hD1 hS1 hl)
theorem z_iald {a : Nat} {cA : ClassId} {N : Nat} {f : Nat → Int32} {i v : Int32} (q0 t0 : Nat) (ha : w[q0]? = some (a, .inl (cA, N, .inl f))) (ht : tys[t0]? = some (cA, .int)) (hin : vp_in i N) (hv : f i.toNatClampNeg = v) (d : decode cc pc = .ok (.iaload, 1)) (kk : ZW E G R cc own Ts n D tys cells slots w (pc + 1) L (.int v :: st)) : ZW E G R cc own Ts n D tys cells slots w (pc) L (.int i :: .ref a :: st) := by
  obtain ⟨p, l, e, s, m, args, below, meth, c, A, Q⟩ := E
  intro hx hb hml hown hts hA hG hK H locs ls hP hD hS hl
  subst hv
  exact va_iald hx hb hK hP q0 t0 ha ht hin d (kk hx hb hml hown hts hA hG hK H locs ls hP hD hS hl)
theorem z_zald {a : Nat} {cA : ClassId} {N : Nat} {f : Nat → Int32} {i v : Int32} (q0 t0 : Nat) (ha : w[q0]? = some (a, .inl (cA, N, .inl f))) (ht : tys[t0]? = some (cA, .boolean)) (hin : vp_in i N) (hv : f i.toNatClampNeg = v) (d : decode cc pc = .ok (.baload, 1)) (kk : ZW E G R cc own Ts n D tys cells slots w (pc + 1) L (.int v :: st)) : ZW E G R cc own Ts n D tys cells slots w (pc) L (.int i :: .ref a :: st) := by
  obtain ⟨p, l, e, s, m, args, below, meth, c, A, Q⟩ := E
  intro hx hb hml hown hts hA hG hK H locs ls hP hD hS hl
  subst hv
  exact va_zald hx hb hK hP q0 t0 ha ht hin d (kk hx hb hml hown hts hA hG hK H locs ls hP hD hS hl)
theorem z_iast {a : Nat} {cA : ClassId} {N : Nat} {f : Nat → Int32} {i x : Int32} (q0 t0 : Nat) (ha : w[q0]? = some (a, .inl (cA, N, .inl f))) (ht : tys[t0]? = some (cA, .int)) (hin : vp_in i N) {w' : va_W} (hw : w.set q0 (a, .inl (cA, N, .inl (upd f i.toNatClampNeg x))) = w') (d : decode cc pc = .ok (.iastore, 1)) (kk : ZW E G R cc own Ts n D tys cells slots w' (pc + 1) L (st)) : ZW E G R cc own Ts n D tys cells slots w (pc) L (.int x :: .int i :: .ref a :: st) := by
  obtain ⟨p, l, e, s, m, args, below, meth, c, A, Q⟩ := E
  intro hx hb hml hown hts hA hG hK H locs ls hP hD hS hl
  subst hw
  exact va_iast hx hb hK hP hD hS q0 t0 ha ht hin d (fun H1 locs1 hP1 hD1 hS1 => kk hx hb hml hown hts hA hG hK H1 locs1 ls hP1 hD1 hS1 hl)
theorem z_zast {a : Nat} {cA : ClassId} {N : Nat} {f : Nat → Int32} {i x : Int32} (q0 t0 : Nat) (ha : w[q0]? = some (a, .inl (cA, N, .inl f))) (ht : tys[t0]? = some (cA, .boolean)) (hin : vp_in i N) {w' : va_W} (hw : w.set q0 (a, .inl (cA, N, .inl (upd f i.toNatClampNeg (vp_nar .boolean x)))) = w') (d : decode cc pc = .ok (.bastore, 1)) (kk : ZW E G R cc own Ts n D tys cells slots w' (pc + 1) L (st)) : ZW E G R cc own Ts n D tys cells slots w (pc) L (.int x :: .int i :: .ref a :: st) := by
  obtain ⟨p, l, e, s, m, args, below, meth, c, A, Q⟩ := E
  intro hx hb hml hown hts hA hG hK H locs ls hP hD hS hl
  subst hw
  exact va_zast hx hb hK hP hD hS q0 t0 ha ht hin d (fun H1 locs1 hP1 hD1 hS1 => kk hx hb hml hown hts hA hG hK H1 locs1 ls hP1 hD1 hS1 hl)
end ZRows
theorem z_ofW {l : Launch} {y : MethodName} {ws ws' : List Cond} {rm : Room} {Pc : Array Value → State → Prop} {Qc : Array Value → State → Outcome → State → Prop} {mc ms : Nat} {free : Addr → Prop} {cc : ByteArray} {maxL : Nat} {ret : Option FieldType}
    (hy : plainFor y = true) (hw : ws = Cond.code y cc maxL ret :: ws')
    (body : ∀ p e s m args below meth c s₁, BodyLoose p l y (headSpec ws rm) cc maxL ret e s m args below meth c s₁ → c.maxLocals = maxL → Pc args s →
      W p l e (headSpec ws rm).room s m args below meth c s.heap [] 0 0 (MQ below Qc args s mc ms free) (entryFrame m args maxL)) : Met l y ws rm Pc Qc mc ms free := by
  refine MetFree.of_bodySF (code := cc) (maxLocals := maxL) (ret := ret) hy ?_ ?_
  · intro args s m h hn
    obtain ⟨meth, c, h1, h2, h3, h4, h5, h6, -, -⟩ := Cond.code_spec hn (atoms_spec (ws := ws) h _ (by rw [hw]; exact List.mem_cons_self))
    exact ⟨meth, c, h1, h2, h3, h4, h5, h6⟩
  · intro p e s m args below meth c s₁ B hml hP _
    have hh0 : s₁.heap = s.heap := by rw [B.state]; rfl
    obtain ⟨t, a1, o, b1, b2, b3⟩ := body p e s m args below meth c s₁ B hml hP s₁ hh0 (Stand.of_body B)
    exact ⟨t, o, a1, b1, b2, ⟨b3.1, b3.2⟩⟩
/-- a method's start: the world w0, and nothing but that is asked -/
def zPc (G : State → (Nat → Prop) → Prop) (D : va_G) (tys : List (ClassId × FieldType)) (w0 : va_W) (sz : Nat) (av : List Value) : Array Value → State → Prop := va_Pc av (fun U => U.heap.size = sz ∧ va_P D vwCl w0 U.heap ∧ va_K D vwCl tys U ∧ va_D (fun _ => True) w0 ∧ G U (va_A w0 sz))
def zB {σ : Type} (D : va_G) (tys : List (ClassId × FieldType)) (w0 : va_W) (sz : Nat) (wf : σ → va_W) : σ → State → Prop := fun u t => va_P D vwCl (wf u) t.heap ∧ va_K D vwCl tys t ∧ va_D (va_A w0 sz) (wf u)
/-- a contract with an int (or boolean) answer -/
def zMi {σ : Type} (l : Launch) (y : MethodName) (ws : List Cond) (rm : Room) (G : State → (Nat → Prop) → Prop) (D : va_G) (tys : List (ClassId × FieldType)) (w0 : va_W) (av : List Value) (post : Int32 → σ → Prop) (wf : σ → va_W) (mc ms : Nat) : Prop :=
  ∀ sz : Nat, Met l y ws rm (zPc G D tys w0 sz av) (va_Qi post (zB D tys w0 sz wf) (va_A w0 sz)) mc ms (va_A w0 sz)
def zMv {σ : Type} (l : Launch) (y : MethodName) (ws : List Cond) (rm : Room) (G : State → (Nat → Prop) → Prop) (D : va_G) (tys : List (ClassId × FieldType)) (w0 : va_W) (av : List Value) (post : σ → Prop) (wf : σ → va_W) (mc ms : Nat) : Prop :=
  ∀ sz : Nat, Met l y ws rm (zPc G D tys w0 sz av) (va_Qv post (zB D tys w0 sz wf) (va_A w0 sz)) mc ms (va_A w0 sz)
def zTT : State → (Nat → Prop) → Prop := fun _ _ => True
/-- what a surrounding fact needs, to be handed on to a callee -/
def zGok (G : State → (Nat → Prop) → Prop) : Prop := (∀ (a : Array Value) (U : State) (g : JFrame) (mk : MethodId) (A : Nat → Prop), G U A → G (U.calling g mk a) A) ∧ ∀ (s U : State) (A B : Nat → Prop) (locs : List Loc), G s A → s.WarmedH U.vm → va_S A s.heap U.heap locs → (∀ q, B q → A q) → G U B
theorem zGok_TT : zGok zTT := ⟨fun _ _ _ _ _ _ => trivial, fun _ _ _ _ _ _ _ _ _ => trivial⟩
theorem z_cut {A : Nat → Prop} {w : va_W} {H0 H : Heap} {locs : List Loc} (hD : va_D A w) (hS : va_S A H0 H locs) (hA : ∀ q, H0.size ≤ q → A q) : ∀ q, va_A w H.size q → A q := fun q h => h.elim (fun ⟨k, e, hk⟩ => hD.2 k _ hk) (fun h => hA q (Nat.le_trans hS.1 h))

theorem z_startI {σ : Type} {post : Int32 → σ → Prop} {wf : σ → va_W} {l : Launch} {y : MethodName} {ws ws' : List Cond} {rm : Room} {G : State → (Nat → Prop) → Prop} {D : va_G} {tys : List (ClassId × FieldType)} {w0 : va_W} {av : List Value} {cc : ByteArray} {n : Nat} {own : String} {L0 : List (Nat × Value)} (hy : plainFor y = true) (hw : ws = Cond.code y cc n (some .int) :: ws') (ho : y.cls = own) (hn : (lg_sl av).length ≤ n) (hL : lv_args 0 av = L0)
    (body : ∀ E : ZE, (∀ (r : Int32) (u : σ) (pc : Nat) (L : List (Nat × Value)) (w' : va_W), decode cc pc = .ok (.ireturn, 1) → post r u → w' = wf u → ZW E G rm cc own ws n D tys 0 0 w' pc L [.int r]) → ZW E G rm cc own ws n D tys 0 0 w0 0 L0 []) : zMi l y ws rm G D tys w0 av post wf 0 0 := by
  intro sz
  refine z_ofW (cc := cc) (maxL := n) (ret := some .int) hy hw ?_
  intro p e s m args below meth c s₁ B hml hv
  obtain ⟨rfl, hsz, hP, hK, hD0, hG⟩ := hv
  have hr := B.returns
  have hlocks := B.notSynchronized
  have hown : s.vm.findClass own = some m.cls := by rw [← ho]; exact findClass_of_methodNamed B.named
  have hts := atoms_spec (ws := ws) B.pre
  subst hsz
  have hl := lv_entry av (n := n) hn
  rw [lg_entry_eq]
  rw [hL] at hl
  refine body (p, l, e, s, m, av.toArray, below, meth, c, va_A w0 s.heap.size, _) ?_ B.exec B.bytes hml hown hts (fun q h => Or.inr h) hG hK s.heap [] _ hP hD0.self va_S.rf hl
  · intro r u pc L w' d hpost hw hx hb hml2 hown2 hts2 hA2 hG2 hK2 H locs ls hP2 hD2 hS2 hl2
    subst hw
    exact W.iret (v := r) hx hb hr (fun t ht hW => ⟨⟨r, u, rfl, hpost, by rw [ht]; exact hP2, va_K.moved hW.alike hK2, hD2⟩, hS2.F ht⟩) hS2.2.2 d
theorem z_startZ {σ : Type} {post : Int32 → σ → Prop} {wf : σ → va_W} {l : Launch} {y : MethodName} {ws ws' : List Cond} {rm : Room} {G : State → (Nat → Prop) → Prop} {D : va_G} {tys : List (ClassId × FieldType)} {w0 : va_W} {av : List Value} {cc : ByteArray} {n : Nat} {own : String} {L0 : List (Nat × Value)} (hy : plainFor y = true) (hw : ws = Cond.code y cc n (some .boolean) :: ws') (ho : y.cls = own) (hn : (lg_sl av).length ≤ n) (hL : lv_args 0 av = L0)
    (body : ∀ E : ZE, (∀ (r : Int32) (u : σ) (pc : Nat) (L : List (Nat × Value)) (w' : va_W), decode cc pc = .ok (.ireturn, 1) → post r u → w' = wf u → narrow .boolean (.int r) = .int r → ZW E G rm cc own ws n D tys 0 0 w' pc L [.int r]) → ZW E G rm cc own ws n D tys 0 0 w0 0 L0 []) : zMi l y ws rm G D tys w0 av post wf 0 0 := by
  intro sz
  refine z_ofW (cc := cc) (maxL := n) (ret := some .boolean) hy hw ?_
  intro p e s m args below meth c s₁ B hml hv
  obtain ⟨rfl, hsz, hP, hK, hD0, hG⟩ := hv
  have hr := B.returns
  have hlocks := B.notSynchronized
  have hown : s.vm.findClass own = some m.cls := by rw [← ho]; exact findClass_of_methodNamed B.named
  have hts := atoms_spec (ws := ws) B.pre
  subst hsz
  have hl := lv_entry av (n := n) hn
  rw [lg_entry_eq]
  rw [hL] at hl
  refine body (p, l, e, s, m, av.toArray, below, meth, c, va_A w0 s.heap.size, _) ?_ B.exec B.bytes hml hown hts (fun q h => Or.inr h) hG hK s.heap [] _ hP hD0.self va_S.rf hl
  · intro r u pc L w' d hpost hw hnar hx hb hml2 hown2 hts2 hA2 hG2 hK2 H locs ls hP2 hD2 hS2 hl2
    subst hw
    exact W.zret (v := r) hx hb hr hnar (fun t ht hW => ⟨⟨r, u, rfl, hpost, by rw [ht]; exact hP2, va_K.moved hW.alike hK2, hD2⟩, hS2.F ht⟩) hS2.2.2 d
theorem z_startV {σ : Type} {post : σ → Prop} {wf : σ → va_W} {l : Launch} {y : MethodName} {ws ws' : List Cond} {rm : Room} {G : State → (Nat → Prop) → Prop} {D : va_G} {tys : List (ClassId × FieldType)} {w0 : va_W} {av : List Value} {cc : ByteArray} {n : Nat} {own : String} {L0 : List (Nat × Value)} (hy : plainFor y = true) (hw : ws = Cond.code y cc n (none) :: ws') (ho : y.cls = own) (hn : (lg_sl av).length ≤ n) (hL : lv_args 0 av = L0)
    (body : ∀ E : ZE, (∀ (u : σ) (pc : Nat) (L : List (Nat × Value)) (w' : va_W), decode cc pc = .ok (.return_, 1) → post u → w' = wf u → ZW E G rm cc own ws n D tys 0 0 w' pc L []) → ZW E G rm cc own ws n D tys 0 0 w0 0 L0 []) : zMv l y ws rm G D tys w0 av post wf 0 0 := by
  intro sz
  refine z_ofW (cc := cc) (maxL := n) (ret := none) hy hw ?_
  intro p e s m args below meth c s₁ B hml hv
  obtain ⟨rfl, hsz, hP, hK, hD0, hG⟩ := hv
  have hr := B.returns
  have hlocks := B.notSynchronized
  have hown : s.vm.findClass own = some m.cls := by rw [← ho]; exact findClass_of_methodNamed B.named
  have hts := atoms_spec (ws := ws) B.pre
  subst hsz
  have hl := lv_entry av (n := n) hn
  rw [lg_entry_eq]
  rw [hL] at hl
  refine body (p, l, e, s, m, av.toArray, below, meth, c, va_A w0 s.heap.size, _) ?_ B.exec B.bytes hml hown hts (fun q h => Or.inr h) hG hK s.heap [] _ hP hD0.self va_S.rf hl
  · intro u pc L w' d hpost hw hx hb hml2 hown2 hts2 hA2 hG2 hK2 H locs ls hP2 hD2 hS2 hl2
    subst hw
    exact W.vret hx hb hr (fun t ht hW => ⟨⟨u, rfl, hpost, by rw [ht]; exact hP2, va_K.moved hW.alike hK2, hD2⟩, hS2.F ht⟩) hS2.2.2 d
theorem z_callVi {E : ZE} {G GY : State → (Nat → Prop) → Prop} {R : Room} {cc : ByteArray} {own : String} {Ts : List Cond} {n : Nat} {D : va_G} {tys : List (ClassId × FieldType)} {cells slots mc ms : Nat} {w : va_W} {pc : Nat} {L : List (Nat × Value)} {st st0 : List Value} {σ : Type} {post : Int32 → σ → Prop} {wf : σ → va_W} {idx maxL k : Nat} {y : MethodName} {bytes : ByteArray} {ret : Option FieldType} {ws : List Cond} {rm : Room} {As : List Value} {C : String} {b ci : Nat} {q : vw_C} {fs : List Value}
    (hM : ∀ l : Launch, zMi l y ws rm GY D tys w (.ref b :: As) post wf mc ms) (hGY : zGok GY) (hGG : ∀ s A, G s A → GY s A) (cw : ∀ (s : State) (args : Array Value), (∀ w ∈ Ts, w.before args s = true) → CallW R s args own C idx y bytes maxL ret ws rm mc ms k) (hc : vwCl[ci]? = some q) (hC : q.1 = C) (he : w[0]? = some (b, .inr (ci, fs))) (hn : As.length = k) (hcat : (st.map fun v => v.category).sum ≤ 8) (hR : cells + mc ≤ R.cells ∧ slots + ms ≤ R.slots) (d : decode cc pc = .ok (.invokevirtual idx, 3)) (hst : st0 = As.reverse ++ .ref b :: st)
    (kk : ∀ (r : Int32) (u : σ), post r u → ZW E G R cc own Ts n D tys (cells + mc) (slots + ms) (wf u) (pc + 3) L (.int r :: st)) : ZW E G R cc own Ts n D tys cells slots w pc L st0 := by
  obtain ⟨p, l, e, s, m, args, below, meth, c, A, Q⟩ := E
  intro hx hb hml hown hts hA hG hK H locs ls hP hD hS hl
  subst hst
  have hFc := z_cut hD hS hA
  refine va_calli (va_runV (As := As) (rest := st) ⟨hx, hb, hml, hown, hts⟩ (hM l H.size) (cw s args hts) ⟨fun a U g mk q => by obtain ⟨q0, q1, qP, qK, qD, qG⟩ := q; exact ⟨q0, q1, qP, va_K.moved (u := U) (U := U.calling g mk a) (Vm.Alike.refl U.vm) qK, qD, hGY.1 a U g mk _ qG⟩, by rw [← hC]; exact va_recv hK hP hc he, fun U hU hW => ⟨rfl, by rw [hU], by rw [hU]; exact hP, va_K.moved hW.alike hK, hD.weaken (fun _ _ _ _ => trivial), hGY.2 s U A _ locs (hGG s A hG) hW (by rw [hU]; exact hS) hFc⟩⟩ rfl hn hl.1 rfl (lv_room hcat) d hR) hS (fun q _ h => hFc q h) hFc (fun r u t H1 locs1 ht hvm hw hB hk1 hk2 hS1 => ?_)
  obtain ⟨hP1, hK1, hD1⟩ := hB
  rw [ht] at hP1
  exact kk r u hw hx hb hml hown hts hA hG hK H1 locs1 ls hP1 (hD1.weaken (fun _ _ _ h => hFc _ h)) hS1 hl
theorem z_callVv {E : ZE} {G GY : State → (Nat → Prop) → Prop} {R : Room} {cc : ByteArray} {own : String} {Ts : List Cond} {n : Nat} {D : va_G} {tys : List (ClassId × FieldType)} {cells slots mc ms : Nat} {w : va_W} {pc : Nat} {L : List (Nat × Value)} {st st0 : List Value} {σ : Type} {post : σ → Prop} {wf : σ → va_W} {idx maxL k : Nat} {y : MethodName} {bytes : ByteArray} {ret : Option FieldType} {ws : List Cond} {rm : Room} {As : List Value} {C : String} {b ci : Nat} {q : vw_C} {fs : List Value}
    (hM : ∀ l : Launch, zMv l y ws rm GY D tys w (.ref b :: As) post wf mc ms) (hGY : zGok GY) (hGG : ∀ s A, G s A → GY s A) (cw : ∀ (s : State) (args : Array Value), (∀ w ∈ Ts, w.before args s = true) → CallW R s args own C idx y bytes maxL ret ws rm mc ms k) (hc : vwCl[ci]? = some q) (hC : q.1 = C) (he : w[0]? = some (b, .inr (ci, fs))) (hn : As.length = k) (hcat : (st.map fun v => v.category).sum ≤ 8) (hR : cells + mc ≤ R.cells ∧ slots + ms ≤ R.slots) (d : decode cc pc = .ok (.invokevirtual idx, 3)) (hst : st0 = As.reverse ++ .ref b :: st)
    (kk : ∀ (u : σ), post u → ZW E G R cc own Ts n D tys (cells + mc) (slots + ms) (wf u) (pc + 3) L st) : ZW E G R cc own Ts n D tys cells slots w pc L st0 := by
  obtain ⟨p, l, e, s, m, args, below, meth, c, A, Q⟩ := E
  intro hx hb hml hown hts hA hG hK H locs ls hP hD hS hl
  subst hst
  have hFc := z_cut hD hS hA
  refine va_callv (va_runV (As := As) (rest := st) ⟨hx, hb, hml, hown, hts⟩ (hM l H.size) (cw s args hts) ⟨fun a U g mk q => by obtain ⟨q0, q1, qP, qK, qD, qG⟩ := q; exact ⟨q0, q1, qP, va_K.moved (u := U) (U := U.calling g mk a) (Vm.Alike.refl U.vm) qK, qD, hGY.1 a U g mk _ qG⟩, by rw [← hC]; exact va_recv hK hP hc he, fun U hU hW => ⟨rfl, by rw [hU], by rw [hU]; exact hP, va_K.moved hW.alike hK, hD.weaken (fun _ _ _ _ => trivial), hGY.2 s U A _ locs (hGG s A hG) hW (by rw [hU]; exact hS) hFc⟩⟩ rfl hn hl.1 rfl (lv_room hcat) d hR) hS (fun q _ h => hFc q h) hFc (fun u t H1 locs1 ht hvm hw hB hk1 hk2 hS1 => ?_)
  obtain ⟨hP1, hK1, hD1⟩ := hB
  rw [ht] at hP1
  exact kk u hw hx hb hml hown hts hA hG hK H1 locs1 ls hP1 (hD1.weaken (fun _ _ _ h => hFc _ h)) hS1 hl
theorem z_callSi {E : ZE} {G GY : State → (Nat → Prop) → Prop} {R : Room} {cc : ByteArray} {own : String} {Ts : List Cond} {n : Nat} {D : va_G} {tys : List (ClassId × FieldType)} {cells slots mc ms : Nat} {w : va_W} {pc : Nat} {L : List (Nat × Value)} {st st0 : List Value} {σ : Type} {post : Int32 → σ → Prop} {wf : σ → va_W} {idx maxL k : Nat} {y : MethodName} {bytes : ByteArray} {ret : Option FieldType} {ws : List Cond} {rm : Room} {As : List Value} 
    (hM : ∀ l : Launch, zMi l y ws rm GY D tys w As post wf mc ms) (hGY : zGok GY) (hGG : ∀ s A, G s A → GY s A) (cw : ∀ (s : State) (args : Array Value), (∀ w ∈ Ts, w.before args s = true) → CallB R s args own idx y bytes maxL ret ws rm mc ms k ∧ (Cond.static y).before args s = true)  (hn : As.length = k) (hcat : (st.map fun v => v.category).sum ≤ 8) (hR : cells + mc ≤ R.cells ∧ slots + ms ≤ R.slots) (d : decode cc pc = .ok (.invokestatic idx, 3)) (hst : st0 = As.reverse ++ st)
    (kk : ∀ (r : Int32) (u : σ), post r u → ZW E G R cc own Ts n D tys (cells + mc) (slots + ms) (wf u) (pc + 3) L (.int r :: st)) : ZW E G R cc own Ts n D tys cells slots w pc L st0 := by
  obtain ⟨p, l, e, s, m, args, below, meth, c, A, Q⟩ := E
  intro hx hb hml hown hts hA hG hK H locs ls hP hD hS hl
  subst hst
  have hFc := z_cut hD hS hA
  refine va_calli (va_runS (As := As) (rest := st) ⟨hx, hb, hml, hown, hts⟩ (hM l H.size) (cw s args hts) ⟨fun a U g mk q => by obtain ⟨q0, q1, qP, qK, qD, qG⟩ := q; exact ⟨q0, q1, qP, va_K.moved (u := U) (U := U.calling g mk a) (Vm.Alike.refl U.vm) qK, qD, hGY.1 a U g mk _ qG⟩, fun U hU hW => ⟨rfl, by rw [hU], by rw [hU]; exact hP, va_K.moved hW.alike hK, hD.weaken (fun _ _ _ _ => trivial), hGY.2 s U A _ locs (hGG s A hG) hW (by rw [hU]; exact hS) hFc⟩⟩ rfl hn hl.1 rfl (lv_room hcat) d hR) hS (fun q _ h => hFc q h) hFc (fun r u t H1 locs1 ht hvm hw hB hk1 hk2 hS1 => ?_)
  obtain ⟨hP1, hK1, hD1⟩ := hB
  rw [ht] at hP1
  exact kk r u hw hx hb hml hown hts hA hG hK H1 locs1 ls hP1 (hD1.weaken (fun _ _ _ h => hFc _ h)) hS1 hl
theorem z_callSv {E : ZE} {G GY : State → (Nat → Prop) → Prop} {R : Room} {cc : ByteArray} {own : String} {Ts : List Cond} {n : Nat} {D : va_G} {tys : List (ClassId × FieldType)} {cells slots mc ms : Nat} {w : va_W} {pc : Nat} {L : List (Nat × Value)} {st st0 : List Value} {σ : Type} {post : σ → Prop} {wf : σ → va_W} {idx maxL k : Nat} {y : MethodName} {bytes : ByteArray} {ret : Option FieldType} {ws : List Cond} {rm : Room} {As : List Value} 
    (hM : ∀ l : Launch, zMv l y ws rm GY D tys w As post wf mc ms) (hGY : zGok GY) (hGG : ∀ s A, G s A → GY s A) (cw : ∀ (s : State) (args : Array Value), (∀ w ∈ Ts, w.before args s = true) → CallB R s args own idx y bytes maxL ret ws rm mc ms k ∧ (Cond.static y).before args s = true)  (hn : As.length = k) (hcat : (st.map fun v => v.category).sum ≤ 8) (hR : cells + mc ≤ R.cells ∧ slots + ms ≤ R.slots) (d : decode cc pc = .ok (.invokestatic idx, 3)) (hst : st0 = As.reverse ++ st)
    (kk : ∀ (u : σ), post u → ZW E G R cc own Ts n D tys (cells + mc) (slots + ms) (wf u) (pc + 3) L st) : ZW E G R cc own Ts n D tys cells slots w pc L st0 := by
  obtain ⟨p, l, e, s, m, args, below, meth, c, A, Q⟩ := E
  intro hx hb hml hown hts hA hG hK H locs ls hP hD hS hl
  subst hst
  have hFc := z_cut hD hS hA
  refine va_callv (va_runS (As := As) (rest := st) ⟨hx, hb, hml, hown, hts⟩ (hM l H.size) (cw s args hts) ⟨fun a U g mk q => by obtain ⟨q0, q1, qP, qK, qD, qG⟩ := q; exact ⟨q0, q1, qP, va_K.moved (u := U) (U := U.calling g mk a) (Vm.Alike.refl U.vm) qK, qD, hGY.1 a U g mk _ qG⟩, fun U hU hW => ⟨rfl, by rw [hU], by rw [hU]; exact hP, va_K.moved hW.alike hK, hD.weaken (fun _ _ _ _ => trivial), hGY.2 s U A _ locs (hGG s A hG) hW (by rw [hU]; exact hS) hFc⟩⟩ rfl hn hl.1 rfl (lv_room hcat) d hR) hS (fun q _ h => hFc q h) hFc (fun u t H1 locs1 ht hvm hw hB hk1 hk2 hS1 => ?_)
  obtain ⟨hP1, hK1, hD1⟩ := hB
  rw [ht] at hP1
  exact kk u hw hx hb hml hown hts hA hG hK H1 locs1 ls hP1 (hD1.weaken (fun _ _ _ h => hFc _ h)) hS1 hl
end
section
/-- a state of a class: its int fields by their slots, its arrays by the slots of their fields -/
abbrev SX : Type := (Nat → Int32) × (Nat → Nat → Int32)
def pF (u : SX) (k : Nat) (x : Int32) : SX := (upd u.1 k x, u.2)
def pG (u : SX) (k i : Nat) (x : Int32) : SX := (u.1, va_up u.2 k (upd (u.2 k) i x))
def ix (x : Int32) : Nat := x.toNatClampNeg
def fX0 (a : Nat → Nat) (u : SX) : List Value := [.ref (a 0), .ref (a 1), .int (u.1 2), .int (u.1 3), .int (u.1 4), .ref (a 5), .ref (a 6), .ref (a 7), .ref (a 8), .ref (a 9), .int (u.1 10), .ref (a 11), .ref (a 12), .ref (a 13), .ref (a 14), .ref (a 15), .int (u.1 16), .int (u.1 17), .int (u.1 18)]
def wX0 (cI cZ : ClassId) (h : Nat) (a : Nat → Nat) (u : SX) : va_W := [(h, .inr (0, fX0 a u)), (a 0, .inl (cI, 8, .inl (u.2 0))), (a 1, .inl (cI, 6, .inl (u.2 1))), (a 5, .inl (cI, 16, .inl (u.2 5))), (a 6, .inl (cI, 16, .inl (u.2 6))), (a 7, .inl (cI, 16, .inl (u.2 7))), (a 8, .inl (cI, 16, .inl (u.2 8))), (a 9, .inl (cI, 16, .inl (u.2 9))), (a 11, .inl (cZ, 120, .inl (u.2 11))), (a 12, .inl (cI, 120, .inl (u.2 12))), (a 13, .inl (cI, 120, .inl (u.2 13))), (a 14, .inl (cI, 120, .inl (u.2 14))), (a 15, .inl (cI, 80, .inl (u.2 15)))]
theorem wX0_g0 (cI cZ : ClassId) (h : Nat) (a : Nat → Nat) (u : SX) (i : Nat) (x : Int32) : (wX0 cI cZ h a u).set 1 (a 0, .inl (cI, 8, .inl (upd (u.2 0) i x))) = wX0 cI cZ h a (pG u 0 i x) := rfl
theorem wX0_g1 (cI cZ : ClassId) (h : Nat) (a : Nat → Nat) (u : SX) (i : Nat) (x : Int32) : (wX0 cI cZ h a u).set 2 (a 1, .inl (cI, 6, .inl (upd (u.2 1) i x))) = wX0 cI cZ h a (pG u 1 i x) := rfl
theorem wX0_p2 (cI cZ : ClassId) (h : Nat) (a : Nat → Nat) (u : SX) (x : Int32) : (wX0 cI cZ h a u).set 0 (h, .inr (0, (fX0 a u).set 2 (.int x))) = wX0 cI cZ h a (pF u 2 x) := rfl
theorem wX0_p3 (cI cZ : ClassId) (h : Nat) (a : Nat → Nat) (u : SX) (x : Int32) : (wX0 cI cZ h a u).set 0 (h, .inr (0, (fX0 a u).set 3 (.int x))) = wX0 cI cZ h a (pF u 3 x) := rfl
theorem wX0_p4 (cI cZ : ClassId) (h : Nat) (a : Nat → Nat) (u : SX) (x : Int32) : (wX0 cI cZ h a u).set 0 (h, .inr (0, (fX0 a u).set 4 (.int x))) = wX0 cI cZ h a (pF u 4 x) := rfl
theorem wX0_g5 (cI cZ : ClassId) (h : Nat) (a : Nat → Nat) (u : SX) (i : Nat) (x : Int32) : (wX0 cI cZ h a u).set 3 (a 5, .inl (cI, 16, .inl (upd (u.2 5) i x))) = wX0 cI cZ h a (pG u 5 i x) := rfl
theorem wX0_g6 (cI cZ : ClassId) (h : Nat) (a : Nat → Nat) (u : SX) (i : Nat) (x : Int32) : (wX0 cI cZ h a u).set 4 (a 6, .inl (cI, 16, .inl (upd (u.2 6) i x))) = wX0 cI cZ h a (pG u 6 i x) := rfl
theorem wX0_g7 (cI cZ : ClassId) (h : Nat) (a : Nat → Nat) (u : SX) (i : Nat) (x : Int32) : (wX0 cI cZ h a u).set 5 (a 7, .inl (cI, 16, .inl (upd (u.2 7) i x))) = wX0 cI cZ h a (pG u 7 i x) := rfl
theorem wX0_g8 (cI cZ : ClassId) (h : Nat) (a : Nat → Nat) (u : SX) (i : Nat) (x : Int32) : (wX0 cI cZ h a u).set 6 (a 8, .inl (cI, 16, .inl (upd (u.2 8) i x))) = wX0 cI cZ h a (pG u 8 i x) := rfl
theorem wX0_g9 (cI cZ : ClassId) (h : Nat) (a : Nat → Nat) (u : SX) (i : Nat) (x : Int32) : (wX0 cI cZ h a u).set 7 (a 9, .inl (cI, 16, .inl (upd (u.2 9) i x))) = wX0 cI cZ h a (pG u 9 i x) := rfl
theorem wX0_p10 (cI cZ : ClassId) (h : Nat) (a : Nat → Nat) (u : SX) (x : Int32) : (wX0 cI cZ h a u).set 0 (h, .inr (0, (fX0 a u).set 10 (.int x))) = wX0 cI cZ h a (pF u 10 x) := rfl
theorem wX0_g11 (cI cZ : ClassId) (h : Nat) (a : Nat → Nat) (u : SX) (i : Nat) (x : Int32) : (wX0 cI cZ h a u).set 8 (a 11, .inl (cZ, 120, .inl (upd (u.2 11) i x))) = wX0 cI cZ h a (pG u 11 i x) := rfl
theorem wX0_g12 (cI cZ : ClassId) (h : Nat) (a : Nat → Nat) (u : SX) (i : Nat) (x : Int32) : (wX0 cI cZ h a u).set 9 (a 12, .inl (cI, 120, .inl (upd (u.2 12) i x))) = wX0 cI cZ h a (pG u 12 i x) := rfl
theorem wX0_g13 (cI cZ : ClassId) (h : Nat) (a : Nat → Nat) (u : SX) (i : Nat) (x : Int32) : (wX0 cI cZ h a u).set 10 (a 13, .inl (cI, 120, .inl (upd (u.2 13) i x))) = wX0 cI cZ h a (pG u 13 i x) := rfl
theorem wX0_g14 (cI cZ : ClassId) (h : Nat) (a : Nat → Nat) (u : SX) (i : Nat) (x : Int32) : (wX0 cI cZ h a u).set 11 (a 14, .inl (cI, 120, .inl (upd (u.2 14) i x))) = wX0 cI cZ h a (pG u 14 i x) := rfl
theorem wX0_g15 (cI cZ : ClassId) (h : Nat) (a : Nat → Nat) (u : SX) (i : Nat) (x : Int32) : (wX0 cI cZ h a u).set 12 (a 15, .inl (cI, 80, .inl (upd (u.2 15) i x))) = wX0 cI cZ h a (pG u 15 i x) := rfl
theorem wX0_p16 (cI cZ : ClassId) (h : Nat) (a : Nat → Nat) (u : SX) (x : Int32) : (wX0 cI cZ h a u).set 0 (h, .inr (0, (fX0 a u).set 16 (.int x))) = wX0 cI cZ h a (pF u 16 x) := rfl
theorem wX0_p17 (cI cZ : ClassId) (h : Nat) (a : Nat → Nat) (u : SX) (x : Int32) : (wX0 cI cZ h a u).set 0 (h, .inr (0, (fX0 a u).set 17 (.int x))) = wX0 cI cZ h a (pF u 17 x) := rfl
theorem wX0_p18 (cI cZ : ClassId) (h : Nat) (a : Nat → Nat) (u : SX) (x : Int32) : (wX0 cI cZ h a u).set 0 (h, .inr (0, (fX0 a u).set 18 (.int x))) = wX0 cI cZ h a (pF u 18 x) := rfl
theorem inwX0_init : ∀ w ∈ wsX00, w ∈ wsX0_init := by
  intro w h
  refine List.mem_cons_of_mem _ ?_
  first | exact List.mem_append_right _ h | exact List.mem_append_left _ (List.mem_append_right _ h) | exact List.mem_append_left _ (List.mem_append_left _ (List.mem_append_right _ h)) | exact List.mem_append_left _ (List.mem_append_left _ (List.mem_append_left _ (List.mem_append_right _ h)))
theorem inwX0_addDevice : ∀ w ∈ wsX00, w ∈ wsX0_addDevice := by
  intro w h
  refine List.mem_cons_of_mem _ ?_
  first | exact List.mem_append_right _ h | exact List.mem_append_left _ (List.mem_append_right _ h) | exact List.mem_append_left _ (List.mem_append_left _ (List.mem_append_right _ h)) | exact List.mem_append_left _ (List.mem_append_left _ (List.mem_append_left _ (List.mem_append_right _ h)))
theorem inwX0_setOnline : ∀ w ∈ wsX00, w ∈ wsX0_setOnline := by
  intro w h
  refine List.mem_cons_of_mem _ ?_
  first | exact List.mem_append_right _ h | exact List.mem_append_left _ (List.mem_append_right _ h) | exact List.mem_append_left _ (List.mem_append_left _ (List.mem_append_right _ h)) | exact List.mem_append_left _ (List.mem_append_left _ (List.mem_append_left _ (List.mem_append_right _ h)))
theorem inwX0_setDozing : ∀ w ∈ wsX00, w ∈ wsX0_setDozing := by
  intro w h
  refine List.mem_cons_of_mem _ ?_
  first | exact List.mem_append_right _ h | exact List.mem_append_left _ (List.mem_append_right _ h) | exact List.mem_append_left _ (List.mem_append_left _ (List.mem_append_right _ h)) | exact List.mem_append_left _ (List.mem_append_left _ (List.mem_append_left _ (List.mem_append_right _ h)))
theorem inwX0_setQuiet : ∀ w ∈ wsX00, w ∈ wsX0_setQuiet := by
  intro w h
  refine List.mem_cons_of_mem _ ?_
  first | exact List.mem_append_right _ h | exact List.mem_append_left _ (List.mem_append_right _ h) | exact List.mem_append_left _ (List.mem_append_left _ (List.mem_append_right _ h)) | exact List.mem_append_left _ (List.mem_append_left _ (List.mem_append_left _ (List.mem_append_right _ h)))
theorem inwX0_join : ∀ w ∈ wsX00, w ∈ wsX0_join := by
  intro w h
  refine List.mem_cons_of_mem _ ?_
  first | exact List.mem_append_right _ h | exact List.mem_append_left _ (List.mem_append_right _ h) | exact List.mem_append_left _ (List.mem_append_left _ (List.mem_append_right _ h)) | exact List.mem_append_left _ (List.mem_append_left _ (List.mem_append_left _ (List.mem_append_right _ h)))
theorem inwX0_kill : ∀ w ∈ wsX00, w ∈ wsX0_kill := by
  intro w h
  refine List.mem_cons_of_mem _ ?_
  first | exact List.mem_append_right _ h | exact List.mem_append_left _ (List.mem_append_right _ h) | exact List.mem_append_left _ (List.mem_append_left _ (List.mem_append_right _ h)) | exact List.mem_append_left _ (List.mem_append_left _ (List.mem_append_left _ (List.mem_append_right _ h)))
theorem inwX0_devices : ∀ w ∈ wsX00, w ∈ wsX0_devices := by
  intro w h
  refine List.mem_cons_of_mem _ ?_
  first | exact List.mem_append_right _ h | exact List.mem_append_left _ (List.mem_append_right _ h) | exact List.mem_append_left _ (List.mem_append_left _ (List.mem_append_right _ h)) | exact List.mem_append_left _ (List.mem_append_left _ (List.mem_append_left _ (List.mem_append_right _ h)))
theorem inwX0_isQuiet : ∀ w ∈ wsX00, w ∈ wsX0_isQuiet := by
  intro w h
  refine List.mem_cons_of_mem _ ?_
  first | exact List.mem_append_right _ h | exact List.mem_append_left _ (List.mem_append_right _ h) | exact List.mem_append_left _ (List.mem_append_left _ (List.mem_append_right _ h)) | exact List.mem_append_left _ (List.mem_append_left _ (List.mem_append_left _ (List.mem_append_right _ h)))
theorem inwX0_send : ∀ w ∈ wsX00, w ∈ wsX0_send := by
  intro w h
  refine List.mem_cons_of_mem _ ?_
  first | exact List.mem_append_right _ h | exact List.mem_append_left _ (List.mem_append_right _ h) | exact List.mem_append_left _ (List.mem_append_left _ (List.mem_append_right _ h)) | exact List.mem_append_left _ (List.mem_append_left _ (List.mem_append_left _ (List.mem_append_right _ h)))
theorem inwX0_sendBy : ∀ w ∈ wsX00, w ∈ wsX0_sendBy := by
  intro w h
  refine List.mem_cons_of_mem _ ?_
  first | exact List.mem_append_right _ h | exact List.mem_append_left _ (List.mem_append_right _ h) | exact List.mem_append_left _ (List.mem_append_left _ (List.mem_append_right _ h)) | exact List.mem_append_left _ (List.mem_append_left _ (List.mem_append_left _ (List.mem_append_right _ h)))
theorem inwX0_read : ∀ w ∈ wsX00, w ∈ wsX0_read := by
  intro w h
  refine List.mem_cons_of_mem _ ?_
  first | exact List.mem_append_right _ h | exact List.mem_append_left _ (List.mem_append_right _ h) | exact List.mem_append_left _ (List.mem_append_left _ (List.mem_append_right _ h)) | exact List.mem_append_left _ (List.mem_append_left _ (List.mem_append_left _ (List.mem_append_right _ h)))
theorem inwX0_sent : ∀ w ∈ wsX00, w ∈ wsX0_sent := by
  intro w h
  refine List.mem_cons_of_mem _ ?_
  first | exact List.mem_append_right _ h | exact List.mem_append_left _ (List.mem_append_right _ h) | exact List.mem_append_left _ (List.mem_append_left _ (List.mem_append_right _ h)) | exact List.mem_append_left _ (List.mem_append_left _ (List.mem_append_left _ (List.mem_append_right _ h)))
theorem inwX0_stands : ∀ w ∈ wsX00, w ∈ wsX0_stands := by
  intro w h
  refine List.mem_cons_of_mem _ ?_
  first | exact List.mem_append_right _ h | exact List.mem_append_left _ (List.mem_append_right _ h) | exact List.mem_append_left _ (List.mem_append_left _ (List.mem_append_right _ h)) | exact List.mem_append_left _ (List.mem_append_left _ (List.mem_append_left _ (List.mem_append_right _ h)))
theorem inwX0_waitsFor : ∀ w ∈ wsX00, w ∈ wsX0_waitsFor := by
  intro w h
  refine List.mem_cons_of_mem _ ?_
  first | exact List.mem_append_right _ h | exact List.mem_append_left _ (List.mem_append_right _ h) | exact List.mem_append_left _ (List.mem_append_left _ (List.mem_append_right _ h)) | exact List.mem_append_left _ (List.mem_append_left _ (List.mem_append_left _ (List.mem_append_right _ h)))
theorem inwX0_deliveredTo : ∀ w ∈ wsX00, w ∈ wsX0_deliveredTo := by
  intro w h
  refine List.mem_cons_of_mem _ ?_
  first | exact List.mem_append_right _ h | exact List.mem_append_left _ (List.mem_append_right _ h) | exact List.mem_append_left _ (List.mem_append_left _ (List.mem_append_right _ h)) | exact List.mem_append_left _ (List.mem_append_left _ (List.mem_append_left _ (List.mem_append_right _ h)))
theorem inwX0_standing : ∀ w ∈ wsX00, w ∈ wsX0_standing := by
  intro w h
  refine List.mem_cons_of_mem _ ?_
  first | exact List.mem_append_right _ h | exact List.mem_append_left _ (List.mem_append_right _ h) | exact List.mem_append_left _ (List.mem_append_left _ (List.mem_append_right _ h)) | exact List.mem_append_left _ (List.mem_append_left _ (List.mem_append_left _ (List.mem_append_right _ h)))
theorem inwX0_badge : ∀ w ∈ wsX00, w ∈ wsX0_badge := by
  intro w h
  refine List.mem_cons_of_mem _ ?_
  first | exact List.mem_append_right _ h | exact List.mem_append_left _ (List.mem_append_right _ h) | exact List.mem_append_left _ (List.mem_append_left _ (List.mem_append_right _ h)) | exact List.mem_append_left _ (List.mem_append_left _ (List.mem_append_left _ (List.mem_append_right _ h)))
theorem inwX0_waiting : ∀ w ∈ wsX00, w ∈ wsX0_waiting := by
  intro w h
  refine List.mem_cons_of_mem _ ?_
  first | exact List.mem_append_right _ h | exact List.mem_append_left _ (List.mem_append_right _ h) | exact List.mem_append_left _ (List.mem_append_left _ (List.mem_append_right _ h)) | exact List.mem_append_left _ (List.mem_append_left _ (List.mem_append_left _ (List.mem_append_right _ h)))
theorem inwX0_quota : ∀ w ∈ wsX00, w ∈ wsX0_quota := by
  intro w h
  refine List.mem_cons_of_mem _ ?_
  first | exact List.mem_append_right _ h | exact List.mem_append_left _ (List.mem_append_right _ h) | exact List.mem_append_left _ (List.mem_append_left _ (List.mem_append_right _ h)) | exact List.mem_append_left _ (List.mem_append_left _ (List.mem_append_left _ (List.mem_append_right _ h)))
theorem inwX0_pass : ∀ w ∈ wsX00, w ∈ wsX0_pass := by
  intro w h
  refine List.mem_cons_of_mem _ ?_
  first | exact List.mem_append_right _ h | exact List.mem_append_left _ (List.mem_append_right _ h) | exact List.mem_append_left _ (List.mem_append_left _ (List.mem_append_right _ h)) | exact List.mem_append_left _ (List.mem_append_left _ (List.mem_append_left _ (List.mem_append_right _ h)))
theorem inwX0_clock : ∀ w ∈ wsX00, w ∈ wsX0_clock := by
  intro w h
  refine List.mem_cons_of_mem _ ?_
  first | exact List.mem_append_right _ h | exact List.mem_append_left _ (List.mem_append_right _ h) | exact List.mem_append_left _ (List.mem_append_left _ (List.mem_append_right _ h)) | exact List.mem_append_left _ (List.mem_append_left _ (List.mem_append_left _ (List.mem_append_right _ h)))
theorem inwX0_deliveries : ∀ w ∈ wsX00, w ∈ wsX0_deliveries := by
  intro w h
  refine List.mem_cons_of_mem _ ?_
  first | exact List.mem_append_right _ h | exact List.mem_append_left _ (List.mem_append_right _ h) | exact List.mem_append_left _ (List.mem_append_left _ (List.mem_append_right _ h)) | exact List.mem_append_left _ (List.mem_append_left _ (List.mem_append_left _ (List.mem_append_right _ h)))
theorem inwX0_requireDevice : ∀ w ∈ wsX00, w ∈ wsX0_requireDevice := by
  intro w h
  refine List.mem_cons_of_mem _ ?_
  first | exact List.mem_append_right _ h | exact List.mem_append_left _ (List.mem_append_right _ h) | exact List.mem_append_left _ (List.mem_append_left _ (List.mem_append_right _ h)) | exact List.mem_append_left _ (List.mem_append_left _ (List.mem_append_left _ (List.mem_append_right _ h)))
theorem inwX0_requireNotice : ∀ w ∈ wsX00, w ∈ wsX0_requireNotice := by
  intro w h
  refine List.mem_cons_of_mem _ ?_
  first | exact List.mem_append_right _ h | exact List.mem_append_left _ (List.mem_append_right _ h) | exact List.mem_append_left _ (List.mem_append_left _ (List.mem_append_right _ h)) | exact List.mem_append_left _ (List.mem_append_left _ (List.mem_append_left _ (List.mem_append_right _ h)))
theorem inwX0_requireRoomForNotice : ∀ w ∈ wsX00, w ∈ wsX0_requireRoomForNotice := by
  intro w h
  refine List.mem_cons_of_mem _ ?_
  first | exact List.mem_append_right _ h | exact List.mem_append_left _ (List.mem_append_right _ h) | exact List.mem_append_left _ (List.mem_append_left _ (List.mem_append_right _ h)) | exact List.mem_append_left _ (List.mem_append_left _ (List.mem_append_left _ (List.mem_append_right _ h)))
theorem inwX0_devicesThatFulfil : ∀ w ∈ wsX00, w ∈ wsX0_devicesThatFulfil := by
  intro w h
  refine List.mem_cons_of_mem _ ?_
  first | exact List.mem_append_right _ h | exact List.mem_append_left _ (List.mem_append_right _ h) | exact List.mem_append_left _ (List.mem_append_left _ (List.mem_append_right _ h)) | exact List.mem_append_left _ (List.mem_append_left _ (List.mem_append_left _ (List.mem_append_right _ h)))
theorem inwX0_replaceKey : ∀ w ∈ wsX00, w ∈ wsX0_replaceKey := by
  intro w h
  refine List.mem_cons_of_mem _ ?_
  first | exact List.mem_append_right _ h | exact List.mem_append_left _ (List.mem_append_right _ h) | exact List.mem_append_left _ (List.mem_append_left _ (List.mem_append_right _ h)) | exact List.mem_append_left _ (List.mem_append_left _ (List.mem_append_left _ (List.mem_append_right _ h)))
theorem inwX0_sendTo : ∀ w ∈ wsX00, w ∈ wsX0_sendTo := by
  intro w h
  refine List.mem_cons_of_mem _ ?_
  first | exact List.mem_append_right _ h | exact List.mem_append_left _ (List.mem_append_right _ h) | exact List.mem_append_left _ (List.mem_append_left _ (List.mem_append_right _ h)) | exact List.mem_append_left _ (List.mem_append_left _ (List.mem_append_left _ (List.mem_append_right _ h)))
theorem inwX0_withdraw : ∀ w ∈ wsX00, w ∈ wsX0_withdraw := by
  intro w h
  refine List.mem_cons_of_mem _ ?_
  first | exact List.mem_append_right _ h | exact List.mem_append_left _ (List.mem_append_right _ h) | exact List.mem_append_left _ (List.mem_append_left _ (List.mem_append_right _ h)) | exact List.mem_append_left _ (List.mem_append_left _ (List.mem_append_left _ (List.mem_append_right _ h)))
theorem inwX0_isStanding : ∀ w ∈ wsX00, w ∈ wsX0_isStanding := by
  intro w h
  refine List.mem_cons_of_mem _ ?_
  first | exact List.mem_append_right _ h | exact List.mem_append_left _ (List.mem_append_right _ h) | exact List.mem_append_left _ (List.mem_append_left _ (List.mem_append_right _ h)) | exact List.mem_append_left _ (List.mem_append_left _ (List.mem_append_left _ (List.mem_append_right _ h)))
theorem inwX0_waitsNow : ∀ w ∈ wsX00, w ∈ wsX0_waitsNow := by
  intro w h
  refine List.mem_cons_of_mem _ ?_
  first | exact List.mem_append_right _ h | exact List.mem_append_left _ (List.mem_append_right _ h) | exact List.mem_append_left _ (List.mem_append_left _ (List.mem_append_right _ h)) | exact List.mem_append_left _ (List.mem_append_left _ (List.mem_append_left _ (List.mem_append_right _ h)))
theorem inwX0_countWaiting : ∀ w ∈ wsX00, w ∈ wsX0_countWaiting := by
  intro w h
  refine List.mem_cons_of_mem _ ?_
  first | exact List.mem_append_right _ h | exact List.mem_append_left _ (List.mem_append_right _ h) | exact List.mem_append_left _ (List.mem_append_left _ (List.mem_append_right _ h)) | exact List.mem_append_left _ (List.mem_append_left _ (List.mem_append_left _ (List.mem_append_right _ h)))
theorem inwX0_localTime : ∀ w ∈ wsX00, w ∈ wsX0_localTime := by
  intro w h
  refine List.mem_cons_of_mem _ ?_
  first | exact List.mem_append_right _ h | exact List.mem_append_left _ (List.mem_append_right _ h) | exact List.mem_append_left _ (List.mem_append_left _ (List.mem_append_right _ h)) | exact List.mem_append_left _ (List.mem_append_left _ (List.mem_append_left _ (List.mem_append_right _ h)))
theorem inwX0_isInQuietHours : ∀ w ∈ wsX00, w ∈ wsX0_isInQuietHours := by
  intro w h
  refine List.mem_cons_of_mem _ ?_
  first | exact List.mem_append_right _ h | exact List.mem_append_left _ (List.mem_append_right _ h) | exact List.mem_append_left _ (List.mem_append_left _ (List.mem_append_right _ h)) | exact List.mem_append_left _ (List.mem_append_left _ (List.mem_append_left _ (List.mem_append_right _ h)))
theorem inwX0_spentToday : ∀ w ∈ wsX00, w ∈ wsX0_spentToday := by
  intro w h
  refine List.mem_cons_of_mem _ ?_
  first | exact List.mem_append_right _ h | exact List.mem_append_left _ (List.mem_append_right _ h) | exact List.mem_append_left _ (List.mem_append_left _ (List.mem_append_right _ h)) | exact List.mem_append_left _ (List.mem_append_left _ (List.mem_append_left _ (List.mem_append_right _ h)))
theorem inwX0_spendQuota : ∀ w ∈ wsX00, w ∈ wsX0_spendQuota := by
  intro w h
  refine List.mem_cons_of_mem _ ?_
  first | exact List.mem_append_right _ h | exact List.mem_append_left _ (List.mem_append_right _ h) | exact List.mem_append_left _ (List.mem_append_left _ (List.mem_append_right _ h)) | exact List.mem_append_left _ (List.mem_append_left _ (List.mem_append_left _ (List.mem_append_right _ h)))
theorem inwX0_deliverNow : ∀ w ∈ wsX00, w ∈ wsX0_deliverNow := by
  intro w h
  refine List.mem_cons_of_mem _ ?_
  first | exact List.mem_append_right _ h | exact List.mem_append_left _ (List.mem_append_right _ h) | exact List.mem_append_left _ (List.mem_append_left _ (List.mem_append_right _ h)) | exact List.mem_append_left _ (List.mem_append_left _ (List.mem_append_left _ (List.mem_append_right _ h)))
theorem inwX0_deliver : ∀ w ∈ wsX00, w ∈ wsX0_deliver := by
  intro w h
  refine List.mem_cons_of_mem _ ?_
  first | exact List.mem_append_right _ h | exact List.mem_append_left _ (List.mem_append_right _ h) | exact List.mem_append_left _ (List.mem_append_left _ (List.mem_append_right _ h)) | exact List.mem_append_left _ (List.mem_append_left _ (List.mem_append_left _ (List.mem_append_right _ h)))
theorem inwX0_openToNormal : ∀ w ∈ wsX00, w ∈ wsX0_openToNormal := by
  intro w h
  refine List.mem_cons_of_mem _ ?_
  first | exact List.mem_append_right _ h | exact List.mem_append_left _ (List.mem_append_right _ h) | exact List.mem_append_left _ (List.mem_append_left _ (List.mem_append_right _ h)) | exact List.mem_append_left _ (List.mem_append_left _ (List.mem_append_left _ (List.mem_append_right _ h)))
theorem inwX0_openToHigh : ∀ w ∈ wsX00, w ∈ wsX0_openToHigh := by
  intro w h
  refine List.mem_cons_of_mem _ ?_
  first | exact List.mem_append_right _ h | exact List.mem_append_left _ (List.mem_append_right _ h) | exact List.mem_append_left _ (List.mem_append_left _ (List.mem_append_right _ h)) | exact List.mem_append_left _ (List.mem_append_left _ (List.mem_append_left _ (List.mem_append_right _ h)))
theorem inwX0_nextChance : ∀ w ∈ wsX00, w ∈ wsX0_nextChance := by
  intro w h
  refine List.mem_cons_of_mem _ ?_
  first | exact List.mem_append_right _ h | exact List.mem_append_left _ (List.mem_append_right _ h) | exact List.mem_append_left _ (List.mem_append_left _ (List.mem_append_right _ h)) | exact List.mem_append_left _ (List.mem_append_left _ (List.mem_append_left _ (List.mem_append_right _ h)))
def fX1 (a : Nat → Nat) (u : SX) : List Value := [.int (u.1 0), .int (u.1 1), .int (u.1 2), .ref (a 3), .ref (a 4), .ref (a 5), .ref (a 6), .ref (a 7), .ref (a 8), .ref (a 9), .ref (a 10), .ref (a 11), .ref (a 12), .int (u.1 13), .ref (a 14), .ref (a 15), .ref (a 16), .ref (a 17), .ref (a 18), .ref (a 19), .ref (a 20), .int (u.1 21)]
def wX1 (cI cZ : ClassId) (h : Nat) (a : Nat → Nat) (u : SX) : va_W := [(h, .inr (1, fX1 a u)), (a 3, .inl (cI, 16, .inl (u.2 3))), (a 4, .inl (cI, 16, .inl (u.2 4))), (a 5, .inl (cZ, 16, .inl (u.2 5))), (a 6, .inl (cZ, 16, .inl (u.2 6))), (a 7, .inl (cZ, 16, .inl (u.2 7))), (a 8, .inl (cI, 16, .inl (u.2 8))), (a 9, .inl (cI, 16, .inl (u.2 9))), (a 10, .inl (cI, 16, .inl (u.2 10))), (a 11, .inl (cI, 16, .inl (u.2 11))), (a 12, .inl (cI, 16, .inl (u.2 12))), (a 14, .inl (cZ, 120, .inl (u.2 14))), (a 15, .inl (cI, 120, .inl (u.2 15))), (a 16, .inl (cI, 120, .inl (u.2 16))), (a 17, .inl (cI, 120, .inl (u.2 17))), (a 18, .inl (cZ, 120, .inl (u.2 18))), (a 19, .inl (cI, 120, .inl (u.2 19))), (a 20, .inl (cI, 120, .inl (u.2 20)))]
theorem wX1_p0 (cI cZ : ClassId) (h : Nat) (a : Nat → Nat) (u : SX) (x : Int32) : (wX1 cI cZ h a u).set 0 (h, .inr (1, (fX1 a u).set 0 (.int x))) = wX1 cI cZ h a (pF u 0 x) := rfl
theorem wX1_p1 (cI cZ : ClassId) (h : Nat) (a : Nat → Nat) (u : SX) (x : Int32) : (wX1 cI cZ h a u).set 0 (h, .inr (1, (fX1 a u).set 1 (.int x))) = wX1 cI cZ h a (pF u 1 x) := rfl
theorem wX1_p2 (cI cZ : ClassId) (h : Nat) (a : Nat → Nat) (u : SX) (x : Int32) : (wX1 cI cZ h a u).set 0 (h, .inr (1, (fX1 a u).set 2 (.int x))) = wX1 cI cZ h a (pF u 2 x) := rfl
theorem wX1_g3 (cI cZ : ClassId) (h : Nat) (a : Nat → Nat) (u : SX) (i : Nat) (x : Int32) : (wX1 cI cZ h a u).set 1 (a 3, .inl (cI, 16, .inl (upd (u.2 3) i x))) = wX1 cI cZ h a (pG u 3 i x) := rfl
theorem wX1_g4 (cI cZ : ClassId) (h : Nat) (a : Nat → Nat) (u : SX) (i : Nat) (x : Int32) : (wX1 cI cZ h a u).set 2 (a 4, .inl (cI, 16, .inl (upd (u.2 4) i x))) = wX1 cI cZ h a (pG u 4 i x) := rfl
theorem wX1_g5 (cI cZ : ClassId) (h : Nat) (a : Nat → Nat) (u : SX) (i : Nat) (x : Int32) : (wX1 cI cZ h a u).set 3 (a 5, .inl (cZ, 16, .inl (upd (u.2 5) i x))) = wX1 cI cZ h a (pG u 5 i x) := rfl
theorem wX1_g6 (cI cZ : ClassId) (h : Nat) (a : Nat → Nat) (u : SX) (i : Nat) (x : Int32) : (wX1 cI cZ h a u).set 4 (a 6, .inl (cZ, 16, .inl (upd (u.2 6) i x))) = wX1 cI cZ h a (pG u 6 i x) := rfl
theorem wX1_g7 (cI cZ : ClassId) (h : Nat) (a : Nat → Nat) (u : SX) (i : Nat) (x : Int32) : (wX1 cI cZ h a u).set 5 (a 7, .inl (cZ, 16, .inl (upd (u.2 7) i x))) = wX1 cI cZ h a (pG u 7 i x) := rfl
theorem wX1_g8 (cI cZ : ClassId) (h : Nat) (a : Nat → Nat) (u : SX) (i : Nat) (x : Int32) : (wX1 cI cZ h a u).set 6 (a 8, .inl (cI, 16, .inl (upd (u.2 8) i x))) = wX1 cI cZ h a (pG u 8 i x) := rfl
theorem wX1_g9 (cI cZ : ClassId) (h : Nat) (a : Nat → Nat) (u : SX) (i : Nat) (x : Int32) : (wX1 cI cZ h a u).set 7 (a 9, .inl (cI, 16, .inl (upd (u.2 9) i x))) = wX1 cI cZ h a (pG u 9 i x) := rfl
theorem wX1_g10 (cI cZ : ClassId) (h : Nat) (a : Nat → Nat) (u : SX) (i : Nat) (x : Int32) : (wX1 cI cZ h a u).set 8 (a 10, .inl (cI, 16, .inl (upd (u.2 10) i x))) = wX1 cI cZ h a (pG u 10 i x) := rfl
theorem wX1_g11 (cI cZ : ClassId) (h : Nat) (a : Nat → Nat) (u : SX) (i : Nat) (x : Int32) : (wX1 cI cZ h a u).set 9 (a 11, .inl (cI, 16, .inl (upd (u.2 11) i x))) = wX1 cI cZ h a (pG u 11 i x) := rfl
theorem wX1_g12 (cI cZ : ClassId) (h : Nat) (a : Nat → Nat) (u : SX) (i : Nat) (x : Int32) : (wX1 cI cZ h a u).set 10 (a 12, .inl (cI, 16, .inl (upd (u.2 12) i x))) = wX1 cI cZ h a (pG u 12 i x) := rfl
theorem wX1_p13 (cI cZ : ClassId) (h : Nat) (a : Nat → Nat) (u : SX) (x : Int32) : (wX1 cI cZ h a u).set 0 (h, .inr (1, (fX1 a u).set 13 (.int x))) = wX1 cI cZ h a (pF u 13 x) := rfl
theorem wX1_g14 (cI cZ : ClassId) (h : Nat) (a : Nat → Nat) (u : SX) (i : Nat) (x : Int32) : (wX1 cI cZ h a u).set 11 (a 14, .inl (cZ, 120, .inl (upd (u.2 14) i x))) = wX1 cI cZ h a (pG u 14 i x) := rfl
theorem wX1_g15 (cI cZ : ClassId) (h : Nat) (a : Nat → Nat) (u : SX) (i : Nat) (x : Int32) : (wX1 cI cZ h a u).set 12 (a 15, .inl (cI, 120, .inl (upd (u.2 15) i x))) = wX1 cI cZ h a (pG u 15 i x) := rfl
theorem wX1_g16 (cI cZ : ClassId) (h : Nat) (a : Nat → Nat) (u : SX) (i : Nat) (x : Int32) : (wX1 cI cZ h a u).set 13 (a 16, .inl (cI, 120, .inl (upd (u.2 16) i x))) = wX1 cI cZ h a (pG u 16 i x) := rfl
theorem wX1_g17 (cI cZ : ClassId) (h : Nat) (a : Nat → Nat) (u : SX) (i : Nat) (x : Int32) : (wX1 cI cZ h a u).set 14 (a 17, .inl (cI, 120, .inl (upd (u.2 17) i x))) = wX1 cI cZ h a (pG u 17 i x) := rfl
theorem wX1_g18 (cI cZ : ClassId) (h : Nat) (a : Nat → Nat) (u : SX) (i : Nat) (x : Int32) : (wX1 cI cZ h a u).set 15 (a 18, .inl (cZ, 120, .inl (upd (u.2 18) i x))) = wX1 cI cZ h a (pG u 18 i x) := rfl
theorem wX1_g19 (cI cZ : ClassId) (h : Nat) (a : Nat → Nat) (u : SX) (i : Nat) (x : Int32) : (wX1 cI cZ h a u).set 16 (a 19, .inl (cI, 120, .inl (upd (u.2 19) i x))) = wX1 cI cZ h a (pG u 19 i x) := rfl
theorem wX1_g20 (cI cZ : ClassId) (h : Nat) (a : Nat → Nat) (u : SX) (i : Nat) (x : Int32) : (wX1 cI cZ h a u).set 17 (a 20, .inl (cI, 120, .inl (upd (u.2 20) i x))) = wX1 cI cZ h a (pG u 20 i x) := rfl
theorem wX1_p21 (cI cZ : ClassId) (h : Nat) (a : Nat → Nat) (u : SX) (x : Int32) : (wX1 cI cZ h a u).set 0 (h, .inr (1, (fX1 a u).set 21 (.int x))) = wX1 cI cZ h a (pF u 21 x) := rfl
theorem inwX1_init : ∀ w ∈ wsX10, w ∈ wsX1_init := by
  intro w h
  refine List.mem_cons_of_mem _ ?_
  first | exact List.mem_append_right _ h | exact List.mem_append_left _ (List.mem_append_right _ h) | exact List.mem_append_left _ (List.mem_append_left _ (List.mem_append_right _ h)) | exact List.mem_append_left _ (List.mem_append_left _ (List.mem_append_left _ (List.mem_append_right _ h)))
theorem inwX1_thrown : ∀ w ∈ wsX10, w ∈ wsX1_thrown := by
  intro w h
  refine List.mem_cons_of_mem _ ?_
  first | exact List.mem_append_right _ h | exact List.mem_append_left _ (List.mem_append_right _ h) | exact List.mem_append_left _ (List.mem_append_left _ (List.mem_append_right _ h)) | exact List.mem_append_left _ (List.mem_append_left _ (List.mem_append_left _ (List.mem_append_right _ h)))
theorem inwX1_refused : ∀ w ∈ wsX10, w ∈ wsX1_refused := by
  intro w h
  refine List.mem_cons_of_mem _ ?_
  first | exact List.mem_append_right _ h | exact List.mem_append_left _ (List.mem_append_right _ h) | exact List.mem_append_left _ (List.mem_append_left _ (List.mem_append_right _ h)) | exact List.mem_append_left _ (List.mem_append_left _ (List.mem_append_left _ (List.mem_append_right _ h)))
theorem inwX1_fine : ∀ w ∈ wsX10, w ∈ wsX1_fine := by
  intro w h
  refine List.mem_cons_of_mem _ ?_
  first | exact List.mem_append_right _ h | exact List.mem_append_left _ (List.mem_append_right _ h) | exact List.mem_append_left _ (List.mem_append_left _ (List.mem_append_right _ h)) | exact List.mem_append_left _ (List.mem_append_left _ (List.mem_append_left _ (List.mem_append_right _ h)))
theorem inwX1_isDevice : ∀ w ∈ wsX10, w ∈ wsX1_isDevice := by
  intro w h
  refine List.mem_cons_of_mem _ ?_
  first | exact List.mem_append_right _ h | exact List.mem_append_left _ (List.mem_append_right _ h) | exact List.mem_append_left _ (List.mem_append_left _ (List.mem_append_right _ h)) | exact List.mem_append_left _ (List.mem_append_left _ (List.mem_append_left _ (List.mem_append_right _ h)))
theorem inwX1_isNotice : ∀ w ∈ wsX10, w ∈ wsX1_isNotice := by
  intro w h
  refine List.mem_cons_of_mem _ ?_
  first | exact List.mem_append_right _ h | exact List.mem_append_left _ (List.mem_append_right _ h) | exact List.mem_append_left _ (List.mem_append_left _ (List.mem_append_right _ h)) | exact List.mem_append_left _ (List.mem_append_left _ (List.mem_append_left _ (List.mem_append_right _ h)))
theorem inwX1_isQuietNow : ∀ w ∈ wsX10, w ∈ wsX1_isQuietNow := by
  intro w h
  refine List.mem_cons_of_mem _ ?_
  first | exact List.mem_append_right _ h | exact List.mem_append_left _ (List.mem_append_right _ h) | exact List.mem_append_left _ (List.mem_append_left _ (List.mem_append_right _ h)) | exact List.mem_append_left _ (List.mem_append_left _ (List.mem_append_left _ (List.mem_append_right _ h)))
theorem inwX1_used : ∀ w ∈ wsX10, w ∈ wsX1_used := by
  intro w h
  refine List.mem_cons_of_mem _ ?_
  first | exact List.mem_append_right _ h | exact List.mem_append_left _ (List.mem_append_right _ h) | exact List.mem_append_left _ (List.mem_append_left _ (List.mem_append_right _ h)) | exact List.mem_append_left _ (List.mem_append_left _ (List.mem_append_left _ (List.mem_append_right _ h)))
theorem inwX1_can : ∀ w ∈ wsX10, w ∈ wsX1_can := by
  intro w h
  refine List.mem_cons_of_mem _ ?_
  first | exact List.mem_append_right _ h | exact List.mem_append_left _ (List.mem_append_right _ h) | exact List.mem_append_left _ (List.mem_append_left _ (List.mem_append_right _ h)) | exact List.mem_append_left _ (List.mem_append_left _ (List.mem_append_left _ (List.mem_append_right _ h)))
theorem inwX1_deliver : ∀ w ∈ wsX10, w ∈ wsX1_deliver := by
  intro w h
  refine List.mem_cons_of_mem _ ?_
  first | exact List.mem_append_right _ h | exact List.mem_append_left _ (List.mem_append_right _ h) | exact List.mem_append_left _ (List.mem_append_left _ (List.mem_append_right _ h)) | exact List.mem_append_left _ (List.mem_append_left _ (List.mem_append_left _ (List.mem_append_right _ h)))
theorem inwX1_look : ∀ w ∈ wsX10, w ∈ wsX1_look := by
  intro w h
  refine List.mem_cons_of_mem _ ?_
  first | exact List.mem_append_right _ h | exact List.mem_append_left _ (List.mem_append_right _ h) | exact List.mem_append_left _ (List.mem_append_left _ (List.mem_append_right _ h)) | exact List.mem_append_left _ (List.mem_append_left _ (List.mem_append_left _ (List.mem_append_right _ h)))
theorem inwX1_end : ∀ w ∈ wsX10, w ∈ wsX1_end := by
  intro w h
  refine List.mem_cons_of_mem _ ?_
  first | exact List.mem_append_right _ h | exact List.mem_append_left _ (List.mem_append_right _ h) | exact List.mem_append_left _ (List.mem_append_left _ (List.mem_append_right _ h)) | exact List.mem_append_left _ (List.mem_append_left _ (List.mem_append_left _ (List.mem_append_right _ h)))
theorem inwX1_addDevice : ∀ w ∈ wsX10, w ∈ wsX1_addDevice := by
  intro w h
  refine List.mem_cons_of_mem _ ?_
  first | exact List.mem_append_right _ h | exact List.mem_append_left _ (List.mem_append_right _ h) | exact List.mem_append_left _ (List.mem_append_left _ (List.mem_append_right _ h)) | exact List.mem_append_left _ (List.mem_append_left _ (List.mem_append_left _ (List.mem_append_right _ h)))
theorem inwX1_setOnline : ∀ w ∈ wsX10, w ∈ wsX1_setOnline := by
  intro w h
  refine List.mem_cons_of_mem _ ?_
  first | exact List.mem_append_right _ h | exact List.mem_append_left _ (List.mem_append_right _ h) | exact List.mem_append_left _ (List.mem_append_left _ (List.mem_append_right _ h)) | exact List.mem_append_left _ (List.mem_append_left _ (List.mem_append_left _ (List.mem_append_right _ h)))
theorem inwX1_setDozing : ∀ w ∈ wsX10, w ∈ wsX1_setDozing := by
  intro w h
  refine List.mem_cons_of_mem _ ?_
  first | exact List.mem_append_right _ h | exact List.mem_append_left _ (List.mem_append_right _ h) | exact List.mem_append_left _ (List.mem_append_left _ (List.mem_append_right _ h)) | exact List.mem_append_left _ (List.mem_append_left _ (List.mem_append_left _ (List.mem_append_right _ h)))
theorem inwX1_setQuiet : ∀ w ∈ wsX10, w ∈ wsX1_setQuiet := by
  intro w h
  refine List.mem_cons_of_mem _ ?_
  first | exact List.mem_append_right _ h | exact List.mem_append_left _ (List.mem_append_right _ h) | exact List.mem_append_left _ (List.mem_append_left _ (List.mem_append_right _ h)) | exact List.mem_append_left _ (List.mem_append_left _ (List.mem_append_left _ (List.mem_append_right _ h)))
theorem inwX1_join : ∀ w ∈ wsX10, w ∈ wsX1_join := by
  intro w h
  refine List.mem_cons_of_mem _ ?_
  first | exact List.mem_append_right _ h | exact List.mem_append_left _ (List.mem_append_right _ h) | exact List.mem_append_left _ (List.mem_append_left _ (List.mem_append_right _ h)) | exact List.mem_append_left _ (List.mem_append_left _ (List.mem_append_left _ (List.mem_append_right _ h)))
theorem inwX1_countWaiting : ∀ w ∈ wsX10, w ∈ wsX1_countWaiting := by
  intro w h
  refine List.mem_cons_of_mem _ ?_
  first | exact List.mem_append_right _ h | exact List.mem_append_left _ (List.mem_append_right _ h) | exact List.mem_append_left _ (List.mem_append_left _ (List.mem_append_right _ h)) | exact List.mem_append_left _ (List.mem_append_left _ (List.mem_append_left _ (List.mem_append_right _ h)))
theorem inwX1_kill : ∀ w ∈ wsX10, w ∈ wsX1_kill := by
  intro w h
  refine List.mem_cons_of_mem _ ?_
  first | exact List.mem_append_right _ h | exact List.mem_append_left _ (List.mem_append_right _ h) | exact List.mem_append_left _ (List.mem_append_left _ (List.mem_append_right _ h)) | exact List.mem_append_left _ (List.mem_append_left _ (List.mem_append_left _ (List.mem_append_right _ h)))
theorem inwX1_devices : ∀ w ∈ wsX10, w ∈ wsX1_devices := by
  intro w h
  refine List.mem_cons_of_mem _ ?_
  first | exact List.mem_append_right _ h | exact List.mem_append_left _ (List.mem_append_right _ h) | exact List.mem_append_left _ (List.mem_append_left _ (List.mem_append_right _ h)) | exact List.mem_append_left _ (List.mem_append_left _ (List.mem_append_left _ (List.mem_append_right _ h)))
theorem inwX1_isQuiet : ∀ w ∈ wsX10, w ∈ wsX1_isQuiet := by
  intro w h
  refine List.mem_cons_of_mem _ ?_
  first | exact List.mem_append_right _ h | exact List.mem_append_left _ (List.mem_append_right _ h) | exact List.mem_append_left _ (List.mem_append_left _ (List.mem_append_right _ h)) | exact List.mem_append_left _ (List.mem_append_left _ (List.mem_append_left _ (List.mem_append_right _ h)))
theorem inwX1_standingNow : ∀ w ∈ wsX10, w ∈ wsX1_standingNow := by
  intro w h
  refine List.mem_cons_of_mem _ ?_
  first | exact List.mem_append_right _ h | exact List.mem_append_left _ (List.mem_append_right _ h) | exact List.mem_append_left _ (List.mem_append_left _ (List.mem_append_right _ h)) | exact List.mem_append_left _ (List.mem_append_left _ (List.mem_append_left _ (List.mem_append_right _ h)))
theorem inwX1_add : ∀ w ∈ wsX10, w ∈ wsX1_add := by
  intro w h
  refine List.mem_cons_of_mem _ ?_
  first | exact List.mem_append_right _ h | exact List.mem_append_left _ (List.mem_append_right _ h) | exact List.mem_append_left _ (List.mem_append_left _ (List.mem_append_right _ h)) | exact List.mem_append_left _ (List.mem_append_left _ (List.mem_append_left _ (List.mem_append_right _ h)))
theorem inwX1_send : ∀ w ∈ wsX10, w ∈ wsX1_send := by
  intro w h
  refine List.mem_cons_of_mem _ ?_
  first | exact List.mem_append_right _ h | exact List.mem_append_left _ (List.mem_append_right _ h) | exact List.mem_append_left _ (List.mem_append_left _ (List.mem_append_right _ h)) | exact List.mem_append_left _ (List.mem_append_left _ (List.mem_append_left _ (List.mem_append_right _ h)))
theorem inwX1_sendBy : ∀ w ∈ wsX10, w ∈ wsX1_sendBy := by
  intro w h
  refine List.mem_cons_of_mem _ ?_
  first | exact List.mem_append_right _ h | exact List.mem_append_left _ (List.mem_append_right _ h) | exact List.mem_append_left _ (List.mem_append_left _ (List.mem_append_right _ h)) | exact List.mem_append_left _ (List.mem_append_left _ (List.mem_append_left _ (List.mem_append_right _ h)))
theorem inwX1_read : ∀ w ∈ wsX10, w ∈ wsX1_read := by
  intro w h
  refine List.mem_cons_of_mem _ ?_
  first | exact List.mem_append_right _ h | exact List.mem_append_left _ (List.mem_append_right _ h) | exact List.mem_append_left _ (List.mem_append_left _ (List.mem_append_right _ h)) | exact List.mem_append_left _ (List.mem_append_left _ (List.mem_append_left _ (List.mem_append_right _ h)))
theorem inwX1_sent : ∀ w ∈ wsX10, w ∈ wsX1_sent := by
  intro w h
  refine List.mem_cons_of_mem _ ?_
  first | exact List.mem_append_right _ h | exact List.mem_append_left _ (List.mem_append_right _ h) | exact List.mem_append_left _ (List.mem_append_left _ (List.mem_append_right _ h)) | exact List.mem_append_left _ (List.mem_append_left _ (List.mem_append_left _ (List.mem_append_right _ h)))
theorem inwX1_noNotice : ∀ w ∈ wsX10, w ∈ wsX1_noNotice := by
  intro w h
  refine List.mem_cons_of_mem _ ?_
  first | exact List.mem_append_right _ h | exact List.mem_append_left _ (List.mem_append_right _ h) | exact List.mem_append_left _ (List.mem_append_left _ (List.mem_append_right _ h)) | exact List.mem_append_left _ (List.mem_append_left _ (List.mem_append_left _ (List.mem_append_right _ h)))
theorem inwX1_stands : ∀ w ∈ wsX10, w ∈ wsX1_stands := by
  intro w h
  refine List.mem_cons_of_mem _ ?_
  first | exact List.mem_append_right _ h | exact List.mem_append_left _ (List.mem_append_right _ h) | exact List.mem_append_left _ (List.mem_append_left _ (List.mem_append_right _ h)) | exact List.mem_append_left _ (List.mem_append_left _ (List.mem_append_left _ (List.mem_append_right _ h)))
theorem inwX1_waitsFor : ∀ w ∈ wsX10, w ∈ wsX1_waitsFor := by
  intro w h
  refine List.mem_cons_of_mem _ ?_
  first | exact List.mem_append_right _ h | exact List.mem_append_left _ (List.mem_append_right _ h) | exact List.mem_append_left _ (List.mem_append_left _ (List.mem_append_right _ h)) | exact List.mem_append_left _ (List.mem_append_left _ (List.mem_append_left _ (List.mem_append_right _ h)))
theorem inwX1_deliveredTo : ∀ w ∈ wsX10, w ∈ wsX1_deliveredTo := by
  intro w h
  refine List.mem_cons_of_mem _ ?_
  first | exact List.mem_append_right _ h | exact List.mem_append_left _ (List.mem_append_right _ h) | exact List.mem_append_left _ (List.mem_append_left _ (List.mem_append_right _ h)) | exact List.mem_append_left _ (List.mem_append_left _ (List.mem_append_left _ (List.mem_append_right _ h)))
theorem inwX1_standing : ∀ w ∈ wsX10, w ∈ wsX1_standing := by
  intro w h
  refine List.mem_cons_of_mem _ ?_
  first | exact List.mem_append_right _ h | exact List.mem_append_left _ (List.mem_append_right _ h) | exact List.mem_append_left _ (List.mem_append_left _ (List.mem_append_right _ h)) | exact List.mem_append_left _ (List.mem_append_left _ (List.mem_append_left _ (List.mem_append_right _ h)))
theorem inwX1_badge : ∀ w ∈ wsX10, w ∈ wsX1_badge := by
  intro w h
  refine List.mem_cons_of_mem _ ?_
  first | exact List.mem_append_right _ h | exact List.mem_append_left _ (List.mem_append_right _ h) | exact List.mem_append_left _ (List.mem_append_left _ (List.mem_append_right _ h)) | exact List.mem_append_left _ (List.mem_append_left _ (List.mem_append_left _ (List.mem_append_right _ h)))
theorem inwX1_waiting : ∀ w ∈ wsX10, w ∈ wsX1_waiting := by
  intro w h
  refine List.mem_cons_of_mem _ ?_
  first | exact List.mem_append_right _ h | exact List.mem_append_left _ (List.mem_append_right _ h) | exact List.mem_append_left _ (List.mem_append_left _ (List.mem_append_right _ h)) | exact List.mem_append_left _ (List.mem_append_left _ (List.mem_append_left _ (List.mem_append_right _ h)))
theorem inwX1_quota : ∀ w ∈ wsX10, w ∈ wsX1_quota := by
  intro w h
  refine List.mem_cons_of_mem _ ?_
  first | exact List.mem_append_right _ h | exact List.mem_append_left _ (List.mem_append_right _ h) | exact List.mem_append_left _ (List.mem_append_left _ (List.mem_append_right _ h)) | exact List.mem_append_left _ (List.mem_append_left _ (List.mem_append_left _ (List.mem_append_right _ h)))
theorem inwX1_pass : ∀ w ∈ wsX10, w ∈ wsX1_pass := by
  intro w h
  refine List.mem_cons_of_mem _ ?_
  first | exact List.mem_append_right _ h | exact List.mem_append_left _ (List.mem_append_right _ h) | exact List.mem_append_left _ (List.mem_append_left _ (List.mem_append_right _ h)) | exact List.mem_append_left _ (List.mem_append_left _ (List.mem_append_left _ (List.mem_append_right _ h)))
theorem inwX1_clock : ∀ w ∈ wsX10, w ∈ wsX1_clock := by
  intro w h
  refine List.mem_cons_of_mem _ ?_
  first | exact List.mem_append_right _ h | exact List.mem_append_left _ (List.mem_append_right _ h) | exact List.mem_append_left _ (List.mem_append_left _ (List.mem_append_right _ h)) | exact List.mem_append_left _ (List.mem_append_left _ (List.mem_append_left _ (List.mem_append_right _ h)))
theorem inwX1_deliveries : ∀ w ∈ wsX10, w ∈ wsX1_deliveries := by
  intro w h
  refine List.mem_cons_of_mem _ ?_
  first | exact List.mem_append_right _ h | exact List.mem_append_left _ (List.mem_append_right _ h) | exact List.mem_append_left _ (List.mem_append_left _ (List.mem_append_right _ h)) | exact List.mem_append_left _ (List.mem_append_left _ (List.mem_append_left _ (List.mem_append_right _ h)))
end
section
def ushr (x y : Int32) : Int32 := (x.toUInt32 >>> (y.toUInt32 &&& Int32.toUInt32 31)).toInt32
def r_J9_floorMod_7cf53 (p1 p2 : Int32) : Int32 := (if 0 ≤ (p1 ^^^ p2) then (p1 - p1 / p2 * p2) else (if (p1 - p1 / p2 * p2) = 0 then (p1 - p1 / p2 * p2) else ((p1 - p1 / p2 * p2) + p2)))
def r_J9_min_7cf53 (p1 p2 : Int32) : Int32 := (if p2 < p1 then p2 else p1)
def e_X0_requireWithin (p1 p2 p3 : Int32) : Nat := (if p1 < p2 then 1 else (if p1 ≤ p3 then 0 else 1))
def r_X0_bitOf (p1 : Int32) : Int32 := (1 <<< (p1 &&& 31))
def r_X0_has (p1 p2 : Int32) : Int32 := (if (p1 &&& (r_X0_bitOf p2)) = 0 then 0 else 1)
def r_X0_changed (p1 p2 p3 : Int32) : Int32 := (if p3 = 0 then (p1 &&& ((r_X0_bitOf p2) ^^^ (-1))) else (p1 ||| (r_X0_bitOf p2)))
def r_X0_placeOf (p1 p2 : Int32) : Int32 := ((p1 * 10) + p2)
def e_X0_requireDevice (u : SX) (p1 : Int32) : Nat := (if p1 < 0 then 3 else (if p1 < (u.1 10) then 0 else 3))
def e_X0_requireNotice (u : SX) (p1 : Int32) : Nat := (if p1 < 0 then 3 else (if p1 < (u.1 16) then 0 else 3))
def e_X0_requireRoomForNotice (u : SX)  : Nat := (if (u.1 16) < 120 then 0 else 2)
def r_X0_localTime (u : SX) (p1 : Int32) : Int32 := (r_J9_floorMod_7cf53 ((u.1 17) + (u.2 5 (ix p1))) 1440)
def r_X0_isInQuietHours (u : SX) (p1 : Int32) : Int32 := (if (r_J9_floorMod_7cf53 ((u.2 7 (ix p1)) - (u.2 6 (ix p1))) 1440) ≤ (r_J9_floorMod_7cf53 ((r_X0_localTime u p1) - (u.2 6 (ix p1))) 1440) then 0 else 1)
def r_X0_spentToday (u : SX) (p1 : Int32) : Int32 := (if (u.2 8 (ix p1)) = ((u.1 17) / 1440) then (u.2 9 (ix p1)) else 0)
def r_X0_isStanding (u : SX) (p1 : Int32) : Int32 := (if (u.2 12 (ix p1)) ≤ (u.1 17) then 0 else 1)
def r_X0_waitsNow (u : SX) (p1 : Int32) : Int32 := (if (r_X0_isStanding u p1) = 0 then 0 else (u.2 13 (ix p1)))
def s_X0_withdraw (u : SX) (p1 : Int32) : SX := (pG u 12 (ix p1) (u.1 17))
def b_X0_countWaiting_4 (u : SX) (p1 : Int32) (k4 : Nat) (x4 : Int32) : Int32 := (if (r_X0_has (r_X0_waitsNow u (nI k4)) p1) = 0 then x4 else (x4 + 1))
def l_X0_countWaiting_4 (u : SX) (p1 : Int32) : Nat → Int32
  | 0 => 0
  | k4 + 1 => b_X0_countWaiting_4 u p1 k4 (l_X0_countWaiting_4 u p1 k4)
def r_X0_countWaiting (u : SX) (p1 : Int32) : Int32 := (l_X0_countWaiting_4 u p1 (ix (u.1 16)))
def b_X0_spendQuota_2 (u : SX) (p1 : Int32) (k2 : Nat) (x2 : SX) : SX := (if (r_X0_has p1 (nI k2)) = 0 then x2 else (pG (pG x2 9 (ix (nI k2)) ((r_X0_spentToday x2 (nI k2)) + 1)) 8 (ix (nI k2)) ((x2.1 17) / 1440)))
def l_X0_spendQuota_2 (u : SX) (p1 : Int32) : Nat → SX
  | 0 => u
  | k2 + 1 => b_X0_spendQuota_2 u p1 k2 (l_X0_spendQuota_2 u p1 k2)
def s_X0_spendQuota (u : SX) (p1 : Int32) : SX := (l_X0_spendQuota_2 u p1 (ix (u.1 10)))
end
section
theorem zwithin {p lo hi : Int32} {N : Nat} (h : e_X0_requireWithin p lo hi = 0) (hlo : lo = 0) (hN : hi = nI (N - 1) ∧ 0 < N ∧ N < 1000) : vp_in p N := by
  obtain ⟨rfl, h0, h1⟩ := hN
  subst hlo
  unfold e_X0_requireWithin at h
  rw [vp_in_iff]
  split at h
  · cases h
  · rename_i q
    split at h
    · rename_i q2
      have e := Int32.le_iff_toInt_le.mp q2
      rw [nI_toInt (by omega)] at e
      have e2 : ¬ p.toInt < (0 : Int32).toInt := fun z => q (Int32.lt_iff_toInt_lt.mpr z)
      have e3 : (0 : Int32).toInt = 0 := rfl
      omega
    · cases h
theorem zlt_in {p : Int32} {n N : Nat} (h0 : ¬ p < 0) (h1 : p < nI n) (hn : n ≤ N) (hN : N < 1000) : vp_in p N := by
  rw [vp_in_iff]
  have e := Int32.lt_iff_toInt_lt.mp h1
  rw [nI_toInt (by omega)] at e
  have e2 : ¬ p.toInt < (0 : Int32).toInt := fun z => h0 (Int32.lt_iff_toInt_lt.mpr z)
  have e3 : (0 : Int32).toInt = 0 := rfl
  omega
theorem zdev {u : SX} {p : Int32} {nd : Nat} (hnd : u.1 10 = nI nd) (hd : nd ≤ 16) (h : e_X0_requireDevice u p = 0) : vp_in p 16 := by
  unfold e_X0_requireDevice at h
  split at h
  · cases h
  · rename_i q
    split at h
    · rename_i q2
      exact zlt_in q (by rw [← hnd]; exact q2) hd (by omega)
    · cases h
theorem znot {u : SX} {p : Int32} {nn : Nat} (hnn : u.1 16 = nI nn) (hn : nn ≤ 120) (h : e_X0_requireNotice u p = 0) : vp_in p 120 := by
  unfold e_X0_requireNotice at h
  split at h
  · cases h
  · rename_i q
    split at h
    · rename_i q2
      exact zlt_in q (by rw [← hnn]; exact q2) hn (by omega)
    · cases h
theorem znar01 {r : Int32} (h : r = 0 ∨ r = 1) : narrow .boolean (.int r) = .int r := by
  rcases h with rfl | rfl <;> rfl
theorem z01_X0_isInQuietHours (u : SX) (p : Int32) : r_X0_isInQuietHours u p = 0 ∨ r_X0_isInQuietHours u p = 1 := by
  unfold r_X0_isInQuietHours; split <;> simp
theorem z01_X0_isStanding (u : SX) (p : Int32) : r_X0_isStanding u p = 0 ∨ r_X0_isStanding u p = 1 := by
  unfold r_X0_isStanding; split <;> simp
theorem lf_X0_spendQuota_2 (u : SX) (p : Int32) (k : Nat) : (l_X0_spendQuota_2 u p k).1 = u.1 := by
  induction k with
  | zero => rfl
  | succ k ih =>
    show (b_X0_spendQuota_2 u p k (l_X0_spendQuota_2 u p k)).1 = _
    unfold b_X0_spendQuota_2
    split
    · exact ih
    · exact ih
theorem zroomN {u : SX} {nn : Nat} (hnn : u.1 16 = nI nn) (hlt : nn < 120) : vp_in (u.1 16) 120 := by
  rw [hnn]; exact vp_in_nI hlt (by omega)
theorem zroomD {u : SX} {nd : Nat} (hnd : u.1 10 = nI nd) (hd : nd ≤ 16) (h : ¬ 16 ≤ u.1 10) : vp_in (u.1 10) 16 := by
  rw [hnd] at h ⊢
  refine vp_in_nI ?_ (by omega)
  rcases Nat.lt_or_ge nd 16 with q | q
  · exact q
  · exact absurd (nI_le (a := 16) q (by omega)) h
end
section
set_option maxHeartbeats 4000000 in
set_option maxRecDepth 100000 in
theorem c_J9_floorMod_7cf53 (l : Launch) (D : va_G) (tys : List (ClassId × FieldType)) (w0 : va_W) (p1 p2 : Int32) (h0 : ¬ p2 = 0) : zMi l yJ9_floorMod_7cf53 wsJ9_floorMod_7cf53 ({ frames := 0, cells := 0, slots := 0, locals := 0 } : Room) zTT D tys w0 [.int p1, .int p2] (fun (r : Int32) (_ : Unit) => r = r_J9_floorMod_7cf53 p1 p2) (fun _ => w0) 0 0 := by
  refine z_startI (cc := cJ9_floorMod_7cf53) (n := 3) (own := RJ9) (L0 := [(0, .int p1), (1, .int p2)]) (by decide +kernel) rfl rfl (Nat.le_of_ble_eq_true rfl) rfl (fun E hret => ?_)
  refine z_iload_n 0 dJ9_floorMod_7cf53_0 rfl ?_
  refine z_iload_n 1 dJ9_floorMod_7cf53_1 rfl ?_
  refine z_irem dJ9_floorMod_7cf53_2 (by assumption) ?_
  refine z_istore_n (L' := [(2, .int (p1 - p1 / p2 * p2)), (0, .int p1), (1, .int p2)]) dJ9_floorMod_7cf53_3 (by decide) rfl ?_
  refine z_iload_n 1 dJ9_floorMod_7cf53_4 rfl ?_
  refine z_iload_n 2 dJ9_floorMod_7cf53_5 rfl ?_
  refine z_ixor dJ9_floorMod_7cf53_6 ?_
  refine z_if_ge 18 dJ9_floorMod_7cf53_7 (by decide) (fun c_7_0 => ?_) (fun c_7_0 => ?_)
  ·
    refine z_iload_n 0 dJ9_floorMod_7cf53_18 rfl ?_
    exact hret _ () _ _ _ dJ9_floorMod_7cf53_19 (by rw [r_J9_floorMod_7cf53, if_pos c_7_0]) rfl
  ·
    refine z_iload_n 0 dJ9_floorMod_7cf53_10 rfl ?_
    refine z_if_eq 18 dJ9_floorMod_7cf53_11 (by decide) (fun c_11_1 => ?_) (fun c_11_1 => ?_)
    ·
      refine z_iload_n 0 dJ9_floorMod_7cf53_18 rfl ?_
      exact hret _ () _ _ _ dJ9_floorMod_7cf53_19 (by rw [r_J9_floorMod_7cf53, if_neg c_7_0, if_pos c_11_1]) rfl
    ·
      refine z_iload_n 0 dJ9_floorMod_7cf53_14 rfl ?_
      refine z_iload_n 2 dJ9_floorMod_7cf53_15 rfl ?_
      refine z_iadd dJ9_floorMod_7cf53_16 ?_
      exact hret _ () _ _ _ dJ9_floorMod_7cf53_17 (by rw [r_J9_floorMod_7cf53, if_neg c_7_0, if_neg c_11_1]) rfl
set_option maxHeartbeats 4000000 in
set_option maxRecDepth 100000 in
theorem c_J9_min_7cf53 (l : Launch) (D : va_G) (tys : List (ClassId × FieldType)) (w0 : va_W) (p1 p2 : Int32)  : zMi l yJ9_min_7cf53 wsJ9_min_7cf53 ({ frames := 0, cells := 0, slots := 0, locals := 0 } : Room) zTT D tys w0 [.int p1, .int p2] (fun (r : Int32) (_ : Unit) => r = r_J9_min_7cf53 p1 p2) (fun _ => w0) 0 0 := by
  refine z_startI (cc := cJ9_min_7cf53) (n := 2) (own := RJ9) (L0 := [(0, .int p1), (1, .int p2)]) (by decide +kernel) rfl rfl (Nat.le_of_ble_eq_true rfl) rfl (fun E hret => ?_)
  refine z_iload_n 0 dJ9_min_7cf53_0 rfl ?_
  refine z_iload_n 1 dJ9_min_7cf53_1 rfl ?_
  refine z_icmp_gt 9 dJ9_min_7cf53_2 (by decide) (fun c_2_0 => ?_) (fun c_2_0 => ?_)
  ·
    refine z_iload_n 1 dJ9_min_7cf53_9 rfl ?_
    exact hret _ () _ _ _ dJ9_min_7cf53_10 (by rw [r_J9_min_7cf53, if_pos c_2_0]) rfl
  ·
    refine z_iload_n 0 dJ9_min_7cf53_5 rfl ?_
    refine z_goto 10 dJ9_min_7cf53_6 (by decide) ?_
    exact hret _ () _ _ _ dJ9_min_7cf53_10 (by rw [r_J9_min_7cf53, if_neg c_2_0]) rfl
set_option maxHeartbeats 4000000 in
set_option maxRecDepth 100000 in
theorem c_X0_requireWithin (l : Launch) (D : va_G) (tys : List (ClassId × FieldType)) (w0 : va_W) (p1 p2 p3 : Int32) (he : e_X0_requireWithin p1 p2 p3 = 0)  : zMv l yX0_requireWithin wsX0_requireWithin ({ frames := 0, cells := 0, slots := 0, locals := 0 } : Room) zTT D tys w0 [.int p1, .int p2, .int p3] (fun _ : Unit => True) (fun _ => w0) 0 0 := by
  refine z_startV (cc := cX0_requireWithin) (n := 3) (own := RX0) (L0 := [(0, .int p1), (1, .int p2), (2, .int p3)]) (plainFor_of_name (by decide)) rfl rfl (Nat.le_of_ble_eq_true rfl) rfl (fun E hret => ?_)
  refine z_iload_n 0 dX0_requireWithin_0 rfl ?_
  refine z_iload_n 1 dX0_requireWithin_1 rfl ?_
  refine z_icmp_lt 10 dX0_requireWithin_2 (by decide) (fun c_2_0 => ?_) (fun c_2_0 => ?_)
  ·
    exact absurd he (by rw [e_X0_requireWithin, if_pos c_2_0]; decide)
  ·
    refine z_iload_n 0 dX0_requireWithin_5 rfl ?_
    refine z_iload_n 2 dX0_requireWithin_6 rfl ?_
    refine z_icmp_le 20 dX0_requireWithin_7 (by decide) (fun c_7_1 => ?_) (fun c_7_1 => ?_)
    ·
      exact hret () _ _ _ dX0_requireWithin_20 trivial rfl
    ·
      exact absurd he (by rw [e_X0_requireWithin, if_neg c_2_0, if_neg c_7_1]; decide)
set_option maxHeartbeats 4000000 in
set_option maxRecDepth 100000 in
theorem c_X0_bitOf (l : Launch) (D : va_G) (tys : List (ClassId × FieldType)) (w0 : va_W) (p1 : Int32)  : zMi l yX0_bitOf wsX0_bitOf ({ frames := 0, cells := 0, slots := 0, locals := 0 } : Room) zTT D tys w0 [.int p1] (fun (r : Int32) (_ : Unit) => r = r_X0_bitOf p1) (fun _ => w0) 0 0 := by
  refine z_startI (cc := cX0_bitOf) (n := 1) (own := RX0) (L0 := [(0, .int p1)]) (plainFor_of_name (by decide)) rfl rfl (Nat.le_of_ble_eq_true rfl) rfl (fun E hret => ?_)
  refine z_iconst (v := 1) dX0_bitOf_0 rfl ?_
  refine z_iload_n 0 dX0_bitOf_1 rfl ?_
  refine z_ishl dX0_bitOf_2 ?_
  exact hret _ () _ _ _ dX0_bitOf_3 (by rw [r_X0_bitOf]) rfl
set_option maxHeartbeats 4000000 in
set_option maxRecDepth 100000 in
theorem c_X0_has (l : Launch) (D : va_G) (tys : List (ClassId × FieldType)) (w0 : va_W) (p1 p2 : Int32)  : zMi l yX0_has wsX0_has ({ frames := 1, cells := 0, slots := 0, locals := 20 } : Room) zTT D tys w0 [.int p1, .int p2] (fun (r : Int32) (_ : Unit) => r = r_X0_has p1 p2) (fun _ => w0) 0 0 := by
  refine z_startZ (cc := cX0_has) (n := 2) (own := RX0) (L0 := [(0, .int p1), (1, .int p2)]) (plainFor_of_name (by decide)) rfl rfl (Nat.le_of_ble_eq_true rfl) rfl (fun E hret => ?_)
  refine z_iload_n 0 dX0_has_0 rfl ?_
  refine z_iload_n 1 dX0_has_1 rfl ?_
  refine z_callSi (As := [.int p2]) (st := [.int p1]) (fun l => c_X0_bitOf l D _ _ p2) zGok_TT (fun _ _ _ => trivial) (fun s args hts => va_cwS 1 hts gX0_has_X0_bitOf rfl rfl rfl (by decide +kernel) ⟨Nat.le_of_ble_eq_true rfl, Nat.le_of_ble_eq_true rfl⟩) rfl (Nat.le_of_ble_eq_true rfl) ⟨Nat.le_of_ble_eq_true rfl, Nat.le_of_ble_eq_true rfl⟩ dX0_has_2 rfl (fun r u2 hp => ?_)
  subst hp
  refine z_iand dX0_has_5 ?_
  refine z_if_eq 13 dX0_has_6 (by decide) (fun c_6_0 => ?_) (fun c_6_0 => ?_)
  ·
    refine z_iconst (v := 0) dX0_has_13 rfl ?_
    exact hret _ () _ _ _ dX0_has_14 (by rw [r_X0_has, if_pos c_6_0]) rfl rfl
  ·
    refine z_iconst (v := 1) dX0_has_9 rfl ?_
    refine z_goto 14 dX0_has_10 (by decide) ?_
    exact hret _ () _ _ _ dX0_has_14 (by rw [r_X0_has, if_neg c_6_0]) rfl rfl
set_option maxHeartbeats 4000000 in
set_option maxRecDepth 100000 in
theorem c_X0_changed (l : Launch) (D : va_G) (tys : List (ClassId × FieldType)) (w0 : va_W) (p1 p2 p3 : Int32)  : zMi l yX0_changed wsX0_changed ({ frames := 1, cells := 0, slots := 0, locals := 20 } : Room) zTT D tys w0 [.int p1, .int p2, .int p3] (fun (r : Int32) (_ : Unit) => r = r_X0_changed p1 p2 p3) (fun _ => w0) 0 0 := by
  refine z_startI (cc := cX0_changed) (n := 3) (own := RX0) (L0 := [(0, .int p1), (1, .int p2), (2, .int p3)]) (plainFor_of_name (by decide)) rfl rfl (Nat.le_of_ble_eq_true rfl) rfl (fun E hret => ?_)
  refine z_iload_n 2 dX0_changed_0 rfl ?_
  refine z_if_eq 13 dX0_changed_1 (by decide) (fun c_1_0 => ?_) (fun c_1_0 => ?_)
  ·
    refine z_iload_n 0 dX0_changed_13 rfl ?_
    refine z_iload_n 1 dX0_changed_14 rfl ?_
    refine z_callSi (As := [.int p2]) (st := [.int p1]) (fun l => c_X0_bitOf l D _ _ p2) zGok_TT (fun _ _ _ => trivial) (fun s args hts => va_cwS 1 hts gX0_changed_X0_bitOf rfl rfl rfl (by decide +kernel) ⟨Nat.le_of_ble_eq_true rfl, Nat.le_of_ble_eq_true rfl⟩) rfl (Nat.le_of_ble_eq_true rfl) ⟨Nat.le_of_ble_eq_true rfl, Nat.le_of_ble_eq_true rfl⟩ dX0_changed_15 rfl (fun r u2 hp => ?_)
    subst hp
    refine z_iconst (v := (-1)) dX0_changed_18 rfl ?_
    refine z_ixor dX0_changed_19 ?_
    refine z_iand dX0_changed_20 ?_
    exact hret _ () _ _ _ dX0_changed_21 (by rw [r_X0_changed, if_pos c_1_0]) rfl
  ·
    refine z_iload_n 0 dX0_changed_4 rfl ?_
    refine z_iload_n 1 dX0_changed_5 rfl ?_
    refine z_callSi (As := [.int p2]) (st := [.int p1]) (fun l => c_X0_bitOf l D _ _ p2) zGok_TT (fun _ _ _ => trivial) (fun s args hts => va_cwS 1 hts gX0_changed_X0_bitOf rfl rfl rfl (by decide +kernel) ⟨Nat.le_of_ble_eq_true rfl, Nat.le_of_ble_eq_true rfl⟩) rfl (Nat.le_of_ble_eq_true rfl) ⟨Nat.le_of_ble_eq_true rfl, Nat.le_of_ble_eq_true rfl⟩ dX0_changed_6 rfl (fun r u2 hp => ?_)
    subst hp
    refine z_ior dX0_changed_9 ?_
    refine z_goto 21 dX0_changed_10 (by decide) ?_
    exact hret _ () _ _ _ dX0_changed_21 (by rw [r_X0_changed, if_neg c_1_0]) rfl
set_option maxHeartbeats 4000000 in
set_option maxRecDepth 100000 in
theorem c_X0_placeOf (l : Launch) (D : va_G) (tys : List (ClassId × FieldType)) (w0 : va_W) (p1 p2 : Int32)  : zMi l yX0_placeOf wsX0_placeOf ({ frames := 0, cells := 0, slots := 0, locals := 0 } : Room) zTT D tys w0 [.int p1, .int p2] (fun (r : Int32) (_ : Unit) => r = r_X0_placeOf p1 p2) (fun _ => w0) 0 0 := by
  refine z_startI (cc := cX0_placeOf) (n := 2) (own := RX0) (L0 := [(0, .int p1), (1, .int p2)]) (plainFor_of_name (by decide)) rfl rfl (Nat.le_of_ble_eq_true rfl) rfl (fun E hret => ?_)
  refine z_iload_n 0 dX0_placeOf_0 rfl ?_
  refine z_bipush (v := 10) dX0_placeOf_1 rfl ?_
  refine z_imul dX0_placeOf_3 ?_
  refine z_iload_n 1 dX0_placeOf_4 rfl ?_
  refine z_iadd dX0_placeOf_5 ?_
  exact hret _ () _ _ _ dX0_placeOf_6 (by rw [r_X0_placeOf]) rfl
set_option maxHeartbeats 4000000 in
set_option maxRecDepth 100000 in
theorem c_X0_requireDevice (l : Launch) (D : va_G) (cI cZ : ClassId) (h : Nat) (a : Nat → Nat) (u : SX) (p1 : Int32) (he : e_X0_requireDevice u p1 = 0)  : zMv l yX0_requireDevice wsX0_requireDevice ({ frames := 0, cells := 0, slots := 0, locals := 0 } : Room) zTT D [(cI, .int), (cZ, .boolean)] (wX0 cI cZ h a u) [.ref h, .int p1] (fun _ : Unit => True) (fun _ => (wX0 cI cZ h a u)) 0 0 := by
  refine z_startV (cc := cX0_requireDevice) (n := 2) (own := RX0) (L0 := [(0, .ref h), (1, .int p1)]) (plainFor_of_name (by decide)) rfl rfl (Nat.le_of_ble_eq_true rfl) rfl (fun E hret => ?_)
  refine z_iload_n 1 dX0_requireDevice_0 rfl ?_
  refine z_if_lt 12 dX0_requireDevice_1 (by decide) (fun c_1_0 => ?_) (fun c_1_0 => ?_)
  ·
    exact absurd he (by rw [e_X0_requireDevice, if_pos c_1_0]; decide)
  ·
    refine z_iload_n 1 dX0_requireDevice_4 rfl ?_
    refine z_aload_n 0 dX0_requireDevice_5 rfl ?_
    refine z_get (C := RX0) (T := TX0) (N := 19) (v := .int (u.1 10)) inwX0_requireDevice 0 rfl rfl 10 (by decide) (List.mem_of_getElem? (i := 3) rfl) rfl rfl dX0_requireDevice_6 ?_
    refine z_icmp_lt 22 dX0_requireDevice_9 (by decide) (fun c_9_1 => ?_) (fun c_9_1 => ?_)
    ·
      exact hret () _ _ _ dX0_requireDevice_22 trivial rfl
    ·
      exact absurd he (by rw [e_X0_requireDevice, if_neg c_1_0, if_neg c_9_1]; decide)
set_option maxHeartbeats 4000000 in
set_option maxRecDepth 100000 in
theorem c_X0_requireNotice (l : Launch) (D : va_G) (cI cZ : ClassId) (h : Nat) (a : Nat → Nat) (u : SX) (p1 : Int32) (he : e_X0_requireNotice u p1 = 0)  : zMv l yX0_requireNotice wsX0_requireNotice ({ frames := 0, cells := 0, slots := 0, locals := 0 } : Room) zTT D [(cI, .int), (cZ, .boolean)] (wX0 cI cZ h a u) [.ref h, .int p1] (fun _ : Unit => True) (fun _ => (wX0 cI cZ h a u)) 0 0 := by
  refine z_startV (cc := cX0_requireNotice) (n := 2) (own := RX0) (L0 := [(0, .ref h), (1, .int p1)]) (plainFor_of_name (by decide)) rfl rfl (Nat.le_of_ble_eq_true rfl) rfl (fun E hret => ?_)
  refine z_iload_n 1 dX0_requireNotice_0 rfl ?_
  refine z_if_lt 12 dX0_requireNotice_1 (by decide) (fun c_1_0 => ?_) (fun c_1_0 => ?_)
  ·
    exact absurd he (by rw [e_X0_requireNotice, if_pos c_1_0]; decide)
  ·
    refine z_iload_n 1 dX0_requireNotice_4 rfl ?_
    refine z_aload_n 0 dX0_requireNotice_5 rfl ?_
    refine z_get (C := RX0) (T := TX0) (N := 19) (v := .int (u.1 16)) inwX0_requireNotice 0 rfl rfl 16 (by decide) (List.mem_of_getElem? (i := 3) rfl) rfl rfl dX0_requireNotice_6 ?_
    refine z_icmp_lt 22 dX0_requireNotice_9 (by decide) (fun c_9_1 => ?_) (fun c_9_1 => ?_)
    ·
      exact hret () _ _ _ dX0_requireNotice_22 trivial rfl
    ·
      exact absurd he (by rw [e_X0_requireNotice, if_neg c_1_0, if_neg c_9_1]; decide)
set_option maxHeartbeats 4000000 in
set_option maxRecDepth 100000 in
theorem c_X0_requireRoomForNotice (l : Launch) (D : va_G) (cI cZ : ClassId) (h : Nat) (a : Nat → Nat) (u : SX)  (he : e_X0_requireRoomForNotice u = 0)  : zMv l yX0_requireRoomForNotice wsX0_requireRoomForNotice ({ frames := 0, cells := 0, slots := 0, locals := 0 } : Room) zTT D [(cI, .int), (cZ, .boolean)] (wX0 cI cZ h a u) [.ref h] (fun _ : Unit => True) (fun _ => (wX0 cI cZ h a u)) 0 0 := by
  refine z_startV (cc := cX0_requireRoomForNotice) (n := 1) (own := RX0) (L0 := [(0, .ref h)]) (plainFor_of_name (by decide)) rfl rfl (Nat.le_of_ble_eq_true rfl) rfl (fun E hret => ?_)
  refine z_aload_n 0 dX0_requireRoomForNotice_0 rfl ?_
  refine z_get (C := RX0) (T := TX0) (N := 19) (v := .int (u.1 16)) inwX0_requireRoomForNotice 0 rfl rfl 16 (by decide) (List.mem_of_getElem? (i := 3) rfl) rfl rfl dX0_requireRoomForNotice_1 ?_
  refine z_bipush (v := 120) dX0_requireRoomForNotice_4 rfl ?_
  refine z_icmp_lt 19 dX0_requireRoomForNotice_6 (by decide) (fun c_6_0 => ?_) (fun c_6_0 => ?_)
  ·
    exact hret () _ _ _ dX0_requireRoomForNotice_19 trivial rfl
  ·
    exact absurd he (by rw [e_X0_requireRoomForNotice, if_neg c_6_0]; decide)
set_option maxHeartbeats 4000000 in
set_option maxRecDepth 100000 in
theorem c_X0_localTime (l : Launch) (D : va_G) (cI cZ : ClassId) (h : Nat) (a : Nat → Nat) (u : SX) (p1 : Int32) (hp1 : vp_in p1 16) : zMi l yX0_localTime wsX0_localTime ({ frames := 1, cells := 0, slots := 0, locals := 22 } : Room) zTT D [(cI, .int), (cZ, .boolean)] (wX0 cI cZ h a u) [.ref h, .int p1] (fun (r : Int32) (_ : Unit) => r = r_X0_localTime u p1) (fun _ => (wX0 cI cZ h a u)) 0 0 := by
  refine z_startI (cc := cX0_localTime) (n := 2) (own := RX0) (L0 := [(0, .ref h), (1, .int p1)]) (plainFor_of_name (by decide)) rfl rfl (Nat.le_of_ble_eq_true rfl) rfl (fun E hret => ?_)
  refine z_aload_n 0 dX0_localTime_0 rfl ?_
  refine z_get (C := RX0) (T := TX0) (N := 19) (v := .int (u.1 17)) inwX0_localTime 0 rfl rfl 17 (by decide) (List.mem_of_getElem? (i := 1) rfl) rfl rfl dX0_localTime_1 ?_
  refine z_aload_n 0 dX0_localTime_4 rfl ?_
  refine z_get (C := RX0) (T := TX0) (N := 19) (v := .ref (a 5)) inwX0_localTime 0 rfl rfl 5 (by decide) (List.mem_of_getElem? (i := 2) rfl) rfl rfl dX0_localTime_5 ?_
  refine z_iload_n 1 dX0_localTime_8 rfl ?_
  refine z_iald (v := (u.2 5 (ix p1))) 3 0 rfl rfl (by first | assumption | decide) rfl dX0_localTime_9 ?_
  refine z_iadd dX0_localTime_10 ?_
  refine z_sipush (v := 1440) dX0_localTime_11 rfl ?_
  refine z_callSi (As := [.int ((u.1 17) + (u.2 5 (ix p1))), .int 1440]) (st := []) (fun l => c_J9_floorMod_7cf53 l D _ _ ((u.1 17) + (u.2 5 (ix p1))) 1440 (by first | assumption | decide)) zGok_TT (fun _ _ _ => trivial) (fun s args hts => va_cwS 2 hts gX0_localTime_J9_floorMod_7cf53 rfl rfl rfl (by decide +kernel) ⟨Nat.le_of_ble_eq_true rfl, Nat.le_of_ble_eq_true rfl⟩) rfl (Nat.le_of_ble_eq_true rfl) ⟨Nat.le_of_ble_eq_true rfl, Nat.le_of_ble_eq_true rfl⟩ dX0_localTime_14 rfl (fun r u2 hp => ?_)
  subst hp
  exact hret _ () _ _ _ dX0_localTime_17 (by rw [r_X0_localTime]) rfl
set_option maxHeartbeats 4000000 in
set_option maxRecDepth 100000 in
theorem c_X0_isInQuietHours (l : Launch) (D : va_G) (cI cZ : ClassId) (h : Nat) (a : Nat → Nat) (u : SX) (p1 : Int32) (hp1 : vp_in p1 16) : zMi l yX0_isInQuietHours wsX0_isInQuietHours ({ frames := 2, cells := 0, slots := 0, locals := 43 } : Room) zTT D [(cI, .int), (cZ, .boolean)] (wX0 cI cZ h a u) [.ref h, .int p1] (fun (r : Int32) (_ : Unit) => r = r_X0_isInQuietHours u p1) (fun _ => (wX0 cI cZ h a u)) 0 0 := by
  refine z_startZ (cc := cX0_isInQuietHours) (n := 4) (own := RX0) (L0 := [(0, .ref h), (1, .int p1)]) (plainFor_of_name (by decide)) rfl rfl (Nat.le_of_ble_eq_true rfl) rfl (fun E hret => ?_)
  refine z_aload_n 0 dX0_isInQuietHours_0 rfl ?_
  refine z_iload_n 1 dX0_isInQuietHours_1 rfl ?_
  refine z_callVi (As := [.int p1]) (st := []) (fun l => c_X0_localTime l D cI cZ h a u p1 (by first | assumption | decide)) zGok_TT (fun _ _ _ => trivial) (fun s args hts => cwV 1 hts gX0_isInQuietHours_X0_localTime rfl rfl rfl (by decide +kernel) ⟨Nat.le_of_ble_eq_true rfl, Nat.le_of_ble_eq_true rfl⟩) (ci := 0) rfl rfl rfl rfl (Nat.le_of_ble_eq_true rfl) ⟨Nat.le_of_ble_eq_true rfl, Nat.le_of_ble_eq_true rfl⟩ dX0_isInQuietHours_2 rfl (fun r u2 hp => ?_)
  subst hp
  refine z_aload_n 0 dX0_isInQuietHours_5 rfl ?_
  refine z_get (C := RX0) (T := TX0) (N := 19) (v := .ref (a 6)) inwX0_isInQuietHours 0 rfl rfl 6 (by decide) (List.mem_of_getElem? (i := 1) rfl) rfl rfl dX0_isInQuietHours_6 ?_
  refine z_iload_n 1 dX0_isInQuietHours_9 rfl ?_
  refine z_iald (v := (u.2 6 (ix p1))) 4 0 rfl rfl (by first | assumption | decide) rfl dX0_isInQuietHours_10 ?_
  refine z_isub dX0_isInQuietHours_11 ?_
  refine z_sipush (v := 1440) dX0_isInQuietHours_12 rfl ?_
  refine z_callSi (As := [.int ((r_X0_localTime u p1) - (u.2 6 (ix p1))), .int 1440]) (st := []) (fun l => c_J9_floorMod_7cf53 l D _ _ ((r_X0_localTime u p1) - (u.2 6 (ix p1))) 1440 (by first | assumption | decide)) zGok_TT (fun _ _ _ => trivial) (fun s args hts => va_cwS 2 hts gX0_isInQuietHours_J9_floorMod_7cf53 rfl rfl rfl (by decide +kernel) ⟨Nat.le_of_ble_eq_true rfl, Nat.le_of_ble_eq_true rfl⟩) rfl (Nat.le_of_ble_eq_true rfl) ⟨Nat.le_of_ble_eq_true rfl, Nat.le_of_ble_eq_true rfl⟩ dX0_isInQuietHours_15 rfl (fun r u2 hp => ?_)
  subst hp
  refine z_istore_n (L' := [(2, .int (r_J9_floorMod_7cf53 ((r_X0_localTime u p1) - (u.2 6 (ix p1))) 1440)), (0, .ref h), (1, .int p1)]) dX0_isInQuietHours_18 (by decide) rfl ?_
  refine z_aload_n 1 dX0_isInQuietHours_19 rfl ?_
  refine z_get (C := RX0) (T := TX0) (N := 19) (v := .ref (a 7)) inwX0_isInQuietHours 0 rfl rfl 7 (by decide) (List.mem_of_getElem? (i := 2) rfl) rfl rfl dX0_isInQuietHours_20 ?_
  refine z_iload_n 2 dX0_isInQuietHours_23 rfl ?_
  refine z_iald (v := (u.2 7 (ix p1))) 5 0 rfl rfl (by first | assumption | decide) rfl dX0_isInQuietHours_24 ?_
  refine z_aload_n 1 dX0_isInQuietHours_25 rfl ?_
  refine z_get (C := RX0) (T := TX0) (N := 19) (v := .ref (a 6)) inwX0_isInQuietHours 0 rfl rfl 6 (by decide) (List.mem_of_getElem? (i := 1) rfl) rfl rfl dX0_isInQuietHours_26 ?_
  refine z_iload_n 2 dX0_isInQuietHours_29 rfl ?_
  refine z_iald (v := (u.2 6 (ix p1))) 4 0 rfl rfl (by first | assumption | decide) rfl dX0_isInQuietHours_30 ?_
  refine z_isub dX0_isInQuietHours_31 ?_
  refine z_sipush (v := 1440) dX0_isInQuietHours_32 rfl ?_
  refine z_callSi (As := [.int ((u.2 7 (ix p1)) - (u.2 6 (ix p1))), .int 1440]) (st := []) (fun l => c_J9_floorMod_7cf53 l D _ _ ((u.2 7 (ix p1)) - (u.2 6 (ix p1))) 1440 (by first | assumption | decide)) zGok_TT (fun _ _ _ => trivial) (fun s args hts => va_cwS 2 hts gX0_isInQuietHours_J9_floorMod_7cf53 rfl rfl rfl (by decide +kernel) ⟨Nat.le_of_ble_eq_true rfl, Nat.le_of_ble_eq_true rfl⟩) rfl (Nat.le_of_ble_eq_true rfl) ⟨Nat.le_of_ble_eq_true rfl, Nat.le_of_ble_eq_true rfl⟩ dX0_isInQuietHours_35 rfl (fun r u2 hp => ?_)
  subst hp
  refine z_istore_n (L' := [(3, .int (r_J9_floorMod_7cf53 ((u.2 7 (ix p1)) - (u.2 6 (ix p1))) 1440)), (2, .int (r_J9_floorMod_7cf53 ((r_X0_localTime u p1) - (u.2 6 (ix p1))) 1440)), (0, .ref h), (1, .int p1)]) dX0_isInQuietHours_38 (by decide) rfl ?_
  refine z_iload_n 1 dX0_isInQuietHours_39 rfl ?_
  refine z_iload_n 0 dX0_isInQuietHours_40 rfl ?_
  refine z_icmp_ge 48 dX0_isInQuietHours_41 (by decide) (fun c_41_0 => ?_) (fun c_41_0 => ?_)
  ·
    refine z_iconst (v := 0) dX0_isInQuietHours_48 rfl ?_
    exact hret _ () _ _ _ dX0_isInQuietHours_49 (by rw [r_X0_isInQuietHours, if_pos c_41_0]) rfl rfl
  ·
    refine z_iconst (v := 1) dX0_isInQuietHours_44 rfl ?_
    refine z_goto 49 dX0_isInQuietHours_45 (by decide) ?_
    exact hret _ () _ _ _ dX0_isInQuietHours_49 (by rw [r_X0_isInQuietHours, if_neg c_41_0]) rfl rfl
set_option maxHeartbeats 4000000 in
set_option maxRecDepth 100000 in
theorem c_X0_spentToday (l : Launch) (D : va_G) (cI cZ : ClassId) (h : Nat) (a : Nat → Nat) (u : SX) (p1 : Int32) (hp1 : vp_in p1 16) : zMi l yX0_spentToday wsX0_spentToday ({ frames := 0, cells := 0, slots := 0, locals := 0 } : Room) zTT D [(cI, .int), (cZ, .boolean)] (wX0 cI cZ h a u) [.ref h, .int p1] (fun (r : Int32) (_ : Unit) => r = r_X0_spentToday u p1) (fun _ => (wX0 cI cZ h a u)) 0 0 := by
  refine z_startI (cc := cX0_spentToday) (n := 2) (own := RX0) (L0 := [(0, .ref h), (1, .int p1)]) (plainFor_of_name (by decide)) rfl rfl (Nat.le_of_ble_eq_true rfl) rfl (fun E hret => ?_)
  refine z_aload_n 0 dX0_spentToday_0 rfl ?_
  refine z_get (C := RX0) (T := TX0) (N := 19) (v := .ref (a 8)) inwX0_spentToday 0 rfl rfl 8 (by decide) (List.mem_of_getElem? (i := 1) rfl) rfl rfl dX0_spentToday_1 ?_
  refine z_iload_n 1 dX0_spentToday_4 rfl ?_
  refine z_iald (v := (u.2 8 (ix p1))) 6 0 rfl rfl (by first | assumption | decide) rfl dX0_spentToday_5 ?_
  refine z_aload_n 0 dX0_spentToday_6 rfl ?_
  refine z_get (C := RX0) (T := TX0) (N := 19) (v := .int (u.1 17)) inwX0_spentToday 0 rfl rfl 17 (by decide) (List.mem_of_getElem? (i := 2) rfl) rfl rfl dX0_spentToday_7 ?_
  refine z_sipush (v := 1440) dX0_spentToday_10 rfl ?_
  refine z_idiv dX0_spentToday_13 (by decide) ?_
  refine z_icmp_ne 26 dX0_spentToday_14 (by decide) (fun c_14_0 => ?_) (fun c_14_0 => ?_)
  ·
    refine z_iconst (v := 0) dX0_spentToday_26 rfl ?_
    exact hret _ () _ _ _ dX0_spentToday_27 (by rw [r_X0_spentToday, if_neg c_14_0]) rfl
  ·
    refine z_aload_n 0 dX0_spentToday_17 rfl ?_
    refine z_get (C := RX0) (T := TX0) (N := 19) (v := .ref (a 9)) inwX0_spentToday 0 rfl rfl 9 (by decide) (List.mem_of_getElem? (i := 3) rfl) rfl rfl dX0_spentToday_18 ?_
    refine z_iload_n 1 dX0_spentToday_21 rfl ?_
    refine z_iald (v := (u.2 9 (ix p1))) 7 0 rfl rfl (by first | assumption | decide) rfl dX0_spentToday_22 ?_
    refine z_goto 27 dX0_spentToday_23 (by decide) ?_
    exact hret _ () _ _ _ dX0_spentToday_27 (by rw [r_X0_spentToday, if_pos c_14_0]) rfl
set_option maxHeartbeats 4000000 in
set_option maxRecDepth 100000 in
theorem c_X0_isStanding (l : Launch) (D : va_G) (cI cZ : ClassId) (h : Nat) (a : Nat → Nat) (u : SX) (p1 : Int32) (hp1 : vp_in p1 120) : zMi l yX0_isStanding wsX0_isStanding ({ frames := 0, cells := 0, slots := 0, locals := 0 } : Room) zTT D [(cI, .int), (cZ, .boolean)] (wX0 cI cZ h a u) [.ref h, .int p1] (fun (r : Int32) (_ : Unit) => r = r_X0_isStanding u p1) (fun _ => (wX0 cI cZ h a u)) 0 0 := by
  refine z_startZ (cc := cX0_isStanding) (n := 2) (own := RX0) (L0 := [(0, .ref h), (1, .int p1)]) (plainFor_of_name (by decide)) rfl rfl (Nat.le_of_ble_eq_true rfl) rfl (fun E hret => ?_)
  refine z_aload_n 0 dX0_isStanding_0 rfl ?_
  refine z_get (C := RX0) (T := TX0) (N := 19) (v := .int (u.1 17)) inwX0_isStanding 0 rfl rfl 17 (by decide) (List.mem_of_getElem? (i := 1) rfl) rfl rfl dX0_isStanding_1 ?_
  refine z_aload_n 0 dX0_isStanding_4 rfl ?_
  refine z_get (C := RX0) (T := TX0) (N := 19) (v := .ref (a 12)) inwX0_isStanding 0 rfl rfl 12 (by decide) (List.mem_of_getElem? (i := 2) rfl) rfl rfl dX0_isStanding_5 ?_
  refine z_iload_n 1 dX0_isStanding_8 rfl ?_
  refine z_iald (v := (u.2 12 (ix p1))) 9 0 rfl rfl (by first | assumption | decide) rfl dX0_isStanding_9 ?_
  refine z_icmp_ge 17 dX0_isStanding_10 (by decide) (fun c_10_0 => ?_) (fun c_10_0 => ?_)
  ·
    refine z_iconst (v := 0) dX0_isStanding_17 rfl ?_
    exact hret _ () _ _ _ dX0_isStanding_18 (by rw [r_X0_isStanding, if_pos c_10_0]) rfl rfl
  ·
    refine z_iconst (v := 1) dX0_isStanding_13 rfl ?_
    refine z_goto 18 dX0_isStanding_14 (by decide) ?_
    exact hret _ () _ _ _ dX0_isStanding_18 (by rw [r_X0_isStanding, if_neg c_10_0]) rfl rfl
set_option maxHeartbeats 4000000 in
set_option maxRecDepth 100000 in
theorem c_X0_waitsNow (l : Launch) (D : va_G) (cI cZ : ClassId) (h : Nat) (a : Nat → Nat) (u : SX) (p1 : Int32) (hp1 : vp_in p1 120) : zMi l yX0_waitsNow wsX0_waitsNow ({ frames := 1, cells := 0, slots := 0, locals := 21 } : Room) zTT D [(cI, .int), (cZ, .boolean)] (wX0 cI cZ h a u) [.ref h, .int p1] (fun (r : Int32) (_ : Unit) => r = r_X0_waitsNow u p1) (fun _ => (wX0 cI cZ h a u)) 0 0 := by
  refine z_startI (cc := cX0_waitsNow) (n := 2) (own := RX0) (L0 := [(0, .ref h), (1, .int p1)]) (plainFor_of_name (by decide)) rfl rfl (Nat.le_of_ble_eq_true rfl) rfl (fun E hret => ?_)
  refine z_aload_n 0 dX0_waitsNow_0 rfl ?_
  refine z_iload_n 1 dX0_waitsNow_1 rfl ?_
  refine z_callVi (As := [.int p1]) (st := []) (fun l => c_X0_isStanding l D cI cZ h a u p1 (by first | assumption | decide)) zGok_TT (fun _ _ _ => trivial) (fun s args hts => cwV 1 hts gX0_waitsNow_X0_isStanding rfl rfl rfl (by decide +kernel) ⟨Nat.le_of_ble_eq_true rfl, Nat.le_of_ble_eq_true rfl⟩) (ci := 0) rfl rfl rfl rfl (Nat.le_of_ble_eq_true rfl) ⟨Nat.le_of_ble_eq_true rfl, Nat.le_of_ble_eq_true rfl⟩ dX0_waitsNow_2 rfl (fun r u2 hp => ?_)
  subst hp
  refine z_if_eq 17 dX0_waitsNow_5 (by decide) (fun c_5_0 => ?_) (fun c_5_0 => ?_)
  ·
    refine z_iconst (v := 0) dX0_waitsNow_17 rfl ?_
    exact hret _ () _ _ _ dX0_waitsNow_18 (by rw [r_X0_waitsNow, if_pos c_5_0]) rfl
  ·
    refine z_aload_n 0 dX0_waitsNow_8 rfl ?_
    refine z_get (C := RX0) (T := TX0) (N := 19) (v := .ref (a 13)) inwX0_waitsNow 0 rfl rfl 13 (by decide) (List.mem_of_getElem? (i := 1) rfl) rfl rfl dX0_waitsNow_9 ?_
    refine z_iload_n 1 dX0_waitsNow_12 rfl ?_
    refine z_iald (v := (u.2 13 (ix p1))) 10 0 rfl rfl (by first | assumption | decide) rfl dX0_waitsNow_13 ?_
    refine z_goto 18 dX0_waitsNow_14 (by decide) ?_
    exact hret _ () _ _ _ dX0_waitsNow_18 (by rw [r_X0_waitsNow, if_neg c_5_0]) rfl
set_option maxHeartbeats 4000000 in
set_option maxRecDepth 100000 in
theorem c_X0_withdraw (l : Launch) (D : va_G) (cI cZ : ClassId) (h : Nat) (a : Nat → Nat) (u : SX) (p1 : Int32) (hp1 : vp_in p1 120) : zMv l yX0_withdraw wsX0_withdraw ({ frames := 0, cells := 0, slots := 0, locals := 0 } : Room) zTT D [(cI, .int), (cZ, .boolean)] (wX0 cI cZ h a u) [.ref h, .int p1] (fun u2 : SX => u2 = s_X0_withdraw u p1) (fun u2 => (wX0 cI cZ h a u2)) 0 0 := by
  refine z_startV (cc := cX0_withdraw) (n := 2) (own := RX0) (L0 := [(0, .ref h), (1, .int p1)]) (plainFor_of_name (by decide)) rfl rfl (Nat.le_of_ble_eq_true rfl) rfl (fun E hret => ?_)
  refine z_aload_n 0 dX0_withdraw_0 rfl ?_
  refine z_get (C := RX0) (T := TX0) (N := 19) (v := .ref (a 12)) inwX0_withdraw 0 rfl rfl 12 (by decide) (List.mem_of_getElem? (i := 1) rfl) rfl rfl dX0_withdraw_1 ?_
  refine z_iload_n 1 dX0_withdraw_4 rfl ?_
  refine z_aload_n 0 dX0_withdraw_5 rfl ?_
  refine z_get (C := RX0) (T := TX0) (N := 19) (v := .int (u.1 17)) inwX0_withdraw 0 rfl rfl 17 (by decide) (List.mem_of_getElem? (i := 2) rfl) rfl rfl dX0_withdraw_6 ?_
  refine z_iast (w' := (wX0 cI cZ h a (pG u 12 (ix p1) (u.1 17)))) 9 0 rfl rfl (by first | assumption | decide) (wX0_g12 _ _ _ _ _ _ _) dX0_withdraw_9 ?_
  exact hret (pG u 12 (ix p1) (u.1 17)) _ _ _ dX0_withdraw_10 (by rw [s_X0_withdraw]) rfl
set_option maxHeartbeats 4000000 in
set_option maxRecDepth 100000 in
theorem c_X0_countWaiting (l : Launch) (D : va_G) (cI cZ : ClassId) (h : Nat) (a : Nat → Nat) (u : SX) (p1 : Int32) (nn : Nat) (hnn : u.1 16 = nI nn) (hn : nn ≤ 120) : zMi l yX0_countWaiting wsX0_countWaiting ({ frames := 2, cells := 0, slots := 0, locals := 42 } : Room) zTT D [(cI, .int), (cZ, .boolean)] (wX0 cI cZ h a u) [.ref h, .int p1] (fun (r : Int32) (_ : Unit) => r = r_X0_countWaiting u p1) (fun _ => (wX0 cI cZ h a u)) 0 0 := by
  refine z_startI (cc := cX0_countWaiting) (n := 4) (own := RX0) (L0 := [(0, .ref h), (1, .int p1)]) (plainFor_of_name (by decide)) rfl rfl (Nat.le_of_ble_eq_true rfl) rfl (fun E hret => ?_)
  have hixnn : ix (u.1 16) = nn := by rw [hnn]; exact nI_clamp (by omega)
  refine z_iconst (v := 0) dX0_countWaiting_0 rfl ?_
  refine z_istore_n (L' := [(2, .int 0), (0, .ref h), (1, .int p1)]) dX0_countWaiting_1 (by decide) rfl ?_
  refine z_iconst (v := 0) dX0_countWaiting_2 rfl ?_
  refine z_istore_n (L' := [(3, .int 0), (2, .int 0), (0, .ref h), (1, .int p1)]) dX0_countWaiting_3 (by decide) rfl ?_
  refine z_sub (L' := [(0, .ref h), (1, .int p1), (2, .int 0), (3, .int 0)]) [2, 3, 1, 0] rfl ?_
  have hloop4 : ∀ r k4 : Nat, k4 + r = nn → ZW E zTT ({ frames := 2, cells := 0, slots := 0, locals := 42 } : Room) cX0_countWaiting RX0 wsX0_countWaiting 4 D [(cI, .int), (cZ, .boolean)] 0 0 (wX0 cI cZ h a u) 4 [(0, .ref h), (1, .int p1), (2, .int (l_X0_countWaiting_4 u p1 k4)), (3, .int (nI k4))] [] := by
    intro r
    induction r with
    | zero =>
      intro k4 hk4
      have hkN4 : nn = k4 := by omega
      subst hkN4
      refine z_iload_n 3 dX0_countWaiting_4 rfl ?_
      refine z_aload_n 0 dX0_countWaiting_5 rfl ?_
      refine z_get (C := RX0) (T := TX0) (N := 19) (v := .int (u.1 16)) inwX0_countWaiting 0 rfl rfl 16 (by decide) (List.mem_of_getElem? (i := 1) rfl) rfl rfl dX0_countWaiting_6 ?_
      refine z_icmp_ge 33 dX0_countWaiting_9 (by decide) (fun c_9_1 => ?_) (fun c_9_1 => ?_)
      ·
        refine z_iload_n 2 dX0_countWaiting_33 rfl ?_
        exact hret _ () _ _ _ dX0_countWaiting_34 (by rw [r_X0_countWaiting, hixnn]) rfl
      · exact absurd (by rw [hnn]; exact nI_le (Nat.le_refl _) (by omega)) c_9_1
    | succ r ih4 =>
      intro k4 hk4
      obtain ⟨x4, hx4⟩ : ∃ x, x = l_X0_countWaiting_4 u p1 k4 := ⟨_, rfl⟩
      rw [← hx4]
      refine z_iload_n 3 dX0_countWaiting_4 rfl ?_
      refine z_aload_n 0 dX0_countWaiting_5 rfl ?_
      refine z_get (C := RX0) (T := TX0) (N := 19) (v := .int (u.1 16)) inwX0_countWaiting 0 rfl rfl 16 (by decide) (List.mem_of_getElem? (i := 1) rfl) rfl rfl dX0_countWaiting_6 ?_
      refine z_icmp_ge 33 dX0_countWaiting_9 (by decide) (fun c_9_0 => ?_) (fun c_9_0 => ?_)
      · exact absurd c_9_0 (by rw [hnn]; exact nI_ge (by omega) (by omega))
      ·
        refine z_aload_n 0 dX0_countWaiting_12 rfl ?_
        refine z_iload_n 3 dX0_countWaiting_13 rfl ?_
        refine z_callVi (As := [.int (nI k4)]) (st := []) (fun l => c_X0_waitsNow l D cI cZ h a u (nI k4) (by first | assumption | exact vp_in_nI (by omega) (by omega) | exact hnn | exact znot hnn hn (by assumption) | decide)) zGok_TT (fun _ _ _ => trivial) (fun s args hts => cwV 1 hts gX0_countWaiting_X0_waitsNow rfl rfl rfl (by decide +kernel) ⟨Nat.le_of_ble_eq_true rfl, Nat.le_of_ble_eq_true rfl⟩) (ci := 0) rfl rfl rfl rfl (Nat.le_of_ble_eq_true rfl) ⟨Nat.le_of_ble_eq_true rfl, Nat.le_of_ble_eq_true rfl⟩ dX0_countWaiting_14 rfl (fun r u2 hp => ?_)
        subst hp
        refine z_iload_n 1 dX0_countWaiting_17 rfl ?_
        refine z_callSi (As := [.int (r_X0_waitsNow u (nI k4)), .int p1]) (st := []) (fun l => c_X0_has l D _ _ (r_X0_waitsNow u (nI k4)) p1) zGok_TT (fun _ _ _ => trivial) (fun s args hts => va_cwS 2 hts gX0_countWaiting_X0_has rfl rfl rfl (by decide +kernel) ⟨Nat.le_of_ble_eq_true rfl, Nat.le_of_ble_eq_true rfl⟩) rfl (Nat.le_of_ble_eq_true rfl) ⟨Nat.le_of_ble_eq_true rfl, Nat.le_of_ble_eq_true rfl⟩ dX0_countWaiting_18 rfl (fun r u2 hp => ?_)
        subst hp
        refine z_if_eq 27 dX0_countWaiting_21 (by decide) (fun c_21_2 => ?_) (fun c_21_2 => ?_)
        ·
          refine z_iinc (v := (nI (k4 + 1))) (L' := [(3, .int (nI (k4 + 1))), (0, .ref h), (1, .int p1), (2, .int x4)]) 3 dX0_countWaiting_27 rfl (nI_1 k4) (by decide) rfl ?_
          refine z_goto 4 dX0_countWaiting_30 (by decide) ?_
          have hb4 : l_X0_countWaiting_4 u p1 (k4 + 1) = x4 := by
            show b_X0_countWaiting_4 u p1 k4 (l_X0_countWaiting_4 u p1 k4) = _
            rw [← hx4, b_X0_countWaiting_4, if_pos c_21_2]
          refine z_sub (L' := [(0, .ref h), (1, .int p1), (2, .int x4), (3, .int (nI (k4 + 1)))]) [1, 2, 3, 0] rfl ?_
          have ih2 := ih4 (k4 + 1) (by omega)
          rw [hb4] at ih2
          exact ih2
        ·
          refine z_iinc (v := (x4 + 1)) (L' := [(2, .int (x4 + 1)), (0, .ref h), (1, .int p1), (3, .int (nI k4))]) 2 dX0_countWaiting_24 rfl rfl (by decide) rfl ?_
          refine z_iinc (v := (nI (k4 + 1))) (L' := [(3, .int (nI (k4 + 1))), (2, .int (x4 + 1)), (0, .ref h), (1, .int p1)]) 3 dX0_countWaiting_27 rfl (nI_1 k4) (by decide) rfl ?_
          refine z_goto 4 dX0_countWaiting_30 (by decide) ?_
          have hb4 : l_X0_countWaiting_4 u p1 (k4 + 1) = (x4 + 1) := by
            show b_X0_countWaiting_4 u p1 k4 (l_X0_countWaiting_4 u p1 k4) = _
            rw [← hx4, b_X0_countWaiting_4, if_neg c_21_2]
          refine z_sub (L' := [(0, .ref h), (1, .int p1), (2, .int (x4 + 1)), (3, .int (nI (k4 + 1)))]) [2, 3, 1, 0] rfl ?_
          have ih2 := ih4 (k4 + 1) (by omega)
          rw [hb4] at ih2
          exact ih2
  exact hloop4 nn 0 (by omega)
set_option maxHeartbeats 4000000 in
set_option maxRecDepth 100000 in
theorem c_X0_spendQuota (l : Launch) (D : va_G) (cI cZ : ClassId) (h : Nat) (a : Nat → Nat) (u : SX) (p1 : Int32) (nd : Nat) (hnd : u.1 10 = nI nd) (hd : nd ≤ 16) : zMv l yX0_spendQuota wsX0_spendQuota ({ frames := 2, cells := 0, slots := 0, locals := 41 } : Room) zTT D [(cI, .int), (cZ, .boolean)] (wX0 cI cZ h a u) [.ref h, .int p1] (fun u2 : SX => u2 = s_X0_spendQuota u p1) (fun u2 => (wX0 cI cZ h a u2)) 0 0 := by
  refine z_startV (cc := cX0_spendQuota) (n := 3) (own := RX0) (L0 := [(0, .ref h), (1, .int p1)]) (plainFor_of_name (by decide)) rfl rfl (Nat.le_of_ble_eq_true rfl) rfl (fun E hret => ?_)
  have hixnd : ix (u.1 10) = nd := by rw [hnd]; exact nI_clamp (by omega)
  refine z_iconst (v := 0) dX0_spendQuota_0 rfl ?_
  refine z_istore_n (L' := [(2, .int 0), (0, .ref h), (1, .int p1)]) dX0_spendQuota_1 (by decide) rfl ?_
  refine z_sub (L' := [(0, .ref h), (1, .int p1), (2, .int 0)]) [1, 2, 0] rfl ?_
  have hloop2 : ∀ r k2 : Nat, k2 + r = nd → ZW E zTT ({ frames := 2, cells := 0, slots := 0, locals := 41 } : Room) cX0_spendQuota RX0 wsX0_spendQuota 3 D [(cI, .int), (cZ, .boolean)] 0 0 (wX0 cI cZ h a (l_X0_spendQuota_2 u p1 k2)) 2 [(0, .ref h), (1, .int p1), (2, .int (nI k2))] [] := by
    intro r
    induction r with
    | zero =>
      intro k2 hk2
      have hkN2 : nd = k2 := by omega
      subst hkN2
      have hbx : ((l_X0_spendQuota_2 u p1 nd).1 10) = nI nd := by first | (rw [hx2, lf_X0_spendQuota_2]; exact hnd) | (rw [lf_X0_spendQuota_2]; exact hnd)
      refine z_iload_n 2 dX0_spendQuota_2 rfl ?_
      refine z_aload_n 0 dX0_spendQuota_3 rfl ?_
      refine z_get (C := RX0) (T := TX0) (N := 19) (v := .int ((l_X0_spendQuota_2 u p1 nd).1 10)) inwX0_spendQuota 0 rfl rfl 10 (by decide) (List.mem_of_getElem? (i := 1) rfl) rfl rfl dX0_spendQuota_4 ?_
      refine z_icmp_ge 51 dX0_spendQuota_7 (by decide) (fun c_7_1 => ?_) (fun c_7_1 => ?_)
      ·
        exact hret (l_X0_spendQuota_2 u p1 nd) _ _ _ dX0_spendQuota_51 (by rw [s_X0_spendQuota, hixnd]) rfl
      · exact absurd (by rw [hbx]; exact nI_le (Nat.le_refl _) (by omega)) c_7_1
    | succ r ih2 =>
      intro k2 hk2
      obtain ⟨x2, hx2⟩ : ∃ x, x = l_X0_spendQuota_2 u p1 k2 := ⟨_, rfl⟩
      rw [← hx2]
      have hbx : (x2.1 10) = nI nd := by first | (rw [hx2, lf_X0_spendQuota_2]; exact hnd) | (rw [lf_X0_spendQuota_2]; exact hnd)
      refine z_iload_n 2 dX0_spendQuota_2 rfl ?_
      refine z_aload_n 0 dX0_spendQuota_3 rfl ?_
      refine z_get (C := RX0) (T := TX0) (N := 19) (v := .int (x2.1 10)) inwX0_spendQuota 0 rfl rfl 10 (by decide) (List.mem_of_getElem? (i := 1) rfl) rfl rfl dX0_spendQuota_4 ?_
      refine z_icmp_ge 51 dX0_spendQuota_7 (by decide) (fun c_7_0 => ?_) (fun c_7_0 => ?_)
      · exact absurd c_7_0 (by rw [hbx]; exact nI_ge (by omega) (by omega))
      ·
        refine z_iload_n 1 dX0_spendQuota_10 rfl ?_
        refine z_iload_n 2 dX0_spendQuota_11 rfl ?_
        refine z_callSi (As := [.int p1, .int (nI k2)]) (st := []) (fun l => c_X0_has l D _ _ p1 (nI k2)) zGok_TT (fun _ _ _ => trivial) (fun s args hts => va_cwS 2 hts gX0_spendQuota_X0_has rfl rfl rfl (by decide +kernel) ⟨Nat.le_of_ble_eq_true rfl, Nat.le_of_ble_eq_true rfl⟩) rfl (Nat.le_of_ble_eq_true rfl) ⟨Nat.le_of_ble_eq_true rfl, Nat.le_of_ble_eq_true rfl⟩ dX0_spendQuota_12 rfl (fun r u2 hp => ?_)
        subst hp
        refine z_if_eq 45 dX0_spendQuota_15 (by decide) (fun c_15_2 => ?_) (fun c_15_2 => ?_)
        ·
          refine z_iinc (v := (nI (k2 + 1))) (L' := [(2, .int (nI (k2 + 1))), (0, .ref h), (1, .int p1)]) 2 dX0_spendQuota_45 rfl (nI_1 k2) (by decide) rfl ?_
          refine z_goto 2 dX0_spendQuota_48 (by decide) ?_
          have hb2 : l_X0_spendQuota_2 u p1 (k2 + 1) = x2 := by
            show b_X0_spendQuota_2 u p1 k2 (l_X0_spendQuota_2 u p1 k2) = _
            rw [← hx2, b_X0_spendQuota_2, if_pos c_15_2]
          refine z_sub (L' := [(0, .ref h), (1, .int p1), (2, .int (nI (k2 + 1)))]) [1, 2, 0] rfl ?_
          have ih2 := ih2 (k2 + 1) (by omega)
          rw [hb2] at ih2
          exact ih2
        ·
          refine z_aload_n 0 dX0_spendQuota_18 rfl ?_
          refine z_get (C := RX0) (T := TX0) (N := 19) (v := .ref (a 9)) inwX0_spendQuota 0 rfl rfl 9 (by decide) (List.mem_of_getElem? (i := 2) rfl) rfl rfl dX0_spendQuota_19 ?_
          refine z_iload_n 2 dX0_spendQuota_22 rfl ?_
          refine z_aload_n 0 dX0_spendQuota_23 rfl ?_
          refine z_iload_n 2 dX0_spendQuota_24 rfl ?_
          refine z_callVi (As := [.int (nI k2)]) (st := [.int (nI k2), .ref (a 9)]) (fun l => c_X0_spentToday l D cI cZ h a x2 (nI k2) (by first | assumption | exact vp_in_nI (by omega) (by omega) | exact hnd | exact zdev hnd hd (by assumption) | decide)) zGok_TT (fun _ _ _ => trivial) (fun s args hts => cwV 1 hts gX0_spendQuota_X0_spentToday rfl rfl rfl (by decide +kernel) ⟨Nat.le_of_ble_eq_true rfl, Nat.le_of_ble_eq_true rfl⟩) (ci := 0) rfl rfl rfl rfl (Nat.le_of_ble_eq_true rfl) ⟨Nat.le_of_ble_eq_true rfl, Nat.le_of_ble_eq_true rfl⟩ dX0_spendQuota_25 rfl (fun r u2 hp => ?_)
          subst hp
          refine z_iconst (v := 1) dX0_spendQuota_28 rfl ?_
          refine z_iadd dX0_spendQuota_29 ?_
          refine z_iast (w' := (wX0 cI cZ h a (pG x2 9 (ix (nI k2)) ((r_X0_spentToday x2 (nI k2)) + 1)))) 7 0 rfl rfl (vp_in_nI (by omega) (by omega)) (wX0_g9 _ _ _ _ _ _ _) dX0_spendQuota_30 ?_
          refine z_aload_n 0 dX0_spendQuota_31 rfl ?_
          refine z_get (C := RX0) (T := TX0) (N := 19) (v := .ref (a 8)) inwX0_spendQuota 0 rfl rfl 8 (by decide) (List.mem_of_getElem? (i := 3) rfl) rfl rfl dX0_spendQuota_32 ?_
          refine z_iload_n 2 dX0_spendQuota_35 rfl ?_
          refine z_aload_n 0 dX0_spendQuota_36 rfl ?_
          refine z_get (C := RX0) (T := TX0) (N := 19) (v := .int (x2.1 17)) inwX0_spendQuota 0 rfl rfl 17 (by decide) (List.mem_of_getElem? (i := 4) rfl) rfl rfl dX0_spendQuota_37 ?_
          refine z_sipush (v := 1440) dX0_spendQuota_40 rfl ?_
          refine z_idiv dX0_spendQuota_43 (by decide) ?_
          refine z_iast (w' := (wX0 cI cZ h a (pG (pG x2 9 (ix (nI k2)) ((r_X0_spentToday x2 (nI k2)) + 1)) 8 (ix (nI k2)) ((x2.1 17) / 1440)))) 6 0 rfl rfl (vp_in_nI (by omega) (by omega)) (wX0_g8 _ _ _ _ _ _ _) dX0_spendQuota_44 ?_
          refine z_iinc (v := (nI (k2 + 1))) (L' := [(2, .int (nI (k2 + 1))), (0, .ref h), (1, .int p1)]) 2 dX0_spendQuota_45 rfl (nI_1 k2) (by decide) rfl ?_
          refine z_goto 2 dX0_spendQuota_48 (by decide) ?_
          have hb2 : l_X0_spendQuota_2 u p1 (k2 + 1) = (pG (pG x2 9 (ix (nI k2)) ((r_X0_spentToday x2 (nI k2)) + 1)) 8 (ix (nI k2)) ((x2.1 17) / 1440)) := by
            show b_X0_spendQuota_2 u p1 k2 (l_X0_spendQuota_2 u p1 k2) = _
            rw [← hx2, b_X0_spendQuota_2, if_neg c_15_2]
          refine z_sub (L' := [(0, .ref h), (1, .int p1), (2, .int (nI (k2 + 1)))]) [1, 2, 0] rfl ?_
          have ih2 := ih2 (k2 + 1) (by omega)
          rw [hb2] at ih2
          exact ih2
  exact hloop2 nd 0 (by omega)
end
