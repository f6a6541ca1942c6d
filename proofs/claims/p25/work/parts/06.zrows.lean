/-- a heap with k cells more: how many a walk has made at the least -/
def zx (H : Heap) (k : Nat) : Heap := H ++ Array.replicate k default
theorem zx_size (H : Heap) (k : Nat) : (zx H k).size = H.size + k := by unfold zx; simp
theorem zx_get {H : Heap} {k q : Nat} (h : q < H.size) : (zx H k)[q]? = H[q]? := by unfold zx; exact Array.getElem?_append_left h
theorem zx_S {A : Nat → Prop} {H0 H : Heap} {locs : List Loc} {k : Nat} (h : va_S A (zx H0 k) H locs) : va_S A H0 H locs := by
  have e := zx_size H0 k
  exact ⟨by have := h.1; omega, fun q h1 h2 => (h.2.1 q (by omega) h2).trans (zx_get h1), h.2.2⟩
theorem zx_le {A : Nat → Prop} {H0 H : Heap} {locs : List Loc} {k : Nat} (h : va_S A (zx H0 k) H locs) : H0.size + k ≤ H.size := by
  have e := zx_size H0 k
  have := h.1
  omega
theorem zx_to {A : Nat → Prop} {H0 H : Heap} {locs : List Loc} {k : Nat} (h : va_S A H0 H locs) (hs : H0.size + k ≤ H.size) (hA : ∀ q, H0.size ≤ q → A q) : va_S A (zx H0 k) H locs := by
  refine ⟨by rw [zx_size]; exact hs, fun q h1 h2 => ?_, h.2.2⟩
  rcases Nat.lt_or_ge q H0.size with z | z
  · rw [zx_get z]; exact h.2.1 q z h2
  · exact absurd (hA q z) h2
theorem zx_up {A : Nat → Prop} {H0 H H1 : Heap} {locs locs1 : List Loc} {k j : Nat} (h : va_S A (zx H0 k) H locs) (h1 : va_S A (zx H0 k) H1 locs1) (hs : H.size + j ≤ H1.size) (hA : ∀ q, H0.size ≤ q → A q) : va_S A (zx H0 (k + j)) H1 locs1 := zx_to (zx_S h1) (by have := zx_le h; omega) hA
theorem zx_rf {A : Nat → Prop} {H0 : Heap} (hA : ∀ q, H0.size ≤ q → A q) : va_S A (zx H0 0) H0 [] := zx_to va_S.rf (Nat.le_refl _) hA
/-- the fixed surroundings of a walk -/
abbrev ZE : Type := Program × Launch × Env × State × MethodId × Array Value × List Frame × Method × Code × (Nat → Prop) × (State → Prop)
/-- in the world w, at pc with the locals L and the stack st, the walk comes to its end -/
def ZW (E : ZE) (G : State → (Nat → Prop) → Prop) (R : Room) (cc : ByteArray) (own : String) (Ts : List Cond) (n : Nat) (D : va_G) (tys : List (ClassId × FieldType)) (cells slots : Nat) (w : va_W) (pc : Nat) (L : List (Nat × Value)) (st : List Value) : Prop :=
  match E with
  | (p, l, e, s, m, args, below, meth, c, A, Q) => p.tables.exec = Jvm.exec → c.code = cc → c.maxLocals = n → s.vm.findClass own = some m.cls → (∀ w ∈ Ts, w.before args s = true) → (∀ q, s.heap.size ≤ q → A q) → G s A → va_K D vwCl tys s →
    ∀ (H : Heap) (locs : List Loc) (ls : Array Slot), va_P D vwCl w H → va_D A w → va_S A (zx s.heap cells) H locs → lv_has ls n L → W p l e R s m args below meth c H locs cells slots Q (F0 m pc ls st)
/-- an exception of a class E' with px E', raised at pc, is brought to its end -/
def ZX (E : ZE) (G : State → (Nat → Prop) → Prop) (R : Room) (cc : ByteArray) (own : String) (Ts : List Cond) (n : Nat) (D : va_G) (tys : List (ClassId × FieldType)) (cells slots : Nat) (w : va_W) (pc : Nat) (L : List (Nat × Value)) (px : String → Prop) : Prop :=
  match E with
  | (p, l, e, s, m, args, below, meth, c, A, Q) => p.tables.exec = Jvm.exec → c.code = cc → c.maxLocals = n → s.vm.findClass own = some m.cls → (∀ w ∈ Ts, w.before args s = true) → (∀ q, s.heap.size ≤ q → A q) → G s A → va_K D vwCl tys s →
    ∀ (H : Heap) (locs : List Loc) (ls : Array Slot), va_P D vwCl w H → va_D A w → va_S A (zx s.heap cells) H locs → lv_has ls n L →
      ∀ (E' : String) (ce : Cell) (q9 : Addr) (rest : List Value), px E' → H[q9]? = some ce → ce.vm = .none → s.vm.findClass E' = some ce.cls → vx_W p l e R s m args below meth c H locs cells slots Q (F0 m pc ls rest) q9
def z_set (i : Nat) (v : Value) (L : List (Nat × Value)) : List (Nat × Value) := (i, v) :: L.filter (fun q => !(q.1 == i) && !(q.1 + 1 == i && q.2.category == 2))
section ZRows
variable {E : ZE} {G : State → (Nat → Prop) → Prop} {R : Room} {cc : ByteArray} {own : String} {Ts : List Cond} {n : Nat} {D : va_G} {tys : List (ClassId × FieldType)} {cells slots : Nat} {w : va_W} {pc : Nat} {L : List (Nat × Value)} {st : List Value}
theorem z_iconst {k : Int} {v : Int32} (d : decode cc pc = .ok (.iconst k, 1)) (hv : Int32.ofInt k = v) (kk : ZW E G R cc own Ts n D tys cells slots w (pc + 1) L (.int v :: st)) : ZW E G R cc own Ts n D tys cells slots w (pc) L (st) := by
  obtain ⟨p, l, e, s, m, args, below, meth, c, A, Q⟩ := E
  intro hx hb hml hown hts hA hG hK H locs ls hP hD hS hl
  exact lv_iconst hx hb d hv (kk hx hb hml hown hts hA hG hK H locs ls hP hD hS hl)
theorem z_bipush {k : Int} {v : Int32} (d : decode cc pc = .ok (.bipush k, 2)) (hv : (Int8.ofInt k).toInt32 = v) (kk : ZW E G R cc own Ts n D tys cells slots w (pc + 2) L (.int v :: st)) : ZW E G R cc own Ts n D tys cells slots w (pc) L (st) := by
  obtain ⟨p, l, e, s, m, args, below, meth, c, A, Q⟩ := E
  intro hx hb hml hown hts hA hG hK H locs ls hP hD hS hl
  exact lv_bipush hx hb d hv (kk hx hb hml hown hts hA hG hK H locs ls hP hD hS hl)
theorem z_sipush {k : Int} {v : Int32} (d : decode cc pc = .ok (.sipush k, 3)) (hv : (Int16.ofInt k).toInt32 = v) (kk : ZW E G R cc own Ts n D tys cells slots w (pc + 3) L (.int v :: st)) : ZW E G R cc own Ts n D tys cells slots w (pc) L (st) := by
  obtain ⟨p, l, e, s, m, args, below, meth, c, A, Q⟩ := E
  intro hx hb hml hown hts hA hG hK H locs ls hP hD hS hl
  exact lv_sipush hx hb d hv (kk hx hb hml hown hts hA hG hK H locs ls hP hD hS hl)
theorem z_lconst {k : Fin 2} {v : Int64} (d : decode cc pc = .ok (.lconst k, 1)) (hv : Int64.ofNat (k : Nat) = v) (kk : ZW E G R cc own Ts n D tys cells slots w (pc + 1) L (.long v :: st)) : ZW E G R cc own Ts n D tys cells slots w (pc) L (st) := by
  obtain ⟨p, l, e, s, m, args, below, meth, c, A, Q⟩ := E
  intro hx hb hml hown hts hA hG hK H locs ls hP hD hS hl
  exact lv_lconst hx hb d hv (kk hx hb hml hown hts hA hG hK H locs ls hP hD hS hl)
theorem z_ldcw {index : Nat} {v : Int32} (hc : Cond.constant own index v ∈ Ts) (d : decode cc pc = .ok (.ldc_w index, 3)) (kk : ZW E G R cc own Ts n D tys cells slots w (pc + 3) L (.int v :: st)) : ZW E G R cc own Ts n D tys cells slots w (pc) L (st) := by
  obtain ⟨p, l, e, s, m, args, below, meth, c, A, Q⟩ := E
  intro hx hb hml hown hts hA hG hK H locs ls hP hD hS hl
  exact lv_ldcw hx hb hown (hts _ hc) d (kk hx hb hml hown hts hA hG hK H locs ls hP hD hS hl)
theorem z_ldc {index : Nat} {v : Int32} (hc : Cond.constant own index v ∈ Ts) (d : decode cc pc = .ok (.ldc index, 2)) (kk : ZW E G R cc own Ts n D tys cells slots w (pc + 2) L (.int v :: st)) : ZW E G R cc own Ts n D tys cells slots w (pc) L (st) := by
  obtain ⟨p, l, e, s, m, args, below, meth, c, A, Q⟩ := E
  intro hx hb hml hown hts hA hG hK H locs ls hP hD hS hl
  exact lv_ldc hx hb hown (hts _ hc) d (kk hx hb hml hown hts hA hG hK H locs ls hP hD hS hl)
theorem z_iload_n {k : Fin 4} {x : Int32} (j : Nat) (d : decode cc pc = .ok (.iload_n k, 1)) (hj : L[j]? = some ((k : Nat), .int x)) (kk : ZW E G R cc own Ts n D tys cells slots w (pc + 1) L (.int x :: st)) : ZW E G R cc own Ts n D tys cells slots w (pc) L (st) := by
  obtain ⟨p, l, e, s, m, args, below, meth, c, A, Q⟩ := E
  intro hx hb hml hown hts hA hG hK H locs ls hP hD hS hl
  exact lv_iload_n hx hb d rfl (lv_at hl j hj) (kk hx hb hml hown hts hA hG hK H locs ls hP hD hS hl)
theorem z_iload {i : Nat} {x : Int32} (j : Nat) (d : decode cc pc = .ok (.iload i, 2)) (hj : L[j]? = some (i, .int x)) (kk : ZW E G R cc own Ts n D tys cells slots w (pc + 2) L (.int x :: st)) : ZW E G R cc own Ts n D tys cells slots w (pc) L (st) := by
  obtain ⟨p, l, e, s, m, args, below, meth, c, A, Q⟩ := E
  intro hx hb hml hown hts hA hG hK H locs ls hP hD hS hl
  exact lv_iload hx hb d (lv_at hl j hj) (kk hx hb hml hown hts hA hG hK H locs ls hP hD hS hl)
theorem z_aload_n {k : Fin 4} {x : Nat} (j : Nat) (d : decode cc pc = .ok (.aload_n k, 1)) (hj : L[j]? = some ((k : Nat), .ref x)) (kk : ZW E G R cc own Ts n D tys cells slots w (pc + 1) L (.ref x :: st)) : ZW E G R cc own Ts n D tys cells slots w (pc) L (st) := by
  obtain ⟨p, l, e, s, m, args, below, meth, c, A, Q⟩ := E
  intro hx hb hml hown hts hA hG hK H locs ls hP hD hS hl
  exact lv_aload_n hx hb d rfl (lv_at hl j hj) (kk hx hb hml hown hts hA hG hK H locs ls hP hD hS hl)
theorem z_aload {i : Nat} {x : Nat} (j : Nat) (d : decode cc pc = .ok (.aload i, 2)) (hj : L[j]? = some (i, .ref x)) (kk : ZW E G R cc own Ts n D tys cells slots w (pc + 2) L (.ref x :: st)) : ZW E G R cc own Ts n D tys cells slots w (pc) L (st) := by
  obtain ⟨p, l, e, s, m, args, below, meth, c, A, Q⟩ := E
  intro hx hb hml hown hts hA hG hK H locs ls hP hD hS hl
  exact lv_aload hx hb d (lv_at hl j hj) (kk hx hb hml hown hts hA hG hK H locs ls hP hD hS hl)
theorem z_istore_n {k : Fin 4} {x : Int32} {L' : List (Nat × Value)} (d : decode cc pc = .ok (.istore_n k, 1)) (hn : (k : Nat) < n) (hL : z_set (k : Nat) (.int x) L = L') (kk : ZW E G R cc own Ts n D tys cells slots w (pc + 1) L' (st)) : ZW E G R cc own Ts n D tys cells slots w (pc) L (.int x :: st) := by
  obtain ⟨p, l, e, s, m, args, below, meth, c, A, Q⟩ := E
  intro hx hb hml hown hts hA hG hK H locs ls hP hD hS hl
  exact lv_istore_n hx hb d rfl hl hn hL (fun ls2 hl2 => kk hx hb hml hown hts hA hG hK H locs ls2 hP hD hS hl2)
theorem z_istore {i : Nat} {x : Int32} {L' : List (Nat × Value)} (d : decode cc pc = .ok (.istore i, 2)) (hn : i < n) (hL : z_set i (.int x) L = L') (kk : ZW E G R cc own Ts n D tys cells slots w (pc + 2) L' (st)) : ZW E G R cc own Ts n D tys cells slots w (pc) L (.int x :: st) := by
  obtain ⟨p, l, e, s, m, args, below, meth, c, A, Q⟩ := E
  intro hx hb hml hown hts hA hG hK H locs ls hP hD hS hl
  exact lv_istore hx hb d hl hn hL (fun ls2 hl2 => kk hx hb hml hown hts hA hG hK H locs ls2 hP hD hS hl2)
theorem z_astore_n {k : Fin 4} {x : Nat} {L' : List (Nat × Value)} (d : decode cc pc = .ok (.astore_n k, 1)) (hn : (k : Nat) < n) (hL : z_set (k : Nat) (.ref x) L = L') (kk : ZW E G R cc own Ts n D tys cells slots w (pc + 1) L' (st)) : ZW E G R cc own Ts n D tys cells slots w (pc) L (.ref x :: st) := by
  obtain ⟨p, l, e, s, m, args, below, meth, c, A, Q⟩ := E
  intro hx hb hml hown hts hA hG hK H locs ls hP hD hS hl
  exact lv_astore_n hx hb d rfl hl hn hL (fun ls2 hl2 => kk hx hb hml hown hts hA hG hK H locs ls2 hP hD hS hl2)
theorem z_astore {i : Nat} {x : Nat} {L' : List (Nat × Value)} (d : decode cc pc = .ok (.astore i, 2)) (hn : i < n) (hL : z_set i (.ref x) L = L') (kk : ZW E G R cc own Ts n D tys cells slots w (pc + 2) L' (st)) : ZW E G R cc own Ts n D tys cells slots w (pc) L (.ref x :: st) := by
  obtain ⟨p, l, e, s, m, args, below, meth, c, A, Q⟩ := E
  intro hx hb hml hown hts hA hG hK H locs ls hP hD hS hl
  exact lv_astore hx hb d hl hn hL (fun ls2 hl2 => kk hx hb hml hown hts hA hG hK H locs ls2 hP hD hS hl2)
theorem z_iinc {i : Nat} {k : Int} {x v : Int32} {L' : List (Nat × Value)} (j : Nat) (d : decode cc pc = .ok (.iinc i k, 3)) (hj : L[j]? = some (i, .int x)) (hv : x + Int32.ofInt k = v) (hn : i < n) (hL : z_set i (.int v) L = L') (kk : ZW E G R cc own Ts n D tys cells slots w (pc + 3) L' (st)) : ZW E G R cc own Ts n D tys cells slots w (pc) L (st) := by
  obtain ⟨p, l, e, s, m, args, below, meth, c, A, Q⟩ := E
  intro hx hb hml hown hts hA hG hK H locs ls hP hD hS hl
  exact lv_iinc hx hb d hl hj hv hn hL (fun ls2 hl2 => kk hx hb hml hown hts hA hG hK H locs ls2 hP hD hS hl2)
theorem z_sub {L' : List (Nat × Value)} (ks : List Nat) (hL : lv_pick L ks = L') (kk : ZW E G R cc own Ts n D tys cells slots w (pc) L' (st)) : ZW E G R cc own Ts n D tys cells slots w (pc) L (st) := by
  obtain ⟨p, l, e, s, m, args, below, meth, c, A, Q⟩ := E
  intro hx hb hml hown hts hA hG hK H locs ls hP hD hS hl
  exact kk hx hb hml hown hts hA hG hK H locs ls hP hD hS (lv_sub hl ks hL)
theorem z_iadd {x y : Int32} (d : decode cc pc = .ok (.iadd, 1)) (kk : ZW E G R cc own Ts n D tys cells slots w (pc + 1) L (.int (x + y) :: st)) : ZW E G R cc own Ts n D tys cells slots w (pc) L (.int y :: .int x :: st) := by
  obtain ⟨p, l, e, s, m, args, below, meth, c, A, Q⟩ := E
  intro hx hb hml hown hts hA hG hK H locs ls hP hD hS hl
  exact lv_iadd hx hb d (kk hx hb hml hown hts hA hG hK H locs ls hP hD hS hl)
theorem z_isub {x y : Int32} (d : decode cc pc = .ok (.isub, 1)) (kk : ZW E G R cc own Ts n D tys cells slots w (pc + 1) L (.int (x - y) :: st)) : ZW E G R cc own Ts n D tys cells slots w (pc) L (.int y :: .int x :: st) := by
  obtain ⟨p, l, e, s, m, args, below, meth, c, A, Q⟩ := E
  intro hx hb hml hown hts hA hG hK H locs ls hP hD hS hl
  exact lv_isub hx hb d (kk hx hb hml hown hts hA hG hK H locs ls hP hD hS hl)
theorem z_imul {x y : Int32} (d : decode cc pc = .ok (.imul, 1)) (kk : ZW E G R cc own Ts n D tys cells slots w (pc + 1) L (.int (x * y) :: st)) : ZW E G R cc own Ts n D tys cells slots w (pc) L (.int y :: .int x :: st) := by
  obtain ⟨p, l, e, s, m, args, below, meth, c, A, Q⟩ := E
  intro hx hb hml hown hts hA hG hK H locs ls hP hD hS hl
  exact lv_imul hx hb d (kk hx hb hml hown hts hA hG hK H locs ls hP hD hS hl)
theorem z_iand {x y : Int32} (d : decode cc pc = .ok (.iand, 1)) (kk : ZW E G R cc own Ts n D tys cells slots w (pc + 1) L (.int (x &&& y) :: st)) : ZW E G R cc own Ts n D tys cells slots w (pc) L (.int y :: .int x :: st) := by
  obtain ⟨p, l, e, s, m, args, below, meth, c, A, Q⟩ := E
  intro hx hb hml hown hts hA hG hK H locs ls hP hD hS hl
  exact lv_iand hx hb d (kk hx hb hml hown hts hA hG hK H locs ls hP hD hS hl)
theorem z_ior {x y : Int32} (d : decode cc pc = .ok (.ior, 1)) (kk : ZW E G R cc own Ts n D tys cells slots w (pc + 1) L (.int (x ||| y) :: st)) : ZW E G R cc own Ts n D tys cells slots w (pc) L (.int y :: .int x :: st) := by
  obtain ⟨p, l, e, s, m, args, below, meth, c, A, Q⟩ := E
  intro hx hb hml hown hts hA hG hK H locs ls hP hD hS hl
  exact lv_ior hx hb d (kk hx hb hml hown hts hA hG hK H locs ls hP hD hS hl)
theorem z_ixor {x y : Int32} (d : decode cc pc = .ok (.ixor, 1)) (kk : ZW E G R cc own Ts n D tys cells slots w (pc + 1) L (.int (x ^^^ y) :: st)) : ZW E G R cc own Ts n D tys cells slots w (pc) L (.int y :: .int x :: st) := by
  obtain ⟨p, l, e, s, m, args, below, meth, c, A, Q⟩ := E
  intro hx hb hml hown hts hA hG hK H locs ls hP hD hS hl
  exact lv_ixor hx hb d (kk hx hb hml hown hts hA hG hK H locs ls hP hD hS hl)
theorem z_ishl {x y : Int32} (d : decode cc pc = .ok (.ishl, 1)) (kk : ZW E G R cc own Ts n D tys cells slots w (pc + 1) L (.int (x <<< (y &&& 31)) :: st)) : ZW E G R cc own Ts n D tys cells slots w (pc) L (.int y :: .int x :: st) := by
  obtain ⟨p, l, e, s, m, args, below, meth, c, A, Q⟩ := E
  intro hx hb hml hown hts hA hG hK H locs ls hP hD hS hl
  exact lv_ishl hx hb d (kk hx hb hml hown hts hA hG hK H locs ls hP hD hS hl)
theorem z_ishr {x y : Int32} (d : decode cc pc = .ok (.ishr, 1)) (kk : ZW E G R cc own Ts n D tys cells slots w (pc + 1) L (.int (x >>> (y &&& 31)) :: st)) : ZW E G R cc own Ts n D tys cells slots w (pc) L (.int y :: .int x :: st) := by
  obtain ⟨p, l, e, s, m, args, below, meth, c, A, Q⟩ := E
  intro hx hb hml hown hts hA hG hK H locs ls hP hD hS hl
  exact lv_ishr hx hb d (kk hx hb hml hown hts hA hG hK H locs ls hP hD hS hl)
theorem z_idiv {x y : Int32} (d : decode cc pc = .ok (.idiv, 1)) (hne : ¬ y = 0) (kk : ZW E G R cc own Ts n D tys cells slots w (pc + 1) L (.int (x / y) :: st)) : ZW E G R cc own Ts n D tys cells slots w (pc) L (.int y :: .int x :: st) := by
  obtain ⟨p, l, e, s, m, args, below, meth, c, A, Q⟩ := E
  intro hx hb hml hown hts hA hG hK H locs ls hP hD hS hl
  exact lv_idiv hx hb d hne (kk hx hb hml hown hts hA hG hK H locs ls hP hD hS hl)
theorem z_irem {x y : Int32} (d : decode cc pc = .ok (.irem, 1)) (hne : ¬ y = 0) (kk : ZW E G R cc own Ts n D tys cells slots w (pc + 1) L (.int (x - x / y * y) :: st)) : ZW E G R cc own Ts n D tys cells slots w (pc) L (.int y :: .int x :: st) := by
  obtain ⟨p, l, e, s, m, args, below, meth, c, A, Q⟩ := E
  intro hx hb hml hown hts hA hG hK H locs ls hP hD hS hl
  exact lv_irem hx hb d hne (kk hx hb hml hown hts hA hG hK H locs ls hP hD hS hl)
theorem z_iushr {x y v : Int32} (d : decode cc pc = .ok (.iushr, 1)) (hv : (x.toUInt32 >>> (y.toUInt32 &&& Int32.toUInt32 31)).toInt32 = v) (kk : ZW E G R cc own Ts n D tys cells slots w (pc + 1) L (.int v :: st)) : ZW E G R cc own Ts n D tys cells slots w (pc) L (.int y :: .int x :: st) := by
  obtain ⟨p, l, e, s, m, args, below, meth, c, A, Q⟩ := E
  intro hx hb hml hown hts hA hG hK H locs ls hP hD hS hl
  exact lv_iushr hx hb d hv (kk hx hb hml hown hts hA hG hK H locs ls hP hD hS hl)
theorem z_i2l {x : Int32} {v : Int64} (d : decode cc pc = .ok (.i2l, 1)) (hv : x.toInt64 = v) (kk : ZW E G R cc own Ts n D tys cells slots w (pc + 1) L (.long v :: st)) : ZW E G R cc own Ts n D tys cells slots w (pc) L (.int x :: st) := by
  obtain ⟨p, l, e, s, m, args, below, meth, c, A, Q⟩ := E
  intro hx hb hml hown hts hA hG hK H locs ls hP hD hS hl
  exact lv_i2l hx hb d hv (kk hx hb hml hown hts hA hG hK H locs ls hP hD hS hl)
theorem z_dup {v : Value} (d : decode cc pc = .ok (.dup, 1)) (hv : v.category = 1) (kk : ZW E G R cc own Ts n D tys cells slots w (pc + 1) L (v :: v :: st)) : ZW E G R cc own Ts n D tys cells slots w (pc) L (v :: st) := by
  obtain ⟨p, l, e, s, m, args, below, meth, c, A, Q⟩ := E
  intro hx hb hml hown hts hA hG hK H locs ls hP hD hS hl
  exact lv_dup hx hb d hv (kk hx hb hml hown hts hA hG hK H locs ls hP hD hS hl)
theorem z_dup2 {v v2 : Value} (d : decode cc pc = .ok (.dup2, 1)) (hv : v.category = 1) (hv2 : v2.category = 1) (kk : ZW E G R cc own Ts n D tys cells slots w (pc + 1) L (v :: v2 :: v :: v2 :: st)) : ZW E G R cc own Ts n D tys cells slots w (pc) L (v :: v2 :: st) := by
  obtain ⟨p, l, e, s, m, args, below, meth, c, A, Q⟩ := E
  intro hx hb hml hown hts hA hG hK H locs ls hP hD hS hl
  exact lv_dup2_11 hx hb d hv hv2 (kk hx hb hml hown hts hA hG hK H locs ls hP hD hS hl)
theorem z_pop {v : Value} (d : decode cc pc = .ok (.pop, 1)) (hv : v.category = 1) (kk : ZW E G R cc own Ts n D tys cells slots w (pc + 1) L (st)) : ZW E G R cc own Ts n D tys cells slots w (pc) L (v :: st) := by
  obtain ⟨p, l, e, s, m, args, below, meth, c, A, Q⟩ := E
  intro hx hb hml hown hts hA hG hK H locs ls hP hD hS hl
  exact lv_pop hx hb d hv (kk hx hb hml hown hts hA hG hK H locs ls hP hD hS hl)
theorem z_if_eq {x : Int32} {off : Int} (tgt : Nat) (d : decode cc pc = .ok (.ifCond .eq off, 3)) (ht : (pc : Int) + off = (tgt : Int)) (kt : x = 0 → ZW E G R cc own Ts n D tys cells slots w (tgt) L (st)) (kf : ¬ x = 0 → ZW E G R cc own Ts n D tys cells slots w (pc + 3) L (st)) : ZW E G R cc own Ts n D tys cells slots w (pc) L (.int x :: st) := by
  obtain ⟨p, l, e, s, m, args, below, meth, c, A, Q⟩ := E
  intro hx hb hml hown hts hA hG hK H locs ls hP hD hS hl
  exact lv_if_eq hx hb d ht (fun h => kt h hx hb hml hown hts hA hG hK H locs ls hP hD hS hl) (fun h => kf h hx hb hml hown hts hA hG hK H locs ls hP hD hS hl)
theorem z_if_ne {x : Int32} {off : Int} (tgt : Nat) (d : decode cc pc = .ok (.ifCond .ne off, 3)) (ht : (pc : Int) + off = (tgt : Int)) (kt : ¬ x = 0 → ZW E G R cc own Ts n D tys cells slots w (tgt) L (st)) (kf : x = 0 → ZW E G R cc own Ts n D tys cells slots w (pc + 3) L (st)) : ZW E G R cc own Ts n D tys cells slots w (pc) L (.int x :: st) := by
  obtain ⟨p, l, e, s, m, args, below, meth, c, A, Q⟩ := E
  intro hx hb hml hown hts hA hG hK H locs ls hP hD hS hl
  exact lv_if_ne hx hb d ht (fun h => kt h hx hb hml hown hts hA hG hK H locs ls hP hD hS hl) (fun h => kf h hx hb hml hown hts hA hG hK H locs ls hP hD hS hl)
theorem z_if_lt {x : Int32} {off : Int} (tgt : Nat) (d : decode cc pc = .ok (.ifCond .lt off, 3)) (ht : (pc : Int) + off = (tgt : Int)) (kt : x < 0 → ZW E G R cc own Ts n D tys cells slots w (tgt) L (st)) (kf : ¬ x < 0 → ZW E G R cc own Ts n D tys cells slots w (pc + 3) L (st)) : ZW E G R cc own Ts n D tys cells slots w (pc) L (.int x :: st) := by
  obtain ⟨p, l, e, s, m, args, below, meth, c, A, Q⟩ := E
  intro hx hb hml hown hts hA hG hK H locs ls hP hD hS hl
  exact lv_if_lt hx hb d ht (fun h => kt h hx hb hml hown hts hA hG hK H locs ls hP hD hS hl) (fun h => kf h hx hb hml hown hts hA hG hK H locs ls hP hD hS hl)
theorem z_if_ge {x : Int32} {off : Int} (tgt : Nat) (d : decode cc pc = .ok (.ifCond .ge off, 3)) (ht : (pc : Int) + off = (tgt : Int)) (kt : 0 ≤ x → ZW E G R cc own Ts n D tys cells slots w (tgt) L (st)) (kf : ¬ 0 ≤ x → ZW E G R cc own Ts n D tys cells slots w (pc + 3) L (st)) : ZW E G R cc own Ts n D tys cells slots w (pc) L (.int x :: st) := by
  obtain ⟨p, l, e, s, m, args, below, meth, c, A, Q⟩ := E
  intro hx hb hml hown hts hA hG hK H locs ls hP hD hS hl
  exact lv_if_ge hx hb d ht (fun h => kt h hx hb hml hown hts hA hG hK H locs ls hP hD hS hl) (fun h => kf h hx hb hml hown hts hA hG hK H locs ls hP hD hS hl)
theorem z_icmp_eq {x y : Int32} {off : Int} (tgt : Nat) (d : decode cc pc = .ok (.if_icmp .eq off, 3)) (ht : (pc : Int) + off = (tgt : Int)) (kt : x = y → ZW E G R cc own Ts n D tys cells slots w (tgt) L (st)) (kf : ¬ x = y → ZW E G R cc own Ts n D tys cells slots w (pc + 3) L (st)) : ZW E G R cc own Ts n D tys cells slots w (pc) L (.int y :: .int x :: st) := by
  obtain ⟨p, l, e, s, m, args, below, meth, c, A, Q⟩ := E
  intro hx hb hml hown hts hA hG hK H locs ls hP hD hS hl
  exact lv_icmp_eq hx hb d ht (fun h => kt h hx hb hml hown hts hA hG hK H locs ls hP hD hS hl) (fun h => kf h hx hb hml hown hts hA hG hK H locs ls hP hD hS hl)
theorem z_icmp_ne {x y : Int32} {off : Int} (tgt : Nat) (d : decode cc pc = .ok (.if_icmp .ne off, 3)) (ht : (pc : Int) + off = (tgt : Int)) (kt : ¬ x = y → ZW E G R cc own Ts n D tys cells slots w (tgt) L (st)) (kf : x = y → ZW E G R cc own Ts n D tys cells slots w (pc + 3) L (st)) : ZW E G R cc own Ts n D tys cells slots w (pc) L (.int y :: .int x :: st) := by
  obtain ⟨p, l, e, s, m, args, below, meth, c, A, Q⟩ := E
  intro hx hb hml hown hts hA hG hK H locs ls hP hD hS hl
  exact lv_icmp_ne hx hb d ht (fun h => kt h hx hb hml hown hts hA hG hK H locs ls hP hD hS hl) (fun h => kf h hx hb hml hown hts hA hG hK H locs ls hP hD hS hl)
theorem z_icmp_lt {x y : Int32} {off : Int} (tgt : Nat) (d : decode cc pc = .ok (.if_icmp .lt off, 3)) (ht : (pc : Int) + off = (tgt : Int)) (kt : x < y → ZW E G R cc own Ts n D tys cells slots w (tgt) L (st)) (kf : ¬ x < y → ZW E G R cc own Ts n D tys cells slots w (pc + 3) L (st)) : ZW E G R cc own Ts n D tys cells slots w (pc) L (.int y :: .int x :: st) := by
  obtain ⟨p, l, e, s, m, args, below, meth, c, A, Q⟩ := E
  intro hx hb hml hown hts hA hG hK H locs ls hP hD hS hl
  exact lv_icmp_lt hx hb d ht (fun h => kt h hx hb hml hown hts hA hG hK H locs ls hP hD hS hl) (fun h => kf h hx hb hml hown hts hA hG hK H locs ls hP hD hS hl)
theorem z_icmp_ge {x y : Int32} {off : Int} (tgt : Nat) (d : decode cc pc = .ok (.if_icmp .ge off, 3)) (ht : (pc : Int) + off = (tgt : Int)) (kt : y ≤ x → ZW E G R cc own Ts n D tys cells slots w (tgt) L (st)) (kf : ¬ y ≤ x → ZW E G R cc own Ts n D tys cells slots w (pc + 3) L (st)) : ZW E G R cc own Ts n D tys cells slots w (pc) L (.int y :: .int x :: st) := by
  obtain ⟨p, l, e, s, m, args, below, meth, c, A, Q⟩ := E
  intro hx hb hml hown hts hA hG hK H locs ls hP hD hS hl
  exact lv_icmp_ge hx hb d ht (fun h => kt h hx hb hml hown hts hA hG hK H locs ls hP hD hS hl) (fun h => kf h hx hb hml hown hts hA hG hK H locs ls hP hD hS hl)
theorem z_icmp_gt {x y : Int32} {off : Int} (tgt : Nat) (d : decode cc pc = .ok (.if_icmp .gt off, 3)) (ht : (pc : Int) + off = (tgt : Int)) (kt : y < x → ZW E G R cc own Ts n D tys cells slots w (tgt) L (st)) (kf : ¬ y < x → ZW E G R cc own Ts n D tys cells slots w (pc + 3) L (st)) : ZW E G R cc own Ts n D tys cells slots w (pc) L (.int y :: .int x :: st) := by
  obtain ⟨p, l, e, s, m, args, below, meth, c, A, Q⟩ := E
  intro hx hb hml hown hts hA hG hK H locs ls hP hD hS hl
  exact lv_icmp_gt hx hb d ht (fun h => kt h hx hb hml hown hts hA hG hK H locs ls hP hD hS hl) (fun h => kf h hx hb hml hown hts hA hG hK H locs ls hP hD hS hl)
theorem z_icmp_le {x y : Int32} {off : Int} (tgt : Nat) (d : decode cc pc = .ok (.if_icmp .le off, 3)) (ht : (pc : Int) + off = (tgt : Int)) (kt : x ≤ y → ZW E G R cc own Ts n D tys cells slots w (tgt) L (st)) (kf : ¬ x ≤ y → ZW E G R cc own Ts n D tys cells slots w (pc + 3) L (st)) : ZW E G R cc own Ts n D tys cells slots w (pc) L (.int y :: .int x :: st) := by
  obtain ⟨p, l, e, s, m, args, below, meth, c, A, Q⟩ := E
  intro hx hb hml hown hts hA hG hK H locs ls hP hD hS hl
  exact lv_icmp_le hx hb d ht (fun h => kt h hx hb hml hown hts hA hG hK H locs ls hP hD hS hl) (fun h => kf h hx hb hml hown hts hA hG hK H locs ls hP hD hS hl)
theorem z_goto {off : Int} (tgt : Nat) (d : decode cc pc = .ok (.goto off, 3)) (ht : (pc : Int) + off = (tgt : Int)) (kk : ZW E G R cc own Ts n D tys cells slots w (tgt) L (st)) : ZW E G R cc own Ts n D tys cells slots w (pc) L (st) := by
  obtain ⟨p, l, e, s, m, args, below, meth, c, A, Q⟩ := E
  intro hx hb hml hown hts hA hG hK H locs ls hP hD hS hl
  exact lv_goto hx hb d ht (kk hx hb hml hown hts hA hG hK H locs ls hP hD hS hl)
theorem z_switch01 {x : Int32} {o0 o1 df : Int} {len : Nat} (t0 t1 td : Nat) (d : decode cc pc = .ok (.lookupswitch df #[(0, o0), (1, o1)], len)) (h0 : (pc : Int) + o0 = (t0 : Int)) (h1 : (pc : Int) + o1 = (t1 : Int)) (hd : (pc : Int) + df = (td : Int)) (k0 : x = 0 → ZW E G R cc own Ts n D tys cells slots w (t0) L (st)) (k1 : ¬ x = 0 → x = 1 → ZW E G R cc own Ts n D tys cells slots w (t1) L (st)) (kd : ¬ x = 0 → ¬ x = 1 → ZW E G R cc own Ts n D tys cells slots w (td) L (st)) : ZW E G R cc own Ts n D tys cells slots w (pc) L (.int x :: st) := by
  obtain ⟨p, l, e, s, m, args, below, meth, c, A, Q⟩ := E
  intro hx hb hml hown hts hA hG hK H locs ls hP hD hS hl
  have e0 : ∀ y : Int32, x.toInt = y.toInt ↔ x = y := fun y => ⟨fun h => by rw [← Int32.ofInt_toInt x, h, Int32.ofInt_toInt], fun h => by rw [h]⟩
  by_cases q0 : x = 0
  · refine lv_lookup hx hb d rfl (off := o0) ?_ h0 (k0 q0 hx hb hml hown hts hA hG hK H locs ls hP hD hS hl)
    rw [q0]; rfl
  · by_cases q1 : x = 1
    · refine lv_lookup hx hb d rfl (off := o1) ?_ h1 (k1 q0 q1 hx hb hml hown hts hA hG hK H locs ls hP hD hS hl)
      rw [q1]; rfl
    · refine lv_lookup hx hb d rfl (off := df) ?_ hd (kd q0 q1 hx hb hml hown hts hA hG hK H locs ls hP hD hS hl)
      have n0 : ¬ x.toInt = 0 := fun h => q0 ((e0 0).mp h)
      have n1 : ¬ x.toInt = 1 := fun h => q1 ((e0 1).mp h)
      simp [Op.lookupswitch.offset, Ne.symm n0, Ne.symm n1, n0, n1]
theorem z_get {ref C : String} {T : u_T} {N ci index a : Nat} {fs : List Value} {v : Value} (hin : ∀ w ∈ u_ws C T N, w ∈ Ts) (q0 : Nat) (he : w[q0]? = some (a, .inr (ci, fs))) (hc : vwCl[ci]? = some (C, T, N)) (k : Nat) (hk : k < N) (hlink : Cond.fieldLink own index ref (T k).2.1 (T k).2.2.1 ∈ Ts) (hsame : (T k).1 = ref) (hv : fs[k]? = some v) (d : decode cc pc = .ok (.getfield index, 3)) (kk : ZW E G R cc own Ts n D tys cells slots w (pc + 3) L (v :: st)) : ZW E G R cc own Ts n D tys cells slots w (pc) L (.ref a :: st) := by
  obtain ⟨p, l, e, s, m, args, below, meth, c, A, Q⟩ := E
  intro hx hb hml hown hts hA hG hK H locs ls hP hD hS hl
  exact va_get hx hb hts hin hown hK hP q0 he hc k hk (hts _ hlink) (fun x h => by rw [← hsame]; exact h) hv d (kk hx hb hml hown hts hA hG hK H locs ls hP hD hS hl)
theorem z_put {ref C : String} {T : u_T} {N ci index a : Nat} {fs : List Value} {v : Value} (hin : ∀ w ∈ u_ws C T N, w ∈ Ts) (q0 : Nat) (he : w[q0]? = some (a, .inr (ci, fs))) (hc : vwCl[ci]? = some (C, T, N)) (k : Nat) (hk : k < N) (hlink : Cond.fieldLink own index ref (T k).2.1 (T k).2.2.1 ∈ Ts) (hsame : (T k).1 = ref) (ty0 : Nat → FieldType) (hty : ∀ k, k < N → parseFieldDescriptor (T k).2.2.1 = some (ty0 k)) (hnm : ∀ a, a < N → ∀ b, b < N → a ≠ b → (T a).2.1 ≠ (T b).2.1) (hfin : (T k).2.2.2 = false) (hn : narrow (ty0 k) v = v) (hfit : fits (ty0 k) v = true) (hl9 : k < fs.length) {w' : va_W} (hw : w.set q0 (a, .inr (ci, fs.set k v)) = w') (d : decode cc pc = .ok (.putfield index, 3)) (kk : ZW E G R cc own Ts n D tys cells slots w' (pc + 3) L (st)) : ZW E G R cc own Ts n D tys cells slots w (pc) L (v :: .ref a :: st) := by
  obtain ⟨p, l, e, s, m, args, below, meth, c, A, Q⟩ := E
  intro hx hb hml hown hts hA hG hK H locs ls hP hD hS hl
  subst hw
  exact va_put hx hb hts hin ty0 hty hnm hown hK hP hD hS q0 he hc k hk (hts _ hlink) (fun x h => by rw [← hsame]; exact h) hfin (hty k hk) hn hfit hl9 d (fun H1 locs1 hP1 hD1 hS1 => kk hx hb hml hown hts hA hG hK H1 locs1 ls hP1 hD1 hS1 hl)
theorem z_iald {a : Nat} {cA : ClassId} {N : Nat} {f : Nat → Int32} {i v : Int32} (q0 t0 : Nat) (ha : w[q0]? = some (a, .inl (cA, N, .inl f))) (ht : tys[t0]? = some (cA, .int)) (hin : vp_in i N) (hv : f i.toNatClampNeg = v) (d : decode cc pc = .ok (.iaload, 1)) (kk : ZW E G R cc own Ts n D tys cells slots w (pc + 1) L (.int v :: st)) : ZW E G R cc own Ts n D tys cells slots w (pc) L (.int i :: .ref a :: st) := by
  obtain ⟨p, l, e, s, m, args, below, meth, c, A, Q⟩ := E
  intro hx hb hml hown hts hA hG hK H locs ls hP hD hS hl
  subst hv
  exact va_iald hx hb hK hP q0 t0 ha ht hin d (kk hx hb hml hown hts hA hG hK H locs ls hP hD hS hl)
theorem z_zald {a : Nat} {cA : ClassId} {N : Nat} {f : Nat → Int32} {i v : Int32} (q0 t0 : Nat) (ha : w[q0]? = some (a, .inl (cA, N, .inl f))) (ht : tys[t0]? = some (cA, .boolean)) (hin : vp_in i N) (hv : f i.toNatClampNeg = v) (d : decode cc pc = .ok (.baload, 1)) (kk : ZW E G R cc own Ts n D tys cells slots w (pc + 1) L (.int v :: st)) : ZW E G R cc own Ts n D tys cells slots w (pc) L (.int i :: .ref a :: st) := by
  obtain ⟨p, l, e, s, m, args, below, meth, c, A, Q⟩ := E
  intro hx hb hml hown hts hA hG hK H locs ls hP hD hS hl
  subst hv
  exact va_zald hx hb hK hP q0 t0 ha ht hin d (kk hx hb hml hown hts hA hG hK H locs ls hP hD hS hl)
theorem z_iast {a : Nat} {cA : ClassId} {N : Nat} {f : Nat → Int32} {i x : Int32} (q0 t0 : Nat) (ha : w[q0]? = some (a, .inl (cA, N, .inl f))) (ht : tys[t0]? = some (cA, .int)) (hin : vp_in i N) {w' : va_W} (hw : w.set q0 (a, .inl (cA, N, .inl (upd f i.toNatClampNeg x))) = w') (d : decode cc pc = .ok (.iastore, 1)) (kk : ZW E G R cc own Ts n D tys cells slots w' (pc + 1) L (st)) : ZW E G R cc own Ts n D tys cells slots w (pc) L (.int x :: .int i :: .ref a :: st) := by
  obtain ⟨p, l, e, s, m, args, below, meth, c, A, Q⟩ := E
  intro hx hb hml hown hts hA hG hK H locs ls hP hD hS hl
  subst hw
  exact va_iast hx hb hK hP hD hS q0 t0 ha ht hin d (fun H1 locs1 hP1 hD1 hS1 => kk hx hb hml hown hts hA hG hK H1 locs1 ls hP1 hD1 hS1 hl)
theorem z_zast {a : Nat} {cA : ClassId} {N : Nat} {f : Nat → Int32} {i x : Int32} (q0 t0 : Nat) (ha : w[q0]? = some (a, .inl (cA, N, .inl f))) (ht : tys[t0]? = some (cA, .boolean)) (hin : vp_in i N) {w' : va_W} (hw : w.set q0 (a, .inl (cA, N, .inl (upd f i.toNatClampNeg (vp_nar .boolean x)))) = w') (d : decode cc pc = .ok (.bastore, 1)) (kk : ZW E G R cc own Ts n D tys cells slots w' (pc + 1) L (st)) : ZW E G R cc own Ts n D tys cells slots w (pc) L (.int x :: .int i :: .ref a :: st) := by
  obtain ⟨p, l, e, s, m, args, below, meth, c, A, Q⟩ := E
  intro hx hb hml hown hts hA hG hK H locs ls hP hD hS hl
  subst hw
  exact va_zast hx hb hK hP hD hS q0 t0 ha ht hin d (fun H1 locs1 hP1 hD1 hS1 => kk hx hb hml hown hts hA hG hK H1 locs1 ls hP1 hD1 hS1 hl)
theorem z_if_le {x : Int32} {off : Int} (tgt : Nat) (d : decode cc pc = .ok (.ifCond .le off, 3)) (ht : (pc : Int) + off = (tgt : Int)) (kt : x ≤ 0 → ZW E G R cc own Ts n D tys cells slots w (tgt) L (st)) (kf : ¬ x ≤ 0 → ZW E G R cc own Ts n D tys cells slots w (pc + 3) L (st)) : ZW E G R cc own Ts n D tys cells slots w (pc) L (.int x :: st) := by
  obtain ⟨p, l, e, s, m, args, below, meth, c, A, Q⟩ := E
  intro hx hb hml hown hts hA hG hK H locs ls hP hD hS hl
  exact lv_if_le hx hb d ht (fun h => kt h hx hb hml hown hts hA hG hK H locs ls hP hD hS hl) (fun h => kf h hx hb hml hown hts hA hG hK H locs ls hP hD hS hl)
theorem z_if_gt {x : Int32} {off : Int} (tgt : Nat) (d : decode cc pc = .ok (.ifCond .gt off, 3)) (ht : (pc : Int) + off = (tgt : Int)) (kt : 0 < x → ZW E G R cc own Ts n D tys cells slots w (tgt) L (st)) (kf : ¬ 0 < x → ZW E G R cc own Ts n D tys cells slots w (pc + 3) L (st)) : ZW E G R cc own Ts n D tys cells slots w (pc) L (.int x :: st) := by
  obtain ⟨p, l, e, s, m, args, below, meth, c, A, Q⟩ := E
  intro hx hb hml hown hts hA hG hK H locs ls hP hD hS hl
  exact lv_if_gt hx hb d ht (fun h => kt h hx hb hml hown hts hA hG hK H locs ls hP hD hS hl) (fun h => kf h hx hb hml hown hts hA hG hK H locs ls hP hD hS hl)
theorem z_ineg {x : Int32} (d : decode cc pc = .ok (.ineg, 1)) (kk : ZW E G R cc own Ts n D tys cells slots w (pc + 1) L (.int (-x) :: st)) : ZW E G R cc own Ts n D tys cells slots w (pc) L (.int x :: st) := by
  obtain ⟨p, l, e, s, m, args, below, meth, c, A, Q⟩ := E
  intro hx hb hml hown hts hA hG hK H locs ls hP hD hS hl
  exact lv_ineg hx hb d (kk hx hb hml hown hts hA hG hK H locs ls hP hD hS hl)
end ZRows
theorem z_ofW {l : Launch} {y : MethodName} {ws ws' : List Cond} {rm : Room} {Pc : Array Value → State → Prop} {Qc : Array Value → State → Outcome → State → Prop} {mc ms : Nat} {free : Addr → Prop} {cc : ByteArray} {maxL : Nat} {ret : Option FieldType}
    (hy : plainFor y = true) (hw : ws = Cond.code y cc maxL ret :: ws')
    (body : ∀ p e s m args below meth c s₁, BodyLoose p l y (headSpec ws rm) cc maxL ret e s m args below meth c s₁ → c.maxLocals = maxL → Pc args s →
      W p l e (headSpec ws rm).room s m args below meth c s.heap [] 0 0 (MQ below Qc args s mc ms free) (entryFrame m args maxL)) : Met l y ws rm Pc Qc mc ms free := by
  refine MetFree.of_bodySF (code := cc) (maxLocals := maxL) (ret := ret) hy ?_ ?_
  · intro args s m h hn
    obtain ⟨meth, c, h1, h2, h3, h4, h5, h6, -, -⟩ := Cond.code_spec hn (atoms_spec (ws := ws) h _ (by rw [hw]; exact List.mem_cons_self))
    exact ⟨meth, c, h1, h2, h3, h4, h5, h6⟩
  · intro p e s m args below meth c s₁ B hml hP _
    have hh0 : s₁.heap = s.heap := by rw [B.state]; rfl
    obtain ⟨t, a1, o, b1, b2, b3⟩ := body p e s m args below meth c s₁ B hml hP s₁ hh0 (Stand.of_body B)
    exact ⟨t, o, a1, b1, b2, ⟨b3.1, b3.2⟩⟩
/-- a method's start: the world w0, and nothing but that is asked -/
def zPc (G : State → (Nat → Prop) → Prop) (D : va_G) (tys : List (ClassId × FieldType)) (w0 : va_W) (sz : Nat) (av : List Value) : Array Value → State → Prop := va_Pc av (fun U => U.heap.size = sz ∧ va_P D vwCl w0 U.heap ∧ va_K D vwCl tys U ∧ va_D (fun _ => True) w0 ∧ G U (va_A w0 sz))
def zB {σ : Type} (D : va_G) (tys : List (ClassId × FieldType)) (w0 : va_W) (sz : Nat) (wf : σ → va_W) (mc : Nat) : σ → State → Prop := fun u t => va_P D vwCl (wf u) t.heap ∧ va_K D vwCl tys t ∧ va_D (va_A w0 sz) (wf u) ∧ sz + mc ≤ t.heap.size
/-- a contract with an int (or boolean) answer -/
def zMi {σ : Type} (l : Launch) (y : MethodName) (ws : List Cond) (rm : Room) (G : State → (Nat → Prop) → Prop) (D : va_G) (tys : List (ClassId × FieldType)) (w0 : va_W) (av : List Value) (post : Int32 → σ → Prop) (wf : σ → va_W) (mc ms : Nat) : Prop :=
  ∀ sz : Nat, Met l y ws rm (zPc G D tys w0 sz av) (va_Qi post (zB D tys w0 sz wf mc) (va_A w0 sz)) mc ms (va_A w0 sz)
def zMv {σ : Type} (l : Launch) (y : MethodName) (ws : List Cond) (rm : Room) (G : State → (Nat → Prop) → Prop) (D : va_G) (tys : List (ClassId × FieldType)) (w0 : va_W) (av : List Value) (post : σ → Prop) (wf : σ → va_W) (mc ms : Nat) : Prop :=
  ∀ sz : Nat, Met l y ws rm (zPc G D tys w0 sz av) (va_Qv post (zB D tys w0 sz wf mc) (va_A w0 sz)) mc ms (va_A w0 sz)
def zTT : State → (Nat → Prop) → Prop := fun _ _ => True
/-- what a surrounding fact needs, to be handed on to a callee -/
def zGok (G : State → (Nat → Prop) → Prop) : Prop := (∀ (a : Array Value) (U : State) (g : JFrame) (mk : MethodId) (A : Nat → Prop), G U A → G (U.calling g mk a) A) ∧ ∀ (s U : State) (A B : Nat → Prop) (locs : List Loc), G s A → s.WarmedH U.vm → va_S A s.heap U.heap locs → (∀ q, B q → A q) → G U B
theorem zGok_TT : zGok zTT := ⟨fun _ _ _ _ _ _ => trivial, fun _ _ _ _ _ _ _ _ _ => trivial⟩
theorem z_cut {A : Nat → Prop} {w : va_W} {H0 H : Heap} {locs : List Loc} (hD : va_D A w) (hS : va_S A H0 H locs) (hA : ∀ q, H0.size ≤ q → A q) : ∀ q, va_A w H.size q → A q := fun q h => h.elim (fun ⟨k, e, hk⟩ => hD.2 k _ hk) (fun h => hA q (Nat.le_trans hS.1 h))

theorem z_startI {σ : Type} {post : Int32 → σ → Prop} {wf : σ → va_W} {l : Launch} {y : MethodName} {ws ws' : List Cond} {rm : Room} {G : State → (Nat → Prop) → Prop} {D : va_G} {tys : List (ClassId × FieldType)} {w0 : va_W} {av : List Value} {cc : ByteArray} {n : Nat} {own : String} {L0 : List (Nat × Value)} (hy : plainFor y = true) (hw : ws = Cond.code y cc n (some .int) :: ws') (ho : y.cls = own) (hn : (lg_sl av).length ≤ n) (hL : lv_args 0 av = L0)
    (body : ∀ E : ZE, (∀ (r : Int32) (u : σ) (pc : Nat) (L : List (Nat × Value)) (w' : va_W), decode cc pc = .ok (.ireturn, 1) → post r u → w' = wf u → ZW E G rm cc own ws n D tys 0 0 w' pc L [.int r]) → ZW E G rm cc own ws n D tys 0 0 w0 0 L0 []) : zMi l y ws rm G D tys w0 av post wf 0 0 := by
  intro sz
  refine z_ofW (cc := cc) (maxL := n) (ret := some .int) hy hw ?_
  intro p e s m args below meth c s₁ B hml hv
  obtain ⟨rfl, hsz, hP, hK, hD0, hG⟩ := hv
  have hr := B.returns
  have hlocks := B.notSynchronized
  have hown : s.vm.findClass own = some m.cls := by rw [← ho]; exact findClass_of_methodNamed B.named
  have hts := atoms_spec (ws := ws) B.pre
  subst hsz
  have hl := lv_entry av (n := n) hn
  rw [lg_entry_eq]
  rw [hL] at hl
  refine body (p, l, e, s, m, av.toArray, below, meth, c, va_A w0 s.heap.size, _) ?_ B.exec B.bytes hml hown hts (fun q h => Or.inr h) hG hK s.heap [] _ hP hD0.self (zx_rf (fun q h => Or.inr h)) hl
  · intro r u pc L w' d hpost hw hx hb hml2 hown2 hts2 hA2 hG2 hK2 H locs ls hP2 hD2 hS2 hl2
    subst hw
    exact W.iret (v := r) hx hb hr (fun t ht hW => ⟨⟨r, u, rfl, hpost, by rw [ht]; exact hP2, va_K.moved hW.alike hK2, hD2, by rw [ht]; exact zx_le hS2⟩, (zx_S hS2).F ht⟩) hS2.2.2 d
theorem z_startZ {σ : Type} {post : Int32 → σ → Prop} {wf : σ → va_W} {l : Launch} {y : MethodName} {ws ws' : List Cond} {rm : Room} {G : State → (Nat → Prop) → Prop} {D : va_G} {tys : List (ClassId × FieldType)} {w0 : va_W} {av : List Value} {cc : ByteArray} {n : Nat} {own : String} {L0 : List (Nat × Value)} (hy : plainFor y = true) (hw : ws = Cond.code y cc n (some .boolean) :: ws') (ho : y.cls = own) (hn : (lg_sl av).length ≤ n) (hL : lv_args 0 av = L0)
    (body : ∀ E : ZE, (∀ (r : Int32) (u : σ) (pc : Nat) (L : List (Nat × Value)) (w' : va_W), decode cc pc = .ok (.ireturn, 1) → post r u → w' = wf u → narrow .boolean (.int r) = .int r → ZW E G rm cc own ws n D tys 0 0 w' pc L [.int r]) → ZW E G rm cc own ws n D tys 0 0 w0 0 L0 []) : zMi l y ws rm G D tys w0 av post wf 0 0 := by
  intro sz
  refine z_ofW (cc := cc) (maxL := n) (ret := some .boolean) hy hw ?_
  intro p e s m args below meth c s₁ B hml hv
  obtain ⟨rfl, hsz, hP, hK, hD0, hG⟩ := hv
  have hr := B.returns
  have hlocks := B.notSynchronized
  have hown : s.vm.findClass own = some m.cls := by rw [← ho]; exact findClass_of_methodNamed B.named
  have hts := atoms_spec (ws := ws) B.pre
  subst hsz
  have hl := lv_entry av (n := n) hn
  rw [lg_entry_eq]
  rw [hL] at hl
  refine body (p, l, e, s, m, av.toArray, below, meth, c, va_A w0 s.heap.size, _) ?_ B.exec B.bytes hml hown hts (fun q h => Or.inr h) hG hK s.heap [] _ hP hD0.self (zx_rf (fun q h => Or.inr h)) hl
  · intro r u pc L w' d hpost hw hnar hx hb hml2 hown2 hts2 hA2 hG2 hK2 H locs ls hP2 hD2 hS2 hl2
    subst hw
    exact W.zret (v := r) hx hb hr hnar (fun t ht hW => ⟨⟨r, u, rfl, hpost, by rw [ht]; exact hP2, va_K.moved hW.alike hK2, hD2, by rw [ht]; exact zx_le hS2⟩, (zx_S hS2).F ht⟩) hS2.2.2 d
theorem z_startV {σ : Type} {post : σ → Prop} {wf : σ → va_W} {l : Launch} {y : MethodName} {ws ws' : List Cond} {rm : Room} {G : State → (Nat → Prop) → Prop} {D : va_G} {tys : List (ClassId × FieldType)} {w0 : va_W} {av : List Value} {cc : ByteArray} {n : Nat} {own : String} {L0 : List (Nat × Value)} (hy : plainFor y = true) (hw : ws = Cond.code y cc n (none) :: ws') (ho : y.cls = own) (hn : (lg_sl av).length ≤ n) (hL : lv_args 0 av = L0)
    (body : ∀ E : ZE, (∀ (u : σ) (pc : Nat) (L : List (Nat × Value)) (w' : va_W), decode cc pc = .ok (.return_, 1) → post u → w' = wf u → ZW E G rm cc own ws n D tys 0 0 w' pc L []) → ZW E G rm cc own ws n D tys 0 0 w0 0 L0 []) : zMv l y ws rm G D tys w0 av post wf 0 0 := by
  intro sz
  refine z_ofW (cc := cc) (maxL := n) (ret := none) hy hw ?_
  intro p e s m args below meth c s₁ B hml hv
  obtain ⟨rfl, hsz, hP, hK, hD0, hG⟩ := hv
  have hr := B.returns
  have hlocks := B.notSynchronized
  have hown : s.vm.findClass own = some m.cls := by rw [← ho]; exact findClass_of_methodNamed B.named
  have hts := atoms_spec (ws := ws) B.pre
  subst hsz
  have hl := lv_entry av (n := n) hn
  rw [lg_entry_eq]
  rw [hL] at hl
  refine body (p, l, e, s, m, av.toArray, below, meth, c, va_A w0 s.heap.size, _) ?_ B.exec B.bytes hml hown hts (fun q h => Or.inr h) hG hK s.heap [] _ hP hD0.self (zx_rf (fun q h => Or.inr h)) hl
  · intro u pc L w' d hpost hw hx hb hml2 hown2 hts2 hA2 hG2 hK2 H locs ls hP2 hD2 hS2 hl2
    subst hw
    exact W.vret hx hb hr (fun t ht hW => ⟨⟨u, rfl, hpost, by rw [ht]; exact hP2, va_K.moved hW.alike hK2, hD2, by rw [ht]; exact zx_le hS2⟩, (zx_S hS2).F ht⟩) hS2.2.2 d
theorem z_callVi {E : ZE} {G GY : State → (Nat → Prop) → Prop} {R : Room} {cc : ByteArray} {own : String} {Ts : List Cond} {n : Nat} {D : va_G} {tys : List (ClassId × FieldType)} {cells slots mc ms : Nat} {w : va_W} {pc : Nat} {L : List (Nat × Value)} {st st0 : List Value} {σ : Type} {post : Int32 → σ → Prop} {wf : σ → va_W} {idx maxL k : Nat} {y : MethodName} {bytes : ByteArray} {ret : Option FieldType} {ws : List Cond} {rm : Room} {As : List Value} {C : String} {b ci : Nat} {q : vw_C} {fs : List Value}
    (hM : ∀ l : Launch, zMi l y ws rm GY D tys w (.ref b :: As) post wf mc ms) (hGY : zGok GY) (hGG : ∀ s A, G s A → GY s A) (cw : ∀ (s : State) (args : Array Value), (∀ w ∈ Ts, w.before args s = true) → CallW R s args own C idx y bytes maxL ret ws rm mc ms k) (hc : vwCl[ci]? = some q) (hC : q.1 = C) (he : w[0]? = some (b, .inr (ci, fs))) (hn : As.length = k) (hcat : (st.map fun v => v.category).sum ≤ 8) (hR : cells + mc ≤ R.cells ∧ slots + ms ≤ R.slots) (d : decode cc pc = .ok (.invokevirtual idx, 3)) (hst : st0 = As.reverse ++ .ref b :: st)
    (kk : ∀ (r : Int32) (u : σ), post r u → ZW E G R cc own Ts n D tys (cells + mc) (slots + ms) (wf u) (pc + 3) L (.int r :: st)) : ZW E G R cc own Ts n D tys cells slots w pc L st0 := by
  obtain ⟨p, l, e, s, m, args, below, meth, c, A, Q⟩ := E
  intro hx hb hml hown hts hA hG hK H locs ls hP hD hS hl
  subst hst
  have hFc := z_cut hD (zx_S hS) hA
  refine va_calli (va_runV (As := As) (rest := st) ⟨hx, hb, hml, hown, hts⟩ (hM l H.size) (cw s args hts) ⟨fun a U g mk q => by obtain ⟨q0, q1, qP, qK, qD, qG⟩ := q; exact ⟨q0, q1, qP, va_K.moved (u := U) (U := U.calling g mk a) (Vm.Alike.refl U.vm) qK, qD, hGY.1 a U g mk _ qG⟩, by rw [← hC]; exact va_recv hK hP hc he, fun U hU hW => ⟨rfl, by rw [hU], by rw [hU]; exact hP, va_K.moved hW.alike hK, hD.weaken (fun _ _ _ _ => trivial), hGY.2 s U A _ locs (hGG s A hG) hW (by rw [hU]; exact zx_S hS) hFc⟩⟩ rfl hn hl.1 rfl (lv_room hcat) d hR) hS (fun q _ h => hFc q h) hFc (fun r u t H1 locs1 ht hvm hw hB hk1 hk2 hS1 => ?_)
  obtain ⟨hP1, hK1, hD1, hz1⟩ := hB
  rw [ht] at hP1 hz1
  exact kk r u hw hx hb hml hown hts hA hG hK H1 locs1 ls hP1 (hD1.weaken (fun _ _ _ h => hFc _ h)) (zx_up hS hS1 hz1 hA) hl
theorem z_callVv {E : ZE} {G GY : State → (Nat → Prop) → Prop} {R : Room} {cc : ByteArray} {own : String} {Ts : List Cond} {n : Nat} {D : va_G} {tys : List (ClassId × FieldType)} {cells slots mc ms : Nat} {w : va_W} {pc : Nat} {L : List (Nat × Value)} {st st0 : List Value} {σ : Type} {post : σ → Prop} {wf : σ → va_W} {idx maxL k : Nat} {y : MethodName} {bytes : ByteArray} {ret : Option FieldType} {ws : List Cond} {rm : Room} {As : List Value} {C : String} {b ci : Nat} {q : vw_C} {fs : List Value}
    (hM : ∀ l : Launch, zMv l y ws rm GY D tys w (.ref b :: As) post wf mc ms) (hGY : zGok GY) (hGG : ∀ s A, G s A → GY s A) (cw : ∀ (s : State) (args : Array Value), (∀ w ∈ Ts, w.before args s = true) → CallW R s args own C idx y bytes maxL ret ws rm mc ms k) (hc : vwCl[ci]? = some q) (hC : q.1 = C) (he : w[0]? = some (b, .inr (ci, fs))) (hn : As.length = k) (hcat : (st.map fun v => v.category).sum ≤ 8) (hR : cells + mc ≤ R.cells ∧ slots + ms ≤ R.slots) (d : decode cc pc = .ok (.invokevirtual idx, 3)) (hst : st0 = As.reverse ++ .ref b :: st)
    (kk : ∀ (u : σ), post u → ZW E G R cc own Ts n D tys (cells + mc) (slots + ms) (wf u) (pc + 3) L st) : ZW E G R cc own Ts n D tys cells slots w pc L st0 := by
  obtain ⟨p, l, e, s, m, args, below, meth, c, A, Q⟩ := E
  intro hx hb hml hown hts hA hG hK H locs ls hP hD hS hl
  subst hst
  have hFc := z_cut hD (zx_S hS) hA
  refine va_callv (va_runV (As := As) (rest := st) ⟨hx, hb, hml, hown, hts⟩ (hM l H.size) (cw s args hts) ⟨fun a U g mk q => by obtain ⟨q0, q1, qP, qK, qD, qG⟩ := q; exact ⟨q0, q1, qP, va_K.moved (u := U) (U := U.calling g mk a) (Vm.Alike.refl U.vm) qK, qD, hGY.1 a U g mk _ qG⟩, by rw [← hC]; exact va_recv hK hP hc he, fun U hU hW => ⟨rfl, by rw [hU], by rw [hU]; exact hP, va_K.moved hW.alike hK, hD.weaken (fun _ _ _ _ => trivial), hGY.2 s U A _ locs (hGG s A hG) hW (by rw [hU]; exact zx_S hS) hFc⟩⟩ rfl hn hl.1 rfl (lv_room hcat) d hR) hS (fun q _ h => hFc q h) hFc (fun u t H1 locs1 ht hvm hw hB hk1 hk2 hS1 => ?_)
  obtain ⟨hP1, hK1, hD1, hz1⟩ := hB
  rw [ht] at hP1 hz1
  exact kk u hw hx hb hml hown hts hA hG hK H1 locs1 ls hP1 (hD1.weaken (fun _ _ _ h => hFc _ h)) (zx_up hS hS1 hz1 hA) hl
theorem z_callSi {E : ZE} {G GY : State → (Nat → Prop) → Prop} {R : Room} {cc : ByteArray} {own : String} {Ts : List Cond} {n : Nat} {D : va_G} {tys : List (ClassId × FieldType)} {cells slots mc ms : Nat} {w : va_W} {pc : Nat} {L : List (Nat × Value)} {st st0 : List Value} {σ : Type} {post : Int32 → σ → Prop} {wf : σ → va_W} {idx maxL k : Nat} {y : MethodName} {bytes : ByteArray} {ret : Option FieldType} {ws : List Cond} {rm : Room} {As : List Value} 
    (hM : ∀ l : Launch, zMi l y ws rm GY D tys w As post wf mc ms) (hGY : zGok GY) (hGG : ∀ s A, G s A → GY s A) (cw : ∀ (s : State) (args : Array Value), (∀ w ∈ Ts, w.before args s = true) → CallB R s args own idx y bytes maxL ret ws rm mc ms k ∧ (Cond.static y).before args s = true)  (hn : As.length = k) (hcat : (st.map fun v => v.category).sum ≤ 8) (hR : cells + mc ≤ R.cells ∧ slots + ms ≤ R.slots) (d : decode cc pc = .ok (.invokestatic idx, 3)) (hst : st0 = As.reverse ++ st)
    (kk : ∀ (r : Int32) (u : σ), post r u → ZW E G R cc own Ts n D tys (cells + mc) (slots + ms) (wf u) (pc + 3) L (.int r :: st)) : ZW E G R cc own Ts n D tys cells slots w pc L st0 := by
  obtain ⟨p, l, e, s, m, args, below, meth, c, A, Q⟩ := E
  intro hx hb hml hown hts hA hG hK H locs ls hP hD hS hl
  subst hst
  have hFc := z_cut hD (zx_S hS) hA
  refine va_calli (va_runS (As := As) (rest := st) ⟨hx, hb, hml, hown, hts⟩ (hM l H.size) (cw s args hts) ⟨fun a U g mk q => by obtain ⟨q0, q1, qP, qK, qD, qG⟩ := q; exact ⟨q0, q1, qP, va_K.moved (u := U) (U := U.calling g mk a) (Vm.Alike.refl U.vm) qK, qD, hGY.1 a U g mk _ qG⟩, fun U hU hW => ⟨rfl, by rw [hU], by rw [hU]; exact hP, va_K.moved hW.alike hK, hD.weaken (fun _ _ _ _ => trivial), hGY.2 s U A _ locs (hGG s A hG) hW (by rw [hU]; exact zx_S hS) hFc⟩⟩ rfl hn hl.1 rfl (lv_room hcat) d hR) hS (fun q _ h => hFc q h) hFc (fun r u t H1 locs1 ht hvm hw hB hk1 hk2 hS1 => ?_)
  obtain ⟨hP1, hK1, hD1, hz1⟩ := hB
  rw [ht] at hP1 hz1
  exact kk r u hw hx hb hml hown hts hA hG hK H1 locs1 ls hP1 (hD1.weaken (fun _ _ _ h => hFc _ h)) (zx_up hS hS1 hz1 hA) hl
theorem z_callSv {E : ZE} {G GY : State → (Nat → Prop) → Prop} {R : Room} {cc : ByteArray} {own : String} {Ts : List Cond} {n : Nat} {D : va_G} {tys : List (ClassId × FieldType)} {cells slots mc ms : Nat} {w : va_W} {pc : Nat} {L : List (Nat × Value)} {st st0 : List Value} {σ : Type} {post : σ → Prop} {wf : σ → va_W} {idx maxL k : Nat} {y : MethodName} {bytes : ByteArray} {ret : Option FieldType} {ws : List Cond} {rm : Room} {As : List Value} 
    (hM : ∀ l : Launch, zMv l y ws rm GY D tys w As post wf mc ms) (hGY : zGok GY) (hGG : ∀ s A, G s A → GY s A) (cw : ∀ (s : State) (args : Array Value), (∀ w ∈ Ts, w.before args s = true) → CallB R s args own idx y bytes maxL ret ws rm mc ms k ∧ (Cond.static y).before args s = true)  (hn : As.length = k) (hcat : (st.map fun v => v.category).sum ≤ 8) (hR : cells + mc ≤ R.cells ∧ slots + ms ≤ R.slots) (d : decode cc pc = .ok (.invokestatic idx, 3)) (hst : st0 = As.reverse ++ st)
    (kk : ∀ (u : σ), post u → ZW E G R cc own Ts n D tys (cells + mc) (slots + ms) (wf u) (pc + 3) L st) : ZW E G R cc own Ts n D tys cells slots w pc L st0 := by
  obtain ⟨p, l, e, s, m, args, below, meth, c, A, Q⟩ := E
  intro hx hb hml hown hts hA hG hK H locs ls hP hD hS hl
  subst hst
  have hFc := z_cut hD (zx_S hS) hA
  refine va_callv (va_runS (As := As) (rest := st) ⟨hx, hb, hml, hown, hts⟩ (hM l H.size) (cw s args hts) ⟨fun a U g mk q => by obtain ⟨q0, q1, qP, qK, qD, qG⟩ := q; exact ⟨q0, q1, qP, va_K.moved (u := U) (U := U.calling g mk a) (Vm.Alike.refl U.vm) qK, qD, hGY.1 a U g mk _ qG⟩, fun U hU hW => ⟨rfl, by rw [hU], by rw [hU]; exact hP, va_K.moved hW.alike hK, hD.weaken (fun _ _ _ _ => trivial), hGY.2 s U A _ locs (hGG s A hG) hW (by rw [hU]; exact zx_S hS) hFc⟩⟩ rfl hn hl.1 rfl (lv_room hcat) d hR) hS (fun q _ h => hFc q h) hFc (fun u t H1 locs1 ht hvm hw hB hk1 hk2 hS1 => ?_)
  obtain ⟨hP1, hK1, hD1, hz1⟩ := hB
  rw [ht] at hP1 hz1
  exact kk u hw hx hb hml hown hts hA hG hK H1 locs1 ls hP1 (hD1.weaken (fun _ _ _ h => hFc _ h)) (zx_up hS hS1 hz1 hA) hl
