/-- a state of a class: its int fields by their slots, its arrays by the slots of their fields -/
abbrev SX : Type := (Nat → Int32) × (Nat → Nat → Int32)
def pF (u : SX) (k : Nat) (x : Int32) : SX := (upd u.1 k x, u.2)
def pG (u : SX) (k i : Nat) (x : Int32) : SX := (u.1, va_up u.2 k (upd (u.2 k) i x))
def ix (x : Int32) : Nat := x.toNatClampNeg
def fX0 (a : Nat → Nat) (u : SX) : List Value := [.ref (a 0), .ref (a 1), .int (u.1 2), .int (u.1 3), .int (u.1 4), .ref (a 5), .ref (a 6), .ref (a 7), .ref (a 8), .ref (a 9), .int (u.1 10), .ref (a 11), .ref (a 12), .ref (a 13), .ref (a 14), .ref (a 15), .int (u.1 16), .int (u.1 17), .int (u.1 18)]
def wX0 (cI cZ : ClassId) (h : Nat) (a : Nat → Nat) (u : SX) : va_W := [(h, .inr (0, fX0 a u)), (a 0, .inl (cI, 8, .inl (u.2 0))), (a 1, .inl (cI, 6, .inl (u.2 1))), (a 5, .inl (cI, 16, .inl (u.2 5))), (a 6, .inl (cI, 16, .inl (u.2 6))), (a 7, .inl (cI, 16, .inl (u.2 7))), (a 8, .inl (cI, 16, .inl (u.2 8))), (a 9, .inl (cI, 16, .inl (u.2 9))), (a 11, .inl (cZ, 120, .inl (u.2 11))), (a 12, .inl (cI, 120, .inl (u.2 12))), (a 13, .inl (cI, 120, .inl (u.2 13))), (a 14, .inl (cI, 120, .inl (u.2 14))), (a 15, .inl (cI, 80, .inl (u.2 15)))]
theorem wX0_g0 (cI cZ : ClassId) (h : Nat) (a : Nat → Nat) (u : SX) (i : Nat) (x : Int32) : (wX0 cI cZ h a u).set 1 (a 0, .inl (cI, 8, .inl (upd (u.2 0) i x))) = wX0 cI cZ h a (pG u 0 i x) := rfl
theorem wX0_g1 (cI cZ : ClassId) (h : Nat) (a : Nat → Nat) (u : SX) (i : Nat) (x : Int32) : (wX0 cI cZ h a u).set 2 (a 1, .inl (cI, 6, .inl (upd (u.2 1) i x))) = wX0 cI cZ h a (pG u 1 i x) := rfl
theorem wX0_p2 (cI cZ : ClassId) (h : Nat) (a : Nat → Nat) (u : SX) (x : Int32) : (wX0 cI cZ h a u).set 0 (h, .inr (0, (fX0 a u).set 2 (.int x))) = wX0 cI cZ h a (pF u 2 x) := rfl
theorem wX0_p3 (cI cZ : ClassId) (h : Nat) (a : Nat → Nat) (u : SX) (x : Int32) : (wX0 cI cZ h a u).set 0 (h, .inr (0, (fX0 a u).set 3 (.int x))) = wX0 cI cZ h a (pF u 3 x) := rfl
theorem wX0_p4 (cI cZ : ClassId) (h : Nat) (a : Nat → Nat) (u : SX) (x : Int32) : (wX0 cI cZ h a u).set 0 (h, .inr (0, (fX0 a u).set 4 (.int x))) = wX0 cI cZ h a (pF u 4 x) := rfl
theorem wX0_g5 (cI cZ : ClassId) (h : Nat) (a : Nat → Nat) (u : SX) (i : Nat) (x : Int32) : (wX0 cI cZ h a u).set 3 (a 5, .inl (cI, 16, .inl (upd (u.2 5) i x))) = wX0 cI cZ h a (pG u 5 i x) := rfl
theorem wX0_g6 (cI cZ : ClassId) (h : Nat) (a : Nat → Nat) (u : SX) (i : Nat) (x : Int32) : (wX0 cI cZ h a u).set 4 (a 6, .inl (cI, 16, .inl (upd (u.2 6) i x))) = wX0 cI cZ h a (pG u 6 i x) := rfl
theorem wX0_g7 (cI cZ : ClassId) (h : Nat) (a : Nat → Nat) (u : SX) (i : Nat) (x : Int32) : (wX0 cI cZ h a u).set 5 (a 7, .inl (cI, 16, .inl (upd (u.2 7) i x))) = wX0 cI cZ h a (pG u 7 i x) := rfl
theorem wX0_g8 (cI cZ : ClassId) (h : Nat) (a : Nat → Nat) (u : SX) (i : Nat) (x : Int32) : (wX0 cI cZ h a u).set 6 (a 8, .inl (cI, 16, .inl (upd (u.2 8) i x))) = wX0 cI cZ h a (pG u 8 i x) := rfl
theorem wX0_g9 (cI cZ : ClassId) (h : Nat) (a : Nat → Nat) (u : SX) (i : Nat) (x : Int32) : (wX0 cI cZ h a u).set 7 (a 9, .inl (cI, 16, .inl (upd (u.2 9) i x))) = wX0 cI cZ h a (pG u 9 i x) := rfl
theorem wX0_p10 (cI cZ : ClassId) (h : Nat) (a : Nat → Nat) (u : SX) (x : Int32) : (wX0 cI cZ h a u).set 0 (h, .inr (0, (fX0 a u).set 10 (.int x))) = wX0 cI cZ h a (pF u 10 x) := rfl
theorem wX0_g11 (cI cZ : ClassId) (h : Nat) (a : Nat → Nat) (u : SX) (i : Nat) (x : Int32) : (wX0 cI cZ h a u).set 8 (a 11, .inl (cZ, 120, .inl (upd (u.2 11) i x))) = wX0 cI cZ h a (pG u 11 i x) := rfl
theorem wX0_g12 (cI cZ : ClassId) (h : Nat) (a : Nat → Nat) (u : SX) (i : Nat) (x : Int32) : (wX0 cI cZ h a u).set 9 (a 12, .inl (cI, 120, .inl (upd (u.2 12) i x))) = wX0 cI cZ h a (pG u 12 i x) := rfl
theorem wX0_g13 (cI cZ : ClassId) (h : Nat) (a : Nat → Nat) (u : SX) (i : Nat) (x : Int32) : (wX0 cI cZ h a u).set 10 (a 13, .inl (cI, 120, .inl (upd (u.2 13) i x))) = wX0 cI cZ h a (pG u 13 i x) := rfl
theorem wX0_g14 (cI cZ : ClassId) (h : Nat) (a : Nat → Nat) (u : SX) (i : Nat) (x : Int32) : (wX0 cI cZ h a u).set 11 (a 14, .inl (cI, 120, .inl (upd (u.2 14) i x))) = wX0 cI cZ h a (pG u 14 i x) := rfl
theorem wX0_g15 (cI cZ : ClassId) (h : Nat) (a : Nat → Nat) (u : SX) (i : Nat) (x : Int32) : (wX0 cI cZ h a u).set 12 (a 15, .inl (cI, 80, .inl (upd (u.2 15) i x))) = wX0 cI cZ h a (pG u 15 i x) := rfl
theorem wX0_p16 (cI cZ : ClassId) (h : Nat) (a : Nat → Nat) (u : SX) (x : Int32) : (wX0 cI cZ h a u).set 0 (h, .inr (0, (fX0 a u).set 16 (.int x))) = wX0 cI cZ h a (pF u 16 x) := rfl
theorem wX0_p17 (cI cZ : ClassId) (h : Nat) (a : Nat → Nat) (u : SX) (x : Int32) : (wX0 cI cZ h a u).set 0 (h, .inr (0, (fX0 a u).set 17 (.int x))) = wX0 cI cZ h a (pF u 17 x) := rfl
theorem wX0_p18 (cI cZ : ClassId) (h : Nat) (a : Nat → Nat) (u : SX) (x : Int32) : (wX0 cI cZ h a u).set 0 (h, .inr (0, (fX0 a u).set 18 (.int x))) = wX0 cI cZ h a (pF u 18 x) := rfl
theorem inwX0_init : ∀ w ∈ wsX00, w ∈ wsX0_init := by
  intro w h
  refine List.mem_cons_of_mem _ ?_
  first | exact List.mem_append_right _ h | exact List.mem_append_left _ (List.mem_append_right _ h) | exact List.mem_append_left _ (List.mem_append_left _ (List.mem_append_right _ h)) | exact List.mem_append_left _ (List.mem_append_left _ (List.mem_append_left _ (List.mem_append_right _ h)))
theorem inwX0_addDevice : ∀ w ∈ wsX00, w ∈ wsX0_addDevice := by
  intro w h
  refine List.mem_cons_of_mem _ ?_
  first | exact List.mem_append_right _ h | exact List.mem_append_left _ (List.mem_append_right _ h) | exact List.mem_append_left _ (List.mem_append_left _ (List.mem_append_right _ h)) | exact List.mem_append_left _ (List.mem_append_left _ (List.mem_append_left _ (List.mem_append_right _ h)))
theorem inwX0_setOnline : ∀ w ∈ wsX00, w ∈ wsX0_setOnline := by
  intro w h
  refine List.mem_cons_of_mem _ ?_
  first | exact List.mem_append_right _ h | exact List.mem_append_left _ (List.mem_append_right _ h) | exact List.mem_append_left _ (List.mem_append_left _ (List.mem_append_right _ h)) | exact List.mem_append_left _ (List.mem_append_left _ (List.mem_append_left _ (List.mem_append_right _ h)))
theorem inwX0_setDozing : ∀ w ∈ wsX00, w ∈ wsX0_setDozing := by
  intro w h
  refine List.mem_cons_of_mem _ ?_
  first | exact List.mem_append_right _ h | exact List.mem_append_left _ (List.mem_append_right _ h) | exact List.mem_append_left _ (List.mem_append_left _ (List.mem_append_right _ h)) | exact List.mem_append_left _ (List.mem_append_left _ (List.mem_append_left _ (List.mem_append_right _ h)))
theorem inwX0_setQuiet : ∀ w ∈ wsX00, w ∈ wsX0_setQuiet := by
  intro w h
  refine List.mem_cons_of_mem _ ?_
  first | exact List.mem_append_right _ h | exact List.mem_append_left _ (List.mem_append_right _ h) | exact List.mem_append_left _ (List.mem_append_left _ (List.mem_append_right _ h)) | exact List.mem_append_left _ (List.mem_append_left _ (List.mem_append_left _ (List.mem_append_right _ h)))
theorem inwX0_join : ∀ w ∈ wsX00, w ∈ wsX0_join := by
  intro w h
  refine List.mem_cons_of_mem _ ?_
  first | exact List.mem_append_right _ h | exact List.mem_append_left _ (List.mem_append_right _ h) | exact List.mem_append_left _ (List.mem_append_left _ (List.mem_append_right _ h)) | exact List.mem_append_left _ (List.mem_append_left _ (List.mem_append_left _ (List.mem_append_right _ h)))
theorem inwX0_kill : ∀ w ∈ wsX00, w ∈ wsX0_kill := by
  intro w h
  refine List.mem_cons_of_mem _ ?_
  first | exact List.mem_append_right _ h | exact List.mem_append_left _ (List.mem_append_right _ h) | exact List.mem_append_left _ (List.mem_append_left _ (List.mem_append_right _ h)) | exact List.mem_append_left _ (List.mem_append_left _ (List.mem_append_left _ (List.mem_append_right _ h)))
theorem inwX0_devices : ∀ w ∈ wsX00, w ∈ wsX0_devices := by
  intro w h
  refine List.mem_cons_of_mem _ ?_
  first | exact List.mem_append_right _ h | exact List.mem_append_left _ (List.mem_append_right _ h) | exact List.mem_append_left _ (List.mem_append_left _ (List.mem_append_right _ h)) | exact List.mem_append_left _ (List.mem_append_left _ (List.mem_append_left _ (List.mem_append_right _ h)))
theorem inwX0_isQuiet : ∀ w ∈ wsX00, w ∈ wsX0_isQuiet := by
  intro w h
  refine List.mem_cons_of_mem _ ?_
  first | exact List.mem_append_right _ h | exact List.mem_append_left _ (List.mem_append_right _ h) | exact List.mem_append_left _ (List.mem_append_left _ (List.mem_append_right _ h)) | exact List.mem_append_left _ (List.mem_append_left _ (List.mem_append_left _ (List.mem_append_right _ h)))
theorem inwX0_send : ∀ w ∈ wsX00, w ∈ wsX0_send := by
  intro w h
  refine List.mem_cons_of_mem _ ?_
  first | exact List.mem_append_right _ h | exact List.mem_append_left _ (List.mem_append_right _ h) | exact List.mem_append_left _ (List.mem_append_left _ (List.mem_append_right _ h)) | exact List.mem_append_left _ (List.mem_append_left _ (List.mem_append_left _ (List.mem_append_right _ h)))
theorem inwX0_sendBy : ∀ w ∈ wsX00, w ∈ wsX0_sendBy := by
  intro w h
  refine List.mem_cons_of_mem _ ?_
  first | exact List.mem_append_right _ h | exact List.mem_append_left _ (List.mem_append_right _ h) | exact List.mem_append_left _ (List.mem_append_left _ (List.mem_append_right _ h)) | exact List.mem_append_left _ (List.mem_append_left _ (List.mem_append_left _ (List.mem_append_right _ h)))
theorem inwX0_read : ∀ w ∈ wsX00, w ∈ wsX0_read := by
  intro w h
  refine List.mem_cons_of_mem _ ?_
  first | exact List.mem_append_right _ h | exact List.mem_append_left _ (List.mem_append_right _ h) | exact List.mem_append_left _ (List.mem_append_left _ (List.mem_append_right _ h)) | exact List.mem_append_left _ (List.mem_append_left _ (List.mem_append_left _ (List.mem_append_right _ h)))
theorem inwX0_sent : ∀ w ∈ wsX00, w ∈ wsX0_sent := by
  intro w h
  refine List.mem_cons_of_mem _ ?_
  first | exact List.mem_append_right _ h | exact List.mem_append_left _ (List.mem_append_right _ h) | exact List.mem_append_left _ (List.mem_append_left _ (List.mem_append_right _ h)) | exact List.mem_append_left _ (List.mem_append_left _ (List.mem_append_left _ (List.mem_append_right _ h)))
theorem inwX0_stands : ∀ w ∈ wsX00, w ∈ wsX0_stands := by
  intro w h
  refine List.mem_cons_of_mem _ ?_
  first | exact List.mem_append_right _ h | exact List.mem_append_left _ (List.mem_append_right _ h) | exact List.mem_append_left _ (List.mem_append_left _ (List.mem_append_right _ h)) | exact List.mem_append_left _ (List.mem_append_left _ (List.mem_append_left _ (List.mem_append_right _ h)))
theorem inwX0_waitsFor : ∀ w ∈ wsX00, w ∈ wsX0_waitsFor := by
  intro w h
  refine List.mem_cons_of_mem _ ?_
  first | exact List.mem_append_right _ h | exact List.mem_append_left _ (List.mem_append_right _ h) | exact List.mem_append_left _ (List.mem_append_left _ (List.mem_append_right _ h)) | exact List.mem_append_left _ (List.mem_append_left _ (List.mem_append_left _ (List.mem_append_right _ h)))
theorem inwX0_deliveredTo : ∀ w ∈ wsX00, w ∈ wsX0_deliveredTo := by
  intro w h
  refine List.mem_cons_of_mem _ ?_
  first | exact List.mem_append_right _ h | exact List.mem_append_left _ (List.mem_append_right _ h) | exact List.mem_append_left _ (List.mem_append_left _ (List.mem_append_right _ h)) | exact List.mem_append_left _ (List.mem_append_left _ (List.mem_append_left _ (List.mem_append_right _ h)))
theorem inwX0_standing : ∀ w ∈ wsX00, w ∈ wsX0_standing := by
  intro w h
  refine List.mem_cons_of_mem _ ?_
  first | exact List.mem_append_right _ h | exact List.mem_append_left _ (List.mem_append_right _ h) | exact List.mem_append_left _ (List.mem_append_left _ (List.mem_append_right _ h)) | exact List.mem_append_left _ (List.mem_append_left _ (List.mem_append_left _ (List.mem_append_right _ h)))
theorem inwX0_badge : ∀ w ∈ wsX00, w ∈ wsX0_badge := by
  intro w h
  refine List.mem_cons_of_mem _ ?_
  first | exact List.mem_append_right _ h | exact List.mem_append_left _ (List.mem_append_right _ h) | exact List.mem_append_left _ (List.mem_append_left _ (List.mem_append_right _ h)) | exact List.mem_append_left _ (List.mem_append_left _ (List.mem_append_left _ (List.mem_append_right _ h)))
theorem inwX0_waiting : ∀ w ∈ wsX00, w ∈ wsX0_waiting := by
  intro w h
  refine List.mem_cons_of_mem _ ?_
  first | exact List.mem_append_right _ h | exact List.mem_append_left _ (List.mem_append_right _ h) | exact List.mem_append_left _ (List.mem_append_left _ (List.mem_append_right _ h)) | exact List.mem_append_left _ (List.mem_append_left _ (List.mem_append_left _ (List.mem_append_right _ h)))
theorem inwX0_quota : ∀ w ∈ wsX00, w ∈ wsX0_quota := by
  intro w h
  refine List.mem_cons_of_mem _ ?_
  first | exact List.mem_append_right _ h | exact List.mem_append_left _ (List.mem_append_right _ h) | exact List.mem_append_left _ (List.mem_append_left _ (List.mem_append_right _ h)) | exact List.mem_append_left _ (List.mem_append_left _ (List.mem_append_left _ (List.mem_append_right _ h)))
theorem inwX0_pass : ∀ w ∈ wsX00, w ∈ wsX0_pass := by
  intro w h
  refine List.mem_cons_of_mem _ ?_
  first | exact List.mem_append_right _ h | exact List.mem_append_left _ (List.mem_append_right _ h) | exact List.mem_append_left _ (List.mem_append_left _ (List.mem_append_right _ h)) | exact List.mem_append_left _ (List.mem_append_left _ (List.mem_append_left _ (List.mem_append_right _ h)))
theorem inwX0_clock : ∀ w ∈ wsX00, w ∈ wsX0_clock := by
  intro w h
  refine List.mem_cons_of_mem _ ?_
  first | exact List.mem_append_right _ h | exact List.mem_append_left _ (List.mem_append_right _ h) | exact List.mem_append_left _ (List.mem_append_left _ (List.mem_append_right _ h)) | exact List.mem_append_left _ (List.mem_append_left _ (List.mem_append_left _ (List.mem_append_right _ h)))
theorem inwX0_deliveries : ∀ w ∈ wsX00, w ∈ wsX0_deliveries := by
  intro w h
  refine List.mem_cons_of_mem _ ?_
  first | exact List.mem_append_right _ h | exact List.mem_append_left _ (List.mem_append_right _ h) | exact List.mem_append_left _ (List.mem_append_left _ (List.mem_append_right _ h)) | exact List.mem_append_left _ (List.mem_append_left _ (List.mem_append_left _ (List.mem_append_right _ h)))
theorem inwX0_requireDevice : ∀ w ∈ wsX00, w ∈ wsX0_requireDevice := by
  intro w h
  refine List.mem_cons_of_mem _ ?_
  first | exact List.mem_append_right _ h | exact List.mem_append_left _ (List.mem_append_right _ h) | exact List.mem_append_left _ (List.mem_append_left _ (List.mem_append_right _ h)) | exact List.mem_append_left _ (List.mem_append_left _ (List.mem_append_left _ (List.mem_append_right _ h)))
theorem inwX0_requireNotice : ∀ w ∈ wsX00, w ∈ wsX0_requireNotice := by
  intro w h
  refine List.mem_cons_of_mem _ ?_
  first | exact List.mem_append_right _ h | exact List.mem_append_left _ (List.mem_append_right _ h) | exact List.mem_append_left _ (List.mem_append_left _ (List.mem_append_right _ h)) | exact List.mem_append_left _ (List.mem_append_left _ (List.mem_append_left _ (List.mem_append_right _ h)))
theorem inwX0_requireRoomForNotice : ∀ w ∈ wsX00, w ∈ wsX0_requireRoomForNotice := by
  intro w h
  refine List.mem_cons_of_mem _ ?_
  first | exact List.mem_append_right _ h | exact List.mem_append_left _ (List.mem_append_right _ h) | exact List.mem_append_left _ (List.mem_append_left _ (List.mem_append_right _ h)) | exact List.mem_append_left _ (List.mem_append_left _ (List.mem_append_left _ (List.mem_append_right _ h)))
theorem inwX0_devicesThatFulfil : ∀ w ∈ wsX00, w ∈ wsX0_devicesThatFulfil := by
  intro w h
  refine List.mem_cons_of_mem _ ?_
  first | exact List.mem_append_right _ h | exact List.mem_append_left _ (List.mem_append_right _ h) | exact List.mem_append_left _ (List.mem_append_left _ (List.mem_append_right _ h)) | exact List.mem_append_left _ (List.mem_append_left _ (List.mem_append_left _ (List.mem_append_right _ h)))
theorem inwX0_replaceKey : ∀ w ∈ wsX00, w ∈ wsX0_replaceKey := by
  intro w h
  refine List.mem_cons_of_mem _ ?_
  first | exact List.mem_append_right _ h | exact List.mem_append_left _ (List.mem_append_right _ h) | exact List.mem_append_left _ (List.mem_append_left _ (List.mem_append_right _ h)) | exact List.mem_append_left _ (List.mem_append_left _ (List.mem_append_left _ (List.mem_append_right _ h)))
theorem inwX0_sendTo : ∀ w ∈ wsX00, w ∈ wsX0_sendTo := by
  intro w h
  refine List.mem_cons_of_mem _ ?_
  first | exact List.mem_append_right _ h | exact List.mem_append_left _ (List.mem_append_right _ h) | exact List.mem_append_left _ (List.mem_append_left _ (List.mem_append_right _ h)) | exact List.mem_append_left _ (List.mem_append_left _ (List.mem_append_left _ (List.mem_append_right _ h)))
theorem inwX0_withdraw : ∀ w ∈ wsX00, w ∈ wsX0_withdraw := by
  intro w h
  refine List.mem_cons_of_mem _ ?_
  first | exact List.mem_append_right _ h | exact List.mem_append_left _ (List.mem_append_right _ h) | exact List.mem_append_left _ (List.mem_append_left _ (List.mem_append_right _ h)) | exact List.mem_append_left _ (List.mem_append_left _ (List.mem_append_left _ (List.mem_append_right _ h)))
theorem inwX0_isStanding : ∀ w ∈ wsX00, w ∈ wsX0_isStanding := by
  intro w h
  refine List.mem_cons_of_mem _ ?_
  first | exact List.mem_append_right _ h | exact List.mem_append_left _ (List.mem_append_right _ h) | exact List.mem_append_left _ (List.mem_append_left _ (List.mem_append_right _ h)) | exact List.mem_append_left _ (List.mem_append_left _ (List.mem_append_left _ (List.mem_append_right _ h)))
theorem inwX0_waitsNow : ∀ w ∈ wsX00, w ∈ wsX0_waitsNow := by
  intro w h
  refine List.mem_cons_of_mem _ ?_
  first | exact List.mem_append_right _ h | exact List.mem_append_left _ (List.mem_append_right _ h) | exact List.mem_append_left _ (List.mem_append_left _ (List.mem_append_right _ h)) | exact List.mem_append_left _ (List.mem_append_left _ (List.mem_append_left _ (List.mem_append_right _ h)))
theorem inwX0_countWaiting : ∀ w ∈ wsX00, w ∈ wsX0_countWaiting := by
  intro w h
  refine List.mem_cons_of_mem _ ?_
  first | exact List.mem_append_right _ h | exact List.mem_append_left _ (List.mem_append_right _ h) | exact List.mem_append_left _ (List.mem_append_left _ (List.mem_append_right _ h)) | exact List.mem_append_left _ (List.mem_append_left _ (List.mem_append_left _ (List.mem_append_right _ h)))
theorem inwX0_localTime : ∀ w ∈ wsX00, w ∈ wsX0_localTime := by
  intro w h
  refine List.mem_cons_of_mem _ ?_
  first | exact List.mem_append_right _ h | exact List.mem_append_left _ (List.mem_append_right _ h) | exact List.mem_append_left _ (List.mem_append_left _ (List.mem_append_right _ h)) | exact List.mem_append_left _ (List.mem_append_left _ (List.mem_append_left _ (List.mem_append_right _ h)))
theorem inwX0_isInQuietHours : ∀ w ∈ wsX00, w ∈ wsX0_isInQuietHours := by
  intro w h
  refine List.mem_cons_of_mem _ ?_
  first | exact List.mem_append_right _ h | exact List.mem_append_left _ (List.mem_append_right _ h) | exact List.mem_append_left _ (List.mem_append_left _ (List.mem_append_right _ h)) | exact List.mem_append_left _ (List.mem_append_left _ (List.mem_append_left _ (List.mem_append_right _ h)))
theorem inwX0_spentToday : ∀ w ∈ wsX00, w ∈ wsX0_spentToday := by
  intro w h
  refine List.mem_cons_of_mem _ ?_
  first | exact List.mem_append_right _ h | exact List.mem_append_left _ (List.mem_append_right _ h) | exact List.mem_append_left _ (List.mem_append_left _ (List.mem_append_right _ h)) | exact List.mem_append_left _ (List.mem_append_left _ (List.mem_append_left _ (List.mem_append_right _ h)))
theorem inwX0_spendQuota : ∀ w ∈ wsX00, w ∈ wsX0_spendQuota := by
  intro w h
  refine List.mem_cons_of_mem _ ?_
  first | exact List.mem_append_right _ h | exact List.mem_append_left _ (List.mem_append_right _ h) | exact List.mem_append_left _ (List.mem_append_left _ (List.mem_append_right _ h)) | exact List.mem_append_left _ (List.mem_append_left _ (List.mem_append_left _ (List.mem_append_right _ h)))
theorem inwX0_deliverNow : ∀ w ∈ wsX00, w ∈ wsX0_deliverNow := by
  intro w h
  refine List.mem_cons_of_mem _ ?_
  first | exact List.mem_append_right _ h | exact List.mem_append_left _ (List.mem_append_right _ h) | exact List.mem_append_left _ (List.mem_append_left _ (List.mem_append_right _ h)) | exact List.mem_append_left _ (List.mem_append_left _ (List.mem_append_left _ (List.mem_append_right _ h)))
theorem inwX0_deliver : ∀ w ∈ wsX00, w ∈ wsX0_deliver := by
  intro w h
  refine List.mem_cons_of_mem _ ?_
  first | exact List.mem_append_right _ h | exact List.mem_append_left _ (List.mem_append_right _ h) | exact List.mem_append_left _ (List.mem_append_left _ (List.mem_append_right _ h)) | exact List.mem_append_left _ (List.mem_append_left _ (List.mem_append_left _ (List.mem_append_right _ h)))
theorem inwX0_openToNormal : ∀ w ∈ wsX00, w ∈ wsX0_openToNormal := by
  intro w h
  refine List.mem_cons_of_mem _ ?_
  first | exact List.mem_append_right _ h | exact List.mem_append_left _ (List.mem_append_right _ h) | exact List.mem_append_left _ (List.mem_append_left _ (List.mem_append_right _ h)) | exact List.mem_append_left _ (List.mem_append_left _ (List.mem_append_left _ (List.mem_append_right _ h)))
theorem inwX0_openToHigh : ∀ w ∈ wsX00, w ∈ wsX0_openToHigh := by
  intro w h
  refine List.mem_cons_of_mem _ ?_
  first | exact List.mem_append_right _ h | exact List.mem_append_left _ (List.mem_append_right _ h) | exact List.mem_append_left _ (List.mem_append_left _ (List.mem_append_right _ h)) | exact List.mem_append_left _ (List.mem_append_left _ (List.mem_append_left _ (List.mem_append_right _ h)))
theorem inwX0_nextChance : ∀ w ∈ wsX00, w ∈ wsX0_nextChance := by
  intro w h
  refine List.mem_cons_of_mem _ ?_
  first | exact List.mem_append_right _ h | exact List.mem_append_left _ (List.mem_append_right _ h) | exact List.mem_append_left _ (List.mem_append_left _ (List.mem_append_right _ h)) | exact List.mem_append_left _ (List.mem_append_left _ (List.mem_append_left _ (List.mem_append_right _ h)))
