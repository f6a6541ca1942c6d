theorem tI_bmod {z : Int} (h1 : -2147483648 ≤ z) (h2 : z < 2147483648) : z.bmod (2 ^ 32) = z := by
  rw [Int.bmod_eq_of_le (by omega) (by omega)]
theorem tI_sub {c : Int32} {n : Nat} (k : Int) (hc : c.toInt = k) (h1 : -100000 ≤ k) (h2 : k ≤ 100000) (hn : n < 100000) : (c - nI n).toInt = k - n := by
  rw [Int32.toInt_sub, hc, nI_toInt (by omega), tI_bmod (by omega) (by omega)]
theorem tI_add {c : Int32} {n : Nat} (k : Int) (hc : c.toInt = k) (h1 : -100000 ≤ k) (h2 : k ≤ 100000) (hn : n < 100000) : (c + nI n).toInt = k + n := by
  rw [Int32.toInt_add, hc, nI_toInt (by omega), tI_bmod (by omega) (by omega)]
theorem tI_neg {n : Nat} (hn : n < 100000) : (-(nI n)).toInt = -(n : Int) := by
  rw [Int32.toInt_neg, nI_toInt (by omega), tI_bmod (by omega) (by omega)]
theorem r8 {n : Nat} (hn : n < 100000) : nI n - nI n / 8 * 8 = nI (n % 8) := pk_rem (d := 8) (by omega) (by omega) (by omega)
theorem r50 {n : Nat} (hn : n < 100000) : nI n - nI n / 50 * 50 = nI (n % 50) := pk_rem (d := 50) (by omega) (by omega) (by omega)
theorem wlo {p lo hi : Int32} (h : p.toInt < lo.toInt) : e_X0_requireWithin p lo hi = 1 := by
  unfold e_X0_requireWithin
  rw [if_pos (Int32.lt_iff_toInt_lt.mpr h)]
theorem whi {p lo hi : Int32} (h : hi.toInt < p.toInt) : e_X0_requireWithin p lo hi = 1 := by
  unfold e_X0_requireWithin
  split
  · rfl
  · rw [if_neg (fun z => by have := Int32.le_iff_toInt_le.mp z; omega)]
theorem win {p lo hi : Int32} (h1 : lo.toInt ≤ p.toInt) (h2 : p.toInt ≤ hi.toInt) : e_X0_requireWithin p lo hi = 0 := by
  unfold e_X0_requireWithin
  rw [if_neg (fun z => by have := Int32.lt_iff_toInt_lt.mp z; omega), if_pos (Int32.le_iff_toInt_le.mpr h2)]
theorem win8 {n : Nat} (hn : n < 100000) : e_X0_requireWithin (nI n - nI n / 8 * 8) 0 7 = 0 := by
  rw [r8 hn]
  have e : (nI (n % 8)).toInt = ((n % 8 : Nat) : Int) := nI_toInt (by omega)
  have a : (0 : Int32).toInt = 0 := rfl
  have b : (7 : Int32).toInt = 7 := rfl
  exact win (by rw [e, a]; omega) (by rw [e, b]; omega)
theorem dneg {u : SX} {p : Int32} (h : p.toInt < 0) : e_X0_requireDevice u p = 3 := by
  unfold e_X0_requireDevice
  rw [if_pos (Int32.lt_iff_toInt_lt.mpr h)]
theorem nneg {u : SX} {p : Int32} (h : p.toInt < 0) : e_X0_requireNotice u p = 3 := by
  unfold e_X0_requireNotice
  rw [if_pos (Int32.lt_iff_toInt_lt.mpr h)]
theorem dbig {u : SX} {p : Int32} {nd : Nat} (hnd : u.1 10 = nI nd) (hd : nd ≤ 16) (h : (nd : Int) ≤ p.toInt) : e_X0_requireDevice u p = 3 := by
  unfold e_X0_requireDevice
  split
  · rfl
  · rw [if_neg (fun z => by have := Int32.lt_iff_toInt_lt.mp z; rw [hnd, nI_toInt (by omega)] at this; omega)]
theorem nbig {u : SX} {p : Int32} {nn : Nat} (hnn : u.1 16 = nI nn) (hn : nn ≤ 120) (h : (nn : Int) ≤ p.toInt) : e_X0_requireNotice u p = 3 := by
  unfold e_X0_requireNotice
  split
  · rfl
  · rw [if_neg (fun z => by have := Int32.lt_iff_toInt_lt.mp z; rw [hnn, nI_toInt (by omega)] at this; omega)]
theorem dok {u : SX} (hnd : u.1 10 = nI 1) : e_X0_requireDevice u 0 = 0 := by
  unfold e_X0_requireDevice
  rw [hnd]; rfl
theorem f_addDevice1 {u : SX} {p q : Int32} (h1 : e_X0_requireWithin p 0 7 = 1) : e_X0_addDevice u p q = 1 := by
  unfold e_X0_addDevice
  simp [h1]
theorem f_addDevice2 {u : SX} {p q : Int32} (h1 : e_X0_requireWithin p 0 7 = 0) (h2 : e_X0_requireWithin q (-720) 840 = 1) : e_X0_addDevice u p q = 1 := by
  unfold e_X0_addDevice
  simp [h1, h2]
theorem f_setOnline {u : SX} {p q : Int32} (h1 : e_X0_requireDevice u p = 3) : e_X0_setOnline u p q = 3 := by
  unfold e_X0_setOnline
  simp [h1]
theorem f_setDozing {u : SX} {p q : Int32} (h1 : e_X0_requireDevice u p = 3) : e_X0_setDozing u p q = 3 := by
  unfold e_X0_setDozing
  simp [h1]
theorem f_setQuiet1 {u : SX} {p q r : Int32} (h1 : e_X0_requireDevice u p = 3) : e_X0_setQuiet u p q r = 3 := by
  unfold e_X0_setQuiet
  simp [h1]
theorem f_setQuiet2 {u : SX} {p q r : Int32} (h1 : e_X0_requireDevice u p = 0) (h2 : e_X0_requireWithin q 0 1439 = 1) : e_X0_setQuiet u p q r = 1 := by
  unfold e_X0_setQuiet
  simp [h1, h2]
theorem f_setQuiet3 {u : SX} {p q r : Int32} (h1 : e_X0_requireDevice u p = 0) (h2 : e_X0_requireWithin q 0 1439 = 0) (h3 : e_X0_requireWithin r 0 1439 = 1) : e_X0_setQuiet u p q r = 1 := by
  unfold e_X0_setQuiet
  simp [h1, h2, h3]
theorem f_join1 {u : SX} {p q r : Int32} (h1 : e_X0_requireDevice u p = 3) : e_X0_join u p q r = 3 := by
  unfold e_X0_join
  simp [h1]
theorem f_join2 {u : SX} {p q r : Int32} (h1 : e_X0_requireDevice u p = 0) (h2 : e_X0_requireWithin q 0 5 = 1) : e_X0_join u p q r = 1 := by
  unfold e_X0_join
  simp [h1, h2]
theorem f_kill {u : SX} {p : Int32} (h1 : e_X0_requireDevice u p = 3) : e_X0_kill u p = 3 := by
  unfold e_X0_kill
  simp [h1]
theorem f_isQuiet {u : SX} {p : Int32} (h1 : e_X0_requireDevice u p = 3) : e_X0_isQuiet u p = 3 := by
  unfold e_X0_isQuiet
  simp [h1]
theorem f_badge {u : SX} {p : Int32} (h1 : e_X0_requireDevice u p = 3) : e_X0_badge u p = 3 := by
  unfold e_X0_badge
  simp [h1]
theorem f_waiting {u : SX} {p : Int32} (h1 : e_X0_requireDevice u p = 3) : e_X0_waiting u p = 3 := by
  unfold e_X0_waiting
  simp [h1]
theorem f_quota {u : SX} {p : Int32} (h1 : e_X0_requireDevice u p = 3) : e_X0_quota u p = 3 := by
  unfold e_X0_quota
  simp [h1]
theorem f_send1 {u : SX} {p q r s : Int32} (h1 : e_X0_requireWithin p 0 7 = 1) : e_X0_send u p q r s = 1 := by
  unfold e_X0_send
  simp [h1]
theorem f_send2 {u : SX} {p q r s : Int32} (h1 : e_X0_requireWithin p 0 7 = 0) (hk : ¬ q = (-1)) (h2 : e_X0_requireWithin q 0 9 = 1) : e_X0_send u p q r s = 1 := by
  unfold e_X0_send
  simp [h1, hk, h2]
theorem f_send4 {u : SX} {p q r s : Int32} (h1 : e_X0_requireWithin p 0 7 = 0) (hk : ¬ q = (-1)) (h2 : e_X0_requireWithin q 0 9 = 0) (h3 : e_X0_requireWithin s 1 10000 = 1) : e_X0_send u p q r s = 1 := by
  unfold e_X0_send
  simp [h1, hk, h2, h3]
theorem f_sendBy1 {u : SX} {p q r s t : Int32} (h1 : e_X0_requireWithin p 0 2 = 1) : e_X0_sendBy u p q r s t = 1 := by
  unfold e_X0_sendBy
  simp [h1]
theorem f_sendBy2 {u : SX} {p q r s t : Int32} (h1 : e_X0_requireWithin p 0 2 = 0) (h2 : e_X0_requireWithin q 0 5 = 1) : e_X0_sendBy u p q r s t = 1 := by
  unfold e_X0_sendBy
  simp [h1, h2]
theorem f_sendBy3 {u : SX} {p q r s t : Int32} (h1 : e_X0_requireWithin p 0 2 = 0) (h2 : e_X0_requireWithin q 0 5 = 0) (h3 : e_X0_requireWithin r 0 5 = 1) : e_X0_sendBy u p q r s t = 1 := by
  unfold e_X0_sendBy
  simp [h1, h2, h3]
theorem f_sendBy5 {u : SX} {p q r s t : Int32} (h1 : e_X0_requireWithin p 0 2 = 0) (h2 : e_X0_requireWithin q 0 5 = 0) (h3 : e_X0_requireWithin r 0 5 = 0) (h4 : e_X0_requireWithin t 1 10000 = 1) : e_X0_sendBy u p q r s t = 1 := by
  unfold e_X0_sendBy
  simp [h1, h2, h3, h4]
theorem f_read1 {u : SX} {p q : Int32} (h1 : e_X0_requireDevice u p = 3) : e_X0_read u p q = 3 := by
  unfold e_X0_read
  simp [h1]
theorem f_read2 {u : SX} {p q : Int32} (h1 : e_X0_requireDevice u p = 0) (h2 : e_X0_requireNotice u q = 3) : e_X0_read u p q = 3 := by
  unfold e_X0_read
  simp [h1, h2]
theorem f_stands {u : SX} {p : Int32} (h1 : e_X0_requireNotice u p = 3) : e_X0_stands u p = 3 := by
  unfold e_X0_stands
  simp [h1]
theorem f_waitsFor {u : SX} {p : Int32} (h1 : e_X0_requireNotice u p = 3) : e_X0_waitsFor u p = 3 := by
  unfold e_X0_waitsFor
  simp [h1]
theorem f_deliveredTo {u : SX} {p : Int32} (h1 : e_X0_requireNotice u p = 3) : e_X0_deliveredTo u p = 3 := by
  unfold e_X0_deliveredTo
  simp [h1]
theorem f_standing1 {u : SX} {p q : Int32} (h1 : e_X0_requireWithin p 0 7 = 1) : e_X0_standing u p q = 1 := by
  unfold e_X0_standing
  simp [h1]
theorem f_standing2 {u : SX} {p q : Int32} (h1 : e_X0_requireWithin p 0 7 = 0) (h2 : e_X0_requireWithin q 0 9 = 1) : e_X0_standing u p q = 1 := by
  unfold e_X0_standing
  simp [h1, h2]
theorem f_pass1 {u : SX} {p : Int32} (h1 : e_X0_requireWithin p 1 3000 = 1) : e_X0_pass u p = 1 := by
  unfold e_X0_pass
  simp [h1]
theorem x_adds2 {n : Nat} (hn : n < 100000) : e_X0_requireWithin ((-721) - nI n) (-720) 840 = 1 := by
  have e := tI_sub (c := (-721)) ((-721)) rfl (by decide) (by decide) hn
  have b : ((-720) : Int32).toInt = (-720) := rfl
  exact wlo (by rw [e, b]; omega)
theorem x_adds3 {n : Nat} (hn : n < 100000) : e_X0_requireWithin (841 + nI n) (-720) 840 = 1 := by
  have e := tI_add (c := 841) (841) rfl (by decide) (by decide) hn
  have b : (840 : Int32).toInt = 840 := rfl
  exact whi (by rw [e, b]; omega)
theorem x_sends2 {n : Nat} (hn : n < 100000) : e_X0_requireWithin ((-2) - nI n) 0 9 = 1 := by
  have e := tI_sub (c := (-2)) ((-2)) rfl (by decide) (by decide) hn
  have b : (0 : Int32).toInt = 0 := rfl
  exact wlo (by rw [e, b]; omega)
theorem x_sends3 {n : Nat} (hn : n < 100000) : e_X0_requireWithin (10 + nI n) 0 9 = 1 := by
  have e := tI_add (c := 10) (10) rfl (by decide) (by decide) hn
  have b : (9 : Int32).toInt = 9 := rfl
  exact whi (by rw [e, b]; omega)
theorem x_sends5 {n : Nat} (hn : n < 100000) : e_X0_requireWithin (10001 + nI n) 1 10000 = 1 := by
  have e := tI_add (c := 10001) (10001) rfl (by decide) (by decide) hn
  have b : (10000 : Int32).toInt = 10000 := rfl
  exact whi (by rw [e, b]; omega)
theorem x_sendsBy1 {n : Nat} (hn : n < 100000) : e_X0_requireWithin (3 + nI n) 0 2 = 1 := by
  have e := tI_add (c := 3) (3) rfl (by decide) (by decide) hn
  have b : (2 : Int32).toInt = 2 := rfl
  exact whi (by rw [e, b]; omega)
theorem x_sendsBy3 {n : Nat} (hn : n < 100000) : e_X0_requireWithin (6 + nI n) 0 5 = 1 := by
  have e := tI_add (c := 6) (6) rfl (by decide) (by decide) hn
  have b : (5 : Int32).toInt = 5 := rfl
  exact whi (by rw [e, b]; omega)
theorem x_sendsBy4 {n : Nat} (hn : n < 100000) : e_X0_requireWithin ((-1) - nI n) 0 5 = 1 := by
  have e := tI_sub (c := (-1)) ((-1)) rfl (by decide) (by decide) hn
  have b : (0 : Int32).toInt = 0 := rfl
  exact wlo (by rw [e, b]; omega)
theorem x_sendsBy5 {n : Nat} (hn : n < 100000) : e_X0_requireWithin (-(nI n)) 1 10000 = 1 := by
  have e := tI_neg hn
  have b : (1 : Int32).toInt = 1 := rfl
  exact wlo (by rw [e, b]; omega)
theorem x_passes2 {n : Nat} (hn : n < 100000) : e_X0_requireWithin (3001 + nI n) 1 3000 = 1 := by
  have e := tI_add (c := 3001) (3001) rfl (by decide) (by decide) hn
  have b : (3000 : Int32).toInt = 3000 := rfl
  exact whi (by rw [e, b]; omega)
theorem x_quiets2 {n : Nat} (hn : n < 100000) : e_X0_requireWithin ((-1) - nI n) 0 1439 = 1 := by
  have e := tI_sub (c := (-1)) ((-1)) rfl (by decide) (by decide) hn
  have b : (0 : Int32).toInt = 0 := rfl
  exact wlo (by rw [e, b]; omega)
theorem x_quiets3 {n : Nat} (hn : n < 100000) : e_X0_requireWithin (1440 + nI n) 0 1439 = 1 := by
  have e := tI_add (c := 1440) (1440) rfl (by decide) (by decide) hn
  have b : (1439 : Int32).toInt = 1439 := rfl
  exact whi (by rw [e, b]; omega)
theorem k_sends2 {n : Nat} (hn : n < 100000) : ¬ ((-2) - nI n) = (-1) := by
  intro z
  have e := tI_sub (c := (-2)) ((-2)) rfl (by decide) (by decide) hn
  rw [z] at e
  have b : (-1 : Int32).toInt = -1 := rfl
  rw [b] at e
  omega
theorem k_sends3 {n : Nat} (hn : n < 100000) : ¬ (10 + nI n) = (-1) := by
  intro z
  have e := tI_add (c := 10) 10 rfl (by decide) (by decide) hn
  rw [z] at e
  have b : (-1 : Int32).toInt = -1 := rfl
  rw [b] at e
  omega
theorem m50 {n : Nat} (hn : n < 100000) : ((-1) - (nI n - nI n / 50 * 50)).toInt < 0 := by
  rw [r50 hn, tI_sub (c := (-1)) (-1) rfl (by decide) (by decide) (by omega)]
  omega
theorem p50 {n k : Nat} (hk : k < 200) (hn : n < 100000) : (k : Int) ≤ (nI k + (nI n - nI n / 50 * 50)).toInt := by
  rw [r50 hn, tI_add (c := nI k) k (nI_toInt (by omega)) (by omega) (by omega) (by omega)]
  omega
theorem u_even {n : Nat} (hn : n < 100000) : e_X0_requireWithin ((-1) - (nI n - nI n / 50 * 50)) 0 7 = 1 := by
  have b : (0 : Int32).toInt = 0 := rfl
  exact wlo (by rw [b]; exact m50 hn)
theorem u_odd {n : Nat} (hn : n < 100000) : e_X0_requireWithin (8 + (nI n - nI n / 50 * 50)) 0 7 = 1 := by
  have b : (7 : Int32).toInt = 7 := rfl
  have z := p50 (k := 8) (by omega) hn
  have z2 : ((8 : Nat) : Int) ≤ (8 + (nI n - nI n / 50 * 50)).toInt := z
  exact whi (by rw [b]; omega)
