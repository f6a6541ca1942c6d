/-! ===== the bits of a set of devices, counted ===== -/
theorem bt_nI (k : Nat) {i : Nat} (hi : i < 32) : bt (nI k) i = k.testBit i := by
  unfold bt
  show (BitVec.ofNat 32 k).getLsbD i = _
  rw [BitVec.getLsbD_ofNat, decide_eq_true hi, Bool.true_and]
def pop : Nat → Nat → Nat
  | 0, _ => 0
  | f + 1, k => Nat.add (Nat.mod k 2) (pop f (Nat.div k 2))
theorem pop_succ (f k : Nat) : pop (f + 1) k = k % 2 + pop f (k / 2) := rfl
theorem ct_pop : ∀ (f k : Nat), fb_ct (fun d => k.testBit d) f = pop f k
  | 0, _ => rfl
  | f + 1, k => by
    have h := fb_ct_split (fun d => k.testBit d) 1 f
    rw [Nat.add_comm f 1, h, Nat.add_comm 1 f, pop_succ, ← ct_pop f (k / 2)]
    have e1 : fb_ct (fun d => k.testBit d) 1 = k % 2 := by
      show 0 + (if k.testBit 0 then 1 else 0) = k % 2
      rw [Nat.testBit_zero]
      by_cases q : k % 2 = 1
      · rw [decide_eq_true q, if_pos rfl, q]
      · rw [decide_eq_false q, if_neg (by decide)]; omega
    rw [e1]
    have e2 : fb_ct (fun j => k.testBit (1 + j)) f = fb_ct (fun d => (k / 2).testBit d) f := by
      apply fb_ct_cong
      intro j _
      show k.testBit (1 + j) = (k / 2).testBit j
      rw [Nat.add_comm 1 j, Nat.testBit_succ]
    rw [e2]
theorem pop_16 (a b : Nat) (hb : b < 256) : pop 16 (256 * a + b) = pop 8 b + pop 8 a := by
  rw [← ct_pop 16, ← ct_pop 8, ← ct_pop 8]
  have h := fb_ct_split (fun d => (256 * a + b).testBit d) 8 8
  rw [h]
  have hb8 : b < 2 ^ 8 := hb
  have z := fun j => Nat.testBit_two_pow_mul_add a hb8 j
  have e1 : fb_ct (fun d => (256 * a + b).testBit d) 8 = fb_ct (fun d => b.testBit d) 8 := by
    apply fb_ct_cong
    intro j hj
    show (256 * a + b).testBit j = b.testBit j
    have := z j
    rw [if_pos hj] at this
    exact this
  have e2 : fb_ct (fun j => (256 * a + b).testBit (8 + j)) 8 = fb_ct (fun d => a.testBit d) 8 := by
    apply fb_ct_cong
    intro j hj
    show (256 * a + b).testBit (8 + j) = a.testBit j
    have := z (8 + j)
    rw [if_neg (by omega), Nat.add_sub_cancel_left] at this
    exact this
  rw [e1, e2]
def q1N (k : Nat) : Nat := Nat.sub k (Nat.land (Nat.shiftRight k 1) 1431655765)
def q2N (k : Nat) : Nat := Nat.add (Nat.land k 858993459) (Nat.land (Nat.shiftRight k 2) 858993459)
def q3N (k : Nat) : Nat := Nat.land (Nat.add k (Nat.shiftRight k 4)) 252645135
def q4N (k : Nat) : Nat := Nat.add k (Nat.shiftRight k 8)
def q5N (k : Nat) : Nat := Nat.add k (Nat.shiftRight k 16)
noncomputable def fcN (x : Nat) (f : Nat → Bool) : Bool := Nat.rec (f 0) (fun n _ => f (Nat.succ n)) x
theorem fcN_eq (x : Nat) (f : Nat → Bool) : fcN x f = f x := by cases x <;> rfl
noncomputable def bnd (x y : Bool) : Bool := Bool.rec false y x
noncomputable def tkN (k : Nat) (p : Nat) : Bool := fcN (q1N k) fun x1 => fcN (q2N x1) fun x2 => fcN (q3N x2) fun x3 => fcN (q4N x3) fun x4 => bnd (Nat.ble x2 65535) (bnd (Nat.ble x3 65535) (bnd (Nat.ble x4 65535) (Nat.beq (Nat.land (q5N x4) 63) p)))
noncomputable def rowN (a p : Nat) : Nat → Bool := fun n => Nat.rec true (fun b ih => bnd (tkN (Nat.add (Nat.mul 256 a) b) (Nat.add (pop 8 b) p)) ih) n
theorem rowN_ok (a p : Nat) : ∀ n, rowN a p n = true → ∀ b, b < n → tkN (256 * a + b) (pop 8 b + p) = true
  | 0, _, b, hb => absurd hb (Nat.not_lt_zero b)
  | n + 1, h, b, hb => by
    have e : bnd (tkN (256 * a + n) (pop 8 n + p)) (rowN a p n) = true := h
    cases q : tkN (256 * a + n) (pop 8 n + p) with
    | false => rw [q] at e; exact absurd (show false = true from e) (by decide)
    | true =>
      rw [q] at e
      rcases Nat.lt_or_ge b n with z | z
      · exact rowN_ok a p n e b z
      · have : b = n := by omega
        subst this; exact q
noncomputable def allN : Nat → Bool := fun n => Nat.rec true (fun a ih => bnd (fcN (pop 8 a) fun p => rowN a p 256) ih) n
theorem allN_ok : ∀ n, allN n = true → ∀ a, a < n → rowN a (pop 8 a) 256 = true
  | 0, _, b, hb => absurd hb (Nat.not_lt_zero b)
  | n + 1, h, b, hb => by
    have e : bnd (fcN (pop 8 n) fun p => rowN n p 256) (allN n) = true := h
    rw [fcN_eq] at e
    cases q : rowN n (pop 8 n) 256 with
    | false => rw [q] at e; exact absurd (show false = true from e) (by decide)
    | true =>
      rw [q] at e
      rcases Nat.lt_or_ge b n with z | z
      · exact allN_ok n e b z
      · have : b = n := by omega
        subst this; exact q
set_option maxRecDepth 100000 in
theorem allN_all : allN 256 = true := by decide +kernel
theorem tkN_all {k : Nat} (h : k < 65536) : tkN k (pop 16 k) = true := by
  have h1 := rowN_ok (k / 256) _ 256 (allN_ok 256 allN_all (k / 256) (by omega)) (k % 256) (by omega)
  rw [← pop_16 _ _ (by omega), show 256 * (k / 256) + k % 256 = k by omega] at h1
  exact h1
theorem bnd_t {x y : Bool} (h : bnd x y = true) : x = true ∧ y = true := by
  cases x
  · exact absurd (show false = true from h) (by decide)
  · exact ⟨rfl, h⟩
theorem tkN_facts {k : Nat} (h : k < 65536) : q2N (q1N k) < 65536 ∧ q3N (q2N (q1N k)) < 65536 ∧ q4N (q3N (q2N (q1N k))) < 65536 ∧ Nat.land (q5N (q4N (q3N (q2N (q1N k))))) 63 = pop 16 k := by
  have z := tkN_all h
  unfold tkN at z
  rw [fcN_eq, fcN_eq, fcN_eq, fcN_eq] at z
  obtain ⟨a, z⟩ := bnd_t z
  obtain ⟨b, z⟩ := bnd_t z
  obtain ⟨c, z⟩ := bnd_t z
  exact ⟨Nat.lt_succ_of_le (Nat.le_of_ble_eq_true a), Nat.lt_succ_of_le (Nat.le_of_ble_eq_true b), Nat.lt_succ_of_le (Nat.le_of_ble_eq_true c), Nat.eq_of_beq_eq_true z⟩
theorem us_N {k j : Nat} (hk : k < 65536) (hj : j < 32) : ushr (nI k) (nI j) = nI (k >>> j) := nx_ush hk hj
theorem bc1_N {k : Nat} (hk : k < 65536) : bc1 (nI k) = nI (q1N k) ∧ q1N k < 65536 := by
  have e : q1N k = k - ((k >>> 1) &&& 1431655765) := rfl
  have h1 : (k >>> 1) &&& 1431655765 ≤ k >>> 1 := Nat.and_le_left
  have h2 : k >>> 1 ≤ k := by rw [Nat.shiftRight_eq_div_pow]; exact Nat.div_le_self _ _
  refine ⟨?_, by omega⟩
  unfold bc1
  show nI k - (ushr (nI k) (nI 1) &&& nI 1431655765) = _
  rw [us_N hk (by omega), nx_and, pk_sub (by omega)]
  rfl
theorem bc2_N {k : Nat} (hk : k < 65536) : bc2 (nI k) = nI (q2N k) := by
  unfold bc2
  show (nI k &&& nI 858993459) + (ushr (nI k) (nI 2) &&& nI 858993459) = _
  rw [us_N hk (by omega), nx_and, nx_and, nI_add]
  rfl
theorem bc3_N {k : Nat} (hk : k < 65536) : bc3 (nI k) = nI (q3N k) := by
  unfold bc3
  show (nI k + ushr (nI k) (nI 4)) &&& nI 252645135 = _
  rw [us_N hk (by omega), nI_add, nx_and]
  rfl
theorem bc4_N {k : Nat} (hk : k < 65536) : bc4 (nI k) = nI (q4N k) := by
  unfold bc4
  show nI k + ushr (nI k) (nI 8) = _
  rw [us_N hk (by omega), nI_add]
  rfl
theorem bc5_N {k : Nat} (hk : k < 65536) : bc5 (nI k) = nI (q5N k) := by
  unfold bc5
  show nI k + ushr (nI k) (nI 16) = _
  rw [us_N hk (by omega), nI_add]
  rfl
theorem J6_pop {k : Nat} (hk : k < 65536) : r_J6_bitCount_0f7a4 (nI k) = nI (pop 16 k) := by
  obtain ⟨h2, h3, h4, h5⟩ := tkN_facts hk
  obtain ⟨e1, h1⟩ := bc1_N hk
  unfold r_J6_bitCount_0f7a4
  rw [e1, bc2_N h1, bc3_N h2, bc4_N h3, bc5_N h4]
  show _ &&& nI 63 = _
  rw [nx_and]
  exact congrArg nI h5
/-- a set with no bit from 16 on -/
theorem low_N {p : Int32} (h : ∀ i, 16 ≤ i → i < 32 → bt p i = false) : ∃ k, k < 65536 ∧ p = nI k := by
  obtain ⟨k, hk, e⟩ := nx_mask p
  refine ⟨k, hk, ?_⟩
  rw [← e]
  apply b_ext
  intro i hi
  rw [b_and, b_65535]
  rcases Nat.lt_or_ge i 16 with q | q
  · rw [decide_eq_true q, Bool.and_true]
  · rw [h i q hi]; rfl
theorem J6_ct {p : Int32} (h : ∀ i, 16 ≤ i → i < 32 → bt p i = false) : r_J6_bitCount_0f7a4 p = nI (fb_ct (fun d => bt p d) 16) := by
  obtain ⟨k, hk, rfl⟩ := low_N h
  rw [J6_pop hk, ← ct_pop]
  exact congrArg nI (fb_ct_cong fun d hd => (bt_nI k (by omega)).symm)
theorem land_dec (f : Nat) : ∀ k, 0 < k → k < 2 ^ f → pop f (k &&& (k - 1)) + 1 = pop f k := by
  induction f with
  | zero => intro k h1 h2; simp at h2; omega
  | succ f ih =>
    intro k h1 h2
    rw [pop_succ, pop_succ]
    have d : (k &&& (k - 1)) / 2 = (k / 2) &&& ((k - 1) / 2) := Nat.and_div_two
    have m : (k &&& (k - 1)) % 2 = 0 := by
      have t0 : (k &&& (k - 1)).testBit 0 = false := by
        rw [Nat.testBit_and, Nat.testBit_zero, Nat.testBit_zero]
        by_cases q : k % 2 = 1
        · rw [decide_eq_false (p := (k - 1) % 2 = 1) (by omega), Bool.and_false]
        · rw [decide_eq_false q, Bool.false_and]
      rw [Nat.testBit_zero] at t0
      have := of_decide_eq_false t0
      omega
    rw [d, m]
    by_cases q : k % 2 = 1
    · have e : (k - 1) / 2 = k / 2 := by omega
      rw [e, Nat.and_self, q]; omega
    · have e : (k - 1) / 2 = k / 2 - 1 := by omega
      rw [e]
      have := ih (k / 2) (by omega) (by rw [Nat.pow_succ] at h2; omega)
      omega
theorem bits_pop {k : Nat} (hk : k < 65536) : r_X1_bits (nI k) = nI (pop 16 k) := by
  have key : ∀ j, ∃ c r, l_X1_bits (nI k) j = (nI c, nI r) ∧ r ≤ k ∧ c + pop 16 r = pop 16 k ∧ (r = 0 ∨ r + j ≤ k) := by
    intro j
    induction j with
    | zero => exact ⟨0, k, rfl, Nat.le_refl _, by omega, Or.inr (by omega)⟩
    | succ j ih =>
      obtain ⟨c, r, e, h1, h2, h3⟩ := ih
      show ∃ c r, b_X1_bits (l_X1_bits (nI k) j) = _ ∧ _
      rw [e]
      unfold b_X1_bits
      by_cases q : r = 0
      · refine ⟨c, r, ?_, h1, h2, Or.inl q⟩
        subst q
        exact if_pos rfl
      · have e1 : ¬ nI r = 0 := nI_ne0 (by omega) (by omega)
        have l1 : r &&& (r - 1) ≤ r - 1 := Nat.and_le_right
        have l2 := land_dec 16 r (by omega) (by omega)
        refine ⟨c + 1, r &&& (r - 1), ?_, by omega, by omega, ?_⟩
        · show (if nI r = 0 then (nI c, nI r) else (nI c + 1, nI r &&& (nI r - 1))) = _
          rw [if_neg e1, nI_1]
          have e2 : nI r - 1 = nI (r - 1) := pk_sub (b := 1) (by omega)
          rw [e2, nx_and]
        · right; omega
  have e0 : (nI k).toBitVec.toNat = k := pk_tn (by omega)
  unfold r_X1_bits
  rw [e0]
  obtain ⟨c, r, e, h1, h2, h3⟩ := key k
  rw [e]
  have r0 : r = 0 := by omega
  subst r0
  have p0 : pop 16 0 = 0 := by decide
  exact congrArg nI (by omega)
theorem bits_J6 {p : Int32} (h : ∀ i, 16 ≤ i → i < 32 → bt p i = false) : r_X1_bits p = r_J6_bitCount_0f7a4 p := by
  obtain ⟨k, hk, rfl⟩ := low_N h
  rw [bits_pop hk, J6_pop hk]
theorem fb_sm_ct (p : Nat → Bool) : ∀ n, fb_sm (fun k => if p k then 1 else 0) n = fb_ct p n
  | 0 => rfl
  | n + 1 => by rw [fb_sm_succ, fb_ct_succ, fb_sm_ct p n]
theorem fb_swap (T : Nat → Nat → Bool) (m : Nat) : ∀ n, fb_sm (fun k => fb_ct (fun d => T d k) m) n = fb_sm (fun d => fb_ct (fun k => T d k) n) m
  | 0 => by
    induction m with
    | zero => rfl
    | succ m ih => rw [fb_sm_succ, ← ih]; rfl
  | n + 1 => by
    rw [fb_sm_succ, fb_swap T m n]
    have e : fb_sm (fun d => fb_ct (fun k => T d k) (n + 1)) m = fb_sm (fun d => fb_ct (fun k => T d k) n + (if T d n then 1 else 0)) m := rfl
    rw [e, fb_sm_add, fb_sm_ct (fun d => T d n)]
