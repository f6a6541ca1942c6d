set_option maxHeartbeats 4000000 in
set_option maxRecDepth 100000 in
theorem c_X1_bits (l : Launch) (D : va_G) (tys : List (ClassId × FieldType)) (w0 : va_W) (p1 : Int32) : zMi l yX1_bits wsX1_bits ({ frames := 0, cells := 0, slots := 0, locals := 0 } : Room) zTT D tys w0 [.int p1] (fun (r : Int32) (_ : Unit) => r = r_X1_bits p1) (fun _ => w0) 0 0 := by
  refine z_startI (cc := cX1_bits) (n := 3) (own := RX1) (L0 := [(0, .int p1)]) (plainFor_of_name (by decide)) rfl rfl (Nat.le_of_ble_eq_true rfl) rfl (fun E hret => ?_)
  refine z_iconst (v := 0) dX1_bits_0 rfl ?_
  refine z_istore_n (L' := [(1, .int 0), (0, .int p1)]) dX1_bits_1 (by decide) rfl ?_
  refine z_iload_n 1 dX1_bits_2 rfl ?_
  refine z_istore_n (L' := [(2, .int p1), (1, .int 0), (0, .int p1)]) dX1_bits_3 (by decide) rfl ?_
  have hloop : ∀ r k : Nat, (l_X1_bits p1 k).2.toBitVec.toNat ≤ r → (l_X1_bits p1 k).2.toBitVec.toNat + k ≤ p1.toBitVec.toNat → ZW E zTT ({ frames := 0, cells := 0, slots := 0, locals := 0 } : Room) cX1_bits RX1 wsX1_bits 3 D tys 0 0 w0 4 [(2, .int (l_X1_bits p1 k).2), (1, .int (l_X1_bits p1 k).1), (0, .int p1)] [] := by
    intro r
    induction r with
    | zero =>
      intro k hr hk
      have h0 : (l_X1_bits p1 k).2 = 0 := Int32.toBitVec_inj.mp (BitVec.eq_of_toNat_eq (by rw [Nat.le_zero.mp hr]; rfl))
      refine z_iload_n 0 dX1_bits_4 rfl ?_
      refine z_if_eq 20 dX1_bits_5 (by decide) (fun c => ?_) (fun c => absurd h0 c)
      refine z_iload_n 1 dX1_bits_20 rfl ?_
      exact hret _ () _ _ _ dX1_bits_21 (by rw [r_X1_bits, st_X1_bits p1 k p1.toBitVec.toNat (by omega) h0]) rfl
    | succ r ih =>
      intro k hr hk
      refine z_iload_n 0 dX1_bits_4 rfl ?_
      refine z_if_eq 20 dX1_bits_5 (by decide) (fun c => ?_) (fun c => ?_)
      · refine z_iload_n 1 dX1_bits_20 rfl ?_
        exact hret _ () _ _ _ dX1_bits_21 (by rw [r_X1_bits, st_X1_bits p1 k p1.toBitVec.toNat (by omega) c]) rfl
      · have e : l_X1_bits p1 (k + 1) = ((l_X1_bits p1 k).1 + 1, (l_X1_bits p1 k).2 &&& ((l_X1_bits p1 k).2 - 1)) := by
          show b_X1_bits (l_X1_bits p1 k) = _
          rw [b_X1_bits, if_neg c]
        have hd := bits_dec c
        refine z_iinc (v := (l_X1_bits p1 k).1 + 1) (L' := [(1, .int ((l_X1_bits p1 k).1 + 1)), (2, .int (l_X1_bits p1 k).2), (0, .int p1)]) 1 dX1_bits_8 rfl rfl (by decide) rfl ?_
        refine z_iload_n 1 dX1_bits_11 rfl ?_
        refine z_iload_n 1 dX1_bits_12 rfl ?_
        refine z_iconst (v := 1) dX1_bits_13 rfl ?_
        refine z_isub dX1_bits_14 ?_
        refine z_iand dX1_bits_15 ?_
        refine z_istore_n (L' := [(2, .int ((l_X1_bits p1 k).2 &&& ((l_X1_bits p1 k).2 - 1))), (1, .int ((l_X1_bits p1 k).1 + 1)), (0, .int p1)]) dX1_bits_16 (by decide) rfl ?_
        refine z_goto 4 dX1_bits_17 (by decide) ?_
        have z := ih (k + 1) (by rw [e]; dsimp only; omega) (by rw [e]; dsimp only; omega)
        rw [e] at z
        exact z
  exact hloop _ 0 (Nat.le_refl _) (by show p1.toBitVec.toNat + 0 ≤ _; omega)
