def pN (k : Nat) : Nat := k % 2 + (k / 2 % 2 + (k / 4 % 2 + (k / 8 % 2 + (k / 16 % 2 + (k / 32 % 2 + (k / 64 % 2 + (k / 128 % 2 + (k / 256 % 2 + (k / 512 % 2 + (k / 1024 % 2 + (k / 2048 % 2 + (k / 4096 % 2 + (k / 8192 % 2 + (k / 16384 % 2 + k / 32768 % 2))))))))))))))
def n1N (k : Nat) : Nat := k - ((k >>> 1) &&& 1431655765)
def n2N (k : Nat) : Nat := (k &&& 858993459) + ((k >>> 2) &&& 858993459)
def n3N (k : Nat) : Nat := (k + (k >>> 4)) &&& 252645135
def n4N (k : Nat) : Nat := k + (k >>> 8)
def n5N (k : Nat) : Nat := k + (k >>> 16)
def tN (k : Nat) : Bool := Nat.ble ((k >>> 1) &&& 1431655765) k && (Nat.ble (n1N k) 65535 && (Nat.ble (n2N (n1N k)) 65535 && (Nat.ble (n3N (n2N (n1N k))) 65535 && (Nat.ble (n4N (n3N (n2N (n1N k)))) 65535 && (Nat.beq (n5N (n4N (n3N (n2N (n1N k)))) &&& 63) (pN k) && (Nat.beq k 0 || Nat.beq (pN (k &&& (k - 1)) + 1) (pN k)))))))
set_option maxRecDepth 100000 in
theorem tN_all : ((List.range 256).all fun a => (List.range 256).all fun b => tN (a * 256 + b)) = true := by decide +kernel
theorem tN_ok {k : Nat} (h : k < 65536) : tN k = true := by
  have h1 := List.all_eq_true.mp tN_all (k / 256) (List.mem_range.mpr (by omega))
  have h2 := List.all_eq_true.mp h1 (k % 256) (List.mem_range.mpr (by omega))
  rw [show k / 256 * 256 + k % 256 = k by omega] at h2
  exact h2
