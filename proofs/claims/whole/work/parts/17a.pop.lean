/-! the JDK's count of bits, number by number -/
def bcN (m : Nat) : Nat :=
  let a := m - Nat.land (m / 2) 1431655765
  let b := Nat.land a 858993459 + Nat.land (a / 4) 858993459
  let c := Nat.land (b + b / 16) 252645135
  let d := c + c / 256
  Nat.land (d + d / 65536) 63
def popR : Nat → Nat → Nat
  | 0, _ => 0
  | n + 1, m => m % 2 + popR n (m / 2)
def bcR (h : Nat) : Bool := (List.range 64).all fun k => (List.range 64).all fun l => Nat.beq (bcN (4096 * h + 64 * k + l)) (popR 16 (4096 * h + 64 * k + l))
theorem bc_0 : bcR 0 = true := by decide +kernel
theorem bc_1 : bcR 1 = true := by decide +kernel
theorem bc_2 : bcR 2 = true := by decide +kernel
theorem bc_3 : bcR 3 = true := by decide +kernel
theorem bc_4 : bcR 4 = true := by decide +kernel
theorem bc_5 : bcR 5 = true := by decide +kernel
theorem bc_6 : bcR 6 = true := by decide +kernel
theorem bc_7 : bcR 7 = true := by decide +kernel
theorem bc_8 : bcR 8 = true := by decide +kernel
theorem bc_9 : bcR 9 = true := by decide +kernel
theorem bc_10 : bcR 10 = true := by decide +kernel
theorem bc_11 : bcR 11 = true := by decide +kernel
theorem bc_12 : bcR 12 = true := by decide +kernel
theorem bc_13 : bcR 13 = true := by decide +kernel
theorem bc_14 : bcR 14 = true := by decide +kernel
theorem bc_15 : bcR 15 = true := by decide +kernel
theorem bc_all (h : Nat) (hh : h < 16) : bcR h = true := by
  match h, hh with
  | 0, _ => exact bc_0
  | 1, _ => exact bc_1
  | 2, _ => exact bc_2
  | 3, _ => exact bc_3
  | 4, _ => exact bc_4
  | 5, _ => exact bc_5
  | 6, _ => exact bc_6
  | 7, _ => exact bc_7
  | 8, _ => exact bc_8
  | 9, _ => exact bc_9
  | 10, _ => exact bc_10
  | 11, _ => exact bc_11
  | 12, _ => exact bc_12
  | 13, _ => exact bc_13
  | 14, _ => exact bc_14
  | 15, _ => exact bc_15
  | k + 16, hh => omega
