/-! numbers: places and their codes -/
theorem bz0 : bz 0 = some 0 := by decide
theorem bz1 : bz 1 = some 1 := by decide
def pth : Nat → Nat → Nat → Nat
  | 0, _, _ => 0
  | k + 1, x, y => 4 * pth k (x / 2) (y / 2) + 2 * (y % 2) + x % 2
def xof : Nat → Nat → Nat
  | 0, _ => 0
  | k + 1, p => 2 * xof k (p / 4) + p % 2
def yof : Nat → Nat → Nat
  | 0, _ => 0
  | k + 1, p => 2 * yof k (p / 4) + p / 2 % 2
theorem pth_lt : ∀ (k x y : Nat), pth k x y < 4 ^ k
  | 0, _, _ => Nat.one_pos
  | k + 1, x, y => by
    have := pth_lt k (x / 2) (y / 2)
    rw [pth, Nat.pow_succ]
    omega
theorem xof_lt : ∀ (k p : Nat), xof k p < 2 ^ k
  | 0, _ => Nat.one_pos
  | k + 1, p => by
    have := xof_lt k (p / 4)
    rw [xof, Nat.pow_succ]
    omega
theorem yof_lt : ∀ (k p : Nat), yof k p < 2 ^ k
  | 0, _ => Nat.one_pos
  | k + 1, p => by
    have := yof_lt k (p / 4)
    rw [yof, Nat.pow_succ]
    omega
theorem xof_pth : ∀ (k x y : Nat), x < 2 ^ k → xof k (pth k x y) = x
  | 0, x, y, h => by rw [xof]; omega
  | k + 1, x, y, h => by
    rw [Nat.pow_succ] at h
    have ih := xof_pth k (x / 2) (y / 2) (by omega)
    rw [xof, pth, show (4 * pth k (x / 2) (y / 2) + 2 * (y % 2) + x % 2) / 4 = pth k (x / 2) (y / 2) by omega, ih]
    omega
theorem yof_pth : ∀ (k x y : Nat), y < 2 ^ k → yof k (pth k x y) = y
  | 0, x, y, h => by rw [yof]; omega
  | k + 1, x, y, h => by
    rw [Nat.pow_succ] at h
    have ih := yof_pth k (x / 2) (y / 2) (by omega)
    rw [yof, pth, show (4 * pth k (x / 2) (y / 2) + 2 * (y % 2) + x % 2) / 4 = pth k (x / 2) (y / 2) by omega, ih]
    omega
theorem pth_xy : ∀ (k p : Nat), p < 4 ^ k → pth k (xof k p) (yof k p) = p
  | 0, p, h => by rw [pth]; omega
  | k + 1, p, h => by
    rw [Nat.pow_succ] at h
    have ih := pth_xy k (p / 4) (by omega)
    rw [pth, xof, yof, show (2 * xof k (p / 4) + p % 2) / 2 = xof k (p / 4) by omega, show (2 * yof k (p / 4) + p / 2 % 2) / 2 = yof k (p / 4) by omega, ih]
    omega
set_option maxRecDepth 100000 in
theorem pathOf_all : ∀ x, x < 64 → ∀ y, y < 64 → fX8_pathOf (nI x) (nI y) = some (nI (pth 6 x y)) := by decide +kernel
set_option maxRecDepth 100000 in
theorem placeAt_all : ∀ x, x < 64 → ∀ y, y < 64 → fX1_placeAt (nI x) (nI y) = some (nI (4096 + pth 6 x y)) := by decide +kernel
set_option maxRecDepth 100000 in
theorem coord0_all : ∀ p, p < 4096 → fX8_coordinate (nI p) 0 = some (nI (xof 6 p)) := by decide +kernel
set_option maxRecDepth 100000 in
theorem coord1_all : ∀ p, p < 4096 → fX8_coordinate (nI p) 1 = some (nI (yof 6 p)) := by decide +kernel
set_option maxRecDepth 100000 in
theorem esb_all : ∀ p, p < 4096 → fX1_everySecondBit (nI (4096 + p)) = some (nI (xof 6 p)) := by decide +kernel
set_option maxRecDepth 100000 in
theorem esb1_all : ∀ p, p < 4096 → fX1_everySecondBit (nI (4096 + p) >>> 1) = some (nI (yof 6 p)) := by decide +kernel
