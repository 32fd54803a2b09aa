/-! where a tile lies: corners of the tiles under a tile -/
theorem xof_mul : ∀ m k t, xof (k + m) (t * 4 ^ m) = 2 ^ m * xof k t
  | 0, k, t => by rw [Nat.pow_zero, Nat.mul_one, Nat.one_mul]; rfl
  | m + 1, k, t => by
    have ih := xof_mul m k t
    have e1 : t * 4 ^ (m + 1) = 4 * (t * 4 ^ m) := by rw [Nat.pow_succ, ← Nat.mul_assoc, Nat.mul_comm]
    have e2 : 2 ^ (m + 1) * xof k t = 2 * (2 ^ m * xof k t) := by rw [Nat.pow_succ, Nat.mul_comm (2 ^ m) 2, Nat.mul_assoc]
    rw [e1, e2, ← ih]
    generalize t * 4 ^ m = z
    show 2 * xof (k + m) (4 * z / 4) + 4 * z % 2 = _
    rw [show 4 * z / 4 = z by omega]
    omega
theorem yof_mul : ∀ m k t, yof (k + m) (t * 4 ^ m) = 2 ^ m * yof k t
  | 0, k, t => by rw [Nat.pow_zero, Nat.mul_one, Nat.one_mul]; rfl
  | m + 1, k, t => by
    have ih := yof_mul m k t
    have e1 : t * 4 ^ (m + 1) = 4 * (t * 4 ^ m) := by rw [Nat.pow_succ, ← Nat.mul_assoc, Nat.mul_comm]
    have e2 : 2 ^ (m + 1) * yof k t = 2 * (2 ^ m * yof k t) := by rw [Nat.pow_succ, Nat.mul_comm (2 ^ m) 2, Nat.mul_assoc]
    rw [e1, e2, ← ih]
    generalize t * 4 ^ m = z
    show 2 * yof (k + m) (4 * z / 4) + 4 * z / 2 % 2 = _
    rw [show 4 * z / 4 = z by omega]
    omega
theorem xof_per : ∀ k p, xof k (p + 4 ^ k) = xof k p
  | 0, p => rfl
  | k + 1, p => by
    have ih := xof_per k (p / 4)
    rw [xof, xof, ← ih, Nat.pow_succ, show (p + 4 ^ k * 4) / 4 = p / 4 + 4 ^ k by omega]
    omega
theorem yof_per : ∀ k p, yof k (p + 4 ^ k) = yof k p
  | 0, p => rfl
  | k + 1, p => by
    have ih := yof_per k (p / 4)
    rw [yof, yof, ← ih, Nat.pow_succ, show (p + 4 ^ k * 4) / 4 = p / 4 + 4 ^ k by omega]
    omega
theorem xfo {d t : Nat} (h : tv d t) : xof 6 (fo d t) = 2 ^ (6 - d) * xof d t := by
  have h1 := h.1
  have e := (fo_mul h).1
  have a := xof_per 6 (fo d t)
  have b := xof_mul (6 - d) d t
  rw [show d + (6 - d) = 6 by omega, e] at b
  rw [show (4 : Nat) ^ 6 = 4096 by decide, Nat.add_comm] at a
  rw [← a, b]
theorem yfo {d t : Nat} (h : tv d t) : yof 6 (fo d t) = 2 ^ (6 - d) * yof d t := by
  have h1 := h.1
  have e := (fo_mul h).1
  have a := yof_per 6 (fo d t)
  have b := yof_mul (6 - d) d t
  rw [show d + (6 - d) = 6 by omega, e] at b
  rw [show (4 : Nat) ^ 6 = 4096 by decide, Nat.add_comm] at a
  rw [← a, b]
theorem kid_x {d t i : Nat} (h : tv d t) (hd : d < 6) (hi : i < 4) : xof 6 (fo (d + 1) (4 * t + i)) = xof 6 (fo d t) + i % 2 * 2 ^ (6 - (d + 1)) := by
  have e1 : xof (d + 1) (4 * t + i) = 2 * xof d t + i % 2 := by
    rw [xof, show (4 * t + i) / 4 = t by omega]
    omega
  rw [xfo (kid_tv h hd hi), xfo h, e1, show 6 - d = 6 - (d + 1) + 1 by omega, Nat.pow_succ, Nat.mul_add, Nat.mul_comm (i % 2), ← Nat.mul_assoc]
theorem kid_y {d t i : Nat} (h : tv d t) (hd : d < 6) (hi : i < 4) : yof 6 (fo (d + 1) (4 * t + i)) = yof 6 (fo d t) + i / 2 * 2 ^ (6 - (d + 1)) := by
  have e1 : yof (d + 1) (4 * t + i) = 2 * yof d t + i / 2 := by
    rw [yof, show (4 * t + i) / 4 = t by omega]
    omega
  rw [yfo (kid_tv h hd hi), yfo h, e1, show 6 - d = 6 - (d + 1) + 1 by omega, Nat.pow_succ, Nat.mul_add, Nat.mul_comm (i / 2), ← Nat.mul_assoc]
