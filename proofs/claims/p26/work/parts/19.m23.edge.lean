/-! where a place lies; the edges of tiles -/
theorem pth_div : ∀ m k x y, pth (k + m) x y / 4 ^ m = pth k (x / 2 ^ m) (y / 2 ^ m)
  | 0, k, x, y => by simp only [Nat.pow_zero, Nat.div_one, Nat.add_zero]
  | m + 1, k, x, y => by
    have ih := pth_div m k (x / 2) (y / 2)
    rw [Nat.pow_succ, Nat.mul_comm, ← Nat.div_div_eq_div_mul]
    show (4 * pth (k + m) (x / 2) (y / 2) + 2 * (y % 2) + x % 2) / 4 / 4 ^ m = _
    rw [show (4 * pth (k + m) (x / 2) (y / 2) + 2 * (y % 2) + x % 2) / 4 = pth (k + m) (x / 2) (y / 2) by omega, ih, Nat.div_div_eq_div_mul, Nat.div_div_eq_div_mul, Nat.pow_succ, Nat.mul_comm 2]
theorem xof_div : ∀ m k p, xof (k + m) p / 2 ^ m = xof k (p / 4 ^ m)
  | 0, k, p => by simp only [Nat.pow_zero, Nat.div_one, Nat.add_zero]
  | m + 1, k, p => by
    have ih := xof_div m k (p / 4)
    rw [Nat.pow_succ, Nat.mul_comm, ← Nat.div_div_eq_div_mul]
    show (2 * xof (k + m) (p / 4) + p % 2) / 2 / 2 ^ m = _
    rw [show (2 * xof (k + m) (p / 4) + p % 2) / 2 = xof (k + m) (p / 4) by omega, ih, Nat.div_div_eq_div_mul, Nat.pow_succ, Nat.mul_comm 4]
theorem yof_div : ∀ m k p, yof (k + m) p / 2 ^ m = yof k (p / 4 ^ m)
  | 0, k, p => by simp only [Nat.pow_zero, Nat.div_one, Nat.add_zero]
  | m + 1, k, p => by
    have ih := yof_div m k (p / 4)
    rw [Nat.pow_succ, Nat.mul_comm, ← Nat.div_div_eq_div_mul]
    show (2 * yof (k + m) (p / 4) + p / 2 % 2) / 2 / 2 ^ m = _
    rw [show (2 * yof (k + m) (p / 4) + p / 2 % 2) / 2 = yof (k + m) (p / 4) by omega, ih, Nat.div_div_eq_div_mul, Nat.pow_succ, Nat.mul_comm 4]
theorem tl_add {d p : Nat} (hd : d ≤ 6) : tl d p = 4 ^ d + p / 4 ^ (6 - d) := by
  have e : (4 : Nat) ^ d * 4 ^ (6 - d) = 4096 := by
    rw [← Nat.pow_add, show d + (6 - d) = 6 by omega]
  have h0 : 0 < (4 : Nat) ^ (6 - d) := Nat.pow_pos (by decide)
  rw [tl, ← e, Nat.add_comm, Nat.add_mul_div_right _ _ h0, Nat.add_comm]
/-- the place of a tile's square lies in the tile -/
theorem in_tl {d t x y : Nat} (ht : tv d t) (h1 : xof 6 (fo d t) ≤ x) (h2 : x < xof 6 (fo d t) + 2 ^ (6 - d)) (h3 : yof 6 (fo d t) ≤ y) (h4 : y < yof 6 (fo d t) + 2 ^ (6 - d)) : tl d (pth 6 x y) = t := by
  have hd := ht.1
  have h0 : 0 < (2 : Nat) ^ (6 - d) := Nat.pow_pos (by decide)
  have e1 := pth_div (6 - d) d x y
  rw [show d + (6 - d) = 6 by omega] at e1
  rw [xfo ht] at h1 h2
  rw [yfo ht] at h3 h4
  have ex : x / 2 ^ (6 - d) = xof d t := by
    rw [Nat.div_eq_iff h0, Nat.mul_comm]
    omega
  have ey : y / 2 ^ (6 - d) = yof d t := by
    rw [Nat.div_eq_iff h0, Nat.mul_comm]
    omega
  have h5 := ht.2.1
  have h6 := ht.2.2
  have px := xof_per d (t - 4 ^ d)
  have py := yof_per d (t - 4 ^ d)
  rw [show t - 4 ^ d + 4 ^ d = t by omega] at px py
  rw [tl_add hd, e1, ex, ey, px, py, pth_xy d (t - 4 ^ d) (by omega)]
  omega
/-- a leaf around any of its places -/
theorem leaf_at {A : AS} (hA : AV A) {d t p : Nat} (ht : tv d t) (hT : TH A d t) (hs : spb A d t = false) (h : tl d p = t) : ld A p = d := by
  refine ld_uniq hA (fun e he => ?_) (by rw [h]; exact hs)
  rw [tl_same (p := p) (p2 := fo d t) (show e ≤ d by omega) ht.1 (by rw [h, fo_tl ht])]
  exact hT e he
theorem kid_x0 {d t i : Nat} (h : tv d t) (hd : d < 6) (hi : i < 4) (e : i % 2 = 0) : xof 6 (fo (d + 1) (4 * t + i)) = xof 6 (fo d t) := by rw [kid_x h hd hi, e, Nat.zero_mul, Nat.add_zero]
theorem kid_x1 {d t i : Nat} (h : tv d t) (hd : d < 6) (hi : i < 4) (e : i % 2 = 1) : xof 6 (fo (d + 1) (4 * t + i)) = xof 6 (fo d t) + 2 ^ (6 - (d + 1)) := by rw [kid_x h hd hi, e, Nat.one_mul]
theorem kid_y0 {d t i : Nat} (h : tv d t) (hd : d < 6) (hi : i < 4) (e : i / 2 = 0) : yof 6 (fo (d + 1) (4 * t + i)) = yof 6 (fo d t) := by rw [kid_y h hd hi, e, Nat.zero_mul, Nat.add_zero]
theorem kid_y1 {d t i : Nat} (h : tv d t) (hd : d < 6) (hi : i < 4) (e : i / 2 = 1) : yof 6 (fo (d + 1) (4 * t + i)) = yof 6 (fo d t) + 2 ^ (6 - (d + 1)) := by rw [kid_y h hd hi, e, Nat.one_mul]
theorem two_sz {d : Nat} (hd : d < 6) : 2 ^ (6 - d) = 2 * 2 ^ (6 - (d + 1)) := by
  rw [show 6 - d = 6 - (d + 1) + 1 by omega, Nat.pow_succ, Nat.mul_comm]
/-- the quarters that reach the side from which a tile is seen -/
def qO (s : Nat) : Nat := match s with
  | 0 => 0
  | 1 => 0
  | 2 => 1
  | _ => 2
def qU (s : Nat) : Nat := match s with
  | 0 => 2
  | 1 => 1
  | 2 => 3
  | _ => 3
theorem st_v : ∀ s, s < 4 → (rd 4 stO (nI s) = some (nI (qO s)) ∧ rd 4 stU (nI s) = some (nI (qU s))) ∧ qO s < 4 ∧ qU s < 4 := by decide +kernel
def exx (s d t : Nat) : Nat := xof 6 (fo d t) + cond (Nat.beq s 2) (2 ^ (6 - d) - 1) 0
def eyy (s d t : Nat) : Nat := yof 6 (fo d t) + cond (Nat.beq s 3) (2 ^ (6 - d) - 1) 0
def gxx (s z : Nat) : Nat := cond (Nat.beq (s % 2) 1) z 0
def gyy (s z : Nat) : Nat := cond (Nat.beq (s % 2) 1) 0 z
theorem co4 {s : Nat} (h : s < 4) : s = 0 ∨ s = 1 ∨ s = 2 ∨ s = 3 := by omega
theorem ex_f {s d t : Nat} (h : Nat.beq s 2 = false) : exx s d t = xof 6 (fo d t) := by
  rw [exx, h, cond_false, Nat.add_zero]
theorem ex_2 (d t : Nat) : exx 2 d t = xof 6 (fo d t) + (2 ^ (6 - d) - 1) := by
  rw [exx, show Nat.beq 2 2 = true from rfl, cond_true]
theorem ey_f {s d t : Nat} (h : Nat.beq s 3 = false) : eyy s d t = yof 6 (fo d t) := by
  rw [eyy, h, cond_false, Nat.add_zero]
theorem ey_3 (d t : Nat) : eyy 3 d t = yof 6 (fo d t) + (2 ^ (6 - d) - 1) := by
  rw [eyy, show Nat.beq 3 3 = true from rfl, cond_true]
theorem gxx_even {s z : Nat} (h : s % 2 = 0) : gxx s z = 0 ∧ gyy s z = z := by
  unfold gxx gyy
  rw [h]
  exact ⟨rfl, rfl⟩
theorem gxx_odd {s z : Nat} (h : s % 2 = 1) : gxx s z = z ∧ gyy s z = 0 := by
  unfold gxx gyy
  rw [h]
  exact ⟨rfl, rfl⟩
theorem edge_O {s d t : Nat} (hs : s < 4) (ht : tv d t) (hd : d < 6) : exx s (d + 1) (4 * t + qO s) = exx s d t ∧ eyy s (d + 1) (4 * t + qO s) = eyy s d t := by
  have e2 := two_sz hd
  have e1 := (sz_le (d + 1)).1
  rcases co4 hs with rfl | rfl | rfl | rfl
  · rw [ex_f rfl, ey_f rfl, ex_f rfl, ey_f rfl, show qO 0 = 0 from rfl, kid_x0 ht hd (i := 0) (by decide) (by decide), kid_y0 ht hd (i := 0) (by decide) (by decide)]
    exact ⟨by omega, by omega⟩
  · rw [ex_f rfl, ey_f rfl, ex_f rfl, ey_f rfl, show qO 1 = 0 from rfl, kid_x0 ht hd (i := 0) (by decide) (by decide), kid_y0 ht hd (i := 0) (by decide) (by decide)]
    exact ⟨by omega, by omega⟩
  · rw [ex_2, ey_f rfl, ex_2, ey_f rfl, show qO 2 = 1 from rfl, kid_x1 ht hd (i := 1) (by decide) (by decide), kid_y0 ht hd (i := 1) (by decide) (by decide)]
    exact ⟨by omega, by omega⟩
  · rw [ex_f rfl, ey_3, ex_f rfl, ey_3, show qO 3 = 2 from rfl, kid_x0 ht hd (i := 2) (by decide) (by decide), kid_y1 ht hd (i := 2) (by decide) (by decide)]
    exact ⟨by omega, by omega⟩
theorem edge_U {s d t : Nat} (hs : s < 4) (ht : tv d t) (hd : d < 6) : exx s (d + 1) (4 * t + qU s) = exx s d t + gxx s (2 ^ (6 - (d + 1))) ∧ eyy s (d + 1) (4 * t + qU s) = eyy s d t + gyy s (2 ^ (6 - (d + 1))) := by
  have e2 := two_sz hd
  have e1 := (sz_le (d + 1)).1
  rcases co4 hs with rfl | rfl | rfl | rfl
  · rw [ex_f rfl, ey_f rfl, ex_f rfl, ey_f rfl, show qU 0 = 2 from rfl, kid_x0 ht hd (i := 2) (by decide) (by decide), kid_y1 ht hd (i := 2) (by decide) (by decide), (gxx_even rfl).1, (gxx_even rfl).2]
    exact ⟨by omega, by omega⟩
  · rw [ex_f rfl, ey_f rfl, ex_f rfl, ey_f rfl, show qU 1 = 1 from rfl, kid_x1 ht hd (i := 1) (by decide) (by decide), kid_y0 ht hd (i := 1) (by decide) (by decide), (gxx_odd rfl).1, (gxx_odd rfl).2]
    exact ⟨by omega, by omega⟩
  · rw [ex_2, ey_f rfl, ex_2, ey_f rfl, show qU 2 = 3 from rfl, kid_x1 ht hd (i := 3) (by decide) (by decide), kid_y1 ht hd (i := 3) (by decide) (by decide), (gxx_even rfl).1, (gxx_even rfl).2]
    exact ⟨by omega, by omega⟩
  · rw [ex_f rfl, ey_3, ex_f rfl, ey_3, show qU 3 = 3 from rfl, kid_x1 ht hd (i := 3) (by decide) (by decide), kid_y1 ht hd (i := 3) (by decide) (by decide), (gxx_odd rfl).1, (gxx_odd rfl).2]
    exact ⟨by omega, by omega⟩
theorem tile_in {d t : Nat} (ht : tv d t) : xof 6 (fo d t) + 2 ^ (6 - d) ≤ 64 ∧ yof 6 (fo d t) + 2 ^ (6 - d) ≤ 64 := by
  have hd := ht.1
  have h5 := ht.2.1
  have h6 := ht.2.2
  have e : (2 : Nat) ^ (6 - d) * 2 ^ d = 64 := by
    rw [← Nat.pow_add, show 6 - d + d = 6 by omega]
  have a := Nat.mul_le_mul_left (2 ^ (6 - d)) (show xof d t + 1 ≤ 2 ^ d from xof_lt d t)
  have b := Nat.mul_le_mul_left (2 ^ (6 - d)) (show yof d t + 1 ≤ 2 ^ d from yof_lt d t)
  rw [e, Nat.mul_add, Nat.mul_one] at a b
  rw [xfo ht, yfo ht]
  exact ⟨a, b⟩
/-- where an edge begins lies in its tile -/
theorem edge_in {s d t : Nat} (ht : tv d t) : exx s d t < 64 ∧ eyy s d t < 64 ∧ tl d (pth 6 (exx s d t) (eyy s d t)) = t := by
  have e1 := (sz_le d).1
  have e2 := tile_in ht
  have hx : xof 6 (fo d t) ≤ exx s d t ∧ exx s d t < xof 6 (fo d t) + 2 ^ (6 - d) := by
    unfold exx
    cases Nat.beq s 2 with
    | true => rw [cond_true]; omega
    | false => rw [cond_false]; omega
  have hy : yof 6 (fo d t) ≤ eyy s d t ∧ eyy s d t < yof 6 (fo d t) + 2 ^ (6 - d) := by
    unfold eyy
    cases Nat.beq s 3 with
    | true => rw [cond_true]; omega
    | false => rw [cond_false]; omega
  exact ⟨by omega, by omega, in_tl ht hx.1 hx.2 hy.1 hy.2⟩
