/-! the tile beside a tile, across a side; where the reference begins to go along that side -/
theorem notPlace {x y : Int32} (h : ∀ a b : Nat, a < 64 → b < 64 → x = nI a → y = nI b → False) : fX1_isPlace x y = some 0 ∧ fX8_isPlace x y = some 0 := by
  rcases isPlace_any x y with ⟨a, b, ha, hb, e1, e2, _, _⟩ | h2
  · exact absurd (h a b ha hb e1 e2) id
  · exact h2
theorem neg_no {x : Int32} (h : x.toInt < 0) {a : Nat} (ha : a < 64) : ¬ x = nI a := by
  intro e
  rw [e, nI_toInt (by omega)] at h
  omega
theorem big_no {x a : Nat} (h : 64 ≤ x) (hx : x < 2 ^ 31) (ha : a < 64) : ¬ nI x = nI a := by
  intro e
  have := (nI_eq hx (by omega)).mp e
  omega
theorem place_next {d x y : Nat} (hd : d ≤ 6) (hx : x < 64) (hy : y < 64) : ((fX1_isPlace (nI x) (nI y)).bind fun r_8 => if r_8 = 0 then some (-6) else (fX1_placeAt (nI x) (nI y)).bind fun r_10 => (fX1_upTo r_10 6 (nI d)).bind fun r_11 => some r_11) = some (nI (tl d (pth 6 x y))) := by
  rw [isPlace1_in hx hy, Option.bind_some, if_neg (show ¬ (1:Int32) = 0 by decide), placeAt_all x hx y hy, Option.bind_some, upTo_p hd (pth_lt 6 x y), Option.bind_some]
theorem corner {d x y k j : Nat} (hd : d ≤ 6) (hx : x < 64) (hy : y < 64) (ex : x = 2 ^ (6 - d) * k) (ey : y = 2 ^ (6 - d) * j) : tv d (tl d (pth 6 x y)) ∧ xof 6 (fo d (tl d (pth 6 x y))) = x ∧ yof 6 (fo d (tl d (pth 6 x y))) = y := by
  have h0 : 0 < (2 : Nat) ^ (6 - d) := Nat.pow_pos (by decide)
  have hp := pth_lt 6 x y
  have ht := tl_tv hd hp
  have px := xof_div (6 - d) d (pth 6 x y)
  have py := yof_div (6 - d) d (pth 6 x y)
  rw [show d + (6 - d) = 6 by omega] at px py
  refine ⟨ht, ?_, ?_⟩
  · rw [xfo ht, tl_add hd, Nat.add_comm, xof_per, ← px, xof_pth 6 x y hx, ex, Nat.mul_div_cancel_left _ h0]
  · rw [yfo ht, tl_add hd, Nat.add_comm, yof_per, ← py, yof_pth 6 x y hy, ey, Nat.mul_div_cancel_left _ h0]
/-- the tile across a side: right, up, left, down -/
def nxt (s d t : Nat) : Option Nat := if s = 0 then (if xof 6 (fo d t) + 2 ^ (6 - d) < 64 then some (tl d (pth 6 (xof 6 (fo d t) + 2 ^ (6 - d)) (yof 6 (fo d t)))) else none) else if s = 1 then (if yof 6 (fo d t) + 2 ^ (6 - d) < 64 then some (tl d (pth 6 (xof 6 (fo d t)) (yof 6 (fo d t) + 2 ^ (6 - d)))) else none) else if s = 2 then (if 2 ^ (6 - d) ≤ xof 6 (fo d t) then some (tl d (pth 6 (xof 6 (fo d t) - 2 ^ (6 - d)) (yof 6 (fo d t)))) else none) else (if 2 ^ (6 - d) ≤ yof 6 (fo d t) then some (tl d (pth 6 (xof 6 (fo d t)) (yof 6 (fo d t) - 2 ^ (6 - d)))) else none)
theorem nxt_0 (d t : Nat) : nxt 0 d t = if xof 6 (fo d t) + 2 ^ (6 - d) < 64 then some (tl d (pth 6 (xof 6 (fo d t) + 2 ^ (6 - d)) (yof 6 (fo d t)))) else none := by rw [nxt, if_pos rfl]
theorem nxt_1 (d t : Nat) : nxt 1 d t = if yof 6 (fo d t) + 2 ^ (6 - d) < 64 then some (tl d (pth 6 (xof 6 (fo d t)) (yof 6 (fo d t) + 2 ^ (6 - d)))) else none := by rw [nxt, if_neg (by decide), if_pos rfl]
theorem nxt_2 (d t : Nat) : nxt 2 d t = if 2 ^ (6 - d) ≤ xof 6 (fo d t) then some (tl d (pth 6 (xof 6 (fo d t) - 2 ^ (6 - d)) (yof 6 (fo d t)))) else none := by rw [nxt, if_neg (by decide), if_neg (by decide), if_pos rfl]
theorem nxt_3 (d t : Nat) : nxt 3 d t = if 2 ^ (6 - d) ≤ yof 6 (fo d t) then some (tl d (pth 6 (xof 6 (fo d t)) (yof 6 (fo d t) - 2 ^ (6 - d)))) else none := by rw [nxt, if_neg (by decide), if_neg (by decide), if_neg (by decide)]
theorem mul_pred {z k : Nat} : z * k - z = z * (k - 1) := by
  rw [Nat.mul_sub, Nat.mul_one]
theorem nxt_spec {s d t n : Nat} (hs : s < 4) (ht : tv d t) (h : nxt s d t = some n) : tv d n ∧ (s = 0 ∧ xof 6 (fo d n) = xof 6 (fo d t) + 2 ^ (6 - d) ∧ yof 6 (fo d n) = yof 6 (fo d t) ∨ s = 1 ∧ xof 6 (fo d n) = xof 6 (fo d t) ∧ yof 6 (fo d n) = yof 6 (fo d t) + 2 ^ (6 - d) ∨ s = 2 ∧ xof 6 (fo d n) + 2 ^ (6 - d) = xof 6 (fo d t) ∧ yof 6 (fo d n) = yof 6 (fo d t) ∨ s = 3 ∧ xof 6 (fo d n) = xof 6 (fo d t) ∧ yof 6 (fo d n) + 2 ^ (6 - d) = yof 6 (fo d t)) := by
  have hd := ht.1
  have hx := xof_lt 6 (fo d t)
  have hy := yof_lt 6 (fo d t)
  have e64 : (2 : Nat) ^ 6 = 64 := by decide
  have kx := xfo ht
  have ky := yfo ht
  rcases co4 hs with rfl | rfl | rfl | rfl
  · by_cases h1 : xof 6 (fo d t) + 2 ^ (6 - d) < 64
    · rw [nxt_0, if_pos h1] at h
      have h := Option.some.inj h
      subst h
      obtain ⟨c1, c2, c3⟩ := corner (k := xof d t + 1) (j := yof d t) hd h1 (by omega) (by rw [kx, Nat.mul_add, Nat.mul_one]) ky
      exact ⟨c1, Or.inl ⟨rfl, c2, c3⟩⟩
    · rw [nxt_0, if_neg h1] at h
      cases h
  · by_cases h1 : yof 6 (fo d t) + 2 ^ (6 - d) < 64
    · rw [nxt_1, if_pos h1] at h
      have h := Option.some.inj h
      subst h
      obtain ⟨c1, c2, c3⟩ := corner (k := xof d t) (j := yof d t + 1) hd (show xof 6 (fo d t) < 64 by omega) h1 kx (by rw [ky, Nat.mul_add, Nat.mul_one])
      exact ⟨c1, Or.inr (Or.inl ⟨rfl, c2, c3⟩)⟩
    · rw [nxt_1, if_neg h1] at h
      cases h
  · by_cases h1 : 2 ^ (6 - d) ≤ xof 6 (fo d t)
    · rw [nxt_2, if_pos h1] at h
      have h := Option.some.inj h
      subst h
      obtain ⟨c1, c2, c3⟩ := corner (x := xof 6 (fo d t) - 2 ^ (6 - d)) (k := xof d t - 1) (j := yof d t) hd (Nat.lt_of_le_of_lt (Nat.sub_le _ _) (show xof 6 (fo d t) < 64 by omega)) (show yof 6 (fo d t) < 64 by omega) (by rw [kx]; exact mul_pred) ky
      exact ⟨c1, Or.inr (Or.inr (Or.inl ⟨rfl, by omega, c3⟩))⟩
    · rw [nxt_2, if_neg h1] at h
      cases h
  · by_cases h1 : 2 ^ (6 - d) ≤ yof 6 (fo d t)
    · rw [nxt_3, if_pos h1] at h
      have h := Option.some.inj h
      subst h
      obtain ⟨c1, c2, c3⟩ := corner (y := yof 6 (fo d t) - 2 ^ (6 - d)) (k := xof d t) (j := yof d t - 1) hd (show xof 6 (fo d t) < 64 by omega) (Nat.lt_of_le_of_lt (Nat.sub_le _ _) (show yof 6 (fo d t) < 64 by omega)) kx (by rw [ky]; exact mul_pred)
      exact ⟨c1, Or.inr (Or.inr (Or.inr ⟨rfl, c2, by omega⟩))⟩
    · rw [nxt_3, if_neg h1] at h
      cases h
theorem mul_0 (a b : Int32) : a + b * 0 = a := by rw [Int32.mul_zero, Int32.add_zero]
theorem mul_1 (a b : Nat) : nI a + nI b * 1 = nI (a + b) := by rw [Int32.mul_one, nI_add]
theorem mul_m1 (a b : Nat) : nI a + nI b * (-1) = nI a - nI b := by rw [Int32.mul_neg, Int32.mul_one, ← Int32.sub_eq_add_neg]
theorem first_or {d t : Nat} (ht : tv d t) : (¬ 2 ^ (6 - d) ≤ xof 6 (fo d t) → xof 6 (fo d t) = 0) ∧ (¬ 2 ^ (6 - d) ≤ yof 6 (fo d t) → yof 6 (fo d t) = 0) := by
  have h0 : 0 < (2 : Nat) ^ (6 - d) := Nat.pow_pos (by decide)
  rw [xfo ht, yfo ht]
  refine ⟨fun h => ?_, fun h => ?_⟩
  · cases hk : xof d t with
    | zero => exact Nat.mul_zero _
    | succ k =>
      rw [hk, Nat.mul_add, Nat.mul_one] at h
      omega
  · cases hk : yof d t with
    | zero => exact Nat.mul_zero _
    | succ k =>
      rw [hk, Nat.mul_add, Nat.mul_one] at h
      omega
theorem no_walk {M : FS} {y2 y3 : Int32} {z : Nat} {X Y : Int32} (hz : 1 ≤ z) (hz2 : z ≤ 64) (h : fX8_isPlace X Y = some 0) : fX8_meets_L80 y2 y3 (nI z) 6000 M X Y 0 = some M := by
  rw [fX8_meets_L80, if_neg (show ¬ nI z ≤ (0:Int32) from nI_nle hz (by omega)), h, Option.bind_some, if_pos rfl]
set_option maxRecDepth 20000 in
theorem side_no {s d t : Nat} (hs : s < 4) (ht : tv d t) (h : nxt s d t = none) : fX1_nextTo (nI t) (nI d) (nI (2 * s)) = some (-6) ∧ ∀ M : FS, fX8_meets M (nI t) (nI s) = some M := by
  have hd := ht.1
  have hx := xof_lt 6 (fo d t)
  have hy := yof_lt 6 (fo d t)
  have hz := sz_le d
  have e64 : (2 : Nat) ^ 6 = 64 := by decide
  have hf := fo_lt ht
  have fs := first_or ht
  have st : ∀ M : FS, fX8_meets M (nI t) (nI s) = if nI s = 0 then fX8_meets_L49 M (nI t) (nI s) (nI (2 ^ (6 - d))) (nI (yof 6 (fo d t))) (nI (2 ^ (6 - d))) (nI (xof 6 (fo d t))) else if nI s = 2 then fX8_meets_L49 M (nI t) (nI s) (nI (2 ^ (6 - d))) (nI (yof 6 (fo d t))) (-1) (nI (xof 6 (fo d t))) else fX8_meets_L49 M (nI t) (nI s) (nI (2 ^ (6 - d))) (nI (yof 6 (fo d t))) 0 (nI (xof 6 (fo d t))) := by
    intro M
    rw [fX8_meets, firstOf_v ht, Option.bind_some, sizeOf_v ht, Option.bind_some, coord0_all _ hf, Option.bind_some, coord1_all _ hf, Option.bind_some]
  generalize hX : xof 6 (fo d t) = X at *
  generalize hY : yof 6 (fo d t) = Y at *
  generalize hZ : 2 ^ (6 - d) = z at *
  have nt : ∀ (u v : Int32), fX8_across (nI (2 * s)) = some u → fX8_along (nI (2 * s)) = some v → fX1_isPlace (nI X + nI z * u) (nI Y + nI z * v) = some 0 → fX1_nextTo (nI t) (nI d) (nI (2 * s)) = some (-6) := by
    intro u v eu ev e
    rw [nextTo_v ht (show 2 * s < 8 by omega) eu ev, hX, hY, hZ, e]
    rfl
  rcases co4 hs with rfl | rfl | rfl | rfl
  · have h1 : ¬ X + z < 64 := by
      intro h1
      rw [nxt_0, hX, hZ, if_pos h1] at h
      cases h
    have np := notPlace (x := nI (X + z)) (y := nI Y) (fun a b ha hb e1 e2 => big_no (by omega) (by omega) ha e1)
    refine ⟨nt 1 0 (by decide) (by decide) (by rw [mul_1, mul_0]; exact np.1), fun M => ?_⟩
    rw [st, if_pos (show nI 0 = 0 from rfl), fX8_meets_L49, if_neg (by decide), if_neg (by decide), nI_add, Int32.add_zero]
    exact no_walk hz.1 hz.2 np.2
  · have h1 : ¬ Y + z < 64 := by
      intro h1
      rw [nxt_1, hY, hZ, if_pos h1] at h
      cases h
    have np := notPlace (x := nI X) (y := nI (Y + z)) (fun a b ha hb e1 e2 => big_no (by omega) (by omega) hb e2)
    refine ⟨nt 0 1 (by decide) (by decide) (by rw [mul_1, mul_0]; exact np.1), fun M => ?_⟩
    rw [st, if_neg (by decide), if_neg (by decide), fX8_meets_L49, if_pos (by decide), nI_add, Int32.add_zero]
    exact no_walk hz.1 hz.2 np.2
  · have h1 : ¬ z ≤ X := by
      intro h1
      rw [nxt_2, hX, hZ, if_pos h1] at h
      cases h
    have hX0 := fs.1 h1
    subst hX0
    refine ⟨nt (-1) 0 (by decide) (by decide) (by
      rw [mul_m1, mul_0]
      exact (notPlace fun a b ha hb e1 e2 => neg_no (by rw [pk_sub_toInt (by omega) (by omega)]; omega) ha e1).1), fun M => ?_⟩
    rw [st, if_neg (by decide), if_pos (by decide), fX8_meets_L49, if_neg (by decide), if_neg (by decide), Int32.add_zero]
    exact no_walk hz.1 hz.2 (notPlace fun a b ha hb e1 e2 => neg_no (show (nI 0 + (-1)).toInt < 0 by decide) ha e1).2
  · have h1 : ¬ z ≤ Y := by
      intro h1
      rw [nxt_3, hY, hZ, if_pos h1] at h
      cases h
    have hY0 := fs.2 h1
    subst hY0
    refine ⟨nt 0 (-1) (by decide) (by decide) (by
      rw [mul_m1, mul_0]
      exact (notPlace fun a b ha hb e1 e2 => neg_no (by rw [pk_sub_toInt (by omega) (by omega)]; omega) hb e2).1), fun M => ?_⟩
    rw [st, if_neg (by decide), if_neg (by decide), fX8_meets_L49, if_neg (by decide), if_pos (by decide), Int32.add_zero]
    exact no_walk hz.1 hz.2 (notPlace fun a b ha hb e1 e2 => neg_no (show (nI 0 + (-1)).toInt < 0 by decide) hb e2).2
set_option maxRecDepth 20000 in
theorem side_some {s d t n : Nat} (hs : s < 4) (ht : tv d t) (h : nxt s d t = some n) : fX1_nextTo (nI t) (nI d) (nI (2 * s)) = some (nI n) ∧ ∀ M : FS, fX8_meets M (nI t) (nI s) = fX8_meets_L80 (nI t) (nI s) (nI (2 ^ (6 - d))) 6000 M (nI (exx s d n)) (nI (eyy s d n)) 0 := by
  have hd := ht.1
  have hx := xof_lt 6 (fo d t)
  have hy := yof_lt 6 (fo d t)
  have hz := sz_le d
  have e64 : (2 : Nat) ^ 6 = 64 := by decide
  have hf := fo_lt ht
  have sp := (nxt_spec hs ht h).2
  have st : ∀ M : FS, fX8_meets M (nI t) (nI s) = if nI s = 0 then fX8_meets_L49 M (nI t) (nI s) (nI (2 ^ (6 - d))) (nI (yof 6 (fo d t))) (nI (2 ^ (6 - d))) (nI (xof 6 (fo d t))) else if nI s = 2 then fX8_meets_L49 M (nI t) (nI s) (nI (2 ^ (6 - d))) (nI (yof 6 (fo d t))) (-1) (nI (xof 6 (fo d t))) else fX8_meets_L49 M (nI t) (nI s) (nI (2 ^ (6 - d))) (nI (yof 6 (fo d t))) 0 (nI (xof 6 (fo d t))) := by
    intro M
    rw [fX8_meets, firstOf_v ht, Option.bind_some, sizeOf_v ht, Option.bind_some, coord0_all _ hf, Option.bind_some, coord1_all _ hf, Option.bind_some]
  have nt : ∀ (u v : Int32) (x y : Nat), fX8_across (nI (2 * s)) = some u → fX8_along (nI (2 * s)) = some v → x < 64 → y < 64 → nI (xof 6 (fo d t)) + nI (2 ^ (6 - d)) * u = nI x → nI (yof 6 (fo d t)) + nI (2 ^ (6 - d)) * v = nI y → tl d (pth 6 x y) = n → fX1_nextTo (nI t) (nI d) (nI (2 * s)) = some (nI n) := by
    intro u v x y eu ev h1 h2 h3 h4 h5
    rw [nextTo_v ht (show 2 * s < 8 by omega) eu ev, h3, h4, place_next hd h1 h2, h5]
  rcases co4 hs with rfl | rfl | rfl | rfl
  · by_cases h1 : xof 6 (fo d t) + 2 ^ (6 - d) < 64
    · rw [nxt_0, if_pos h1] at h
      refine ⟨nt 1 0 _ _ (by decide) (by decide) h1 (show yof 6 (fo d t) < 64 by omega) (mul_1 _ _) (mul_0 _ _) (Option.some.inj h), fun M => ?_⟩
      have ex : exx 0 d n = xof 6 (fo d t) + 2 ^ (6 - d) := by rw [ex_f rfl]; omega
      have ey : eyy 0 d n = yof 6 (fo d t) := by rw [ey_f rfl]; omega
      rw [st, if_pos (show nI 0 = 0 from rfl), fX8_meets_L49, if_neg (by decide), if_neg (by decide), nI_add, Int32.add_zero, ex, ey]
    · rw [nxt_0, if_neg h1] at h
      cases h
  · by_cases h1 : yof 6 (fo d t) + 2 ^ (6 - d) < 64
    · rw [nxt_1, if_pos h1] at h
      refine ⟨nt 0 1 _ _ (by decide) (by decide) (show xof 6 (fo d t) < 64 by omega) h1 (mul_0 _ _) (mul_1 _ _) (Option.some.inj h), fun M => ?_⟩
      have ex : exx 1 d n = xof 6 (fo d t) := by rw [ex_f rfl]; omega
      have ey : eyy 1 d n = yof 6 (fo d t) + 2 ^ (6 - d) := by rw [ey_f rfl]; omega
      rw [st, if_neg (by decide), if_neg (by decide), fX8_meets_L49, if_pos (by decide), nI_add, Int32.add_zero, ex, ey]
    · rw [nxt_1, if_neg h1] at h
      cases h
  · by_cases h1 : 2 ^ (6 - d) ≤ xof 6 (fo d t)
    · rw [nxt_2, if_pos h1] at h
      refine ⟨nt (-1) 0 (xof 6 (fo d t) - 2 ^ (6 - d)) _ (by decide) (by decide) (by omega) (show yof 6 (fo d t) < 64 by omega) (by rw [mul_m1, nI_sub h1]) (mul_0 _ _) (Option.some.inj h), fun M => ?_⟩
      have ex : exx 2 d n + 1 = xof 6 (fo d t) := by rw [ex_2]; omega
      have ey : eyy 2 d n = yof 6 (fo d t) := by rw [ey_f rfl]; omega
      rw [st, if_neg (by decide), if_pos (by decide), fX8_meets_L49, if_neg (by decide), if_neg (by decide), Int32.add_zero, ← ex, pk_m1, ey]
    · rw [nxt_2, if_neg h1] at h
      cases h
  · by_cases h1 : 2 ^ (6 - d) ≤ yof 6 (fo d t)
    · rw [nxt_3, if_pos h1] at h
      refine ⟨nt 0 (-1) _ (yof 6 (fo d t) - 2 ^ (6 - d)) (by decide) (by decide) (show xof 6 (fo d t) < 64 by omega) (by omega) (mul_0 _ _) (by rw [mul_m1, nI_sub h1]) (Option.some.inj h), fun M => ?_⟩
      have ex : exx 3 d n = xof 6 (fo d t) := by rw [ex_f rfl]; omega
      have ey : eyy 3 d n + 1 = yof 6 (fo d t) := by rw [ey_3]; omega
      rw [st, if_neg (by decide), if_neg (by decide), fX8_meets_L49, if_neg (by decide), if_pos (by decide), Int32.add_zero, ← ey, pk_m1, ex]
    · rw [nxt_3, if_neg h1] at h
      cases h
