/-! tiles that meet a window -/
def mtb (a b c e d t : Nat) : Bool := (Nat.ble (xof 6 (fo d t)) c && Nat.blt a (xof 6 (fo d t) + 2 ^ (6 - d))) && (Nat.ble (yof 6 (fo d t)) e && Nat.blt b (yof 6 (fo d t) + 2 ^ (6 - d)))
theorem sz_le (d : Nat) : 1 ≤ 2 ^ (6 - d) ∧ 2 ^ (6 - d) ≤ 64 := ⟨Nat.one_le_pow _ _ (by decide), Nat.le_trans (Nat.pow_le_pow_right (by decide) (show 6 - d ≤ 6 by omega)) (by decide)⟩
theorem meets5_v {a b c e d t : Nat} (ha : a < 64) (hb : b < 64) (hc : c < 64) (he : e < 64) (ht : tv d t) : fX6_meets (w4 (nI a) (nI b) (nI c) (nI e)) (nI t) (nI d) = some (bi (mtb a b c e d t)) := by
  have hx := xof_lt 6 (fo d t)
  have hy := yof_lt 6 (fo d t)
  have hs := sz_le d
  have e64 : (2 : Nat) ^ 6 = 64 := by decide
  rw [fX6_meets, leastX_v ht, Option.bind_some, leastY_v ht, Option.bind_some, sizeAt_v ht.1, Option.bind_some, mtb]
  show (if nI c < nI (xof 6 (fo d t)) then bz 0 else if nI (xof 6 (fo d t)) + nI (2 ^ (6 - d)) ≤ nI a then bz 0 else if nI e < nI (yof 6 (fo d t)) then bz 0 else if nI (yof 6 (fo d t)) + nI (2 ^ (6 - d)) ≤ nI b then bz 0 else bz 1) = _
  rw [nI_add, nI_add, bz0, bz1]
  generalize xof 6 (fo d t) = x at hx
  generalize yof 6 (fo d t) = y at hy
  generalize 2 ^ (6 - d) = s at hs
  by_cases h1 : x ≤ c
  · rw [if_neg (nI_nlt h1 (by omega)), Nat.ble_eq_true_of_le h1, Bool.true_and]
    by_cases h2 : a < x + s
    · rw [if_neg (nI_ge h2 (by omega)), blt_t h2, Bool.true_and]
      by_cases h3 : y ≤ e
      · rw [if_neg (nI_nlt h3 (by omega)), Nat.ble_eq_true_of_le h3, Bool.true_and]
        by_cases h4 : b < y + s
        · rw [if_neg (nI_ge h4 (by omega)), blt_t h4]
          rfl
        · rw [if_pos (nI_le (Nat.not_lt.mp h4) (by omega)), blt_f h4]
          rfl
      · rw [if_pos (nI_lt (Nat.not_le.mp h3) (by omega)), ble_f h3]
        rfl
    · rw [if_pos (nI_le (Nat.not_lt.mp h2) (by omega)), blt_f h2]
      rfl
  · rw [if_pos (nI_lt (Nat.not_le.mp h1) (by omega)), ble_f h1]
    rfl
theorem meets8_v {a b c e d t : Nat} (ha : a < 64) (hb : b < 64) (hc : c < 64) (he : e < 64) (ht : tv d t) : fX8_meetsWindow (nI t) (nI a) (nI b) (nI c) (nI e) = some (bi (mtb a b c e d t)) := by
  have hx := xof_lt 6 (fo d t)
  have hy := yof_lt 6 (fo d t)
  have hs := sz_le d
  have e64 : (2 : Nat) ^ 6 = 64 := by decide
  have hf := fo_lt ht
  rw [fX8_meetsWindow, firstOf_v ht, Option.bind_some, coord0_all _ hf, Option.bind_some, coord1_all _ hf, Option.bind_some, sizeOf_v ht, Option.bind_some, mtb, bz0, bz1]
  generalize xof 6 (fo d t) = x at hx
  generalize yof 6 (fo d t) = y at hy
  generalize 2 ^ (6 - d) = s at hs
  rw [show nI s - (1:Int32) = nI (s - 1) from nI_sub (a := s) (b := 1) hs.1, nI_add, nI_add]
  by_cases h1 : x ≤ c
  · rw [if_neg (nI_nlt h1 (by omega)), Nat.ble_eq_true_of_le h1, Bool.true_and]
    by_cases h2 : a < x + s
    · rw [if_neg (nI_nlt (show a ≤ x + (s - 1) by omega) (by omega)), blt_t h2, Bool.true_and]
      by_cases h3 : y ≤ e
      · rw [if_neg (nI_nlt h3 (by omega)), Nat.ble_eq_true_of_le h3, Bool.true_and]
        by_cases h4 : b < y + s
        · rw [if_neg (nI_nlt (show b ≤ y + (s - 1) by omega) (by omega)), blt_t h4]
          rfl
        · rw [if_pos (nI_lt (show y + (s - 1) < b by omega) (by omega)), blt_f h4]
          rfl
      · rw [if_pos (nI_lt (Nat.not_le.mp h3) (by omega)), ble_f h3]
        rfl
    · rw [if_pos (nI_lt (show x + (s - 1) < a by omega) (by omega)), blt_f h2]
      rfl
  · rw [if_pos (nI_lt (Nat.not_le.mp h1) (by omega)), ble_f h1]
    rfl
theorem mtb_kid {a b c e d t i : Nat} (ht : tv d t) (hd : d < 6) (hi : i < 4) (h : mtb a b c e d t = false) : mtb a b c e (d + 1) (4 * t + i) = false := by
  apply Bool.eq_false_iff.mpr
  intro hk
  have e2 : 2 ^ (6 - d) = 2 * 2 ^ (6 - (d + 1)) := by
    rw [show 6 - d = 6 - (d + 1) + 1 by omega, Nat.pow_succ, Nat.mul_comm]
  rw [mtb, kid_x ht hd hi, kid_y ht hd hi, Bool.and_eq_true, Bool.and_eq_true, Bool.and_eq_true] at hk
  obtain ⟨⟨h1, h2⟩, h3, h4⟩ := hk
  have h1 := Nat.le_of_ble_eq_true h1
  have h2 : a + 1 ≤ _ := Nat.le_of_ble_eq_true h2
  have h3 := Nat.le_of_ble_eq_true h3
  have h4 : b + 1 ≤ _ := Nat.le_of_ble_eq_true h4
  have hm1 : i % 2 * 2 ^ (6 - (d + 1)) ≤ 1 * 2 ^ (6 - (d + 1)) := Nat.mul_le_mul_right _ (by omega)
  have hm2 : i / 2 * 2 ^ (6 - (d + 1)) ≤ 1 * 2 ^ (6 - (d + 1)) := Nat.mul_le_mul_right _ (by omega)
  rw [mtb, e2, Nat.ble_eq_true_of_le (show xof 6 (fo d t) ≤ c by omega), blt_t (show a < xof 6 (fo d t) + 2 * 2 ^ (6 - (d + 1)) by omega), Nat.ble_eq_true_of_le (show yof 6 (fo d t) ≤ e by omega), blt_t (show b < yof 6 (fo d t) + 2 * 2 ^ (6 - (d + 1)) by omega)] at h
  cases h
