/-! places and numbers of tiles, on either side -/
theorem le64 {x : Int32} (h : (64:Int32) ≤ x) : (63:Int32) < x := by
  rw [Int32.le_iff_toInt_le] at h
  rw [Int32.lt_iff_toInt_lt]
  have h1 : (64:Int32).toInt = 64 := by decide
  have h2 : (63:Int32).toInt = 63 := by decide
  omega
theorem in_in {a lo hi : Nat} (h : lo ≤ a) (h2 : a ≤ hi) (h3 : hi < 2 ^ 31) : fX8_in (nI a) (nI lo) (nI hi) = some 1 := by
  rw [fX8_in, if_neg (nI_nlt h (by omega)), if_neg (nI_nlt h2 h3), bz1]
theorem in_lt {x lo hi : Int32} (h : x < lo) : fX8_in x lo hi = some 0 := by
  rw [fX8_in, if_pos h, bz0]
theorem in_gt {x lo hi : Int32} (h : hi < x) : fX8_in x lo hi = some 0 := by
  rw [fX8_in, if_pos h, bz0]
  split <;> rfl
theorem isPlace1_in {a b : Nat} (ha : a < 64) (hb : b < 64) : fX1_isPlace (nI a) (nI b) = some 1 := by
  rw [fX1_isPlace, if_neg (nI_pos (by omega)), if_neg (show ¬ (64:Int32) ≤ nI a from nI_ge (b := 64) ha (by decide)), if_neg (nI_pos (by omega)), if_neg (show ¬ (64:Int32) ≤ nI b from nI_ge (b := 64) hb (by decide)), bz1]
theorem isPlace8_in {a b : Nat} (ha : a < 64) (hb : b < 64) : fX8_isPlace (nI a) (nI b) = some 1 := by
  rw [fX8_isPlace, show fX8_in (nI a) 0 63 = some 1 from in_in (lo := 0) (hi := 63) (by omega) (by omega) (by decide), show fX8_in (nI b) 0 63 = some 1 from in_in (lo := 0) (hi := 63) (by omega) (by omega) (by decide)]
  rfl
/-- any two ints: a place, or none, and then both say so -/
theorem isPlace_any (x y : Int32) : (∃ a b : Nat, a < 64 ∧ b < 64 ∧ x = nI a ∧ y = nI b ∧ fX1_isPlace x y = some 1 ∧ fX8_isPlace x y = some 1) ∨ (fX1_isPlace x y = some 0 ∧ fX8_isPlace x y = some 0) := by
  rcases pk_ix x (n := 64) (by decide) with h | h | ⟨a, ha, rfl⟩
  · refine Or.inr ⟨by rw [fX1_isPlace, if_pos h, bz0], ?_⟩
    rw [fX8_isPlace, in_lt h]
    rfl
  · refine Or.inr ⟨?_, ?_⟩
    · rw [fX1_isPlace, bz0]
      split
      · rfl
      · rw [if_pos (show (64:Int32) ≤ x from h)]
    · rw [fX8_isPlace, in_gt (le64 h)]
      rfl
  · rcases pk_ix y (n := 64) (by decide) with h | h | ⟨b, hb, rfl⟩
    · refine Or.inr ⟨?_, ?_⟩
      · rw [fX1_isPlace, if_neg (nI_pos (by omega)), if_neg (show ¬ (64:Int32) ≤ nI a from nI_ge (b := 64) ha (by decide)), if_pos h, bz0]
      · rw [fX8_isPlace, show fX8_in (nI a) 0 63 = some 1 from in_in (lo := 0) (hi := 63) (by omega) (by omega) (by decide), in_lt h]
        rfl
    · refine Or.inr ⟨?_, ?_⟩
      · rw [fX1_isPlace, if_neg (nI_pos (by omega)), if_neg (show ¬ (64:Int32) ≤ nI a from nI_ge (b := 64) ha (by decide)), bz0]
        split
        · rfl
        · rw [if_pos (show (64:Int32) ≤ y from h)]
      · rw [fX8_isPlace, show fX8_in (nI a) 0 63 = some 1 from in_in (lo := 0) (hi := 63) (by omega) (by omega) (by decide), in_gt (le64 h)]
        rfl
    · exact Or.inl ⟨a, b, ha, hb, rfl, rfl, isPlace1_in ha hb, isPlace8_in ha hb⟩
theorem two6 {d : Nat} (hd : d ≤ 6) : (2:Int32) * ((6:Int32) - nI d) = nI (2 * (6 - d)) := by
  rw [show (6:Int32) - nI d = nI (6 - d) from nI_sub (a := 6) hd]
  exact pk_mul 2 (6 - d)
theorem tileOf_v {d p : Nat} (hd : d ≤ 6) (hp : p < 4096) : fX8_tileOf (nI p) (nI d) = some (nI (tl d p)) := by
  rw [fX8_tileOf, two6 hd, show (4096:Int32) + nI p = nI (4096 + p) from nI_add 4096 p, shrN (by omega) (by omega), pow4]
  rfl
theorem upTo_v {d e t : Nat} (hd : d ≤ e) (h : tv e t) : fX1_upTo (nI t) (nI e) (nI d) = some (nI (t / 4 ^ (e - d))) := by
  have h0 := tv_lt h
  have h1 := h.1
  rw [fX1_upTo, nI_sub hd, show (2:Int32) * nI (e - d) = nI (2 * (e - d)) from pk_mul 2 (e - d), shrN (by omega) (by omega), pow4]
theorem upTo_p {d p : Nat} (hd : d ≤ 6) (hp : p < 4096) : fX1_upTo (nI (4096 + p)) 6 (nI d) = some (nI (tl d p)) := by
  have := upTo_v (e := 6) hd (show tv 6 (4096 + p) from ⟨by omega, by omega, by omega⟩)
  exact this
/-- the least place of a tile -/
def fo (d t : Nat) : Nat := t * 4 ^ (6 - d) - 4096
theorem fo_mul {d t : Nat} (h : tv d t) : t * 4 ^ (6 - d) = 4096 + fo d t ∧ fo d t + 4 ^ (6 - d) ≤ 4096 := by
  obtain ⟨h1, h2, h3⟩ := h
  have e : (4 : Nat) ^ d * 4 ^ (6 - d) = 4096 := by
    rw [← Nat.pow_add, show d + (6 - d) = 6 by omega]
  have a := Nat.mul_le_mul_right (4 ^ (6 - d)) h2
  have b := Nat.mul_le_mul_right (4 ^ (6 - d)) (show t + 1 ≤ 2 * 4 ^ d by omega)
  rw [Nat.mul_assoc, e, Nat.add_mul] at b
  rw [e] at a
  unfold fo
  omega
theorem fo_lt {d t : Nat} (h : tv d t) : fo d t < 4096 := by
  have := (fo_mul h).2
  have : 0 < (4 : Nat) ^ (6 - d) := Nat.pow_pos (by decide)
  omega
theorem fo_tl {d t : Nat} (h : tv d t) : tl d (fo d t) = t := by
  have h0 : 0 < (4 : Nat) ^ (6 - d) := Nat.pow_pos (by decide)
  rw [tl, ← (fo_mul h).1, Nat.mul_div_cancel _ h0]
/-- the places of a tile are those from its least on -/
theorem tl_iff {d t p : Nat} (h : tv d t) (hp : p < 4096) : tl d p = t ↔ fo d t ≤ p ∧ p < fo d t + 4 ^ (6 - d) := by
  have h0 : 0 < (4 : Nat) ^ (6 - d) := Nat.pow_pos (by decide)
  have e := (fo_mul h).1
  rw [tl, Nat.div_eq_iff h0]
  generalize (4 : Nat) ^ (6 - d) = z at h0 e
  omega
theorem shl6 {d t : Nat} (h : tv d t) : nI t <<< (((2:Int32) * ((6:Int32) - nI d)) &&& 31) = nI (4096 + fo d t) := by
  have h1 := h.1
  have h2 := (fo_mul h).1
  have h3 := fo_lt h
  rw [two6 h1, shlN (by rw [pow4, h2]; omega) (by omega), pow4, h2]
theorem leastPlace_v {d t : Nat} (h : tv d t) : fX1_leastPlace (nI t) (nI d) = some (nI (4096 + fo d t)) := by
  rw [fX1_leastPlace, shl6 h]
theorem dep8_tv {d t : Nat} (h : tv d t) : fX8_depthOf (nI t) = some (nI d) := by
  rw [dep8, dep_tv h]
theorem firstOf_v {d t : Nat} (h : tv d t) : fX8_firstOf (nI t) = some (nI (fo d t)) := by
  rw [fX8_firstOf, dep8_tv h]
  show some (nI t <<< (((2:Int32) * ((6:Int32) - nI d)) &&& 31) - 4096) = _
  rw [shl6 h, show nI (4096 + fo d t) - 4096 = nI (4096 + fo d t - 4096) from nI_sub (a := 4096 + fo d t) (b := 4096) (by omega), show 4096 + fo d t - 4096 = fo d t by omega]
theorem sizeAt_v {d : Nat} (h : d ≤ 6) : fX1_sizeAt (nI d) = some (nI (2 ^ (6 - d))) := by
  rw [fX1_sizeAt, show (64:Int32) >>> (nI d &&& 31) = nI (64 / 2 ^ d) from shrN (n := 64) (by decide) (by omega), show (64 : Nat) = 2 ^ 6 by decide, Nat.pow_div h (by decide)]
theorem sizeOf_v {d t : Nat} (h : tv d t) : fX8_sizeOf (nI t) = some (nI (2 ^ (6 - d))) := by
  rw [fX8_sizeOf, dep8_tv h]
  exact sizeAt_v h.1
theorem pathsIn_v {d t : Nat} (h : tv d t) : fX8_pathsIn (nI t) = some (nI (4 ^ (6 - d))) := by
  have h1 := h.1
  rw [fX8_pathsIn, dep8_tv h]
  show some ((4096:Int32) >>> (((2:Int32) * nI d) &&& 31)) = _
  rw [show (2:Int32) * nI d = nI (2 * d) from pk_mul 2 d, show (4096:Int32) >>> (nI (2 * d) &&& 31) = nI (4096 / 2 ^ (2 * d)) from shrN (n := 4096) (by decide) (by omega), pow4, show (4096 : Nat) = 4 ^ 6 by decide, Nat.pow_div h1 (by decide)]
theorem isNumber_v {d t : Nat} (h : tv d t) : fX8_isNumber (nI t) = some 1 := by
  have h0 := tv_lt h
  have h1 := h.1
  rw [fX8_isNumber, if_neg (nI_nle (by omega) (by omega)), dep8_tv h]
  show (if nI d = -6 then bz 0 else bz 1) = _
  rw [if_neg, bz1]
  intro e
  have := congrArg Int32.toInt e
  rw [nI_toInt (by omega), show (-6:Int32).toInt = -6 by decide] at this
  omega
theorem isNumber_no {x : Int32} (h : fX1_depthOf x = some (-6)) : fX8_isNumber x = some 0 := by
  rw [fX8_isNumber, dep8, h]
  show (if x ≤ 0 then bz 0 else if (-6:Int32) = -6 then bz 0 else bz 1) = _
  rw [if_pos rfl, bz0]
  split <;> rfl
theorem ne6 {d : Nat} (h : d < 2 ^ 31) : ¬ nI d = -6 := by
  intro e
  have := congrArg Int32.toInt e
  rw [nI_toInt h, show (-6:Int32).toInt = -6 by decide] at this
  omega
