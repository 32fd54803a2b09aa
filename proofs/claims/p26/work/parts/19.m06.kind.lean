/-! corners of tiles, what is there, letters -/
theorem leastX_v {d t : Nat} (h : tv d t) : fX1_leastX (nI t) (nI d) = some (nI (xof 6 (fo d t))) := by
  rw [fX1_leastX, leastPlace_v h, Option.bind_some, esb_all _ (fo_lt h), Option.bind_some]
theorem leastY_v {d t : Nat} (h : tv d t) : fX1_leastY (nI t) (nI d) = some (nI (yof 6 (fo d t))) := by
  rw [fX1_leastY, leastPlace_v h, Option.bind_some]
  rw [show nI (4096 + fo d t) >>> ((1:Int32) &&& 31) = nI (4096 + fo d t) >>> 1 from rfl, esb1_all _ (fo_lt h), Option.bind_some]
def thb (A : AS) (d t : Nat) : Bool := Nat.ble d (ld A (fo d t))
def kd (A : AS) (d t : Nat) : Int32 := cond (thb A d t) (cond (spb A d t) 2 1) 0
theorem there5_go {T : FS} {A : AS} (h : RT T A) (hA : AV A) {d t : Nat} (ht : tv d t) : ∀ q j, j ≤ d → d - j < q → (∀ e, e < j → spb A e (tl e (fo d t)) = true) → fX5_isThere_L2 T (nI t) (nI d) q (nI j) = some (bi (thb A d t)) := by
  obtain ⟨g1, g2, g3⟩ := ld_spec hA (fo d t)
  have hd := ht.1
  intro q
  induction q with
  | zero => intro j _ h2; omega
  | succ q ih =>
    intro j h1 h2 h3
    rw [fX5_isThere_L2]
    by_cases hj : j = d
    · subst hj
      have : thb A j t = true := by
        rw [thb]
        apply Nat.ble_eq_true_of_le
        apply Nat.not_lt.mp
        intro hl
        rw [h3 _ hl] at g3
        cases g3
      rw [if_pos (nI_le (Nat.le_refl _) (by omega)), this]
      rfl
    · have e : t / 4 ^ (d - j) = tl j (fo d t) := by
        have := tl_up (p := fo d t) h1 hd
        rw [fo_tl ht] at this
        exact this
      rw [if_neg (nI_ge (show j < d by omega) (by omega)), upTo_v h1 ht, Option.bind_some, e, split5_v h hA (tl_tv (by omega) (fo_lt ht)), Option.bind_some]
      cases hb : spb A j (tl j (fo d t)) with
      | true =>
        rw [if_neg (show ¬ bi true = 0 by decide), nI_1]
        refine ih (j + 1) (by omega) (by omega) fun i hi => ?_
        by_cases hij : i = j
        · subst hij; exact hb
        · exact h3 i (by omega)
      | false =>
        have e2 := ld_uniq hA h3 hb
        rw [if_pos (show bi false = 0 from rfl), show thb A d t = false from Bool.eq_false_iff.mpr fun e => by have : d ≤ ld A (fo d t) := Nat.le_of_ble_eq_true e; omega]
        rfl
theorem isThere5_v {T : FS} {A : AS} (h : RT T A) (hA : AV A) {d t : Nat} (ht : tv d t) : fX5_isThere T (nI t) (nI d) = some (bi (thb A d t)) := by
  have := ht.1
  have g := there5_go h hA ht 6000 0 (by omega) (by omega) (fun e he => by omega)
  rw [show nI 0 = 0 from rfl] at g
  rw [fX5_isThere, g]
theorem isThere8_v {r : FA} {A : AS} (h : RM r A) (hA : AV A) {d t : Nat} (ht : tv d t) : fX8_isThere r (nI t) = some (bi (thb A d t)) := by
  have g1 := (ld_spec hA (fo d t)).1
  have hd := ht.1
  rw [fX8_isThere, firstOf_v ht, Option.bind_some, leafOf8_v h hA (fo_lt ht), Option.bind_some, dep8_tv (tl_tv g1 (fo_lt ht)), Option.bind_some, dep8_tv ht, Option.bind_some]
  by_cases hl : ld A (fo d t) < d
  · rw [if_pos (nI_lt hl (by omega)), show thb A d t = false from Bool.eq_false_iff.mpr fun e => by have : d ≤ ld A (fo d t) := Nat.le_of_ble_eq_true e; omega]
    rfl
  · rw [if_neg (nI_nlt (Nat.not_lt.mp hl) (by omega)), show thb A d t = true from Nat.ble_eq_true_of_le (Nat.not_lt.mp hl)]
    rfl
theorem kindOf5_v {T : FS} {A : AS} (h : RT T A) (hA : AV A) {d t : Nat} (ht : tv d t) : fX5_kindOf T (nI t) (nI d) = some (kd A d t) := by
  rw [fX5_kindOf, isThere5_v h hA ht, Option.bind_some, split5_v h hA ht, Option.bind_some, kd]
  cases thb A d t with
  | false => rfl
  | true => cases spb A d t with
    | true => rfl
    | false => rfl
theorem whatIs8_v {M : FS} {A : AS} (h : RM (M 0) A) (hA : AV A) {d t : Nat} (ht : tv d t) : fX8_whatIs M (nI t) = some (kd A d t) := by
  rw [fX8_whatIs, isThere8_v h hA ht, Option.bind_some, split8_v h hA ht, Option.bind_some, kd]
  cases thb A d t with
  | false => rfl
  | true => cases spb A d t with
    | true => rfl
    | false => rfl
theorem letter_v (Q : Nat → FS) (M : FS) (x1 x2 : Int32) : ∃ r, fX7_letter Q x1 x2 = some r ∧ fX8_letter M x1 x2 = some r := by
  rcases dep_any x1 with ⟨d, t, ht, rfl, hd⟩ | ⟨_, hd⟩
  · have h0 := tv_lt ht
    have h6 := ht.1
    rw [fX7_letter, fX8_letter, hd, Option.bind_some, if_neg (ne6 (by omega)), isNumber_v ht, Option.bind_some, if_neg (show ¬ (1:Int32) = 0 by decide), dep8_tv ht, Option.bind_some, Option.bind_some]
    rcases pk_ix x2 (n := d) (by omega) with h | h | ⟨j, hj, rfl⟩
    · rw [if_pos h, in_lt h, Option.bind_some, if_pos rfl]
      exact ⟨_, rfl, rfl⟩
    · have e : nI d - 1 < x2 := by
        cases d with
        | zero =>
          rw [Int32.le_iff_toInt_le] at h
          rw [Int32.lt_iff_toInt_lt]
          have e1 : (nI 0).toInt = 0 := by decide
          have e2 : (nI 0 - 1 : Int32).toInt = -1 := by decide
          omega
        | succ n =>
          rw [nI_pred]
          rw [Int32.le_iff_toInt_le, nI_toInt (by omega)] at h
          rw [Int32.lt_iff_toInt_lt, nI_toInt (by omega)]
          omega
      have e3 : ¬ x2 < nI d := by
        rw [Int32.le_iff_toInt_le] at h
        rw [Int32.lt_iff_toInt_lt]
        omega
      have e4 : ¬ x2 < 0 := by
        rw [Int32.le_iff_toInt_le, nI_toInt (by omega)] at h
        rw [Int32.lt_iff_toInt_lt]
        have e1 : (0 : Int32).toInt = 0 := by decide
        omega
      rw [if_neg e4, if_neg e3, in_gt e, Option.bind_some, if_pos rfl]
      exact ⟨_, rfl, rfl⟩
    · have h7 : nI d - (1:Int32) = nI (d - 1) := nI_sub (a := d) (b := 1) (by omega)
      have h8 : t / 4 ^ (d - (j + 1)) < 2 ^ 31 := Nat.lt_of_le_of_lt (Nat.div_le_self _ _) (by omega)
      rw [if_neg (nI_pos (by omega)), if_pos (nI_lt hj (by omega)), nI_1, upTo_v (show j + 1 ≤ d by omega) ht, Option.bind_some, h7, show fX8_in (nI j) 0 (nI (d - 1)) = some 1 from in_in (lo := 0) (by omega) (by omega) (by omega), Option.bind_some, if_neg (show ¬ (1:Int32) = 0 by decide)]
      refine ⟨_, rfl, ?_⟩
      rw [nI_sub (show j ≤ d - 1 by omega), show (2:Int32) * nI (d - 1 - j) = nI (2 * (d - 1 - j)) from pk_mul 2 (d - 1 - j), shrN (by omega) (by omega), pow4, show d - 1 - j = d - (j + 1) by omega, show nI (t / 4 ^ (d - (j + 1))) &&& 3 = nI (t / 4 ^ (d - (j + 1)) % 2 ^ 2) from pk_andN (by omega) 2 rfl]
      rw [show nI (t / 4 ^ (d - (j + 1))) - nI (t / 4 ^ (d - (j + 1))) / (4:Int32) * (4:Int32) = nI (t / 4 ^ (d - (j + 1)) % 4) from pk_rem h8 (d := 4) (by decide) (by decide)]
  · rw [fX7_letter, fX8_letter, hd, Option.bind_some, if_pos rfl, isNumber_no hd, Option.bind_some, if_pos rfl]
    exact ⟨_, rfl, rfl⟩
