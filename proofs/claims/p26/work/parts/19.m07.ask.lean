/-! what is asked of a point, of a place, of a neighbour's place -/
theorem in_idx (n : Nat) (x : Int32) (hn : n < 2 ^ 31) : (∃ j, j < n ∧ x = nI j ∧ fX8_in x 0 (nI n - 1) = some 1) ∨ ((x < 0 ∨ nI n ≤ x) ∧ fX8_in x 0 (nI n - 1) = some 0) := by
  rcases pk_ix x (n := n) hn with h | h | ⟨j, hj, rfl⟩
  · exact Or.inr ⟨Or.inl h, in_lt h⟩
  · refine Or.inr ⟨Or.inr h, in_gt ?_⟩
    cases n with
    | zero =>
      rw [Int32.le_iff_toInt_le] at h
      rw [Int32.lt_iff_toInt_lt]
      have e1 : (nI 0).toInt = 0 := by decide
      have e2 : (nI 0 - 1 : Int32).toInt = -1 := by decide
      omega
    | succ n =>
      rw [nI_pred]
      rw [Int32.le_iff_toInt_le, nI_toInt (by omega)] at h
      rw [Int32.lt_iff_toInt_lt, nI_toInt (by omega)]
      omega
  · refine Or.inl ⟨j, hj, rfl, ?_⟩
    rw [show nI n - (1:Int32) = nI (n - 1) from nI_sub (a := n) (b := 1) (by omega)]
    exact in_in (lo := 0) (by omega) (by omega) (by omega)
theorem isPoint_any {T : FS} {M : FS} {A : AS} (h : RC T A) (h8 : RM (M 0) A) (hA : AV A) (x : Int32) : (∃ i, i < A 2 0 ∧ x = nI i ∧ fX3_isPoint T x = some 1 ∧ fX8_isPoint M x = some 1) ∨ (fX3_isPoint T x = some 0 ∧ fX8_isPoint M x = some 0) := by
  have hn := hA.1
  rw [fX8_isPoint, h8.1]
  rcases in_idx (A 2 0) x (by omega) with ⟨j, hj, rfl, e⟩ | ⟨h1, e⟩
  · refine Or.inl ⟨j, hj, rfl, ?_, by rw [e, Option.bind_some, bz1]⟩
    rw [fX3_isPoint, h.1 0 (by decide), if_neg (nI_pos (by omega)), if_neg (nI_ge hj (by omega)), if_neg (show ¬ (50:Int32) ≤ nI j from nI_ge (b := 50) (by omega) (by decide)), bz1]
  · refine Or.inr ⟨?_, by rw [e, Option.bind_some, bz0]⟩
    rw [fX3_isPoint, h.1 0 (by decide), bz0]
    rcases h1 with h1 | h1
    · rw [if_pos h1]
    · rw [if_pos h1]
      split <;> rfl
theorem isPoint3_v {T : FS} {A : AS} (h : RC T A) (hA : AV A) {i : Nat} (hi : i < A 2 0) : fX3_isPoint T (nI i) = some 1 := by
  have hn := hA.1
  rw [fX3_isPoint, h.1 0 (by decide), if_neg (nI_pos (by omega)), if_neg (nI_ge hi (by omega)), if_neg (show ¬ (50:Int32) ≤ nI i from nI_ge (b := 50) (by omega) (by decide)), bz1]
theorem placeOf_v {T : FS} {A : AS} (h : RC T A) (hA : AV A) {i : Nat} (hi : i < A 2 0) : fX3_placeOf T (nI i) = some (nI (4096 + A 0 i)) := by
  have hn := hA.1
  rw [fX3_placeOf, isPoint3_v h hA hi, Option.bind_some, if_neg (show ¬ (1:Int32) = 0 by decide), rd_v _ (by omega) (by decide), Option.bind_some, h.2.1 i hi]
theorem tv6 {p : Nat} (h : p < 4096) : tv 6 (4096 + p) := ⟨by omega, by omega, by omega⟩
theorem fo6 (p : Nat) : fo 6 (4096 + p) = p := by
  have e : (4 : Nat) ^ (6 - 6) = 1 := rfl
  unfold fo
  rw [e]
  omega
theorem lx6 {p : Nat} (h : p < 4096) : fX1_leastX (nI (4096 + p)) 6 = some (nI (xof 6 p)) := by
  have := leastX_v (tv6 h)
  rw [fo6] at this
  exact this
theorem ly6 {p : Nat} (h : p < 4096) : fX1_leastY (nI (4096 + p)) 6 = some (nI (yof 6 p)) := by
  have := leastY_v (tv6 h)
  rw [fo6] at this
  exact this
/-- the points whose places come before a place -/
def rk (p : Nat → Nat) (v : Nat) : Nat → Nat
  | 0 => 0
  | n + 1 => rk p v n + (if v ≤ p n then 0 else 1)
theorem rk5_go {T : FS} {A : AS} (h : RC T A) (hA : AV A) {v : Nat} (hv : v < 4096) : ∀ q j, j ≤ A 2 0 → A 2 0 - j < q → fX3_pointsBefore_L4 T (nI (4096 + v)) q (nI (rk (A 0) v j)) (nI j) = some (nI (rk (A 0) v (A 2 0))) := by
  have hn := hA.1
  intro q
  induction q with
  | zero => intro j _ h2; omega
  | succ q ih =>
    intro j h1 h2
    rw [fX3_pointsBefore_L4, h.1 0 (by decide)]
    by_cases hj : j = A 2 0
    · subst hj
      rw [if_pos (nI_le (Nat.le_refl _) (by omega))]
    · have h4 : j < A 2 0 := by omega
      have h5 := hA.2.2.2.2.1 j h4
      have ih2 := ih (j + 1) (by omega) (by omega)
      rw [rk] at ih2
      rw [if_neg (nI_ge h4 (by omega)), placeOf_v h hA h4, Option.bind_some]
      by_cases he : v ≤ A 0 j
      · rw [if_pos he] at ih2
        rw [if_pos (nI_le (show 4096 + v ≤ 4096 + A 0 j by omega) (by omega)), nI_1]
        exact ih2
      · rw [if_neg he] at ih2
        rw [if_neg (nI_ge (show 4096 + A 0 j < 4096 + v by omega) (by omega)), show nI (rk (A 0) v j) + 1 = nI (rk (A 0) v j + 1) from nI_1 _, nI_1]
        exact ih2
theorem rk8_go {M : FS} {A : AS} (h : RM (M 0) A) (hA : AV A) {i : Nat} (hi : i < A 2 0) : ∀ q j, j ≤ A 2 0 → A 2 0 - j < q → fX8_rankOf_L4 M (nI i) q (nI (rk (A 0) (A 0 i) j)) (nI j) = some (nI (rk (A 0) (A 0 i) (A 2 0))) := by
  have hn := hA.1
  have h0 := hA.2.2.2.2.1 i hi
  intro q
  induction q with
  | zero => intro j _ h2; omega
  | succ q ih =>
    intro j h1 h2
    rw [fX8_rankOf_L4, h.1]
    by_cases hj : j = A 2 0
    · subst hj
      rw [if_pos (nI_le (Nat.le_refl _) (by omega))]
    · have h4 : j < A 2 0 := by omega
      have h5 := hA.2.2.2.2.1 j h4
      have ih2 := ih (j + 1) (by omega) (by omega)
      rw [rk] at ih2
      rw [if_neg (nI_ge h4 (by omega)), pathAt_v h hA h4, Option.bind_some, pathAt_v h hA hi, Option.bind_some]
      by_cases he : A 0 i ≤ A 0 j
      · rw [if_pos he] at ih2
        rw [if_pos (nI_le he (by omega)), show nI (rk (A 0) (A 0 i) j) + 0 = nI (rk (A 0) (A 0 i) j + 0) from nI_add _ 0, nI_1]
        exact ih2
      · rw [if_neg he] at ih2
        rw [if_neg (nI_ge (show A 0 j < A 0 i by omega) (by omega)), show nI (rk (A 0) (A 0 i) j) + 1 = nI (rk (A 0) (A 0 i) j + 1) from nI_1 _, nI_1]
        exact ih2
theorem of_v {Q : Nat → FS} {M : FS} {A : AS} (h : RT (Q 0) A) (h8 : RM (M 0) A) (hA : AV A) (x1 x2 : Int32) : ∃ r, fX7_of Q x1 x2 = some r ∧ fX8_of M x1 x2 = some r := by
  have hn := hA.1
  rcases isPoint_any h.1 h8 hA x1 with ⟨i, hi, rfl, e5, e8⟩ | ⟨e5, e8⟩
  · have h0 := hA.2.2.2.2.1 i hi
    have g5 := rk5_go h.1 hA h0 6000 0 (by omega) (by omega)
    have g8 := rk8_go h8 hA hi 6000 0 (by omega) (by omega)
    rw [show nI (rk (A 0) (A 0 i) 0) = 0 from rfl, show nI 0 = 0 from rfl] at g5 g8
    rw [fX7_of, fX8_of, e5, e8, Option.bind_some, Option.bind_some, if_neg (show ¬ (1:Int32) = 0 by decide), if_neg (show ¬ (1:Int32) = 0 by decide), placeOf_v h.1 hA hi, Option.bind_some]
    by_cases k0 : x2 = 0
    · subst k0
      rw [if_pos rfl, if_pos rfl, lx6 h0, idx2, show nI (4 + 2 * i) + (0:Int32) = nI (4 + 2 * i + 0) from nI_add _ 0, rd_v _ (by omega) (by decide)]
      exact ⟨_, rfl, congrArg some (h8.2.2.2.2.1 i hi).1⟩
    · rw [if_neg k0, if_neg k0]
      by_cases k1 : x2 = 1
      · subst k1
        rw [if_pos rfl, if_pos rfl, ly6 h0, idx3, rd_v _ (by omega) (by decide)]
        exact ⟨_, rfl, congrArg some (h8.2.2.2.2.1 i hi).2⟩
      · rw [if_neg k1, if_neg k1]
        by_cases k2 : x2 = 2
        · rw [if_pos k2, if_pos k2, leafWith5_v h hA h0, pathAt_v h8 hA hi, Option.bind_some, Option.bind_some, leafOf8_v h8 hA h0]
          exact ⟨_, rfl, rfl⟩
        · rw [if_neg k2, if_neg k2]
          by_cases k3 : x2 = 3
          · rw [if_pos k3, if_pos k3, fX3_pointsBefore, fX8_rankOf, g5, g8]
            exact ⟨_, rfl, rfl⟩
          · rw [if_neg k3, if_neg k3]
            exact ⟨_, rfl, rfl⟩
  · rw [fX7_of, fX8_of, e5, e8]
    exact ⟨_, rfl, rfl⟩
theorem leafAt_v {Q : Nat → FS} {M : FS} {A : AS} (h : RT (Q 0) A) (h8 : RM (M 0) A) (hA : AV A) (x1 x2 : Int32) : ∃ r, fX7_leafAt Q x1 x2 = some r ∧ fX8_leafAt M x1 x2 = some r := by
  rw [fX7_leafAt, fX8_leafAt]
  rcases isPlace_any x1 x2 with ⟨a, b, ha, hb, rfl, rfl, e1, e8⟩ | ⟨e1, e8⟩
  · have hp := pth_lt 6 a b
    rw [e1, e8, Option.bind_some, Option.bind_some, if_neg (show ¬ (1:Int32) = 0 by decide), if_neg (show ¬ (1:Int32) = 0 by decide), placeAt_all a ha b hb, pathOf_all a ha b hb, Option.bind_some, Option.bind_some, leafWith5_v h hA hp, leafOf8_v h8 hA hp]
    exact ⟨_, rfl, rfl⟩
  · rw [e1, e8]
    exact ⟨_, rfl, rfl⟩
