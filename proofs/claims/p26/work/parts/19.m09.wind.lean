/-! the nearest point; a window's points and its smallest tile -/
def sqd (A : AS) (i : Nat) (x1 x2 : Int32) : Int32 := ((nI (xof 6 (A 0 i)) - x1) * (nI (xof 6 (A 0 i)) - x1)) + ((nI (yof 6 (A 0 i)) - x2) * (nI (yof 6 (A 0 i)) - x2))
theorem between_v {A : AS} (hA : AV A) {i : Nat} (hi : i < A 2 0) (x1 x2 : Int32) : fX1_squaresBetween (nI (4096 + A 0 i)) x1 x2 = some (sqd A i x1 x2) := by
  have h0 := hA.2.2.2.2.1 i hi
  rw [fX1_squaresBetween, lx6 h0, Option.bind_some, ly6 h0, Option.bind_some, sqd]
theorem far_v {M : FS} {A : AS} (h : RM (M 0) A) (hA : AV A) {i : Nat} (hi : i < A 2 0) (x1 x2 : Int32) : fX8_far M (nI i) x1 x2 = some (sqd A i x1 x2) := by
  have hn := hA.1
  rw [fX8_far, idx3, idx2, rd_v _ (by omega) (by decide), rd_v _ (by omega) (by decide), (h.2.2.2.2.1 i hi).1, (h.2.2.2.2.1 i hi).2, Option.bind_some, Option.bind_some, sqd]
theorem near_go {Q : Nat → FS} {M : FS} {A : AS} (h : RC (Q 0) A) (h8 : RM (M 0) A) (hA : AV A) (x1 x2 x3 : Int32) : ∀ q j b, j ≤ A 2 0 → A 2 0 - j < q → b < A 2 0 → ∃ r, fX7_nearest_L42 Q x1 x2 x3 q (nI b) (sqd A b x1 x2) (nI j) = some r ∧ fX8_nearest_L29 M x1 x2 x3 q (nI b) (nI j) = some r := by
  have hn := hA.1
  intro q
  induction q with
  | zero => intro j b _ h2; omega
  | succ q ih =>
    intro j b h1 h2 hb
    rw [fX7_nearest_L42, fX8_nearest_L29, h.1 0 (by decide), h8.1]
    by_cases hj : j = A 2 0
    · subst hj
      rw [if_pos (nI_le (Nat.le_refl _) (by omega)), if_pos (nI_le (Nat.le_refl _) (by omega)), if_neg (ne6 (by omega)), far_v h8 hA hb, Option.bind_some]
      by_cases k : x3 = 0
      · rw [if_pos k]
        exact ⟨_, rfl, rfl⟩
      · rw [if_neg k]
        exact ⟨_, rfl, rfl⟩
    · have h4 : j < A 2 0 := by omega
      rw [if_neg (nI_ge h4 (by omega)), if_neg (nI_ge h4 (by omega)), placeOf_v h hA h4, Option.bind_some, between_v hA h4, Option.bind_some, if_neg (ne6 (by omega)), if_neg (ne6 (by omega)), far_v h8 hA h4, Option.bind_some, far_v h8 hA hb, Option.bind_some, nI_1]
      by_cases k : sqd A b x1 x2 ≤ sqd A j x1 x2
      · rw [if_pos k, if_pos k]
        exact ih (j + 1) b (by omega) (by omega) hb
      · rw [if_neg k, if_neg k]
        exact ih (j + 1) j (by omega) (by omega) h4
theorem near_v {Q : Nat → FS} {M : FS} {A : AS} (h : RC (Q 0) A) (h8 : RM (M 0) A) (hA : AV A) (x1 x2 x3 : Int32) (q : Nat) (hq : 51 < q) : ∃ r, fX7_nearest_L42 Q x1 x2 x3 q (-6) (-6) (nI 0) = some r ∧ fX8_nearest_L29 M x1 x2 x3 q (-6) (nI 0) = some r := by
  have hn := hA.1
  cases q with
  | zero => omega
  | succ q =>
    rw [fX7_nearest_L42, fX8_nearest_L29, h.1 0 (by decide), h8.1]
    by_cases h0 : A 2 0 = 0
    · rw [h0, if_pos (nI_le (Nat.le_refl _) (by decide)), if_pos (nI_le (Nat.le_refl _) (by decide)), if_pos rfl]
      refine ⟨-6, ?_, rfl⟩
      split <;> rfl
    · have h4 : 0 < A 2 0 := by omega
      rw [if_neg (nI_ge h4 (by omega)), if_neg (nI_ge h4 (by omega)), placeOf_v h hA h4, Option.bind_some, between_v hA h4, Option.bind_some, if_pos rfl, if_pos rfl, nI_1]
      exact near_go h h8 hA x1 x2 x3 q (0 + 1) 0 (by omega) (by omega) h4
theorem nearest_v {Q : Nat → FS} {M : FS} {A : AS} (h : RC (Q 0) A) (h8 : RM (M 0) A) (hA : AV A) (x1 x2 x3 : Int32) : ∃ r, fX7_nearest Q x1 x2 x3 = some r ∧ fX8_nearest M x1 x2 x3 = some r := by
  have key := near_v h h8 hA x1 x2 x3 6000 (by decide)
  rw [show nI 0 = 0 from rfl] at key
  rw [fX7_nearest, fX8_nearest, fX7_nearest_L22]
  rcases isPlace_any x1 x2 with ⟨a, b, ha, hb, rfl, rfl, e1, e8⟩ | ⟨e1, e8⟩
  · rw [e1, e8, Option.bind_some, Option.bind_some, if_neg (show ¬ (1:Int32) = 0 by decide), if_neg (show ¬ (1:Int32) = 0 by decide)]
    rcases in01 x3 with ⟨e, ein⟩ | ⟨e, ein⟩ | ⟨hx3, n0, n1, ein⟩
    · rw [ein, Option.bind_some, if_neg (show ¬ (1:Int32) = 0 by decide), if_pos e]
      exact key
    · rw [ein, Option.bind_some, if_neg (show ¬ (1:Int32) = 0 by decide), if_neg (by rw [e]; decide), if_pos e]
      exact key
    · rw [ein, Option.bind_some, if_pos rfl, if_neg n0, if_neg n1]
      exact ⟨_, rfl, rfl⟩
  · rw [e1, e8]
    exact ⟨_, rfl, rfl⟩
/-- the points inside a window -/
def wnb (a b c d p : Nat) : Bool := Nat.ble a (xof 6 p) && Nat.ble (xof 6 p) c && (Nat.ble b (yof 6 p) && Nat.ble (yof 6 p) d)
def wnc (a b c d : Nat) (p : Nat → Nat) : Nat → Nat
  | 0 => 0
  | n + 1 => wnc a b c d p n + cond (wnb a b c d (p n)) 1 0
theorem ble_f {a b : Nat} (h : ¬ a ≤ b) : Nat.ble a b = false := Bool.eq_false_iff.mpr fun e => h (Nat.le_of_ble_eq_true e)
theorem meets6_v {a b c d p : Nat} (ha : a < 64) (hb : b < 64) (hc : c < 64) (hd : d < 64) (hp : p < 4096) : fX6_meets (w4 (nI a) (nI b) (nI c) (nI d)) (nI (4096 + p)) 6 = some (bi (wnb a b c d p)) := by
  have hx := xof_lt 6 p
  have hy := yof_lt 6 p
  have e64 : (2 : Nat) ^ 6 = 64 := by decide
  rw [fX6_meets, lx6 hp, Option.bind_some, ly6 hp, Option.bind_some, show fX1_sizeAt 6 = some 1 from rfl, Option.bind_some]
  show (if nI c < nI (xof 6 p) then bz 0 else if nI (xof 6 p) + 1 ≤ nI a then bz 0 else if nI d < nI (yof 6 p) then bz 0 else if nI (yof 6 p) + 1 ≤ nI b then bz 0 else bz 1) = _
  rw [nI_1, nI_1, wnb, bz0, bz1]
  by_cases h1 : xof 6 p ≤ c
  · rw [if_neg (nI_nlt h1 (by omega)), Nat.ble_eq_true_of_le h1]
    by_cases h2 : a ≤ xof 6 p
    · rw [if_neg (nI_ge (show a < xof 6 p + 1 by omega) (by omega)), Nat.ble_eq_true_of_le h2]
      by_cases h3 : yof 6 p ≤ d
      · rw [if_neg (nI_nlt h3 (by omega)), Nat.ble_eq_true_of_le h3]
        by_cases h4 : b ≤ yof 6 p
        · rw [if_neg (nI_ge (show b < yof 6 p + 1 by omega) (by omega)), Nat.ble_eq_true_of_le h4]
          rfl
        · rw [if_pos (nI_le (show yof 6 p + 1 ≤ b by omega) (by omega)), ble_f h4]
          rfl
      · rw [if_pos (nI_lt (show d < yof 6 p by omega) (by omega)), ble_f h3, Bool.and_false, Bool.and_false]
        rfl
    · rw [if_pos (nI_le (show xof 6 p + 1 ≤ a by omega) (by omega)), ble_f h2]
      rfl
  · rw [if_pos (nI_lt (show c < xof 6 p by omega) (by omega)), ble_f h1, Bool.and_false, Bool.false_and]
    rfl
theorem in_b {a lo hi : Nat} (ha : a < 2 ^ 31) (hl : lo < 2 ^ 31) (h : hi < 2 ^ 31) : fX8_in (nI a) (nI lo) (nI hi) = some (bi (Nat.ble lo a && Nat.ble a hi)) := by
  rw [fX8_in, bz0, bz1]
  by_cases h1 : lo ≤ a
  · rw [if_neg (nI_nlt h1 ha), Nat.ble_eq_true_of_le h1]
    by_cases h2 : a ≤ hi
    · rw [if_neg (nI_nlt h2 h), Nat.ble_eq_true_of_le h2]
      rfl
    · rw [if_pos (nI_lt (Nat.not_le.mp h2) ha), ble_f h2]
      rfl
  · rw [if_pos (nI_lt (Nat.not_le.mp h1) hl), ble_f h1]
    rfl
theorem inside_go {T : FS} {A : AS} (h : RC T A) (hA : AV A) {a b c d : Nat} (ha : a < 64) (hb : b < 64) (hc : c < 64) (hd : d < 64) : ∀ q j, j ≤ A 2 0 → A 2 0 - j < q → fX3_pointsInside_L4 T (w4 (nI a) (nI b) (nI c) (nI d)) q (nI (wnc a b c d (A 0) j)) (nI j) = some (nI (wnc a b c d (A 0) (A 2 0))) := by
  have hn := hA.1
  intro q
  induction q with
  | zero => intro j _ h2; omega
  | succ q ih =>
    intro j h1 h2
    rw [fX3_pointsInside_L4, h.1 0 (by decide)]
    by_cases hj : j = A 2 0
    · subst hj
      rw [if_pos (nI_le (Nat.le_refl _) (by omega))]
    · have h4 : j < A 2 0 := by omega
      have h5 := hA.2.2.2.2.1 j h4
      have ih2 := ih (j + 1) (by omega) (by omega)
      rw [wnc] at ih2
      rw [if_neg (nI_ge h4 (by omega)), placeOf_v h hA h4, Option.bind_some, meets6_v ha hb hc hd h5, Option.bind_some, nI_1, show nI (wnc a b c d (A 0) j) + 1 = nI (wnc a b c d (A 0) j + 1) from nI_1 _]
      cases hw : wnb a b c d (A 0 j) with
      | true =>
        rw [hw] at ih2
        rw [if_neg (show ¬ bi true = 0 by decide)]
        exact ih2
      | false =>
        rw [hw] at ih2
        rw [if_pos (show bi false = 0 from rfl)]
        exact ih2
theorem between_go {M : FS} {A : AS} (h : RM (M 0) A) (hA : AV A) {a b c d : Nat} (ha : a < 64) (hb : b < 64) (hc : c < 64) (hd : d < 64) : ∀ q j, j ≤ A 2 0 → A 2 0 - j < q → fX8_pointsBetween_L6 M (nI a) (nI b) (nI c) (nI d) q (nI (wnc a b c d (A 0) j)) (nI j) = some (nI (wnc a b c d (A 0) (A 2 0))) := by
  have hn := hA.1
  have e64 : (2 : Nat) ^ 6 = 64 := by decide
  intro q
  induction q with
  | zero => intro j _ h2; omega
  | succ q ih =>
    intro j h1 h2
    rw [fX8_pointsBetween_L6, h.1]
    by_cases hj : j = A 2 0
    · subst hj
      rw [if_pos (nI_le (Nat.le_refl _) (by omega))]
    · have h4 : j < A 2 0 := by omega
      have h5 := h.2.2.2.2.1 j h4
      have hx := xof_lt 6 (A 0 j)
      have hy := yof_lt 6 (A 0 j)
      have ih2 := ih (j + 1) (by omega) (by omega)
      rw [wnc, wnb] at ih2
      rw [if_neg (nI_ge h4 (by omega)), idx3, idx2, rd_v _ (by omega) (by decide), rd_v _ (by omega) (by decide), h5.1, h5.2, Option.bind_some, in_b (by omega) (by omega) (by omega), Option.bind_some, Option.bind_some, in_b (by omega) (by omega) (by omega), Option.bind_some, nI_1, show nI (wnc a b c d (A 0) j) + 1 = nI (wnc a b c d (A 0) j + 1) from nI_1 _, show nI (wnc a b c d (A 0) j) + 0 = nI (wnc a b c d (A 0) j + 0) from nI_add _ 0]
      cases hw : (Nat.ble a (xof 6 (A 0 j)) && Nat.ble (xof 6 (A 0 j)) c) with
      | true =>
        rw [hw, Bool.true_and] at ih2
        rw [if_neg (show ¬ bi true = 0 by decide)]
        cases hv : (Nat.ble b (yof 6 (A 0 j)) && Nat.ble (yof 6 (A 0 j)) d) with
        | true =>
          rw [hv] at ih2
          rw [if_neg (show ¬ bi true = 0 by decide)]
          exact ih2
        | false =>
          rw [hv] at ih2
          rw [if_pos (show bi false = 0 from rfl)]
          exact ih2
      | false =>
        rw [hw, Bool.false_and] at ih2
        rw [if_pos (show bi false = 0 from rfl)]
        exact ih2
