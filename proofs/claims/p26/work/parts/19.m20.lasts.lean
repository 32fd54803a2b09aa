/-! the row of the tiles last seen, made empty -/
theorem sr_sr (M : FS) (i : Nat) (f g : FA) : sr (sr M i f) i g = sr M i g := by
  funext a
  unfold sr
  cases Nat.beq a i with
  | true => rfl
  | false => rfl
theorem sr_at (M : FS) (i : Nat) (f : FA) : sr M i f i = f := by
  unfold sr
  rw [Nat.beq_refl, cond_true]
theorem sr_self (M : FS) (i : Nat) : sr M i (M i) = M := by
  funext a
  unfold sr
  cases h : Nat.beq a i with
  | true => rw [cond_true, Nat.eq_of_beq_eq_true h]
  | false => rfl
theorem lasts_go (M : FS) (x1 x2 x3 x4 x5 : Int32) : ∀ q j f, j ≤ 7 → 7 - j < q → (∀ i, i < j → f i = 0) → ∃ g : FA, (∀ i, i < 7 → g i = 0) ∧ fX8_tilesIn_L3 x1 x2 x3 x4 x5 q (sr M 6 f) (nI j) = fX8_tilesIn_L30 x1 x2 x3 x4 x5 6000 (sr M 6 g) 0 0 := by
  intro q
  induction q with
  | zero => intro j f _ h; omega
  | succ q ih =>
    intro j f h1 h2 h3
    rw [fX8_tilesIn_L3]
    by_cases hj : j = 7
    · subst hj
      rw [if_pos (show (6:Int32) < nI 7 by decide)]
      exact ⟨f, h3, rfl⟩
    · rw [if_neg (show ¬ (6:Int32) < nI j from nI_nlt (a := 6) (by omega) (by decide)), sr_at, wr_v _ _ (by omega) (by decide), Option.bind_some, Option.bind_some, sr_sr, nI_1]
      refine ih (j + 1) _ (by omega) (by omega) fun i hi => ?_
      unfold upd
      by_cases hij : i = j
      · simp [hij]
      · simp [hij]
        exact h3 i (by omega)
