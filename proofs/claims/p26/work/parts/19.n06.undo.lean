/-! undo, again and again -/
theorem undo_seq {H : Nat → AS} {fl : Nat → Bool} {SL : Nat → AS} {L : Nat} {C : Nat → Nat} {a : Nat} : ∀ (s : Nat) (Z : Nat → FS) (M : FS) (A : AS), JJ Z M A s H fl SL L C a → ∃ Y : Nat → (Nat → FS), Y 0 = Z ∧ (∀ i, i < s → fX7_undo (Y i) = some (nI (s - i - 1), Y (i + 1))) ∧ ∀ i, i ≤ s → ∃ M1, JJ (Y i) M1 (if i = 0 then A else H (s - i)) (s - i) H fl SL L C a := by
  intro s
  induction s with
  | zero =>
    intro Z M A h
    refine ⟨fun _ => Z, rfl, fun i hi => absurd hi (Nat.not_lt_zero i), fun i hi => ⟨M, ?_⟩⟩
    have hi : i = 0 := by omega
    subst hi
    rw [if_pos rfl]
    exact h
  | succ k ih =>
    intro Z M A h
    obtain ⟨Q1, M1, e1, h1⟩ := undo_x h
    obtain ⟨Y, y0, y1, y2⟩ := ih Q1 M1 (H k) h1
    refine ⟨fun i => match i with | 0 => Z | j + 1 => Y j, rfl, fun i hi => ?_, fun i hi => ?_⟩
    · cases i with
      | zero =>
        show fX7_undo Z = some (nI (k + 1 - 0 - 1), Y 0)
        rw [y0]
        exact e1
      | succ j =>
        show fX7_undo (Y j) = some (nI (k + 1 - (j + 1) - 1), Y (j + 1))
        rw [Nat.add_sub_add_right]
        exact y1 j (by omega)
    · cases i with
      | zero =>
        rw [if_pos rfl]
        exact ⟨M, h⟩
      | succ j =>
        obtain ⟨M2, h2⟩ := y2 j (by omega)
        refine ⟨M2, ?_⟩
        rw [if_neg (Nat.succ_ne_zero j), Nat.add_sub_add_right]
        show JJ (Y j) M2 (H (k - j)) (k - j) H fl SL L C a
        by_cases hj : j = 0
        · subst hj
          rw [if_pos rfl] at h2
          exact h2
        · rw [if_neg hj] at h2
          exact h2
