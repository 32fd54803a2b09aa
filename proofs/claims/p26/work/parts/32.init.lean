/-! the law's first two calls -/
theorem law_init : ∃ (Z1 Z2 : Nat → FS) (A7 : AS), fX7_point Q00 7 7 = some (1, Z1) ∧ fX7_save Z1 0 = some (1, Z2) ∧ SeenH Z2 A7 ∧ ∀ f : Nat → Int64, LInv (sv A7) 0 Z2 f := by
  obtain ⟨r, Q1, e, st⟩ := point_s init_JJ 7 7
  have hB0 : Bis Q00 (([], [], 2, 6), [], none, none, []) := Bis_of init_II (by decide +kernel)
  obtain ⟨Q2, e2, hB⟩ := b_m (fun Q => fX7_point Q 7 7) (fun M => fX8_point M 7 7) (fun Q M h => point_c Q M 7 7 h) hB0 (r := 1) (z1 := (([63], [], 2, 6), [([], [], 2, 6)], none, none, [])) (by decide +kernel)
  have e2 : fX7_point Q00 7 7 = some (1, Q2) := e2
  rw [e] at e2
  injection e2 with e2
  injection e2 with e3 e4
  subst e3
  subst e4
  rcases st with ⟨h1, _⟩ | ⟨_, M1, A1, j1, g1, g2⟩
  · exact absurd h1 (by decide)
  · have c0 : fX7_count Q1 0 = some 1 := b_n (fun Q => fX7_count Q 0) (fun M => fX8_count M 0) (fun Q M h => count_c Q M 0 h) hB (r := 1) (by decide +kernel)
    rw [count0_J j1] at c0
    injection c0 with c0
    have hn := j1.1.1
    have c1 : A1 2 0 = 1 := (nI_eq (b := 1) (by omega) (by decide)).mp c0
    have hg : GO A1 := g1 (fun i hi => absurd hi (Nat.not_lt_zero i))
    obtain ⟨Z2, M2, e5, j2⟩ := save_x j1
    rw [c1] at e5
    exact ⟨Q1, Z2, A1, e, e5, SeenJ j2, fun f => ⟨M2, A1, nxS 0, _, _, _, _, _, fun _ => A1, j2, rfl, rfl, hg, c1, rfl, hg, by omega, rfl, rfl, fun j hj => absurd hj (Nat.not_lt_zero j), fun i h1 h2 => absurd (Nat.le_trans h1 h2) (by decide)⟩⟩
