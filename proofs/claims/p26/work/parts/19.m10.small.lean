/-! the smallest tile with both ends of a window -/
def cde (A : AS) (p p2 e : Nat) : Prop := e ≤ ld A p ∧ tl e p = tl e p2 ∧ (e = ld A p ∨ ¬ tl (e + 1) p = tl (e + 1) p2)
theorem cde_ex (A : AS) {p p2 : Nat} (hp : p < 4096) (hp2 : p2 < 4096) : ∃ e, cde A p p2 e := by
  obtain ⟨e, h1, h2⟩ := pk_least (fun e => e = ld A p ∨ ¬ tl (e + 1) p = tl (e + 1) p2) ⟨ld A p, Or.inl rfl⟩
  refine ⟨e, ?_, ?_, h1⟩
  · apply Nat.not_lt.mp
    intro h
    exact h2 _ h (Or.inl rfl)
  · cases e with
    | zero => rw [tl_0 p hp, tl_0 p2 hp2]
    | succ k =>
      apply Classical.byContradiction
      intro h
      exact h2 k (by omega) (Or.inr h)
theorem small5_go {T : FS} {w : FA} {A : AS} (hA : AV A) {p p2 e : Nat} (hp : p < 4096) (hp2 : p2 < 4096) (he : cde A p p2 e) : ∀ q j, e ≤ j → j ≤ ld A p → j - e < q → fX5_smallestWith_L31 T w (nI (4096 + p)) (nI (4096 + p2)) q (nI j) = some (nI (tl e p)) := by
  obtain ⟨h1, h2, h3⟩ := he
  have h6 := (ld_spec hA p).1
  intro q
  induction q with
  | zero => intro j _ _ h; omega
  | succ q ih =>
    intro j k1 k2 k3
    rw [fX5_smallestWith_L31, upTo_p (by omega) hp, upTo_p (by omega) hp2, Option.bind_some, Option.bind_some, Option.bind_some]
    have b1 := tv_lt (tl_tv (show j ≤ 6 by omega) hp)
    have b2 := tv_lt (tl_tv (show j ≤ 6 by omega) hp2)
    by_cases h0 : j = 0
    · subst h0
      rw [if_pos (show nI 0 ≤ 0 by decide), show e = 0 by omega]
    · rw [if_neg (nI_nle (by omega) (by omega))]
      by_cases hj : j = e
      · subst hj
        rw [if_pos (by rw [h2])]
      · have hne : ¬ tl j p = tl j p2 := by
          intro e2
          rcases h3 with h3 | h3
          · omega
          · exact h3 (tl_same (show e + 1 ≤ j by omega) (by omega) e2)
        rw [if_neg (fun e2 => hne ((nI_eq (by omega) (by omega)).mp e2))]
        obtain ⟨i, rfl⟩ : ∃ i, j = i + 1 := ⟨j - 1, by omega⟩
        rw [pk_m1]
        exact ih i (by omega) (by omega) (by omega)
theorem small8_go {M : FS} {A : AS} (h : RM (M 0) A) (hA : AV A) {p p2 e : Nat} (hp : p < 4096) (hp2 : p2 < 4096) (he : cde A p p2 e) : ∀ q j, j ≤ e → e - j < q → fX8_smallest_L2 M (nI p) (nI p2) q (nI j) = some (nI (tl e p)) := by
  obtain ⟨h1, h2, h3⟩ := he
  obtain ⟨h6, g2, g3⟩ := ld_spec hA p
  intro q
  induction q with
  | zero => intro j _ h; omega
  | succ q ih =>
    intro j k1 k2
    rw [fX8_smallest_L2, tileOf_v (by omega) hp, Option.bind_some, split8_v h hA (tl_tv (by omega) hp), Option.bind_some]
    by_cases hl : j = ld A p
    · have : j = e := by omega
      subst this
      rw [show spb A j (tl j p) = false by rw [hl]; exact g3, if_pos (show bi false = 0 from rfl), Option.bind_some]
    · rw [g2 j (by omega), if_neg (show ¬ bi true = 0 by decide), Option.bind_some, show nI j + (1:Int32) = nI (j + 1) from nI_1 j, tileOf_v (by omega) hp, Option.bind_some, tileOf_v (by omega) hp2, Option.bind_some]
      have b1 := tv_lt (tl_tv (show j + 1 ≤ 6 by omega) hp)
      have b2 := tv_lt (tl_tv (show j + 1 ≤ 6 by omega) hp2)
      by_cases hj : j = e
      · subst hj
        have hne : ¬ tl (j + 1) p = tl (j + 1) p2 := by
          rcases h3 with h3 | h3
          · exact absurd h3 hl
          · exact h3
        rw [if_neg (fun e2 => hne ((nI_eq (by omega) (by omega)).mp e2))]
      · rw [if_pos (by rw [tl_same (show j + 1 ≤ e by omega) (by omega) h2])]
        exact ih (j + 1) (by omega) (by omega)
theorem smallest_v {T : FS} {M : FS} {A : AS} (h : RT T A) (h8 : RM (M 0) A) (hA : AV A) {a b c d : Nat} (ha : a < 64) (hb : b < 64) (hc : c < 64) (hd : d < 64) : ∃ r, fX5_smallestWith T (w4 (nI a) (nI b) (nI c) (nI d)) = some r ∧ fX8_smallest M (nI (pth 6 a b)) (nI (pth 6 c d)) = some r := by
  have hp := pth_lt 6 a b
  have hp2 := pth_lt 6 c d
  obtain ⟨e, he⟩ := cde_ex A hp hp2
  have h6 := (ld_spec hA (pth 6 a b)).1
  have h7 := he.1
  have g5 := small5_go (T := T) (w := w4 (nI a) (nI b) (nI c) (nI d)) hA hp hp2 he 6000 (ld A (pth 6 a b)) he.1 (Nat.le_refl _) (by omega)
  have g8 := small8_go h8 hA hp hp2 he 6000 0 (by omega) (by omega)
  rw [show nI 0 = 0 from rfl] at g8
  refine ⟨nI (tl e (pth 6 a b)), ?_, ?_⟩
  · rw [fX5_smallestWith, show w4 (nI a) (nI b) (nI c) (nI d) 0 = nI a from rfl, show w4 (nI a) (nI b) (nI c) (nI d) 1 = nI b from rfl, show w4 (nI a) (nI b) (nI c) (nI d) 2 = nI c from rfl, show w4 (nI a) (nI b) (nI c) (nI d) 3 = nI d from rfl, placeAt_all a ha b hb, placeAt_all c hc d hd, Option.bind_some, Option.bind_some, depthOfLeaf5_v h hA hp, Option.bind_some, g5]
  · rw [fX8_smallest, g8]
