/-! what holds at the head of the law's loop -/
def LInv (kept : Int64) (ac : Nat) (Z : Nat → FS) (f : Nat → Int64) : Prop := ∃ (M : FS) (A : AS) (s : Nat) (H : Nat → AS) (fl : Nat → Bool) (SL : Nat → AS) (C : Nat → Nat) (a : Nat) (B : Nat → AS), JJ Z M A s H fl SL 0 C a ∧ fl 0 = true ∧ fl 1 = false ∧ GO (SL 0) ∧ SL 0 2 0 = 1 ∧ sv (SL 0) = kept ∧ GO A ∧ 1 ≤ A 2 0 ∧ s = (if ac < 6 then ac + 1 else 6) ∧ B ac = A ∧ (∀ j, j < ac → f j = sv (B j)) ∧ (∀ i, 1 ≤ i → i ≤ ac → i ≤ s → H (s - i) = B (ac - i))
theorem LInv_upd {kept : Int64} {ac : Nat} {Z : Nat → FS} {f : Nat → Int64} {x : Int64} (h : LInv kept ac Z f) : LInv kept ac Z (vp_updL f ac x) := by
  obtain ⟨M, A0, s0, H0, fl, SL, C0, a0, B0, hJ, hf0, hf1, hg, hn1, hkp, hgA, h1A, hs0, hBa, hfB, hHB⟩ := h
  exact ⟨M, A0, s0, H0, fl, SL, C0, a0, B0, hJ, hf0, hf1, hg, hn1, hkp, hgA, h1A, hs0, hBa, fun j hj => by rw [pk_uLn (by omega)]; exact hfB j hj, hHB⟩
theorem LInv_next {kept : Int64} {ac : Nat} {f : Nat → Int64} {A0 : AS} {s0 : Nat} {H0 : Nat → AS} {fl : Nat → Bool} {SL : Nat → AS} {C0 : Nat → Nat} {a0 : Nat} {B0 : Nat → AS} (hf0 : fl 0 = true) (hf1 : fl 1 = false) (hg : GO (SL 0)) (hn1 : SL 0 2 0 = 1) (hkp : sv (SL 0) = kept) (hgA : GO A0) (h1A : 1 ≤ A0 2 0) (hs0 : s0 = (if ac < 6 then ac + 1 else 6)) (hBa : B0 ac = A0) (hfB : ∀ j, j < ac → f j = sv (B0 j)) (hHB : ∀ i, 1 ≤ i → i ≤ ac → i ≤ s0 → H0 (s0 - i) = B0 (ac - i)) {Z1 : Nat → FS} {M1 : FS} {A1 : AS} (j1 : JJ Z1 M1 A1 (nxS s0) (nxH H0 s0 A0) fl SL 0 C0 a0) (g1 : GO A0 → GO A1) (g2 : 1 ≤ A0 2 0 → 1 ≤ A1 2 0) : LInv kept (ac + 1) Z1 (vp_updL f ac (sv A0)) := by
  refine ⟨M1, A1, nxS s0, nxH H0 s0 A0, fl, SL, C0, a0, fun j => if j = ac + 1 then A1 else B0 j, j1, hf0, hf1, hg, hn1, hkp, g1 hgA, g2 h1A, ?_, if_pos rfl, fun j hj => ?_, fun i h1 h2 h3 => ?_⟩
  · unfold nxS
    by_cases h5 : ac < 6
    · rw [if_pos h5] at hs0
      by_cases h6 : s0 = 6
      · rw [if_pos h6, if_neg (by omega)]
      · rw [if_neg h6, if_pos (by omega)]
        omega
    · rw [if_neg h5] at hs0
      rw [if_pos hs0, if_neg (by omega)]
  · by_cases h : j = ac
    · subst h
      show vp_updL f j (sv A0) j = sv (if j = j + 1 then A1 else B0 j)
      rw [pk_uLs, if_neg (by omega), hBa]
    · show vp_updL f ac (sv A0) j = sv (if j = ac + 1 then A1 else B0 j)
      rw [pk_uLn h, if_neg (by omega)]
      exact hfB j (by omega)
  · show nxH H0 s0 A0 (nxS s0 - i) = (if ac + 1 - i = ac + 1 then A1 else B0 (ac + 1 - i))
    rw [if_neg (by omega)]
    by_cases h6 : s0 = 6
    · have e1 : nxS s0 = 6 := by
        unfold nxS
        rw [if_pos h6]
      have e2 : nxH H0 s0 A0 = fun i => if i < 5 then H0 (i + 1) else A0 := by
        unfold nxH
        funext j
        rw [if_pos h6]
      rw [e1] at h3
      rw [e1, e2]
      show (if 6 - i < 5 then H0 (6 - i + 1) else A0) = B0 (ac + 1 - i)
      by_cases hi : i = 1
      · subst hi
        rw [if_neg (by omega), Nat.add_sub_cancel, hBa]
      · have h9 := hHB (i - 1) (by omega) (by omega) (by omega)
        rw [h6] at h9
        rw [if_pos (by omega), show 6 - i + 1 = 6 - (i - 1) by omega, h9, show ac - (i - 1) = ac + 1 - i by omega]
    · have e1 : nxS s0 = s0 + 1 := by
        unfold nxS
        rw [if_neg h6]
      have e2 : nxH H0 s0 A0 = fun i => if i < s0 then H0 i else A0 := by
        unfold nxH
        funext j
        rw [if_neg h6]
      rw [e1] at h3
      rw [e1, e2]
      show (if s0 + 1 - i < s0 then H0 (s0 + 1 - i) else A0) = B0 (ac + 1 - i)
      by_cases hi : i = 1
      · subst hi
        rw [if_neg (by omega), Nat.add_sub_cancel, hBa]
      · have h9 := hHB (i - 1) (by omega) (by omega) (by omega)
        rw [if_pos (by omega), show s0 + 1 - i = s0 - (i - 1) by omega, h9, show ac - (i - 1) = ac + 1 - i by omega]
