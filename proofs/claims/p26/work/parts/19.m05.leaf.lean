/-! the reference on a plan: points and orders of a tile, splits; leaves around a place, on either side -/
theorem idx2 (i : Nat) : (4:Int32) + (2:Int32) * nI i = nI (4 + 2 * i) := by
  rw [show (2:Int32) * nI i = nI (2 * i) from pk_mul 2 i]
  exact nI_add 4 (2 * i)
theorem idx3 (i : Nat) : (4:Int32) + (2:Int32) * nI i + 1 = nI (5 + 2 * i) := by
  rw [idx2, nI_1, show 4 + 2 * i + 1 = 5 + 2 * i by omega]
theorem pathOf_pl {p : Nat} (h : p < 4096) : fX8_pathOf (nI (xof 6 p)) (nI (yof 6 p)) = some (nI p) := by
  rw [pathOf_all _ (xof_lt 6 p) _ (yof_lt 6 p), pth_xy 6 p h]
theorem pathAt_v {r : FA} {A : AS} (h : RM r A) (hA : AV A) {i : Nat} (hi : i < A 2 0) : fX8_pathAt r (nI i) = some (nI (A 0 i)) := by
  have hn := hA.1
  rw [fX8_pathAt, idx3, idx2, rd_v _ (by omega) (by decide), rd_v _ (by omega) (by decide), (h.2.2.2.2.1 i hi).1, (h.2.2.2.2.1 i hi).2]
  show (fX8_pathOf (nI (xof 6 (A 0 i))) (nI (yof 6 (A 0 i)))).bind _ = _
  rw [pathOf_pl (hA.2.2.2.2.1 i hi)]
  rfl
theorem pts_go {r : FA} {A : AS} (h : RM r A) (hA : AV A) {d t : Nat} (ht : tv d t) : ∀ q j, j ≤ A 2 0 → A 2 0 - j < q → fX8_pointsIn_L10 r (nI t) (nI d) q (nI (cnt (A 0) d t j)) (nI j) = some (nI (cnt (A 0) d t (A 2 0))) := by
  have hn := hA.1
  have h0 := tv_lt ht
  intro q
  induction q with
  | zero => intro j _ h2; omega
  | succ q ih =>
    intro j h1 h2
    rw [fX8_pointsIn_L10, h.1]
    by_cases hj : j = A 2 0
    · subst hj
      rw [if_pos (nI_le (Nat.le_refl _) (by omega))]
    · have h4 : j < A 2 0 := by omega
      have h5 := hA.2.2.2.2.1 j h4
      have h6 := tv_lt (tl_tv ht.1 h5)
      rw [if_neg (nI_ge h4 (by omega)), pathAt_v h hA h4]
      rw [Option.bind_some, tileOf_v ht.1 h5, Option.bind_some]
      have ih2 := ih (j + 1) (by omega) (by omega)
      rw [cnt] at ih2
      by_cases he : tl d (A 0 j) = t
      · rw [if_pos (by rw [he])]
        rw [he, Nat.beq_refl t] at ih2
        rw [show nI (cnt (A 0) d t j) + 1 = nI (cnt (A 0) d t j + 1) from nI_1 _, nI_1]
        exact ih2
      · rw [if_neg (fun e => he ((nI_eq (by omega) (by omega)).mp e))]
        rw [show Nat.beq (tl d (A 0 j)) t = false from Bool.eq_false_iff.mpr fun e => he (Nat.eq_of_beq_eq_true e)] at ih2
        rw [show nI (cnt (A 0) d t j) + 0 = nI (cnt (A 0) d t j + 0) from nI_add _ 0, nI_1]
        exact ih2
theorem pointsIn8_v {r : FA} {A : AS} (h : RM r A) (hA : AV A) {d t : Nat} (ht : tv d t) : fX8_pointsIn r (nI t) = some (nI (cnt (A 0) d t (A 2 0))) := by
  have hn := hA.1
  have g := pts_go h hA ht 6000 0 (by omega) (by omega)
  rw [show nI (cnt (A 0) d t 0) = 0 from rfl, show nI 0 = 0 from rfl] at g
  rw [fX8_pointsIn, dep8_tv ht, Option.bind_some, g]
theorem ord_go {r : FA} {k : Nat} {o : Nat → Nat} (hk : k ≤ 12) (h3 : r 3 = nI k) (h : ∀ i, i < k → r (104 + i) = nI (o i)) (ho : ∀ i, i < k → o i < 8192) {t : Nat} (ht : t < 8192) : ∀ q j, j ≤ k → k - j < q → fX8_isOrdered_L4 r (nI t) q (bi (odb o t j)) (nI j) = some (bi (odb o t k)) := by
  intro q
  induction q with
  | zero => intro j _ h2; omega
  | succ q ih =>
    intro j h1 h2
    rw [fX8_isOrdered_L4, h3]
    by_cases hj : j = k
    · subst hj
      rw [if_pos (nI_le (Nat.le_refl _) (by omega))]
      cases odb o t j with
      | true => rfl
      | false => rfl
    · have h4 : j < k := by omega
      have h5 := ho j h4
      have ih2 := ih (j + 1) (by omega) (by omega)
      rw [odb] at ih2
      rw [if_neg (nI_ge h4 (by omega)), nI_1]
      cases hb : odb o t j with
      | true =>
        rw [hb] at ih2
        rw [if_neg (show ¬ bi true = 0 by decide)]
        exact ih2
      | false =>
        rw [hb, Bool.false_or] at ih2
        rw [if_pos (show bi false = 0 from rfl), show (104:Int32) + nI j = nI (104 + j) from nI_add 104 j, rd_v _ (by omega) (by decide), h j h4]
        show (if nI (o j) = nI t then _ else _) = _
        by_cases he : o j = t
        · rw [if_pos (by rw [he])]
          rw [he, Nat.beq_refl t] at ih2
          exact ih2
        · rw [if_neg (fun e => he ((nI_eq (by omega) (by omega)).mp e))]
          rw [show Nat.beq (o j) t = false from Bool.eq_false_iff.mpr fun e => he (Nat.eq_of_beq_eq_true e)] at ih2
          exact ih2
theorem isOrdered8_v {r : FA} {A : AS} (h : RM r A) (hA : AV A) {t : Nat} (ht : t < 8192) : fX8_isOrdered r (nI t) = some (bi (odb (A 1) t (A 2 1))) := by
  have hk := hA.2.1
  obtain ⟨o, h1, h2, h3⟩ := h.2.2.2.2.2
  have ho : ∀ i, i < A 2 1 → o i < 8192 := by
    intro i hi
    have h4 := (odb_iff o (o i) (A 2 1)).mpr ⟨i, hi, rfl⟩
    rw [h3] at h4
    obtain ⟨j, hj, e⟩ := (odb_iff _ _ _).mp h4
    rw [← e]
    exact hA.2.2.2.2.2.2.1 j hj
  rw [fX8_isOrdered, ← h3 t]
  exact ord_go hk h.2.2.2.1 h1 ho ht 6000 0 (by omega) (by omega)
theorem split8_v {r : FA} {A : AS} (h : RM r A) (hA : AV A) {d t : Nat} (ht : tv d t) : fX8_isSplit r (nI t) = some (bi (spb A d t)) := by
  have h0 := tv_lt ht
  have hd := ht.1
  have hc := cnt_le (A 0) d t (A 2 0)
  have hn := hA.1
  have hf := hA.2.2.1
  have hdp := hA.2.2.2.1
  rw [fX8_isSplit, dep8_tv ht, h.2.2.1, h.2.1, spb]
  show (if nI (A 2 3) ≤ nI d then _ else _) = _
  by_cases h1 : d < A 2 3
  · rw [if_neg (nI_ge h1 (by omega)), isOrdered8_v h hA h0.2, show Nat.blt d (A 2 3) = true from Nat.ble_eq_true_of_le h1, Bool.true_and]
    cases odb (A 1) t (A 2 1) with
    | true =>
      rw [Bool.or_true]
      rfl
    | false =>
      rw [Bool.or_false]
      show (fX8_pointsIn r (nI t)).bind _ = _
      rw [pointsIn8_v h hA ht]
      show (if nI (cnt (A 0) d t (A 2 0)) ≤ nI (A 2 2) then _ else _) = _
      by_cases h2 : A 2 2 < cnt (A 0) d t (A 2 0)
      · rw [if_neg (nI_ge h2 (by omega)), show Nat.blt (A 2 2) (cnt (A 0) d t (A 2 0)) = true from Nat.ble_eq_true_of_le h2]
        rfl
      · rw [if_pos (nI_le (Nat.not_lt.mp h2) (by omega)), show Nat.blt (A 2 2) (cnt (A 0) d t (A 2 0)) = false from Bool.eq_false_iff.mpr fun e => h2 (Nat.le_of_ble_eq_true e)]
        rfl
  · rw [if_pos (nI_le (Nat.not_lt.mp h1) (by omega)), show Nat.blt d (A 2 3) = false from Bool.eq_false_iff.mpr fun e => h1 (Nat.le_of_ble_eq_true e)]
    rfl
/-- the depth of the leaf around a place -/
def ldg (A : AS) (p : Nat) : Nat → Nat → Nat
  | 0, d => d
  | q + 1, d => cond (spb A d (tl d p)) (ldg A p q (d + 1)) d
def ld (A : AS) (p : Nat) : Nat := ldg A p 6 0
theorem spb_deep {A : AS} {d t : Nat} (h : A 2 3 ≤ d) : spb A d t = false := by
  rw [spb, show Nat.blt d (A 2 3) = false from Bool.eq_false_iff.mpr fun e => by have : d + 1 ≤ A 2 3 := Nat.le_of_ble_eq_true e; omega]
  rfl
theorem ldg_spec {A : AS} (hA : AV A) (p : Nat) : ∀ q d, d + q = 6 → (∀ e, e < d → spb A e (tl e p) = true) → ldg A p q d ≤ 6 ∧ (∀ e, e < ldg A p q d → spb A e (tl e p) = true) ∧ spb A (ldg A p q d) (tl (ldg A p q d) p) = false := by
  intro q
  induction q with
  | zero =>
    intro d h1 h2
    exact ⟨by rw [ldg]; omega, h2, spb_deep (by rw [ldg]; have := hA.2.2.2.1; omega)⟩
  | succ q ih =>
    intro d h1 h2
    rw [ldg]
    cases hb : spb A d (tl d p) with
    | true =>
      refine ih (d + 1) (by omega) fun e he => ?_
      by_cases hed : e = d
      · subst hed; exact hb
      · exact h2 e (by omega)
    | false => exact ⟨by show d ≤ 6; omega, h2, hb⟩
theorem ld_spec {A : AS} (hA : AV A) (p : Nat) : ld A p ≤ 6 ∧ (∀ e, e < ld A p → spb A e (tl e p) = true) ∧ spb A (ld A p) (tl (ld A p) p) = false := ldg_spec hA p 6 0 rfl fun e he => by omega
theorem ld_uniq {A : AS} (hA : AV A) {p d : Nat} (h1 : ∀ e, e < d → spb A e (tl e p) = true) (h2 : spb A d (tl d p) = false) : ld A p = d := by
  obtain ⟨_, h4, h5⟩ := ld_spec hA p
  rcases Nat.lt_trichotomy (ld A p) d with h | h | h
  · rw [h1 _ h] at h5
    cases h5
  · exact h
  · rw [h4 _ h] at h2
    cases h2
theorem leaf8_go {r : FA} {A : AS} (h : RM r A) (hA : AV A) {p : Nat} (hp : p < 4096) : ∀ q j, j ≤ ld A p → ld A p - j < q → fX8_leafOf_L2 r (nI p) q (nI j) = some (nI (tl (ld A p) p)) := by
  obtain ⟨g1, g2, g3⟩ := ld_spec hA p
  intro q
  induction q with
  | zero => intro j _ h2; omega
  | succ q ih =>
    intro j h1 h2
    rw [fX8_leafOf_L2, tileOf_v (by omega) hp]
    show (fX8_isSplit r (nI (tl j p))).bind _ = _
    rw [split8_v h hA (tl_tv (by omega) hp)]
    show (if bi (spb A j (tl j p)) = 0 then _ else _) = _
    by_cases hj : j = ld A p
    · subst hj
      rw [g3]
      rfl
    · rw [g2 j (by omega), if_neg (show ¬ bi true = 0 by decide), nI_1]
      exact ih (j + 1) (by omega) (by omega)
theorem leafOf8_v {r : FA} {A : AS} (h : RM r A) (hA : AV A) {p : Nat} (hp : p < 4096) : fX8_leafOf r (nI p) = some (nI (tl (ld A p) p)) := by
  have := (ld_spec hA p).1
  exact leaf8_go h hA hp 6000 0 (by omega) (by omega)
theorem leaf5_go {T : FS} {A : AS} (h : RT T A) (hA : AV A) {p : Nat} (hp : p < 4096) : ∀ q j, j ≤ ld A p → ld A p - j < q → fX5_depthOfLeafWith_L2 T (nI (4096 + p)) q (nI j) = some (nI (ld A p)) := by
  obtain ⟨g1, g2, g3⟩ := ld_spec hA p
  intro q
  induction q with
  | zero => intro j _ h2; omega
  | succ q ih =>
    intro j h1 h2
    rw [fX5_depthOfLeafWith_L2]
    by_cases h6 : j = 6
    · subst h6
      rw [show ld A p = 6 by omega]
      rfl
    · rw [if_neg (show ¬ (6:Int32) ≤ nI j from nI_ge (b := 6) (by omega) (by decide)), upTo_p (by omega) hp]
      show (fX5_wouldBeSplit T (nI (tl j p)) (nI j)).bind _ = _
      rw [split5_v h hA (tl_tv (by omega) hp)]
      show (if bi (spb A j (tl j p)) = 0 then _ else _) = _
      by_cases hj : j = ld A p
      · subst hj
        rw [g3]
        rfl
      · rw [g2 j (by omega), if_neg (show ¬ bi true = 0 by decide), nI_1]
        exact ih (j + 1) (by omega) (by omega)
theorem depthOfLeaf5_v {T : FS} {A : AS} (h : RT T A) (hA : AV A) {p : Nat} (hp : p < 4096) : fX5_depthOfLeafWith T (nI (4096 + p)) = some (nI (ld A p)) := by
  have := (ld_spec hA p).1
  exact leaf5_go h hA hp 6000 0 (by omega) (by omega)
theorem leafWith5_v {T : FS} {A : AS} (h : RT T A) (hA : AV A) {p : Nat} (hp : p < 4096) : fX5_leafWith T (nI (4096 + p)) = some (nI (tl (ld A p) p)) := by
  rw [fX5_leafWith, depthOfLeaf5_v h hA hp]
  show (fX1_upTo (nI (4096 + p)) 6 (nI (ld A p))).bind _ = _
  rw [upTo_p (ld_spec hA p).1 hp]
  rfl
