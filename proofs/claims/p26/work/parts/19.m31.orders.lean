/-! the point at a place, and what hinders one; orders given and taken back -/
theorem at5_go {T : FS} {A : AS} (h : RC T A) (hA : AV A) {p : Nat} (hp : p < 4096) : ∀ q j, j ≤ A 2 0 → A 2 0 - j < q → (∀ i, i < j → ¬ A 0 i = p) → (∃ i, i < A 2 0 ∧ A 0 i = p ∧ fX3_pointAt_L2 T (nI (4096 + p)) q (nI j) = some (nI i)) ∨ ((∀ i, i < A 2 0 → ¬ A 0 i = p) ∧ fX3_pointAt_L2 T (nI (4096 + p)) q (nI j) = some (-6)) := by
  have hn := hA.1
  intro q
  induction q with
  | zero => intro j _ h2; omega
  | succ q ih =>
    intro j h1 h2 h3
    rw [fX3_pointAt_L2, h.1 0 (by decide)]
    by_cases hj : j = A 2 0
    · subst hj
      rw [if_pos (nI_le (Nat.le_refl _) (by omega))]
      exact Or.inr ⟨h3, rfl⟩
    · have h4 : j < A 2 0 := by omega
      have h5 := hA.2.2.2.2.1 j h4
      rw [if_neg (nI_ge h4 (by omega)), placeOf_v h hA h4, Option.bind_some]
      by_cases he : A 0 j = p
      · rw [if_pos (by rw [he])]
        exact Or.inl ⟨j, h4, he, rfl⟩
      · rw [if_neg (fun e => he (by have := (nI_eq (by omega) (by omega)).mp e; omega)), nI_1]
        refine ih (j + 1) (by omega) (by omega) fun i hi => ?_
        by_cases hij : i = j
        · subst hij; exact he
        · exact h3 i (by omega)
theorem xy_eq {x y p : Nat} (hx : x < 64) (hy : y < 64) (hp : p < 4096) : (xof 6 p = x ∧ yof 6 p = y) ↔ p = pth 6 x y := by
  constructor
  · rintro ⟨e1, e2⟩
    rw [← e1, ← e2, pth_xy 6 p hp]
  · intro e
    rw [e, xof_pth 6 x y hx, yof_pth 6 x y hy]
    exact ⟨rfl, rfl⟩
theorem at8_step {r : FA} {A : AS} (h : RM r A) (hA : AV A) {x y : Nat} (hx : x < 64) (hy : y < 64) (q j : Nat) (v : Int32) (hj : j < A 2 0) : fX8_pointAt_L6 r (nI x) (nI y) (q + 1) v (nI j) = fX8_pointAt_L6 r (nI x) (nI y) q (if A 0 j = pth 6 x y then nI j else v) (nI (j + 1)) := by
  have hn := hA.1
  have h5 := h.2.2.2.2.1 j hj
  have h6 := hA.2.2.2.2.1 j hj
  have bx := xof_lt 6 (A 0 j)
  have by' := yof_lt 6 (A 0 j)
  have e64 : (2 : Nat) ^ 6 = 64 := by decide
  rw [fX8_pointAt_L6, h.1, if_neg (nI_ge hj (by omega)), idx3, idx2, rd_v _ (by omega) (by decide), rd_v _ (by omega) (by decide), h5.1, h5.2, Option.bind_some, Option.bind_some, nI_1]
  by_cases e : A 0 j = pth 6 x y
  · obtain ⟨a, b⟩ := (xy_eq hx hy h6).mpr e
    rw [if_pos e, if_pos (by rw [a]), if_pos (by rw [b])]
  · rw [if_neg e]
    by_cases a : xof 6 (A 0 j) = x
    · have b : ¬ yof 6 (A 0 j) = y := fun b => e ((xy_eq hx hy h6).mp ⟨a, b⟩)
      rw [if_pos (by rw [a]), if_neg (fun e2 => b ((nI_eq (by omega) (by omega)).mp e2))]
    · rw [if_neg (fun e2 => a ((nI_eq (by omega) (by omega)).mp e2))]
theorem at8_some {r : FA} {A : AS} (h : RM r A) (hA : AV A) {x y i : Nat} (hx : x < 64) (hy : y < 64) (hi : i < A 2 0) (e : A 0 i = pth 6 x y) : ∀ q j, j ≤ A 2 0 → A 2 0 - j < q → fX8_pointAt_L6 r (nI x) (nI y) q (if j ≤ i then -6 else nI i) (nI j) = some (nI i) := by
  have hn := hA.1
  intro q
  induction q with
  | zero => intro j _ h2; omega
  | succ q ih =>
    intro j h1 h2
    by_cases hj : j = A 2 0
    · subst hj
      rw [fX8_pointAt_L6, h.1, if_pos (nI_le (Nat.le_refl _) (by omega)), if_neg (by omega)]
    · have h4 : j < A 2 0 := by omega
      rw [at8_step h hA hx hy q j _ h4]
      have ih := ih (j + 1) (by omega) (by omega)
      by_cases e2 : A 0 j = pth 6 x y
      · have e3 := hA.2.2.2.2.2.1 j i h4 hi (by rw [e, e2])
        subst e3
        rw [if_pos e2]
        rw [if_neg (by omega)] at ih
        exact ih
      · rw [if_neg e2]
        have hne : ¬ j = i := fun e3 => e2 (by rw [e3, e])
        by_cases h5 : j ≤ i
        · rw [if_pos h5]
          rw [if_pos (by omega)] at ih
          exact ih
        · rw [if_neg h5]
          rw [if_neg (by omega)] at ih
          exact ih
theorem at8_none {r : FA} {A : AS} (h : RM r A) (hA : AV A) {x y : Nat} (hx : x < 64) (hy : y < 64) (hno : ∀ i, i < A 2 0 → ¬ A 0 i = pth 6 x y) : ∀ q j, j ≤ A 2 0 → A 2 0 - j < q → fX8_pointAt_L6 r (nI x) (nI y) q (-6) (nI j) = some (-6) := by
  have hn := hA.1
  intro q
  induction q with
  | zero => intro j _ h2; omega
  | succ q ih =>
    intro j h1 h2
    by_cases hj : j = A 2 0
    · subst hj
      rw [fX8_pointAt_L6, h.1, if_pos (nI_le (Nat.le_refl _) (by omega))]
    · have h4 : j < A 2 0 := by omega
      rw [at8_step h hA hx hy q j _ h4, if_neg (hno j h4)]
      exact ih (j + 1) (by omega) (by omega)
theorem at_v {T : FS} {r : FA} {A : AS} (h : RC T A) (h8 : RM r A) (hA : AV A) {x y : Nat} (hx : x < 64) (hy : y < 64) : (∃ i, i < A 2 0 ∧ A 0 i = pth 6 x y ∧ fX3_pointAt T (nI (4096 + pth 6 x y)) = some (nI i) ∧ fX8_pointAt r (nI x) (nI y) = some (nI i)) ∨ ((∀ i, i < A 2 0 → ¬ A 0 i = pth 6 x y) ∧ fX3_pointAt T (nI (4096 + pth 6 x y)) = some (-6) ∧ fX8_pointAt r (nI x) (nI y) = some (-6)) := by
  have hn := hA.1
  rcases at5_go h hA (pth_lt 6 x y) 6000 0 (by omega) (by omega) (fun i hi => by omega) with ⟨i, hi, e, e5⟩ | ⟨hno, e5⟩
  · have e8 := at8_some h8 hA hx hy hi e 6000 0 (by omega) (by omega)
    rw [if_pos (Nat.zero_le _), show nI 0 = 0 from rfl] at e8
    rw [show nI 0 = 0 from rfl] at e5
    exact Or.inl ⟨i, hi, e, e5, e8⟩
  · have e8 := at8_none h8 hA hx hy hno 6000 0 (by omega) (by omega)
    rw [show nI 0 = 0 from rfl] at e8 e5
    exact Or.inr ⟨hno, e5, e8⟩
theorem err_v {T : FS} {M : FS} {A : AS} (h : RC T A) (h8 : RM (M 0) A) (hA : AV A) {x y : Nat} (hx : x < 64) (hy : y < 64) : ∃ e : Int32, fX3_errorOfPointAt T (nI (4096 + pth 6 x y)) = some e ∧ fX8_pointError M (nI x) (nI y) = some e ∧ ((e = 0 ∧ A 2 0 < 50 ∧ ∀ i, i < A 2 0 → ¬ A 0 i = pth 6 x y) ∨ (¬ e = 0 ∧ ¬ 0 ≤ e)) := by
  have hn := hA.1
  rw [fX3_errorOfPointAt, fX8_pointError, isPlace8_in hx hy, Option.bind_some, if_neg (show ¬ (1:Int32) = 0 by decide), h.1 0 (by decide), h8.1]
  rcases at_v h h8 hA hx hy with ⟨i, hi, e, e5, e8⟩ | ⟨hno, e5, e8⟩
  · rw [e5, e8, Option.bind_some, Option.bind_some, if_neg (ne6 (by omega)), if_neg (ne6 (by omega))]
    exact ⟨-5, rfl, rfl, Or.inr ⟨by decide, by decide⟩⟩
  · rw [e5, e8, Option.bind_some, Option.bind_some, if_pos rfl, if_pos rfl]
    by_cases h50 : A 2 0 < 50
    · rw [if_pos (show nI (A 2 0) < 50 from nI_lt (b := 50) h50 (by decide)), if_neg (show ¬ nI (A 2 0) = 50 from fun e => by have := (nI_eq (b := 50) (by omega) (by decide)).mp e; omega)]
      exact ⟨0, rfl, rfl, Or.inl ⟨rfl, h50, hno⟩⟩
    · have : A 2 0 = 50 := by omega
      rw [this, if_neg (show ¬ nI 50 < 50 by decide), if_pos (show nI 50 = 50 from rfl)]
      exact ⟨-4, rfl, rfl, Or.inr ⟨by decide, by decide⟩⟩
def aOrd (A : AS) (t : Nat) : AS := mkA (A 0) (upN (A 1) (A 2 1) t) (A 2 0) (A 2 1 + 1) (A 2 2) (A 2 3)
def aUno (A : AS) (i : Nat) : AS := mkA (A 0) (upN (A 1) i (A 1 (A 2 1 - 1))) (A 2 0) (A 2 1 - 1) (A 2 2) (A 2 3)
theorem AV_ord {A : AS} (hA : AV A) {t : Nat} (ht : t < 8192) (hk : A 2 1 < 12) (hx : ∀ i, i < A 2 1 → ¬ A 1 i = t) : AV (aOrd A t) := by
  obtain ⟨a1, a2, a3, a4, a5, a6, a7, a8⟩ := hA
  refine ⟨a1, show A 2 1 + 1 ≤ 12 by omega, a3, a4, a5, a6, fun i hi => ?_, fun i j hi hj e => ?_⟩
  · have hi : i < A 2 1 + 1 := hi
    show upN (A 1) (A 2 1) t i < 8192
    by_cases h : i = A 2 1
    · rw [h, upN_s]
      exact ht
    · rw [upN_n h]
      exact a7 i (by omega)
  · have hi : i < A 2 1 + 1 := hi
    have hj : j < A 2 1 + 1 := hj
    have e : upN (A 1) (A 2 1) t i = upN (A 1) (A 2 1) t j := e
    by_cases h : i = A 2 1
    · by_cases h2 : j = A 2 1
      · omega
      · rw [h, upN_s, upN_n h2] at e
        exact absurd e.symm (hx j (by omega))
    · by_cases h2 : j = A 2 1
      · rw [h2, upN_s, upN_n h] at e
        exact absurd e (hx i (by omega))
      · rw [upN_n h, upN_n h2] at e
        exact a8 i j (by omega) (by omega) e
theorem uno_inj {o : Nat → Nat} {k i : Nat} (hi : i < k) (ho : ∀ a b, a < k → b < k → o a = o b → a = b) : ∀ a b, a < k - 1 → b < k - 1 → upN o i (o (k - 1)) a = upN o i (o (k - 1)) b → a = b := by
  intro a b ha hb e
  by_cases h : a = i
  · by_cases h2 : b = i
    · omega
    · rw [h, upN_s, upN_n h2] at e
      have := ho (k - 1) b (by omega) (by omega) e
      omega
  · by_cases h2 : b = i
    · rw [h2, upN_s, upN_n h] at e
      have := ho a (k - 1) (by omega) (by omega) e
      omega
    · rw [upN_n h, upN_n h2] at e
      exact ho a b (by omega) (by omega) e
theorem flt_inj {o : Nat → Nat} {k i : Nat} (hi : i < k) (ho : ∀ a b, a < k → b < k → o a = o b → a = b) : ∀ a b, a < k - 1 → b < k - 1 → tkN o i a = tkN o i b → a = b := by
  intro a b ha hb e
  unfold tkN at e
  by_cases h : a < i
  · rw [if_pos h] at e
    by_cases h2 : b < i
    · rw [if_pos h2] at e
      exact ho a b (by omega) (by omega) e
    · rw [if_neg h2] at e
      have := ho a (b + 1) (by omega) (by omega) e
      omega
  · rw [if_neg h] at e
    by_cases h2 : b < i
    · rw [if_pos h2] at e
      have := ho (a + 1) b (by omega) (by omega) e
      omega
    · rw [if_neg h2] at e
      have := ho (a + 1) (b + 1) (by omega) (by omega) e
      omega
theorem AV_uno {A : AS} (hA : AV A) {i : Nat} (hi : i < A 2 1) : AV (aUno A i) := by
  obtain ⟨a1, a2, a3, a4, a5, a6, a7, a8⟩ := hA
  refine ⟨a1, show A 2 1 - 1 ≤ 12 by omega, a3, a4, a5, a6, fun j hj => ?_, uno_inj hi a8⟩
  have hj : j < A 2 1 - 1 := hj
  show upN (A 1) i (A 1 (A 2 1 - 1)) j < 8192
  by_cases h : j = i
  · rw [h, upN_s]
    exact a7 _ (by omega)
  · rw [upN_n h]
    exact a7 j (by omega)
theorem odb_uno {o : Nat → Nat} {k i t : Nat} (hi : i < k) (e : o i = t) (ho : ∀ a b, a < k → b < k → o a = o b → a = b) (u : Nat) : odb (upN o i (o (k - 1))) u (k - 1) = true ↔ odb o u k = true ∧ ¬ u = t := by
  rw [odb_iff, odb_iff]
  constructor
  · rintro ⟨j, hj, e2⟩
    by_cases h : j = i
    · rw [h, upN_s] at e2
      refine ⟨⟨k - 1, by omega, e2⟩, fun e3 => ?_⟩
      have := ho (k - 1) i (by omega) hi (by rw [e2, e3, e])
      omega
    · rw [upN_n h] at e2
      refine ⟨⟨j, by omega, e2⟩, fun e3 => ?_⟩
      exact h (ho j i (by omega) hi (by rw [e2, e3, e]))
  · rintro ⟨⟨j, hj, e2⟩, hne⟩
    have h : ¬ j = i := fun h => hne (by rw [← e2, h, e])
    by_cases h2 : j = k - 1
    · refine ⟨i, by omega, ?_⟩
      rw [upN_s, ← h2, e2]
    · refine ⟨j, by omega, ?_⟩
      rw [upN_n h, e2]
theorem odb_flt {o : Nat → Nat} {k i t : Nat} (hi : i < k) (e : o i = t) (ho : ∀ a b, a < k → b < k → o a = o b → a = b) (u : Nat) : odb (tkN o i) u (k - 1) = true ↔ odb o u k = true ∧ ¬ u = t := by
  rw [odb_iff, odb_iff]
  constructor
  · rintro ⟨j, hj, e2⟩
    unfold tkN at e2
    by_cases h : j < i
    · rw [if_pos h] at e2
      refine ⟨⟨j, by omega, e2⟩, fun e3 => ?_⟩
      have := ho j i (by omega) hi (by rw [e2, e3, e])
      omega
    · rw [if_neg h] at e2
      refine ⟨⟨j + 1, by omega, e2⟩, fun e3 => ?_⟩
      have := ho (j + 1) i (by omega) hi (by rw [e2, e3, e])
      omega
  · rintro ⟨⟨j, hj, e2⟩, hne⟩
    have h : ¬ j = i := fun h => hne (by rw [← e2, h, e])
    by_cases h2 : j < i
    · exact ⟨j, by omega, by unfold tkN; rw [if_pos h2, e2]⟩
    · exact ⟨j - 1, by omega, by unfold tkN; rw [if_neg (by omega), show j - 1 + 1 = j by omega, e2]⟩
theorem odb_congr {o o2 : Nat → Nat} {t : Nat} : ∀ k, (∀ i, i < k → o i = o2 i) → odb o t k = odb o2 t k
  | 0, _ => rfl
  | k + 1, h => by rw [odb, odb, odb_congr k (fun i hi => h i (by omega)), h k (by omega)]
theorem addOrder_v {T : FS} {A : AS} (h : RT T A) (hk : A 2 1 < 12) (t : Nat) : ∃ S, fX3_addOrder T (nI t) = some S ∧ RT (sr S 3 (T 3)) (aOrd A t) := by
  refine ⟨sf (sr T 1 (upd (T 1) (A 2 1) (nI t))) 2 1 (nI (A 2 1 + 1)), ?_, ⟨fun j hj => ?_, fun j hj => ?_, fun j hj => ?_⟩, fun d u hu => ?_⟩
  · rw [fX3_addOrder, h.1.1 1 (by decide), if_neg (show ¬ (12:Int32) ≤ nI (A 2 1) from nI_ge (b := 12) hk (by decide)), wr_v _ _ hk (by decide), Option.bind_some, Option.bind_some, Option.bind_some, show sr T 1 (upd (T 1) (A 2 1) (nI t)) 2 1 = nI (A 2 1) from h.1.1 1 (by decide), nI_1]
  · rcases (show j = 0 ∨ j = 1 ∨ j = 2 ∨ j = 3 by omega) with rfl | rfl | rfl | rfl
    · exact h.1.1 0 (by decide)
    · rfl
    · exact h.1.1 2 (by decide)
    · exact h.1.1 3 (by decide)
  · exact h.1.2.1 j hj
  · have hj : j < A 2 1 + 1 := hj
    show upd (T 1) (A 2 1) (nI t) j = nI (upN (A 1) (A 2 1) t j)
    by_cases e : j = A 2 1
    · rw [e, pk_us, upN_s]
    · rw [pk_un e, upN_n e]
      exact h.1.2.2 j (by omega)
  · exact h.2 d u hu
theorem removeOrder_v {T : FS} {A : AS} (h : RT T A) (hA : AV A) {t : Nat} (ht : t < 8192) (ho : odb (A 1) t (A 2 1) = true) : ∃ S i, i < A 2 1 ∧ A 1 i = t ∧ fX3_removeOrder T (nI t) = some S ∧ RT (sr S 3 (T 3)) (aUno A i) := by
  have hk := hA.2.1
  rcases idx_go h.1 hA ht 6000 0 (by omega) (by omega) (fun i hi => by omega) with ⟨i, hi, e, e2⟩ | ⟨hn, e2⟩
  · rw [show nI 0 = 0 from rfl] at e2
    refine ⟨sf (sr T 1 (upd (T 1) i (nI (A 1 (A 2 1 - 1))))) 2 1 (nI (A 2 1 - 1)), i, hi, e, ?_, ⟨fun j hj => ?_, fun j hj => ?_, fun j hj => ?_⟩, fun d u hu => ?_⟩
    · rw [fX3_removeOrder, fX3_indexOfOrder, e2, Option.bind_some, if_neg (ne6 (by omega)), h.1.1 1 (by decide), show nI (A 2 1) - (1:Int32) = nI (A 2 1 - 1) from nI_sub (b := 1) (by omega), rd_v _ (by omega) (by decide), Option.bind_some, h.1.2.2 _ (show A 2 1 - 1 < A 2 1 by omega), wr_v _ _ (by omega) (by decide), Option.bind_some, Option.bind_some, Option.bind_some, show sr T 1 (upd (T 1) i (nI (A 1 (A 2 1 - 1)))) 2 1 = nI (A 2 1) from h.1.1 1 (by decide), show nI (A 2 1) - (1:Int32) = nI (A 2 1 - 1) from nI_sub (b := 1) (by omega)]
    · rcases (show j = 0 ∨ j = 1 ∨ j = 2 ∨ j = 3 by omega) with rfl | rfl | rfl | rfl
      · exact h.1.1 0 (by decide)
      · rfl
      · exact h.1.1 2 (by decide)
      · exact h.1.1 3 (by decide)
    · exact h.1.2.1 j hj
    · have hj : j < A 2 1 - 1 := hj
      show upd (T 1) i (nI (A 1 (A 2 1 - 1))) j = nI (upN (A 1) i (A 1 (A 2 1 - 1)) j)
      by_cases e : j = i
      · rw [e, pk_us, upN_s]
      · rw [pk_un e, upN_n e]
        exact h.1.2.2 j (by omega)
    · exact h.2 d u hu
  · obtain ⟨i, hi, e⟩ := (odb_iff _ _ _).mp ho
    exact absurd e (hn i hi)
theorem RM_ord {r : FA} {A : AS} (h : RM r A) (hA : AV A) {t : Nat} (hk : A 2 1 < 12) (ho : odb (A 1) t (A 2 1) = false) : RM (upd (upd r (104 + A 2 1) (nI t)) 3 (nI (A 2 1 + 1))) (aOrd A t) := by
  have hn := hA.1
  obtain ⟨h1, h2, h3, h4, h5, o, h6, h7, h8⟩ := h
  have old : ∀ j, ¬ j = 104 + A 2 1 → ¬ j = 3 → upd (upd r (104 + A 2 1) (nI t)) 3 (nI (A 2 1 + 1)) j = r j := by
    intro j b c
    rw [pk_un c, pk_un b]
  refine ⟨?_, ?_, ?_, pk_us, fun j hj => ?_, upN o (A 2 1) t, fun j hj => ?_, fun i j hi hj e => ?_, fun u => ?_⟩
  · rw [old 0 (by omega) (by omega)]
    exact h1
  · rw [old 1 (by omega) (by omega)]
    exact h2
  · rw [old 2 (by omega) (by omega)]
    exact h3
  · have hj : j < A 2 0 := hj
    rw [old _ (by omega) (by omega), old _ (by omega) (by omega)]
    exact h5 j hj
  · have hj : j < A 2 1 + 1 := hj
    by_cases e : j = A 2 1
    · rw [e, upN_s, pk_un (by omega), pk_us]
    · rw [upN_n e, old _ (by omega) (by omega)]
      exact h6 j (by omega)
  · have hi : i < A 2 1 + 1 := hi
    have hj : j < A 2 1 + 1 := hj
    have hx : ∀ i, i < A 2 1 → ¬ o i = t := by
      intro i hi e
      have := (odb_iff o t (A 2 1)).mpr ⟨i, hi, e⟩
      rw [h8, ho] at this
      cases this
    by_cases h : i = A 2 1
    · by_cases h2 : j = A 2 1
      · omega
      · rw [h, upN_s, upN_n h2] at e
        exact absurd e.symm (hx j (by omega))
    · by_cases h2 : j = A 2 1
      · rw [h2, upN_s, upN_n h] at e
        exact absurd e (hx i (by omega))
      · rw [upN_n h, upN_n h2] at e
        exact h7 i j (by omega) (by omega) e
  · show odb (upN o (A 2 1) t) u (A 2 1 + 1) = odb (upN (A 1) (A 2 1) t) u (A 2 1 + 1)
    rw [odb, odb, upN_s, upN_s, odb_congr (o := upN o (A 2 1) t) (o2 := o) (A 2 1) (fun i hi => upN_n (by omega)), odb_congr (o := upN (A 1) (A 2 1) t) (o2 := A 1) (A 2 1) (fun i hi => upN_n (by omega)), h8]
theorem fgt_go {M : FS} {r : FA} {o : Nat → Nat} {k e t : Nat} (hk : k ≤ 12) (he : e < k) (het : o e = t) (hb : ∀ i, i < k → o i < 8192) (ho : ∀ a b, a < k → b < k → o a = o b → a = b) : ∀ q j m f, j ≤ k → k - j < q → ((j ≤ e ∧ m = j) ∨ (e < j ∧ m = j - 1)) → f 3 = nI k → (∀ i, i < m → f (104 + i) = nI (tkN o e i)) → (∀ i, j ≤ i → i < k → f (104 + i) = nI (o i)) → (∀ i, i < 104 → f i = r i) → ∃ g : FA, fX8_forgets_L4 (nI t) q (sr M 0 f) (nI m) (nI j) = some (sr M 0 g) ∧ g 3 = nI (k - 1) ∧ (∀ i, i < k - 1 → g (104 + i) = nI (tkN o e i)) ∧ ∀ i, i < 104 → ¬ i = 3 → g i = r i := by
  have htb : t < 8192 := by rw [← het]; exact hb e he
  intro q
  induction q with
  | zero => intro j m f _ h2; omega
  | succ q ih =>
    intro j m f h1 h2 h3 h4 h5 h6 h7
    rw [fX8_forgets_L4, sr_at, h4]
    by_cases hj : j = k
    · subst hj
      have hm : m = j - 1 := by omega
      subst hm
      rw [if_pos (nI_le (Nat.le_refl _) (by omega)), show (3:Int32) = nI 3 from rfl, wr_v _ _ (by decide) (by decide), Option.bind_some, Option.bind_some, sr_sr]
      refine ⟨upd f 3 (nI (j - 1)), rfl, pk_us, fun i hi => ?_, fun i hi hi3 => ?_⟩
      · rw [pk_un (by omega)]
        exact h5 i hi
      · rw [pk_un hi3]
        exact h7 i hi
    · have h8 : j < k := by omega
      have hoj := hb j h8
      rw [if_neg (nI_ge h8 (by omega)), show (104:Int32) + nI j = nI (104 + j) from nI_add 104 j, rd_v _ (by omega) (by decide), h6 j (Nat.le_refl _) h8, Option.bind_some, wr_v _ _ (by omega) (by decide), Option.bind_some, Option.bind_some, sr_sr, nI_1]
      by_cases hjt : o j = t
      · have hje := ho j e h8 he (by rw [hjt, het])
        subst hje
        rw [if_pos (by rw [hjt])]
        refine ih (j + 1) m (upd f (104 + j) 0) (by omega) (by omega) (Or.inr ⟨by omega, by omega⟩) ?_ (fun i hi => ?_) (fun i hi hi2 => ?_) (fun i hi => ?_)
        · rw [pk_un (by omega)]
          exact h4
        · rw [pk_un (by omega)]
          exact h5 i hi
        · rw [pk_un (by omega)]
          exact h6 i (by omega) hi2
        · rw [pk_un (by omega)]
          exact h7 i hi
      · have hje : ¬ j = e := fun h => hjt (by rw [h, het])
        rw [if_neg (fun e2 => hjt ((nI_eq (by omega) (by omega)).mp e2)), sr_at, show (104:Int32) + nI m = nI (104 + m) from nI_add 104 m, wr_v _ _ (by omega) (by decide), Option.bind_some, Option.bind_some, sr_sr, nI_1]
        refine ih (j + 1) (m + 1) (upd (upd f (104 + j) 0) (104 + m) (nI (o j))) (by omega) (by omega) (by omega) ?_ (fun i hi => ?_) (fun i hi hi2 => ?_) (fun i hi => ?_)
        · rw [pk_un (by omega), pk_un (by omega)]
          exact h4
        · by_cases him : i = m
          · subst him
            rw [pk_us]
            unfold tkN
            by_cases hie : i < e
            · rw [if_pos hie, show j = i by omega]
            · rw [if_neg hie, show j = i + 1 by omega]
          · rw [pk_un (by omega), pk_un (by omega)]
            exact h5 i (by omega)
        · rw [pk_un (by omega), pk_un (by omega)]
          exact h6 i (by omega) hi2
        · rw [pk_un (by omega), pk_un (by omega)]
          exact h7 i hi
theorem forgets_v {M : FS} {A : AS} (h : RM (M 0) A) (hA : AV A) {t i : Nat} (hi : i < A 2 1) (hit : A 1 i = t) : ∃ g : FA, fX8_forgets M (nI t) = some (sr M 0 g) ∧ RM g (aUno A i) := by
  have hk := hA.2.1
  have hn := hA.1
  obtain ⟨h1, h2, h3, h4, h5, o, h6, h7, h8⟩ := h
  have hob : ∀ j, j < A 2 1 → o j < 8192 := by
    intro j hj
    have a := (odb_iff o (o j) (A 2 1)).mpr ⟨j, hj, rfl⟩
    rw [h8] at a
    obtain ⟨l, hl, e⟩ := (odb_iff _ _ _).mp a
    rw [← e]
    exact hA.2.2.2.2.2.2.1 l hl
  have a := (odb_iff (A 1) t (A 2 1)).mpr ⟨i, hi, hit⟩
  rw [← h8] at a
  obtain ⟨e, he, het⟩ := (odb_iff _ _ _).mp a
  obtain ⟨g, g1, g2, g3, g4⟩ := fgt_go (M := M) (r := M 0) hk he het hob h7 6000 0 0 (M 0) (by omega) (by omega) (Or.inl ⟨by omega, rfl⟩) h4 (fun i hi => by omega) (fun i _ hi => h6 i hi) (fun i _ => rfl)
  rw [sr_self, show nI 0 = 0 from rfl] at g1
  refine ⟨g, g1, ?_, ?_, ?_, g2, fun j hj => ?_, tkN o e, g3, flt_inj he h7, fun u => ?_⟩
  · rw [g4 0 (by omega) (by omega)]
    exact h1
  · rw [g4 1 (by omega) (by omega)]
    exact h2
  · rw [g4 2 (by omega) (by omega)]
    exact h3
  · have hj : j < A 2 0 := hj
    rw [g4 _ (by omega) (by omega), g4 _ (by omega) (by omega)]
    exact h5 j hj
  · show odb (tkN o e) u (A 2 1 - 1) = odb (upN (A 1) i (A 1 (A 2 1 - 1))) u (A 2 1 - 1)
    apply Bool.eq_iff_iff.mpr
    rw [odb_flt he het h7 u, odb_uno hi hit hA.2.2.2.2.2.2.2 u, h8]
