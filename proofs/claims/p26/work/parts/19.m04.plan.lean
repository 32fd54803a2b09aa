/-! plans: what they hold, and what either side answers of it -/
abbrev AS : Type := Nat → Nat → Nat
def bi (b : Bool) : Int32 := cond b 1 0
theorem bi_t {b : Bool} (h : b = true) : bi b = 1 := by subst h; rfl
theorem bi_f {b : Bool} (h : ¬ b = true) : bi b = 0 := by cases b with | true => exact absurd rfl h | false => rfl
theorem rd_v {n i : Nat} (f : FA) (h : i < n) (hn : n < 2 ^ 31) : rd n f (nI i) = some (f i) := by
  rw [rd, if_neg (nI_in h hn), nI_clamp (by omega)]
theorem wr_v {n i : Nat} (f : FA) (x : Int32) (h : i < n) (hn : n < 2 ^ 31) : wr n f (nI i) x = some (upd f i x) := by
  rw [wr, if_neg (nI_in h hn), nI_clamp (by omega)]
/-- the points of a tile -/
def cnt (p : Nat → Nat) (d t : Nat) : Nat → Nat
  | 0 => 0
  | n + 1 => cnt p d t n + cond (Nat.beq (tl d (p n)) t) 1 0
theorem cnt_le (p : Nat → Nat) (d t : Nat) : ∀ n, cnt p d t n ≤ n
  | 0 => Nat.le_refl 0
  | n + 1 => by
    have := cnt_le p d t n
    rw [cnt]
    cases Nat.beq (tl d (p n)) t with
    | true => exact Nat.succ_le_succ this
    | false => exact Nat.le_succ_of_le this
def odb (o : Nat → Nat) (t : Nat) : Nat → Bool
  | 0 => false
  | k + 1 => odb o t k || Nat.beq (o k) t
theorem odb_iff (o : Nat → Nat) (t : Nat) : ∀ k, odb o t k = true ↔ ∃ i, i < k ∧ o i = t
  | 0 => Iff.intro (fun h => Bool.noConfusion h) (fun ⟨i, h, _⟩ => absurd h (Nat.not_lt_zero i))
  | k + 1 => by
    rw [odb, Bool.or_eq_true, odb_iff o t k]
    constructor
    · rintro (⟨i, h, e⟩ | h)
      · exact ⟨i, by omega, e⟩
      · exact ⟨k, by omega, Nat.eq_of_beq_eq_true h⟩
    · rintro ⟨i, h, e⟩
      by_cases hi : i = k
      · subst hi
        exact Or.inr (by rw [e]; exact Nat.beq_refl t)
      · exact Or.inl ⟨i, by omega, e⟩
def AV (A : AS) : Prop := A 2 0 ≤ 50 ∧ A 2 1 ≤ 12 ∧ (1 ≤ A 2 2 ∧ A 2 2 ≤ 8) ∧ (1 ≤ A 2 3 ∧ A 2 3 ≤ 6) ∧ (∀ i, i < A 2 0 → A 0 i < 4096) ∧ (∀ i j, i < A 2 0 → j < A 2 0 → A 0 i = A 0 j → i = j) ∧ (∀ i, i < A 2 1 → A 1 i < 8192) ∧ (∀ i j, i < A 2 1 → j < A 2 1 → A 1 i = A 1 j → i = j)
def spb (A : AS) (d t : Nat) : Bool := Nat.blt d (A 2 3) && (Nat.blt (A 2 2) (cnt (A 0) d t (A 2 0)) || odb (A 1) t (A 2 1))
def RC (P : FS) (A : AS) : Prop := (∀ j, j < 4 → P 2 j = nI (A 2 j)) ∧ (∀ i, i < A 2 0 → P 0 i = nI (4096 + A 0 i)) ∧ (∀ i, i < A 2 1 → P 1 i = nI (A 1 i))
def RT (T : FS) (A : AS) : Prop := RC T A ∧ ∀ d t, tv d t → T 3 t = nI (cnt (A 0) d t (A 2 0))
def RM (r : FA) (A : AS) : Prop := r 0 = nI (A 2 0) ∧ r 1 = nI (A 2 2) ∧ r 2 = nI (A 2 3) ∧ r 3 = nI (A 2 1) ∧ (∀ i, i < A 2 0 → r (4 + 2 * i) = nI (xof 6 (A 0 i)) ∧ r (5 + 2 * i) = nI (yof 6 (A 0 i))) ∧ ∃ o : Nat → Nat, (∀ i, i < A 2 1 → r (104 + i) = nI (o i)) ∧ (∀ i j, i < A 2 1 → j < A 2 1 → o i = o j → i = j) ∧ ∀ t, odb o t (A 2 1) = odb (A 1) t (A 2 1)
theorem pointsIn5_v {T : FS} {A : AS} (h : RT T A) {d t : Nat} (ht : tv d t) : fX5_pointsIn T (nI t) = some (nI (cnt (A 0) d t (A 2 0))) := by
  have h0 := tv_lt ht
  rw [fX5_pointsIn, if_neg (show ¬ nI t < 1 from nI_nlt (a := t) (b := 1) (by omega) (by omega)), if_neg (show ¬ (8192:Int32) ≤ nI t from nI_ge (b := 8192) h0.2 (by decide)), rd_v _ (by omega) (by decide), h.2 d t ht]
  rfl
theorem idx_go {P : FS} {A : AS} (h : RC P A) (hA : AV A) {t : Nat} (ht : t < 8192) : ∀ q j, j ≤ A 2 1 → A 2 1 - j < q → (∀ i, i < j → ¬ A 1 i = t) → (∃ i, i < A 2 1 ∧ A 1 i = t ∧ fX3_indexOfOrder_L2 P (nI t) q (nI j) = some (nI i)) ∨ ((∀ i, i < A 2 1 → ¬ A 1 i = t) ∧ fX3_indexOfOrder_L2 P (nI t) q (nI j) = some (-6)) := by
  have hk := hA.2.1
  have ho := hA.2.2.2.2.2.2.1
  intro q
  induction q with
  | zero => intro j _ h2; omega
  | succ q ih =>
    intro j h1 h2 h3
    rw [fX3_indexOfOrder_L2, h.1 1 (by decide)]
    by_cases hj : j = A 2 1
    · subst hj
      rw [if_pos (nI_le (Nat.le_refl _) (by omega))]
      exact Or.inr ⟨h3, rfl⟩
    · have h4 : j < A 2 1 := by omega
      rw [if_neg (nI_ge h4 (by omega)), if_neg (show ¬ (12:Int32) ≤ nI j from nI_ge (b := 12) (by omega) (by decide)), rd_v _ (by omega) (by decide), h.2.2 j h4]
      show (∃ i, i < A 2 1 ∧ A 1 i = t ∧ (if nI (A 1 j) = nI t then _ else _) = _) ∨ (_ ∧ (if nI (A 1 j) = nI t then _ else _) = _)
      have h5 := ho j h4
      by_cases he : A 1 j = t
      · rw [he, if_pos rfl]
        exact Or.inl ⟨j, h4, he, rfl⟩
      · rw [if_neg (fun e => he ((nI_eq (by omega) (by omega)).mp e)), nI_1]
        refine ih (j + 1) (by omega) (by omega) fun i hi => ?_
        by_cases hij : i = j
        · subst hij; exact he
        · exact h3 i (by omega)
theorem isOrdered3_v {P : FS} {A : AS} (h : RC P A) (hA : AV A) {t : Nat} (ht : t < 8192) : fX3_isOrdered P (nI t) = some (bi (odb (A 1) t (A 2 1))) := by
  have hk := hA.2.1
  rw [fX3_isOrdered, fX3_indexOfOrder]
  rcases idx_go h hA ht 6000 0 (by omega) (by omega) (fun i hi => by omega) with ⟨i, hi, e, e2⟩ | ⟨hn, e2⟩
  · rw [show (0:Int32) = nI 0 from rfl, e2, bi_t ((odb_iff _ _ _).mpr ⟨i, hi, e⟩)]
    show (if nI i = -6 then _ else _) = _
    rw [if_neg (ne6 (by omega)), bz1]
  · rw [show (0:Int32) = nI 0 from rfl, e2, bi_f (fun hh => by obtain ⟨i, hi, e⟩ := (odb_iff _ _ _).mp hh; exact hn i hi e)]
    rfl
theorem split5_v {T : FS} {A : AS} (h : RT T A) (hA : AV A) {d t : Nat} (ht : tv d t) : fX5_wouldBeSplit T (nI t) (nI d) = some (bi (spb A d t)) := by
  have h0 := tv_lt ht
  have hd := ht.1
  have hc := cnt_le (A 0) d t (A 2 0)
  have hn := hA.1
  have hf := hA.2.2.1
  have hdp := hA.2.2.2.1
  rw [fX5_wouldBeSplit, h.1.1 3 (by decide), h.1.1 2 (by decide), spb]
  by_cases h1 : d < A 2 3
  · rw [if_neg (nI_ge h1 (by omega)), pointsIn5_v h ht, show Nat.blt d (A 2 3) = true from Nat.ble_eq_true_of_le h1, Bool.true_and]
    show (if nI (A 2 2) < nI (cnt (A 0) d t (A 2 0)) then _ else _) = _
    by_cases h2 : A 2 2 < cnt (A 0) d t (A 2 0)
    · rw [if_pos (nI_lt h2 (by omega)), show Nat.blt (A 2 2) (cnt (A 0) d t (A 2 0)) = true from Nat.ble_eq_true_of_le h2]
      rfl
    · rw [if_neg (nI_nlt (Nat.not_lt.mp h2) (by omega)), isOrdered3_v h.1 hA h0.2, show Nat.blt (A 2 2) (cnt (A 0) d t (A 2 0)) = false from Bool.eq_false_iff.mpr fun e => h2 (Nat.le_of_ble_eq_true e), Bool.false_or]
      cases odb (A 1) t (A 2 1) with
      | true => rfl
      | false => rfl
  · rw [if_pos (nI_le (Nat.not_lt.mp h1) (by omega)), show Nat.blt d (A 2 3) = false from Bool.eq_false_iff.mpr fun e => h1 (Nat.le_of_ble_eq_true e)]
    rfl
