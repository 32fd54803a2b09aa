/-! the history, on either side -/
theorem cpy_s {f g : FA} {a b k : Nat} : upd (va_cpy f g a b k) (b + k) (f (a + k)) = va_cpy f g a b (k + 1) := by
  funext j
  by_cases h : j = b + k
  · subst h
    rw [pk_us, pk_cpy_in (by omega) (by omega), show a + (b + k - b) = a + k by omega]
  · rw [pk_un h]
    by_cases h2 : b ≤ j ∧ j < b + k
    · rw [pk_cpy_in h2.1 h2.2, pk_cpy_in h2.1 (by omega)]
    · rw [pk_cpy_out (by omega), pk_cpy_out (by omega)]
theorem cpy_0 {f g : FA} {a b : Nat} : va_cpy f g a b 0 = g := by
  funext j
  exact pk_cpy_out (by omega)
theorem lays_go {n0 n2 a b : Nat} (f0 f2 : FA) (h0 : a + 116 ≤ n0) (h2 : b + 116 ≤ n2) (hb0 : n0 < 2 ^ 31) (hb2 : n2 < 2 ^ 31) : ∀ q k, k ≤ 116 → 116 - k < q → fX8_lays_L3 n0 f0 n2 (nI a) (nI b) q (va_cpy f0 f2 a b k) (nI k) = some (va_cpy f0 f2 a b 116) := by
  intro q
  induction q with
  | zero => intro k _ h; omega
  | succ q ih =>
    intro k k1 k2
    rw [fX8_lays_L3]
    by_cases hk : k = 116
    · subst hk
      rw [if_pos (show (116:Int32) ≤ nI 116 by decide)]
    · rw [if_neg (show ¬ (116:Int32) ≤ nI k from nI_ge (b := 116) (by omega) (by decide)), nI_add, nI_add, rd_v _ (by omega) hb0, Option.bind_some, wr_v _ _ (by omega) hb2, Option.bind_some, Option.bind_some, nI_1, cpy_s]
      exact ih (k + 1) (by omega) (by omega)
theorem lays_v {n0 n2 a b : Nat} (f0 f2 : FA) (h0 : a + 116 ≤ n0) (h2 : b + 116 ≤ n2) (hb0 : n0 < 2 ^ 31) (hb2 : n2 < 2 ^ 31) : fX8_lays n0 f0 n2 f2 (nI a) (nI b) = some (va_cpy f0 f2 a b 116) := by
  have e := lays_go f0 f2 h0 h2 hb0 hb2 6000 0 (by omega) (by omega)
  rw [cpy_0, show nI 0 = 0 from rfl] at e
  rw [fX8_lays, e]
theorem RM_ext {r r2 : FA} {A : AS} (hA : AV A) (h : RM r A) (e : ∀ j, j < 116 → r2 j = r j) : RM r2 A := by
  have hn := hA.1
  have hk := hA.2.1
  obtain ⟨h1, h2, h3, h4, h5, o, h6, h7, h8⟩ := h
  refine ⟨?_, ?_, ?_, ?_, fun j hj => ?_, o, fun j hj => ?_, h7, h8⟩
  · rw [e 0 (by decide)]; exact h1
  · rw [e 1 (by decide)]; exact h2
  · rw [e 2 (by decide)]; exact h3
  · rw [e 3 (by decide)]; exact h4
  · rw [e _ (by omega), e _ (by omega)]; exact h5 j hj
  · rw [e _ (by omega)]; exact h6 j hj
theorem rec49_v {N : FS} {s : Nat} (hs : s < 6) (h : N 8 0 = nI s) : fX8_records_L49 N = some (sf (sr N 2 (va_cpy (N 0) (N 2) 0 (116 * s) 116)) 8 0 (nI (s + 1))) := by
  rw [fX8_records_L49, h, show (116:Int32) * nI s = nI (116 * s) from pk_mul 116 s, show (0:Int32) = nI 0 from rfl, lays_v _ _ (by omega) (by omega) (by decide) (by decide), Option.bind_some, Option.bind_some, Option.bind_some, show sr N 2 (va_cpy (N 0) (N 2) 0 (116 * s) 116) 8 0 = nI s from h, nI_1]
theorem sh_go (M : FS) (ps : FA) : ∀ q k, k ≤ 580 → 580 - k < q → fX8_records_L11 q (sr M 2 (va_cpy ps ps 116 0 k)) (nI k) = fX8_records_L49 (sf (sr M 2 (va_cpy ps ps 116 0 580)) 8 0 (M 8 0 - 1)) := by
  intro q
  induction q with
  | zero => intro k _ h; omega
  | succ q ih =>
    intro k k1 k2
    rw [fX8_records_L11]
    by_cases hk : k = 580
    · subst hk
      rw [if_pos (show (580:Int32) ≤ nI 580 by decide), Option.bind_some]
      rfl
    · have e := cpy_s (f := ps) (g := ps) (a := 116) (b := 0) (k := k)
      rw [Nat.zero_add] at e
      rw [if_neg (show ¬ (580:Int32) ≤ nI k from nI_ge (b := 580) (by omega) (by decide)), sr_at, show nI k + (116:Int32) = nI (k + 116) from nI_add k 116, rd_v _ (by omega) (by decide), Option.bind_some, wr_v _ _ (by omega) (by decide), Option.bind_some, Option.bind_some, sr_sr, nI_1, pk_cpy_out (show k + 116 < 0 ∨ 0 + k ≤ k + 116 by omega), Nat.add_comm k 116, e]
      exact ih (k + 1) (by omega) (by omega)
theorem sfsr (M : FS) (f g : FA) (v w : Int32) : sf (sr (sf (sr M 2 f) 8 0 v) 2 g) 8 0 w = sf (sr M 2 g) 8 0 w := by
  funext i
  unfold sf sr
  cases h8 : Nat.beq i 8 with
  | true =>
    have := Nat.eq_of_beq_eq_true h8
    subst this
    funext j
    show cond (Nat.beq j 0) w (cond (Nat.beq j 0) v (M 8 j)) = cond (Nat.beq j 0) w (M 8 j)
    cases Nat.beq j 0 with
    | true => rfl
    | false => rfl
  | false =>
    rw [cond_false, cond_false]
    cases h2 : Nat.beq i 2 with
    | true => rfl
    | false =>
      show cond (Nat.beq i 8) (fun b => cond (Nat.beq b 0) v (cond (Nat.beq i 2) f (M i) b)) (cond (Nat.beq i 2) f (M i)) = M i
      rw [h8, h2]
      rfl
def nxS (s : Nat) : Nat := if s = 6 then 6 else s + 1
def nxH (H : Nat → AS) (s : Nat) (A : AS) : Nat → AS := fun i => if s = 6 then (if i < 5 then H (i + 1) else A) else (if i < s then H i else A)
theorem records_v {M : FS} {A : AS} {s : Nat} {H : Nat → AS} (hs : s ≤ 6) (h : M 8 0 = nI s) (hM : RM (M 0) A) (hA : AV A) (hH : ∀ i, i < s → AV (H i) ∧ RM (fun j => M 2 (116 * i + j)) (H i)) : ∃ g : FA, fX8_records M = some (sf (sr M 2 g) 8 0 (nI (nxS s))) ∧ ∀ i, i < nxS s → RM (fun j => g (116 * i + j)) (nxH H s A i) := by
  by_cases h6 : s = 6
  · subst h6
    refine ⟨va_cpy (M 0) (va_cpy (M 2) (M 2) 116 0 580) 0 580 116, ?_, fun i hi => ?_⟩
    · have e := sh_go M (M 2) 6000 0 (by omega) (by omega)
      rw [cpy_0, sr_self, show nI 0 = 0 from rfl, h] at e
      rw [fX8_records, h, if_pos (show nI 6 = 6 from rfl), e, show nI 6 - 1 = nI 5 from nI_pred 5, rec49_v (s := 5) (by decide) rfl, sfsr]
      rfl
    · have hi : i < 6 := hi
      unfold nxH
      rw [if_pos rfl]
      by_cases h5 : i < 5
      · rw [if_pos h5]
        refine RM_ext (hH (i + 1) (by omega)).1 (hH (i + 1) (by omega)).2 fun j hj => ?_
        show va_cpy (M 0) (va_cpy (M 2) (M 2) 116 0 580) 0 580 116 (116 * i + j) = M 2 (116 * (i + 1) + j)
        rw [pk_cpy_out (by omega), pk_cpy_in (by omega) (by omega), show 116 + (116 * i + j - 0) = 116 * (i + 1) + j by omega]
      · rw [if_neg h5]
        refine RM_ext hA hM fun j hj => ?_
        show va_cpy (M 0) (va_cpy (M 2) (M 2) 116 0 580) 0 580 116 (116 * i + j) = M 0 j
        rw [pk_cpy_in (by omega) (by omega), show 0 + (116 * i + j - 580) = j by omega]
  · refine ⟨va_cpy (M 0) (M 2) 0 (116 * s) 116, ?_, fun i hi => ?_⟩
    · rw [fX8_records, h, if_neg (show ¬ nI s = 6 from fun e => h6 ((nI_eq (b := 6) (by omega) (by decide)).mp e)), rec49_v (by omega) h, nxS, if_neg h6]
    · rw [nxS, if_neg h6] at hi
      unfold nxH
      rw [if_neg h6]
      by_cases h5 : i < s
      · rw [if_pos h5]
        refine RM_ext (hH i h5).1 (hH i h5).2 fun j hj => ?_
        show va_cpy (M 0) (M 2) 0 (116 * s) 116 (116 * i + j) = M 2 (116 * i + j)
        rw [pk_cpy_out (by omega)]
      · rw [if_neg h5]
        refine RM_ext hA hM fun j hj => ?_
        show va_cpy (M 0) (M 2) 0 (116 * s) 116 (116 * i + j) = M 0 j
        rw [pk_cpy_in (by omega) (by omega), show 0 + (116 * i + j - 116 * s) = j by omega]
theorem sq_s {Q : Nat → FS} {i : Nat} {P : FS} : sq Q i P i = P := by
  unfold sq
  rw [Nat.beq_refl, cond_true]
theorem sq_n {Q : Nat → FS} {i a : Nat} {P : FS} (h : ¬ a = i) : sq Q i P a = Q a := by
  unfold sq
  rw [show Nat.beq a i = false from Bool.eq_false_iff.mpr fun e => h (Nat.eq_of_beq_eq_true e), cond_false]
theorem rem13_v {Q : Nat → FS} {P : FS} {s : Nat} (hs : s < 6) (h : Q 2 0 0 = nI s) : fX0_remember_L13 P Q = some (sq (sq Q (3 + s) (cpP (Q (3 + s)) P)) 2 (sf (Q 2) 0 0 (nI (s + 1)))) := by
  have fin : ∀ k, ¬ 2 = k → some (sq (sq Q k (cpP (Q k) P)) 2 (sf (sq Q k (cpP (Q k) P) 2) 0 0 ((sq Q k (cpP (Q k) P) 2 0 0) + 1))) = some (sq (sq Q k (cpP (Q k) P)) 2 (sf (Q 2) 0 0 (nI (s + 1)))) := by
    intro k hk
    rw [sq_n hk, h, nI_1]
  rw [fX0_remember_L13, h]
  rcases (show s = 0 ∨ s = 1 ∨ s = 2 ∨ s = 3 ∨ s = 4 ∨ s = 5 by omega) with rfl | rfl | rfl | rfl | rfl | rfl
  · rw [if_pos (by decide), copy_v, Option.bind_some, Option.bind_some, Option.bind_some, fin 3 (by decide)]
  · rw [if_neg (by decide), if_pos (by decide), copy_v, Option.bind_some, Option.bind_some, Option.bind_some, fin 4 (by decide)]
  · rw [if_neg (by decide), if_neg (by decide), if_pos (by decide), copy_v, Option.bind_some, Option.bind_some, Option.bind_some, fin 5 (by decide)]
  · rw [if_neg (by decide), if_neg (by decide), if_neg (by decide), if_pos (by decide), copy_v, Option.bind_some, Option.bind_some, Option.bind_some, fin 6 (by decide)]
  · rw [if_neg (by decide), if_neg (by decide), if_neg (by decide), if_neg (by decide), if_pos (by decide), copy_v, Option.bind_some, Option.bind_some, Option.bind_some, fin 7 (by decide)]
  · rw [if_neg (by decide), if_neg (by decide), if_neg (by decide), if_neg (by decide), if_neg (by decide), if_pos (by decide), copy_v, Option.bind_some, Option.bind_some, Option.bind_some, fin 8 (by decide)]
theorem remember_v {Q : Nat → FS} {P : FS} {A : AS} {s : Nat} {H : Nat → AS} (hs : s ≤ 6) (h : Q 2 0 0 = nI s) (hP : RC P A) (hA : AV A) (hH : ∀ i, i < s → RC (Q (3 + i)) (H i)) : ∃ S, fX0_remember Q P = some S ∧ S 2 0 0 = nI (nxS s) ∧ ∀ i, i < nxS s → RC (S (3 + i)) (nxH H s A i) := by
  by_cases h6 : s = 6
  · subst h6
    have e5 : sq (rotH Q) 2 (sf (Q 2) 0 0 5) 2 0 0 = nI 5 := rfl
    refine ⟨sq (sq (sq (rotH Q) 2 (sf (Q 2) 0 0 5)) (3 + 5) (cpP (sq (rotH Q) 2 (sf (Q 2) 0 0 5) (3 + 5)) P)) 2 (sf (sq (rotH Q) 2 (sf (Q 2) 0 0 5) 2) 0 0 (nI (5 + 1))), ?_, ?_, ?_⟩
    · rw [fX0_remember, h, if_neg (show ¬ nI 6 < 6 by decide), fX0_dropOldest, Option.bind_some, rem13_v (s := 5) (by decide) e5]
    · rw [sq_s]
      rfl
    · intro i hi
      have hi : i < 6 := hi
      unfold nxH
      rw [if_pos rfl, sq_n (show ¬ 3 + i = 2 by omega)]
      by_cases h5 : i < 5
      · rw [if_pos h5, sq_n (show ¬ 3 + i = 3 + 5 by omega)]
        rcases (show i = 0 ∨ i = 1 ∨ i = 2 ∨ i = 3 ∨ i = 4 by omega) with rfl | rfl | rfl | rfl | rfl
        · exact hH 1 (by decide)
        · exact hH 2 (by decide)
        · exact hH 3 (by decide)
        · exact hH 4 (by decide)
        · exact hH 5 (by decide)
      · have : i = 5 := by omega
        subst this
        rw [if_neg h5, sq_s]
        exact cpP_RC hP hA
  · refine ⟨sq (sq Q (3 + s) (cpP (Q (3 + s)) P)) 2 (sf (Q 2) 0 0 (nI (s + 1))), ?_, ?_, fun i hi => ?_⟩
    · rw [fX0_remember, h, if_pos (show nI s < 6 from nI_lt (b := 6) (by omega) (by decide)), rem13_v (by omega) h]
    · rw [sq_s, nxS, if_neg h6]
      rfl
    · rw [nxS, if_neg h6] at hi
      unfold nxH
      rw [if_neg h6, sq_n (show ¬ 3 + i = 2 by omega)]
      by_cases h5 : i < s
      · rw [if_pos h5, sq_n (show ¬ 3 + i = 3 + s by omega)]
        exact hH i h5
      · have : i = s := by omega
        subst this
        rw [if_neg h5, sq_s]
        exact cpP_RC hP hA
