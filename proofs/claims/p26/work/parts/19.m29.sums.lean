/-! the sums of the tiles: one place more or less, all of them, another plan shown -/
theorem cnt_congr {p q : Nat → Nat} {d t : Nat} : ∀ n, (∀ i, i < n → p i = q i) → cnt p d t n = cnt q d t n
  | 0, _ => rfl
  | n + 1, h => by rw [cnt, cnt, cnt_congr n (fun i hi => h i (by omega)), h n (by omega)]
theorem cnt_mono (p : Nat → Nat) (d t : Nat) : ∀ {m n}, m ≤ n → cnt p d t m ≤ cnt p d t n := by
  intro m n h
  induction n with
  | zero =>
    have : m = 0 := by omega
    subst this
    exact Nat.le_refl _
  | succ n ih =>
    by_cases hm : m = n + 1
    · subst hm
      exact Nat.le_refl _
    · have := ih (by omega)
      rw [cnt]
      omega
def hit (p d t : Nat) : Nat := cond (Nat.beq (tl d p) t) 1 0
theorem cnt_s (p : Nat → Nat) (d t n : Nat) : cnt p d t (n + 1) = cnt p d t n + hit (p n) d t := rfl
theorem hit_t {p d t : Nat} (h : tl d p = t) : hit p d t = 1 := by rw [hit, h, Nat.beq_refl, cond_true]
theorem hit_f {p d t : Nat} (h : ¬ tl d p = t) : hit p d t = 0 := by
  rw [hit, show Nat.beq (tl d p) t = false from Bool.eq_false_iff.mpr fun e => h (Nat.eq_of_beq_eq_true e), cond_false]
theorem ats_go {p : Nat} (hp : p < 4096) (T : FS) (y : Int32) : ∀ q k f, k ≤ 7 → 7 - k < q → ∃ g : FA, fX5_addToSums_L17 (nI (4096 + p)) y q (sr T 3 f) (nI k) = some (sr T 3 g) ∧ ∀ d t, tv d t → g t = if k ≤ d ∧ tl d p = t then f t + y else f t := by
  intro q
  induction q with
  | zero => intro k f _ h; omega
  | succ q ih =>
    intro k f h1 h2
    rw [fX5_addToSums_L17]
    by_cases hk : k = 7
    · subst hk
      rw [if_pos (show (6:Int32) < nI 7 by decide)]
      refine ⟨f, rfl, fun d t ht => ?_⟩
      have := ht.1
      rw [if_neg (by omega)]
    · have hb := tv_lt (tl_tv (show k ≤ 6 by omega) hp)
      rw [if_neg (show ¬ (6:Int32) < nI k from nI_nlt (a := 6) (by omega) (by decide)), upTo_p (by omega) hp, Option.bind_some, sr_at, rd_v _ hb.2 (by decide), Option.bind_some, wr_v _ _ hb.2 (by decide), Option.bind_some, Option.bind_some, sr_sr, nI_1]
      obtain ⟨g, e1, e2⟩ := ih (k + 1) (upd f (tl k p) (f (tl k p) + y)) (by omega) (by omega)
      refine ⟨g, e1, fun d t ht => ?_⟩
      rw [e2 d t ht]
      by_cases hd : d = k
      · subst hd
        rw [if_neg (by omega)]
        by_cases h3 : tl d p = t
        · rw [h3, pk_us, if_pos ⟨Nat.le_refl _, rfl⟩]
        · rw [pk_un (fun e => h3 e.symm), if_neg (fun e => h3 e.2)]
      · have hne : ¬ t = tl k p := by
          intro e
          have hk2 := tl_tv (show k ≤ 6 by omega) hp
          rw [← e] at hk2
          exact hd (tv_uniq ht hk2)
        rw [pk_un hne]
        by_cases h4 : k + 1 ≤ d ∧ tl d p = t
        · rw [if_pos h4, if_pos ⟨by omega, h4.2⟩]
        · rw [if_neg h4, if_neg (fun e => h4 ⟨by omega, e.2⟩)]
theorem ats_v {p : Nat} (hp : p < 4096) (T : FS) (y : Int32) : ∃ g : FA, fX5_addToSums T (nI (4096 + p)) y = some (sr T 3 g) ∧ ∀ d t, tv d t → g t = if tl d p = t then T 3 t + y else T 3 t := by
  obtain ⟨g, e1, e2⟩ := ats_go hp T y 6000 0 (T 3) (by omega) (by omega)
  rw [sr_self, show nI 0 = 0 from rfl] at e1
  refine ⟨g, ?_, fun d t ht => ?_⟩
  · rw [fX5_addToSums, if_neg (show ¬ nI (4096 + p) < 4096 from nI_nlt (b := 4096) (by omega) (by omega)), if_pos (show nI (4096 + p) < 8192 from nI_lt (b := 8192) (by omega) (by decide)), e1]
  · rw [e2 d t ht]
    by_cases h : tl d p = t
    · rw [if_pos h, if_pos ⟨Nat.zero_le _, h⟩]
    · rw [if_neg h, if_neg (fun e => h e.2)]
/-- one point more, one point less, told in counts -/
theorem ats_p {p : Nat} (hp : p < 4096) (T : FS) (c : Nat → Nat → Nat) (h : ∀ d t, tv d t → T 3 t = nI (c d t)) : ∃ g : FA, fX5_addToSums T (nI (4096 + p)) 1 = some (sr T 3 g) ∧ ∀ d t, tv d t → g t = nI (c d t + hit p d t) := by
  obtain ⟨g, e1, e2⟩ := ats_v hp T 1
  refine ⟨g, e1, fun d t ht => ?_⟩
  rw [e2 d t ht, h d t ht]
  by_cases h3 : tl d p = t
  · rw [if_pos h3, hit_t h3, nI_1]
  · rw [if_neg h3, hit_f h3, Nat.add_zero]
theorem ats_m {p : Nat} (hp : p < 4096) (T : FS) (c : Nat → Nat → Nat) (h : ∀ d t, tv d t → T 3 t = nI (c d t + hit p d t)) : ∃ g : FA, fX5_addToSums T (nI (4096 + p)) (-1) = some (sr T 3 g) ∧ ∀ d t, tv d t → g t = nI (c d t) := by
  obtain ⟨g, e1, e2⟩ := ats_v hp T (-1)
  refine ⟨g, e1, fun d t ht => ?_⟩
  rw [e2 d t ht, h d t ht]
  by_cases h3 : tl d p = t
  · rw [if_pos h3, hit_t h3, pk_m1]
  · rw [if_neg h3, hit_f h3, Nat.add_zero]
theorem all_m {T : FS} {A : AS} (h : RC T A) (hA : AV A) : ∀ q j f, j ≤ A 2 0 → A 2 0 - j < q → (∀ d t, tv d t → f t = nI (cnt (A 0) d t (A 2 0) - cnt (A 0) d t j)) → ∃ g : FA, fX5_addAllToSums_L2 (-1) q (sr T 3 f) (nI j) = some (sr T 3 g) ∧ ∀ d t, tv d t → g t = nI 0 := by
  have hn := hA.1
  intro q
  induction q with
  | zero => intro j f _ h2; omega
  | succ q ih =>
    intro j f h1 h2 h3
    rw [fX5_addAllToSums_L2, show sr T 3 f 2 0 = nI (A 2 0) from h.1 0 (by decide)]
    by_cases hj : j = A 2 0
    · subst hj
      rw [if_pos (nI_le (Nat.le_refl _) (by omega))]
      refine ⟨f, rfl, fun d t ht => ?_⟩
      rw [h3 d t ht, Nat.sub_self]
    · have h4 : j < A 2 0 := by omega
      have h5 := hA.2.2.2.2.1 j h4
      rw [if_neg (nI_ge h4 (by omega)), placeOf_v (T := sr T 3 f) (show RC T A from h) hA h4, Option.bind_some]
      obtain ⟨g, e1, e2⟩ := ats_m h5 (sr T 3 f) (fun d t => cnt (A 0) d t (A 2 0) - cnt (A 0) d t (j + 1)) (fun d t ht => by
        rw [sr_at, h3 d t ht]
        have m1 := cnt_mono (A 0) d t (show j + 1 ≤ A 2 0 by omega)
        have m2 := cnt_s (A 0) d t j
        congr 1
        omega)
      rw [e1, Option.bind_some, sr_sr, nI_1]
      exact ih (j + 1) g (by omega) (by omega) e2
theorem all_p {T : FS} {A : AS} (h : RC T A) (hA : AV A) : ∀ q j f, j ≤ A 2 0 → A 2 0 - j < q → (∀ d t, tv d t → f t = nI (cnt (A 0) d t j)) → ∃ g : FA, fX5_addAllToSums_L2 1 q (sr T 3 f) (nI j) = some (sr T 3 g) ∧ ∀ d t, tv d t → g t = nI (cnt (A 0) d t (A 2 0)) := by
  have hn := hA.1
  intro q
  induction q with
  | zero => intro j f _ h2; omega
  | succ q ih =>
    intro j f h1 h2 h3
    rw [fX5_addAllToSums_L2, show sr T 3 f 2 0 = nI (A 2 0) from h.1 0 (by decide)]
    by_cases hj : j = A 2 0
    · subst hj
      rw [if_pos (nI_le (Nat.le_refl _) (by omega))]
      exact ⟨f, rfl, h3⟩
    · have h4 : j < A 2 0 := by omega
      have h5 := hA.2.2.2.2.1 j h4
      rw [if_neg (nI_ge h4 (by omega)), placeOf_v (T := sr T 3 f) (show RC T A from h) hA h4, Option.bind_some]
      obtain ⟨g, e1, e2⟩ := ats_p h5 (sr T 3 f) (fun d t => cnt (A 0) d t j) (fun d t ht => by rw [sr_at, h3 d t ht])
      rw [e1, Option.bind_some, sr_sr, nI_1]
      exact ih (j + 1) g (by omega) (by omega) e2
/-- a plan that has taken another one's rows -/
def cpP (P0 P : FS) : FS := sf (sf (sf (sf (sr (sr P0 0 (va_cpy (P 0) (P0 0) 0 0 50)) 1 (va_cpy (P 1) (P0 1) 0 0 12)) 2 0 (P 2 0)) 2 1 (P 2 1)) 2 2 (P 2 2)) 2 3 (P 2 3)
theorem cp50 (f g : FA) : cp 50 50 f g 0 0 50 = some (va_cpy f g 0 0 50) := by
  unfold cp
  rw [if_neg (by decide)]
  rfl
theorem cp12 (f g : FA) : cp 12 12 f g 0 0 12 = some (va_cpy f g 0 0 12) := by
  unfold cp
  rw [if_neg (by decide)]
  rfl
theorem copy_v (P0 P : FS) : fX3_copyFrom P0 P = some (cpP P0 P) := by
  rw [fX3_copyFrom, cp50, Option.bind_some, Option.bind_some, cp12, Option.bind_some, Option.bind_some, Option.bind_some, Option.bind_some, Option.bind_some, Option.bind_some]
  rfl
theorem cpP_RC {P0 P : FS} {B : AS} (h : RC P B) (hB : AV B) : RC (cpP P0 P) B := by
  obtain ⟨h1, h2, h3⟩ := h
  have hn := hB.1
  have hk := hB.2.1
  refine ⟨fun j hj => ?_, fun i hi => ?_, fun i hi => ?_⟩
  · rcases (show j = 0 ∨ j = 1 ∨ j = 2 ∨ j = 3 by omega) with rfl | rfl | rfl | rfl
    · exact h1 0 (by decide)
    · exact h1 1 (by decide)
    · exact h1 2 (by decide)
    · exact h1 3 (by decide)
  · show va_cpy (P 0) (P0 0) 0 0 50 i = _
    rw [pk_cpy_in (Nat.zero_le _) (by omega), Nat.sub_zero, Nat.zero_add, h2 i hi]
  · show va_cpy (P 1) (P0 1) 0 0 12 i = _
    rw [pk_cpy_in (Nat.zero_le _) (by omega), Nat.sub_zero, Nat.zero_add, h3 i hi]
theorem show_v {T P : FS} {A B : AS} (h : RT T A) (hA : AV A) (hP : RC P B) (hB : AV B) : ∃ T1, fX5_show T P = some T1 ∧ RT T1 B := by
  have hn := hA.1
  have hm := hB.1
  obtain ⟨g, e1, e2⟩ := all_m h.1 hA 6000 0 (T 3) (by omega) (by omega) (fun d t ht => by
    rw [h.2 d t ht]
    rfl)
  rw [sr_self, show nI 0 = 0 from rfl] at e1
  have hc := cpP_RC (P0 := sr T 3 g) hP hB
  obtain ⟨g2, e3, e4⟩ := all_p (T := cpP (sr T 3 g) P) hc hB 6000 0 g (by omega) (by omega) e2
  rw [show nI 0 = 0 from rfl] at e3
  refine ⟨sr (cpP (sr T 3 g) P) 3 g2, ?_, hc, fun d t ht => ?_⟩
  · rw [fX5_show, fX5_addAllToSums, e1, Option.bind_some, copy_v, Option.bind_some, sr_at, Option.bind_some, fX5_addAllToSums, e3, Option.bind_some]
  · rw [sr_at]
    exact e4 d t ht
