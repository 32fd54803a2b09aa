/-! the empty leaves in the class; the reference's walk for the deepest and the empty ones -/
theorem empty5_leaf {T : FS} {A : AS} (h : RT T A) (hA : AV A) {d t : Nat} (ht : tv d t) (self : Int32 → Int32 → Option Int32) : fX5_emptyLeavesIn_L15 T self (nI t) = some (nI (wE A d t)) := by
  have hn := hA.1
  have hc := cnt_le (A 0) d t (A 2 0)
  rw [fX5_emptyLeavesIn_L15, pointsIn5_v h ht, Option.bind_some, wE]
  by_cases h0 : cnt (A 0) d t (A 2 0) = 0
  · rw [h0]
    rfl
  · rw [if_neg (nI_ne0 (by omega) (by omega)), show Nat.beq (cnt (A 0) d t (A 2 0)) 0 = false from Bool.eq_false_iff.mpr fun e => h0 (Nat.eq_of_beq_eq_true e)]
    rfl
theorem empty5_v {T : FS} {A : AS} (h : RT T A) (hA : AV A) : ∀ (hh d t dd : Nat), d + hh = 6 → tv d t → hh < dd → fX5_emptyLeavesIn T dd (nI t) (nI d) = some (nI (LLs A (wE A) hh d t)) := by
  intro hh
  induction hh with
  | zero =>
    intro d t dd hd ht hdd
    obtain ⟨dd, rfl⟩ : ∃ k, dd = k + 1 := ⟨dd - 1, by omega⟩
    rw [fX5_emptyLeavesIn, fX5_emptyLeavesIn_B, if_pos (show (6:Int32) ≤ nI d from nI_le (a := 6) (by omega) (by omega)), empty5_leaf h hA ht]
    rfl
  | succ hh ih =>
    intro d t dd hd ht hdd
    obtain ⟨dd, rfl⟩ : ∃ k, dd = k + 1 := ⟨dd - 1, by omega⟩
    have hd6 : d < 6 := by omega
    rw [fX5_emptyLeavesIn, fX5_emptyLeavesIn_B, if_neg (show ¬ (6:Int32) ≤ nI d from nI_ge (b := 6) hd6 (by decide)), split5_v h hA ht, Option.bind_some, LLs]
    cases spb A d t with
    | false =>
      rw [if_pos (show bi false = 0 from rfl), empty5_leaf h hA ht]
      rfl
    | true =>
      rw [if_neg (show ¬ bi true = 0 by decide), cond_true]
      have K : ∀ i, i < 4 → fX5_emptyLeavesIn T dd ((4:Int32) * nI t + nI i) (nI d + 1) = some (nI (LLs A (wE A) hh (d + 1) (4 * t + i))) := by
        intro i hi
        rw [kid_no, nI_1]
        exact ih (d + 1) (4 * t + i) dd (by omega) (kid_tv ht hd6 hi) (by omega)
      have S : ∀ q i (a b : Nat), i < 4 → LLs A (wE A) hh (d + 1) (4 * t + i) = b → fX5_emptyLeavesIn_L34 T (fX5_emptyLeavesIn T dd) (nI t) (nI d) (q + 1) (nI a) (nI i) = fX5_emptyLeavesIn_L34 T (fX5_emptyLeavesIn T dd) (nI t) (nI d) q (nI (a + b)) (nI (i + 1)) := by
        intro q i a b hi e
        subst e
        rw [fX5_emptyLeavesIn_L34, if_neg (show ¬ (4:Int32) ≤ nI i from nI_ge (b := 4) hi (by decide)), K i hi, Option.bind_some, nI_1, nI_add]
      have e0 := S 5999 0 0 _ (by decide) rfl
      have e1 := S 5998 1 (0 + LLs A (wE A) hh (d + 1) (4 * t + 0)) _ (by decide) rfl
      have e2 := S 5997 2 (0 + LLs A (wE A) hh (d + 1) (4 * t + 0) + LLs A (wE A) hh (d + 1) (4 * t + 1)) _ (by decide) rfl
      have e3 := S 5996 3 (0 + LLs A (wE A) hh (d + 1) (4 * t + 0) + LLs A (wE A) hh (d + 1) (4 * t + 1) + LLs A (wE A) hh (d + 1) (4 * t + 2)) _ (by decide) rfl
      rw [show nI 0 = 0 from rfl] at e0
      rw [e0, e1, e2, e3, fX5_emptyLeavesIn_L34, if_pos (show (4:Int32) ≤ nI (3 + 1) by decide), Nat.zero_add]
theorem ofL_go {M : FS} {A : AS} (h : RM (M 0) A) (hA : AV A) {x : Int32} (hx : ¬ x = 6) : ∀ q y a b, a ≤ 6 → y < 4096 → fX8_ofLeaves_L12 x (q + 1) M (nI a) (nI b) (nI y) = fX8_ofLeaves_L12 x q M (nI (mx a (ld A y))) (nI (b + wE A (ld A y) (tl (ld A y) y))) (nI (y + 4 ^ (6 - ld A y))) := by
  intro q y a b ha hy
  have h6 := (ld_spec hA y).1
  have ht := tl_tv h6 hy
  have hn := hA.1
  have hc := cnt_le (A 0) (ld A y) (tl (ld A y) y) (A 2 0)
  have tail : ∀ (z : Nat), fX8_ofLeaves_L49 (fX8_ofLeaves_L12 x q) x M (nI b) (nI y) (nI (tl (ld A y) y)) (nI z) = fX8_ofLeaves_L12 x q M (nI z) (nI (b + wE A (ld A y) (tl (ld A y) y))) (nI (y + 4 ^ (6 - ld A y))) := by
    intro z
    rw [fX8_ofLeaves_L49, pointsIn8_v h hA ht, Option.bind_some, wE]
    by_cases h0 : cnt (A 0) (ld A y) (tl (ld A y) y) (A 2 0) = 0
    · rw [h0, if_pos (show nI 0 = 0 from rfl), fX8_ofLeaves_L68, if_neg hx, fX8_ofLeaves_L90, if_pos (show (0:Int32) ≤ 0 by decide), pathsIn_v ht, Option.bind_some, nI_add, show nI b + 1 = nI (b + 1) from nI_1 b]
      rfl
    · rw [if_neg (nI_ne0 (by omega) (by omega)), show Nat.beq (cnt (A 0) (ld A y) (tl (ld A y) y) (A 2 0)) 0 = false from Bool.eq_false_iff.mpr fun e => h0 (Nat.eq_of_beq_eq_true e), fX8_ofLeaves_L68, if_neg hx, fX8_ofLeaves_L90, if_pos (show (0:Int32) ≤ 0 by decide), pathsIn_v ht, Option.bind_some, nI_add, show nI b + 0 = nI (b + 0) from nI_add b 0]
      rfl
  rw [fX8_ofLeaves_L12, if_neg (show ¬ (4096:Int32) ≤ nI y from nI_ge (b := 4096) hy (by decide)), leafOf8_v h hA hy, Option.bind_some, dep8_tv ht, Option.bind_some, Option.bind_some, tail, tail, mx]
  by_cases hl : a < ld A y
  · rw [if_neg (nI_ge hl (by omega)), blt_t hl, cond_true]
  · rw [if_pos (nI_le (Nat.not_lt.mp hl) (by omega)), blt_f hl, cond_false]
theorem ofL_v {M : FS} {A : AS} (h : RM (M 0) A) (hA : AV A) {x : Int32} (hx : ¬ x = 6) : ∃ k, fX8_ofLeaves_L12 x 6000 M 0 0 0 = fX8_ofLeaves_L12 x (k + 1) M (nI (LLm A (fun d _ => d) 6 0 1)) (nI (LLs A (wE A) 6 0 1)) (nI 4096) := by
  have hle : LLn A 6 0 1 ≤ 4 ^ 6 := LLs_le A (fun _ _ => 1) (fun _ _ => Nat.le_refl 1) 6 0 1
  have e46 : (4 : Nat) ^ 6 = 4096 := by decide
  have S := (scan hA (fun q y (s : Nat × Nat) => fX8_ofLeaves_L12 x q M (nI s.1) (nI s.2) (nI y)) (fun d t s => (mx s.1 d, s.2 + wE A d t)) (fun s => s.1 ≤ 6) 4096 (fun d t s ht hs => by
    have := ht.1
    show mx s.1 d ≤ 6
    rw [mx_max]
    omega) (fun q y s _ hy hs => ofL_go h hA hx q y s.1 s.2 hs hy) 6 0 1 (6000 - LLn A 6 0 1) (0, 0) rfl tv01 (TH0 A 1) (by decide) (by decide)).1
  rw [LLf_two A (fun d _ => d) (wE A) 6 0 1 0 0, show 6000 - LLn A 6 0 1 + LLn A 6 0 1 = 6000 by omega, fo01] at S
  obtain ⟨k, hk⟩ : ∃ k, 6000 - LLn A 6 0 1 = k + 1 := ⟨6000 - LLn A 6 0 1 - 1, by omega⟩
  refine ⟨k, ?_⟩
  rw [hk, Nat.zero_add, show 0 + 4 ^ (6 - 0) = 4096 by decide] at S
  have e0 : mx 0 (LLm A (fun d _ => d) 6 0 1) = LLm A (fun d _ => d) 6 0 1 := by
    rw [mx_max, Nat.max_eq_right (Nat.zero_le _)]
  rw [e0] at S
  exact S
