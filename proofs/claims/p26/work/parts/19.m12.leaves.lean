/-! leaves counted, on either side -/
theorem pow_h {d h : Nat} (e : d + h = 6) : 6 - d = h := by omega
theorem kid_no (t i : Nat) : (4:Int32) * nI t + nI i = nI (4 * t + i) := by
  rw [show (4:Int32) * nI t = nI (4 * t) from pk_mul 4 t]
  exact nI_add (4 * t) i
theorem leavesIn5_v {T : FS} {A : AS} (h : RT T A) (hA : AV A) : ∀ (hh d t dd : Nat), d + hh = 6 → tv d t → hh < dd → fX5_leavesIn T dd (nI t) (nI d) = some (nI (LLn A hh d t)) := by
  intro hh
  induction hh with
  | zero =>
    intro d t dd hd ht hdd
    obtain ⟨dd, rfl⟩ : ∃ k, dd = k + 1 := ⟨dd - 1, by omega⟩
    rw [fX5_leavesIn, fX5_leavesIn_B, if_pos (show (6:Int32) ≤ nI d from nI_le (a := 6) (by omega) (by omega))]
    rfl
  | succ hh ih =>
    intro d t dd hd ht hdd
    obtain ⟨dd, rfl⟩ : ∃ k, dd = k + 1 := ⟨dd - 1, by omega⟩
    have hd6 : d < 6 := by omega
    rw [fX5_leavesIn, fX5_leavesIn_B, if_neg (show ¬ (6:Int32) ≤ nI d from nI_ge (b := 6) hd6 (by decide)), split5_v h hA ht, Option.bind_some]
    show _ = some (nI (LLs A (fun _ _ => 1) (hh + 1) d t))
    rw [LLs]
    cases spb A d t with
    | false => rfl
    | true =>
      rw [if_neg (show ¬ bi true = 0 by decide), cond_true]
      have K : ∀ i, i < 4 → fX5_leavesIn T dd ((4:Int32) * nI t + nI i) (nI d + 1) = some (nI (LLn A hh (d + 1) (4 * t + i))) := by
        intro i hi
        rw [kid_no, nI_1]
        exact ih (d + 1) (4 * t + i) dd (by omega) (kid_tv ht hd6 hi) (by omega)
      have S : ∀ q i (a b : Nat), i < 4 → LLn A hh (d + 1) (4 * t + i) = b → fX5_leavesIn_L22 T (fX5_leavesIn T dd) (nI t) (nI d) (q + 1) (nI a) (nI i) = fX5_leavesIn_L22 T (fX5_leavesIn T dd) (nI t) (nI d) q (nI (a + b)) (nI (i + 1)) := by
        intro q i a b hi e
        subst e
        rw [fX5_leavesIn_L22, if_neg (show ¬ (4:Int32) ≤ nI i from nI_ge (b := 4) hi (by decide)), K i hi, Option.bind_some, nI_1, nI_add]
      have e0 := S 5999 0 0 _ (by decide) rfl
      have e1 := S 5998 1 (0 + LLn A hh (d + 1) (4 * t + 0)) _ (by decide) rfl
      have e2 := S 5997 2 (0 + LLn A hh (d + 1) (4 * t + 0) + LLn A hh (d + 1) (4 * t + 1)) _ (by decide) rfl
      have e3 := S 5996 3 (0 + LLn A hh (d + 1) (4 * t + 0) + LLn A hh (d + 1) (4 * t + 1) + LLn A hh (d + 1) (4 * t + 2)) _ (by decide) rfl
      rw [show nI 0 = 0 from rfl] at e0
      rw [e0, e1, e2, e3, fX5_leavesIn_L22, if_pos (show (4:Int32) ≤ nI (3 + 1) by decide), Nat.zero_add]
theorem leaves8_go {r : FA} {A : AS} (h : RM r A) (hA : AV A) {E : Nat} (hE : E ≤ 4096) : ∀ q y n, y < E → y < 4096 → fX8_leaves_L5 r (nI E) (q + 1) (nI n) (nI y) = fX8_leaves_L5 r (nI E) q (nI (n + 1)) (nI (y + 4 ^ (6 - ld A y))) := by
  intro q y n hy hy2
  rw [fX8_leaves_L5, if_neg (nI_ge hy (by omega)), leafOf8_v h hA hy2, Option.bind_some, pathsIn_v (tl_tv (ld_spec hA y).1 hy2), Option.bind_some, nI_1, nI_add]
theorem leaves8_v {r : FA} {A : AS} (h : RM r A) (hA : AV A) {hh d t : Nat} (hd : d + hh = 6) (ht : tv d t) (hT : TH A d t) : fX8_leaves r (nI (fo d t)) (nI (fo d t + 4 ^ (6 - d))) = some (nI (LLn A hh d t)) := by
  have hE := (fo_mul ht).2
  have hle : LLn A hh d t ≤ 4 ^ hh := LLs_le A (fun _ _ => 1) (fun _ _ => Nat.le_refl 1) hh d t
  have h46 : (4 : Nat) ^ hh ≤ 4 ^ 6 := Nat.pow_le_pow_right (by decide) (by omega)
  have e46 : (4 : Nat) ^ 6 = 4096 := by decide
  have S := (scan hA (fun q y n => fX8_leaves_L5 r (nI (fo d t + 4 ^ (6 - d))) q (nI n) (nI y)) (fun _ _ n => n + 1) (fun _ => True) (fo d t + 4 ^ (6 - d)) (fun _ _ _ _ _ => trivial) (fun q y n hy hy2 _ => leaves8_go h hA hE q y n hy hy2) hh d t (6000 - LLn A hh d t) 0 hd ht hT (Nat.le_refl _) trivial).1
  have F := LLf_add A (fun _ _ => 1) hh d t 0
  rw [show (fun (_ _ : Nat) (n : Nat) => n + 1) = (fun d t s => s + (fun _ _ => 1) d t) from rfl, F, Nat.zero_add, show 6000 - LLn A hh d t + LLn A hh d t = 6000 by omega] at S
  rw [fX8_leaves]
  obtain ⟨k, hk⟩ : ∃ k, 6000 - LLn A hh d t = k + 1 := ⟨6000 - LLn A hh d t - 1, by omega⟩
  rw [hk] at S
  have S2 : fX8_leaves_L5 r (nI (fo d t + 4 ^ (6 - d))) 6000 (nI 0) (nI (fo d t)) = fX8_leaves_L5 r (nI (fo d t + 4 ^ (6 - d))) (k + 1) (nI (LLn A hh d t)) (nI (fo d t + 4 ^ (6 - d))) := S
  rw [show nI 0 = 0 from rfl] at S2
  rw [S2, fX8_leaves_L5, if_pos (nI_le (Nat.le_refl _) (by omega))]
theorem tv01 : tv 0 1 := ⟨by decide, by decide, by decide⟩
theorem TH0 (A : AS) (t : Nat) : TH A 0 t := fun e he => absurd he (Nat.not_lt_zero e)
theorem fo01 : fo 0 1 = 0 := by decide
theorem leaves5_v {T : FS} {A : AS} (h : RT T A) (hA : AV A) : fX5_leaves T = some (nI (LLn A 6 0 1)) := by
  have e := leavesIn5_v h hA 6 0 1 8 rfl tv01 (by decide)
  rw [show nI 1 = 1 from rfl, show nI 0 = 0 from rfl] at e
  rw [fX5_leaves, e, Option.bind_some]
theorem allLeaves_v {r : FA} {A : AS} (h : RM r A) (hA : AV A) : fX8_allLeaves r = some (nI (LLn A 6 0 1)) := by
  have e := leaves8_v h hA (hh := 6) rfl tv01 (TH0 A 1)
  rw [fo01, show 0 + 4 ^ (6 - 0) = 4096 by decide, show nI 0 = 0 from rfl, show nI 4096 = 4096 from rfl] at e
  rw [fX8_allLeaves, e, Option.bind_some]
theorem leavesIn8_v {M : FS} {A : AS} (h : RM (M 0) A) (hA : AV A) {hh d t : Nat} (hd : d + hh = 6) (ht : tv d t) : fX8_leavesIn M (nI t) = some (cond (thb A d t) (nI (LLn A hh d t)) 0) := by
  rw [fX8_leavesIn, firstOf_v ht, Option.bind_some, isThere8_v h hA ht, Option.bind_some]
  cases hb : thb A d t with
  | false => rfl
  | true =>
    rw [if_neg (show ¬ bi true = 0 by decide), pathsIn_v ht, Option.bind_some, nI_add, leaves8_v h hA hd ht (thb_TH hA hb), Option.bind_some, cond_true]
theorem tile_v {Q : Nat → FS} {M : FS} {A : AS} (h : RT (Q 0) A) (h8 : RM (M 0) A) (hA : AV A) (x1 x2 : Int32) : ∃ r, fX7_tile Q x1 x2 = some r ∧ fX8_tile M x1 x2 = some r := by
  rcases dep_any x1 with ⟨d, t, ht, rfl, hd⟩ | ⟨_, hd⟩
  · have h0 := tv_lt ht
    have h6 := ht.1
    have hf := fo_lt ht
    rw [fX7_tile, fX8_tile, hd, Option.bind_some, if_neg (ne6 (by omega)), isNumber_v ht, Option.bind_some, if_neg (show ¬ (1:Int32) = 0 by decide)]
    by_cases k0 : x2 = 0
    · subst k0
      rw [if_pos rfl, if_pos rfl, leastX_v ht, firstOf_v ht, Option.bind_some, Option.bind_some, coord0_all _ hf]
      exact ⟨_, rfl, rfl⟩
    rw [if_neg k0, if_neg k0]
    by_cases k1 : x2 = 1
    · subst k1
      rw [if_pos rfl, if_pos rfl, leastY_v ht, firstOf_v ht, Option.bind_some, Option.bind_some, coord1_all _ hf]
      exact ⟨_, rfl, rfl⟩
    rw [if_neg k1, if_neg k1]
    by_cases k2 : x2 = 2
    · rw [if_pos k2, if_pos k2, sizeAt_v h6, sizeOf_v ht]
      exact ⟨_, rfl, rfl⟩
    rw [if_neg k2, if_neg k2]
    by_cases k3 : x2 = 3
    · rw [if_pos k3, if_pos k3, dep8_tv ht]
      exact ⟨_, rfl, rfl⟩
    rw [if_neg k3, if_neg k3]
    by_cases k4 : x2 = 4
    · rw [if_pos k4, if_pos k4, pointsIn5_v h ht, pointsIn8_v h8 hA ht]
      exact ⟨_, rfl, rfl⟩
    rw [if_neg k4, if_neg k4]
    by_cases k5 : x2 = 5
    · rw [if_pos k5, if_pos k5, kindOf5_v h hA ht, whatIs8_v h8 hA ht]
      exact ⟨_, rfl, rfl⟩
    rw [if_neg k5, if_neg k5]
    by_cases k6 : x2 = 6
    · rw [if_pos k6, if_pos k6, isOrdered3_v h.1 hA h0.2, isOrdered8_v h8 hA h0.2, Option.bind_some]
      cases odb (A 1) t (A 2 1) with
      | true => exact ⟨_, rfl, rfl⟩
      | false => exact ⟨_, rfl, rfl⟩
    rw [if_neg k6, if_neg k6]
    by_cases k7 : x2 = 7
    · rw [if_pos k7, if_pos k7, isThere5_v h hA ht, Option.bind_some, leavesIn8_v h8 hA (hh := 6 - d) (by omega) ht, Option.bind_some, leavesIn5_v h hA (6 - d) d t 8 (by omega) ht (by omega), Option.bind_some]
      cases thb A d t with
      | true => exact ⟨_, rfl, rfl⟩
      | false => exact ⟨_, rfl, rfl⟩
    rw [if_neg k7, if_neg k7]
    exact ⟨_, rfl, rfl⟩
  · rw [fX7_tile, fX8_tile, hd, isNumber_no hd]
    exact ⟨_, rfl, rfl⟩
