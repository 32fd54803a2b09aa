/-! the leaves that meet a window, as the reference walks them -/
theorem tilesL_go {M : FS} {A : AS} (h : RM (M 0) A) (hA : AV A) {a b c e : Nat} (ha : a < 64) (hb : b < 64) (hc : c < 64) (he : e < 64) : ∀ q y n, y < 4096 → fX8_tilesIn_L30 (nI a) (nI b) (nI c) (nI e) 1 (q + 1) M (nI n) (nI y) = fX8_tilesIn_L30 (nI a) (nI b) (nI c) (nI e) 1 q M (nI (n + wM a b c e (ld A y) (tl (ld A y) y))) (nI (y + 4 ^ (6 - ld A y))) := by
  intro q y n hy
  have h6 := (ld_spec hA y).1
  have ht := tl_tv h6 hy
  rw [fX8_tilesIn_L30, if_neg (show ¬ (4096:Int32) ≤ nI y from nI_ge (b := 4096) hy (by decide)), leafOf8_v h hA hy, Option.bind_some, meets8_v ha hb hc he ht, Option.bind_some]
  cases hm : mtb a b c e (ld A y) (tl (ld A y) y) with
  | false => rw [if_pos (show bi false = 0 from rfl), pathsIn_v ht, Option.bind_some, nI_add, wM_f hm, Nat.add_zero]
  | true =>
    have e1 : wM a b c e (ld A y) (tl (ld A y) y) = 1 := by
      unfold wM
      rw [hm, cond_true]
    rw [if_neg (show ¬ bi true = 0 by decide), if_pos rfl, fX8_tilesIn_L80, pathsIn_v ht, Option.bind_some, nI_add, nI_1, e1]
theorem wscan_v {M : FS} {A : AS} (h : RM (M 0) A) (hA : AV A) {a b c e : Nat} (ha : a < 64) (hb : b < 64) (hc : c < 64) (he : e < 64) : fX8_tilesIn_L30 (nI a) (nI b) (nI c) (nI e) 1 6000 M 0 0 = some (nI (LLs A (wM a b c e) 6 0 1), M) := by
  have hle : LLn A 6 0 1 ≤ 4 ^ 6 := LLs_le A (fun _ _ => 1) (fun _ _ => Nat.le_refl 1) 6 0 1
  have e46 : (4 : Nat) ^ 6 = 4096 := by decide
  have S := (scan hA (fun q y (n : Nat) => fX8_tilesIn_L30 (nI a) (nI b) (nI c) (nI e) 1 q M (nI n) (nI y)) (fun d t s => s + wM a b c e d t) (fun _ => True) 4096 (fun _ _ _ _ _ => trivial) (fun q y n _ hy _ => tilesL_go h hA ha hb hc he q y n hy) 6 0 1 (6000 - LLn A 6 0 1) 0 rfl tv01 (TH0 A 1) (by decide) trivial).1
  rw [LLf_add A (wM a b c e) 6 0 1 0, show 6000 - LLn A 6 0 1 + LLn A 6 0 1 = 6000 by omega, fo01] at S
  obtain ⟨k, hk⟩ : ∃ k, 6000 - LLn A 6 0 1 = k + 1 := ⟨6000 - LLn A 6 0 1 - 1, by omega⟩
  rw [hk, Nat.zero_add, show 0 + 4 ^ (6 - 0) = 4096 by decide] at S
  have S2 : fX8_tilesIn_L30 (nI a) (nI b) (nI c) (nI e) 1 6000 M (nI 0) (nI 0) = fX8_tilesIn_L30 (nI a) (nI b) (nI c) (nI e) 1 (k + 1) M (nI (LLs A (wM a b c e) 6 0 1)) (nI 4096) := S
  rw [show nI 0 = 0 from rfl] at S2
  rw [S2, fX8_tilesIn_L30, if_pos (show (4096:Int32) ≤ nI 4096 by decide)]
