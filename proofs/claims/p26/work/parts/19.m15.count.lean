/-! counts 3 and 4 -/
theorem ofLeaves3_v {M : FS} {A : AS} (h : RM (M 0) A) (hA : AV A) : fX8_ofLeaves M 3 = some (nI (LLm A (fun d _ => d) 6 0 1), sf M 8 3 0) := by
  obtain ⟨k, hk⟩ := ofL_v (M := sf M 8 3 0) (show RM (M 0) A from h) hA (x := 3) (by decide)
  rw [fX8_ofLeaves, Option.bind_some, hk, fX8_ofLeaves_L12, if_pos (show (4096:Int32) ≤ nI 4096 by decide), if_pos rfl]
theorem ofLeaves4_v {M : FS} {A : AS} (h : RM (M 0) A) (hA : AV A) : fX8_ofLeaves M 4 = some (nI (LLs A (wE A) 6 0 1), sf M 8 3 0) := by
  obtain ⟨k, hk⟩ := ofL_v (M := sf M 8 3 0) (show RM (M 0) A from h) hA (x := 4) (by decide)
  rw [fX8_ofLeaves, Option.bind_some, hk, fX8_ofLeaves_L12, if_pos (show (4096:Int32) ≤ nI 4096 by decide), if_neg (show ¬ (4:Int32) = 3 by decide), if_pos rfl]
theorem deepest_top {T : FS} {A : AS} (h : RT T A) (hA : AV A) : fX5_deepestIn T 8 1 0 = some (nI (LLm A (fun d _ => d) 6 0 1)) := deepest5_v h hA 6 0 1 8 rfl tv01 (by decide)
theorem empty_top {T : FS} {A : AS} (h : RT T A) (hA : AV A) : fX5_emptyLeavesIn T 8 1 0 = some (nI (LLs A (wE A) 6 0 1)) := empty5_v h hA 6 0 1 8 rfl tv01 (by decide)
