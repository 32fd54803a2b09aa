/-! the relation at the start; the law from its entry -/
def A00 : AS := mkA (fun _ => 0) (fun _ => 0) 0 0 2 6
theorem AV_00 : AV A00 := ⟨by decide, by decide, ⟨by decide, by decide⟩, ⟨by decide, by decide⟩, fun i hi => absurd hi (Nat.not_lt_zero i), fun i j hi => absurd hi (Nat.not_lt_zero i), fun i hi => absurd hi (Nat.not_lt_zero i), fun i j hi => absurd hi (Nat.not_lt_zero i)⟩
theorem RC_00 : RC P00 A00 := by
  refine ⟨fun j hj => ?_, fun i hi => absurd hi (Nat.not_lt_zero i), fun i hi => absurd hi (Nat.not_lt_zero i)⟩
  rcases (show j = 0 ∨ j = 1 ∨ j = 2 ∨ j = 3 by omega) with rfl | rfl | rfl | rfl
  · rfl
  · rfl
  · rfl
  · rfl
theorem RM_00 : RM (M00 0) A00 := ⟨rfl, rfl, rfl, rfl, fun i hi => absurd hi (Nat.not_lt_zero i), fun _ => 0, fun i hi => absurd hi (Nat.not_lt_zero i), fun i j hi => absurd hi (Nat.not_lt_zero i), fun t => rfl⟩
theorem init_JJ : JJ Q00 M00 A00 0 (fun _ => A00) (fun _ => false) (fun _ => A00) 0 (fun _ => 0) 0 := ⟨AV_00, ⟨RC_00, fun d t ht => rfl⟩, RM_00, ⟨by decide, rfl, rfl, fun i hi => absurd hi (Nat.not_lt_zero i)⟩, fun i hi => ⟨rfl, rfl, fun e => Bool.noConfusion e⟩, ⟨by decide, rfl, rfl, fun i hi => absurd hi (Nat.not_lt_zero i)⟩, by decide, rfl⟩
theorem init_II : II Q00 M00 := II_of init_JJ
