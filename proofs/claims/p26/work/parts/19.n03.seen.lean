/-! what 'seen' adds up: a value of the plan -/
def canA (A : AS) : FS := fun r => match r with
  | 0 => fun i => nI (4096 + A 0 i)
  | 1 => fun i => nI (A 1 i)
  | 2 => fun j => nI (A 2 j)
  | _ => fun t => nI (cnt (A 0) (dpt t) t (A 2 0))
theorem canA_RT (A : AS) : RT (canA A) A := ⟨⟨fun _ _ => rfl, fun _ _ => rfl, fun _ _ => rfl⟩, fun d t ht => by
  show nI (cnt (A 0) (dpt t) t (A 2 0)) = nI (cnt (A 0) d t (A 2 0))
  rw [dpt_tv ht]⟩
def QA (A : AS) : Nat → FS := fun k => match k with
  | 0 => canA A
  | _ => fun _ _ => 0
def cvA (A : AS) (k : Nat) : Int32 := match k with
  | 0 => nI (A 2 0)
  | 1 => nI (LLn A 6 0 1)
  | 2 => nI (LLn A 6 0 1) + (nI (LLn A 6 0 1) - 1) / 3
  | 3 => nI (LLm A (fun d _ => d) 6 0 1)
  | 4 => nI (LLs A (wE A) 6 0 1)
  | 5 => nI (A 2 1)
  | 6 => nI (LLm A (Gm A) 6 0 1)
  | 7 => nI (A 2 2)
  | _ => nI (A 2 3)
def ofA (A : AS) (k : Nat) : Int32 := (fX7_of (QA A) (nI (k / 4)) (nI (k % 4))).getD 0
def tlA (A : AS) (w : Int32) (k : Nat) : Int32 := (fX7_tile (QA A) (nI k) w).getD 0
theorem count_A {Q : Nat → FS} {A : AS} (h : RT (Q 0) A) (hA : AV A) {k : Nat} (hk : k < 9) : fX7_count Q (nI k) = some (cvA A k) := by
  rw [fX7_count]
  rcases (show k = 0 ∨ k = 1 ∨ k = 2 ∨ k = 3 ∨ k = 4 ∨ k = 5 ∨ k = 6 ∨ k = 7 ∨ k = 8 by omega) with rfl | rfl | rfl | rfl | rfl | rfl | rfl | rfl | rfl
  · rw [if_pos (by decide), h.1.1 0 (by decide)]
    rfl
  · rw [if_neg (by decide), if_pos (by decide), leaves5_v h hA, Option.bind_some]
    rfl
  · rw [if_neg (by decide), if_neg (by decide), if_pos (by decide), fX5_tiles, leaves5_v h hA, Option.bind_some, Option.bind_some]
    rfl
  · rw [if_neg (by decide), if_neg (by decide), if_neg (by decide), if_pos (by decide), deepest_top h hA, Option.bind_some]
    rfl
  · rw [if_neg (by decide), if_neg (by decide), if_neg (by decide), if_neg (by decide), if_pos (by decide), empty_top h hA, Option.bind_some]
    rfl
  · rw [if_neg (by decide), if_neg (by decide), if_neg (by decide), if_neg (by decide), if_neg (by decide), if_pos (by decide), h.1.1 1 (by decide)]
    rfl
  · have g5 := uneven5_v h hA 6 0 1 8 rfl tv01 (by decide)
    rw [show nI 1 = 1 from rfl, show nI 0 = 0 from rfl] at g5
    rw [if_neg (by decide), if_neg (by decide), if_neg (by decide), if_neg (by decide), if_neg (by decide), if_neg (by decide), if_pos (by decide), g5, Option.bind_some]
    rfl
  · rw [if_neg (by decide), if_neg (by decide), if_neg (by decide), if_neg (by decide), if_neg (by decide), if_neg (by decide), if_neg (by decide), if_pos (by decide), h.1.1 2 (by decide)]
    rfl
  · rw [if_neg (by decide), if_neg (by decide), if_neg (by decide), if_neg (by decide), if_neg (by decide), if_neg (by decide), if_neg (by decide), if_neg (by decide), if_pos (by decide), h.1.1 3 (by decide)]
    rfl
/-- what 'seen' asks, and what is answered -/
def SeenH (Q : Nat → FS) (A : AS) : Prop := A 2 0 ≤ 50 ∧ (∀ k, k < 9 → fX7_count Q (nI k) = some (cvA A k)) ∧ (∀ k, fX7_of Q (nI (k / 4)) (nI (k % 4)) = some (ofA A k)) ∧ (∀ k, fX7_tile Q (nI k) 6 = some (tlA A 6 k)) ∧ (∀ k, fX7_tile Q (nI k) 7 = some (tlA A 7 k))
theorem SeenH_of {Q : Nat → FS} {M : FS} {A : AS} (h : RT (Q 0) A) (h8 : RM (M 0) A) (hA : AV A) : SeenH Q A := by
  have t : ∀ (w : Int32) (k : Nat), fX7_tile Q (nI k) w = some (tlA A w k) := by
    intro w k
    obtain ⟨r, e1, e2⟩ := tile_v h h8 hA (nI k) w
    obtain ⟨r2, e3, e4⟩ := tile_v (Q := QA A) (canA_RT A) h8 hA (nI k) w
    rw [e2] at e4
    injection e4 with e4
    unfold tlA
    rw [e1, e3, e4]
    rfl
  refine ⟨hA.1, fun k hk => count_A h hA hk, fun k => ?_, t 6, t 7⟩
  obtain ⟨r, e1, e2⟩ := of_v h h8 hA (nI (k / 4)) (nI (k % 4))
  obtain ⟨r2, e3, e4⟩ := of_v (Q := QA A) (canA_RT A) h8 hA (nI (k / 4)) (nI (k % 4))
  rw [e2] at e4
  injection e4 with e4
  unfold ofA
  rw [e1, e3, e4]
  rfl
theorem SeenJ {Q : Nat → FS} {M : FS} {A : AS} {s : Nat} {H : Nat → AS} {fl : Nat → Bool} {SL : Nat → AS} {L : Nat} {C : Nat → Nat} {a : Nat} (h : JJ Q M A s H fl SL L C a) : SeenH Q A := SeenH_of h.2.1 h.2.2.1 h.1
def sA (cv : Nat → Int32) : Nat → Int64
  | 0 => 31
  | k + 1 => 31 * sA cv k + (cv k).toInt64
def sB (ov : Nat → Int32) (h : Int64) : Nat → Int64
  | 0 => h
  | k + 1 => 31 * sB ov h k + (ov k).toInt64
def sC (t6 t7 : Nat → Int32) (h : Int64) : Nat → Int64
  | 0 => h
  | k + 1 => 31 * (31 * sC t6 t7 h k + (t6 (k + 1)).toInt64) + (t7 (k + 1)).toInt64
def sv (A : AS) : Int64 := sC (tlA A 6) (tlA A 7) (sB (ofA A) (sA (cvA A) 9) (4 * A 2 0)) 31
theorem count10_J {Q : Nat → FS} {M : FS} {A : AS} {s : Nat} {H : Nat → AS} {fl : Nat → Bool} {SL : Nat → AS} {L : Nat} {C : Nat → Nat} {a : Nat} (h : JJ Q M A s H fl SL L C a) : fX7_count Q 10 = some (nI s) := by
  rw [fX7_count, if_neg (by decide), if_neg (by decide), if_neg (by decide), if_neg (by decide), if_neg (by decide), if_neg (by decide), if_neg (by decide), if_neg (by decide), if_neg (by decide), if_neg (by decide), if_pos (by decide), h.2.2.2.1.2.1]
theorem count0_J {Q : Nat → FS} {M : FS} {A : AS} {s : Nat} {H : Nat → AS} {fl : Nat → Bool} {SL : Nat → AS} {L : Nat} {C : Nat → Nat} {a : Nat} (h : JJ Q M A s H fl SL L C a) : fX7_count Q 0 = some (nI (A 2 0)) := by
  rw [fX7_count, if_pos rfl, h.2.1.1.1 0 (by decide)]
