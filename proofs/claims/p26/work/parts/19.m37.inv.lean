/-! what every call keeps -/
def HsQ (Q : Nat → FS) (M : FS) (s : Nat) (H : Nat → AS) : Prop := s ≤ 6 ∧ Q 2 0 0 = nI s ∧ M 8 0 = nI s ∧ ∀ i, i < s → AV (H i) ∧ RC (Q (3 + i)) (H i) ∧ RM (fun j => M 2 (116 * i + j)) (H i)
def SlQ (Q : Nat → FS) (M : FS) (fl : Nat → Bool) (SL : Nat → AS) : Prop := ∀ i, i < 2 → Q 2 1 i = bi (fl i) ∧ M 4 i = bi (fl i) ∧ (fl i = true → AV (SL i) ∧ RC (Q (9 + i)) (SL i) ∧ RM (fun j => M 3 (116 * i + j)) (SL i))
def JJ (Q : Nat → FS) (M : FS) (A : AS) (s : Nat) (H : Nat → AS) (fl : Nat → Bool) (SL : Nat → AS) (L : Nat) (C : Nat → Nat) (a : Nat) : Prop := AV A ∧ RT (Q 0) A ∧ RM (M 0) A ∧ HsQ Q M s H ∧ SlQ Q M fl SL ∧ PdS (Q 1) M L C ∧ a ≤ 6 ∧ M 8 3 = nI a
def II (Q : Nat → FS) (M : FS) : Prop := ∃ A s H fl SL L C a, JJ Q M A s H fl SL L C a
theorem JJ_M {Q : Nat → FS} {M N : FS} {A : AS} {s : Nat} {H : Nat → AS} {fl : Nat → Bool} {SL : Nat → AS} {L : Nat} {C : Nat → Nat} {a b : Nat} (h : JJ Q M A s H fl SL L C a) (e0 : N 0 = M 0) (e2 : N 2 = M 2) (e3 : N 3 = M 3) (e4 : N 4 = M 4) (e5 : N 5 = M 5) (e80 : N 8 0 = M 8 0) (e81 : N 8 1 = M 8 1) (hb : b ≤ 6) (e83 : N 8 3 = nI b) : JJ Q N A s H fl SL L C b := by
  obtain ⟨h1, h2, h3, h4, h5, h6, h7, h8⟩ := h
  unfold HsQ at h4
  unfold SlQ at h5
  unfold PdS at h6
  unfold JJ HsQ SlQ PdS
  rw [e0, e2, e3, e4, e5, e80, e81]
  exact ⟨h1, h2, h3, h4, h5, h6, hb, e83⟩
theorem JJ_tree {Q : Nat → FS} {M : FS} {A B : AS} {s : Nat} {H : Nat → AS} {fl : Nat → Bool} {SL : Nat → AS} {L : Nat} {C : Nat → Nat} {a : Nat} (h : JJ Q M A s H fl SL L C a) {T : FS} {r : FA} (hB : AV B) (hT : RT T B) (hr : RM r B) : JJ (sq Q 0 T) (sr M 0 r) B s H fl SL L C a := by
  obtain ⟨h1, h2, h3, h4, h5, h6, h7, h8⟩ := h
  refine ⟨hB, by rw [sq_s]; exact hT, by rw [sr_at]; exact hr, ⟨h4.1, h4.2.1, h4.2.2.1, fun i hi => ?_⟩, fun i hi => ?_, h6, h7, h8⟩
  · rw [sq_n (show ¬ 3 + i = 0 by omega)]
    exact h4.2.2.2 i hi
  · rw [sq_n (show ¬ 9 + i = 0 by omega)]
    exact h5 i hi
theorem mgH_3 (Q S : Nat → FS) {i : Nat} (hi : i < 6) : mgH Q S (3 + i) = S (3 + i) := by
  rcases (show i = 0 ∨ i = 1 ∨ i = 2 ∨ i = 3 ∨ i = 4 ∨ i = 5 by omega) with rfl | rfl | rfl | rfl | rfl | rfl
  · rfl
  · rfl
  · rfl
  · rfl
  · rfl
  · rfl
theorem mgH_9 (Q S : Nat → FS) {i : Nat} (hi : i < 2) : mgH Q S (9 + i) = Q (9 + i) := by
  rcases (show i = 0 ∨ i = 1 by omega) with rfl | rfl
  · rfl
  · rfl
theorem mgS_3 (Q S : Nat → FS) {i : Nat} (hi : i < 6) : mgS Q S (3 + i) = Q (3 + i) := by
  rcases (show i = 0 ∨ i = 1 ∨ i = 2 ∨ i = 3 ∨ i = 4 ∨ i = 5 by omega) with rfl | rfl | rfl | rfl | rfl | rfl
  · rfl
  · rfl
  · rfl
  · rfl
  · rfl
  · rfl
theorem mgS_9 (Q S : Nat → FS) {i : Nat} (hi : i < 2) : mgS Q S (9 + i) = S (9 + i) := by
  rcases (show i = 0 ∨ i = 1 by omega) with rfl | rfl
  · rfl
  · rfl
theorem nxS_le {s : Nat} (hs : s ≤ 6) : nxS s ≤ 6 := by
  unfold nxS
  split <;> omega
theorem nxH_AV {H : Nat → AS} {s : Nat} {A : AS} (hA : AV A) (hH : ∀ i, i < s → AV (H i)) {i : Nat} : AV (nxH H s A i) := by
  unfold nxH
  by_cases h6 : s = 6
  · rw [if_pos h6]
    by_cases h5 : i < 5
    · rw [if_pos h5]
      exact hH _ (by omega)
    · rw [if_neg h5]
      exact hA
  · rw [if_neg h6]
    by_cases h5 : i < s
    · rw [if_pos h5]
      exact hH _ h5
    · rw [if_neg h5]
      exact hA
theorem rec_JJ {Q : Nat → FS} {M : FS} {A : AS} {s : Nat} {H : Nat → AS} {fl : Nat → Bool} {SL : Nat → AS} {L : Nat} {C : Nat → Nat} {a : Nat} (h : JJ Q M A s H fl SL L C a) : ∃ (S : Nat → FS) (N : FS), fX0_remember Q (Q 0) = some S ∧ fX8_records M = some N ∧ JJ (mgH Q S) N A (nxS s) (nxH H s A) fl SL L C a ∧ mgH Q S 0 = Q 0 ∧ mgH Q S 1 = Q 1 ∧ N 7 = M 7 ∧ N 8 5 = M 8 5 := by
  obtain ⟨h1, h2, h3, h4, h5, h6, h7, h8⟩ := h
  obtain ⟨k1, k2, k3, k4⟩ := h4
  obtain ⟨S, e1, e2, e3⟩ := remember_v (P := Q 0) k1 k2 h2.1 h1 (fun i hi => (k4 i hi).2.1)
  obtain ⟨g, e4, e5⟩ := records_v k1 k3 h3 h1 (fun i hi => ⟨(k4 i hi).1, (k4 i hi).2.2⟩)
  refine ⟨S, _, e1, e4, ⟨h1, h2, h3, ⟨nxS_le k1, e2, rfl, fun i hi => ⟨nxH_AV h1 (fun i hi => (k4 i hi).1), ?_, e5 i hi⟩⟩, fun i hi => ⟨(h5 i hi).1, (h5 i hi).2.1, fun e => ?_⟩, h6, h7, h8⟩, rfl, rfl, rfl, rfl⟩
  · have := nxS_le k1
    rw [mgH_3 Q S (by omega)]
    exact e3 i hi
  · rw [mgH_9 Q S hi]
    exact (h5 i hi).2.2 e
theorem II_of {Q : Nat → FS} {M : FS} {A : AS} {s : Nat} {H : Nat → AS} {fl : Nat → Bool} {SL : Nat → AS} {L : Nat} {C : Nat → Nat} {a : Nat} (h : JJ Q M A s H fl SL L C a) : II Q M := ⟨A, s, H, fl, SL, L, C, a, h⟩
theorem of_c : cp_of II := by
  intro Q M x1 x2 ⟨A, s, H, fl, SL, L, C, a, h⟩
  exact of_v h.2.1 h.2.2.1 h.1 x1 x2
theorem leafAt_c : cp_leafAt II := by
  intro Q M x1 x2 ⟨A, s, H, fl, SL, L, C, a, h⟩
  exact leafAt_v h.2.1 h.2.2.1 h.1 x1 x2
theorem tile_c : cp_tile II := by
  intro Q M x1 x2 ⟨A, s, H, fl, SL, L, C, a, h⟩
  exact tile_v h.2.1 h.2.2.1 h.1 x1 x2
theorem letter_c : cp_letter II := by
  intro Q M x1 x2 _
  exact letter_v Q M x1 x2
theorem beside_c : cp_beside II := by
  intro Q M x1 x2 x3 ⟨A, s, H, fl, SL, L, C, a, h⟩
  exact beside_v h.2.1 h.2.2.1 h.1 x1 x2 x3
theorem nearest_c : cp_nearest II := by
  intro Q M x1 x2 x3 ⟨A, s, H, fl, SL, L, C, a, h⟩
  exact nearest_v h.2.1.1 h.2.2.1 h.1 x1 x2 x3
theorem JJ_mm {Q : Nat → FS} {M : FS} {A : AS} {s : Nat} {H : Nat → AS} {fl : Nat → Bool} {SL : Nat → AS} {L : Nat} {C : Nat → Nat} {a b : Nat} (h : JJ Q M A s H fl SL L C a) (v : Int32) (hb : b ≤ 6) : JJ Q (mm M v b) A s H fl SL L C b := JJ_M h rfl rfl rfl rfl rfl rfl rfl hb rfl
theorem neighbours_c : cp_neighbours II := by
  intro Q M x1 ⟨A, s, H, fl, SL, L, C, a, h⟩
  obtain ⟨r, v, b, hb, e1, e2⟩ := neighbours_v h.2.1 h.2.2.1 h.1 h.2.2.2.2.2.2.1 h.2.2.2.2.2.2.2 x1
  exact ⟨r, _, e1, e2, II_of (JJ_mm h v hb)⟩
theorem count_c : cp_count II := by
  intro Q M x1 ⟨A, s, H, fl, SL, L, C, a, h⟩
  have hp := h.2.2.2.2.2.1
  have hh := h.2.2.2.1
  obtain ⟨r, v, b, hb, e1, e2⟩ := count_v h.2.1 h.2.2.1 h.1 h.2.2.2.2.2.2.1 h.2.2.2.2.2.2.2 (by rw [hp.2.1, hp.2.2.1]) (by rw [hh.2.1, hh.2.2.1]) x1
  exact ⟨r, _, e1, e2, II_of (JJ_mm h v hb)⟩
theorem window_c : cp_window II := by
  intro Q M x1 x2 x3 x4 x5 ⟨A, s, H, fl, SL, L, C, a, h⟩
  obtain ⟨r, g, e1, e2⟩ := window_v h.2.1 h.2.2.1 h.1 x1 x2 x3 x4 x5
  exact ⟨r, Q, _, e1, e2, II_of (JJ_M h rfl rfl rfl rfl rfl rfl rfl h.2.2.2.2.2.2.1 h.2.2.2.2.2.2.2)⟩
theorem fault_c : cp_fault II := by
  intro Q M ⟨A, s, H, fl, SL, L, C, a, h⟩
  obtain ⟨r, g, i, t, e1, e2, _⟩ := fault_v h.2.2.2.2.2.1
  refine ⟨r, _, ?_, e2, II_of (JJ_M h rfl rfl rfl rfl rfl rfl rfl h.2.2.2.2.2.2.1 h.2.2.2.2.2.2.2)⟩
  rw [fX7_fault, e1, Option.bind_some]
theorem put_c : cp_put II := by
  intro Q M x1 ⟨A, s, H, fl, SL, L, C, a, h⟩
  obtain ⟨r, f, g, L1, C1, e1, e2, e3⟩ := put_v h.2.2.2.2.2.1 x1
  obtain ⟨h1, h2, h3, h4, h5, h6, h7, h8⟩ := h
  refine ⟨r, _, _, e1, e2, A, s, H, fl, SL, L1, C1, a, h1, h2, h3, ⟨h4.1, h4.2.1, h4.2.2.1, fun i hi => ?_⟩, fun i hi => ?_, ?_, h7, h8⟩
  · rw [sq_n (show ¬ 3 + i = 1 by omega)]
    exact h4.2.2.2 i hi
  · rw [sq_n (show ¬ 9 + i = 1 by omega)]
    exact h5 i hi
  · rw [sq_s]
    exact e3
theorem wipe_c : cp_wipe II := by
  intro Q M ⟨A, s, H, fl, SL, L, C, a, h⟩
  obtain ⟨e1, e2, e3⟩ := wipe_v h.2.2.2.2.2.1
  obtain ⟨h1, h2, h3, h4, h5, h6, h7, h8⟩ := h
  refine ⟨_, _, _, e1, e2, A, s, H, fl, SL, 0, C, a, h1, h2, h3, ⟨h4.1, h4.2.1, h4.2.2.1, fun i hi => ?_⟩, fun i hi => ?_, ?_, h7, h8⟩
  · rw [sq_n (show ¬ 3 + i = 1 by omega)]
    exact h4.2.2.2 i hi
  · rw [sq_n (show ¬ 9 + i = 1 by omega)]
    exact h5 i hi
  · rw [sq_s]
    exact e3
