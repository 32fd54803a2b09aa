/-! what the calls of a run leave behind them -/
def GO (A : AS) : Prop := ∀ i, i < A 2 1 → A 1 i < 24
theorem lln_lt (B : AS) : LLn B 6 0 1 < 2 ^ 31 := by
  have hle : LLn B 6 0 1 ≤ 4 ^ 6 := LLs_le B (fun _ _ => 1) (fun _ _ => Nat.le_refl 1) 6 0 1
  have e46 : (4 : Nat) ^ 6 = 4096 := by decide
  omega
theorem neg_of {e : Int32} (h : ¬ 0 ≤ e) : e < 0 := Int32.not_le.mp h
/-- refused, and nothing has changed; or done, and the state before is recorded -/
def StpQ (Q : Nat → FS) (A : AS) (s : Nat) (H : Nat → AS) (fl : Nat → Bool) (SL : Nat → AS) (L : Nat) (C : Nat → Nat) (a : Nat) (r : Int32) (Q1 : Nat → FS) : Prop :=
  (r < 0 ∧ Q1 = Q) ∨ (¬ r < 0 ∧ ∃ (M1 : FS) (A1 : AS), JJ Q1 M1 A1 (nxS s) (nxH H s A) fl SL L C a ∧ (GO A → GO A1) ∧ (1 ≤ A 2 0 → 1 ≤ A1 2 0))
theorem point_s {Q : Nat → FS} {M : FS} {A : AS} {s : Nat} {H : Nat → AS} {fl : Nat → Bool} {SL : Nat → AS} {L : Nat} {C : Nat → Nat} {a : Nat} (h : JJ Q M A s H fl SL L C a) (x1 x2 : Int32) : ∃ (r : Int32) (Q1 : Nat → FS), fX7_point Q x1 x2 = some (r, Q1) ∧ StpQ Q A s H fl SL L C a r Q1 := by
  rcases isPlace_any x1 x2 with ⟨x, y, hx, hy, rfl, rfl, e1, e8⟩ | ⟨e1, e8⟩
  · obtain ⟨e, a1, a2, a3⟩ := err_v h.2.1.1 h.2.2.1 h.1 hx hy
    have E7 := fX7_point.eq_1 Q (nI x) (nI y)
    rw [e1, Option.bind_some, if_neg n10, placeAt_all x hx y hy, Option.bind_some, a1, Option.bind_some] at E7
    rcases a3 with ⟨b1, b2, b3⟩ | ⟨b1, b2⟩
    · subst b1
      obtain ⟨S, N, r1, r2, r3, r4, _⟩ := rec_JJ h
      obtain ⟨T1, c1, c2⟩ := addPoint_v r3.2.1 (pth_lt 6 x y) b2
      obtain ⟨g, d1, d2⟩ := comes_v r3.2.2.1 hx hy b2
      have hB := AV_push h.1 (pth_lt 6 x y) b2 b3
      rw [if_pos rfl, r1, Option.bind_some, Option.bind_some, c1, Option.bind_some, Option.bind_some, sq_s, leaves5_v c2 hB, Option.bind_some] at E7
      exact ⟨_, _, E7, Or.inr ⟨nI_pos (lln_lt _), _, _, JJ_tree r3 hB c2 d2, fun g0 => g0, fun _ => Nat.succ_le_succ (Nat.zero_le _)⟩⟩
    · rw [if_neg b1] at E7
      exact ⟨_, _, E7, Or.inl ⟨neg_of b2, rfl⟩⟩
  · refine ⟨-1, Q, ?_, Or.inl ⟨by decide, rfl⟩⟩
    rw [fX7_point, e1]
    rfl
theorem take_s {Q : Nat → FS} {M : FS} {A : AS} {s : Nat} {H : Nat → AS} {fl : Nat → Bool} {SL : Nat → AS} {L : Nat} {C : Nat → Nat} {a : Nat} (h : JJ Q M A s H fl SL L C a) (h2 : 2 ≤ A 2 0) (x1 : Int32) : ∃ (r : Int32) (Q1 : Nat → FS), fX7_take Q x1 = some (r, Q1) ∧ StpQ Q A s H fl SL L C a r Q1 := by
  rcases isPoint_any h.2.1.1 h.2.2.1 h.1 x1 with ⟨i, hi, rfl, e5, e8⟩ | ⟨e5, e8⟩
  · obtain ⟨S, N, r1, r2, r3, r4, _⟩ := rec_JJ h
    obtain ⟨T1, c1, c2⟩ := removePoint_v r3.2.1 h.1 hi
    obtain ⟨g, d1, d2⟩ := takes_v r3.2.2.1 h.1 hi
    have hB := AV_take h.1 hi
    refine ⟨nI (LLn (aTake A i) 6 0 1), sq (mgH Q S) 0 T1, ?_, Or.inr ⟨nI_pos (lln_lt _), sr N 0 g, aTake A i, JJ_tree r3 hB c2 d2, fun g0 => g0, fun _ => ?_⟩⟩
    · rw [fX7_take, e5, Option.bind_some, if_neg n10, r1, Option.bind_some, Option.bind_some, c1, Option.bind_some, Option.bind_some, sq_s, leaves5_v c2 hB, Option.bind_some]
    · show 1 ≤ A 2 0 - 1
      omega
  · refine ⟨-1, Q, ?_, Or.inl ⟨by decide, rfl⟩⟩
    rw [fX7_take, e5]
    rfl
theorem move_s {Q : Nat → FS} {M : FS} {A : AS} {s : Nat} {H : Nat → AS} {fl : Nat → Bool} {SL : Nat → AS} {L : Nat} {C : Nat → Nat} {a : Nat} (h : JJ Q M A s H fl SL L C a) (x1 x2 x3 : Int32) : ∃ (r : Int32) (Q1 : Nat → FS), fX7_move Q x1 x2 x3 = some (r, Q1) ∧ StpQ Q A s H fl SL L C a r Q1 := by
  have hn := h.1.1
  rcases isPoint_any h.2.1.1 h.2.2.1 h.1 x1 with ⟨i, hi, rfl, e5, e8⟩ | ⟨e5, e8⟩
  · rcases isPlace_any x2 x3 with ⟨x, y, hx, hy, rfl, rfl, p1, p8⟩ | ⟨p1, p8⟩
    · have E7 := fX7_move.eq_1 Q (nI i) (nI x) (nI y)
      rw [e5, Option.bind_some, if_neg n10, p1, Option.bind_some, if_neg n10, placeAt_all x hx y hy, Option.bind_some] at E7
      have go : (∀ j, j < A 2 0 → ¬ j = i → ¬ A 0 j = pth 6 x y) → ∃ (r : Int32) (Q1 : Nat → FS), fX7_move_L61 Q (nI i) (nI (4096 + pth 6 x y)) = some (r, Q1) ∧ StpQ Q A s H fl SL L C a r Q1 := by
        intro hx2
        obtain ⟨S, N, r1, r2, r3, r4, _⟩ := rec_JJ h
        obtain ⟨T1, c1, c2⟩ := shiftPoint_v r3.2.1 h.1 hi (pth_lt 6 x y)
        have hB := AV_move h.1 hi (pth_lt 6 x y) hx2
        have d2 := RM_move r3.2.2.1 hn hi hx hy
        refine ⟨nI (LLn (aMove A i (pth 6 x y)) 6 0 1), sq (mgH Q S) 0 T1, ?_, Or.inr ⟨nI_pos (lln_lt _), _, _, JJ_tree r3 hB c2 d2, fun g0 => g0, fun g1 => g1⟩⟩
        rw [fX7_move_L61, r1, Option.bind_some, Option.bind_some, c1, Option.bind_some, Option.bind_some, sq_s, leaves5_v c2 hB, Option.bind_some]
      rcases at_v h.2.1.1 h.2.2.1 h.1 hx hy with ⟨j, hj, ej, q5, q8⟩ | ⟨hno, q5, q8⟩
      · rw [q5, Option.bind_some, if_neg (ne6 (by omega))] at E7
        by_cases hji : j = i
        · subst hji
          rw [if_pos rfl] at E7
          rw [E7]
          exact go (fun l hl hne e => hne (h.1.2.2.2.2.2.1 l j hl hj (by rw [e, ej])))
        · have hne : ¬ nI j = nI i := fun e => hji ((nI_eq (by omega) (by omega)).mp e)
          rw [if_neg hne] at E7
          exact ⟨_, _, E7, Or.inl ⟨by decide, rfl⟩⟩
      · rw [q5, Option.bind_some, if_pos rfl] at E7
        rw [E7]
        exact go (fun l hl _ => hno l hl)
    · refine ⟨-1, Q, ?_, Or.inl ⟨by decide, rfl⟩⟩
      rw [fX7_move, e5, p1]
      rfl
  · refine ⟨-1, Q, ?_, Or.inl ⟨by decide, rfl⟩⟩
    rw [fX7_move, e5]
    rfl
theorem GO_uno {A : AS} {i : Nat} (h : GO A) : GO (aUno A i) := by
  intro j hj
  have hj : j < A 2 1 - 1 := hj
  show upN (A 1) i (A 1 (A 2 1 - 1)) j < 24
  by_cases hji : j = i
  · rw [hji, upN_s]
    exact h _ (by omega)
  · rw [upN_n hji]
    exact h _ (by omega)
theorem GO_ord {A : AS} {t : Nat} (h : GO A) (ht : t < 24) : GO (aOrd A t) := by
  intro j hj
  have hj : j < A 2 1 + 1 := hj
  show upN (A 1) (A 2 1) t j < 24
  by_cases hji : j = A 2 1
  · rw [hji, upN_s]
    exact ht
  · rw [upN_n hji]
    exact h _ (by omega)
theorem split_s {Q : Nat → FS} {M : FS} {A : AS} {s : Nat} {H : Nat → AS} {fl : Nat → Bool} {SL : Nat → AS} {L : Nat} {C : Nat → Nat} {a : Nat} (h : JJ Q M A s H fl SL L C a) {t0 : Nat} (ht0 : t0 < 24) {x2 : Int32} (hx2 : x2 = 0 ∨ x2 = 1) : ∃ (r : Int32) (Q1 : Nat → FS), fX7_split Q (nI t0) x2 = some (r, Q1) ∧ StpQ Q A s H fl SL L C a r Q1 := by
  have hA := h.1
  have hk := hA.2.1
  rcases dep_any (nI t0) with ⟨d, t, ht, et, hd⟩ | ⟨_, hd⟩
  · have h0 := tv_lt ht
    have ett : t0 = t := (nI_eq (by omega) (by omega)).mp et
    subst ett
    have E7 := fX7_split.eq_1 Q (nI t0) x2
    rw [hd, Option.bind_some, if_neg (ne6 (by have := ht.1; omega)), isOrdered3_v h.2.1.1 hA h0.2, Option.bind_some, h.2.1.1.1 1 (by decide)] at E7
    by_cases h6 : nI d = 6
    · rw [if_pos h6] at E7
      exact ⟨_, _, E7, Or.inl ⟨by decide, rfl⟩⟩
    · rw [if_neg h6] at E7
      obtain ⟨S, N, r1, r2, r3, r4, _⟩ := rec_JJ h
      cases ho : odb (A 1) t0 (A 2 1) with
      | true =>
        rw [ho] at E7
        rcases hx2 with rfl | rfl
        · rw [if_neg (show ¬ bi true = 0 by decide), if_pos rfl] at E7
          obtain ⟨S2, i, hi, ei, c1, c2⟩ := removeOrder_v r3.2.1 hA h0.2 ho
          obtain ⟨g, d1, d2⟩ := forgets_v r3.2.2.1 hA hi ei
          have hB := AV_uno hA hi
          refine ⟨nI (LLn (aUno A i) 6 0 1), sq (mgH Q S) 0 (sr S2 3 (mgH Q S 0 3)), ?_, Or.inr ⟨nI_pos (lln_lt _), _, _, JJ_tree r3 hB c2 d2, fun g0 => GO_uno g0, fun g1 => g1⟩⟩
          rw [E7, fX7_split_L58, r1, Option.bind_some, Option.bind_some, if_pos rfl, c1, Option.bind_some, Option.bind_some, sq_s, leaves5_v c2 hB, Option.bind_some]
        · rw [if_pos (show bi true = 1 from rfl)] at E7
          exact ⟨_, _, E7, Or.inl ⟨by decide, rfl⟩⟩
      | false =>
        rw [ho] at E7
        rcases hx2 with rfl | rfl
        · rw [if_pos (show bi false = 0 from rfl)] at E7
          exact ⟨_, _, E7, Or.inl ⟨by decide, rfl⟩⟩
        · rw [if_neg (show ¬ bi false = 1 by decide), if_neg n10] at E7
          by_cases h12 : A 2 1 < 12
          · rw [if_pos (show nI (A 2 1) < 12 from nI_lt (b := 12) h12 (by decide))] at E7
            obtain ⟨S2, c1, c2⟩ := addOrder_v r3.2.1 h12 t0
            have d2 := RM_ord r3.2.2.1 hA h12 ho
            have hB := AV_ord hA h0.2 h12 (fun i hi e => by
              have := (odb_iff _ _ _).mpr ⟨i, hi, e⟩
              rw [ho] at this
              cases this)
            refine ⟨nI (LLn (aOrd A t0) 6 0 1), sq (mgH Q S) 0 (sr S2 3 (mgH Q S 0 3)), ?_, Or.inr ⟨nI_pos (lln_lt _), _, _, JJ_tree r3 hB c2 d2, fun g0 => GO_ord g0 ht0, fun g1 => g1⟩⟩
            rw [E7, fX7_split_L58, r1, Option.bind_some, Option.bind_some, if_neg n10, c1, Option.bind_some, Option.bind_some, sq_s, leaves5_v c2 hB, Option.bind_some]
          · have e12 : A 2 1 = 12 := by omega
            rw [e12, if_neg (show ¬ nI 12 < 12 by decide)] at E7
            exact ⟨_, _, E7, Or.inl ⟨by decide, rfl⟩⟩
  · refine ⟨-1, Q, ?_, Or.inl ⟨by decide, rfl⟩⟩
    rw [fX7_split, hd]
    rfl
theorem set_s {Q : Nat → FS} {M : FS} {A : AS} {s : Nat} {H : Nat → AS} {fl : Nat → Bool} {SL : Nat → AS} {L : Nat} {C : Nat → Nat} {a : Nat} (h : JJ Q M A s H fl SL L C a) (x1 x2 : Int32) : ∃ (r : Int32) (Q1 : Nat → FS), fX7_set Q x1 x2 = some (r, Q1) ∧ StpQ Q A s H fl SL L C a r Q1 := by
  have hA := h.1
  have hf := hA.2.2.1
  have hdp := hA.2.2.2.1
  obtain ⟨S, N, r1, r2, r3, r4, _⟩ := rec_JJ h
  have hT := r3.2.1
  have hr := r3.2.2.1
  have E7 := fX7_set.eq_1 Q x1 x2
  rcases in01 x1 with ⟨e, ein⟩ | ⟨e, ein⟩ | ⟨_, k0, k1, ein⟩
  · subst e
    rw [if_pos rfl, fX7_set_L12, if_pos rfl, fX7_set_L23] at E7
    rcases rng x2 (hi := 8) (by decide) with ⟨v, v1, v2, rfl, v3, v4, v5⟩ | ⟨hx, v5⟩
    · rw [if_neg v3, if_pos (show nI v ≤ 8 from v4), r1, Option.bind_some, Option.bind_some, if_pos rfl, fX7_set_L72, if_pos rfl, Option.bind_some, hT.1.1 2 (by decide)] at E7
      exact ⟨_, _, E7, Or.inr ⟨nI_pos (by omega), _, _, JJ_tree r3 (AV_full hA ⟨v1, v2⟩) (RT_full hT v) (RM_full hr v), fun g0 => g0, fun g1 => g1⟩⟩
    · rcases hx with hx | ⟨hx, hx2⟩
      · rw [if_pos hx] at E7
        exact ⟨_, _, E7, Or.inl ⟨by decide, rfl⟩⟩
      · rw [if_neg hx, if_neg (show ¬ x2 ≤ 8 from hx2)] at E7
        exact ⟨_, _, E7, Or.inl ⟨by decide, rfl⟩⟩
  · subst e
    rw [if_neg n10, if_pos rfl, fX7_set_L12, if_neg n10, fX7_set_L23] at E7
    rcases rng x2 (hi := 6) (by decide) with ⟨v, v1, v2, rfl, v3, v4, v5⟩ | ⟨hx, v5⟩
    · rw [if_neg v3, if_pos (show nI v ≤ 6 from v4), r1, Option.bind_some, Option.bind_some, if_neg n10, fX7_set_L72, if_neg n10, Option.bind_some, hT.1.1 3 (by decide)] at E7
      exact ⟨_, _, E7, Or.inr ⟨nI_pos (by omega), _, _, JJ_tree r3 (AV_deep hA ⟨v1, v2⟩) (RT_deep hT v) (RM_deep hr v), fun g0 => g0, fun g1 => g1⟩⟩
    · rcases hx with hx | ⟨hx, hx2⟩
      · rw [if_pos hx] at E7
        exact ⟨_, _, E7, Or.inl ⟨by decide, rfl⟩⟩
      · rw [if_neg hx, if_neg (show ¬ x2 ≤ 6 from hx2)] at E7
        exact ⟨_, _, E7, Or.inl ⟨by decide, rfl⟩⟩
  · rw [if_neg k0, if_neg k1] at E7
    exact ⟨_, _, E7, Or.inl ⟨by decide, rfl⟩⟩
theorem restore_x {Q : Nat → FS} {M : FS} {A : AS} {s : Nat} {H : Nat → AS} {fl : Nat → Bool} {SL : Nat → AS} {L : Nat} {C : Nat → Nat} {a : Nat} (h : JJ Q M A s H fl SL L C a) (hf : fl 0 = true) : ∃ (Q1 : Nat → FS) (M1 : FS), fX7_restore Q 0 = some (nI (SL 0 2 0), Q1) ∧ JJ Q1 M1 (SL 0) (nxS s) (nxH H s A) fl SL L C a := by
  have E7 := fX7_restore.eq_1 Q 0
  obtain ⟨q1, q2, q3⟩ := h.2.2.2.2.1 0 (by decide)
  have rd7 : rd 2 (Q 2 1) 0 = some (bi (fl 0)) := by
    rw [← q1]
    exact rd_v (Q 2 1) (i := 0) (by decide) (by decide)
  rw [show fX4_isSlot 0 = some 1 from rfl, Option.bind_some, if_neg n10, fX4_isFilled, show fX4_isSlot 0 = some 1 from rfl, Option.bind_some, if_neg n10, rd7, Option.bind_some, bz0, bz1, hf, if_neg (show ¬ bi true = 0 by decide)] at E7
  obtain ⟨S, N, r1, r2, r3, r4, r5, r6, r7⟩ := rec_JJ h
  obtain ⟨w1, w2, w3⟩ := r3.2.2.2.2.1 0 (by decide)
  obtain ⟨b1, b2, b3⟩ := w3 hf
  obtain ⟨T, c1, c2⟩ := show_v (P := mgH Q S 9) r3.2.1 h.1 b2 b1
  have d2 : RM (va_cpy (N 3) (N 0) (116 * 0) 0 116) (SL 0) := RM_ext b1 b3 fun j hj => by
    rw [pk_cpy_in (Nat.zero_le _) (by omega), Nat.sub_zero]
  rw [Option.bind_some, if_neg n10, r1, Option.bind_some, Option.bind_some, show fX4_planIn 0 = some 0 from rfl, Option.bind_some, if_pos rfl, c1, Option.bind_some, Option.bind_some] at E7
  refine ⟨_, _, ?_, JJ_tree r3 b1 c2 d2⟩
  rw [E7, sq_s, c2.1.1 0 (by decide)]
theorem restore_s {Q : Nat → FS} {M : FS} {A : AS} {s : Nat} {H : Nat → AS} {fl : Nat → Bool} {SL : Nat → AS} {L : Nat} {C : Nat → Nat} {a : Nat} (h : JJ Q M A s H fl SL L C a) (hf : fl 0 = true) (hf1 : fl 1 = false) (hg : GO (SL 0)) (hn : SL 0 2 0 = 1) (x1 : Int32) : ∃ (r : Int32) (Q1 : Nat → FS), fX7_restore Q x1 = some (r, Q1) ∧ StpQ Q A s H fl SL L C a r Q1 := by
  rcases in01 x1 with ⟨e, ein⟩ | ⟨e, ein⟩ | ⟨hx, k0, k1, ein⟩
  · subst e
    obtain ⟨Q1, M1, e1, e2⟩ := restore_x h hf
    exact ⟨_, _, e1, Or.inr ⟨nI_pos (by omega), _, _, e2, fun _ => hg, fun _ => by omega⟩⟩
  · subst e
    have E7 := fX7_restore.eq_1 Q 1
    obtain ⟨q1, q2, q3⟩ := h.2.2.2.2.1 1 (by decide)
    have rd7 : rd 2 (Q 2 1) 1 = some (bi (fl 1)) := by
      rw [← q1]
      exact rd_v (Q 2 1) (i := 1) (by decide) (by decide)
    rw [show fX4_isSlot 1 = some 1 from rfl, Option.bind_some, if_neg n10, fX4_isFilled, show fX4_isSlot 1 = some 1 from rfl, Option.bind_some, if_neg n10, rd7, Option.bind_some, bz0, bz1, hf1, if_pos (show bi false = 0 from rfl), Option.bind_some, if_pos rfl] at E7
    exact ⟨_, _, E7, Or.inl ⟨by decide, rfl⟩⟩
  · have E7 := fX7_restore.eq_1 Q x1
    rw [slotNo hx, Option.bind_some, if_pos rfl] at E7
    exact ⟨_, _, E7, Or.inl ⟨by decide, rfl⟩⟩
theorem undo_0 {Q : Nat → FS} {M : FS} {A : AS} {H : Nat → AS} {fl : Nat → Bool} {SL : Nat → AS} {L : Nat} {C : Nat → Nat} {a : Nat} (h : JJ Q M A 0 H fl SL L C a) : fX7_undo Q = some (-5, Q) := by
  have E7 := fX7_undo.eq_1 Q
  rw [h.2.2.2.1.2.1, if_pos (show nI 0 = 0 from rfl)] at E7
  exact E7
/-- the latest state comes back -/
theorem undo_x {Q : Nat → FS} {M : FS} {A : AS} {k : Nat} {H : Nat → AS} {fl : Nat → Bool} {SL : Nat → AS} {L : Nat} {C : Nat → Nat} {a : Nat} (h : JJ Q M A (k + 1) H fl SL L C a) : ∃ (Q1 : Nat → FS) (M1 : FS), fX7_undo Q = some (nI k, Q1) ∧ JJ Q1 M1 (H k) k H fl SL L C a := by
  obtain ⟨h1, h2, h3, ⟨k1, k2, k3, k4⟩, h5, h6, h7, h8⟩ := h
  have E7 := fX7_undo.eq_1 Q
  rw [k2] at E7
  have hk : k < 6 := by omega
  have tv : (if (0:Int32) < nI (k + 1) - 1 then nI (k + 1) - 1 else 0) = nI k := by
    rw [nI_pred]
    by_cases h0 : k = 0
    · subst h0
      rfl
    · rw [if_pos (show (0:Int32) < nI k from nI_lt (a := 0) (by omega) (by omega))]
  obtain ⟨b1, b2, b3⟩ := k4 k (by omega)
  have et : fX0_takeLatest Q = some (nI k, sq Q 2 (sf (Q 2) 0 0 (nI k))) := by
    rw [fX0_takeLatest, k2, tv]
  obtain ⟨T, c1, c2⟩ := show_v (P := Q (3 + k)) h2 h1 b2 b1
  have sel : ∀ (R : Nat → FS), R 0 = Q 0 → R (3 + k) = Q (3 + k) → (if nI k = 0 then ((fX5_show (R 0) (R 3)).bind fun S_10 => ((some (sq R 0 S_10)).bind fun Q0s_11 => some ((Q0s_11 2 0 0), Q0s_11))) else (if nI k = 1 then ((fX5_show (R 0) (R 4)).bind fun S_12 => ((some (sq R 0 S_12)).bind fun Q0s_13 => some ((Q0s_13 2 0 0), Q0s_13))) else (if nI k = 2 then ((fX5_show (R 0) (R 5)).bind fun S_14 => ((some (sq R 0 S_14)).bind fun Q0s_15 => some ((Q0s_15 2 0 0), Q0s_15))) else (if nI k = 3 then ((fX5_show (R 0) (R 6)).bind fun S_16 => ((some (sq R 0 S_16)).bind fun Q0s_17 => some ((Q0s_17 2 0 0), Q0s_17))) else (if nI k = 4 then ((fX5_show (R 0) (R 7)).bind fun S_18 => ((some (sq R 0 S_18)).bind fun Q0s_19 => some ((Q0s_19 2 0 0), Q0s_19))) else (if nI k = 5 then ((fX5_show (R 0) (R 8)).bind fun S_20 => ((some (sq R 0 S_20)).bind fun Q0s_21 => some ((Q0s_21 2 0 0), Q0s_21))) else none)))))) = some (R 2 0 0, sq R 0 T) := by
    intro R r0 rk
    rw [← rk, ← r0] at c1
    rcases (show k = 0 ∨ k = 1 ∨ k = 2 ∨ k = 3 ∨ k = 4 ∨ k = 5 by omega) with rfl | rfl | rfl | rfl | rfl | rfl
    · rw [if_pos (by decide), c1]
      rfl
    · rw [if_neg (by decide), if_pos (by decide), c1]
      rfl
    · rw [if_neg (by decide), if_neg (by decide), if_pos (by decide), c1]
      rfl
    · rw [if_neg (by decide), if_neg (by decide), if_neg (by decide), if_pos (by decide), c1]
      rfl
    · rw [if_neg (by decide), if_neg (by decide), if_neg (by decide), if_neg (by decide), if_pos (by decide), c1]
      rfl
    · rw [if_neg (by decide), if_neg (by decide), if_neg (by decide), if_neg (by decide), if_neg (by decide), if_pos (by decide), c1]
      rfl
  have sel := sel (mgH Q (sq Q 2 (sf (Q 2) 0 0 (nI k)))) rfl (by rw [mgH_3 _ _ hk, sq_n (show ¬ 3 + k = 2 by omega)])
  rw [if_neg (nI_ne0 (by omega) (by omega)), et, Option.bind_some] at E7
  refine ⟨sq (mgH Q (sq Q 2 (sf (Q 2) 0 0 (nI k)))) 0 T, sr (sf M 8 0 (nI k)) 0 (va_cpy (M 2) (M 0) (116 * k) 0 116), ?_, b1, ?_, ?_, ⟨by omega, rfl, rfl, fun i hi => ?_⟩, fun i hi => ?_, h6, h7, h8⟩
  · rw [E7]
    exact sel
  · rw [sq_s]
    exact c2
  · rw [sr_at]
    refine RM_ext b1 b3 fun j hj => ?_
    rw [pk_cpy_in (Nat.zero_le _) (by omega), Nat.sub_zero]
  · rw [sq_n (show ¬ 3 + i = 0 by omega), mgH_3 _ _ (by omega), sq_n (show ¬ 3 + i = 2 by omega)]
    exact k4 i (by omega)
  · rw [sq_n (show ¬ 9 + i = 0 by omega), mgH_9 _ _ hi]
    exact h5 i hi
theorem save_x {Q : Nat → FS} {M : FS} {A : AS} {s : Nat} {H : Nat → AS} {fl : Nat → Bool} {SL : Nat → AS} {L : Nat} {C : Nat → Nat} {a : Nat} (h : JJ Q M A s H fl SL L C a) : ∃ (Q1 : Nat → FS) (M1 : FS), fX7_save Q 0 = some (nI (A 2 0), Q1) ∧ JJ Q1 M1 A s H (fun i => if i = 0 then true else fl i) (fun i => if i = 0 then A else SL i) L C a := by
  have E7 := fX7_save.eq_1 Q 0
  have en7 := h.2.1.1.1 0 (by decide)
  have w7 := wz_v (Q 2 1) (i := 0) (by decide)
  rw [show nI 0 = 0 from rfl] at w7
  rw [show fX4_isSlot 0 = some 1 from rfl, Option.bind_some, if_neg n10, fX4_fill, show fX4_isSlot 0 = some 1 from rfl, Option.bind_some, if_neg n10, if_pos rfl, copy_v, Option.bind_some, Option.bind_some, show sq Q 9 (cpP (Q 9) (Q 0)) 2 = Q 2 from rfl, w7, Option.bind_some, Option.bind_some, Option.bind_some, Option.bind_some] at E7
  obtain ⟨h1, h2, h3, ⟨k1, k2, k3, k4⟩, h5, h6, h7, h8⟩ := h
  refine ⟨mgS Q (sq (sq Q 9 (cpP (Q 9) (Q 0))) 2 (sr (Q 2) 1 (upd (Q 2 1) 0 1))), sr (sr M 3 (va_cpy (M 0) (M 3) 0 (116 * 0) 116)) 4 (upd (M 4) 0 1), ?_, h1, h2, h3, ⟨k1, k2, k3, fun i hi => ?_⟩, fun i hi => ?_, h6, h7, h8⟩
  · rw [E7, ← en7]
    rfl
  · rw [mgS_3 _ _ (by omega)]
    exact k4 i hi
  · rcases (show i = 0 ∨ i = 1 by omega) with rfl | rfl
    · refine ⟨rfl, rfl, fun _ => ⟨h1, cpP_RC h2.1 h1, RM_ext h1 h3 fun j hj => ?_⟩⟩
      show va_cpy (M 0) (M 3) 0 (116 * 0) 116 (116 * 0 + j) = M 0 j
      rw [pk_cpy_in (by omega) (by omega), show 0 + (116 * 0 + j - 116 * 0) = j by omega]
    · obtain ⟨q1, q2, q3⟩ := h5 1 (by decide)
      refine ⟨q1, q2, fun e => ⟨(q3 e).1, (q3 e).2.1, RM_ext (q3 e).1 (q3 e).2.2 fun j hj => ?_⟩⟩
      show va_cpy (M 0) (M 3) 0 (116 * 0) 116 (116 * 1 + j) = M 3 (116 * 1 + j)
      rw [pk_cpy_out (by omega)]
