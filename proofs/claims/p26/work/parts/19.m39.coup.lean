/-! ifPut, leastFull, undo, save, restore, putAll -/
theorem JJ_back {Q : Nat → FS} {M : FS} {A : AS} {s : Nat} {H : Nat → AS} {fl : Nat → Bool} {SL : Nat → AS} {L : Nat} {C : Nat → Nat} {a : Nat} (h : JJ Q M A s H fl SL L C a) {T : FS} (hT : RT T A) : JJ (sq Q 0 T) M A s H fl SL L C a := by
  have e := JJ_tree h h.1 hT h.2.2.1
  rw [sr_self] at e
  exact e
theorem JJ_sr1 {Q : Nat → FS} {M : FS} {A : AS} {s : Nat} {H : Nat → AS} {fl : Nat → Bool} {SL : Nat → AS} {L : Nat} {C : Nat → Nat} {a : Nat} (h : JJ Q M A s H fl SL L C a) (g : FA) : JJ Q (sr M 1 g) A s H fl SL L C a := JJ_M h rfl rfl rfl rfl rfl rfl rfl h.2.2.2.2.2.2.1 h.2.2.2.2.2.2.2
theorem lays_then {M : FS} {A : AS} (h : RM (M 0) A) (hA : AV A) : ∃ g : FA, fX8_lays 116 (M 0) 116 (M 1) 0 0 = some g ∧ RM g A := by
  have e := lays_v (a := 0) (b := 0) (M 0) (M 1) (n0 := 116) (n2 := 116) (by decide) (by decide) (by decide) (by decide)
  rw [show nI 0 = 0 from rfl] at e
  refine ⟨_, e, RM_ext hA h fun j hj => ?_⟩
  rw [pk_cpy_in (Nat.zero_le _) (by omega), Nat.sub_zero, Nat.zero_add]
theorem ifPut_c : cp_ifPut II := by
  intro Q M x1 x2 x3 ⟨A, s, H, fl, SL, L, C, a, h⟩
  have hI := II_of h
  have hA := h.1
  rcases isPlace_any x1 x2 with ⟨x, y, hx, hy, rfl, rfl, e1, e8⟩ | ⟨e1, e8⟩
  · have E7 := fX7_ifPut.eq_1 Q (nI x) (nI y) x3
    have E8 := fX8_ifPut.eq_1 M (nI x) (nI y) x3
    rw [e1, Option.bind_some, if_neg n10] at E7
    rw [e8, Option.bind_some, if_neg n10] at E8
    obtain ⟨e, a1, a2, a3⟩ := err_v h.2.1.1 h.2.2.1 hA hx hy
    have L7 := fX7_ifPut_L22.eq_1 Q (nI x) (nI y) x3
    rw [placeAt_all x hx y hy, Option.bind_some, a1, Option.bind_some] at L7
    have go : fX7_ifPut Q (nI x) (nI y) x3 = fX7_ifPut_L22 Q (nI x) (nI y) x3 → fX8_in x3 0 1 = some 1 → ∃ (r : Int32) (Q1 : Nat → FS) (M1 : FS), fX7_ifPut Q (nI x) (nI y) x3 = some (r, Q1) ∧ fX8_ifPut M (nI x) (nI y) x3 = some (r, M1) ∧ II Q1 M1 := by
      intro F7 ein
      rw [ein, Option.bind_some, if_neg n10, a2, Option.bind_some] at E8
      rcases a3 with ⟨b1, b2, b3⟩ | ⟨b1, b2⟩
      · subst b1
        have hp := pth_lt 6 x y
        have hB := AV_push hA hp b2 b3
        obtain ⟨T1, c1, c2, c3⟩ := ifPut5 h.2.1 hA hp b2 b3
        obtain ⟨g, g1, g2⟩ := lays_then h.2.2.1 hA
        obtain ⟨g3, d1, d2⟩ := comes_v g2 hx hy b2
        have hl := (ld_spec hB (pth 6 x y)).1
        rw [if_pos rfl] at L7
        rw [if_pos (show (0:Int32) ≤ 0 by decide), g1, Option.bind_some, Option.bind_some, sr_at, d1, Option.bind_some, Option.bind_some, sr_sr, sr_at] at E8
        by_cases k0 : x3 = 0
        · rw [if_pos k0, c2, Option.bind_some] at L7
          rw [if_pos k0, allLeaves_v d2 hB, Option.bind_some] at E8
          exact ⟨nI (LLn (aPush A (pth 6 x y)) 6 0 1), sq Q 0 T1, _, by rw [F7, L7]; rfl, E8, II_of (JJ_sr1 (JJ_back h c1) g3)⟩
        · rw [if_neg k0, c3, Option.bind_some] at L7
          rw [if_neg k0, pathOf_all x hx y hy, Option.bind_some, leafOf8_v d2 hB hp, Option.bind_some, dep8_tv (tl_tv hl hp), Option.bind_some] at E8
          exact ⟨nI (ld (aPush A (pth 6 x y)) (pth 6 x y)), sq Q 0 T1, _, by rw [F7, L7]; rfl, E8, II_of (JJ_sr1 (JJ_back h c1) g3)⟩
      · rw [if_neg b1] at L7
        rw [if_neg b2] at E8
        exact ⟨e, Q, M, by rw [F7, L7], E8, hI⟩
    rcases in01 x3 with ⟨e, ein⟩ | ⟨e, ein⟩ | ⟨_, k0, k1, ein⟩
    · rw [if_pos e] at E7
      exact go E7 ein
    · rw [if_neg (by rw [e]; decide), if_pos e] at E7
      exact go E7 ein
    · rw [if_neg k0, if_neg k1] at E7
      rw [ein, Option.bind_some, if_pos rfl] at E8
      exact ⟨_, _, _, E7, E8, hI⟩
  · refine ⟨-1, Q, M, ?_, ?_, hI⟩
    · rw [fX7_ifPut, e1]
      rfl
    · rw [fX8_ifPut, e8]
      rfl
theorem leastFull_c : cp_leastFull II := by
  intro Q M x1 ⟨A, s, H, fl, SL, L, C, a, h⟩
  have hI := II_of h
  have hA := h.1
  have E7 := fX7_leastFull.eq_1 Q x1
  have E8 := fX8_leastFull.eq_1 M x1
  rcases rng x1 (hi := 4096) (by decide) with ⟨v, v1, v2, ev, v3, v4, v5⟩ | ⟨hx, v5⟩
  · obtain ⟨g, g1, g2⟩ := lays_then h.2.2.1 hA
    obtain ⟨r, g3, c1, c2⟩ := lf_go (M := M) h.2.1 g2 hA x1 6000 1 (Q 0 2 2) (g 1) (by decide) (by decide) (by decide)
    rw [sf_self, show nI 1 = 1 from rfl] at c1
    rw [upd_self, show nI 1 = 1 from rfl] at c2
    rw [if_neg v3, if_pos (show x1 ≤ 4096 from v4), fX5_leastFullFor, c1, Option.bind_some] at E7
    rw [show fX8_in x1 1 4096 = some 1 from v5, Option.bind_some, if_neg n10, g1, Option.bind_some, Option.bind_some, c2] at E8
    have E7 : fX7_leastFull Q x1 = some (r, sq Q 0 (Q 0)) := E7
    rw [sq_self] at E7
    exact ⟨_, _, _, E7, E8, II_of (JJ_sr1 h g3)⟩
  · rw [show fX8_in x1 1 4096 = some 0 from v5, Option.bind_some, if_pos rfl] at E8
    rcases hx with hx | ⟨hx, hx2⟩
    · rw [if_pos hx] at E7
      exact ⟨_, _, _, E7, E8, hI⟩
    · rw [if_neg hx, if_neg (show ¬ x1 ≤ 4096 from hx2)] at E7
      exact ⟨_, _, _, E7, E8, hI⟩
theorem undo_c : cp_undo II := by
  intro Q M ⟨A, s, H, fl, SL, L, C, a, h⟩
  have hI := II_of h
  obtain ⟨h1, h2, h3, ⟨k1, k2, k3, k4⟩, h5, h6, h7, h8⟩ := h
  have E7 := fX7_undo.eq_1 Q
  have E8 := fX8_undo.eq_1 M
  rw [k2] at E7
  rw [k3] at E8
  cases s with
  | zero =>
    rw [if_pos (show nI 0 = 0 from rfl)] at E7 E8
    exact ⟨_, _, _, E7, E8, hI⟩
  | succ k =>
    have hk : k < 6 := by omega
    have tv : (if (0:Int32) < nI (k + 1) - 1 then nI (k + 1) - 1 else 0) = nI k := by
      rw [nI_pred]
      by_cases h0 : k = 0
      · subst h0
        rfl
      · rw [if_pos (show (0:Int32) < nI k from nI_lt (a := 0) (by omega) (by omega))]
    obtain ⟨b1, b2, b3⟩ := k4 k (by omega)
    have et : fX0_takeLatest Q = some (nI k, sq Q 2 (sf (Q 2) 0 0 (nI k))) := by
      rw [fX0_takeLatest, k2, tv]
    obtain ⟨T, c1, c2⟩ := show_v (P := Q (3 + k)) h2 h1 b2 b1
    have sel : ∀ (R : Nat → FS), R 0 = Q 0 → R (3 + k) = Q (3 + k) → (if nI k = 0 then ((fX5_show (R 0) (R 3)).bind fun S_10 => ((some (sq R 0 S_10)).bind fun Q0s_11 => some ((Q0s_11 2 0 0), Q0s_11))) else (if nI k = 1 then ((fX5_show (R 0) (R 4)).bind fun S_12 => ((some (sq R 0 S_12)).bind fun Q0s_13 => some ((Q0s_13 2 0 0), Q0s_13))) else (if nI k = 2 then ((fX5_show (R 0) (R 5)).bind fun S_14 => ((some (sq R 0 S_14)).bind fun Q0s_15 => some ((Q0s_15 2 0 0), Q0s_15))) else (if nI k = 3 then ((fX5_show (R 0) (R 6)).bind fun S_16 => ((some (sq R 0 S_16)).bind fun Q0s_17 => some ((Q0s_17 2 0 0), Q0s_17))) else (if nI k = 4 then ((fX5_show (R 0) (R 7)).bind fun S_18 => ((some (sq R 0 S_18)).bind fun Q0s_19 => some ((Q0s_19 2 0 0), Q0s_19))) else (if nI k = 5 then ((fX5_show (R 0) (R 8)).bind fun S_20 => ((some (sq R 0 S_20)).bind fun Q0s_21 => some ((Q0s_21 2 0 0), Q0s_21))) else none)))))) = some (R 2 0 0, sq R 0 T) := by
      intro R r0 rk
      rw [← rk, ← r0] at c1
      rcases (show k = 0 ∨ k = 1 ∨ k = 2 ∨ k = 3 ∨ k = 4 ∨ k = 5 by omega) with rfl | rfl | rfl | rfl | rfl | rfl
      · rw [if_pos (by decide), c1]
        rfl
      · rw [if_neg (by decide), if_pos (by decide), c1]
        rfl
      · rw [if_neg (by decide), if_neg (by decide), if_pos (by decide), c1]
        rfl
      · rw [if_neg (by decide), if_neg (by decide), if_neg (by decide), if_pos (by decide), c1]
        rfl
      · rw [if_neg (by decide), if_neg (by decide), if_neg (by decide), if_neg (by decide), if_pos (by decide), c1]
        rfl
      · rw [if_neg (by decide), if_neg (by decide), if_neg (by decide), if_neg (by decide), if_neg (by decide), if_pos (by decide), c1]
        rfl
    have sel := sel (mgH Q (sq Q 2 (sf (Q 2) 0 0 (nI k)))) rfl (by rw [mgH_3 _ _ hk, sq_n (show ¬ 3 + k = 2 by omega)])
    have e8 : fX8_lays 696 (M 2) 116 (M 0) (nI (116 * k)) 0 = some (va_cpy (M 2) (M 0) (116 * k) 0 116) := lays_v (a := 116 * k) (b := 0) (M 2) (M 0) (n0 := 696) (n2 := 116) (by omega) (by decide) (by decide) (by decide)
    rw [if_neg (nI_ne0 (by omega) (by omega)), et, Option.bind_some] at E7
    rw [if_neg (nI_ne0 (by omega) (by omega)), nI_pred, Option.bind_some, show sf M 8 0 (nI k) 8 0 = nI k from rfl, show sf M 8 0 (nI k) 2 = M 2 from rfl, show sf M 8 0 (nI k) 0 = M 0 from rfl, show (116:Int32) * nI k = nI (116 * k) from pk_mul 116 k, e8, Option.bind_some, Option.bind_some] at E8
    refine ⟨nI k, sq (mgH Q (sq Q 2 (sf (Q 2) 0 0 (nI k)))) 0 T, sr (sf M 8 0 (nI k)) 0 (va_cpy (M 2) (M 0) (116 * k) 0 116), ?_, E8, H k, k, H, fl, SL, L, C, a, b1, ?_, ?_, ⟨by omega, rfl, rfl, fun i hi => ?_⟩, fun i hi => ?_, h6, h7, h8⟩
    · rw [E7]
      exact sel
    · rw [sq_s]
      exact c2
    · rw [sr_at]
      refine RM_ext b1 b3 fun j hj => ?_
      rw [pk_cpy_in (Nat.zero_le _) (by omega), Nat.sub_zero]
    · rw [sq_n (show ¬ 3 + i = 0 by omega), mgH_3 _ _ (by omega), sq_n (show ¬ 3 + i = 2 by omega)]
      exact k4 i (by omega)
    · rw [sq_n (show ¬ 9 + i = 0 by omega), mgH_9 _ _ hi]
      exact h5 i hi
theorem wz_v (f : FA) {i : Nat} (hi : i < 2) : wz 2 f (nI i) 1 = some (upd f i 1) := by
  unfold wz
  rw [if_neg (nI_in hi (by decide)), nI_clamp (by omega)]
  rfl
theorem slot_JJ {Q : Nat → FS} {M : FS} {A : AS} {s : Nat} {H : Nat → AS} {fl : Nat → Bool} {SL : Nat → AS} {L : Nat} {C : Nat → Nat} {a : Nat} (h : JJ Q M A s H fl SL L C a) {z : Nat} (hz : z < 2) : II (mgS Q (sq (sq Q (9 + z) (cpP (Q (9 + z)) (Q 0))) 2 (sr (Q 2) 1 (upd (Q 2 1) z 1)))) (sr (sr M 3 (va_cpy (M 0) (M 3) 0 (116 * z) 116)) 4 (upd (M 4) z 1)) := by
  obtain ⟨h1, h2, h3, ⟨k1, k2, k3, k4⟩, h5, h6, h7, h8⟩ := h
  refine ⟨A, s, H, fun i => if i = z then true else fl i, fun i => if i = z then A else SL i, L, C, a, h1, h2, h3, ⟨k1, k2, k3, fun i hi => ?_⟩, fun i hi => ?_, h6, h7, h8⟩
  · rw [mgS_3 _ _ (by omega)]
    exact k4 i hi
  · have e4 : mgS Q (sq (sq Q (9 + z) (cpP (Q (9 + z)) (Q 0))) 2 (sr (Q 2) 1 (upd (Q 2 1) z 1))) 2 1 = upd (Q 2 1) z 1 := rfl
    have e5 : sr (sr M 3 (va_cpy (M 0) (M 3) 0 (116 * z) 116)) 4 (upd (M 4) z 1) 4 = upd (M 4) z 1 := rfl
    have e6 : sr (sr M 3 (va_cpy (M 0) (M 3) 0 (116 * z) 116)) 4 (upd (M 4) z 1) 3 = va_cpy (M 0) (M 3) 0 (116 * z) 116 := rfl
    rw [e4, e5, e6, mgS_9 _ _ hi, sq_n (show ¬ 9 + i = 2 by omega)]
    obtain ⟨q1, q2, q3⟩ := h5 i hi
    by_cases hiz : i = z
    · subst hiz
      rw [pk_us, pk_us, sq_s]
      show (1:Int32) = bi (if i = i then true else fl i) ∧ (1:Int32) = bi (if i = i then true else fl i) ∧ ((if i = i then true else fl i) = true → AV (if i = i then A else SL i) ∧ RC (cpP (Q (9 + i)) (Q 0)) (if i = i then A else SL i) ∧ RM (fun j => va_cpy (M 0) (M 3) 0 (116 * i) 116 (116 * i + j)) (if i = i then A else SL i))
      rw [if_pos rfl, if_pos rfl]
      refine ⟨rfl, rfl, fun _ => ⟨h1, cpP_RC h2.1 h1, RM_ext h1 h3 fun j hj => ?_⟩⟩
      rw [pk_cpy_in (by omega) (by omega), show 0 + (116 * i + j - 116 * i) = j by omega]
    · rw [pk_un hiz, pk_un hiz, sq_n (show ¬ 9 + i = 9 + z by omega)]
      show Q 2 1 i = bi (if i = z then true else fl i) ∧ M 4 i = bi (if i = z then true else fl i) ∧ ((if i = z then true else fl i) = true → AV (if i = z then A else SL i) ∧ RC (Q (9 + i)) (if i = z then A else SL i) ∧ RM (fun j => va_cpy (M 0) (M 3) 0 (116 * z) 116 (116 * i + j)) (if i = z then A else SL i))
      rw [if_neg hiz, if_neg hiz]
      refine ⟨q1, q2, fun e => ⟨(q3 e).1, (q3 e).2.1, RM_ext (q3 e).1 (q3 e).2.2 fun j hj => ?_⟩⟩
      rw [pk_cpy_out (by omega)]
theorem save_c : cp_save II := by
  intro Q M x1 ⟨A, s, H, fl, SL, L, C, a, h⟩
  have hI := II_of h
  have E7 := fX7_save.eq_1 Q x1
  have E8 := fX8_save.eq_1 M x1
  have en7 := h.2.1.1.1 0 (by decide)
  have en8 := h.2.2.1.1
  have l8 : ∀ z, z < 2 → fX8_lays 116 (M 0) 232 (M 3) 0 (nI (116 * z)) = some (va_cpy (M 0) (M 3) 0 (116 * z) 116) := fun z hz => lays_v (a := 0) (b := 116 * z) (M 0) (M 3) (n0 := 116) (n2 := 232) (by decide) (by omega) (by decide) (by decide)
  rcases in01 x1 with ⟨e, ein⟩ | ⟨e, ein⟩ | ⟨hx, k0, k1, ein⟩
  · subst e
    have l := l8 0 (by decide)
    have w7 := wz_v (Q 2 1) (i := 0) (by decide)
    have w8 := wz_v (M 4) (i := 0) (by decide)
    rw [show nI 0 = 0 from rfl] at w7 w8
    have l : fX8_lays 116 (M 0) 232 (M 3) 0 0 = some (va_cpy (M 0) (M 3) 0 (116 * 0) 116) := l
    rw [show fX4_isSlot 0 = some 1 from rfl, Option.bind_some, if_neg n10, fX4_fill, show fX4_isSlot 0 = some 1 from rfl, Option.bind_some, if_neg n10, if_pos rfl, copy_v, Option.bind_some, Option.bind_some, show sq Q 9 (cpP (Q 9) (Q 0)) 2 = Q 2 from rfl, w7, Option.bind_some, Option.bind_some, Option.bind_some, Option.bind_some] at E7
    rw [ein, Option.bind_some, if_neg n10, show (116:Int32) * 0 = 0 from rfl, l, Option.bind_some, Option.bind_some, show sr M 3 (va_cpy (M 0) (M 3) 0 (116 * 0) 116) 4 = M 4 from rfl, w8, Option.bind_some, Option.bind_some] at E8
    refine ⟨nI (A 2 0), _, _, ?_, ?_, slot_JJ h (z := 0) (by decide)⟩
    · rw [E7, ← en7]
      rfl
    · rw [E8, ← en8]
      rfl
  · subst e
    have l := l8 1 (by decide)
    have w7 := wz_v (Q 2 1) (i := 1) (by decide)
    have w8 := wz_v (M 4) (i := 1) (by decide)
    rw [show nI 1 = 1 from rfl] at w7 w8
    have l : fX8_lays 116 (M 0) 232 (M 3) 0 116 = some (va_cpy (M 0) (M 3) 0 (116 * 1) 116) := l
    rw [show fX4_isSlot 1 = some 1 from rfl, Option.bind_some, if_neg n10, fX4_fill, show fX4_isSlot 1 = some 1 from rfl, Option.bind_some, if_neg n10, if_neg n10, if_pos rfl, copy_v, Option.bind_some, Option.bind_some, show sq Q 10 (cpP (Q 10) (Q 0)) 2 = Q 2 from rfl, w7, Option.bind_some, Option.bind_some, Option.bind_some, Option.bind_some] at E7
    rw [ein, Option.bind_some, if_neg n10, show (116:Int32) * 1 = 116 from rfl, l, Option.bind_some, Option.bind_some, show sr M 3 (va_cpy (M 0) (M 3) 0 (116 * 1) 116) 4 = M 4 from rfl, w8, Option.bind_some, Option.bind_some] at E8
    refine ⟨nI (A 2 0), _, _, ?_, ?_, slot_JJ h (z := 1) (by decide)⟩
    · rw [E7, ← en7]
      rfl
    · rw [E8, ← en8]
      rfl
  · have en : fX4_isSlot x1 = some 0 := by
      rw [fX4_isSlot, bz0]
      rcases hx with hx | hx
      · rw [if_pos hx]
      · have h2 : (2:Int32) ≤ x1 := by
          have e1 : (1:Int32).toInt = 1 := by decide
          have e2 : (2:Int32).toInt = 2 := by decide
          rw [Int32.le_iff_toInt_le] at hx ⊢
          omega
        rw [if_pos h2]
        split <;> rfl
    rw [en, Option.bind_some, if_pos rfl] at E7
    rw [ein, Option.bind_some, if_pos rfl] at E8
    exact ⟨_, _, _, E7, E8, hI⟩
theorem slotNo {x1 : Int32} (hx : x1 < 0 ∨ ¬ x1 ≤ 1) : fX4_isSlot x1 = some 0 := by
  rw [fX4_isSlot, bz0]
  rcases hx with hx | hx
  · rw [if_pos hx]
  · have h2 : (2:Int32) ≤ x1 := by
      have e1 : (1:Int32).toInt = 1 := by decide
      have e2 : (2:Int32).toInt = 2 := by decide
      rw [Int32.le_iff_toInt_le] at hx ⊢
      omega
    rw [if_pos h2]
    split <;> rfl
theorem restore_c : cp_restore II := by
  intro Q M x1 ⟨A, s, H, fl, SL, L, C, a, h⟩
  have hI := II_of h
  have E7 := fX7_restore.eq_1 Q x1
  have E8 := fX8_restore.eq_1 M x1
  rcases in01 x1 with ⟨e, ein⟩ | ⟨e, ein⟩ | ⟨hx, k0, k1, ein⟩
  · subst e
    obtain ⟨q1, q2, q3⟩ := h.2.2.2.2.1 0 (by decide)
    have rd7 : rd 2 (Q 2 1) 0 = some (bi (fl 0)) := by
      rw [← q1]
      exact rd_v (Q 2 1) (i := 0) (by decide) (by decide)
    have rd8 : rd 2 (M 4) 0 = some (bi (fl 0)) := by
      rw [← q2]
      exact rd_v (M 4) (i := 0) (by decide) (by decide)
    rw [show fX4_isSlot 0 = some 1 from rfl, Option.bind_some, if_neg n10, fX4_isFilled, show fX4_isSlot 0 = some 1 from rfl, Option.bind_some, if_neg n10, rd7, Option.bind_some, bz0, bz1] at E7
    rw [ein, Option.bind_some, if_neg n10, rd8, Option.bind_some] at E8
    cases hf : fl 0 with
    | false =>
      rw [hf, if_pos (show bi false = 0 from rfl)] at E7 E8
      rw [Option.bind_some, if_pos rfl] at E7
      exact ⟨_, _, _, E7, E8, hI⟩
    | true =>
      rw [hf, if_neg (show ¬ bi true = 0 by decide)] at E7 E8
      obtain ⟨S, N, r1, r2, r3, r4, r5, r6, r7⟩ := rec_JJ h
      obtain ⟨w1, w2, w3⟩ := r3.2.2.2.2.1 0 (by decide)
      obtain ⟨b1, b2, b3⟩ := w3 hf
      obtain ⟨T, c1, c2⟩ := show_v (P := mgH Q S 9) r3.2.1 h.1 b2 b1
      have l : fX8_lays 232 (N 3) 116 (N 0) 0 0 = some (va_cpy (N 3) (N 0) (116 * 0) 0 116) := lays_v (a := 0) (b := 0) (N 3) (N 0) (n0 := 232) (n2 := 116) (by decide) (by decide) (by decide) (by decide)
      have d2 : RM (va_cpy (N 3) (N 0) (116 * 0) 0 116) (SL 0) := RM_ext b1 b3 fun j hj => by
        rw [pk_cpy_in (Nat.zero_le _) (by omega), Nat.sub_zero]
      rw [Option.bind_some, if_neg n10, r1, Option.bind_some, Option.bind_some, show fX4_planIn 0 = some 0 from rfl, Option.bind_some, if_pos rfl, c1, Option.bind_some, Option.bind_some] at E7
      rw [r2, Option.bind_some, show (116:Int32) * 0 = 0 from rfl, l, Option.bind_some, Option.bind_some] at E8
      refine ⟨nI (SL 0 2 0), _, _, ?_, ?_, II_of (JJ_tree r3 b1 c2 d2)⟩
      · rw [E7, sq_s, c2.1.1 0 (by decide)]
      · rw [E8, sr_at, d2.1]
  · subst e
    obtain ⟨q1, q2, q3⟩ := h.2.2.2.2.1 1 (by decide)
    have rd7 : rd 2 (Q 2 1) 1 = some (bi (fl 1)) := by
      rw [← q1]
      exact rd_v (Q 2 1) (i := 1) (by decide) (by decide)
    have rd8 : rd 2 (M 4) 1 = some (bi (fl 1)) := by
      rw [← q2]
      exact rd_v (M 4) (i := 1) (by decide) (by decide)
    rw [show fX4_isSlot 1 = some 1 from rfl, Option.bind_some, if_neg n10, fX4_isFilled, show fX4_isSlot 1 = some 1 from rfl, Option.bind_some, if_neg n10, rd7, Option.bind_some, bz0, bz1] at E7
    rw [ein, Option.bind_some, if_neg n10, rd8, Option.bind_some] at E8
    cases hf : fl 1 with
    | false =>
      rw [hf, if_pos (show bi false = 0 from rfl)] at E7 E8
      rw [Option.bind_some, if_pos rfl] at E7
      exact ⟨_, _, _, E7, E8, hI⟩
    | true =>
      rw [hf, if_neg (show ¬ bi true = 0 by decide)] at E7 E8
      obtain ⟨S, N, r1, r2, r3, r4, r5, r6, r7⟩ := rec_JJ h
      obtain ⟨w1, w2, w3⟩ := r3.2.2.2.2.1 1 (by decide)
      obtain ⟨b1, b2, b3⟩ := w3 hf
      obtain ⟨T, c1, c2⟩ := show_v (P := mgH Q S 10) r3.2.1 h.1 b2 b1
      have l : fX8_lays 232 (N 3) 116 (N 0) 116 0 = some (va_cpy (N 3) (N 0) (116 * 1) 0 116) := lays_v (a := 116) (b := 0) (N 3) (N 0) (n0 := 232) (n2 := 116) (by decide) (by decide) (by decide) (by decide)
      have d2 : RM (va_cpy (N 3) (N 0) (116 * 1) 0 116) (SL 1) := RM_ext b1 b3 fun j hj => by
        rw [pk_cpy_in (Nat.zero_le _) (by omega), Nat.sub_zero]
      rw [Option.bind_some, if_neg n10, r1, Option.bind_some, Option.bind_some, show fX4_planIn 1 = some 1 from rfl, Option.bind_some, if_neg n10, if_pos rfl, c1, Option.bind_some, Option.bind_some] at E7
      rw [r2, Option.bind_some, show (116:Int32) * 1 = 116 from rfl, l, Option.bind_some, Option.bind_some] at E8
      refine ⟨nI (SL 1 2 0), _, _, ?_, ?_, II_of (JJ_tree r3 b1 c2 d2)⟩
      · rw [E7, sq_s, c2.1.1 0 (by decide)]
      · rw [E8, sr_at, d2.1]
  · rw [slotNo hx, Option.bind_some, if_pos rfl] at E7
    rw [ein, Option.bind_some, if_pos rfl] at E8
    exact ⟨_, _, _, E7, E8, hI⟩
theorem putAll_c : cp_putAll II := by
  intro Q M ⟨A, s, H, fl, SL, L, C, a, h⟩
  have hP := h.2.2.2.2.2.1
  obtain ⟨r, g, i, t, e1, e2, e3⟩ := fault_v hP
  have hM : JJ Q (fm M g (nI i) (nI t)) A s H fl SL L C a := JJ_M h rfl rfl rfl rfl rfl rfl rfl h.2.2.2.2.2.2.1 h.2.2.2.2.2.2.2
  have E7 := fX7_putAll.eq_1 Q
  have E8 := fX8_putAll.eq_1 M
  rw [e1, Option.bind_some] at E7
  rw [e2, Option.bind_some] at E8
  dsimp only at E8
  by_cases hr : r = -6
  · have hPt := e3 hr
    obtain ⟨S, N, r1, r2, r3, r4, r5, r6, r7⟩ := rec_JJ hM
    obtain ⟨n20, g1, f1, f2⟩ := read_v r3.2.2.2.2.2.1 hPt
    obtain ⟨rr, T, gg, B, p1, p2, p3, p4, p5⟩ := pa_go (P := sr (mgH Q S 1) 1 g1) (t := g) (N := t) n20 (fun b hb => by
      obtain ⟨w, z, y1, y2, y3, y4, y5⟩ := f2 b hb
      exact ⟨w, z, y1, y2, y3, y4, by rw [sr_at]; exact y5⟩) 6000 0 A (sq (mgH Q S) 1 (sr (mgH Q S 1) 1 g1)) N (by omega) (by omega) r3.2.1 r3.2.2.1 r3.1 sq_s r6 r7
    rw [show nI 0 = 0 from rfl] at p1 p2
    rw [if_pos hr, r1, Option.bind_some, Option.bind_some, f1, Option.bind_some] at E7
    rw [if_pos hr, r2, Option.bind_some, p2] at E8
    dsimp only at E7
    rw [Option.bind_some, p1] at E7
    obtain ⟨h1, h2, h3, h4, h5, h6, h7, h8⟩ := r3
    refine ⟨rr, _, _, E7, E8, B, nxS s, nxH H s A, fl, SL, 0, C, a, p5, p3, p4, ⟨h4.1, h4.2.1, h4.2.2.1, fun j hj => ?_⟩, fun j hj => ?_, ⟨by omega, rfl, rfl, fun j hj => by omega⟩, h7, h8⟩
    · rw [sq_n (show ¬ 3 + j = 1 by omega), sq_n (show ¬ 3 + j = 0 by omega), sq_n (show ¬ 3 + j = 1 by omega)]
      exact h4.2.2.2 j hj
    · rw [sq_n (show ¬ 9 + j = 1 by omega), sq_n (show ¬ 9 + j = 0 by omega), sq_n (show ¬ 9 + j = 1 by omega)]
      exact h5 j hj
  · rw [if_neg hr] at E7 E8
    exact ⟨_, _, _, E7, E8, II_of hM⟩
theorem coup_II : Coup II := ⟨set_c, point_c, take_c, move_c, split_c, putAll_c, of_c, leafAt_c, tile_c, letter_c, beside_c, neighbours_c, count_c, window_c, nearest_c, ifPut_c, leastFull_c, put_c, wipe_c, fault_c, undo_c, save_c, restore_c⟩
