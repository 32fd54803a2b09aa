/-! the calls that change something keep the relation -/
theorem rng (x : Int32) {hi : Nat} (hh : hi < 2 ^ 31) : (∃ v, 1 ≤ v ∧ v ≤ hi ∧ x = nI v ∧ ¬ x < 1 ∧ x ≤ nI hi ∧ fX8_in x 1 (nI hi) = some 1) ∨ ((x < 1 ∨ (¬ x < 1 ∧ ¬ x ≤ nI hi)) ∧ fX8_in x 1 (nI hi) = some 0) := by
  have e1 : (1:Int32).toInt = 1 := by decide
  have e0 : (0:Int32).toInt = 0 := by decide
  by_cases h1 : x < 1
  · exact Or.inr ⟨Or.inl h1, in_lt h1⟩
  · by_cases h2 : x ≤ nI hi
    · obtain ⟨v, hv, rfl⟩ := nI_of (x := x) (by
        rw [Int32.lt_iff_toInt_lt] at h1 ⊢
        omega)
      have h3 := (nI_leI hv hh).mp h2
      have h4 : 1 ≤ v := by
        rw [Int32.lt_iff_toInt_lt, nI_toInt hv] at h1
        omega
      exact Or.inl ⟨v, h4, h3, rfl, h1, h2, in_in (lo := 1) h4 h3 hh⟩
    · refine Or.inr ⟨Or.inr ⟨h1, h2⟩, in_gt ?_⟩
      rw [Int32.le_iff_toInt_le] at h2
      rw [Int32.lt_iff_toInt_lt]
      omega
theorem n10 : ¬ (1:Int32) = 0 := by decide
theorem set_c : cp_set II := by
  intro Q M x1 x2 ⟨A, s, H, fl, SL, L, C, a, h⟩
  have hI := II_of h
  have hA := h.1
  obtain ⟨S, N, r1, r2, r3, r4, _⟩ := rec_JJ h
  have hT := r3.2.1
  have hr := r3.2.2.1
  rw [fX7_set, fX8_set]
  rcases in01 x1 with ⟨e, ein⟩ | ⟨e, ein⟩ | ⟨_, k0, k1, ein⟩
  · subst e
    rw [if_pos rfl, ein, Option.bind_some, if_neg n10, if_pos rfl, fX7_set_L12, if_pos rfl, fX7_set_L23, fX8_set_L22]
    rcases rng x2 (hi := 8) (by decide) with ⟨v, v1, v2, rfl, v3, v4, v5⟩ | ⟨hx, v5⟩
    · rw [if_neg v3, if_pos (show nI v ≤ 8 from v4), show fX8_in (nI v) 1 8 = some 1 from v5, Option.bind_some, if_neg n10, r1, r2, Option.bind_some, Option.bind_some, Option.bind_some, if_pos rfl, fX7_set_L72, if_pos rfl, show (1:Int32) + 0 = nI 1 from rfl, rd_v _ (by decide) (by decide), wr_v _ _ (by decide) (by decide), Option.bind_some, Option.bind_some, Option.bind_some, Option.bind_some, hT.1.1 2 (by decide), hr.2.1]
      exact ⟨_, _, _, rfl, rfl, II_of (JJ_tree r3 (AV_full hA ⟨v1, v2⟩) (RT_full hT v) (RM_full hr v))⟩
    · rw [show fX8_in x2 1 8 = some 0 from v5, Option.bind_some, if_pos rfl]
      rcases hx with hx | ⟨hx, hx2⟩
      · rw [if_pos hx]
        exact ⟨_, _, _, rfl, rfl, hI⟩
      · rw [if_neg hx, if_neg (show ¬ x2 ≤ 8 from hx2)]
        exact ⟨_, _, _, rfl, rfl, hI⟩
  · subst e
    rw [if_neg n10, if_pos rfl, ein, Option.bind_some, if_neg n10, if_neg n10, fX7_set_L12, if_neg n10, fX7_set_L23, fX8_set_L22]
    rcases rng x2 (hi := 6) (by decide) with ⟨v, v1, v2, rfl, v3, v4, v5⟩ | ⟨hx, v5⟩
    · rw [if_neg v3, if_pos (show nI v ≤ 6 from v4), show fX8_in (nI v) 1 6 = some 1 from v5, Option.bind_some, if_neg n10, r1, r2, Option.bind_some, Option.bind_some, Option.bind_some, if_neg n10, fX7_set_L72, if_neg n10, show (1:Int32) + 1 = nI 2 from rfl, rd_v _ (by decide) (by decide), wr_v _ _ (by decide) (by decide), Option.bind_some, Option.bind_some, Option.bind_some, Option.bind_some, hT.1.1 3 (by decide), hr.2.2.1]
      exact ⟨_, _, _, rfl, rfl, II_of (JJ_tree r3 (AV_deep hA ⟨v1, v2⟩) (RT_deep hT v) (RM_deep hr v))⟩
    · rw [show fX8_in x2 1 6 = some 0 from v5, Option.bind_some, if_pos rfl]
      rcases hx with hx | ⟨hx, hx2⟩
      · rw [if_pos hx]
        exact ⟨_, _, _, rfl, rfl, hI⟩
      · rw [if_neg hx, if_neg (show ¬ x2 ≤ 6 from hx2)]
        exact ⟨_, _, _, rfl, rfl, hI⟩
  · rw [if_neg k0, if_neg k1, ein, Option.bind_some, if_pos rfl]
    exact ⟨_, _, _, rfl, rfl, hI⟩
theorem point_c : cp_point II := by
  intro Q M x1 x2 ⟨A, s, H, fl, SL, L, C, a, h⟩
  have hI := II_of h
  rcases isPlace_any x1 x2 with ⟨x, y, hx, hy, rfl, rfl, e1, e8⟩ | ⟨e1, e8⟩
  · obtain ⟨e, a1, a2, a3⟩ := err_v h.2.1.1 h.2.2.1 h.1 hx hy
    have E7 := fX7_point.eq_1 Q (nI x) (nI y)
    have E8 := fX8_point.eq_1 M (nI x) (nI y)
    rw [e1, Option.bind_some, if_neg n10, placeAt_all x hx y hy, Option.bind_some, a1, Option.bind_some] at E7
    rw [a2, Option.bind_some] at E8
    rcases a3 with ⟨b1, b2, b3⟩ | ⟨b1, b2⟩
    · subst b1
      obtain ⟨S, N, r1, r2, r3, r4, _⟩ := rec_JJ h
      obtain ⟨T1, c1, c2⟩ := addPoint_v r3.2.1 (pth_lt 6 x y) b2
      obtain ⟨g, d1, d2⟩ := comes_v r3.2.2.1 hx hy b2
      have hB := AV_push h.1 (pth_lt 6 x y) b2 b3
      rw [if_pos rfl, r1, Option.bind_some, Option.bind_some, c1, Option.bind_some, Option.bind_some, sq_s, leaves5_v c2 hB, Option.bind_some] at E7
      rw [if_pos (show (0:Int32) ≤ 0 by decide), r2, Option.bind_some, d1, Option.bind_some, Option.bind_some, sr_at, allLeaves_v d2 hB, Option.bind_some] at E8
      exact ⟨_, _, _, E7, E8, II_of (JJ_tree r3 hB c2 d2)⟩
    · rw [if_neg b1] at E7
      rw [if_neg b2] at E8
      exact ⟨_, _, _, E7, E8, hI⟩
  · refine ⟨-1, Q, M, ?_, ?_, hI⟩
    · rw [fX7_point, e1]
      rfl
    · rw [fX8_point, fX8_pointError, e8]
      rfl
theorem take_c : cp_take II := by
  intro Q M x1 ⟨A, s, H, fl, SL, L, C, a, h⟩
  have hI := II_of h
  rcases isPoint_any h.2.1.1 h.2.2.1 h.1 x1 with ⟨i, hi, rfl, e5, e8⟩ | ⟨e5, e8⟩
  · obtain ⟨S, N, r1, r2, r3, r4, _⟩ := rec_JJ h
    obtain ⟨T1, c1, c2⟩ := removePoint_v r3.2.1 h.1 hi
    obtain ⟨g, d1, d2⟩ := takes_v r3.2.2.1 h.1 hi
    have hB := AV_take h.1 hi
    refine ⟨nI (LLn (aTake A i) 6 0 1), sq (mgH Q S) 0 T1, sr N 0 g, ?_, ?_, II_of (JJ_tree r3 hB c2 d2)⟩
    · rw [fX7_take, e5, Option.bind_some, if_neg n10, r1, Option.bind_some, Option.bind_some, c1, Option.bind_some, Option.bind_some, sq_s, leaves5_v c2 hB, Option.bind_some]
    · rw [fX8_take, e8, Option.bind_some, if_neg n10, r2, Option.bind_some]
      exact d1
  · refine ⟨-1, Q, M, ?_, ?_, hI⟩
    · rw [fX7_take, e5]
      rfl
    · rw [fX8_take, e8]
      rfl
theorem move_c : cp_move II := by
  intro Q M x1 x2 x3 ⟨A, s, H, fl, SL, L, C, a, h⟩
  have hI := II_of h
  have hn := h.1.1
  rcases isPoint_any h.2.1.1 h.2.2.1 h.1 x1 with ⟨i, hi, rfl, e5, e8⟩ | ⟨e5, e8⟩
  · rcases isPlace_any x2 x3 with ⟨x, y, hx, hy, rfl, rfl, p1, p8⟩ | ⟨p1, p8⟩
    · have E7 := fX7_move.eq_1 Q (nI i) (nI x) (nI y)
      have E8 := fX8_move.eq_1 M (nI i) (nI x) (nI y)
      rw [e5, Option.bind_some, if_neg n10, p1, Option.bind_some, if_neg n10, placeAt_all x hx y hy, Option.bind_some] at E7
      rw [e8, Option.bind_some, if_neg n10, p8, Option.bind_some, if_neg n10] at E8
      have go : (∀ j, j < A 2 0 → ¬ j = i → ¬ A 0 j = pth 6 x y) → ∃ (r : Int32) (Q1 : Nat → FS) (M1 : FS), fX7_move_L61 Q (nI i) (nI (4096 + pth 6 x y)) = some (r, Q1) ∧ fX8_move_L45 M (nI i) (nI x) (nI y) = some (r, M1) ∧ II Q1 M1 := by
        intro hx2
        obtain ⟨S, N, r1, r2, r3, r4, _⟩ := rec_JJ h
        obtain ⟨T1, c1, c2⟩ := shiftPoint_v r3.2.1 h.1 hi (pth_lt 6 x y)
        have hB := AV_move h.1 hi (pth_lt 6 x y) hx2
        have d2 := RM_move r3.2.2.1 hn hi hx hy
        refine ⟨nI (LLn (aMove A i (pth 6 x y)) 6 0 1), sq (mgH Q S) 0 T1, sr N 0 (upd (upd (N 0) (4 + 2 * i) (nI x)) (5 + 2 * i) (nI y)), ?_, ?_, II_of (JJ_tree r3 hB c2 d2)⟩
        · rw [fX7_move_L61, r1, Option.bind_some, Option.bind_some, c1, Option.bind_some, Option.bind_some, sq_s, leaves5_v c2 hB, Option.bind_some]
        · rw [fX8_move_L45, r2, Option.bind_some, places_v _ (by omega), Option.bind_some, Option.bind_some, sr_at, allLeaves_v d2 hB, Option.bind_some]
      rcases at_v h.2.1.1 h.2.2.1 h.1 hx hy with ⟨j, hj, ej, q5, q8⟩ | ⟨hno, q5, q8⟩
      · rw [q5, Option.bind_some, if_neg (ne6 (by omega))] at E7
        rw [q8, Option.bind_some, if_neg (ne6 (by omega))] at E8
        by_cases hji : j = i
        · subst hji
          rw [if_pos rfl] at E7 E8
          rw [E7, E8]
          exact go (fun l hl hne e => hne (h.1.2.2.2.2.2.1 l j hl hj (by rw [e, ej])))
        · have hne : ¬ nI j = nI i := fun e => hji ((nI_eq (by omega) (by omega)).mp e)
          rw [if_neg hne] at E7 E8
          exact ⟨_, _, _, E7, E8, hI⟩
      · rw [q5, Option.bind_some, if_pos rfl] at E7
        rw [q8, Option.bind_some, if_pos rfl] at E8
        rw [E7, E8]
        exact go (fun l hl _ => hno l hl)
    · refine ⟨-1, Q, M, ?_, ?_, hI⟩
      · rw [fX7_move, e5, p1]
        rfl
      · rw [fX8_move, e8, p8]
        rfl
  · refine ⟨-1, Q, M, ?_, ?_, hI⟩
    · rw [fX7_move, e5]
      rfl
    · rw [fX8_move, e8]
      rfl
theorem split_c : cp_split II := by
  intro Q M x1 x2 ⟨A, s, H, fl, SL, L, C, a, h⟩ hx2
  have hI := II_of h
  have hA := h.1
  have hk := hA.2.1
  rcases dep_any x1 with ⟨d, t, ht, rfl, hd⟩ | ⟨_, hd⟩
  · have h0 := tv_lt ht
    have E7 := fX7_split.eq_1 Q (nI t) x2
    have E8 := fX8_split.eq_1 M (nI t) x2
    rw [hd, Option.bind_some, if_neg (ne6 (by have := ht.1; omega)), isOrdered3_v h.2.1.1 hA h0.2, Option.bind_some, h.2.1.1.1 1 (by decide)] at E7
    rw [isNumber_v ht, Option.bind_some, if_neg n10, dep8_tv ht, Option.bind_some, isOrdered8_v h.2.2.1 hA h0.2, Option.bind_some, h.2.2.1.2.2.2.1] at E8
    by_cases h6 : nI d = 6
    · rw [if_pos h6] at E7 E8
      exact ⟨_, _, _, E7, E8, hI⟩
    · rw [if_neg h6] at E7 E8
      obtain ⟨S, N, r1, r2, r3, r4, _⟩ := rec_JJ h
      cases ho : odb (A 1) t (A 2 1) with
      | true =>
        rw [ho] at E7 E8
        rcases hx2 with rfl | rfl
        · rw [if_neg (show ¬ bi true = 0 by decide), if_pos rfl] at E7 E8
          obtain ⟨S2, i, hi, ei, c1, c2⟩ := removeOrder_v r3.2.1 hA h0.2 ho
          obtain ⟨g, d1, d2⟩ := forgets_v r3.2.2.1 hA hi ei
          have hB := AV_uno hA hi
          refine ⟨nI (LLn (aUno A i) 6 0 1), sq (mgH Q S) 0 (sr S2 3 (mgH Q S 0 3)), sr N 0 g, ?_, ?_, II_of (JJ_tree r3 hB c2 d2)⟩
          · rw [E7, fX7_split_L58, r1, Option.bind_some, Option.bind_some, if_pos rfl, c1, Option.bind_some, Option.bind_some, sq_s, leaves5_v c2 hB, Option.bind_some]
          · rw [E8, fX8_split_L51, r2, Option.bind_some, if_pos rfl, d1, Option.bind_some, sr_at, allLeaves_v d2 hB, Option.bind_some]
        · rw [if_pos (show bi true = 1 from rfl)] at E7 E8
          exact ⟨_, _, _, E7, E8, hI⟩
      | false =>
        rw [ho] at E7 E8
        rcases hx2 with rfl | rfl
        · rw [if_pos (show bi false = 0 from rfl)] at E7 E8
          exact ⟨_, _, _, E7, E8, hI⟩
        · rw [if_neg (show ¬ bi false = 1 by decide), if_neg n10] at E7 E8
          by_cases h12 : A 2 1 < 12
          · rw [if_pos (show nI (A 2 1) < 12 from nI_lt (b := 12) h12 (by decide))] at E7
            rw [if_neg (show ¬ nI (A 2 1) = 12 from fun e => by have := (nI_eq (b := 12) (by omega) (by decide)).mp e; omega)] at E8
            obtain ⟨S2, c1, c2⟩ := addOrder_v r3.2.1 h12 t
            have d2 := RM_ord r3.2.2.1 hA h12 ho
            have hB := AV_ord hA h0.2 h12 (fun i hi e => by
              have := (odb_iff _ _ _).mpr ⟨i, hi, e⟩
              rw [ho] at this
              cases this)
            refine ⟨nI (LLn (aOrd A t) 6 0 1), sq (mgH Q S) 0 (sr S2 3 (mgH Q S 0 3)), sr N 0 (upd (upd (N 0) (104 + A 2 1) (nI t)) 3 (nI (A 2 1 + 1))), ?_, ?_, II_of (JJ_tree r3 hB c2 d2)⟩
            · rw [E7, fX7_split_L58, r1, Option.bind_some, Option.bind_some, if_neg n10, c1, Option.bind_some, Option.bind_some, sq_s, leaves5_v c2 hB, Option.bind_some]
            · have e3 := r3.2.2.1.2.2.2.1
              have e4 : upd (N 0) (104 + A 2 1) (nI t) 3 = nI (A 2 1) := by rw [pk_un (by omega), e3]
              rw [E8, fX8_split_L51, r2, Option.bind_some, if_neg n10, e3, show (104:Int32) + nI (A 2 1) = nI (104 + A 2 1) from nI_add 104 _, wr_v _ _ (by omega) (by decide), Option.bind_some, Option.bind_some, sr_at, e4, nI_1, show (3:Int32) = nI 3 from rfl, wr_v _ _ (by decide) (by decide), Option.bind_some, Option.bind_some, sr_sr, sr_at, allLeaves_v d2 hB, Option.bind_some]
          · have e12 : A 2 1 = 12 := by omega
            rw [e12, if_neg (show ¬ nI 12 < 12 by decide)] at E7
            rw [e12, if_pos (show nI 12 = 12 from rfl)] at E8
            exact ⟨_, _, _, E7, E8, hI⟩
  · refine ⟨-1, Q, M, ?_, ?_, hI⟩
    · rw [fX7_split, hd]
      rfl
    · rw [fX8_split, isNumber_no hd]
      rfl
