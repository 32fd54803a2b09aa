/-! the place beside a tile; the nearest point -/
theorem dirs : ∀ k, k < 8 → rd 8 stX (nI k) = fX8_across (nI k) ∧ rd 8 stY (nI k) = fX8_along (nI k) := by decide +kernel
theorem dirv : ∀ k, k < 8 → (∃ v, fX8_across (nI k) = some v) ∧ ∃ v, fX8_along (nI k) = some v := by
  intro k hk
  have h : ∀ k, k < 8 → (fX8_across (nI k)).isSome = true ∧ (fX8_along (nI k)).isSome = true := by decide +kernel
  exact ⟨Option.isSome_iff_exists.mp (h k hk).1, Option.isSome_iff_exists.mp (h k hk).2⟩
theorem tl_same {d e p p2 : Nat} (he : e ≤ d) (hd : d ≤ 6) (h : tl d p = tl d p2) : tl e p = tl e p2 := by
  rw [← tl_up he hd, h, tl_up he hd]
theorem ld_same {A : AS} (hA : AV A) {d p p2 : Nat} (hd : d ≤ 6) (h : tl d p = tl d p2) : (ld A p < d ∧ ld A p2 = ld A p) ∨ (d ≤ ld A p ∧ d ≤ ld A p2) := by
  obtain ⟨_, g2, g3⟩ := ld_spec hA p
  obtain ⟨_, k2, k3⟩ := ld_spec hA p2
  by_cases hl : ld A p < d
  · refine Or.inl ⟨hl, ld_uniq hA (fun e he => ?_) ?_⟩
    · rw [← tl_same (show e ≤ d by omega) hd h]
      exact g2 e he
    · rw [← tl_same (show ld A p ≤ d by omega) hd h]
      exact g3
  · refine Or.inr ⟨by omega, Nat.not_lt.mp fun hk => ?_⟩
    rw [← tl_same (show ld A p2 ≤ d by omega) hd h, g2 _ (by omega)] at k3
    cases k3
theorem around_v {T : FS} {A : AS} (h : RT T A) (hA : AV A) {d p : Nat} (hd : d ≤ 6) (hp : p < 4096) : fX5_smallestAround T (nI (tl d p)) (nI d) = some (if ld A p ≤ d then nI (tl (ld A p) p) else nI (tl d p)) := by
  have ht := tl_tv hd hp
  have hf := fo_lt ht
  have e := fo_tl ht
  have h6 := (ld_spec hA p).1
  have h7 := (ld_spec hA (fo d (tl d p))).1
  rw [fX5_smallestAround, leastPlace_v ht, Option.bind_some, depthOfLeaf5_v h hA hf, Option.bind_some]
  rcases ld_same hA hd e.symm with ⟨h1, h2⟩ | ⟨h1, h2⟩
  · rw [h2, if_pos (nI_lt h1 (by omega)), upTo_p h6 hf, Option.bind_some, tl_same (show ld A p ≤ d by omega) hd e, if_pos (by omega)]
  · rw [if_neg (nI_nlt h2 (by omega)), upTo_p hd hf, Option.bind_some, e]
    by_cases h3 : ld A p ≤ d
    · rw [if_pos h3, show ld A p = d by omega]
    · rw [if_neg h3]
theorem in01 (x : Int32) : (x = 0 ∧ fX8_in x 0 1 = some 1) ∨ (x = 1 ∧ fX8_in x 0 1 = some 1) ∨ ((x < 0 ∨ ¬ x ≤ 1) ∧ ¬ x = 0 ∧ ¬ x = 1 ∧ fX8_in x 0 1 = some 0) := by
  have e0 : (0:Int32).toInt = 0 := by decide
  have e1 : (1:Int32).toInt = 1 := by decide
  by_cases k0 : x = 0
  · subst k0
    exact Or.inl ⟨rfl, rfl⟩
  · by_cases k1 : x = 1
    · subst k1
      exact Or.inr (Or.inl ⟨rfl, rfl⟩)
    · refine Or.inr (Or.inr ?_)
      have n0 : ¬ x.toInt = 0 := fun e => k0 (Int32.toInt_inj.mp (by rw [e, e0]))
      have n1 : ¬ x.toInt = 1 := fun e => k1 (Int32.toInt_inj.mp (by rw [e, e1]))
      by_cases h : x < 0
      · exact ⟨Or.inl h, k0, k1, in_lt h⟩
      · have h2 : (1:Int32) < x := by
          rw [Int32.lt_iff_toInt_lt] at h ⊢
          omega
        refine ⟨Or.inr fun h3 => ?_, k0, k1, in_gt h2⟩
        rw [Int32.le_iff_toInt_le] at h3
        rw [Int32.lt_iff_toInt_lt] at h2
        omega
theorem nextTo_v {d t k : Nat} (ht : tv d t) (hk : k < 8) {u v : Int32} (eu : fX8_across (nI k) = some u) (ev : fX8_along (nI k) = some v) : fX1_nextTo (nI t) (nI d) (nI k) = (fX1_isPlace (nI (xof 6 (fo d t)) + nI (2 ^ (6 - d)) * u) (nI (yof 6 (fo d t)) + nI (2 ^ (6 - d)) * v)).bind fun r_8 => if r_8 = 0 then some (-6) else (fX1_placeAt (nI (xof 6 (fo d t)) + nI (2 ^ (6 - d)) * u) (nI (yof 6 (fo d t)) + nI (2 ^ (6 - d)) * v)).bind fun r_10 => (fX1_upTo r_10 6 (nI d)).bind fun r_11 => some r_11 := by
  rw [fX1_nextTo, if_neg (nI_pos (by omega)), if_pos (show nI k < 8 from nI_lt (b := 8) hk (by decide)), sizeAt_v ht.1, Option.bind_some, leastX_v ht, Option.bind_some, (dirs k hk).1, eu, Option.bind_some, leastY_v ht, Option.bind_some, (dirs k hk).2, ev, Option.bind_some, Int32.mul_comm u, Int32.mul_comm v]
theorem beside_v {Q : Nat → FS} {M : FS} {A : AS} (h : RT (Q 0) A) (h8 : RM (M 0) A) (hA : AV A) (x1 x2 x3 : Int32) : ∃ r, fX7_beside Q x1 x2 x3 = some r ∧ fX8_beside M x1 x2 x3 = some r := by
  rcases dep_any x1 with ⟨d, t, ht, rfl, hd⟩ | ⟨_, hd⟩
  · have h0 := tv_lt ht
    have h6 := ht.1
    rw [fX7_beside, fX8_beside, hd, Option.bind_some, if_neg (ne6 (by omega)), isNumber_v ht, Option.bind_some, if_neg (show ¬ (1:Int32) = 0 by decide)]
    rcases pk_ix x2 (n := 8) (by decide) with hx | hx | ⟨k, hk, rfl⟩
    · rw [if_pos hx, in_lt hx]
      exact ⟨_, rfl, rfl⟩
    · have e7 : (7:Int32) < x2 := by
        rw [Int32.le_iff_toInt_le] at hx
        rw [Int32.lt_iff_toInt_lt]
        have h1 : (nI 8).toInt = 8 := by decide
        have h2 : (7:Int32).toInt = 7 := by decide
        omega
      rw [in_gt e7, if_pos (show (8:Int32) ≤ x2 from hx)]
      refine ⟨-2, ?_, rfl⟩
      split <;> rfl
    · rw [if_neg (nI_pos (by omega)), if_neg (show ¬ (8:Int32) ≤ nI k from nI_ge (b := 8) hk (by decide)), show fX8_in (nI k) 0 7 = some 1 from in_in (lo := 0) (hi := 7) (by omega) (by omega) (by decide), Option.bind_some, if_neg (show ¬ (1:Int32) = 0 by decide)]
      have key : (x3 = 0 ∨ x3 = 1) → fX8_in x3 0 1 = some 1 → ∃ r, ((fX1_nextTo (nI t) (nI d) (nI k)).bind fun r_7 => if r_7 = -6 then some r_7 else if x3 = 0 then some r_7 else (fX5_smallestAround (Q 0) r_7 (nI d)).bind fun r_10 => some r_10) = some r ∧ ((fX8_in x3 0 1).bind fun r_5 => if r_5 = 0 then some (-2) else (fX8_firstOf (nI t)).bind fun r_7 => (fX8_coordinate r_7 0).bind fun r_8 => (fX8_sizeOf (nI t)).bind fun r_9 => (fX8_across (nI k)).bind fun r_10 => (fX8_coordinate r_7 1).bind fun r_11 => (fX8_sizeOf (nI t)).bind fun r_12 => (fX8_along (nI k)).bind fun r_13 => (fX8_isPlace (r_8 + r_9 * r_10) (r_11 + r_12 * r_13)).bind fun r_14 => if r_14 = 0 then some (-6) else (fX8_pathOf (r_8 + r_9 * r_10) (r_11 + r_12 * r_13)).bind fun r_16 => (fX8_depthOf (nI t)).bind fun r_17 => (fX8_tileOf r_16 r_17).bind fun r_18 => (fX8_leafOf (M 0) r_16).bind fun r_19 => if x3 = 0 then some r_18 else (fX8_depthOf r_19).bind fun r_21 => (fX8_depthOf (nI t)).bind fun r_22 => if r_21 ≤ r_22 then some r_19 else some r_18) = some r := by
        intro hx3 ein
        obtain ⟨⟨u, eu⟩, ⟨v, ev⟩⟩ := dirv k hk
        have hf := fo_lt ht
        rw [nextTo_v ht hk eu ev, ein, Option.bind_some, if_neg (show ¬ (1:Int32) = 0 by decide), firstOf_v ht, Option.bind_some, coord0_all _ hf, Option.bind_some, sizeOf_v ht, Option.bind_some, eu, Option.bind_some, coord1_all _ hf, Option.bind_some, Option.bind_some, ev, Option.bind_some]
        generalize nI (xof 6 (fo d t)) + nI (2 ^ (6 - d)) * u = X
        generalize nI (yof 6 (fo d t)) + nI (2 ^ (6 - d)) * v = Y
        rcases isPlace_any X Y with ⟨a, b, ha, hb, rfl, rfl, e1, e8⟩ | ⟨e1, e8⟩
        · have hp := pth_lt 6 a b
          have ht2 := tl_tv h6 hp
          have h9 := tv_lt ht2
          have h10 := (ld_spec hA (pth 6 a b)).1
          rw [e1, e8, Option.bind_some, Option.bind_some, if_neg (show ¬ (1:Int32) = 0 by decide), if_neg (show ¬ (1:Int32) = 0 by decide), placeAt_all a ha b hb, pathOf_all a ha b hb, Option.bind_some, Option.bind_some, upTo_p h6 hp, dep8_tv ht, Option.bind_some, Option.bind_some, Option.bind_some, tileOf_v h6 hp, Option.bind_some, leafOf8_v h8 hA hp, Option.bind_some, if_neg (ne6 (by omega))]
          by_cases k0 : x3 = 0
          · rw [if_pos k0, if_pos k0]
            exact ⟨_, rfl, rfl⟩
          · rw [if_neg k0, if_neg k0, around_v h hA h6 hp, Option.bind_some, dep8_tv (tl_tv h10 hp), Option.bind_some, Option.bind_some]
            by_cases h11 : ld A (pth 6 a b) ≤ d
            · rw [if_pos h11, if_pos (nI_le h11 (by omega))]
              exact ⟨_, rfl, rfl⟩
            · rw [if_neg h11, if_neg (nI_ge (by omega) (by omega))]
              exact ⟨_, rfl, rfl⟩
        · rw [e1, e8]
          exact ⟨_, rfl, rfl⟩
      rcases in01 x3 with ⟨e, ein⟩ | ⟨e, ein⟩ | ⟨hx3, n0, n1, ein⟩
      · have := key (Or.inl e) ein
        subst e
        rw [if_neg (show ¬ (0:Int32) < 0 by decide), if_pos (show (0:Int32) ≤ 1 by decide)]
        exact this
      · have := key (Or.inr e) ein
        subst e
        rw [if_neg (show ¬ (1:Int32) < 0 by decide), if_pos (show (1:Int32) ≤ 1 by decide)]
        exact this
      · rw [ein, Option.bind_some, if_pos rfl]
        refine ⟨-2, ?_, rfl⟩
        rcases hx3 with hx3 | hx3
        · rw [if_pos hx3]
        · rw [if_neg hx3]
          split <;> rfl
  · rw [fX7_beside, fX8_beside, hd, isNumber_no hd]
    exact ⟨_, rfl, rfl⟩
