/-! calls that are refused, in any state with a point, an empty pad and no order of 24 or more -/
def RH (Q : Nat → FS) (A : AS) : Prop := AV A ∧ RT (Q 0) A ∧ 1 ≤ A 2 0 ∧ (fX3_isOrdered (Q 0) 2000 = some 0 ∧ fX3_isOrdered (Q 0) 2047 = some 0) ∧ Q 1 2 0 = 0
theorem isPoint_n {T : FS} {A : AS} (h : RC T A) (hA : AV A) : fX3_isPoint T (nI (A 2 0)) = some 0 := by
  have hn := hA.1
  rw [fX3_isPoint, h.1 0 (by decide), if_neg (nI_pos (by omega)), if_pos (nI_le (Nat.le_refl _) (by omega)), bz0]
theorem isPoint_m (T : FS) : fX3_isPoint T (-1) = some 0 := by
  rw [fX3_isPoint, if_pos (by decide), bz0]
theorem isPoint_0 {Q : Nat → FS} {A : AS} (h : RH Q A) : fX3_isPoint (Q 0) 0 = some 1 := isPoint3_v h.2.1.1 h.1 (i := 0) h.2.2.1
theorem placeOf_0 {Q : Nat → FS} {A : AS} (h : RH Q A) : fX3_placeOf (Q 0) 0 = some (nI (4096 + A 0 0)) := placeOf_v h.2.1.1 h.1 (i := 0) h.2.2.1
theorem notOrd {T : FS} {A : AS} (h : RC T A) (hA : AV A) (g : GO A) {t : Nat} (ht : t < 8192) (h24 : 24 ≤ t) : fX3_isOrdered T (nI t) = some 0 := by
  rw [isOrdered3_v h hA ht, bi_f fun e => by
    obtain ⟨i, hi, e⟩ := (odb_iff _ _ _).mp e
    have := g i hi
    omega]
theorem RH_JJ {Q : Nat → FS} {M : FS} {A : AS} {s : Nat} {H : Nat → AS} {fl : Nat → Bool} {SL : Nat → AS} {C : Nat → Nat} {a : Nat} (h : JJ Q M A s H fl SL 0 C a) (g : GO A) (h1 : 1 ≤ A 2 0) : RH Q A :=
  ⟨h.1, h.2.1, h1, ⟨notOrd h.2.1.1 h.1 g (t := 2000) (by decide) (by decide), notOrd h.2.1.1 h.1 g (t := 2047) (by decide) (by decide)⟩, h.2.2.2.2.2.1.2.1⟩
theorem ord_of {Q : Nat → FS} {t : Int32} {d : Int32} (hd : fX1_depthOf t = some d) (h6 : ¬ d = -6) {x : Int32} (hx : fX3_isOrdered (Q 0) t = some x) (e : fX7_tile Q t 6 = some 0) : x = 0 := by
  rw [fX7_tile, hd, Option.bind_some, if_neg h6, if_neg (by decide), if_neg (by decide), if_neg (by decide), if_neg (by decide), if_neg (by decide), if_neg (by decide), if_pos rfl, hx, Option.bind_some] at e
  by_cases h0 : x = 0
  · exact h0
  · rw [if_neg h0] at e
    injection e with e
    exact absurd e (by decide)
/-- a state told by lists, with a point, an empty pad, and neither order -/
theorem RH_of {Q : Nat → FS} {z : St} (hB : Bis Q z) {r : Int32} {k : Nat} (e0 : fX7_count (Qc z) 0 = some r) (er : r = nI k) (k1 : 1 ≤ k) (k2 : k ≤ 50) (e9 : fX7_count (Qc z) 9 = some 0) (eo : fX7_tile (Qc z) 2000 6 = some 0) (ep : fX7_tile (Qc z) 2047 6 = some 0) : ∃ (A : AS) (w : Int32), RH Q A ∧ SeenH Q A ∧ fX7_count Q 10 = some w := by
  have c0 := b_n (fun Q => fX7_count Q 0) (fun M => fX8_count M 0) (fun Q M h => count_c Q M 0 h) hB e0
  have c9 := b_n (fun Q => fX7_count Q 9) (fun M => fX8_count M 9) (fun Q M h => count_c Q M 9 h) hB e9
  have co := b_r (fun Q => fX7_tile Q 2000 6) (fun M => fX8_tile M 2000 6) (fun Q M h => tile_c Q M 2000 6 h) hB eo
  have cp := b_r (fun Q => fX7_tile Q 2047 6) (fun M => fX8_tile M 2047 6) (fun Q M h => tile_c Q M 2047 6 h) hB ep
  have c0 : fX7_count Q 0 = some r := c0
  have c9 : fX7_count Q 9 = some 0 := c9
  have co : fX7_tile Q 2000 6 = some 0 := co
  have cp : fX7_tile Q 2047 6 = some 0 := cp
  obtain ⟨M, h1, h2⟩ := hB
  obtain ⟨A, s, H, fl, SL, L, C, a, h⟩ := h1
  have hn := h.1.1
  have i1 := isOrdered3_v h.2.1.1 h.1 (t := 2000) (by decide)
  have i2 := isOrdered3_v h.2.1.1 h.1 (t := 2047) (by decide)
  rw [count0_J h, er] at c0
  injection c0 with c0
  have c0 := (nI_eq (by omega) (by omega)).mp c0
  rw [fX7_count, if_neg (by decide), if_neg (by decide), if_neg (by decide), if_neg (by decide), if_neg (by decide), if_neg (by decide), if_neg (by decide), if_neg (by decide), if_neg (by decide), if_pos rfl] at c9
  injection c9 with c9
  have o1 := ord_of (d := 5) (by decide +kernel) (by decide) i1 co
  have o2 := ord_of (d := 5) (by decide +kernel) (by decide) i2 cp
  rw [o1] at i1
  rw [o2] at i2
  exact ⟨A, nI s, ⟨h.1, h.2.1, by omega, ⟨i1, i2⟩, c9⟩, SeenJ h, count10_J h⟩
theorem fault_0 {Q : Nat → FS} {A : AS} (h : RH Q A) : fX2_firstFault (Q 1) = some 0 := by
  have g : ∀ q, fX2_firstFault_L6 (Q 1) (q + 1) (-1) 0 0 = some 0 := fun q => by
    rw [fX2_firstFault_L6, h.2.2.2.2, if_pos (by decide), if_pos rfl]
  exact g 5999
theorem zc_0 : fX1_isPlace (-1) 0 = some (0) := by decide +kernel
theorem zc_1 : fX1_isPlace 0 (-1) = some (0) := by decide +kernel
theorem zc_2 : fX1_depthOf 0 = some (-6) := by decide +kernel
theorem zc_3 : fX1_depthOf 2 = some (-6) := by decide +kernel
theorem zc_4 : fX1_depthOf 4096 = some (6) := by decide +kernel
theorem zc_5 : fX1_depthOf (-1) = some (-6) := by decide +kernel
theorem zc_6 : fX1_depthOf 2000 = some (5) := by decide +kernel
theorem zc_7 : fX1_depthOf 3 = some (-6) := by decide +kernel
theorem zc_8 : fX1_depthOf 1 = some (0) := by decide +kernel
theorem zc_9 : fX1_depthOf 7 = some (1) := by decide +kernel
theorem zc_10 : fX1_isPlace 0 0 = some (1) := by decide +kernel
theorem zc_11 : fX1_isPlace 1 0 = some (1) := by decide +kernel
theorem zc_12 : fX1_isPlace 0 1 = some (1) := by decide +kernel
theorem zc_13 : fX1_isPlace 9 9 = some (1) := by decide +kernel
theorem zc_14 : fX4_isSlot (-1) = some (0) := by decide +kernel
theorem zc_15 : fX2_charactersIn 0 = some (-6) := by decide +kernel
theorem zc_16 : fX2_charactersIn 127 = some (-6) := by decide +kernel
theorem zc_17 : fX1_isPlace 64 0 = some (0) := by decide +kernel
theorem zc_18 : fX1_isPlace 0 64 = some (0) := by decide +kernel
theorem zc_19 : fX1_depthOf 8192 = some (-6) := by decide +kernel
theorem zc_20 : fX1_depthOf 15 = some (-6) := by decide +kernel
theorem zc_21 : fX1_depthOf 8191 = some (6) := by decide +kernel
theorem zc_22 : fX1_depthOf 2047 = some (5) := by decide +kernel
theorem zc_23 : fX1_depthOf 32 = some (-6) := by decide +kernel
theorem zc_24 : fX4_isSlot 2 = some (0) := by decide +kernel
theorem zc_25 : fX2_charactersIn 32 = some (-6) := by decide +kernel
theorem zc_26 : fX2_charactersIn 12544 = some (-6) := by decide +kernel
theorem rf0_0 {Q : Nat → FS} {A : AS} (h : RH Q A) : fX7_set Q (-1) 1 = some (-2, Q) := by
  rw [fX7_set, if_neg (by decide), if_neg (by decide)]
theorem rf0_1 {Q : Nat → FS} {A : AS} (h : RH Q A) : fX7_set Q 0 0 = some (-2, Q) := by
  rw [fX7_set, if_pos (by decide), fX7_set_L12, if_pos (by decide), fX7_set_L23, if_pos (by decide)]
theorem rf0_2 {Q : Nat → FS} {A : AS} (h : RH Q A) : fX7_set Q 1 0 = some (-2, Q) := by
  rw [fX7_set, if_neg (by decide), if_pos (by decide), fX7_set_L12, if_neg (by decide), fX7_set_L23, if_pos (by decide)]
theorem rf0_3 {Q : Nat → FS} {A : AS} (h : RH Q A) : fX7_point Q (-1) 0 = some (-1, Q) := by
  rw [fX7_point, zc_0, Option.bind_some, if_pos (by decide)]
theorem rf0_4 {Q : Nat → FS} {A : AS} (h : RH Q A) : fX7_point Q 0 (-1) = some (-1, Q) := by
  rw [fX7_point, zc_1, Option.bind_some, if_pos (by decide)]
theorem rf0_5 {Q : Nat → FS} {A : AS} (h : RH Q A) : fX7_take Q (-1) = some (-1, Q) := by
  rw [fX7_take, isPoint_m _, Option.bind_some, if_pos (by decide)]
theorem rf0_6 {Q : Nat → FS} {A : AS} (h : RH Q A) : fX7_move Q (-1) 0 0 = some (-1, Q) := by
  rw [fX7_move, isPoint_m _, Option.bind_some, if_pos (by decide)]
theorem rf0_7 {Q : Nat → FS} {A : AS} (h : RH Q A) : fX7_move Q 0 (-1) 0 = some (-1, Q) := by
  rw [fX7_move, isPoint_0 h, Option.bind_some, if_neg (by decide), zc_0, Option.bind_some, if_pos (by decide)]
theorem rf0_8 {Q : Nat → FS} {A : AS} (h : RH Q A) : fX7_move Q 0 0 (-1) = some (-1, Q) := by
  rw [fX7_move, isPoint_0 h, Option.bind_some, if_neg (by decide), zc_1, Option.bind_some, if_pos (by decide)]
theorem rf0_9 {Q : Nat → FS} {A : AS} (h : RH Q A) : fX7_split Q 0 1 = some (-1, Q) := by
  rw [fX7_split, zc_2, Option.bind_some, if_pos (by decide)]
theorem rf0_10 {Q : Nat → FS} {A : AS} (h : RH Q A) : fX7_split Q 2 1 = some (-1, Q) := by
  rw [fX7_split, zc_3, Option.bind_some, if_pos (by decide)]
theorem rf0_11 {Q : Nat → FS} {A : AS} (h : RH Q A) : fX7_split Q 4096 1 = some (-1, Q) := by
  rw [fX7_split, zc_4, Option.bind_some, if_neg (by decide), if_pos (by decide)]
theorem rf0_12 {Q : Nat → FS} {A : AS} (h : RH Q A) : fX7_split Q (-1) 0 = some (-1, Q) := by
  rw [fX7_split, zc_5, Option.bind_some, if_pos (by decide)]
theorem rf0_13 {Q : Nat → FS} {A : AS} (h : RH Q A) : fX7_split Q 2000 0 = some (-5, Q) := by
  rw [fX7_split, zc_6, Option.bind_some, if_neg (by decide), if_neg (by decide), h.2.2.2.1.1, Option.bind_some, if_pos (by decide)]
theorem rf0_14 {Q : Nat → FS} {A : AS} (h : RH Q A) : fX7_putAll Q  = some (-3, Q) := by
  rw [fX7_putAll, fault_0 h, Option.bind_some, if_neg (by decide)]
theorem rf0_15 {Q : Nat → FS} {A : AS} (h : RH Q A) : fX7_of Q (-1) 9 = some (-1) := by
  rw [fX7_of, isPoint_m _, Option.bind_some, if_pos (by decide)]
theorem rf0_16 {Q : Nat → FS} {A : AS} (h : RH Q A) : fX7_of Q 0 (-1) = some (-2) := by
  rw [fX7_of, isPoint_0 h, Option.bind_some, if_neg (by decide), placeOf_0 h, Option.bind_some, if_neg (by decide), if_neg (by decide), if_neg (by decide), if_neg (by decide)]
theorem rf0_17 {Q : Nat → FS} {A : AS} (h : RH Q A) : fX7_leafAt Q (-1) 0 = some (-1) := by
  rw [fX7_leafAt, zc_0, Option.bind_some, if_pos (by decide)]
theorem rf0_18 {Q : Nat → FS} {A : AS} (h : RH Q A) : fX7_leafAt Q 0 (-1) = some (-1) := by
  rw [fX7_leafAt, zc_1, Option.bind_some, if_pos (by decide)]
theorem rf0_19 {Q : Nat → FS} {A : AS} (h : RH Q A) : fX7_tile Q 0 9 = some (-1) := by
  rw [fX7_tile, zc_2, Option.bind_some, if_pos (by decide)]
theorem rf0_20 {Q : Nat → FS} {A : AS} (h : RH Q A) : fX7_tile Q 3 0 = some (-1) := by
  rw [fX7_tile, zc_7, Option.bind_some, if_pos (by decide)]
theorem rf0_21 {Q : Nat → FS} {A : AS} (h : RH Q A) : fX7_tile Q 1 (-1) = some (-2) := by
  rw [fX7_tile, zc_8, Option.bind_some, if_neg (by decide), if_neg (by decide), if_neg (by decide), if_neg (by decide), if_neg (by decide), if_neg (by decide), if_neg (by decide), if_neg (by decide), if_neg (by decide)]
theorem rf0_22 {Q : Nat → FS} {A : AS} (h : RH Q A) : fX7_letter Q 0 0 = some (-1) := by
  rw [fX7_letter, zc_2, Option.bind_some, if_pos (by decide)]
theorem rf0_23 {Q : Nat → FS} {A : AS} (h : RH Q A) : fX7_letter Q 1 0 = some (-1) := by
  rw [fX7_letter, zc_8, Option.bind_some, if_neg (by decide), if_neg (by decide), if_neg (by decide)]
theorem rf0_24 {Q : Nat → FS} {A : AS} (h : RH Q A) : fX7_letter Q 7 (-1) = some (-1) := by
  rw [fX7_letter, zc_9, Option.bind_some, if_neg (by decide), if_pos (by decide)]
theorem rf0_25 {Q : Nat → FS} {A : AS} (h : RH Q A) : fX7_beside Q 0 9 9 = some (-1) := by
  rw [fX7_beside, zc_2, Option.bind_some, if_pos (by decide)]
theorem rf0_26 {Q : Nat → FS} {A : AS} (h : RH Q A) : fX7_beside Q 1 (-1) 0 = some (-2) := by
  rw [fX7_beside, zc_8, Option.bind_some, if_neg (by decide), if_pos (by decide)]
theorem rf0_27 {Q : Nat → FS} {A : AS} (h : RH Q A) : fX7_beside Q 1 0 (-1) = some (-2) := by
  rw [fX7_beside, zc_8, Option.bind_some, if_neg (by decide), if_neg (by decide), if_neg (by decide), if_pos (by decide)]
theorem rf0_28 {Q : Nat → FS} {A : AS} (h : RH Q A) : fX7_neighbours Q 0 = some (-1) := by
  rw [fX7_neighbours, zc_2, Option.bind_some, if_pos (by decide)]
theorem rf0_29 {Q : Nat → FS} {A : AS} (h : RH Q A) : fX7_count Q (-1) = some (-2) := by
  rw [fX7_count, if_neg (by decide), if_neg (by decide), if_neg (by decide), if_neg (by decide), if_neg (by decide), if_neg (by decide), if_neg (by decide), if_neg (by decide), if_neg (by decide), if_neg (by decide), if_neg (by decide)]
theorem rf0_30 {Q : Nat → FS} {A : AS} (h : RH Q A) : fX7_window Q (-1) 0 0 0 9 = some (-1, Q) := by
  rw [fX7_window, zc_0, Option.bind_some, if_pos (by decide)]
theorem rf0_31 {Q : Nat → FS} {A : AS} (h : RH Q A) : fX7_window Q 0 0 (-1) 0 9 = some (-1, Q) := by
  rw [fX7_window, zc_10, Option.bind_some, if_neg (by decide), zc_0, Option.bind_some, if_pos (by decide)]
theorem rf0_32 {Q : Nat → FS} {A : AS} (h : RH Q A) : fX7_window Q 0 0 0 (-1) 9 = some (-1, Q) := by
  rw [fX7_window, zc_10, Option.bind_some, if_neg (by decide), zc_1, Option.bind_some, if_pos (by decide)]
theorem rf0_33 {Q : Nat → FS} {A : AS} (h : RH Q A) : fX7_window Q 1 0 0 0 0 = some (-2, Q) := by
  rw [fX7_window, zc_11, Option.bind_some, if_neg (by decide), zc_10, Option.bind_some, if_neg (by decide), if_pos (by decide)]
theorem rf0_34 {Q : Nat → FS} {A : AS} (h : RH Q A) : fX7_window Q 0 1 0 0 0 = some (-2, Q) := by
  rw [fX7_window, zc_12, Option.bind_some, if_neg (by decide), zc_10, Option.bind_some, if_neg (by decide), if_neg (by decide), if_neg (by decide)]
theorem rf0_35 {Q : Nat → FS} {A : AS} (h : RH Q A) : fX7_window Q 0 0 0 0 (-1) = some (-2, Q) := by
  rw [fX7_window, zc_10, Option.bind_some, if_neg (by decide), Option.bind_some, if_neg (by decide), if_neg (by decide), if_pos (by decide), if_neg (by decide), if_neg (by decide), if_neg (by decide), if_neg (by decide)]
theorem rf0_36 {Q : Nat → FS} {A : AS} (h : RH Q A) : fX7_nearest Q (-1) 0 9 = some (-1) := by
  rw [fX7_nearest, zc_0, Option.bind_some, if_pos (by decide)]
theorem rf0_37 {Q : Nat → FS} {A : AS} (h : RH Q A) : fX7_nearest Q 0 0 (-1) = some (-2) := by
  rw [fX7_nearest, zc_10, Option.bind_some, if_neg (by decide), if_neg (by decide), if_neg (by decide)]
theorem rf0_38 {Q : Nat → FS} {A : AS} (h : RH Q A) : fX7_ifPut Q (-1) 0 9 = some (-1, Q) := by
  rw [fX7_ifPut, zc_0, Option.bind_some, if_pos (by decide)]
theorem rf0_39 {Q : Nat → FS} {A : AS} (h : RH Q A) : fX7_ifPut Q 9 9 (-1) = some (-2, Q) := by
  rw [fX7_ifPut, zc_13, Option.bind_some, if_neg (by decide), if_neg (by decide), if_neg (by decide)]
theorem rf0_40 {Q : Nat → FS} {A : AS} (h : RH Q A) : fX7_leastFull Q 0 = some (-2, Q) := by
  rw [fX7_leastFull, if_pos (by decide)]
theorem rf0_41 {Q : Nat → FS} {A : AS} (h : RH Q A) : fX7_save Q (-1) = some (-2, Q) := by
  rw [fX7_save, zc_14, Option.bind_some, if_pos (by decide)]
theorem rf0_42 {Q : Nat → FS} {A : AS} (h : RH Q A) : fX7_restore Q (-1) = some (-2, Q) := by
  rw [fX7_restore, zc_14, Option.bind_some, if_pos (by decide)]
theorem rf0_43 {Q : Nat → FS} {A : AS} (h : RH Q A) : fX7_put Q 0 = some (-2, Q) := by
  rw [fX7_put, zc_15, Option.bind_some, if_pos (by decide)]
theorem rf0_44 {Q : Nat → FS} {A : AS} (h : RH Q A) : fX7_put Q 127 = some (-2, Q) := by
  rw [fX7_put, zc_16, Option.bind_some, if_pos (by decide)]
theorem rf1_0 {Q : Nat → FS} {A : AS} (h : RH Q A) : fX7_set Q 2 1 = some (-2, Q) := by
  rw [fX7_set, if_neg (by decide), if_neg (by decide)]
theorem rf1_1 {Q : Nat → FS} {A : AS} (h : RH Q A) : fX7_set Q 0 9 = some (-2, Q) := by
  rw [fX7_set, if_pos (by decide), fX7_set_L12, if_pos (by decide), fX7_set_L23, if_neg (by decide), if_neg (by decide)]
theorem rf1_2 {Q : Nat → FS} {A : AS} (h : RH Q A) : fX7_set Q 1 7 = some (-2, Q) := by
  rw [fX7_set, if_neg (by decide), if_pos (by decide), fX7_set_L12, if_neg (by decide), fX7_set_L23, if_neg (by decide), if_neg (by decide)]
theorem rf1_3 {Q : Nat → FS} {A : AS} (h : RH Q A) : fX7_point Q 64 0 = some (-1, Q) := by
  rw [fX7_point, zc_17, Option.bind_some, if_pos (by decide)]
theorem rf1_4 {Q : Nat → FS} {A : AS} (h : RH Q A) : fX7_point Q 0 64 = some (-1, Q) := by
  rw [fX7_point, zc_18, Option.bind_some, if_pos (by decide)]
theorem rf1_5 {Q : Nat → FS} {A : AS} (h : RH Q A) : fX7_take Q (nI (A 2 0)) = some (-1, Q) := by
  rw [fX7_take, isPoint_n h.2.1.1 h.1, Option.bind_some, if_pos (by decide)]
theorem rf1_6 {Q : Nat → FS} {A : AS} (h : RH Q A) : fX7_move Q (nI (A 2 0)) 0 0 = some (-1, Q) := by
  rw [fX7_move, isPoint_n h.2.1.1 h.1, Option.bind_some, if_pos (by decide)]
theorem rf1_7 {Q : Nat → FS} {A : AS} (h : RH Q A) : fX7_move Q 0 64 0 = some (-1, Q) := by
  rw [fX7_move, isPoint_0 h, Option.bind_some, if_neg (by decide), zc_17, Option.bind_some, if_pos (by decide)]
theorem rf1_8 {Q : Nat → FS} {A : AS} (h : RH Q A) : fX7_move Q 0 0 64 = some (-1, Q) := by
  rw [fX7_move, isPoint_0 h, Option.bind_some, if_neg (by decide), zc_18, Option.bind_some, if_pos (by decide)]
theorem rf1_9 {Q : Nat → FS} {A : AS} (h : RH Q A) : fX7_split Q 8192 1 = some (-1, Q) := by
  rw [fX7_split, zc_19, Option.bind_some, if_pos (by decide)]
theorem rf1_10 {Q : Nat → FS} {A : AS} (h : RH Q A) : fX7_split Q 15 1 = some (-1, Q) := by
  rw [fX7_split, zc_20, Option.bind_some, if_pos (by decide)]
theorem rf1_11 {Q : Nat → FS} {A : AS} (h : RH Q A) : fX7_split Q 8191 1 = some (-1, Q) := by
  rw [fX7_split, zc_21, Option.bind_some, if_neg (by decide), if_pos (by decide)]
theorem rf1_12 {Q : Nat → FS} {A : AS} (h : RH Q A) : fX7_split Q (-1) 0 = some (-1, Q) := by
  rw [fX7_split, zc_5, Option.bind_some, if_pos (by decide)]
theorem rf1_13 {Q : Nat → FS} {A : AS} (h : RH Q A) : fX7_split Q 2047 0 = some (-5, Q) := by
  rw [fX7_split, zc_22, Option.bind_some, if_neg (by decide), if_neg (by decide), h.2.2.2.1.2, Option.bind_some, if_pos (by decide)]
theorem rf1_14 {Q : Nat → FS} {A : AS} (h : RH Q A) : fX7_putAll Q  = some (-3, Q) := by
  rw [fX7_putAll, fault_0 h, Option.bind_some, if_neg (by decide)]
theorem rf1_15 {Q : Nat → FS} {A : AS} (h : RH Q A) : fX7_of Q (nI (A 2 0)) 9 = some (-1) := by
  rw [fX7_of, isPoint_n h.2.1.1 h.1, Option.bind_some, if_pos (by decide)]
theorem rf1_16 {Q : Nat → FS} {A : AS} (h : RH Q A) : fX7_of Q 0 4 = some (-2) := by
  rw [fX7_of, isPoint_0 h, Option.bind_some, if_neg (by decide), placeOf_0 h, Option.bind_some, if_neg (by decide), if_neg (by decide), if_neg (by decide), if_neg (by decide)]
theorem rf1_17 {Q : Nat → FS} {A : AS} (h : RH Q A) : fX7_leafAt Q 64 0 = some (-1) := by
  rw [fX7_leafAt, zc_17, Option.bind_some, if_pos (by decide)]
theorem rf1_18 {Q : Nat → FS} {A : AS} (h : RH Q A) : fX7_leafAt Q 0 64 = some (-1) := by
  rw [fX7_leafAt, zc_18, Option.bind_some, if_pos (by decide)]
theorem rf1_19 {Q : Nat → FS} {A : AS} (h : RH Q A) : fX7_tile Q 8192 9 = some (-1) := by
  rw [fX7_tile, zc_19, Option.bind_some, if_pos (by decide)]
theorem rf1_20 {Q : Nat → FS} {A : AS} (h : RH Q A) : fX7_tile Q 32 0 = some (-1) := by
  rw [fX7_tile, zc_23, Option.bind_some, if_pos (by decide)]
theorem rf1_21 {Q : Nat → FS} {A : AS} (h : RH Q A) : fX7_tile Q 1 8 = some (-2) := by
  rw [fX7_tile, zc_8, Option.bind_some, if_neg (by decide), if_neg (by decide), if_neg (by decide), if_neg (by decide), if_neg (by decide), if_neg (by decide), if_neg (by decide), if_neg (by decide), if_neg (by decide)]
theorem rf1_22 {Q : Nat → FS} {A : AS} (h : RH Q A) : fX7_letter Q 8192 0 = some (-1) := by
  rw [fX7_letter, zc_19, Option.bind_some, if_pos (by decide)]
theorem rf1_23 {Q : Nat → FS} {A : AS} (h : RH Q A) : fX7_letter Q 1 0 = some (-1) := by
  rw [fX7_letter, zc_8, Option.bind_some, if_neg (by decide), if_neg (by decide), if_neg (by decide)]
theorem rf1_24 {Q : Nat → FS} {A : AS} (h : RH Q A) : fX7_letter Q 7 1 = some (-1) := by
  rw [fX7_letter, zc_9, Option.bind_some, if_neg (by decide), if_neg (by decide), if_neg (by decide)]
theorem rf1_25 {Q : Nat → FS} {A : AS} (h : RH Q A) : fX7_beside Q 8192 9 9 = some (-1) := by
  rw [fX7_beside, zc_19, Option.bind_some, if_pos (by decide)]
theorem rf1_26 {Q : Nat → FS} {A : AS} (h : RH Q A) : fX7_beside Q 1 8 0 = some (-2) := by
  rw [fX7_beside, zc_8, Option.bind_some, if_neg (by decide), if_neg (by decide), if_pos (by decide)]
theorem rf1_27 {Q : Nat → FS} {A : AS} (h : RH Q A) : fX7_beside Q 1 0 2 = some (-2) := by
  rw [fX7_beside, zc_8, Option.bind_some, if_neg (by decide), if_neg (by decide), if_neg (by decide), if_neg (by decide), if_neg (by decide)]
theorem rf1_28 {Q : Nat → FS} {A : AS} (h : RH Q A) : fX7_neighbours Q 8192 = some (-1) := by
  rw [fX7_neighbours, zc_19, Option.bind_some, if_pos (by decide)]
theorem rf1_29 {Q : Nat → FS} {A : AS} (h : RH Q A) : fX7_count Q 11 = some (-2) := by
  rw [fX7_count, if_neg (by decide), if_neg (by decide), if_neg (by decide), if_neg (by decide), if_neg (by decide), if_neg (by decide), if_neg (by decide), if_neg (by decide), if_neg (by decide), if_neg (by decide), if_neg (by decide)]
theorem rf1_30 {Q : Nat → FS} {A : AS} (h : RH Q A) : fX7_window Q 64 0 0 0 9 = some (-1, Q) := by
  rw [fX7_window, zc_17, Option.bind_some, if_pos (by decide)]
theorem rf1_31 {Q : Nat → FS} {A : AS} (h : RH Q A) : fX7_window Q 0 0 64 0 9 = some (-1, Q) := by
  rw [fX7_window, zc_10, Option.bind_some, if_neg (by decide), zc_17, Option.bind_some, if_pos (by decide)]
theorem rf1_32 {Q : Nat → FS} {A : AS} (h : RH Q A) : fX7_window Q 0 0 0 64 9 = some (-1, Q) := by
  rw [fX7_window, zc_10, Option.bind_some, if_neg (by decide), zc_18, Option.bind_some, if_pos (by decide)]
theorem rf1_33 {Q : Nat → FS} {A : AS} (h : RH Q A) : fX7_window Q 1 0 0 0 0 = some (-2, Q) := by
  rw [fX7_window, zc_11, Option.bind_some, if_neg (by decide), zc_10, Option.bind_some, if_neg (by decide), if_pos (by decide)]
theorem rf1_34 {Q : Nat → FS} {A : AS} (h : RH Q A) : fX7_window Q 0 1 0 0 0 = some (-2, Q) := by
  rw [fX7_window, zc_12, Option.bind_some, if_neg (by decide), zc_10, Option.bind_some, if_neg (by decide), if_neg (by decide), if_neg (by decide)]
theorem rf1_35 {Q : Nat → FS} {A : AS} (h : RH Q A) : fX7_window Q 0 0 0 0 4 = some (-2, Q) := by
  rw [fX7_window, zc_10, Option.bind_some, if_neg (by decide), Option.bind_some, if_neg (by decide), if_neg (by decide), if_pos (by decide), if_neg (by decide), if_neg (by decide), if_neg (by decide), if_neg (by decide)]
theorem rf1_36 {Q : Nat → FS} {A : AS} (h : RH Q A) : fX7_nearest Q 64 0 9 = some (-1) := by
  rw [fX7_nearest, zc_17, Option.bind_some, if_pos (by decide)]
theorem rf1_37 {Q : Nat → FS} {A : AS} (h : RH Q A) : fX7_nearest Q 0 0 2 = some (-2) := by
  rw [fX7_nearest, zc_10, Option.bind_some, if_neg (by decide), if_neg (by decide), if_neg (by decide)]
theorem rf1_38 {Q : Nat → FS} {A : AS} (h : RH Q A) : fX7_ifPut Q 64 0 9 = some (-1, Q) := by
  rw [fX7_ifPut, zc_17, Option.bind_some, if_pos (by decide)]
theorem rf1_39 {Q : Nat → FS} {A : AS} (h : RH Q A) : fX7_ifPut Q 9 9 2 = some (-2, Q) := by
  rw [fX7_ifPut, zc_13, Option.bind_some, if_neg (by decide), if_neg (by decide), if_neg (by decide)]
theorem rf1_40 {Q : Nat → FS} {A : AS} (h : RH Q A) : fX7_leastFull Q 4097 = some (-2, Q) := by
  rw [fX7_leastFull, if_neg (by decide), if_neg (by decide)]
theorem rf1_41 {Q : Nat → FS} {A : AS} (h : RH Q A) : fX7_save Q 2 = some (-2, Q) := by
  rw [fX7_save, zc_24, Option.bind_some, if_pos (by decide)]
theorem rf1_42 {Q : Nat → FS} {A : AS} (h : RH Q A) : fX7_restore Q 2 = some (-2, Q) := by
  rw [fX7_restore, zc_24, Option.bind_some, if_pos (by decide)]
theorem rf1_43 {Q : Nat → FS} {A : AS} (h : RH Q A) : fX7_put Q 32 = some (-2, Q) := by
  rw [fX7_put, zc_25, Option.bind_some, if_pos (by decide)]
theorem rf1_44 {Q : Nat → FS} {A : AS} (h : RH Q A) : fX7_put Q 12544 = some (-2, Q) := by
  rw [fX7_put, zc_26, Option.bind_some, if_pos (by decide)]
