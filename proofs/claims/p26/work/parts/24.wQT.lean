theorem lkX7_of_10 : (.fieldLink RX7 10 "QuarterTiles" "tree" "LQuarterTiles$Tree;" : Cond) ∈ wsX7_of := by decide +kernel
theorem hiX7_of_X7 : ∀ w ∈ wsX70, w ∈ wsX7_of := by decide +kernel
theorem lkX7_of_37 : (.fieldLink RX7 37 "QuarterTiles$Tree" "plan" "LQuarterTiles$Plan;" : Cond) ∈ wsX7_of := by decide +kernel
theorem hiX7_of_X5 : ∀ w ∈ wsX50, w ∈ wsX7_of := by decide +kernel
set_option maxRecDepth 100000 in
set_option maxHeartbeats 4000000 in
theorem kX7_of (l : Launch) (D : va_G) (E : Nat → ClassId) (a0 : Nat → Nat) {Q0 : Nat → FS} {x1 : Int32} {x2 : Int32} {v : Int32} (hv : fX7_of Q0 x1 x2 = some v) : PU l yX7_of wsX7_of (rmN 5 108) D E zNo ((wQ E a0 Q0)) [.ref (a0 0), .int x1, .int x2] v := by
  refine PU.of (by decide) rfl (Nat.le_of_ble_eq_true rfl) ?_
  intro p e s m below meth c C hP hK hZ ls hl
  have hl : lv_has ls 5 [(0, .ref (a0 0)), (1, .int x1), (2, .int x2)] := hl
  obtain ⟨hx, hb, hr, hml, hown, hlocks, hts⟩ := id C
  unfold fX7_of at hv
  refine lv_aload_n hx hb dX7_of_0 rfl (lv_at hl 0 rfl) ?_
  refine va_get (D := D) (ci := 6) (v := .ref (a0 1)) (C := RX7) (T := TX7) (N := 4) hx hb hts hiX7_of_X7 hown hK hP 0 rfl rfl 0 (by decide) (hts _ lkX7_of_10) (fun _ h9 => h9) rfl dX7_of_1 ?_
  refine va_get (D := D) (ci := 4) (v := .ref (a0 3)) (C := RX5) (T := TX5) (N := 2) hx hb hts hiX7_of_X5 hown hK hP 1 rfl rfl 0 (by decide) (hts _ lkX7_of_37) (fun _ h9 => h9) rfl dX7_of_4 ?_
  refine lv_astore_n (lv' := [(3, .ref (a0 3)), (0, .ref (a0 0)), (1, .int x1), (2, .int x2)]) hx hb dX7_of_7 rfl hl (by decide) rfl (fun ls hl => ?_)
  refine lv_aload_n hx hb dX7_of_8 rfl (lv_at hl 0 rfl) ?_
  refine lv_iload_n hx hb dX7_of_9 rfl (lv_at hl 2 rfl) ?_
  obtain ⟨r_1, hr_1, hv⟩ := qB hv
  refine q_V (As := [.int x1]) (rest := []) (C := RX3) (T0 := TX3) (N0 := 6) (ci := 2) hx hb hml hown hts hl.1 (kX3_isPoint l D E (a0 3) (a0 4) (a0 5) hr_1) zNo_mv (cwV 1 hts gX7_of_X3_isPoint rfl rfl rfl (by decide +kernel) ⟨Nat.le_of_ble_eq_true rfl, Nat.le_of_ble_eq_true rfl⟩) 0 rfl rfl (hP.sub (ws' := (wPlan E (a0 3) (a0 4) (a0 5) (Q0 0))) [3, 4, 5] rfl) hK hZ rfl rfl (Nat.le_of_ble_eq_true rfl) dX7_of_10 ⟨Nat.zero_le _, Nat.zero_le _⟩ ?_
  refine lv_if_ne (tgt := 18) hx hb dX7_of_13 (by decide) (fun c_13_k_2 => ?_) (fun c_13_k_2 => ?_)
  · have hv := qF c_13_k_2 hv
    refine lv_aload_n hx hb dX7_of_18 rfl (lv_at hl 0 rfl) ?_
    refine lv_iload_n hx hb dX7_of_19 rfl (lv_at hl 2 rfl) ?_
    obtain ⟨r_3, hr_3, hv⟩ := qB hv
    refine q_V (As := [.int x1]) (rest := []) (C := RX3) (T0 := TX3) (N0 := 6) (ci := 2) hx hb hml hown hts hl.1 (kX3_placeOf l D E (a0 3) (a0 4) (a0 5) hr_3) zNo_mv (cwV 1 hts gX7_of_X3_placeOf rfl rfl rfl (by decide +kernel) ⟨Nat.le_of_ble_eq_true rfl, Nat.le_of_ble_eq_true rfl⟩) 0 rfl rfl (hP.sub (ws' := (wPlan E (a0 3) (a0 4) (a0 5) (Q0 0))) [3, 4, 5] rfl) hK hZ rfl rfl (Nat.le_of_ble_eq_true rfl) dX7_of_20 ⟨Nat.zero_le _, Nat.zero_le _⟩ ?_
    refine lv_istore (lv' := [(4, .int r_3), (3, .ref (a0 3)), (0, .ref (a0 0)), (1, .int x1), (2, .int x2)]) hx hb dX7_of_23 hl (by decide) rfl (fun ls hl => ?_)
    refine lv_iload_n hx hb dX7_of_25 rfl (lv_at hl 4 rfl) ?_
    rcases (Decidable.em (x2 = 0)) with c_26_k_4 | c_26_k_4
    · have hv := qT c_26_k_4 hv
      refine lv_tableIn (tgt := 56) hx hb dX7_of_26 (by rw [c_26_k_4]; decide) (by rw [c_26_k_4]; decide) (by rw [c_26_k_4]; rfl) (by decide) ?_
      refine lv_iload hx hb dX7_of_56 (lv_at hl 0 rfl) ?_
      refine lv_bipush (v := 6) hx hb dX7_of_58 (by decide) ?_
      obtain ⟨r_5, hr_5, hv⟩ := qB hv
      refine q_S (As := [.int r_3, .int (6:Int32)]) (rest := []) hx hb hml hown hts hl.1 (kX1_leastX l D E  hr_5) zNo_mv (va_cwS 2 hts gX7_of_X1_leastX rfl rfl rfl (by decide +kernel) ⟨Nat.le_of_ble_eq_true rfl, Nat.le_of_ble_eq_true rfl⟩) (hP.sub (ws' := []) [] rfl) hK hZ rfl rfl (Nat.le_of_ble_eq_true rfl) dX7_of_60 ⟨Nat.zero_le _, Nat.zero_le _⟩ ?_
      exact q_ret C dX7_of_63 hv
    have hv := qF c_26_k_4 hv
    rcases (Decidable.em (x2 = 1)) with c_26_k_6 | c_26_k_6
    · have hv := qT c_26_k_6 hv
      refine lv_tableIn (tgt := 64) hx hb dX7_of_26 (by rw [c_26_k_6]; decide) (by rw [c_26_k_6]; decide) (by rw [c_26_k_6]; rfl) (by decide) ?_
      refine lv_iload hx hb dX7_of_64 (lv_at hl 0 rfl) ?_
      refine lv_bipush (v := 6) hx hb dX7_of_66 (by decide) ?_
      obtain ⟨r_7, hr_7, hv⟩ := qB hv
      refine q_S (As := [.int r_3, .int (6:Int32)]) (rest := []) hx hb hml hown hts hl.1 (kX1_leastY l D E  hr_7) zNo_mv (va_cwS 2 hts gX7_of_X1_leastY rfl rfl rfl (by decide +kernel) ⟨Nat.le_of_ble_eq_true rfl, Nat.le_of_ble_eq_true rfl⟩) (hP.sub (ws' := []) [] rfl) hK hZ rfl rfl (Nat.le_of_ble_eq_true rfl) dX7_of_68 ⟨Nat.zero_le _, Nat.zero_le _⟩ ?_
      exact q_ret C dX7_of_71 hv
    have hv := qF c_26_k_6 hv
    rcases (Decidable.em (x2 = 2)) with c_26_k_8 | c_26_k_8
    · have hv := qT c_26_k_8 hv
      refine lv_tableIn (tgt := 72) hx hb dX7_of_26 (by rw [c_26_k_8]; decide) (by rw [c_26_k_8]; decide) (by rw [c_26_k_8]; rfl) (by decide) ?_
      refine lv_aload_n hx hb dX7_of_72 rfl (lv_at hl 2 rfl) ?_
      refine va_get (D := D) (ci := 6) (v := .ref (a0 1)) (C := RX7) (T := TX7) (N := 4) hx hb hts hiX7_of_X7 hown hK hP 0 rfl rfl 0 (by decide) (hts _ lkX7_of_10) (fun _ h9 => h9) rfl dX7_of_73 ?_
      refine lv_iload hx hb dX7_of_76 (lv_at hl 0 rfl) ?_
      obtain ⟨r_9, hr_9, hv⟩ := qB hv
      refine q_V (As := [.int r_3]) (rest := []) (C := RX5) (T0 := TX5) (N0 := 2) (ci := 4) hx hb hml hown hts hl.1 (kX5_leafWith l D E (a0 1) (a0 2) (a0 3) (a0 4) (a0 5) hr_9) zNo_mv (cwV 1 hts gX7_of_X5_leafWith rfl rfl rfl (by decide +kernel) ⟨Nat.le_of_ble_eq_true rfl, Nat.le_of_ble_eq_true rfl⟩) 0 rfl rfl (hP.sub (ws' := (wTree E (a0 1) (a0 2) (a0 3) (a0 4) (a0 5) (Q0 0))) [1, 2, 3, 4, 5] rfl) hK hZ rfl rfl (Nat.le_of_ble_eq_true rfl) dX7_of_78 ⟨Nat.zero_le _, Nat.zero_le _⟩ ?_
      exact q_ret C dX7_of_81 hv
    have hv := qF c_26_k_8 hv
    rcases (Decidable.em (x2 = 3)) with c_26_k_10 | c_26_k_10
    · have hv := qT c_26_k_10 hv
      refine lv_tableIn (tgt := 82) hx hb dX7_of_26 (by rw [c_26_k_10]; decide) (by rw [c_26_k_10]; decide) (by rw [c_26_k_10]; rfl) (by decide) ?_
      refine lv_aload_n hx hb dX7_of_82 rfl (lv_at hl 1 rfl) ?_
      refine lv_iload hx hb dX7_of_83 (lv_at hl 0 rfl) ?_
      obtain ⟨r_11, hr_11, hv⟩ := qB hv
      refine q_V (As := [.int r_3]) (rest := []) (C := RX3) (T0 := TX3) (N0 := 6) (ci := 2) hx hb hml hown hts hl.1 (kX3_pointsBefore l D E (a0 3) (a0 4) (a0 5) hr_11) zNo_mv (cwV 1 hts gX7_of_X3_pointsBefore rfl rfl rfl (by decide +kernel) ⟨Nat.le_of_ble_eq_true rfl, Nat.le_of_ble_eq_true rfl⟩) 0 rfl rfl (hP.sub (ws' := (wPlan E (a0 3) (a0 4) (a0 5) (Q0 0))) [3, 4, 5] rfl) hK hZ rfl rfl (Nat.le_of_ble_eq_true rfl) dX7_of_85 ⟨Nat.zero_le _, Nat.zero_le _⟩ ?_
      exact q_ret C dX7_of_88 hv
    have hv := qF c_26_k_10 hv
    refine lv_tableOut (tgt := 89) hx hb dX7_of_26 (q_tout (fun k h1 h2 hq => by
        rcases (show k = 0 ∨ k = 1 ∨ k = 2 ∨ k = 3 by omega) with rfl | rfl | rfl | rfl
        · exact c_26_k_4 hq
        · exact c_26_k_6 hq
        · exact c_26_k_8 hq
        · exact c_26_k_10 hq)) (by decide) ?_
    refine lv_bipush (v := -2) hx hb dX7_of_89 (by decide) ?_
    exact q_ret C dX7_of_91 hv
  · have hv := qT c_13_k_2 hv
    refine lv_iconst (v := -1) hx hb dX7_of_16 (by decide) ?_
    exact q_ret C dX7_of_17 hv

theorem lkX7_leafAt_10 : (.fieldLink RX7 10 "QuarterTiles" "tree" "LQuarterTiles$Tree;" : Cond) ∈ wsX7_leafAt := by decide +kernel
theorem hiX7_leafAt_X7 : ∀ w ∈ wsX70, w ∈ wsX7_leafAt := by decide +kernel
set_option maxRecDepth 100000 in
set_option maxHeartbeats 4000000 in
theorem kX7_leafAt (l : Launch) (D : va_G) (E : Nat → ClassId) (a0 : Nat → Nat) {Q0 : Nat → FS} {x1 : Int32} {x2 : Int32} {v : Int32} (hv : fX7_leafAt Q0 x1 x2 = some v) : PU l yX7_leafAt wsX7_leafAt (rmN 5 108) D E zNo ((wQ E a0 Q0)) [.ref (a0 0), .int x1, .int x2] v := by
  refine PU.of (by decide) rfl (Nat.le_of_ble_eq_true rfl) ?_
  intro p e s m below meth c C hP hK hZ ls hl
  have hl : lv_has ls 3 [(0, .ref (a0 0)), (1, .int x1), (2, .int x2)] := hl
  obtain ⟨hx, hb, hr, hml, hown, hlocks, hts⟩ := id C
  unfold fX7_leafAt at hv
  refine lv_iload_n hx hb dX7_leafAt_0 rfl (lv_at hl 1 rfl) ?_
  refine lv_iload_n hx hb dX7_leafAt_1 rfl (lv_at hl 2 rfl) ?_
  obtain ⟨r_1, hr_1, hv⟩ := qB hv
  refine q_S (As := [.int x1, .int x2]) (rest := []) hx hb hml hown hts hl.1 (kX1_isPlace l D E  hr_1) zNo_mv (va_cwS 2 hts gX7_leafAt_X1_isPlace rfl rfl rfl (by decide +kernel) ⟨Nat.le_of_ble_eq_true rfl, Nat.le_of_ble_eq_true rfl⟩) (hP.sub (ws' := []) [] rfl) hK hZ rfl rfl (Nat.le_of_ble_eq_true rfl) dX7_leafAt_2 ⟨Nat.zero_le _, Nat.zero_le _⟩ ?_
  refine lv_if_ne (tgt := 10) hx hb dX7_leafAt_5 (by decide) (fun c_5_k_2 => ?_) (fun c_5_k_2 => ?_)
  · have hv := qF c_5_k_2 hv
    refine lv_aload_n hx hb dX7_leafAt_10 rfl (lv_at hl 0 rfl) ?_
    refine va_get (D := D) (ci := 6) (v := .ref (a0 1)) (C := RX7) (T := TX7) (N := 4) hx hb hts hiX7_leafAt_X7 hown hK hP 0 rfl rfl 0 (by decide) (hts _ lkX7_leafAt_10) (fun _ h9 => h9) rfl dX7_leafAt_11 ?_
    refine lv_iload_n hx hb dX7_leafAt_14 rfl (lv_at hl 1 rfl) ?_
    refine lv_iload_n hx hb dX7_leafAt_15 rfl (lv_at hl 2 rfl) ?_
    obtain ⟨r_3, hr_3, hv⟩ := qB hv
    refine q_S (As := [.int x1, .int x2]) (rest := [.ref (a0 1)]) hx hb hml hown hts hl.1 (kX1_placeAt l D E  hr_3) zNo_mv (va_cwS 2 hts gX7_leafAt_X1_placeAt rfl rfl rfl (by decide +kernel) ⟨Nat.le_of_ble_eq_true rfl, Nat.le_of_ble_eq_true rfl⟩) (hP.sub (ws' := []) [] rfl) hK hZ rfl rfl (Nat.le_of_ble_eq_true rfl) dX7_leafAt_16 ⟨Nat.zero_le _, Nat.zero_le _⟩ ?_
    obtain ⟨r_4, hr_4, hv⟩ := qB hv
    refine q_V (As := [.int r_3]) (rest := []) (C := RX5) (T0 := TX5) (N0 := 2) (ci := 4) hx hb hml hown hts hl.1 (kX5_leafWith l D E (a0 1) (a0 2) (a0 3) (a0 4) (a0 5) hr_4) zNo_mv (cwV 1 hts gX7_leafAt_X5_leafWith rfl rfl rfl (by decide +kernel) ⟨Nat.le_of_ble_eq_true rfl, Nat.le_of_ble_eq_true rfl⟩) 0 rfl rfl (hP.sub (ws' := (wTree E (a0 1) (a0 2) (a0 3) (a0 4) (a0 5) (Q0 0))) [1, 2, 3, 4, 5] rfl) hK hZ rfl rfl (Nat.le_of_ble_eq_true rfl) dX7_leafAt_19 ⟨Nat.zero_le _, Nat.zero_le _⟩ ?_
    exact q_ret C dX7_leafAt_22 hv
  · have hv := qT c_5_k_2 hv
    refine lv_iconst (v := -1) hx hb dX7_leafAt_8 (by decide) ?_
    exact q_ret C dX7_leafAt_9 hv

theorem lkX7_tile_10 : (.fieldLink RX7 10 "QuarterTiles" "tree" "LQuarterTiles$Tree;" : Cond) ∈ wsX7_tile := by decide +kernel
theorem hiX7_tile_X7 : ∀ w ∈ wsX70, w ∈ wsX7_tile := by decide +kernel
theorem lkX7_tile_37 : (.fieldLink RX7 37 "QuarterTiles$Tree" "plan" "LQuarterTiles$Plan;" : Cond) ∈ wsX7_tile := by decide +kernel
theorem hiX7_tile_X5 : ∀ w ∈ wsX50, w ∈ wsX7_tile := by decide +kernel
theorem lkX7_tile_iniX5 : (.initialized RX5 : Cond) ∈ wsX7_tile := by decide +kernel
theorem lkX7_tile_stX5_leavesIn : (.static yX5_leavesIn : Cond) ∈ wsX7_tile := by decide +kernel
set_option maxRecDepth 100000 in
set_option maxHeartbeats 4000000 in
theorem kX7_tile (l : Launch) (D : va_G) (E : Nat → ClassId) (t : Nat → Nat) (a0 : Nat → Nat) {Q0 : Nat → FS} {x1 : Int32} {x2 : Int32} {v : Int32} (hv : fX7_tile Q0 x1 x2 = some v) : PU l yX7_tile wsX7_tile (rmN 12 281) D E (zSt t) ((wQ E a0 Q0)) [.ref (a0 0), .int x1, .int x2] v := by
  refine PU.of (by decide) rfl (Nat.le_of_ble_eq_true rfl) ?_
  intro p e s m below meth c C hP hK hZ ls hl
  have hl : lv_has ls 4 [(0, .ref (a0 0)), (1, .int x1), (2, .int x2)] := hl
  obtain ⟨hx, hb, hr, hml, hown, hlocks, hts⟩ := id C
  unfold fX7_tile at hv
  refine lv_iload_n hx hb dX7_tile_0 rfl (lv_at hl 1 rfl) ?_
  obtain ⟨r_1, hr_1, hv⟩ := qB hv
  refine q_S (As := [.int x1]) (rest := []) hx hb hml hown hts hl.1 (kX1_depthOf l D E  hr_1) zNo_mv (va_cwS 1 hts gX7_tile_X1_depthOf rfl rfl rfl (by decide +kernel) ⟨Nat.le_of_ble_eq_true rfl, Nat.le_of_ble_eq_true rfl⟩) (hP.sub (ws' := []) [] rfl) hK trivial rfl rfl (Nat.le_of_ble_eq_true rfl) dX7_tile_1 ⟨Nat.zero_le _, Nat.zero_le _⟩ ?_
  refine lv_istore_n (lv' := [(3, .int r_1), (0, .ref (a0 0)), (1, .int x1), (2, .int x2)]) hx hb dX7_tile_4 rfl hl (by decide) rfl (fun ls hl => ?_)
  refine lv_iload_n hx hb dX7_tile_5 rfl (lv_at hl 0 rfl) ?_
  refine lv_bipush (v := -6) hx hb dX7_tile_6 (by decide) ?_
  refine lv_icmp_ne (tgt := 13) hx hb dX7_tile_8 (by decide) (fun c_8_k_2 => ?_) (fun c_8_k_2 => ?_)
  · have hv := qF c_8_k_2 hv
    refine lv_iload_n hx hb dX7_tile_13 rfl (lv_at hl 3 rfl) ?_
    rcases (Decidable.em (x2 = 0)) with c_14_k_3 | c_14_k_3
    · have hv := qT c_14_k_3 hv
      refine lv_tableIn (tgt := 60) hx hb dX7_tile_14 (by rw [c_14_k_3]; decide) (by rw [c_14_k_3]; decide) (by rw [c_14_k_3]; rfl) (by decide) ?_
      refine lv_iload_n hx hb dX7_tile_60 rfl (lv_at hl 2 rfl) ?_
      refine lv_iload_n hx hb dX7_tile_61 rfl (lv_at hl 0 rfl) ?_
      obtain ⟨r_4, hr_4, hv⟩ := qB hv
      refine q_S (As := [.int x1, .int r_1]) (rest := []) hx hb hml hown hts hl.1 (kX1_leastX l D E  hr_4) zNo_mv (va_cwS 2 hts gX7_tile_X1_leastX rfl rfl rfl (by decide +kernel) ⟨Nat.le_of_ble_eq_true rfl, Nat.le_of_ble_eq_true rfl⟩) (hP.sub (ws' := []) [] rfl) hK trivial rfl rfl (Nat.le_of_ble_eq_true rfl) dX7_tile_62 ⟨Nat.zero_le _, Nat.zero_le _⟩ ?_
      exact q_ret C dX7_tile_65 hv
    have hv := qF c_14_k_3 hv
    rcases (Decidable.em (x2 = 1)) with c_14_k_5 | c_14_k_5
    · have hv := qT c_14_k_5 hv
      refine lv_tableIn (tgt := 66) hx hb dX7_tile_14 (by rw [c_14_k_5]; decide) (by rw [c_14_k_5]; decide) (by rw [c_14_k_5]; rfl) (by decide) ?_
      refine lv_iload_n hx hb dX7_tile_66 rfl (lv_at hl 2 rfl) ?_
      refine lv_iload_n hx hb dX7_tile_67 rfl (lv_at hl 0 rfl) ?_
      obtain ⟨r_6, hr_6, hv⟩ := qB hv
      refine q_S (As := [.int x1, .int r_1]) (rest := []) hx hb hml hown hts hl.1 (kX1_leastY l D E  hr_6) zNo_mv (va_cwS 2 hts gX7_tile_X1_leastY rfl rfl rfl (by decide +kernel) ⟨Nat.le_of_ble_eq_true rfl, Nat.le_of_ble_eq_true rfl⟩) (hP.sub (ws' := []) [] rfl) hK trivial rfl rfl (Nat.le_of_ble_eq_true rfl) dX7_tile_68 ⟨Nat.zero_le _, Nat.zero_le _⟩ ?_
      exact q_ret C dX7_tile_71 hv
    have hv := qF c_14_k_5 hv
    rcases (Decidable.em (x2 = 2)) with c_14_k_7 | c_14_k_7
    · have hv := qT c_14_k_7 hv
      refine lv_tableIn (tgt := 72) hx hb dX7_tile_14 (by rw [c_14_k_7]; decide) (by rw [c_14_k_7]; decide) (by rw [c_14_k_7]; rfl) (by decide) ?_
      refine lv_iload_n hx hb dX7_tile_72 rfl (lv_at hl 0 rfl) ?_
      obtain ⟨r_8, hr_8, hv⟩ := qB hv
      refine q_S (As := [.int r_1]) (rest := []) hx hb hml hown hts hl.1 (kX1_sizeAt l D E  hr_8) zNo_mv (va_cwS 1 hts gX7_tile_X1_sizeAt rfl rfl rfl (by decide +kernel) ⟨Nat.le_of_ble_eq_true rfl, Nat.le_of_ble_eq_true rfl⟩) (hP.sub (ws' := []) [] rfl) hK trivial rfl rfl (Nat.le_of_ble_eq_true rfl) dX7_tile_73 ⟨Nat.zero_le _, Nat.zero_le _⟩ ?_
      exact q_ret C dX7_tile_76 hv
    have hv := qF c_14_k_7 hv
    rcases (Decidable.em (x2 = 3)) with c_14_k_9 | c_14_k_9
    · have hv := qT c_14_k_9 hv
      refine lv_tableIn (tgt := 77) hx hb dX7_tile_14 (by rw [c_14_k_9]; decide) (by rw [c_14_k_9]; decide) (by rw [c_14_k_9]; rfl) (by decide) ?_
      refine lv_iload_n hx hb dX7_tile_77 rfl (lv_at hl 0 rfl) ?_
      exact q_ret C dX7_tile_78 hv
    have hv := qF c_14_k_9 hv
    rcases (Decidable.em (x2 = 4)) with c_14_k_10 | c_14_k_10
    · have hv := qT c_14_k_10 hv
      refine lv_tableIn (tgt := 79) hx hb dX7_tile_14 (by rw [c_14_k_10]; decide) (by rw [c_14_k_10]; decide) (by rw [c_14_k_10]; rfl) (by decide) ?_
      refine lv_aload_n hx hb dX7_tile_79 rfl (lv_at hl 1 rfl) ?_
      refine va_get (D := D) (ci := 6) (v := .ref (a0 1)) (C := RX7) (T := TX7) (N := 4) hx hb hts hiX7_tile_X7 hown hK hP 0 rfl rfl 0 (by decide) (hts _ lkX7_tile_10) (fun _ h9 => h9) rfl dX7_tile_80 ?_
      refine lv_iload_n hx hb dX7_tile_83 rfl (lv_at hl 2 rfl) ?_
      obtain ⟨r_11, hr_11, hv⟩ := qB hv
      refine q_V (As := [.int x1]) (rest := []) (C := RX5) (T0 := TX5) (N0 := 2) (ci := 4) hx hb hml hown hts hl.1 (kX5_pointsIn l D E (a0 1) (a0 2) (a0 3) (a0 4) (a0 5) hr_11) zNo_mv (cwV 1 hts gX7_tile_X5_pointsIn rfl rfl rfl (by decide +kernel) ⟨Nat.le_of_ble_eq_true rfl, Nat.le_of_ble_eq_true rfl⟩) 0 rfl rfl (hP.sub (ws' := (wTree E (a0 1) (a0 2) (a0 3) (a0 4) (a0 5) (Q0 0))) [1, 2, 3, 4, 5] rfl) hK trivial rfl rfl (Nat.le_of_ble_eq_true rfl) dX7_tile_84 ⟨Nat.zero_le _, Nat.zero_le _⟩ ?_
      exact q_ret C dX7_tile_87 hv
    have hv := qF c_14_k_10 hv
    rcases (Decidable.em (x2 = 5)) with c_14_k_12 | c_14_k_12
    · have hv := qT c_14_k_12 hv
      refine lv_tableIn (tgt := 88) hx hb dX7_tile_14 (by rw [c_14_k_12]; decide) (by rw [c_14_k_12]; decide) (by rw [c_14_k_12]; rfl) (by decide) ?_
      refine lv_aload_n hx hb dX7_tile_88 rfl (lv_at hl 1 rfl) ?_
      refine va_get (D := D) (ci := 6) (v := .ref (a0 1)) (C := RX7) (T := TX7) (N := 4) hx hb hts hiX7_tile_X7 hown hK hP 0 rfl rfl 0 (by decide) (hts _ lkX7_tile_10) (fun _ h9 => h9) rfl dX7_tile_89 ?_
      refine lv_iload_n hx hb dX7_tile_92 rfl (lv_at hl 2 rfl) ?_
      refine lv_iload_n hx hb dX7_tile_93 rfl (lv_at hl 0 rfl) ?_
      obtain ⟨r_13, hr_13, hv⟩ := qB hv
      refine q_V (As := [.int x1, .int r_1]) (rest := []) (C := RX5) (T0 := TX5) (N0 := 2) (ci := 4) hx hb hml hown hts hl.1 (kX5_kindOf l D E (a0 1) (a0 2) (a0 3) (a0 4) (a0 5) hr_13) zNo_mv (cwV 2 hts gX7_tile_X5_kindOf rfl rfl rfl (by decide +kernel) ⟨Nat.le_of_ble_eq_true rfl, Nat.le_of_ble_eq_true rfl⟩) 0 rfl rfl (hP.sub (ws' := (wTree E (a0 1) (a0 2) (a0 3) (a0 4) (a0 5) (Q0 0))) [1, 2, 3, 4, 5] rfl) hK trivial rfl rfl (Nat.le_of_ble_eq_true rfl) dX7_tile_94 ⟨Nat.zero_le _, Nat.zero_le _⟩ ?_
      exact q_ret C dX7_tile_97 hv
    have hv := qF c_14_k_12 hv
    rcases (Decidable.em (x2 = 6)) with c_14_k_14 | c_14_k_14
    · have hv := qT c_14_k_14 hv
      refine lv_tableIn (tgt := 98) hx hb dX7_tile_14 (by rw [c_14_k_14]; decide) (by rw [c_14_k_14]; decide) (by rw [c_14_k_14]; rfl) (by decide) ?_
      refine lv_aload_n hx hb dX7_tile_98 rfl (lv_at hl 1 rfl) ?_
      refine va_get (D := D) (ci := 6) (v := .ref (a0 1)) (C := RX7) (T := TX7) (N := 4) hx hb hts hiX7_tile_X7 hown hK hP 0 rfl rfl 0 (by decide) (hts _ lkX7_tile_10) (fun _ h9 => h9) rfl dX7_tile_99 ?_
      refine va_get (D := D) (ci := 4) (v := .ref (a0 3)) (C := RX5) (T := TX5) (N := 2) hx hb hts hiX7_tile_X5 hown hK hP 1 rfl rfl 0 (by decide) (hts _ lkX7_tile_37) (fun _ h9 => h9) rfl dX7_tile_102 ?_
      refine lv_iload_n hx hb dX7_tile_105 rfl (lv_at hl 2 rfl) ?_
      obtain ⟨r_15, hr_15, hv⟩ := qB hv
      refine q_V (As := [.int x1]) (rest := []) (C := RX3) (T0 := TX3) (N0 := 6) (ci := 2) hx hb hml hown hts hl.1 (kX3_isOrdered l D E (a0 3) (a0 4) (a0 5) hr_15) zNo_mv (cwV 1 hts gX7_tile_X3_isOrdered rfl rfl rfl (by decide +kernel) ⟨Nat.le_of_ble_eq_true rfl, Nat.le_of_ble_eq_true rfl⟩) 0 rfl rfl (hP.sub (ws' := (wPlan E (a0 3) (a0 4) (a0 5) (Q0 0))) [3, 4, 5] rfl) hK trivial rfl rfl (Nat.le_of_ble_eq_true rfl) dX7_tile_106 ⟨Nat.zero_le _, Nat.zero_le _⟩ ?_
      refine lv_if_eq (tgt := 116) hx hb dX7_tile_109 (by decide) (fun c_109_k_16 => ?_) (fun c_109_k_16 => ?_)
      · have hv := qT c_109_k_16 hv
        refine lv_iconst (v := 0) hx hb dX7_tile_116 (by decide) ?_
        exact q_ret C dX7_tile_117 hv
      · have hv := qF c_109_k_16 hv
        refine lv_iconst (v := 1) hx hb dX7_tile_112 (by decide) ?_
        refine lv_goto (tgt := 117) hx hb dX7_tile_113 (by decide) ?_
        exact q_ret C dX7_tile_117 hv
    have hv := qF c_14_k_14 hv
    rcases (Decidable.em (x2 = 7)) with c_14_k_17 | c_14_k_17
    · have hv := qT c_14_k_17 hv
      refine lv_tableIn (tgt := 118) hx hb dX7_tile_14 (by rw [c_14_k_17]; decide) (by rw [c_14_k_17]; decide) (by rw [c_14_k_17]; rfl) (by decide) ?_
      refine lv_aload_n hx hb dX7_tile_118 rfl (lv_at hl 1 rfl) ?_
      refine va_get (D := D) (ci := 6) (v := .ref (a0 1)) (C := RX7) (T := TX7) (N := 4) hx hb hts hiX7_tile_X7 hown hK hP 0 rfl rfl 0 (by decide) (hts _ lkX7_tile_10) (fun _ h9 => h9) rfl dX7_tile_119 ?_
      refine lv_iload_n hx hb dX7_tile_122 rfl (lv_at hl 2 rfl) ?_
      refine lv_iload_n hx hb dX7_tile_123 rfl (lv_at hl 0 rfl) ?_
      obtain ⟨r_18, hr_18, hv⟩ := qB hv
      refine q_V (As := [.int x1, .int r_1]) (rest := []) (C := RX5) (T0 := TX5) (N0 := 2) (ci := 4) hx hb hml hown hts hl.1 (kX5_isThere l D E (a0 1) (a0 2) (a0 3) (a0 4) (a0 5) hr_18) zNo_mv (cwV 2 hts gX7_tile_X5_isThere rfl rfl rfl (by decide +kernel) ⟨Nat.le_of_ble_eq_true rfl, Nat.le_of_ble_eq_true rfl⟩) 0 rfl rfl (hP.sub (ws' := (wTree E (a0 1) (a0 2) (a0 3) (a0 4) (a0 5) (Q0 0))) [1, 2, 3, 4, 5] rfl) hK trivial rfl rfl (Nat.le_of_ble_eq_true rfl) dX7_tile_124 ⟨Nat.zero_le _, Nat.zero_le _⟩ ?_
      refine lv_if_eq (tgt := 142) hx hb dX7_tile_127 (by decide) (fun c_127_k_19 => ?_) (fun c_127_k_19 => ?_)
      · have hv := qT c_127_k_19 hv
        refine lv_iconst (v := 0) hx hb dX7_tile_142 (by decide) ?_
        exact q_ret C dX7_tile_143 hv
      · have hv := qF c_127_k_19 hv
        refine lv_aload_n hx hb dX7_tile_130 rfl (lv_at hl 1 rfl) ?_
        refine va_get (D := D) (ci := 6) (v := .ref (a0 1)) (C := RX7) (T := TX7) (N := 4) hx hb hts hiX7_tile_X7 hown hK hP 0 rfl rfl 0 (by decide) (hts _ lkX7_tile_10) (fun _ h9 => h9) rfl dX7_tile_131 ?_
        refine lv_iload_n hx hb dX7_tile_134 rfl (lv_at hl 2 rfl) ?_
        refine lv_iload_n hx hb dX7_tile_135 rfl (lv_at hl 0 rfl) ?_
        obtain ⟨r_20, hr_20, hv⟩ := qB hv
        refine q_SN (As := [.ref (a0 1), .int x1, .int r_1]) (rest := []) hx hb hml hown hts hl.1 (kX5_leavesIn l D E (a0 1) (a0 2) (a0 3) (a0 4) (a0 5) hr_20) zNo_mv ⟨va_cnB 3 hts gX7_tile_X5_leavesIn_n144 rfl rfl rfl hZ.2.2.2.2.2.2.2.2.1 (hts _ lkX7_tile_iniX5) (by decide +kernel) ⟨Nat.le_of_ble_eq_true rfl, Nat.le_of_ble_eq_true rfl⟩, (hts _ lkX7_tile_stX5_leavesIn), trivial⟩ (hP.sub (ws' := (wTree E (a0 1) (a0 2) (a0 3) (a0 4) (a0 5) (Q0 0))) [1, 2, 3, 4, 5] rfl) hK trivial rfl rfl (Nat.le_of_ble_eq_true rfl) dX7_tile_136 ⟨Nat.zero_le _, Nat.zero_le _⟩ ?_
        refine lv_goto (tgt := 143) hx hb dX7_tile_139 (by decide) ?_
        exact q_ret C dX7_tile_143 hv
    have hv := qF c_14_k_17 hv
    refine lv_tableOut (tgt := 144) hx hb dX7_tile_14 (q_tout (fun k h1 h2 hq => by
        rcases (show k = 0 ∨ k = 1 ∨ k = 2 ∨ k = 3 ∨ k = 4 ∨ k = 5 ∨ k = 6 ∨ k = 7 by omega) with rfl | rfl | rfl | rfl | rfl | rfl | rfl | rfl
        · exact c_14_k_3 hq
        · exact c_14_k_5 hq
        · exact c_14_k_7 hq
        · exact c_14_k_9 hq
        · exact c_14_k_10 hq
        · exact c_14_k_12 hq
        · exact c_14_k_14 hq
        · exact c_14_k_17 hq)) (by decide) ?_
    refine lv_bipush (v := -2) hx hb dX7_tile_144 (by decide) ?_
    exact q_ret C dX7_tile_146 hv
  · have hv := qT c_8_k_2 hv
    refine lv_iconst (v := -1) hx hb dX7_tile_11 (by decide) ?_
    exact q_ret C dX7_tile_12 hv

set_option maxRecDepth 100000 in
set_option maxHeartbeats 4000000 in
theorem kX7_letter (l : Launch) (D : va_G) (E : Nat → ClassId) (a0 : Nat → Nat) {Q0 : Nat → FS} {x1 : Int32} {x2 : Int32} {v : Int32} (hv : fX7_letter Q0 x1 x2 = some v) : PU l yX7_letter wsX7_letter (rmN 1 22) D E zNo ((wQ E a0 Q0)) [.ref (a0 0), .int x1, .int x2] v := by
  refine PU.of (by decide) rfl (Nat.le_of_ble_eq_true rfl) ?_
  intro p e s m below meth c C hP hK hZ ls hl
  have hl : lv_has ls 4 [(0, .ref (a0 0)), (1, .int x1), (2, .int x2)] := hl
  obtain ⟨hx, hb, hr, hml, hown, hlocks, hts⟩ := id C
  unfold fX7_letter at hv
  refine lv_iload_n hx hb dX7_letter_0 rfl (lv_at hl 1 rfl) ?_
  obtain ⟨r_1, hr_1, hv⟩ := qB hv
  refine q_S (As := [.int x1]) (rest := []) hx hb hml hown hts hl.1 (kX1_depthOf l D E  hr_1) zNo_mv (va_cwS 1 hts gX7_letter_X1_depthOf rfl rfl rfl (by decide +kernel) ⟨Nat.le_of_ble_eq_true rfl, Nat.le_of_ble_eq_true rfl⟩) (hP.sub (ws' := []) [] rfl) hK hZ rfl rfl (Nat.le_of_ble_eq_true rfl) dX7_letter_1 ⟨Nat.zero_le _, Nat.zero_le _⟩ ?_
  refine lv_istore_n (lv' := [(3, .int r_1), (0, .ref (a0 0)), (1, .int x1), (2, .int x2)]) hx hb dX7_letter_4 rfl hl (by decide) rfl (fun ls hl => ?_)
  refine lv_iload_n hx hb dX7_letter_5 rfl (lv_at hl 0 rfl) ?_
  refine lv_bipush (v := -6) hx hb dX7_letter_6 (by decide) ?_
  refine lv_icmp_eq (tgt := 20) hx hb dX7_letter_8 (by decide) (fun c_8_k_2 => ?_) (fun c_8_k_2 => ?_)
  · have hv := qT c_8_k_2 hv
    refine lv_iconst (v := -1) hx hb dX7_letter_20 (by decide) ?_
    exact q_ret C dX7_letter_21 hv
  · have hv := qF c_8_k_2 hv
    refine lv_iload_n hx hb dX7_letter_11 rfl (lv_at hl 3 rfl) ?_
    refine lv_if_lt (tgt := 20) hx hb dX7_letter_12 (by decide) (fun c_12_k_3 => ?_) (fun c_12_k_3 => ?_)
    · have hv := qT c_12_k_3 hv
      refine lv_iconst (v := -1) hx hb dX7_letter_20 (by decide) ?_
      exact q_ret C dX7_letter_21 hv
    · have hv := qF c_12_k_3 hv
      refine lv_iload_n hx hb dX7_letter_15 rfl (lv_at hl 3 rfl) ?_
      refine lv_iload_n hx hb dX7_letter_16 rfl (lv_at hl 0 rfl) ?_
      refine lv_icmp_lt (tgt := 22) hx hb dX7_letter_17 (by decide) (fun c_17_k_4 => ?_) (fun c_17_k_4 => ?_)
      · have hv := qT c_17_k_4 hv
        refine lv_iload_n hx hb dX7_letter_22 rfl (lv_at hl 2 rfl) ?_
        refine lv_iload_n hx hb dX7_letter_23 rfl (lv_at hl 0 rfl) ?_
        refine lv_iload_n hx hb dX7_letter_24 rfl (lv_at hl 3 rfl) ?_
        refine lv_iconst (v := 1) hx hb dX7_letter_25 (by decide) ?_
        refine lv_iadd hx hb dX7_letter_26 ?_
        obtain ⟨r_5, hr_5, hv⟩ := qB hv
        refine q_S (As := [.int x1, .int r_1, .int (x2 + (1:Int32))]) (rest := []) hx hb hml hown hts hl.1 (kX1_upTo l D E  hr_5) zNo_mv (va_cwS 3 hts gX7_letter_X1_upTo rfl rfl rfl (by decide +kernel) ⟨Nat.le_of_ble_eq_true rfl, Nat.le_of_ble_eq_true rfl⟩) (hP.sub (ws' := []) [] rfl) hK hZ rfl rfl (Nat.le_of_ble_eq_true rfl) dX7_letter_27 ⟨Nat.zero_le _, Nat.zero_le _⟩ ?_
        refine lv_iconst (v := 4) hx hb dX7_letter_30 (by decide) ?_
        refine lv_irem hx hb dX7_letter_31 (by decide) ?_
        exact q_ret C dX7_letter_32 hv
      · have hv := qF c_17_k_4 hv
        refine lv_iconst (v := -1) hx hb dX7_letter_20 (by decide) ?_
        exact q_ret C dX7_letter_21 hv

theorem lkX7_beside_10 : (.fieldLink RX7 10 "QuarterTiles" "tree" "LQuarterTiles$Tree;" : Cond) ∈ wsX7_beside := by decide +kernel
theorem hiX7_beside_X7 : ∀ w ∈ wsX70, w ∈ wsX7_beside := by decide +kernel
set_option maxRecDepth 100000 in
set_option maxHeartbeats 4000000 in
theorem kX7_beside (l : Launch) (D : va_G) (E : Nat → ClassId) (t : Nat → Nat) (a0 : Nat → Nat) {Q0 : Nat → FS} {x1 : Int32} {x2 : Int32} {x3 : Int32} {v : Int32} (hv : fX7_beside Q0 x1 x2 x3 = some v) : PU l yX7_beside wsX7_beside (rmN 5 110) D E (zSt t) ((wQ E a0 Q0)) [.ref (a0 0), .int x1, .int x2, .int x3] v := by
  refine PU.of (by decide) rfl (Nat.le_of_ble_eq_true rfl) ?_
  intro p e s m below meth c C hP hK hZ ls hl
  have hl : lv_has ls 6 [(0, .ref (a0 0)), (1, .int x1), (2, .int x2), (3, .int x3)] := hl
  obtain ⟨hx, hb, hr, hml, hown, hlocks, hts⟩ := id C
  unfold fX7_beside at hv
  refine lv_iload_n hx hb dX7_beside_0 rfl (lv_at hl 1 rfl) ?_
  obtain ⟨r_1, hr_1, hv⟩ := qB hv
  refine q_S (As := [.int x1]) (rest := []) hx hb hml hown hts hl.1 (kX1_depthOf l D E  hr_1) zNo_mv (va_cwS 1 hts gX7_beside_X1_depthOf rfl rfl rfl (by decide +kernel) ⟨Nat.le_of_ble_eq_true rfl, Nat.le_of_ble_eq_true rfl⟩) (hP.sub (ws' := []) [] rfl) hK trivial rfl rfl (Nat.le_of_ble_eq_true rfl) dX7_beside_1 ⟨Nat.zero_le _, Nat.zero_le _⟩ ?_
  refine lv_istore (lv' := [(4, .int r_1), (0, .ref (a0 0)), (1, .int x1), (2, .int x2), (3, .int x3)]) hx hb dX7_beside_4 hl (by decide) rfl (fun ls hl => ?_)
  refine lv_iload hx hb dX7_beside_6 (lv_at hl 0 rfl) ?_
  refine lv_bipush (v := -6) hx hb dX7_beside_8 (by decide) ?_
  refine lv_icmp_ne (tgt := 15) hx hb dX7_beside_10 (by decide) (fun c_10_k_2 => ?_) (fun c_10_k_2 => ?_)
  · have hv := qF c_10_k_2 hv
    refine lv_iload_n hx hb dX7_beside_15 rfl (lv_at hl 3 rfl) ?_
    refine lv_if_lt (tgt := 34) hx hb dX7_beside_16 (by decide) (fun c_16_k_3 => ?_) (fun c_16_k_3 => ?_)
    · have hv := qT c_16_k_3 hv
      refine lv_bipush (v := -2) hx hb dX7_beside_34 (by decide) ?_
      exact q_ret C dX7_beside_36 hv
    · have hv := qF c_16_k_3 hv
      refine lv_iload_n hx hb dX7_beside_19 rfl (lv_at hl 3 rfl) ?_
      refine lv_bipush (v := 8) hx hb dX7_beside_20 (by decide) ?_
      refine lv_icmp_ge (tgt := 34) hx hb dX7_beside_22 (by decide) (fun c_22_k_4 => ?_) (fun c_22_k_4 => ?_)
      · have hv := qT c_22_k_4 hv
        refine lv_bipush (v := -2) hx hb dX7_beside_34 (by decide) ?_
        exact q_ret C dX7_beside_36 hv
      · have hv := qF c_22_k_4 hv
        refine lv_iload_n hx hb dX7_beside_25 rfl (lv_at hl 4 rfl) ?_
        refine lv_if_lt (tgt := 34) hx hb dX7_beside_26 (by decide) (fun c_26_k_5 => ?_) (fun c_26_k_5 => ?_)
        · have hv := qT c_26_k_5 hv
          refine lv_bipush (v := -2) hx hb dX7_beside_34 (by decide) ?_
          exact q_ret C dX7_beside_36 hv
        · have hv := qF c_26_k_5 hv
          refine lv_iload_n hx hb dX7_beside_29 rfl (lv_at hl 4 rfl) ?_
          refine lv_iconst (v := 1) hx hb dX7_beside_30 (by decide) ?_
          refine lv_icmp_le (tgt := 37) hx hb dX7_beside_31 (by decide) (fun c_31_k_6 => ?_) (fun c_31_k_6 => ?_)
          · have hv := qT c_31_k_6 hv
            refine lv_iload_n hx hb dX7_beside_37 rfl (lv_at hl 2 rfl) ?_
            refine lv_iload hx hb dX7_beside_38 (lv_at hl 0 rfl) ?_
            refine lv_iload_n hx hb dX7_beside_40 rfl (lv_at hl 3 rfl) ?_
            obtain ⟨r_7, hr_7, hv⟩ := qB hv
            refine q_S (As := [.int x1, .int r_1, .int x2]) (rest := []) hx hb hml hown hts hl.1 (kX1_nextTo l D E t  hr_7) zSt_mv (va_cwS 3 hts gX7_beside_X1_nextTo rfl rfl rfl (by decide +kernel) ⟨Nat.le_of_ble_eq_true rfl, Nat.le_of_ble_eq_true rfl⟩) (hP.sub (ws' := []) [] rfl) hK hZ rfl rfl (Nat.le_of_ble_eq_true rfl) dX7_beside_41 ⟨Nat.zero_le _, Nat.zero_le _⟩ ?_
            refine lv_istore (lv' := [(5, .int r_7), (4, .int r_1), (0, .ref (a0 0)), (1, .int x1), (2, .int x2), (3, .int x3)]) hx hb dX7_beside_44 hl (by decide) rfl (fun ls hl => ?_)
            refine lv_iload hx hb dX7_beside_46 (lv_at hl 0 rfl) ?_
            refine lv_bipush (v := -6) hx hb dX7_beside_48 (by decide) ?_
            refine lv_icmp_eq (tgt := 57) hx hb dX7_beside_50 (by decide) (fun c_50_k_8 => ?_) (fun c_50_k_8 => ?_)
            · have hv := qT c_50_k_8 hv
              refine lv_iload hx hb dX7_beside_57 (lv_at hl 0 rfl) ?_
              exact q_ret C dX7_beside_59 hv
            · have hv := qF c_50_k_8 hv
              refine lv_iload_n hx hb dX7_beside_53 rfl (lv_at hl 5 rfl) ?_
              refine lv_if_ne (tgt := 60) hx hb dX7_beside_54 (by decide) (fun c_54_k_9 => ?_) (fun c_54_k_9 => ?_)
              · have hv := qF c_54_k_9 hv
                refine lv_aload_n hx hb dX7_beside_60 rfl (lv_at hl 2 rfl) ?_
                refine va_get (D := D) (ci := 6) (v := .ref (a0 1)) (C := RX7) (T := TX7) (N := 4) hx hb hts hiX7_beside_X7 hown hK hP 0 rfl rfl 0 (by decide) (hts _ lkX7_beside_10) (fun _ h9 => h9) rfl dX7_beside_61 ?_
                refine lv_iload hx hb dX7_beside_64 (lv_at hl 0 rfl) ?_
                refine lv_iload hx hb dX7_beside_66 (lv_at hl 1 rfl) ?_
                obtain ⟨r_10, hr_10, hv⟩ := qB hv
                refine q_V (As := [.int r_7, .int r_1]) (rest := []) (C := RX5) (T0 := TX5) (N0 := 2) (ci := 4) hx hb hml hown hts hl.1 (kX5_smallestAround l D E (a0 1) (a0 2) (a0 3) (a0 4) (a0 5) hr_10) zNo_mv (cwV 2 hts gX7_beside_X5_smallestAround rfl rfl rfl (by decide +kernel) ⟨Nat.le_of_ble_eq_true rfl, Nat.le_of_ble_eq_true rfl⟩) 0 rfl rfl (hP.sub (ws' := (wTree E (a0 1) (a0 2) (a0 3) (a0 4) (a0 5) (Q0 0))) [1, 2, 3, 4, 5] rfl) hK trivial rfl rfl (Nat.le_of_ble_eq_true rfl) dX7_beside_68 ⟨Nat.zero_le _, Nat.zero_le _⟩ ?_
                exact q_ret C dX7_beside_71 hv
              · have hv := qT c_54_k_9 hv
                refine lv_iload hx hb dX7_beside_57 (lv_at hl 0 rfl) ?_
                exact q_ret C dX7_beside_59 hv
          · have hv := qF c_31_k_6 hv
            refine lv_bipush (v := -2) hx hb dX7_beside_34 (by decide) ?_
            exact q_ret C dX7_beside_36 hv
  · have hv := qT c_10_k_2 hv
    refine lv_iconst (v := -1) hx hb dX7_beside_13 (by decide) ?_
    exact q_ret C dX7_beside_14 hv

theorem lkX7_neighbours_10 : (.fieldLink RX7 10 "QuarterTiles" "tree" "LQuarterTiles$Tree;" : Cond) ∈ wsX7_neighbours := by decide +kernel
theorem hiX7_neighbours_X7 : ∀ w ∈ wsX70, w ∈ wsX7_neighbours := by decide +kernel
set_option maxRecDepth 100000 in
set_option maxHeartbeats 4000000 in
theorem kX7_neighbours (l : Launch) (D : va_G) (E : Nat → ClassId) (t : Nat → Nat) (a0 : Nat → Nat) {Q0 : Nat → FS} {x1 : Int32} {v : Int32} (hv : fX7_neighbours Q0 x1 = some v) : PU l yX7_neighbours wsX7_neighbours (rmN 13 306) D E (zSt t) ((wQ E a0 Q0)) [.ref (a0 0), .int x1] v := by
  refine PU.of (by decide) rfl (Nat.le_of_ble_eq_true rfl) ?_
  intro p e s m below meth c C hP hK hZ ls hl
  have hl : lv_has ls 3 [(0, .ref (a0 0)), (1, .int x1)] := hl
  obtain ⟨hx, hb, hr, hml, hown, hlocks, hts⟩ := id C
  unfold fX7_neighbours at hv
  refine lv_iload_n hx hb dX7_neighbours_0 rfl (lv_at hl 1 rfl) ?_
  obtain ⟨r_1, hr_1, hv⟩ := qB hv
  refine q_S (As := [.int x1]) (rest := []) hx hb hml hown hts hl.1 (kX1_depthOf l D E  hr_1) zNo_mv (va_cwS 1 hts gX7_neighbours_X1_depthOf rfl rfl rfl (by decide +kernel) ⟨Nat.le_of_ble_eq_true rfl, Nat.le_of_ble_eq_true rfl⟩) (hP.sub (ws' := []) [] rfl) hK trivial rfl rfl (Nat.le_of_ble_eq_true rfl) dX7_neighbours_1 ⟨Nat.zero_le _, Nat.zero_le _⟩ ?_
  refine lv_istore_n (lv' := [(2, .int r_1), (0, .ref (a0 0)), (1, .int x1)]) hx hb dX7_neighbours_4 rfl hl (by decide) rfl (fun ls hl => ?_)
  refine lv_iload_n hx hb dX7_neighbours_5 rfl (lv_at hl 0 rfl) ?_
  refine lv_bipush (v := -6) hx hb dX7_neighbours_6 (by decide) ?_
  refine lv_icmp_ne (tgt := 13) hx hb dX7_neighbours_8 (by decide) (fun c_8_k_2 => ?_) (fun c_8_k_2 => ?_)
  · have hv := qF c_8_k_2 hv
    refine lv_aload_n hx hb dX7_neighbours_13 rfl (lv_at hl 1 rfl) ?_
    refine va_get (D := D) (ci := 6) (v := .ref (a0 1)) (C := RX7) (T := TX7) (N := 4) hx hb hts hiX7_neighbours_X7 hown hK hP 0 rfl rfl 0 (by decide) (hts _ lkX7_neighbours_10) (fun _ h9 => h9) rfl dX7_neighbours_14 ?_
    refine lv_iload_n hx hb dX7_neighbours_17 rfl (lv_at hl 2 rfl) ?_
    refine lv_iload_n hx hb dX7_neighbours_18 rfl (lv_at hl 0 rfl) ?_
    obtain ⟨r_3, hr_3, hv⟩ := qB hv
    refine q_V (As := [.int x1, .int r_1]) (rest := []) (C := RX5) (T0 := TX5) (N0 := 2) (ci := 4) hx hb hml hown hts hl.1 (kX5_kindOf l D E (a0 1) (a0 2) (a0 3) (a0 4) (a0 5) hr_3) zNo_mv (cwV 2 hts gX7_neighbours_X5_kindOf rfl rfl rfl (by decide +kernel) ⟨Nat.le_of_ble_eq_true rfl, Nat.le_of_ble_eq_true rfl⟩) 0 rfl rfl (hP.sub (ws' := (wTree E (a0 1) (a0 2) (a0 3) (a0 4) (a0 5) (Q0 0))) [1, 2, 3, 4, 5] rfl) hK trivial rfl rfl (Nat.le_of_ble_eq_true rfl) dX7_neighbours_19 ⟨Nat.zero_le _, Nat.zero_le _⟩ ?_
    refine lv_iconst (v := 1) hx hb dX7_neighbours_22 (by decide) ?_
    refine lv_icmp_eq (tgt := 29) hx hb dX7_neighbours_23 (by decide) (fun c_23_k_4 => ?_) (fun c_23_k_4 => ?_)
    · have hv := qT c_23_k_4 hv
      refine lv_aload_n hx hb dX7_neighbours_29 rfl (lv_at hl 1 rfl) ?_
      refine va_get (D := D) (ci := 6) (v := .ref (a0 1)) (C := RX7) (T := TX7) (N := 4) hx hb hts hiX7_neighbours_X7 hown hK hP 0 rfl rfl 0 (by decide) (hts _ lkX7_neighbours_10) (fun _ h9 => h9) rfl dX7_neighbours_30 ?_
      refine lv_iload_n hx hb dX7_neighbours_33 rfl (lv_at hl 2 rfl) ?_
      refine lv_iload_n hx hb dX7_neighbours_34 rfl (lv_at hl 0 rfl) ?_
      obtain ⟨r_5, hr_5, hv⟩ := qB hv
      refine q_V (As := [.int x1, .int r_1]) (rest := []) (C := RX5) (T0 := TX5) (N0 := 2) (ci := 4) hx hb hml hown hts hl.1 (kX5_neighboursOf l D E t (a0 1) (a0 2) (a0 3) (a0 4) (a0 5) hr_5) zSt_mv (cwV 2 hts gX7_neighbours_X5_neighboursOf rfl rfl rfl (by decide +kernel) ⟨Nat.le_of_ble_eq_true rfl, Nat.le_of_ble_eq_true rfl⟩) 0 rfl rfl (hP.sub (ws' := (wTree E (a0 1) (a0 2) (a0 3) (a0 4) (a0 5) (Q0 0))) [1, 2, 3, 4, 5] rfl) hK hZ rfl rfl (Nat.le_of_ble_eq_true rfl) dX7_neighbours_35 ⟨Nat.zero_le _, Nat.zero_le _⟩ ?_
      exact q_ret C dX7_neighbours_38 hv
    · have hv := qF c_23_k_4 hv
      refine lv_bipush (v := -5) hx hb dX7_neighbours_26 (by decide) ?_
      exact q_ret C dX7_neighbours_28 hv
  · have hv := qT c_8_k_2 hv
    refine lv_iconst (v := -1) hx hb dX7_neighbours_11 (by decide) ?_
    exact q_ret C dX7_neighbours_12 hv

theorem lkX7_count_10 : (.fieldLink RX7 10 "QuarterTiles" "tree" "LQuarterTiles$Tree;" : Cond) ∈ wsX7_count := by decide +kernel
theorem hiX7_count_X7 : ∀ w ∈ wsX70, w ∈ wsX7_count := by decide +kernel
theorem lkX7_count_37 : (.fieldLink RX7 37 "QuarterTiles$Tree" "plan" "LQuarterTiles$Plan;" : Cond) ∈ wsX7_count := by decide +kernel
theorem hiX7_count_X5 : ∀ w ∈ wsX50, w ∈ wsX7_count := by decide +kernel
theorem lkX7_count_161 : (.fieldLink RX7 161 "QuarterTiles$Plan" "points" "I" : Cond) ∈ wsX7_count := by decide +kernel
theorem hiX7_count_X3 : ∀ w ∈ wsX30, w ∈ wsX7_count := by decide +kernel
theorem lkX7_count_iniX5 : (.initialized RX5 : Cond) ∈ wsX7_count := by decide +kernel
theorem lkX7_count_stX5_deepestIn : (.static yX5_deepestIn : Cond) ∈ wsX7_count := by decide +kernel
theorem lkX7_count_stX5_emptyLeavesIn : (.static yX5_emptyLeavesIn : Cond) ∈ wsX7_count := by decide +kernel
theorem lkX7_count_96 : (.fieldLink RX7 96 "QuarterTiles$Plan" "orders" "I" : Cond) ∈ wsX7_count := by decide +kernel
theorem lkX7_count_stX5_unevennessIn : (.static yX5_unevennessIn : Cond) ∈ wsX7_count := by decide +kernel
theorem lkX7_count_45 : (.fieldLink RX7 45 "QuarterTiles$Plan" "full" "I" : Cond) ∈ wsX7_count := by decide +kernel
theorem lkX7_count_51 : (.fieldLink RX7 51 "QuarterTiles$Plan" "deep" "I" : Cond) ∈ wsX7_count := by decide +kernel
theorem lkX7_count_33 : (.fieldLink RX7 33 "QuarterTiles" "pad" "LQuarterTiles$Pad;" : Cond) ∈ wsX7_count := by decide +kernel
theorem lkX7_count_176 : (.fieldLink RX7 176 "QuarterTiles$Pad" "length" "I" : Cond) ∈ wsX7_count := by decide +kernel
theorem hiX7_count_X2 : ∀ w ∈ wsX20, w ∈ wsX7_count := by decide +kernel
theorem lkX7_count_19 : (.fieldLink RX7 19 "QuarterTiles" "history" "LQuarterTiles$History;" : Cond) ∈ wsX7_count := by decide +kernel
theorem lkX7_count_179 : (.fieldLink RX7 179 "QuarterTiles$History" "states" "I" : Cond) ∈ wsX7_count := by decide +kernel
theorem hiX7_count_X0 : ∀ w ∈ wsX00, w ∈ wsX7_count := by decide +kernel
set_option maxRecDepth 100000 in
set_option maxHeartbeats 4000000 in
theorem kX7_count (l : Launch) (D : va_G) (E : Nat → ClassId) (t : Nat → Nat) (a0 : Nat → Nat) {Q0 : Nat → FS} {x1 : Int32} {v : Int32} (hv : fX7_count Q0 x1 = some v) : PU l yX7_count wsX7_count (rmN 14 329) D E (zSt t) ((wQ E a0 Q0)) [.ref (a0 0), .int x1] v := by
  refine PU.of (by decide) rfl (Nat.le_of_ble_eq_true rfl) ?_
  intro p e s m below meth c C hP hK hZ ls hl
  have hl : lv_has ls 2 [(0, .ref (a0 0)), (1, .int x1)] := hl
  obtain ⟨hx, hb, hr, hml, hown, hlocks, hts⟩ := id C
  unfold fX7_count at hv
  refine lv_iload_n hx hb dX7_count_0 rfl (lv_at hl 1 rfl) ?_
  rcases (Decidable.em (x1 = 0)) with c_1_k_1 | c_1_k_1
  · have hv := qT c_1_k_1 hv
    refine lv_tableIn (tgt := 60) hx hb dX7_count_1 (by rw [c_1_k_1]; decide) (by rw [c_1_k_1]; decide) (by rw [c_1_k_1]; rfl) (by decide) ?_
    refine lv_aload_n hx hb dX7_count_60 rfl (lv_at hl 0 rfl) ?_
    refine va_get (D := D) (ci := 6) (v := .ref (a0 1)) (C := RX7) (T := TX7) (N := 4) hx hb hts hiX7_count_X7 hown hK hP 0 rfl rfl 0 (by decide) (hts _ lkX7_count_10) (fun _ h9 => h9) rfl dX7_count_61 ?_
    refine va_get (D := D) (ci := 4) (v := .ref (a0 3)) (C := RX5) (T := TX5) (N := 2) hx hb hts hiX7_count_X5 hown hK hP 1 rfl rfl 0 (by decide) (hts _ lkX7_count_37) (fun _ h9 => h9) rfl dX7_count_64 ?_
    refine va_get (D := D) (ci := 2) (v := .int ((Q0 0) 2 0)) (C := RX3) (T := TX3) (N := 6) hx hb hts hiX7_count_X3 hown hK hP 3 rfl rfl 2 (by decide) (hts _ lkX7_count_161) (fun _ h9 => h9) rfl dX7_count_67 ?_
    exact q_ret C dX7_count_70 hv
  have hv := qF c_1_k_1 hv
  rcases (Decidable.em (x1 = 1)) with c_1_k_2 | c_1_k_2
  · have hv := qT c_1_k_2 hv
    refine lv_tableIn (tgt := 71) hx hb dX7_count_1 (by rw [c_1_k_2]; decide) (by rw [c_1_k_2]; decide) (by rw [c_1_k_2]; rfl) (by decide) ?_
    refine lv_aload_n hx hb dX7_count_71 rfl (lv_at hl 0 rfl) ?_
    refine va_get (D := D) (ci := 6) (v := .ref (a0 1)) (C := RX7) (T := TX7) (N := 4) hx hb hts hiX7_count_X7 hown hK hP 0 rfl rfl 0 (by decide) (hts _ lkX7_count_10) (fun _ h9 => h9) rfl dX7_count_72 ?_
    obtain ⟨r_3, hr_3, hv⟩ := qB hv
    refine q_V (As := []) (rest := []) (C := RX5) (T0 := TX5) (N0 := 2) (ci := 4) hx hb hml hown hts hl.1 (kX5_leaves l D E (a0 1) (a0 2) (a0 3) (a0 4) (a0 5) hr_3) zNo_mv (cwV 0 hts gX7_count_X5_leaves rfl rfl rfl (by decide +kernel) ⟨Nat.le_of_ble_eq_true rfl, Nat.le_of_ble_eq_true rfl⟩) 0 rfl rfl (hP.sub (ws' := (wTree E (a0 1) (a0 2) (a0 3) (a0 4) (a0 5) (Q0 0))) [1, 2, 3, 4, 5] rfl) hK trivial rfl rfl (Nat.le_of_ble_eq_true rfl) dX7_count_75 ⟨Nat.zero_le _, Nat.zero_le _⟩ ?_
    exact q_ret C dX7_count_78 hv
  have hv := qF c_1_k_2 hv
  rcases (Decidable.em (x1 = 2)) with c_1_k_4 | c_1_k_4
  · have hv := qT c_1_k_4 hv
    refine lv_tableIn (tgt := 79) hx hb dX7_count_1 (by rw [c_1_k_4]; decide) (by rw [c_1_k_4]; decide) (by rw [c_1_k_4]; rfl) (by decide) ?_
    refine lv_aload_n hx hb dX7_count_79 rfl (lv_at hl 0 rfl) ?_
    refine va_get (D := D) (ci := 6) (v := .ref (a0 1)) (C := RX7) (T := TX7) (N := 4) hx hb hts hiX7_count_X7 hown hK hP 0 rfl rfl 0 (by decide) (hts _ lkX7_count_10) (fun _ h9 => h9) rfl dX7_count_80 ?_
    obtain ⟨r_5, hr_5, hv⟩ := qB hv
    refine q_V (As := []) (rest := []) (C := RX5) (T0 := TX5) (N0 := 2) (ci := 4) hx hb hml hown hts hl.1 (kX5_tiles l D E (a0 1) (a0 2) (a0 3) (a0 4) (a0 5) hr_5) zNo_mv (cwV 0 hts gX7_count_X5_tiles rfl rfl rfl (by decide +kernel) ⟨Nat.le_of_ble_eq_true rfl, Nat.le_of_ble_eq_true rfl⟩) 0 rfl rfl (hP.sub (ws' := (wTree E (a0 1) (a0 2) (a0 3) (a0 4) (a0 5) (Q0 0))) [1, 2, 3, 4, 5] rfl) hK trivial rfl rfl (Nat.le_of_ble_eq_true rfl) dX7_count_83 ⟨Nat.zero_le _, Nat.zero_le _⟩ ?_
    exact q_ret C dX7_count_86 hv
  have hv := qF c_1_k_4 hv
  rcases (Decidable.em (x1 = 3)) with c_1_k_6 | c_1_k_6
  · have hv := qT c_1_k_6 hv
    refine lv_tableIn (tgt := 87) hx hb dX7_count_1 (by rw [c_1_k_6]; decide) (by rw [c_1_k_6]; decide) (by rw [c_1_k_6]; rfl) (by decide) ?_
    refine lv_aload_n hx hb dX7_count_87 rfl (lv_at hl 0 rfl) ?_
    refine va_get (D := D) (ci := 6) (v := .ref (a0 1)) (C := RX7) (T := TX7) (N := 4) hx hb hts hiX7_count_X7 hown hK hP 0 rfl rfl 0 (by decide) (hts _ lkX7_count_10) (fun _ h9 => h9) rfl dX7_count_88 ?_
    refine lv_iconst (v := 1) hx hb dX7_count_91 (by decide) ?_
    refine lv_iconst (v := 0) hx hb dX7_count_92 (by decide) ?_
    obtain ⟨r_7, hr_7, hv⟩ := qB hv
    refine q_SN (As := [.ref (a0 1), .int (1:Int32), .int (0:Int32)]) (rest := []) hx hb hml hown hts hl.1 (kX5_deepestIn l D E (a0 1) (a0 2) (a0 3) (a0 4) (a0 5) hr_7) zNo_mv ⟨va_cnB 3 hts gX7_count_X5_deepestIn_n167 rfl rfl rfl hZ.2.2.2.2.2.2.2.2.2.1 (hts _ lkX7_count_iniX5) (by decide +kernel) ⟨Nat.le_of_ble_eq_true rfl, Nat.le_of_ble_eq_true rfl⟩, (hts _ lkX7_count_stX5_deepestIn), trivial⟩ (hP.sub (ws' := (wTree E (a0 1) (a0 2) (a0 3) (a0 4) (a0 5) (Q0 0))) [1, 2, 3, 4, 5] rfl) hK trivial rfl rfl (Nat.le_of_ble_eq_true rfl) dX7_count_93 ⟨Nat.zero_le _, Nat.zero_le _⟩ ?_
    exact q_ret C dX7_count_96 hv
  have hv := qF c_1_k_6 hv
  rcases (Decidable.em (x1 = 4)) with c_1_k_8 | c_1_k_8
  · have hv := qT c_1_k_8 hv
    refine lv_tableIn (tgt := 97) hx hb dX7_count_1 (by rw [c_1_k_8]; decide) (by rw [c_1_k_8]; decide) (by rw [c_1_k_8]; rfl) (by decide) ?_
    refine lv_aload_n hx hb dX7_count_97 rfl (lv_at hl 0 rfl) ?_
    refine va_get (D := D) (ci := 6) (v := .ref (a0 1)) (C := RX7) (T := TX7) (N := 4) hx hb hts hiX7_count_X7 hown hK hP 0 rfl rfl 0 (by decide) (hts _ lkX7_count_10) (fun _ h9 => h9) rfl dX7_count_98 ?_
    refine lv_iconst (v := 1) hx hb dX7_count_101 (by decide) ?_
    refine lv_iconst (v := 0) hx hb dX7_count_102 (by decide) ?_
    obtain ⟨r_9, hr_9, hv⟩ := qB hv
    refine q_SN (As := [.ref (a0 1), .int (1:Int32), .int (0:Int32)]) (rest := []) hx hb hml hown hts hl.1 (kX5_emptyLeavesIn l D E (a0 1) (a0 2) (a0 3) (a0 4) (a0 5) hr_9) zNo_mv ⟨va_cnB 3 hts gX7_count_X5_emptyLeavesIn_n170 rfl rfl rfl hZ.2.2.2.2.2.2.2.2.2.2.1 (hts _ lkX7_count_iniX5) (by decide +kernel) ⟨Nat.le_of_ble_eq_true rfl, Nat.le_of_ble_eq_true rfl⟩, (hts _ lkX7_count_stX5_emptyLeavesIn), trivial⟩ (hP.sub (ws' := (wTree E (a0 1) (a0 2) (a0 3) (a0 4) (a0 5) (Q0 0))) [1, 2, 3, 4, 5] rfl) hK trivial rfl rfl (Nat.le_of_ble_eq_true rfl) dX7_count_103 ⟨Nat.zero_le _, Nat.zero_le _⟩ ?_
    exact q_ret C dX7_count_106 hv
  have hv := qF c_1_k_8 hv
  rcases (Decidable.em (x1 = 5)) with c_1_k_10 | c_1_k_10
  · have hv := qT c_1_k_10 hv
    refine lv_tableIn (tgt := 107) hx hb dX7_count_1 (by rw [c_1_k_10]; decide) (by rw [c_1_k_10]; decide) (by rw [c_1_k_10]; rfl) (by decide) ?_
    refine lv_aload_n hx hb dX7_count_107 rfl (lv_at hl 0 rfl) ?_
    refine va_get (D := D) (ci := 6) (v := .ref (a0 1)) (C := RX7) (T := TX7) (N := 4) hx hb hts hiX7_count_X7 hown hK hP 0 rfl rfl 0 (by decide) (hts _ lkX7_count_10) (fun _ h9 => h9) rfl dX7_count_108 ?_
    refine va_get (D := D) (ci := 4) (v := .ref (a0 3)) (C := RX5) (T := TX5) (N := 2) hx hb hts hiX7_count_X5 hown hK hP 1 rfl rfl 0 (by decide) (hts _ lkX7_count_37) (fun _ h9 => h9) rfl dX7_count_111 ?_
    refine va_get (D := D) (ci := 2) (v := .int ((Q0 0) 2 1)) (C := RX3) (T := TX3) (N := 6) hx hb hts hiX7_count_X3 hown hK hP 3 rfl rfl 3 (by decide) (hts _ lkX7_count_96) (fun _ h9 => h9) rfl dX7_count_114 ?_
    exact q_ret C dX7_count_117 hv
  have hv := qF c_1_k_10 hv
  rcases (Decidable.em (x1 = 6)) with c_1_k_11 | c_1_k_11
  · have hv := qT c_1_k_11 hv
    refine lv_tableIn (tgt := 118) hx hb dX7_count_1 (by rw [c_1_k_11]; decide) (by rw [c_1_k_11]; decide) (by rw [c_1_k_11]; rfl) (by decide) ?_
    refine lv_aload_n hx hb dX7_count_118 rfl (lv_at hl 0 rfl) ?_
    refine va_get (D := D) (ci := 6) (v := .ref (a0 1)) (C := RX7) (T := TX7) (N := 4) hx hb hts hiX7_count_X7 hown hK hP 0 rfl rfl 0 (by decide) (hts _ lkX7_count_10) (fun _ h9 => h9) rfl dX7_count_119 ?_
    refine lv_iconst (v := 1) hx hb dX7_count_122 (by decide) ?_
    refine lv_iconst (v := 0) hx hb dX7_count_123 (by decide) ?_
    obtain ⟨r_12, hr_12, hv⟩ := qB hv
    refine q_SN (As := [.ref (a0 1), .int (1:Int32), .int (0:Int32)]) (rest := []) hx hb hml hown hts hl.1 (kX5_unevennessIn l D E t (a0 1) (a0 2) (a0 3) (a0 4) (a0 5) hr_12) zSt_mv ⟨va_cnB 3 hts gX7_count_X5_unevennessIn_n173 rfl rfl rfl hZ.2.2.2.2.2.2.2.2.2.2.2.1 (hts _ lkX7_count_iniX5) (by decide +kernel) ⟨Nat.le_of_ble_eq_true rfl, Nat.le_of_ble_eq_true rfl⟩, (hts _ lkX7_count_stX5_unevennessIn), trivial⟩ (hP.sub (ws' := (wTree E (a0 1) (a0 2) (a0 3) (a0 4) (a0 5) (Q0 0))) [1, 2, 3, 4, 5] rfl) hK hZ rfl rfl (Nat.le_of_ble_eq_true rfl) dX7_count_124 ⟨Nat.zero_le _, Nat.zero_le _⟩ ?_
    exact q_ret C dX7_count_127 hv
  have hv := qF c_1_k_11 hv
  rcases (Decidable.em (x1 = 7)) with c_1_k_13 | c_1_k_13
  · have hv := qT c_1_k_13 hv
    refine lv_tableIn (tgt := 128) hx hb dX7_count_1 (by rw [c_1_k_13]; decide) (by rw [c_1_k_13]; decide) (by rw [c_1_k_13]; rfl) (by decide) ?_
    refine lv_aload_n hx hb dX7_count_128 rfl (lv_at hl 0 rfl) ?_
    refine va_get (D := D) (ci := 6) (v := .ref (a0 1)) (C := RX7) (T := TX7) (N := 4) hx hb hts hiX7_count_X7 hown hK hP 0 rfl rfl 0 (by decide) (hts _ lkX7_count_10) (fun _ h9 => h9) rfl dX7_count_129 ?_
    refine va_get (D := D) (ci := 4) (v := .ref (a0 3)) (C := RX5) (T := TX5) (N := 2) hx hb hts hiX7_count_X5 hown hK hP 1 rfl rfl 0 (by decide) (hts _ lkX7_count_37) (fun _ h9 => h9) rfl dX7_count_132 ?_
    refine va_get (D := D) (ci := 2) (v := .int ((Q0 0) 2 2)) (C := RX3) (T := TX3) (N := 6) hx hb hts hiX7_count_X3 hown hK hP 3 rfl rfl 4 (by decide) (hts _ lkX7_count_45) (fun _ h9 => h9) rfl dX7_count_135 ?_
    exact q_ret C dX7_count_138 hv
  have hv := qF c_1_k_13 hv
  rcases (Decidable.em (x1 = 8)) with c_1_k_14 | c_1_k_14
  · have hv := qT c_1_k_14 hv
    refine lv_tableIn (tgt := 139) hx hb dX7_count_1 (by rw [c_1_k_14]; decide) (by rw [c_1_k_14]; decide) (by rw [c_1_k_14]; rfl) (by decide) ?_
    refine lv_aload_n hx hb dX7_count_139 rfl (lv_at hl 0 rfl) ?_
    refine va_get (D := D) (ci := 6) (v := .ref (a0 1)) (C := RX7) (T := TX7) (N := 4) hx hb hts hiX7_count_X7 hown hK hP 0 rfl rfl 0 (by decide) (hts _ lkX7_count_10) (fun _ h9 => h9) rfl dX7_count_140 ?_
    refine va_get (D := D) (ci := 4) (v := .ref (a0 3)) (C := RX5) (T := TX5) (N := 2) hx hb hts hiX7_count_X5 hown hK hP 1 rfl rfl 0 (by decide) (hts _ lkX7_count_37) (fun _ h9 => h9) rfl dX7_count_143 ?_
    refine va_get (D := D) (ci := 2) (v := .int ((Q0 0) 2 3)) (C := RX3) (T := TX3) (N := 6) hx hb hts hiX7_count_X3 hown hK hP 3 rfl rfl 5 (by decide) (hts _ lkX7_count_51) (fun _ h9 => h9) rfl dX7_count_146 ?_
    exact q_ret C dX7_count_149 hv
  have hv := qF c_1_k_14 hv
  rcases (Decidable.em (x1 = 9)) with c_1_k_15 | c_1_k_15
  · have hv := qT c_1_k_15 hv
    refine lv_tableIn (tgt := 150) hx hb dX7_count_1 (by rw [c_1_k_15]; decide) (by rw [c_1_k_15]; decide) (by rw [c_1_k_15]; rfl) (by decide) ?_
    refine lv_aload_n hx hb dX7_count_150 rfl (lv_at hl 0 rfl) ?_
    refine va_get (D := D) (ci := 6) (v := .ref (a0 35)) (C := RX7) (T := TX7) (N := 4) hx hb hts hiX7_count_X7 hown hK hP 0 rfl rfl 3 (by decide) (hts _ lkX7_count_33) (fun _ h9 => h9) rfl dX7_count_151 ?_
    refine va_get (D := D) (ci := 1) (v := .int ((Q0 1) 2 0)) (C := RX2) (T := TX2) (N := 3) hx hb hts hiX7_count_X2 hown hK hP 35 rfl rfl 2 (by decide) (hts _ lkX7_count_176) (fun _ h9 => h9) rfl dX7_count_154 ?_
    exact q_ret C dX7_count_157 hv
  have hv := qF c_1_k_15 hv
  rcases (Decidable.em (x1 = 10)) with c_1_k_16 | c_1_k_16
  · have hv := qT c_1_k_16 hv
    refine lv_tableIn (tgt := 158) hx hb dX7_count_1 (by rw [c_1_k_16]; decide) (by rw [c_1_k_16]; decide) (by rw [c_1_k_16]; rfl) (by decide) ?_
    refine lv_aload_n hx hb dX7_count_158 rfl (lv_at hl 0 rfl) ?_
    refine va_get (D := D) (ci := 6) (v := .ref (a0 6)) (C := RX7) (T := TX7) (N := 4) hx hb hts hiX7_count_X7 hown hK hP 0 rfl rfl 1 (by decide) (hts _ lkX7_count_19) (fun _ h9 => h9) rfl dX7_count_159 ?_
    refine va_get (D := D) (ci := 0) (v := .int (Q0 2 0 0)) (C := RX0) (T := TX0) (N := 2) hx hb hts hiX7_count_X0 hown hK hP 6 rfl rfl 1 (by decide) (hts _ lkX7_count_179) (fun _ h9 => h9) rfl dX7_count_162 ?_
    exact q_ret C dX7_count_165 hv
  have hv := qF c_1_k_16 hv
  refine lv_tableOut (tgt := 166) hx hb dX7_count_1 (q_tout (fun k h1 h2 hq => by
      rcases (show k = 0 ∨ k = 1 ∨ k = 2 ∨ k = 3 ∨ k = 4 ∨ k = 5 ∨ k = 6 ∨ k = 7 ∨ k = 8 ∨ k = 9 ∨ k = 10 by omega) with rfl | rfl | rfl | rfl | rfl | rfl | rfl | rfl | rfl | rfl | rfl
      · exact c_1_k_1 hq
      · exact c_1_k_2 hq
      · exact c_1_k_4 hq
      · exact c_1_k_6 hq
      · exact c_1_k_8 hq
      · exact c_1_k_10 hq
      · exact c_1_k_11 hq
      · exact c_1_k_13 hq
      · exact c_1_k_14 hq
      · exact c_1_k_15 hq
      · exact c_1_k_16 hq)) (by decide) ?_
  refine lv_bipush (v := -2) hx hb dX7_count_166 (by decide) ?_
  exact q_ret C dX7_count_168 hv

theorem lkX7_nearest_10 : (.fieldLink RX7 10 "QuarterTiles" "tree" "LQuarterTiles$Tree;" : Cond) ∈ wsX7_nearest := by decide +kernel
theorem hiX7_nearest_X7 : ∀ w ∈ wsX70, w ∈ wsX7_nearest := by decide +kernel
theorem lkX7_nearest_37 : (.fieldLink RX7 37 "QuarterTiles$Tree" "plan" "LQuarterTiles$Plan;" : Cond) ∈ wsX7_nearest := by decide +kernel
theorem hiX7_nearest_X5 : ∀ w ∈ wsX50, w ∈ wsX7_nearest := by decide +kernel
theorem lkX7_nearest_161 : (.fieldLink RX7 161 "QuarterTiles$Plan" "points" "I" : Cond) ∈ wsX7_nearest := by decide +kernel
theorem hiX7_nearest_X3 : ∀ w ∈ wsX30, w ∈ wsX7_nearest := by decide +kernel
set_option maxRecDepth 100000 in
set_option maxHeartbeats 4000000 in
theorem wfX7_nearest_L42 {p : Program} {e : Env} {s : State} {m : MethodId} {below : List Frame} {meth : Method} {c : Code} {l : Launch} {D : va_G} {E : Nat → ClassId} {a0 : Nat → Nat} {Q0 : Nat → FS} {x1 : Int32} {x2 : Int32} {x3 : Int32} {v : Int32} {y1 : Int32} {y2 : Int32} {y3 : Int32} (C : Ctx p s m meth c [.ref (a0 0), .int x1, .int x2, .int x3] wsX7_nearest cX7_nearest 9 (some .int) RX7) (hP : va_P D vwCl ((wQ E a0 Q0)) s.heap) (hK : va_K D vwCl (tyE E) s) (hZ : zNo s s.heap) : ∀ (q : Nat) (y5 : Int32) (y6 : Int32) (y7 : Int32), fX7_nearest_L42 Q0 y1 y2 y3 q y5 y6 y7 = some v → ∀ ls, lv_has ls 9 [(1, .int y1), (2, .int y2), (3, .int y3), (4, .ref (a0 3)), (5, .int y5), (6, .int y6), (7, .int y7)] → WP p l e (rmN 3 67) s m [.ref (a0 0), .int x1, .int x2, .int x3] below meth c v 42 ls [] := by
  obtain ⟨hx, hb, hr, hml, hown, hlocks, hts⟩ := id C
  intro q
  induction q with
  | zero =>
    intro y5 y6 y7 hv
    cases hv
  | succ q ih =>
    intro y5 y6 y7 hv ls hl
    rw [fX7_nearest_L42.eq_2] at hv
    refine lv_iload hx hb dX7_nearest_42 (lv_at hl 6 rfl) ?_
    refine lv_aload hx hb dX7_nearest_44 (lv_at hl 3 rfl) ?_
    refine va_get (D := D) (ci := 2) (v := .int ((Q0 0) 2 0)) (C := RX3) (T := TX3) (N := 6) hx hb hts hiX7_nearest_X3 hown hK hP 3 rfl rfl 2 (by decide) (hts _ lkX7_nearest_161) (fun _ h9 => h9) rfl dX7_nearest_46 ?_
    refine lv_icmp_ge (tgt := 94) hx hb dX7_nearest_49 (by decide) (fun c_49_k_4 => ?_) (fun c_49_k_4 => ?_)
    · have hv := qT c_49_k_4 hv
      refine lv_iload_n hx hb dX7_nearest_94 rfl (lv_at hl 2 rfl) ?_
      refine lv_if_ne (tgt := 103) hx hb dX7_nearest_95 (by decide) (fun c_95_k_5 => ?_) (fun c_95_k_5 => ?_)
      · have hv := qF c_95_k_5 hv
        refine lv_iload hx hb dX7_nearest_103 (lv_at hl 5 rfl) ?_
        exact q_ret C dX7_nearest_105 hv
      · have hv := qT c_95_k_5 hv
        refine lv_iload hx hb dX7_nearest_98 (lv_at hl 4 rfl) ?_
        refine lv_goto (tgt := 105) hx hb dX7_nearest_100 (by decide) ?_
        exact q_ret C dX7_nearest_105 hv
    · have hv := qF c_49_k_4 hv
      refine lv_aload hx hb dX7_nearest_52 (lv_at hl 3 rfl) ?_
      refine lv_iload hx hb dX7_nearest_54 (lv_at hl 6 rfl) ?_
      obtain ⟨r_6, hr_6, hv⟩ := qB hv
      refine q_V (As := [.int y7]) (rest := []) (C := RX3) (T0 := TX3) (N0 := 6) (ci := 2) hx hb hml hown hts hl.1 (kX3_placeOf l D E (a0 3) (a0 4) (a0 5) hr_6) zNo_mv (cwV 1 hts gX7_nearest_X3_placeOf rfl rfl rfl (by decide +kernel) ⟨Nat.le_of_ble_eq_true rfl, Nat.le_of_ble_eq_true rfl⟩) 0 rfl rfl (hP.sub (ws' := (wPlan E (a0 3) (a0 4) (a0 5) (Q0 0))) [3, 4, 5] rfl) hK hZ rfl rfl (Nat.le_of_ble_eq_true rfl) dX7_nearest_56 ⟨Nat.zero_le _, Nat.zero_le _⟩ ?_
      refine lv_iload_n hx hb dX7_nearest_59 rfl (lv_at hl 0 rfl) ?_
      refine lv_iload_n hx hb dX7_nearest_60 rfl (lv_at hl 1 rfl) ?_
      obtain ⟨r_7, hr_7, hv⟩ := qB hv
      refine q_S (As := [.int r_6, .int y1, .int y2]) (rest := []) hx hb hml hown hts hl.1 (kX1_squaresBetween l D E  hr_7) zNo_mv (va_cwS 3 hts gX7_nearest_X1_squaresBetween rfl rfl rfl (by decide +kernel) ⟨Nat.le_of_ble_eq_true rfl, Nat.le_of_ble_eq_true rfl⟩) (hP.sub (ws' := []) [] rfl) hK hZ rfl rfl (Nat.le_of_ble_eq_true rfl) dX7_nearest_61 ⟨Nat.zero_le _, Nat.zero_le _⟩ ?_
      refine lv_istore (lv' := [(8, .int r_7), (1, .int y1), (2, .int y2), (3, .int y3), (4, .ref (a0 3)), (5, .int y5), (6, .int y6), (7, .int y7)]) hx hb dX7_nearest_64 hl (by decide) rfl (fun ls hl => ?_)
      refine lv_iload hx hb dX7_nearest_66 (lv_at hl 5 rfl) ?_
      refine lv_bipush (v := -6) hx hb dX7_nearest_68 (by decide) ?_
      refine lv_icmp_eq (tgt := 80) hx hb dX7_nearest_70 (by decide) (fun c_70_k_8 => ?_) (fun c_70_k_8 => ?_)
      · have hv := qT c_70_k_8 hv
        refine lv_iload hx hb dX7_nearest_80 (lv_at hl 7 rfl) ?_
        refine lv_istore (lv' := [(5, .int y7), (8, .int r_7), (1, .int y1), (2, .int y2), (3, .int y3), (4, .ref (a0 3)), (6, .int y6), (7, .int y7)]) hx hb dX7_nearest_82 hl (by decide) rfl (fun ls hl => ?_)
        refine lv_iload hx hb dX7_nearest_84 (lv_at hl 1 rfl) ?_
        refine lv_istore (lv' := [(6, .int r_7), (5, .int y7), (8, .int r_7), (1, .int y1), (2, .int y2), (3, .int y3), (4, .ref (a0 3)), (7, .int y7)]) hx hb dX7_nearest_86 hl (by decide) rfl (fun ls hl => ?_)
        refine lv_iinc (v := (y7 + 1)) (lv' := [(7, .int (y7 + 1)), (6, .int r_7), (5, .int y7), (8, .int r_7), (1, .int y1), (2, .int y2), (3, .int y3), (4, .ref (a0 3))]) hx hb dX7_nearest_88 hl (k := 7) rfl (by rfl) (by decide) rfl (fun ls hl => ?_)
        refine lv_goto (tgt := 42) hx hb dX7_nearest_91 (by decide) ?_
        exact ih y7 r_7 (y7 + 1) hv _ (lv_sub hl [4, 5, 6, 7, 2, 1, 0] rfl)
      · have hv := qF c_70_k_8 hv
        refine lv_iload hx hb dX7_nearest_73 (lv_at hl 0 rfl) ?_
        refine lv_iload hx hb dX7_nearest_75 (lv_at hl 6 rfl) ?_
        refine lv_icmp_ge (tgt := 88) hx hb dX7_nearest_77 (by decide) (fun c_77_k_9 => ?_) (fun c_77_k_9 => ?_)
        · have hv := qT c_77_k_9 hv
          refine lv_iinc (v := (y7 + 1)) (lv' := [(7, .int (y7 + 1)), (8, .int r_7), (1, .int y1), (2, .int y2), (3, .int y3), (4, .ref (a0 3)), (5, .int y5), (6, .int y6)]) hx hb dX7_nearest_88 hl (k := 7) rfl (by rfl) (by decide) rfl (fun ls hl => ?_)
          refine lv_goto (tgt := 42) hx hb dX7_nearest_91 (by decide) ?_
          exact ih y5 y6 (y7 + 1) hv _ (lv_sub hl [2, 3, 4, 5, 6, 7, 0] rfl)
        · have hv := qF c_77_k_9 hv
          refine lv_iload hx hb dX7_nearest_80 (lv_at hl 7 rfl) ?_
          refine lv_istore (lv' := [(5, .int y7), (8, .int r_7), (1, .int y1), (2, .int y2), (3, .int y3), (4, .ref (a0 3)), (6, .int y6), (7, .int y7)]) hx hb dX7_nearest_82 hl (by decide) rfl (fun ls hl => ?_)
          refine lv_iload hx hb dX7_nearest_84 (lv_at hl 1 rfl) ?_
          refine lv_istore (lv' := [(6, .int r_7), (5, .int y7), (8, .int r_7), (1, .int y1), (2, .int y2), (3, .int y3), (4, .ref (a0 3)), (7, .int y7)]) hx hb dX7_nearest_86 hl (by decide) rfl (fun ls hl => ?_)
          refine lv_iinc (v := (y7 + 1)) (lv' := [(7, .int (y7 + 1)), (6, .int r_7), (5, .int y7), (8, .int r_7), (1, .int y1), (2, .int y2), (3, .int y3), (4, .ref (a0 3))]) hx hb dX7_nearest_88 hl (k := 7) rfl (by rfl) (by decide) rfl (fun ls hl => ?_)
          refine lv_goto (tgt := 42) hx hb dX7_nearest_91 (by decide) ?_
          exact ih y7 r_7 (y7 + 1) hv _ (lv_sub hl [4, 5, 6, 7, 2, 1, 0] rfl)

set_option maxRecDepth 100000 in
set_option maxHeartbeats 4000000 in
theorem wfX7_nearest_L22 {p : Program} {e : Env} {s : State} {m : MethodId} {below : List Frame} {meth : Method} {c : Code} {l : Launch} {D : va_G} {E : Nat → ClassId} {a0 : Nat → Nat} {Q0 : Nat → FS} {x1 : Int32} {x2 : Int32} {x3 : Int32} {v : Int32} (C : Ctx p s m meth c [.ref (a0 0), .int x1, .int x2, .int x3] wsX7_nearest cX7_nearest 9 (some .int) RX7) (hP : va_P D vwCl ((wQ E a0 Q0)) s.heap) (hK : va_K D vwCl (tyE E) s) (hZ : zNo s s.heap) : ∀ (y1 : Int32) (y2 : Int32) (y3 : Int32), fX7_nearest_L22 Q0 y1 y2 y3 = some v → ∀ ls, lv_has ls 9 [(0, .ref (a0 0)), (1, .int y1), (2, .int y2), (3, .int y3)] → WP p l e (rmN 3 67) s m [.ref (a0 0), .int x1, .int x2, .int x3] below meth c v 22 ls [] := by
  obtain ⟨hx, hb, hr, hml, hown, hlocks, hts⟩ := id C
  intro y1 y2 y3 hv ls hl
  unfold fX7_nearest_L22 at hv
  refine lv_aload_n hx hb dX7_nearest_22 rfl (lv_at hl 0 rfl) ?_
  refine va_get (D := D) (ci := 6) (v := .ref (a0 1)) (C := RX7) (T := TX7) (N := 4) hx hb hts hiX7_nearest_X7 hown hK hP 0 rfl rfl 0 (by decide) (hts _ lkX7_nearest_10) (fun _ h9 => h9) rfl dX7_nearest_23 ?_
  refine va_get (D := D) (ci := 4) (v := .ref (a0 3)) (C := RX5) (T := TX5) (N := 2) hx hb hts hiX7_nearest_X5 hown hK hP 1 rfl rfl 0 (by decide) (hts _ lkX7_nearest_37) (fun _ h9 => h9) rfl dX7_nearest_26 ?_
  refine lv_astore (lv' := [(4, .ref (a0 3)), (0, .ref (a0 0)), (1, .int y1), (2, .int y2), (3, .int y3)]) hx hb dX7_nearest_29 hl (by decide) rfl (fun ls hl => ?_)
  refine lv_bipush (v := -6) hx hb dX7_nearest_31 (by decide) ?_
  refine lv_istore (lv' := [(5, .int (-6:Int32)), (4, .ref (a0 3)), (0, .ref (a0 0)), (1, .int y1), (2, .int y2), (3, .int y3)]) hx hb dX7_nearest_33 hl (by decide) rfl (fun ls hl => ?_)
  refine lv_bipush (v := -6) hx hb dX7_nearest_35 (by decide) ?_
  refine lv_istore (lv' := [(6, .int (-6:Int32)), (5, .int (-6:Int32)), (4, .ref (a0 3)), (0, .ref (a0 0)), (1, .int y1), (2, .int y2), (3, .int y3)]) hx hb dX7_nearest_37 hl (by decide) rfl (fun ls hl => ?_)
  refine lv_iconst (v := 0) hx hb dX7_nearest_39 (by decide) ?_
  refine lv_istore (lv' := [(7, .int (0:Int32)), (6, .int (-6:Int32)), (5, .int (-6:Int32)), (4, .ref (a0 3)), (0, .ref (a0 0)), (1, .int y1), (2, .int y2), (3, .int y3)]) hx hb dX7_nearest_40 hl (by decide) rfl (fun ls hl => ?_)
  exact wfX7_nearest_L42 C hP hK hZ  6000 (-6:Int32) (-6:Int32) (0:Int32) hv _ (lv_sub hl [5, 6, 7, 3, 2, 1, 0] rfl)

set_option maxRecDepth 100000 in
set_option maxHeartbeats 4000000 in
theorem kX7_nearest (l : Launch) (D : va_G) (E : Nat → ClassId) (a0 : Nat → Nat) {Q0 : Nat → FS} {x1 : Int32} {x2 : Int32} {x3 : Int32} {v : Int32} (hv : fX7_nearest Q0 x1 x2 x3 = some v) : PU l yX7_nearest wsX7_nearest (rmN 3 67) D E zNo ((wQ E a0 Q0)) [.ref (a0 0), .int x1, .int x2, .int x3] v := by
  refine PU.of (by decide) rfl (Nat.le_of_ble_eq_true rfl) ?_
  intro p e s m below meth c C hP hK hZ ls hl
  have hl : lv_has ls 9 [(0, .ref (a0 0)), (1, .int x1), (2, .int x2), (3, .int x3)] := hl
  obtain ⟨hx, hb, hr, hml, hown, hlocks, hts⟩ := id C
  unfold fX7_nearest at hv
  refine lv_iload_n hx hb dX7_nearest_0 rfl (lv_at hl 1 rfl) ?_
  refine lv_iload_n hx hb dX7_nearest_1 rfl (lv_at hl 2 rfl) ?_
  obtain ⟨r_1, hr_1, hv⟩ := qB hv
  refine q_S (As := [.int x1, .int x2]) (rest := []) hx hb hml hown hts hl.1 (kX1_isPlace l D E  hr_1) zNo_mv (va_cwS 2 hts gX7_nearest_X1_isPlace rfl rfl rfl (by decide +kernel) ⟨Nat.le_of_ble_eq_true rfl, Nat.le_of_ble_eq_true rfl⟩) (hP.sub (ws' := []) [] rfl) hK hZ rfl rfl (Nat.le_of_ble_eq_true rfl) dX7_nearest_2 ⟨Nat.zero_le _, Nat.zero_le _⟩ ?_
  refine lv_if_ne (tgt := 10) hx hb dX7_nearest_5 (by decide) (fun c_5_k_2 => ?_) (fun c_5_k_2 => ?_)
  · have hv := qF c_5_k_2 hv
    refine lv_iload_n hx hb dX7_nearest_10 rfl (lv_at hl 3 rfl) ?_
    refine lv_if_eq (tgt := 22) hx hb dX7_nearest_11 (by decide) (fun c_11_k_3 => ?_) (fun c_11_k_3 => ?_)
    · have hv := qT c_11_k_3 hv
      exact wfX7_nearest_L22 C hP hK hZ  x1 x2 x3 hv _ (lv_sub hl [0, 1, 2, 3] rfl)
    · have hv := qF c_11_k_3 hv
      refine lv_iload_n hx hb dX7_nearest_14 rfl (lv_at hl 3 rfl) ?_
      refine lv_iconst (v := 1) hx hb dX7_nearest_15 (by decide) ?_
      refine lv_icmp_eq (tgt := 22) hx hb dX7_nearest_16 (by decide) (fun c_16_k_10 => ?_) (fun c_16_k_10 => ?_)
      · have hv := qT c_16_k_10 hv
        exact wfX7_nearest_L22 C hP hK hZ  x1 x2 x3 hv _ (lv_sub hl [0, 1, 2, 3] rfl)
      · have hv := qF c_16_k_10 hv
        refine lv_bipush (v := -2) hx hb dX7_nearest_19 (by decide) ?_
        exact q_ret C dX7_nearest_21 hv
  · have hv := qT c_5_k_2 hv
    refine lv_iconst (v := -1) hx hb dX7_nearest_8 (by decide) ?_
    exact q_ret C dX7_nearest_9 hv

theorem lkX7_fault_33 : (.fieldLink RX7 33 "QuarterTiles" "pad" "LQuarterTiles$Pad;" : Cond) ∈ wsX7_fault := by decide +kernel
theorem hiX7_fault_X7 : ∀ w ∈ wsX70, w ∈ wsX7_fault := by decide +kernel
set_option maxRecDepth 100000 in
set_option maxHeartbeats 4000000 in
theorem kX7_fault (l : Launch) (D : va_G) (E : Nat → ClassId) (a0 : Nat → Nat) {Q0 : Nat → FS} {v : Int32} (hv : fX7_fault Q0 = some v) : PU l yX7_fault wsX7_fault (rmN 3 66) D E zNo ((wQ E a0 Q0)) [.ref (a0 0)] v := by
  refine PU.of (by decide) rfl (Nat.le_of_ble_eq_true rfl) ?_
  intro p e s m below meth c C hP hK hZ ls hl
  have hl : lv_has ls 1 [(0, .ref (a0 0))] := hl
  obtain ⟨hx, hb, hr, hml, hown, hlocks, hts⟩ := id C
  unfold fX7_fault at hv
  refine lv_aload_n hx hb dX7_fault_0 rfl (lv_at hl 0 rfl) ?_
  refine va_get (D := D) (ci := 6) (v := .ref (a0 35)) (C := RX7) (T := TX7) (N := 4) hx hb hts hiX7_fault_X7 hown hK hP 0 rfl rfl 3 (by decide) (hts _ lkX7_fault_33) (fun _ h9 => h9) rfl dX7_fault_1 ?_
  obtain ⟨r_1, hr_1, hv⟩ := qB hv
  refine q_V (As := []) (rest := []) (C := RX2) (T0 := TX2) (N0 := 3) (ci := 1) hx hb hml hown hts hl.1 (kX2_firstFault l D E (a0 35) (a0 36) (a0 37) hr_1) zNo_mv (cwV 0 hts gX7_fault_X2_firstFault rfl rfl rfl (by decide +kernel) ⟨Nat.le_of_ble_eq_true rfl, Nat.le_of_ble_eq_true rfl⟩) 0 rfl rfl (hP.sub (ws' := (wPad E (a0 35) (a0 36) (a0 37) (Q0 1))) [35, 36, 37] rfl) hK hZ rfl rfl (Nat.le_of_ble_eq_true rfl) dX7_fault_4 ⟨Nat.zero_le _, Nat.zero_le _⟩ ?_
  exact q_ret C dX7_fault_7 hv
