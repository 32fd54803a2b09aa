theorem lkX3_isPoint_31 : (.fieldLink RX3 31 "QuarterTiles$Plan" "points" "I" : Cond) ∈ wsX3_isPoint := by decide +kernel
theorem hiX3_isPoint_X3 : ∀ w ∈ wsX30, w ∈ wsX3_isPoint := by decide +kernel
set_option maxRecDepth 100000 in
set_option maxHeartbeats 4000000 in
theorem kX3_isPoint (l : Launch) (D : va_G) (E : Nat → ClassId) (a0_0 a0_1 a0_2 : Nat) {P0 : FS} {x1 : Int32} {v : Int32} (hv : fX3_isPoint P0 x1 = some v) : PU l yX3_isPoint wsX3_isPoint (rmN 0 0) D E zNo ((wPlan E a0_0 a0_1 a0_2 P0)) [.ref a0_0, .int x1] v := by
  refine PU.of (by decide) rfl (Nat.le_of_ble_eq_true rfl) ?_
  intro p e s m below meth c C hP hK hZ ls hl
  have hl : lv_has ls 2 [(0, .ref a0_0), (1, .int x1)] := hl
  obtain ⟨hx, hb, hr, hml, hown, hlocks, hts⟩ := id C
  unfold fX3_isPoint at hv
  refine lv_iload_n hx hb dX3_isPoint_0 rfl (lv_at hl 1 rfl) ?_
  refine lv_if_lt (tgt := 22) hx hb dX3_isPoint_1 (by decide) (fun c_1_k_1 => ?_) (fun c_1_k_1 => ?_)
  · have hv := qT c_1_k_1 hv
    refine lv_iconst (v := 0) hx hb dX3_isPoint_22 (by decide) ?_
    exact q_retz C dX3_isPoint_23 hv
  · have hv := qF c_1_k_1 hv
    refine lv_iload_n hx hb dX3_isPoint_4 rfl (lv_at hl 1 rfl) ?_
    refine lv_aload_n hx hb dX3_isPoint_5 rfl (lv_at hl 0 rfl) ?_
    refine va_get (D := D) (ci := 2) (v := .int (P0 2 0)) (C := RX3) (T := TX3) (N := 6) hx hb hts hiX3_isPoint_X3 hown hK hP 0 rfl rfl 2 (by decide) (hts _ lkX3_isPoint_31) (fun _ h9 => h9) rfl dX3_isPoint_6 ?_
    refine lv_icmp_ge (tgt := 22) hx hb dX3_isPoint_9 (by decide) (fun c_9_k_2 => ?_) (fun c_9_k_2 => ?_)
    · have hv := qT c_9_k_2 hv
      refine lv_iconst (v := 0) hx hb dX3_isPoint_22 (by decide) ?_
      exact q_retz C dX3_isPoint_23 hv
    · have hv := qF c_9_k_2 hv
      refine lv_iload_n hx hb dX3_isPoint_12 rfl (lv_at hl 1 rfl) ?_
      refine lv_bipush (v := 50) hx hb dX3_isPoint_13 (by decide) ?_
      refine lv_icmp_ge (tgt := 22) hx hb dX3_isPoint_15 (by decide) (fun c_15_k_3 => ?_) (fun c_15_k_3 => ?_)
      · have hv := qT c_15_k_3 hv
        refine lv_iconst (v := 0) hx hb dX3_isPoint_22 (by decide) ?_
        exact q_retz C dX3_isPoint_23 hv
      · have hv := qF c_15_k_3 hv
        refine lv_iconst (v := 1) hx hb dX3_isPoint_18 (by decide) ?_
        refine lv_goto (tgt := 23) hx hb dX3_isPoint_19 (by decide) ?_
        exact q_retz C dX3_isPoint_23 hv

theorem lkX3_placeOf_9 : (.fieldLink RX3 9 "QuarterTiles$Plan" "places" "[I" : Cond) ∈ wsX3_placeOf := by decide +kernel
theorem hiX3_placeOf_X3 : ∀ w ∈ wsX30, w ∈ wsX3_placeOf := by decide +kernel
set_option maxRecDepth 100000 in
set_option maxHeartbeats 4000000 in
theorem kX3_placeOf (l : Launch) (D : va_G) (E : Nat → ClassId) (a0_0 a0_1 a0_2 : Nat) {P0 : FS} {x1 : Int32} {v : Int32} (hv : fX3_placeOf P0 x1 = some v) : PU l yX3_placeOf wsX3_placeOf (rmN 1 21) D E zNo ((wPlan E a0_0 a0_1 a0_2 P0)) [.ref a0_0, .int x1] v := by
  refine PU.of (by decide) rfl (Nat.le_of_ble_eq_true rfl) ?_
  intro p e s m below meth c C hP hK hZ ls hl
  have hl : lv_has ls 2 [(0, .ref a0_0), (1, .int x1)] := hl
  obtain ⟨hx, hb, hr, hml, hown, hlocks, hts⟩ := id C
  unfold fX3_placeOf at hv
  refine lv_aload_n hx hb dX3_placeOf_0 rfl (lv_at hl 0 rfl) ?_
  refine lv_iload_n hx hb dX3_placeOf_1 rfl (lv_at hl 1 rfl) ?_
  obtain ⟨r_1, hr_1, hv⟩ := qB hv
  refine q_V (As := [.int x1]) (rest := []) (C := RX3) (T0 := TX3) (N0 := 6) (ci := 2) hx hb hml hown hts hl.1 (kX3_isPoint l D E a0_0 a0_1 a0_2 hr_1) zNo_mv (cwV 1 hts gX3_placeOf_X3_isPoint rfl rfl rfl (by decide +kernel) ⟨Nat.le_of_ble_eq_true rfl, Nat.le_of_ble_eq_true rfl⟩) 0 rfl rfl (hP.sub (ws' := (wPlan E a0_0 a0_1 a0_2 P0)) [0, 1, 2] rfl) hK hZ rfl rfl (Nat.le_of_ble_eq_true rfl) dX3_placeOf_2 ⟨Nat.zero_le _, Nat.zero_le _⟩ ?_
  refine lv_if_eq (tgt := 17) hx hb dX3_placeOf_5 (by decide) (fun c_5_k_2 => ?_) (fun c_5_k_2 => ?_)
  · have hv := qT c_5_k_2 hv
    refine lv_bipush (v := -6) hx hb dX3_placeOf_17 (by decide) ?_
    exact q_ret C dX3_placeOf_19 hv
  · have hv := qF c_5_k_2 hv
    refine lv_aload_n hx hb dX3_placeOf_8 rfl (lv_at hl 0 rfl) ?_
    refine va_get (D := D) (ci := 2) (v := .ref a0_1) (C := RX3) (T := TX3) (N := 6) hx hb hts hiX3_placeOf_X3 hown hK hP 0 rfl rfl 0 (by decide) (hts _ lkX3_placeOf_9) (fun _ h9 => h9) rfl dX3_placeOf_9 ?_
    refine lv_iload_n hx hb dX3_placeOf_12 rfl (lv_at hl 1 rfl) ?_
    obtain ⟨x_3, hx_3, hv⟩ := qB hv
    refine q_ild hx hb hK hP 1 0 rfl rfl hx_3 dX3_placeOf_13 ?_
    refine lv_goto (tgt := 19) hx hb dX3_placeOf_14 (by decide) ?_
    exact q_ret C dX3_placeOf_19 hv

theorem lkX3_pointAt_31 : (.fieldLink RX3 31 "QuarterTiles$Plan" "points" "I" : Cond) ∈ wsX3_pointAt := by decide +kernel
theorem hiX3_pointAt_X3 : ∀ w ∈ wsX30, w ∈ wsX3_pointAt := by decide +kernel
set_option maxRecDepth 100000 in
set_option maxHeartbeats 4000000 in
theorem wfX3_pointAt_L2 {p : Program} {e : Env} {s : State} {m : MethodId} {below : List Frame} {meth : Method} {c : Code} {l : Launch} {D : va_G} {E : Nat → ClassId} {a0_0 a0_1 a0_2 : Nat} {P0 : FS} {x1 : Int32} {v : Int32} {y1 : Int32} (C : Ctx p s m meth c [.ref a0_0, .int x1] wsX3_pointAt cX3_pointAt 3 (some .int) RX3) (hP : va_P D vwCl ((wPlan E a0_0 a0_1 a0_2 P0)) s.heap) (hK : va_K D vwCl (tyE E) s) (hZ : zNo s s.heap) : ∀ (q : Nat) (y2 : Int32), fX3_pointAt_L2 P0 y1 q y2 = some v → ∀ ls, lv_has ls 3 [(0, .ref a0_0), (1, .int y1), (2, .int y2)] → WP p l e (rmN 2 42) s m [.ref a0_0, .int x1] below meth c v 2 ls [] := by
  obtain ⟨hx, hb, hr, hml, hown, hlocks, hts⟩ := id C
  intro q
  induction q with
  | zero =>
    intro y2 hv
    cases hv
  | succ q ih =>
    intro y2 hv ls hl
    rw [fX3_pointAt_L2.eq_2] at hv
    refine lv_iload_n hx hb dX3_pointAt_2 rfl (lv_at hl 2 rfl) ?_
    refine lv_aload_n hx hb dX3_pointAt_3 rfl (lv_at hl 0 rfl) ?_
    refine va_get (D := D) (ci := 2) (v := .int (P0 2 0)) (C := RX3) (T := TX3) (N := 6) hx hb hts hiX3_pointAt_X3 hown hK hP 0 rfl rfl 2 (by decide) (hts _ lkX3_pointAt_31) (fun _ h9 => h9) rfl dX3_pointAt_4 ?_
    refine lv_icmp_ge (tgt := 27) hx hb dX3_pointAt_7 (by decide) (fun c_7_k_1 => ?_) (fun c_7_k_1 => ?_)
    · have hv := qT c_7_k_1 hv
      refine lv_bipush (v := -6) hx hb dX3_pointAt_27 (by decide) ?_
      exact q_ret C dX3_pointAt_29 hv
    · have hv := qF c_7_k_1 hv
      refine lv_aload_n hx hb dX3_pointAt_10 rfl (lv_at hl 0 rfl) ?_
      refine lv_iload_n hx hb dX3_pointAt_11 rfl (lv_at hl 2 rfl) ?_
      obtain ⟨r_2, hr_2, hv⟩ := qB hv
      refine q_V (As := [.int y2]) (rest := []) (C := RX3) (T0 := TX3) (N0 := 6) (ci := 2) hx hb hml hown hts hl.1 (kX3_placeOf l D E a0_0 a0_1 a0_2 hr_2) zNo_mv (cwV 1 hts gX3_pointAt_X3_placeOf rfl rfl rfl (by decide +kernel) ⟨Nat.le_of_ble_eq_true rfl, Nat.le_of_ble_eq_true rfl⟩) 0 rfl rfl (hP.sub (ws' := (wPlan E a0_0 a0_1 a0_2 P0)) [0, 1, 2] rfl) hK hZ rfl rfl (Nat.le_of_ble_eq_true rfl) dX3_pointAt_12 ⟨Nat.zero_le _, Nat.zero_le _⟩ ?_
      refine lv_iload_n hx hb dX3_pointAt_15 rfl (lv_at hl 1 rfl) ?_
      refine lv_icmp_ne (tgt := 21) hx hb dX3_pointAt_16 (by decide) (fun c_16_k_3 => ?_) (fun c_16_k_3 => ?_)
      · have hv := qF c_16_k_3 hv
        refine lv_iinc (v := (y2 + 1)) (lv' := [(2, .int (y2 + 1)), (0, .ref a0_0), (1, .int y1)]) hx hb dX3_pointAt_21 hl (k := 2) rfl (by rfl) (by decide) rfl (fun ls hl => ?_)
        refine lv_goto (tgt := 2) hx hb dX3_pointAt_24 (by decide) ?_
        exact ih (y2 + 1) hv _ (lv_sub hl [1, 2, 0] rfl)
      · have hv := qT c_16_k_3 hv
        refine lv_iload_n hx hb dX3_pointAt_19 rfl (lv_at hl 2 rfl) ?_
        exact q_ret C dX3_pointAt_20 hv

set_option maxRecDepth 100000 in
set_option maxHeartbeats 4000000 in
theorem kX3_pointAt (l : Launch) (D : va_G) (E : Nat → ClassId) (a0_0 a0_1 a0_2 : Nat) {P0 : FS} {x1 : Int32} {v : Int32} (hv : fX3_pointAt P0 x1 = some v) : PU l yX3_pointAt wsX3_pointAt (rmN 2 42) D E zNo ((wPlan E a0_0 a0_1 a0_2 P0)) [.ref a0_0, .int x1] v := by
  refine PU.of (by decide) rfl (Nat.le_of_ble_eq_true rfl) ?_
  intro p e s m below meth c C hP hK hZ ls hl
  have hl : lv_has ls 3 [(0, .ref a0_0), (1, .int x1)] := hl
  obtain ⟨hx, hb, hr, hml, hown, hlocks, hts⟩ := id C
  unfold fX3_pointAt at hv
  refine lv_iconst (v := 0) hx hb dX3_pointAt_0 (by decide) ?_
  refine lv_istore_n (lv' := [(2, .int (0:Int32)), (0, .ref a0_0), (1, .int x1)]) hx hb dX3_pointAt_1 rfl hl (by decide) rfl (fun ls hl => ?_)
  exact wfX3_pointAt_L2 C hP hK hZ  6000 (0:Int32) hv _ (lv_sub hl [1, 2, 0] rfl)

theorem lkX3_errorOfPointAt_31 : (.fieldLink RX3 31 "QuarterTiles$Plan" "points" "I" : Cond) ∈ wsX3_errorOfPointAt := by decide +kernel
theorem hiX3_errorOfPointAt_X3 : ∀ w ∈ wsX30, w ∈ wsX3_errorOfPointAt := by decide +kernel
set_option maxRecDepth 100000 in
set_option maxHeartbeats 4000000 in
theorem kX3_errorOfPointAt (l : Launch) (D : va_G) (E : Nat → ClassId) (a0_0 a0_1 a0_2 : Nat) {P0 : FS} {x1 : Int32} {v : Int32} (hv : fX3_errorOfPointAt P0 x1 = some v) : PU l yX3_errorOfPointAt wsX3_errorOfPointAt (rmN 3 64) D E zNo ((wPlan E a0_0 a0_1 a0_2 P0)) [.ref a0_0, .int x1] v := by
  refine PU.of (by decide) rfl (Nat.le_of_ble_eq_true rfl) ?_
  intro p e s m below meth c C hP hK hZ ls hl
  have hl : lv_has ls 2 [(0, .ref a0_0), (1, .int x1)] := hl
  obtain ⟨hx, hb, hr, hml, hown, hlocks, hts⟩ := id C
  unfold fX3_errorOfPointAt at hv
  refine lv_aload_n hx hb dX3_errorOfPointAt_0 rfl (lv_at hl 0 rfl) ?_
  refine lv_iload_n hx hb dX3_errorOfPointAt_1 rfl (lv_at hl 1 rfl) ?_
  obtain ⟨r_1, hr_1, hv⟩ := qB hv
  refine q_V (As := [.int x1]) (rest := []) (C := RX3) (T0 := TX3) (N0 := 6) (ci := 2) hx hb hml hown hts hl.1 (kX3_pointAt l D E a0_0 a0_1 a0_2 hr_1) zNo_mv (cwV 1 hts gX3_errorOfPointAt_X3_pointAt rfl rfl rfl (by decide +kernel) ⟨Nat.le_of_ble_eq_true rfl, Nat.le_of_ble_eq_true rfl⟩) 0 rfl rfl (hP.sub (ws' := (wPlan E a0_0 a0_1 a0_2 P0)) [0, 1, 2] rfl) hK hZ rfl rfl (Nat.le_of_ble_eq_true rfl) dX3_errorOfPointAt_2 ⟨Nat.zero_le _, Nat.zero_le _⟩ ?_
  refine lv_bipush (v := -6) hx hb dX3_errorOfPointAt_5 (by decide) ?_
  refine lv_icmp_eq (tgt := 13) hx hb dX3_errorOfPointAt_7 (by decide) (fun c_7_k_2 => ?_) (fun c_7_k_2 => ?_)
  · have hv := qT c_7_k_2 hv
    refine lv_aload_n hx hb dX3_errorOfPointAt_13 rfl (lv_at hl 0 rfl) ?_
    refine va_get (D := D) (ci := 2) (v := .int (P0 2 0)) (C := RX3) (T := TX3) (N := 6) hx hb hts hiX3_errorOfPointAt_X3 hown hK hP 0 rfl rfl 2 (by decide) (hts _ lkX3_errorOfPointAt_31) (fun _ h9 => h9) rfl dX3_errorOfPointAt_14 ?_
    refine lv_bipush (v := 50) hx hb dX3_errorOfPointAt_17 (by decide) ?_
    refine lv_icmp_lt (tgt := 27) hx hb dX3_errorOfPointAt_19 (by decide) (fun c_19_k_3 => ?_) (fun c_19_k_3 => ?_)
    · have hv := qT c_19_k_3 hv
      refine lv_iconst (v := 0) hx hb dX3_errorOfPointAt_27 (by decide) ?_
      exact q_ret C dX3_errorOfPointAt_28 hv
    · have hv := qF c_19_k_3 hv
      refine lv_bipush (v := -4) hx hb dX3_errorOfPointAt_22 (by decide) ?_
      refine lv_goto (tgt := 28) hx hb dX3_errorOfPointAt_24 (by decide) ?_
      exact q_ret C dX3_errorOfPointAt_28 hv
  · have hv := qF c_7_k_2 hv
    refine lv_bipush (v := -5) hx hb dX3_errorOfPointAt_10 (by decide) ?_
    exact q_ret C dX3_errorOfPointAt_12 hv

theorem lkX3_pointsBefore_31 : (.fieldLink RX3 31 "QuarterTiles$Plan" "points" "I" : Cond) ∈ wsX3_pointsBefore := by decide +kernel
theorem hiX3_pointsBefore_X3 : ∀ w ∈ wsX30, w ∈ wsX3_pointsBefore := by decide +kernel
set_option maxRecDepth 100000 in
set_option maxHeartbeats 4000000 in
theorem wfX3_pointsBefore_L4 {p : Program} {e : Env} {s : State} {m : MethodId} {below : List Frame} {meth : Method} {c : Code} {l : Launch} {D : va_G} {E : Nat → ClassId} {a0_0 a0_1 a0_2 : Nat} {P0 : FS} {x1 : Int32} {v : Int32} {y1 : Int32} (C : Ctx p s m meth c [.ref a0_0, .int x1] wsX3_pointsBefore cX3_pointsBefore 4 (some .int) RX3) (hP : va_P D vwCl ((wPlan E a0_0 a0_1 a0_2 P0)) s.heap) (hK : va_K D vwCl (tyE E) s) (hZ : zNo s s.heap) : ∀ (q : Nat) (y2 : Int32) (y3 : Int32), fX3_pointsBefore_L4 P0 y1 q y2 y3 = some v → ∀ ls, lv_has ls 4 [(0, .ref a0_0), (1, .int y1), (2, .int y2), (3, .int y3)] → WP p l e (rmN 2 42) s m [.ref a0_0, .int x1] below meth c v 4 ls [] := by
  obtain ⟨hx, hb, hr, hml, hown, hlocks, hts⟩ := id C
  intro q
  induction q with
  | zero =>
    intro y2 y3 hv
    cases hv
  | succ q ih =>
    intro y2 y3 hv ls hl
    rw [fX3_pointsBefore_L4.eq_2] at hv
    refine lv_iload_n hx hb dX3_pointsBefore_4 rfl (lv_at hl 3 rfl) ?_
    refine lv_aload_n hx hb dX3_pointsBefore_5 rfl (lv_at hl 0 rfl) ?_
    refine va_get (D := D) (ci := 2) (v := .int (P0 2 0)) (C := RX3) (T := TX3) (N := 6) hx hb hts hiX3_pointsBefore_X3 hown hK hP 0 rfl rfl 2 (by decide) (hts _ lkX3_pointsBefore_31) (fun _ h9 => h9) rfl dX3_pointsBefore_6 ?_
    refine lv_icmp_ge (tgt := 30) hx hb dX3_pointsBefore_9 (by decide) (fun c_9_k_1 => ?_) (fun c_9_k_1 => ?_)
    · have hv := qT c_9_k_1 hv
      refine lv_iload_n hx hb dX3_pointsBefore_30 rfl (lv_at hl 2 rfl) ?_
      exact q_ret C dX3_pointsBefore_31 hv
    · have hv := qF c_9_k_1 hv
      refine lv_aload_n hx hb dX3_pointsBefore_12 rfl (lv_at hl 0 rfl) ?_
      refine lv_iload_n hx hb dX3_pointsBefore_13 rfl (lv_at hl 3 rfl) ?_
      obtain ⟨r_2, hr_2, hv⟩ := qB hv
      refine q_V (As := [.int y3]) (rest := []) (C := RX3) (T0 := TX3) (N0 := 6) (ci := 2) hx hb hml hown hts hl.1 (kX3_placeOf l D E a0_0 a0_1 a0_2 hr_2) zNo_mv (cwV 1 hts gX3_pointsBefore_X3_placeOf rfl rfl rfl (by decide +kernel) ⟨Nat.le_of_ble_eq_true rfl, Nat.le_of_ble_eq_true rfl⟩) 0 rfl rfl (hP.sub (ws' := (wPlan E a0_0 a0_1 a0_2 P0)) [0, 1, 2] rfl) hK hZ rfl rfl (Nat.le_of_ble_eq_true rfl) dX3_pointsBefore_14 ⟨Nat.zero_le _, Nat.zero_le _⟩ ?_
      refine lv_iload_n hx hb dX3_pointsBefore_17 rfl (lv_at hl 1 rfl) ?_
      refine lv_icmp_ge (tgt := 24) hx hb dX3_pointsBefore_18 (by decide) (fun c_18_k_3 => ?_) (fun c_18_k_3 => ?_)
      · have hv := qT c_18_k_3 hv
        refine lv_iinc (v := (y3 + 1)) (lv' := [(3, .int (y3 + 1)), (0, .ref a0_0), (1, .int y1), (2, .int y2)]) hx hb dX3_pointsBefore_24 hl (k := 3) rfl (by rfl) (by decide) rfl (fun ls hl => ?_)
        refine lv_goto (tgt := 4) hx hb dX3_pointsBefore_27 (by decide) ?_
        exact ih y2 (y3 + 1) hv _ (lv_sub hl [1, 2, 3, 0] rfl)
      · have hv := qF c_18_k_3 hv
        refine lv_iinc (v := (y2 + 1)) (lv' := [(2, .int (y2 + 1)), (0, .ref a0_0), (1, .int y1), (3, .int y3)]) hx hb dX3_pointsBefore_21 hl (k := 2) rfl (by rfl) (by decide) rfl (fun ls hl => ?_)
        refine lv_iinc (v := (y3 + 1)) (lv' := [(3, .int (y3 + 1)), (2, .int (y2 + 1)), (0, .ref a0_0), (1, .int y1)]) hx hb dX3_pointsBefore_24 hl (k := 3) rfl (by rfl) (by decide) rfl (fun ls hl => ?_)
        refine lv_goto (tgt := 4) hx hb dX3_pointsBefore_27 (by decide) ?_
        exact ih (y2 + 1) (y3 + 1) hv _ (lv_sub hl [2, 3, 1, 0] rfl)

set_option maxRecDepth 100000 in
set_option maxHeartbeats 4000000 in
theorem kX3_pointsBefore (l : Launch) (D : va_G) (E : Nat → ClassId) (a0_0 a0_1 a0_2 : Nat) {P0 : FS} {x1 : Int32} {v : Int32} (hv : fX3_pointsBefore P0 x1 = some v) : PU l yX3_pointsBefore wsX3_pointsBefore (rmN 2 42) D E zNo ((wPlan E a0_0 a0_1 a0_2 P0)) [.ref a0_0, .int x1] v := by
  refine PU.of (by decide) rfl (Nat.le_of_ble_eq_true rfl) ?_
  intro p e s m below meth c C hP hK hZ ls hl
  have hl : lv_has ls 4 [(0, .ref a0_0), (1, .int x1)] := hl
  obtain ⟨hx, hb, hr, hml, hown, hlocks, hts⟩ := id C
  unfold fX3_pointsBefore at hv
  refine lv_iconst (v := 0) hx hb dX3_pointsBefore_0 (by decide) ?_
  refine lv_istore_n (lv' := [(2, .int (0:Int32)), (0, .ref a0_0), (1, .int x1)]) hx hb dX3_pointsBefore_1 rfl hl (by decide) rfl (fun ls hl => ?_)
  refine lv_iconst (v := 0) hx hb dX3_pointsBefore_2 (by decide) ?_
  refine lv_istore_n (lv' := [(3, .int (0:Int32)), (2, .int (0:Int32)), (0, .ref a0_0), (1, .int x1)]) hx hb dX3_pointsBefore_3 rfl hl (by decide) rfl (fun ls hl => ?_)
  exact wfX3_pointsBefore_L4 C hP hK hZ  6000 (0:Int32) (0:Int32) hv _ (lv_sub hl [2, 3, 1, 0] rfl)

theorem lkX3_pointsInside_31 : (.fieldLink RX3 31 "QuarterTiles$Plan" "points" "I" : Cond) ∈ wsX3_pointsInside := by decide +kernel
theorem hiX3_pointsInside_X3 : ∀ w ∈ wsX30, w ∈ wsX3_pointsInside := by decide +kernel
set_option maxRecDepth 100000 in
set_option maxHeartbeats 4000000 in
theorem wfX3_pointsInside_L4 {p : Program} {e : Env} {s : State} {m : MethodId} {below : List Frame} {meth : Method} {c : Code} {l : Launch} {D : va_G} {E : Nat → ClassId} {a0_0 a0_1 a0_2 : Nat} {a1_0 : Nat} {P0 : FS} {w1 : FA} {v : Int32} (C : Ctx p s m meth c [.ref a0_0, .ref a1_0] wsX3_pointsInside cX3_pointsInside 4 (some .int) RX3) (hP : va_P D vwCl ((wPlan E a0_0 a0_1 a0_2 P0) ++ (wWin a1_0 w1)) s.heap) (hK : va_K D vwCl (tyE E) s) (hZ : zNo s s.heap) : ∀ (q : Nat) (y2 : Int32) (y3 : Int32), fX3_pointsInside_L4 P0 w1 q y2 y3 = some v → ∀ ls, lv_has ls 4 [(0, .ref a0_0), (1, .ref a1_0), (2, .int y2), (3, .int y3)] → WP p l e (rmN 3 68) s m [.ref a0_0, .ref a1_0] below meth c v 4 ls [] := by
  obtain ⟨hx, hb, hr, hml, hown, hlocks, hts⟩ := id C
  intro q
  induction q with
  | zero =>
    intro y2 y3 hv
    cases hv
  | succ q ih =>
    intro y2 y3 hv ls hl
    rw [fX3_pointsInside_L4.eq_2] at hv
    refine lv_iload_n hx hb dX3_pointsInside_4 rfl (lv_at hl 3 rfl) ?_
    refine lv_aload_n hx hb dX3_pointsInside_5 rfl (lv_at hl 0 rfl) ?_
    refine va_get (D := D) (ci := 2) (v := .int (P0 2 0)) (C := RX3) (T := TX3) (N := 6) hx hb hts hiX3_pointsInside_X3 hown hK hP 0 rfl rfl 2 (by decide) (hts _ lkX3_pointsInside_31) (fun _ h9 => h9) rfl dX3_pointsInside_6 ?_
    refine lv_icmp_ge (tgt := 35) hx hb dX3_pointsInside_9 (by decide) (fun c_9_k_1 => ?_) (fun c_9_k_1 => ?_)
    · have hv := qT c_9_k_1 hv
      refine lv_iload_n hx hb dX3_pointsInside_35 rfl (lv_at hl 2 rfl) ?_
      exact q_ret C dX3_pointsInside_36 hv
    · have hv := qF c_9_k_1 hv
      refine lv_aload_n hx hb dX3_pointsInside_12 rfl (lv_at hl 1 rfl) ?_
      refine lv_aload_n hx hb dX3_pointsInside_13 rfl (lv_at hl 0 rfl) ?_
      refine lv_iload_n hx hb dX3_pointsInside_14 rfl (lv_at hl 3 rfl) ?_
      obtain ⟨r_2, hr_2, hv⟩ := qB hv
      refine q_V (As := [.int y3]) (rest := [.ref a1_0]) (C := RX3) (T0 := TX3) (N0 := 6) (ci := 2) hx hb hml hown hts hl.1 (kX3_placeOf l D E a0_0 a0_1 a0_2 hr_2) zNo_mv (cwV 1 hts gX3_pointsInside_X3_placeOf rfl rfl rfl (by decide +kernel) ⟨Nat.le_of_ble_eq_true rfl, Nat.le_of_ble_eq_true rfl⟩) 0 rfl rfl (hP.sub (ws' := (wPlan E a0_0 a0_1 a0_2 P0)) [0, 1, 2] rfl) hK hZ rfl rfl (Nat.le_of_ble_eq_true rfl) dX3_pointsInside_15 ⟨Nat.zero_le _, Nat.zero_le _⟩ ?_
      refine lv_bipush (v := 6) hx hb dX3_pointsInside_18 (by decide) ?_
      obtain ⟨r_3, hr_3, hv⟩ := qB hv
      refine q_V (As := [.int r_2, .int (6:Int32)]) (rest := []) (C := RX6) (T0 := TX6) (N0 := 4) (ci := 5) hx hb hml hown hts hl.1 (kX6_meets l D E a1_0 hr_3) zNo_mv (cwV 2 hts gX3_pointsInside_X6_meets rfl rfl rfl (by decide +kernel) ⟨Nat.le_of_ble_eq_true rfl, Nat.le_of_ble_eq_true rfl⟩) 0 rfl rfl (hP.sub (ws' := (wWin a1_0 w1)) [3] rfl) hK hZ rfl rfl (Nat.le_of_ble_eq_true rfl) dX3_pointsInside_20 ⟨Nat.zero_le _, Nat.zero_le _⟩ ?_
      refine lv_if_eq (tgt := 29) hx hb dX3_pointsInside_23 (by decide) (fun c_23_k_4 => ?_) (fun c_23_k_4 => ?_)
      · have hv := qT c_23_k_4 hv
        refine lv_iinc (v := (y3 + 1)) (lv' := [(3, .int (y3 + 1)), (0, .ref a0_0), (1, .ref a1_0), (2, .int y2)]) hx hb dX3_pointsInside_29 hl (k := 3) rfl (by rfl) (by decide) rfl (fun ls hl => ?_)
        refine lv_goto (tgt := 4) hx hb dX3_pointsInside_32 (by decide) ?_
        exact ih y2 (y3 + 1) hv _ (lv_sub hl [1, 2, 3, 0] rfl)
      · have hv := qF c_23_k_4 hv
        refine lv_iinc (v := (y2 + 1)) (lv' := [(2, .int (y2 + 1)), (0, .ref a0_0), (1, .ref a1_0), (3, .int y3)]) hx hb dX3_pointsInside_26 hl (k := 2) rfl (by rfl) (by decide) rfl (fun ls hl => ?_)
        refine lv_iinc (v := (y3 + 1)) (lv' := [(3, .int (y3 + 1)), (2, .int (y2 + 1)), (0, .ref a0_0), (1, .ref a1_0)]) hx hb dX3_pointsInside_29 hl (k := 3) rfl (by rfl) (by decide) rfl (fun ls hl => ?_)
        refine lv_goto (tgt := 4) hx hb dX3_pointsInside_32 (by decide) ?_
        exact ih (y2 + 1) (y3 + 1) hv _ (lv_sub hl [2, 3, 1, 0] rfl)

set_option maxRecDepth 100000 in
set_option maxHeartbeats 4000000 in
theorem kX3_pointsInside (l : Launch) (D : va_G) (E : Nat → ClassId) (a0_0 a0_1 a0_2 : Nat) (a1_0 : Nat) {P0 : FS} {w1 : FA} {v : Int32} (hv : fX3_pointsInside P0 w1 = some v) : PU l yX3_pointsInside wsX3_pointsInside (rmN 3 68) D E zNo ((wPlan E a0_0 a0_1 a0_2 P0) ++ (wWin a1_0 w1)) [.ref a0_0, .ref a1_0] v := by
  refine PU.of (by decide) rfl (Nat.le_of_ble_eq_true rfl) ?_
  intro p e s m below meth c C hP hK hZ ls hl
  have hl : lv_has ls 4 [(0, .ref a0_0), (1, .ref a1_0)] := hl
  obtain ⟨hx, hb, hr, hml, hown, hlocks, hts⟩ := id C
  unfold fX3_pointsInside at hv
  refine lv_iconst (v := 0) hx hb dX3_pointsInside_0 (by decide) ?_
  refine lv_istore_n (lv' := [(2, .int (0:Int32)), (0, .ref a0_0), (1, .ref a1_0)]) hx hb dX3_pointsInside_1 rfl hl (by decide) rfl (fun ls hl => ?_)
  refine lv_iconst (v := 0) hx hb dX3_pointsInside_2 (by decide) ?_
  refine lv_istore_n (lv' := [(3, .int (0:Int32)), (2, .int (0:Int32)), (0, .ref a0_0), (1, .ref a1_0)]) hx hb dX3_pointsInside_3 rfl hl (by decide) rfl (fun ls hl => ?_)
  exact wfX3_pointsInside_L4 C hP hK hZ  6000 (0:Int32) (0:Int32) hv _ (lv_sub hl [2, 3, 1, 0] rfl)

theorem lkX3_indexOfOrder_34 : (.fieldLink RX3 34 "QuarterTiles$Plan" "orders" "I" : Cond) ∈ wsX3_indexOfOrder := by decide +kernel
theorem hiX3_indexOfOrder_X3 : ∀ w ∈ wsX30, w ∈ wsX3_indexOfOrder := by decide +kernel
theorem lkX3_indexOfOrder_15 : (.fieldLink RX3 15 "QuarterTiles$Plan" "ordered" "[I" : Cond) ∈ wsX3_indexOfOrder := by decide +kernel
set_option maxRecDepth 100000 in
set_option maxHeartbeats 4000000 in
theorem wfX3_indexOfOrder_L2 {p : Program} {e : Env} {s : State} {m : MethodId} {below : List Frame} {meth : Method} {c : Code} {l : Launch} {D : va_G} {E : Nat → ClassId} {a0_0 a0_1 a0_2 : Nat} {P0 : FS} {x1 : Int32} {v : Int32} {y1 : Int32} (C : Ctx p s m meth c [.ref a0_0, .int x1] wsX3_indexOfOrder cX3_indexOfOrder 3 (some .int) RX3) (hP : va_P D vwCl ((wPlan E a0_0 a0_1 a0_2 P0)) s.heap) (hK : va_K D vwCl (tyE E) s) (hZ : zNo s s.heap) : ∀ (q : Nat) (y2 : Int32), fX3_indexOfOrder_L2 P0 y1 q y2 = some v → ∀ ls, lv_has ls 3 [(0, .ref a0_0), (1, .int y1), (2, .int y2)] → WP p l e (rmN 0 0) s m [.ref a0_0, .int x1] below meth c v 2 ls [] := by
  obtain ⟨hx, hb, hr, hml, hown, hlocks, hts⟩ := id C
  intro q
  induction q with
  | zero =>
    intro y2 hv
    cases hv
  | succ q ih =>
    intro y2 hv ls hl
    rw [fX3_indexOfOrder_L2.eq_2] at hv
    refine lv_iload_n hx hb dX3_indexOfOrder_2 rfl (lv_at hl 2 rfl) ?_
    refine lv_aload_n hx hb dX3_indexOfOrder_3 rfl (lv_at hl 0 rfl) ?_
    refine va_get (D := D) (ci := 2) (v := .int (P0 2 1)) (C := RX3) (T := TX3) (N := 6) hx hb hts hiX3_indexOfOrder_X3 hown hK hP 0 rfl rfl 3 (by decide) (hts _ lkX3_indexOfOrder_34) (fun _ h9 => h9) rfl dX3_indexOfOrder_4 ?_
    refine lv_icmp_ge (tgt := 34) hx hb dX3_indexOfOrder_7 (by decide) (fun c_7_k_1 => ?_) (fun c_7_k_1 => ?_)
    · have hv := qT c_7_k_1 hv
      refine lv_bipush (v := -6) hx hb dX3_indexOfOrder_34 (by decide) ?_
      exact q_ret C dX3_indexOfOrder_36 hv
    · have hv := qF c_7_k_1 hv
      refine lv_iload_n hx hb dX3_indexOfOrder_10 rfl (lv_at hl 2 rfl) ?_
      refine lv_bipush (v := 12) hx hb dX3_indexOfOrder_11 (by decide) ?_
      refine lv_icmp_ge (tgt := 34) hx hb dX3_indexOfOrder_13 (by decide) (fun c_13_k_2 => ?_) (fun c_13_k_2 => ?_)
      · have hv := qT c_13_k_2 hv
        refine lv_bipush (v := -6) hx hb dX3_indexOfOrder_34 (by decide) ?_
        exact q_ret C dX3_indexOfOrder_36 hv
      · have hv := qF c_13_k_2 hv
        refine lv_aload_n hx hb dX3_indexOfOrder_16 rfl (lv_at hl 0 rfl) ?_
        refine va_get (D := D) (ci := 2) (v := .ref a0_2) (C := RX3) (T := TX3) (N := 6) hx hb hts hiX3_indexOfOrder_X3 hown hK hP 0 rfl rfl 1 (by decide) (hts _ lkX3_indexOfOrder_15) (fun _ h9 => h9) rfl dX3_indexOfOrder_17 ?_
        refine lv_iload_n hx hb dX3_indexOfOrder_20 rfl (lv_at hl 2 rfl) ?_
        obtain ⟨x_3, hx_3, hv⟩ := qB hv
        refine q_ild hx hb hK hP 2 0 rfl rfl hx_3 dX3_indexOfOrder_21 ?_
        refine lv_iload_n hx hb dX3_indexOfOrder_22 rfl (lv_at hl 1 rfl) ?_
        refine lv_icmp_ne (tgt := 28) hx hb dX3_indexOfOrder_23 (by decide) (fun c_23_k_4 => ?_) (fun c_23_k_4 => ?_)
        · have hv := qF c_23_k_4 hv
          refine lv_iinc (v := (y2 + 1)) (lv' := [(2, .int (y2 + 1)), (0, .ref a0_0), (1, .int y1)]) hx hb dX3_indexOfOrder_28 hl (k := 2) rfl (by rfl) (by decide) rfl (fun ls hl => ?_)
          refine lv_goto (tgt := 2) hx hb dX3_indexOfOrder_31 (by decide) ?_
          exact ih (y2 + 1) hv _ (lv_sub hl [1, 2, 0] rfl)
        · have hv := qT c_23_k_4 hv
          refine lv_iload_n hx hb dX3_indexOfOrder_26 rfl (lv_at hl 2 rfl) ?_
          exact q_ret C dX3_indexOfOrder_27 hv

set_option maxRecDepth 100000 in
set_option maxHeartbeats 4000000 in
theorem kX3_indexOfOrder (l : Launch) (D : va_G) (E : Nat → ClassId) (a0_0 a0_1 a0_2 : Nat) {P0 : FS} {x1 : Int32} {v : Int32} (hv : fX3_indexOfOrder P0 x1 = some v) : PU l yX3_indexOfOrder wsX3_indexOfOrder (rmN 0 0) D E zNo ((wPlan E a0_0 a0_1 a0_2 P0)) [.ref a0_0, .int x1] v := by
  refine PU.of (by decide) rfl (Nat.le_of_ble_eq_true rfl) ?_
  intro p e s m below meth c C hP hK hZ ls hl
  have hl : lv_has ls 3 [(0, .ref a0_0), (1, .int x1)] := hl
  obtain ⟨hx, hb, hr, hml, hown, hlocks, hts⟩ := id C
  unfold fX3_indexOfOrder at hv
  refine lv_iconst (v := 0) hx hb dX3_indexOfOrder_0 (by decide) ?_
  refine lv_istore_n (lv' := [(2, .int (0:Int32)), (0, .ref a0_0), (1, .int x1)]) hx hb dX3_indexOfOrder_1 rfl hl (by decide) rfl (fun ls hl => ?_)
  exact wfX3_indexOfOrder_L2 C hP hK hZ  6000 (0:Int32) hv _ (lv_sub hl [1, 2, 0] rfl)

set_option maxRecDepth 100000 in
set_option maxHeartbeats 4000000 in
theorem kX3_isOrdered (l : Launch) (D : va_G) (E : Nat → ClassId) (a0_0 a0_1 a0_2 : Nat) {P0 : FS} {x1 : Int32} {v : Int32} (hv : fX3_isOrdered P0 x1 = some v) : PU l yX3_isOrdered wsX3_isOrdered (rmN 1 22) D E zNo ((wPlan E a0_0 a0_1 a0_2 P0)) [.ref a0_0, .int x1] v := by
  refine PU.of (by decide) rfl (Nat.le_of_ble_eq_true rfl) ?_
  intro p e s m below meth c C hP hK hZ ls hl
  have hl : lv_has ls 2 [(0, .ref a0_0), (1, .int x1)] := hl
  obtain ⟨hx, hb, hr, hml, hown, hlocks, hts⟩ := id C
  unfold fX3_isOrdered at hv
  refine lv_aload_n hx hb dX3_isOrdered_0 rfl (lv_at hl 0 rfl) ?_
  refine lv_iload_n hx hb dX3_isOrdered_1 rfl (lv_at hl 1 rfl) ?_
  obtain ⟨r_1, hr_1, hv⟩ := qB hv
  refine q_V (As := [.int x1]) (rest := []) (C := RX3) (T0 := TX3) (N0 := 6) (ci := 2) hx hb hml hown hts hl.1 (kX3_indexOfOrder l D E a0_0 a0_1 a0_2 hr_1) zNo_mv (cwV 1 hts gX3_isOrdered_X3_indexOfOrder rfl rfl rfl (by decide +kernel) ⟨Nat.le_of_ble_eq_true rfl, Nat.le_of_ble_eq_true rfl⟩) 0 rfl rfl (hP.sub (ws' := (wPlan E a0_0 a0_1 a0_2 P0)) [0, 1, 2] rfl) hK hZ rfl rfl (Nat.le_of_ble_eq_true rfl) dX3_isOrdered_2 ⟨Nat.zero_le _, Nat.zero_le _⟩ ?_
  refine lv_bipush (v := -6) hx hb dX3_isOrdered_5 (by decide) ?_
  refine lv_icmp_eq (tgt := 14) hx hb dX3_isOrdered_7 (by decide) (fun c_7_k_2 => ?_) (fun c_7_k_2 => ?_)
  · have hv := qT c_7_k_2 hv
    refine lv_iconst (v := 0) hx hb dX3_isOrdered_14 (by decide) ?_
    exact q_retz C dX3_isOrdered_15 hv
  · have hv := qF c_7_k_2 hv
    refine lv_iconst (v := 1) hx hb dX3_isOrdered_10 (by decide) ?_
    refine lv_goto (tgt := 15) hx hb dX3_isOrdered_11 (by decide) ?_
    exact q_retz C dX3_isOrdered_15 hv

set_option maxRecDepth 100000 in
set_option maxHeartbeats 4000000 in
theorem kX4_isSlot (l : Launch) (D : va_G) (E : Nat → ClassId)  {x0 : Int32} {v : Int32} (hv : fX4_isSlot x0 = some v) : PU l yX4_isSlot wsX4_isSlot (rmN 0 0) D E zNo ([]) [.int x0] v := by
  refine PU.of (by decide) rfl (Nat.le_of_ble_eq_true rfl) ?_
  intro p e s m below meth c C hP hK hZ ls hl
  have hl : lv_has ls 1 [(0, .int x0)] := hl
  obtain ⟨hx, hb, hr, hml, hown, hlocks, hts⟩ := id C
  unfold fX4_isSlot at hv
  refine lv_iload_n hx hb dX4_isSlot_0 rfl (lv_at hl 0 rfl) ?_
  refine lv_if_lt (tgt := 13) hx hb dX4_isSlot_1 (by decide) (fun c_1_k_1 => ?_) (fun c_1_k_1 => ?_)
  · have hv := qT c_1_k_1 hv
    refine lv_iconst (v := 0) hx hb dX4_isSlot_13 (by decide) ?_
    exact q_retz C dX4_isSlot_14 hv
  · have hv := qF c_1_k_1 hv
    refine lv_iload_n hx hb dX4_isSlot_4 rfl (lv_at hl 0 rfl) ?_
    refine lv_iconst (v := 2) hx hb dX4_isSlot_5 (by decide) ?_
    refine lv_icmp_ge (tgt := 13) hx hb dX4_isSlot_6 (by decide) (fun c_6_k_2 => ?_) (fun c_6_k_2 => ?_)
    · have hv := qT c_6_k_2 hv
      refine lv_iconst (v := 0) hx hb dX4_isSlot_13 (by decide) ?_
      exact q_retz C dX4_isSlot_14 hv
    · have hv := qF c_6_k_2 hv
      refine lv_iconst (v := 1) hx hb dX4_isSlot_9 (by decide) ?_
      refine lv_goto (tgt := 14) hx hb dX4_isSlot_10 (by decide) ?_
      exact q_retz C dX4_isSlot_14 hv

theorem lkX4_isFilled_17 : (.fieldLink RX4 17 "QuarterTiles$Slots" "filled" "[Z" : Cond) ∈ wsX4_isFilled := by decide +kernel
theorem hiX4_isFilled_X4 : ∀ w ∈ wsX40, w ∈ wsX4_isFilled := by decide +kernel
set_option maxRecDepth 100000 in
set_option maxHeartbeats 4000000 in
theorem kX4_isFilled (l : Launch) (D : va_G) (E : Nat → ClassId) (a0_0 a0_1 a0_2 a0_3 a0_4 a0_5 a0_6 a0_7 a0_8 : Nat) {Q0 : Nat → FS} {x1 : Int32} {v : Int32} (hv : fX4_isFilled Q0 x1 = some v) : PU l yX4_isFilled wsX4_isFilled (rmN 1 20) D E zNo ((wSlots E a0_0 a0_1 a0_2 a0_3 a0_4 a0_5 a0_6 a0_7 a0_8 Q0)) [.ref a0_0, .int x1] v := by
  refine PU.of (by decide) rfl (Nat.le_of_ble_eq_true rfl) ?_
  intro p e s m below meth c C hP hK hZ ls hl
  have hl : lv_has ls 2 [(0, .ref a0_0), (1, .int x1)] := hl
  obtain ⟨hx, hb, hr, hml, hown, hlocks, hts⟩ := id C
  unfold fX4_isFilled at hv
  refine lv_iload_n hx hb dX4_isFilled_0 rfl (lv_at hl 1 rfl) ?_
  obtain ⟨r_1, hr_1, hv⟩ := qB hv
  refine q_S (As := [.int x1]) (rest := []) hx hb hml hown hts hl.1 (kX4_isSlot l D E  hr_1) zNo_mv (va_cwS 1 hts gX4_isFilled_X4_isSlot rfl rfl rfl (by decide +kernel) ⟨Nat.le_of_ble_eq_true rfl, Nat.le_of_ble_eq_true rfl⟩) (hP.sub (ws' := []) [] rfl) hK hZ rfl rfl (Nat.le_of_ble_eq_true rfl) dX4_isFilled_1 ⟨Nat.zero_le _, Nat.zero_le _⟩ ?_
  refine lv_if_eq (tgt := 20) hx hb dX4_isFilled_4 (by decide) (fun c_4_k_2 => ?_) (fun c_4_k_2 => ?_)
  · have hv := qT c_4_k_2 hv
    refine lv_iconst (v := 0) hx hb dX4_isFilled_20 (by decide) ?_
    exact q_retz C dX4_isFilled_21 hv
  · have hv := qF c_4_k_2 hv
    refine lv_aload_n hx hb dX4_isFilled_7 rfl (lv_at hl 0 rfl) ?_
    refine va_get (D := D) (ci := 3) (v := .ref a0_2) (C := RX4) (T := TX4) (N := 2) hx hb hts hiX4_isFilled_X4 hown hK hP 0 rfl rfl 1 (by decide) (hts _ lkX4_isFilled_17) (fun _ h9 => h9) rfl dX4_isFilled_8 ?_
    refine lv_iload_n hx hb dX4_isFilled_11 rfl (lv_at hl 1 rfl) ?_
    obtain ⟨x_3, hx_3, hv⟩ := qB hv
    refine q_zld hx hb hK hP 2 1 rfl rfl hx_3 dX4_isFilled_12 ?_
    refine lv_if_eq (tgt := 20) hx hb dX4_isFilled_13 (by decide) (fun c_13_k_4 => ?_) (fun c_13_k_4 => ?_)
    · have hv := qT c_13_k_4 hv
      refine lv_iconst (v := 0) hx hb dX4_isFilled_20 (by decide) ?_
      exact q_retz C dX4_isFilled_21 hv
    · have hv := qF c_13_k_4 hv
      refine lv_iconst (v := 1) hx hb dX4_isFilled_16 (by decide) ?_
      refine lv_goto (tgt := 21) hx hb dX4_isFilled_17 (by decide) ?_
      exact q_retz C dX4_isFilled_21 hv
