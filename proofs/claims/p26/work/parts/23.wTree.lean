theorem lkX5_pointsIn_18 : (.fieldLink RX5 18 "QuarterTiles$Tree" "sums" "[I" : Cond) ∈ wsX5_pointsIn := by decide +kernel
theorem hiX5_pointsIn_X5 : ∀ w ∈ wsX50, w ∈ wsX5_pointsIn := by decide +kernel
set_option maxRecDepth 100000 in
set_option maxHeartbeats 4000000 in
theorem kX5_pointsIn (l : Launch) (D : va_G) (E : Nat → ClassId) (a0_0 a0_1 a0_2 a0_3 a0_4 : Nat) {T0 : FS} {x1 : Int32} {v : Int32} (hv : fX5_pointsIn T0 x1 = some v) : PU l yX5_pointsIn wsX5_pointsIn (rmN 0 0) D E zNo ((wTree E a0_0 a0_1 a0_2 a0_3 a0_4 T0)) [.ref a0_0, .int x1] v := by
  refine PU.of (by decide) rfl (Nat.le_of_ble_eq_true rfl) ?_
  intro p e s m below meth c C hP hK hZ ls hl
  have hl : lv_has ls 2 [(0, .ref a0_0), (1, .int x1)] := hl
  obtain ⟨hx, hb, hr, hml, hown, hlocks, hts⟩ := id C
  unfold fX5_pointsIn at hv
  refine lv_iload_n hx hb dX5_pointsIn_0 rfl (lv_at hl 1 rfl) ?_
  refine lv_iconst (v := 1) hx hb dX5_pointsIn_1 (by decide) ?_
  refine lv_icmp_lt (tgt := 21) hx hb dX5_pointsIn_2 (by decide) (fun c_2_k_1 => ?_) (fun c_2_k_1 => ?_)
  · have hv := qT c_2_k_1 hv
    refine lv_iconst (v := 0) hx hb dX5_pointsIn_21 (by decide) ?_
    exact q_ret C dX5_pointsIn_22 hv
  · have hv := qF c_2_k_1 hv
    refine lv_iload_n hx hb dX5_pointsIn_5 rfl (lv_at hl 1 rfl) ?_
    refine lv_sipush (v := 8192) hx hb dX5_pointsIn_6 (by decide) ?_
    refine lv_icmp_ge (tgt := 21) hx hb dX5_pointsIn_9 (by decide) (fun c_9_k_2 => ?_) (fun c_9_k_2 => ?_)
    · have hv := qT c_9_k_2 hv
      refine lv_iconst (v := 0) hx hb dX5_pointsIn_21 (by decide) ?_
      exact q_ret C dX5_pointsIn_22 hv
    · have hv := qF c_9_k_2 hv
      refine lv_aload_n hx hb dX5_pointsIn_12 rfl (lv_at hl 0 rfl) ?_
      refine va_get (D := D) (ci := 4) (v := .ref a0_1) (C := RX5) (T := TX5) (N := 2) hx hb hts hiX5_pointsIn_X5 hown hK hP 0 rfl rfl 1 (by decide) (hts _ lkX5_pointsIn_18) (fun _ h9 => h9) rfl dX5_pointsIn_13 ?_
      refine lv_iload_n hx hb dX5_pointsIn_16 rfl (lv_at hl 1 rfl) ?_
      obtain ⟨x_3, hx_3, hv⟩ := qB hv
      refine q_ild hx hb hK hP 1 0 rfl rfl hx_3 dX5_pointsIn_17 ?_
      refine lv_goto (tgt := 22) hx hb dX5_pointsIn_18 (by decide) ?_
      exact q_ret C dX5_pointsIn_22 hv

theorem lkX5_wouldBeSplit_12 : (.fieldLink RX5 12 "QuarterTiles$Tree" "plan" "LQuarterTiles$Plan;" : Cond) ∈ wsX5_wouldBeSplit := by decide +kernel
theorem hiX5_wouldBeSplit_X5 : ∀ w ∈ wsX50, w ∈ wsX5_wouldBeSplit := by decide +kernel
theorem lkX5_wouldBeSplit_57 : (.fieldLink RX5 57 "QuarterTiles$Plan" "deep" "I" : Cond) ∈ wsX5_wouldBeSplit := by decide +kernel
theorem hiX5_wouldBeSplit_X3 : ∀ w ∈ wsX30, w ∈ wsX5_wouldBeSplit := by decide +kernel
theorem lkX5_wouldBeSplit_63 : (.fieldLink RX5 63 "QuarterTiles$Plan" "full" "I" : Cond) ∈ wsX5_wouldBeSplit := by decide +kernel
set_option maxRecDepth 100000 in
set_option maxHeartbeats 4000000 in
theorem kX5_wouldBeSplit (l : Launch) (D : va_G) (E : Nat → ClassId) (a0_0 a0_1 a0_2 a0_3 a0_4 : Nat) {T0 : FS} {x1 : Int32} {x2 : Int32} {v : Int32} (hv : fX5_wouldBeSplit T0 x1 x2 = some v) : PU l yX5_wouldBeSplit wsX5_wouldBeSplit (rmN 2 43) D E zNo ((wTree E a0_0 a0_1 a0_2 a0_3 a0_4 T0)) [.ref a0_0, .int x1, .int x2] v := by
  refine PU.of (by decide) rfl (Nat.le_of_ble_eq_true rfl) ?_
  intro p e s m below meth c C hP hK hZ ls hl
  have hl : lv_has ls 3 [(0, .ref a0_0), (1, .int x1), (2, .int x2)] := hl
  obtain ⟨hx, hb, hr, hml, hown, hlocks, hts⟩ := id C
  unfold fX5_wouldBeSplit at hv
  refine lv_iload_n hx hb dX5_wouldBeSplit_0 rfl (lv_at hl 2 rfl) ?_
  refine lv_aload_n hx hb dX5_wouldBeSplit_1 rfl (lv_at hl 0 rfl) ?_
  refine va_get (D := D) (ci := 4) (v := .ref a0_2) (C := RX5) (T := TX5) (N := 2) hx hb hts hiX5_wouldBeSplit_X5 hown hK hP 0 rfl rfl 0 (by decide) (hts _ lkX5_wouldBeSplit_12) (fun _ h9 => h9) rfl dX5_wouldBeSplit_2 ?_
  refine va_get (D := D) (ci := 2) (v := .int (T0 2 3)) (C := RX3) (T := TX3) (N := 6) hx hb hts hiX5_wouldBeSplit_X3 hown hK hP 2 rfl rfl 5 (by decide) (hts _ lkX5_wouldBeSplit_57) (fun _ h9 => h9) rfl dX5_wouldBeSplit_5 ?_
  refine lv_icmp_ge (tgt := 41) hx hb dX5_wouldBeSplit_8 (by decide) (fun c_8_k_1 => ?_) (fun c_8_k_1 => ?_)
  · have hv := qT c_8_k_1 hv
    refine lv_iconst (v := 0) hx hb dX5_wouldBeSplit_41 (by decide) ?_
    exact q_retz C dX5_wouldBeSplit_42 hv
  · have hv := qF c_8_k_1 hv
    refine lv_aload_n hx hb dX5_wouldBeSplit_11 rfl (lv_at hl 0 rfl) ?_
    refine lv_iload_n hx hb dX5_wouldBeSplit_12 rfl (lv_at hl 1 rfl) ?_
    obtain ⟨r_2, hr_2, hv⟩ := qB hv
    refine q_V (As := [.int x1]) (rest := []) (C := RX5) (T0 := TX5) (N0 := 2) (ci := 4) hx hb hml hown hts hl.1 (kX5_pointsIn l D E a0_0 a0_1 a0_2 a0_3 a0_4 hr_2) zNo_mv (cwV 1 hts gX5_wouldBeSplit_X5_pointsIn rfl rfl rfl (by decide +kernel) ⟨Nat.le_of_ble_eq_true rfl, Nat.le_of_ble_eq_true rfl⟩) 0 rfl rfl (hP.sub (ws' := (wTree E a0_0 a0_1 a0_2 a0_3 a0_4 T0)) [0, 1, 2, 3, 4] rfl) hK hZ rfl rfl (Nat.le_of_ble_eq_true rfl) dX5_wouldBeSplit_13 ⟨Nat.zero_le _, Nat.zero_le _⟩ ?_
    refine lv_aload_n hx hb dX5_wouldBeSplit_16 rfl (lv_at hl 0 rfl) ?_
    refine va_get (D := D) (ci := 4) (v := .ref a0_2) (C := RX5) (T := TX5) (N := 2) hx hb hts hiX5_wouldBeSplit_X5 hown hK hP 0 rfl rfl 0 (by decide) (hts _ lkX5_wouldBeSplit_12) (fun _ h9 => h9) rfl dX5_wouldBeSplit_17 ?_
    refine va_get (D := D) (ci := 2) (v := .int (T0 2 2)) (C := RX3) (T := TX3) (N := 6) hx hb hts hiX5_wouldBeSplit_X3 hown hK hP 2 rfl rfl 4 (by decide) (hts _ lkX5_wouldBeSplit_63) (fun _ h9 => h9) rfl dX5_wouldBeSplit_20 ?_
    refine lv_icmp_gt (tgt := 37) hx hb dX5_wouldBeSplit_23 (by decide) (fun c_23_k_3 => ?_) (fun c_23_k_3 => ?_)
    · have hv := qT c_23_k_3 hv
      refine lv_iconst (v := 1) hx hb dX5_wouldBeSplit_37 (by decide) ?_
      refine lv_goto (tgt := 42) hx hb dX5_wouldBeSplit_38 (by decide) ?_
      exact q_retz C dX5_wouldBeSplit_42 hv
    · have hv := qF c_23_k_3 hv
      refine lv_aload_n hx hb dX5_wouldBeSplit_26 rfl (lv_at hl 0 rfl) ?_
      refine va_get (D := D) (ci := 4) (v := .ref a0_2) (C := RX5) (T := TX5) (N := 2) hx hb hts hiX5_wouldBeSplit_X5 hown hK hP 0 rfl rfl 0 (by decide) (hts _ lkX5_wouldBeSplit_12) (fun _ h9 => h9) rfl dX5_wouldBeSplit_27 ?_
      refine lv_iload_n hx hb dX5_wouldBeSplit_30 rfl (lv_at hl 1 rfl) ?_
      obtain ⟨r_4, hr_4, hv⟩ := qB hv
      refine q_V (As := [.int x1]) (rest := []) (C := RX3) (T0 := TX3) (N0 := 6) (ci := 2) hx hb hml hown hts hl.1 (kX3_isOrdered l D E a0_2 a0_3 a0_4 hr_4) zNo_mv (cwV 1 hts gX5_wouldBeSplit_X3_isOrdered rfl rfl rfl (by decide +kernel) ⟨Nat.le_of_ble_eq_true rfl, Nat.le_of_ble_eq_true rfl⟩) 0 rfl rfl (hP.sub (ws' := (wPlan E a0_2 a0_3 a0_4 T0)) [2, 3, 4] rfl) hK hZ rfl rfl (Nat.le_of_ble_eq_true rfl) dX5_wouldBeSplit_31 ⟨Nat.zero_le _, Nat.zero_le _⟩ ?_
      refine lv_if_eq (tgt := 41) hx hb dX5_wouldBeSplit_34 (by decide) (fun c_34_k_5 => ?_) (fun c_34_k_5 => ?_)
      · have hv := qT c_34_k_5 hv
        refine lv_iconst (v := 0) hx hb dX5_wouldBeSplit_41 (by decide) ?_
        exact q_retz C dX5_wouldBeSplit_42 hv
      · have hv := qF c_34_k_5 hv
        refine lv_iconst (v := 1) hx hb dX5_wouldBeSplit_37 (by decide) ?_
        refine lv_goto (tgt := 42) hx hb dX5_wouldBeSplit_38 (by decide) ?_
        exact q_retz C dX5_wouldBeSplit_42 hv

set_option maxRecDepth 100000 in
set_option maxHeartbeats 4000000 in
theorem wfX5_isThere_L2 {p : Program} {e : Env} {s : State} {m : MethodId} {below : List Frame} {meth : Method} {c : Code} {l : Launch} {D : va_G} {E : Nat → ClassId} {a0_0 a0_1 a0_2 a0_3 a0_4 : Nat} {T0 : FS} {x1 : Int32} {x2 : Int32} {v : Int32} {y1 : Int32} {y2 : Int32} (C : Ctx p s m meth c [.ref a0_0, .int x1, .int x2] wsX5_isThere cX5_isThere 4 (some .boolean) RX5) (hP : va_P D vwCl ((wTree E a0_0 a0_1 a0_2 a0_3 a0_4 T0)) s.heap) (hK : va_K D vwCl (tyE E) s) (hZ : zNo s s.heap) : ∀ (q : Nat) (y3 : Int32), fX5_isThere_L2 T0 y1 y2 q y3 = some v → ∀ ls, lv_has ls 4 [(0, .ref a0_0), (1, .int y1), (2, .int y2), (3, .int y3)] → WP p l e (rmN 3 65) s m [.ref a0_0, .int x1, .int x2] below meth c v 2 ls [] := by
  obtain ⟨hx, hb, hr, hml, hown, hlocks, hts⟩ := id C
  intro q
  induction q with
  | zero =>
    intro y3 hv
    cases hv
  | succ q ih =>
    intro y3 hv ls hl
    rw [fX5_isThere_L2.eq_2] at hv
    refine lv_iload_n hx hb dX5_isThere_2 rfl (lv_at hl 3 rfl) ?_
    refine lv_iload_n hx hb dX5_isThere_3 rfl (lv_at hl 2 rfl) ?_
    refine lv_icmp_ge (tgt := 29) hx hb dX5_isThere_4 (by decide) (fun c_4_k_1 => ?_) (fun c_4_k_1 => ?_)
    · have hv := qT c_4_k_1 hv
      refine lv_iconst (v := 1) hx hb dX5_isThere_29 (by decide) ?_
      exact q_retz C dX5_isThere_30 hv
    · have hv := qF c_4_k_1 hv
      refine lv_aload_n hx hb dX5_isThere_7 rfl (lv_at hl 0 rfl) ?_
      refine lv_iload_n hx hb dX5_isThere_8 rfl (lv_at hl 1 rfl) ?_
      refine lv_iload_n hx hb dX5_isThere_9 rfl (lv_at hl 2 rfl) ?_
      refine lv_iload_n hx hb dX5_isThere_10 rfl (lv_at hl 3 rfl) ?_
      obtain ⟨r_2, hr_2, hv⟩ := qB hv
      refine q_S (As := [.int y1, .int y2, .int y3]) (rest := [.ref a0_0]) hx hb hml hown hts hl.1 (kX1_upTo l D E  hr_2) zNo_mv (va_cwS 3 hts gX5_isThere_X1_upTo rfl rfl rfl (by decide +kernel) ⟨Nat.le_of_ble_eq_true rfl, Nat.le_of_ble_eq_true rfl⟩) (hP.sub (ws' := []) [] rfl) hK hZ rfl rfl (Nat.le_of_ble_eq_true rfl) dX5_isThere_11 ⟨Nat.zero_le _, Nat.zero_le _⟩ ?_
      refine lv_iload_n hx hb dX5_isThere_14 rfl (lv_at hl 3 rfl) ?_
      obtain ⟨r_3, hr_3, hv⟩ := qB hv
      refine q_V (As := [.int r_2, .int y3]) (rest := []) (C := RX5) (T0 := TX5) (N0 := 2) (ci := 4) hx hb hml hown hts hl.1 (kX5_wouldBeSplit l D E a0_0 a0_1 a0_2 a0_3 a0_4 hr_3) zNo_mv (cwV 2 hts gX5_isThere_X5_wouldBeSplit rfl rfl rfl (by decide +kernel) ⟨Nat.le_of_ble_eq_true rfl, Nat.le_of_ble_eq_true rfl⟩) 0 rfl rfl (hP.sub (ws' := (wTree E a0_0 a0_1 a0_2 a0_3 a0_4 T0)) [0, 1, 2, 3, 4] rfl) hK hZ rfl rfl (Nat.le_of_ble_eq_true rfl) dX5_isThere_15 ⟨Nat.zero_le _, Nat.zero_le _⟩ ?_
      refine lv_if_ne (tgt := 23) hx hb dX5_isThere_18 (by decide) (fun c_18_k_4 => ?_) (fun c_18_k_4 => ?_)
      · have hv := qF c_18_k_4 hv
        refine lv_iinc (v := (y3 + 1)) (lv' := [(3, .int (y3 + 1)), (0, .ref a0_0), (1, .int y1), (2, .int y2)]) hx hb dX5_isThere_23 hl (k := 3) rfl (by rfl) (by decide) rfl (fun ls hl => ?_)
        refine lv_goto (tgt := 2) hx hb dX5_isThere_26 (by decide) ?_
        exact ih (y3 + 1) hv _ (lv_sub hl [1, 2, 3, 0] rfl)
      · have hv := qT c_18_k_4 hv
        refine lv_iconst (v := 0) hx hb dX5_isThere_21 (by decide) ?_
        exact q_retz C dX5_isThere_22 hv

set_option maxRecDepth 100000 in
set_option maxHeartbeats 4000000 in
theorem kX5_isThere (l : Launch) (D : va_G) (E : Nat → ClassId) (a0_0 a0_1 a0_2 a0_3 a0_4 : Nat) {T0 : FS} {x1 : Int32} {x2 : Int32} {v : Int32} (hv : fX5_isThere T0 x1 x2 = some v) : PU l yX5_isThere wsX5_isThere (rmN 3 65) D E zNo ((wTree E a0_0 a0_1 a0_2 a0_3 a0_4 T0)) [.ref a0_0, .int x1, .int x2] v := by
  refine PU.of (by decide) rfl (Nat.le_of_ble_eq_true rfl) ?_
  intro p e s m below meth c C hP hK hZ ls hl
  have hl : lv_has ls 4 [(0, .ref a0_0), (1, .int x1), (2, .int x2)] := hl
  obtain ⟨hx, hb, hr, hml, hown, hlocks, hts⟩ := id C
  unfold fX5_isThere at hv
  refine lv_iconst (v := 0) hx hb dX5_isThere_0 (by decide) ?_
  refine lv_istore_n (lv' := [(3, .int (0:Int32)), (0, .ref a0_0), (1, .int x1), (2, .int x2)]) hx hb dX5_isThere_1 rfl hl (by decide) rfl (fun ls hl => ?_)
  exact wfX5_isThere_L2 C hP hK hZ  6000 (0:Int32) hv _ (lv_sub hl [1, 2, 3, 0] rfl)

set_option maxRecDepth 100000 in
set_option maxHeartbeats 4000000 in
theorem kX5_kindOf (l : Launch) (D : va_G) (E : Nat → ClassId) (a0_0 a0_1 a0_2 a0_3 a0_4 : Nat) {T0 : FS} {x1 : Int32} {x2 : Int32} {v : Int32} (hv : fX5_kindOf T0 x1 x2 = some v) : PU l yX5_kindOf wsX5_kindOf (rmN 4 88) D E zNo ((wTree E a0_0 a0_1 a0_2 a0_3 a0_4 T0)) [.ref a0_0, .int x1, .int x2] v := by
  refine PU.of (by decide) rfl (Nat.le_of_ble_eq_true rfl) ?_
  intro p e s m below meth c C hP hK hZ ls hl
  have hl : lv_has ls 3 [(0, .ref a0_0), (1, .int x1), (2, .int x2)] := hl
  obtain ⟨hx, hb, hr, hml, hown, hlocks, hts⟩ := id C
  unfold fX5_kindOf at hv
  refine lv_aload_n hx hb dX5_kindOf_0 rfl (lv_at hl 0 rfl) ?_
  refine lv_iload_n hx hb dX5_kindOf_1 rfl (lv_at hl 1 rfl) ?_
  refine lv_iload_n hx hb dX5_kindOf_2 rfl (lv_at hl 2 rfl) ?_
  obtain ⟨r_1, hr_1, hv⟩ := qB hv
  refine q_V (As := [.int x1, .int x2]) (rest := []) (C := RX5) (T0 := TX5) (N0 := 2) (ci := 4) hx hb hml hown hts hl.1 (kX5_isThere l D E a0_0 a0_1 a0_2 a0_3 a0_4 hr_1) zNo_mv (cwV 2 hts gX5_kindOf_X5_isThere rfl rfl rfl (by decide +kernel) ⟨Nat.le_of_ble_eq_true rfl, Nat.le_of_ble_eq_true rfl⟩) 0 rfl rfl (hP.sub (ws' := (wTree E a0_0 a0_1 a0_2 a0_3 a0_4 T0)) [0, 1, 2, 3, 4] rfl) hK hZ rfl rfl (Nat.le_of_ble_eq_true rfl) dX5_kindOf_3 ⟨Nat.zero_le _, Nat.zero_le _⟩ ?_
  refine lv_if_ne (tgt := 11) hx hb dX5_kindOf_6 (by decide) (fun c_6_k_2 => ?_) (fun c_6_k_2 => ?_)
  · have hv := qF c_6_k_2 hv
    refine lv_aload_n hx hb dX5_kindOf_11 rfl (lv_at hl 0 rfl) ?_
    refine lv_iload_n hx hb dX5_kindOf_12 rfl (lv_at hl 1 rfl) ?_
    refine lv_iload_n hx hb dX5_kindOf_13 rfl (lv_at hl 2 rfl) ?_
    obtain ⟨r_3, hr_3, hv⟩ := qB hv
    refine q_V (As := [.int x1, .int x2]) (rest := []) (C := RX5) (T0 := TX5) (N0 := 2) (ci := 4) hx hb hml hown hts hl.1 (kX5_wouldBeSplit l D E a0_0 a0_1 a0_2 a0_3 a0_4 hr_3) zNo_mv (cwV 2 hts gX5_kindOf_X5_wouldBeSplit rfl rfl rfl (by decide +kernel) ⟨Nat.le_of_ble_eq_true rfl, Nat.le_of_ble_eq_true rfl⟩) 0 rfl rfl (hP.sub (ws' := (wTree E a0_0 a0_1 a0_2 a0_3 a0_4 T0)) [0, 1, 2, 3, 4] rfl) hK hZ rfl rfl (Nat.le_of_ble_eq_true rfl) dX5_kindOf_14 ⟨Nat.zero_le _, Nat.zero_le _⟩ ?_
    refine lv_if_eq (tgt := 24) hx hb dX5_kindOf_17 (by decide) (fun c_17_k_4 => ?_) (fun c_17_k_4 => ?_)
    · have hv := qT c_17_k_4 hv
      refine lv_iconst (v := 1) hx hb dX5_kindOf_24 (by decide) ?_
      exact q_ret C dX5_kindOf_25 hv
    · have hv := qF c_17_k_4 hv
      refine lv_iconst (v := 2) hx hb dX5_kindOf_20 (by decide) ?_
      refine lv_goto (tgt := 25) hx hb dX5_kindOf_21 (by decide) ?_
      exact q_ret C dX5_kindOf_25 hv
  · have hv := qT c_6_k_2 hv
    refine lv_iconst (v := 0) hx hb dX5_kindOf_9 (by decide) ?_
    exact q_ret C dX5_kindOf_10 hv

set_option maxRecDepth 100000 in
set_option maxHeartbeats 4000000 in
theorem wfX5_depthOfLeafWith_L2 {p : Program} {e : Env} {s : State} {m : MethodId} {below : List Frame} {meth : Method} {c : Code} {l : Launch} {D : va_G} {E : Nat → ClassId} {a0_0 a0_1 a0_2 a0_3 a0_4 : Nat} {T0 : FS} {x1 : Int32} {v : Int32} {y1 : Int32} (C : Ctx p s m meth c [.ref a0_0, .int x1] wsX5_depthOfLeafWith cX5_depthOfLeafWith 3 (some .int) RX5) (hP : va_P D vwCl ((wTree E a0_0 a0_1 a0_2 a0_3 a0_4 T0)) s.heap) (hK : va_K D vwCl (tyE E) s) (hZ : zNo s s.heap) : ∀ (q : Nat) (y2 : Int32), fX5_depthOfLeafWith_L2 T0 y1 q y2 = some v → ∀ ls, lv_has ls 3 [(0, .ref a0_0), (1, .int y1), (2, .int y2)] → WP p l e (rmN 3 65) s m [.ref a0_0, .int x1] below meth c v 2 ls [] := by
  obtain ⟨hx, hb, hr, hml, hown, hlocks, hts⟩ := id C
  intro q
  induction q with
  | zero =>
    intro y2 hv
    cases hv
  | succ q ih =>
    intro y2 hv ls hl
    rw [fX5_depthOfLeafWith_L2.eq_2] at hv
    refine lv_iload_n hx hb dX5_depthOfLeafWith_2 rfl (lv_at hl 2 rfl) ?_
    refine lv_bipush (v := 6) hx hb dX5_depthOfLeafWith_3 (by decide) ?_
    refine lv_icmp_ge (tgt := 29) hx hb dX5_depthOfLeafWith_5 (by decide) (fun c_5_k_1 => ?_) (fun c_5_k_1 => ?_)
    · have hv := qT c_5_k_1 hv
      refine lv_iload_n hx hb dX5_depthOfLeafWith_29 rfl (lv_at hl 2 rfl) ?_
      exact q_ret C dX5_depthOfLeafWith_30 hv
    · have hv := qF c_5_k_1 hv
      refine lv_aload_n hx hb dX5_depthOfLeafWith_8 rfl (lv_at hl 0 rfl) ?_
      refine lv_iload_n hx hb dX5_depthOfLeafWith_9 rfl (lv_at hl 1 rfl) ?_
      refine lv_bipush (v := 6) hx hb dX5_depthOfLeafWith_10 (by decide) ?_
      refine lv_iload_n hx hb dX5_depthOfLeafWith_12 rfl (lv_at hl 2 rfl) ?_
      obtain ⟨r_2, hr_2, hv⟩ := qB hv
      refine q_S (As := [.int y1, .int (6:Int32), .int y2]) (rest := [.ref a0_0]) hx hb hml hown hts hl.1 (kX1_upTo l D E  hr_2) zNo_mv (va_cwS 3 hts gX5_depthOfLeafWith_X1_upTo rfl rfl rfl (by decide +kernel) ⟨Nat.le_of_ble_eq_true rfl, Nat.le_of_ble_eq_true rfl⟩) (hP.sub (ws' := []) [] rfl) hK hZ rfl rfl (Nat.le_of_ble_eq_true rfl) dX5_depthOfLeafWith_13 ⟨Nat.zero_le _, Nat.zero_le _⟩ ?_
      refine lv_iload_n hx hb dX5_depthOfLeafWith_16 rfl (lv_at hl 2 rfl) ?_
      obtain ⟨r_3, hr_3, hv⟩ := qB hv
      refine q_V (As := [.int r_2, .int y2]) (rest := []) (C := RX5) (T0 := TX5) (N0 := 2) (ci := 4) hx hb hml hown hts hl.1 (kX5_wouldBeSplit l D E a0_0 a0_1 a0_2 a0_3 a0_4 hr_3) zNo_mv (cwV 2 hts gX5_depthOfLeafWith_X5_wouldBeSplit rfl rfl rfl (by decide +kernel) ⟨Nat.le_of_ble_eq_true rfl, Nat.le_of_ble_eq_true rfl⟩) 0 rfl rfl (hP.sub (ws' := (wTree E a0_0 a0_1 a0_2 a0_3 a0_4 T0)) [0, 1, 2, 3, 4] rfl) hK hZ rfl rfl (Nat.le_of_ble_eq_true rfl) dX5_depthOfLeafWith_17 ⟨Nat.zero_le _, Nat.zero_le _⟩ ?_
      refine lv_if_eq (tgt := 29) hx hb dX5_depthOfLeafWith_20 (by decide) (fun c_20_k_4 => ?_) (fun c_20_k_4 => ?_)
      · have hv := qT c_20_k_4 hv
        refine lv_iload_n hx hb dX5_depthOfLeafWith_29 rfl (lv_at hl 2 rfl) ?_
        exact q_ret C dX5_depthOfLeafWith_30 hv
      · have hv := qF c_20_k_4 hv
        refine lv_iinc (v := (y2 + 1)) (lv' := [(2, .int (y2 + 1)), (0, .ref a0_0), (1, .int y1)]) hx hb dX5_depthOfLeafWith_23 hl (k := 2) rfl (by rfl) (by decide) rfl (fun ls hl => ?_)
        refine lv_goto (tgt := 2) hx hb dX5_depthOfLeafWith_26 (by decide) ?_
        exact ih (y2 + 1) hv _ (lv_sub hl [1, 2, 0] rfl)

set_option maxRecDepth 100000 in
set_option maxHeartbeats 4000000 in
theorem kX5_depthOfLeafWith (l : Launch) (D : va_G) (E : Nat → ClassId) (a0_0 a0_1 a0_2 a0_3 a0_4 : Nat) {T0 : FS} {x1 : Int32} {v : Int32} (hv : fX5_depthOfLeafWith T0 x1 = some v) : PU l yX5_depthOfLeafWith wsX5_depthOfLeafWith (rmN 3 65) D E zNo ((wTree E a0_0 a0_1 a0_2 a0_3 a0_4 T0)) [.ref a0_0, .int x1] v := by
  refine PU.of (by decide) rfl (Nat.le_of_ble_eq_true rfl) ?_
  intro p e s m below meth c C hP hK hZ ls hl
  have hl : lv_has ls 3 [(0, .ref a0_0), (1, .int x1)] := hl
  obtain ⟨hx, hb, hr, hml, hown, hlocks, hts⟩ := id C
  unfold fX5_depthOfLeafWith at hv
  refine lv_iconst (v := 0) hx hb dX5_depthOfLeafWith_0 (by decide) ?_
  refine lv_istore_n (lv' := [(2, .int (0:Int32)), (0, .ref a0_0), (1, .int x1)]) hx hb dX5_depthOfLeafWith_1 rfl hl (by decide) rfl (fun ls hl => ?_)
  exact wfX5_depthOfLeafWith_L2 C hP hK hZ  6000 (0:Int32) hv _ (lv_sub hl [1, 2, 0] rfl)

set_option maxRecDepth 100000 in
set_option maxHeartbeats 4000000 in
theorem kX5_leafWith (l : Launch) (D : va_G) (E : Nat → ClassId) (a0_0 a0_1 a0_2 a0_3 a0_4 : Nat) {T0 : FS} {x1 : Int32} {v : Int32} (hv : fX5_leafWith T0 x1 = some v) : PU l yX5_leafWith wsX5_leafWith (rmN 4 87) D E zNo ((wTree E a0_0 a0_1 a0_2 a0_3 a0_4 T0)) [.ref a0_0, .int x1] v := by
  refine PU.of (by decide) rfl (Nat.le_of_ble_eq_true rfl) ?_
  intro p e s m below meth c C hP hK hZ ls hl
  have hl : lv_has ls 2 [(0, .ref a0_0), (1, .int x1)] := hl
  obtain ⟨hx, hb, hr, hml, hown, hlocks, hts⟩ := id C
  unfold fX5_leafWith at hv
  refine lv_iload_n hx hb dX5_leafWith_0 rfl (lv_at hl 1 rfl) ?_
  refine lv_bipush (v := 6) hx hb dX5_leafWith_1 (by decide) ?_
  refine lv_aload_n hx hb dX5_leafWith_3 rfl (lv_at hl 0 rfl) ?_
  refine lv_iload_n hx hb dX5_leafWith_4 rfl (lv_at hl 1 rfl) ?_
  obtain ⟨r_1, hr_1, hv⟩ := qB hv
  refine q_V (As := [.int x1]) (rest := [.int (6:Int32), .int x1]) (C := RX5) (T0 := TX5) (N0 := 2) (ci := 4) hx hb hml hown hts hl.1 (kX5_depthOfLeafWith l D E a0_0 a0_1 a0_2 a0_3 a0_4 hr_1) zNo_mv (cwV 1 hts gX5_leafWith_X5_depthOfLeafWith rfl rfl rfl (by decide +kernel) ⟨Nat.le_of_ble_eq_true rfl, Nat.le_of_ble_eq_true rfl⟩) 0 rfl rfl (hP.sub (ws' := (wTree E a0_0 a0_1 a0_2 a0_3 a0_4 T0)) [0, 1, 2, 3, 4] rfl) hK hZ rfl rfl (Nat.le_of_ble_eq_true rfl) dX5_leafWith_5 ⟨Nat.zero_le _, Nat.zero_le _⟩ ?_
  obtain ⟨r_2, hr_2, hv⟩ := qB hv
  refine q_S (As := [.int x1, .int (6:Int32), .int r_1]) (rest := []) hx hb hml hown hts hl.1 (kX1_upTo l D E  hr_2) zNo_mv (va_cwS 3 hts gX5_leafWith_X1_upTo rfl rfl rfl (by decide +kernel) ⟨Nat.le_of_ble_eq_true rfl, Nat.le_of_ble_eq_true rfl⟩) (hP.sub (ws' := []) [] rfl) hK hZ rfl rfl (Nat.le_of_ble_eq_true rfl) dX5_leafWith_8 ⟨Nat.zero_le _, Nat.zero_le _⟩ ?_
  exact q_ret C dX5_leafWith_11 hv

theorem lkX5_smallestAround_84a : (.methodLink RX5 84 Lib.Math.min.name : Cond) ∈ wsX5_smallestAround := by decide +kernel
theorem lkX5_smallestAround_84b : (.static Lib.Math.min.name : Cond) ∈ wsX5_smallestAround := by decide +kernel
theorem lkX5_smallestAround_84c : (.initialized "java/lang/Math" : Cond) ∈ wsX5_smallestAround := by decide +kernel
theorem lkX5_smallestAround_84d : (.code Lib.Math.min.name Lib.Math.min.code 2 (some .int) : Cond) ∈ wsX5_smallestAround := by decide +kernel
set_option maxRecDepth 100000 in
set_option maxHeartbeats 4000000 in
theorem kX5_smallestAround (l : Launch) (D : va_G) (E : Nat → ClassId) (a0_0 a0_1 a0_2 a0_3 a0_4 : Nat) {T0 : FS} {x1 : Int32} {x2 : Int32} {v : Int32} (hv : fX5_smallestAround T0 x1 x2 = some v) : PU l yX5_smallestAround wsX5_smallestAround (rmN 4 87) D E zNo ((wTree E a0_0 a0_1 a0_2 a0_3 a0_4 T0)) [.ref a0_0, .int x1, .int x2] v := by
  refine PU.of (by decide) rfl (Nat.le_of_ble_eq_true rfl) ?_
  intro p e s m below meth c C hP hK hZ ls hl
  have hl : lv_has ls 4 [(0, .ref a0_0), (1, .int x1), (2, .int x2)] := hl
  obtain ⟨hx, hb, hr, hml, hown, hlocks, hts⟩ := id C
  unfold fX5_smallestAround at hv
  refine lv_iload_n hx hb dX5_smallestAround_0 rfl (lv_at hl 1 rfl) ?_
  refine lv_iload_n hx hb dX5_smallestAround_1 rfl (lv_at hl 2 rfl) ?_
  obtain ⟨r_1, hr_1, hv⟩ := qB hv
  refine q_S (As := [.int x1, .int x2]) (rest := []) hx hb hml hown hts hl.1 (kX1_leastPlace l D E  hr_1) zNo_mv (va_cwS 2 hts gX5_smallestAround_X1_leastPlace rfl rfl rfl (by decide +kernel) ⟨Nat.le_of_ble_eq_true rfl, Nat.le_of_ble_eq_true rfl⟩) (hP.sub (ws' := []) [] rfl) hK hZ rfl rfl (Nat.le_of_ble_eq_true rfl) dX5_smallestAround_2 ⟨Nat.zero_le _, Nat.zero_le _⟩ ?_
  refine lv_istore_n (lv' := [(3, .int r_1), (0, .ref a0_0), (1, .int x1), (2, .int x2)]) hx hb dX5_smallestAround_5 rfl hl (by decide) rfl (fun ls hl => ?_)
  refine lv_iload_n hx hb dX5_smallestAround_6 rfl (lv_at hl 0 rfl) ?_
  refine lv_bipush (v := 6) hx hb dX5_smallestAround_7 (by decide) ?_
  refine lv_iload_n hx hb dX5_smallestAround_9 rfl (lv_at hl 3 rfl) ?_
  refine lv_aload_n hx hb dX5_smallestAround_10 rfl (lv_at hl 1 rfl) ?_
  refine lv_iload_n hx hb dX5_smallestAround_11 rfl (lv_at hl 0 rfl) ?_
  obtain ⟨r_2, hr_2, hv⟩ := qB hv
  refine q_V (As := [.int r_1]) (rest := [.int x2, .int (6:Int32), .int r_1]) (C := RX5) (T0 := TX5) (N0 := 2) (ci := 4) hx hb hml hown hts hl.1 (kX5_depthOfLeafWith l D E a0_0 a0_1 a0_2 a0_3 a0_4 hr_2) zNo_mv (cwV 1 hts gX5_smallestAround_X5_depthOfLeafWith rfl rfl rfl (by decide +kernel) ⟨Nat.le_of_ble_eq_true rfl, Nat.le_of_ble_eq_true rfl⟩) 0 rfl rfl (hP.sub (ws' := (wTree E a0_0 a0_1 a0_2 a0_3 a0_4 T0)) [0, 1, 2, 3, 4] rfl) hK hZ rfl rfl (Nat.le_of_ble_eq_true rfl) dX5_smallestAround_12 ⟨Nat.zero_le _, Nat.zero_le _⟩ ?_
  refine va_mmin hx hb (hml.trans hl.1.symm) hown (hts _ lkX5_smallestAround_84a) (hts _ lkX5_smallestAround_84b) (hts _ lkX5_smallestAround_84c) (hts _ lkX5_smallestAround_84d) (Nat.le_of_ble_eq_true rfl) (Nat.le_of_ble_eq_true rfl) (Nat.zero_le _) (Nat.zero_le _) dX5_smallestAround_15 ?_
  obtain ⟨r_3, hr_3, hv⟩ := qB hv
  refine q_S (As := [.int r_1, .int (6:Int32), .int (if r_2 < x2 then r_2 else x2)]) (rest := []) hx hb hml hown hts hl.1 (kX1_upTo l D E  hr_3) zNo_mv (va_cwS 3 hts gX5_smallestAround_X1_upTo rfl rfl rfl (by decide +kernel) ⟨Nat.le_of_ble_eq_true rfl, Nat.le_of_ble_eq_true rfl⟩) (hP.sub (ws' := []) [] rfl) hK hZ rfl rfl (Nat.le_of_ble_eq_true rfl) dX5_smallestAround_18 ⟨Nat.zero_le _, Nat.zero_le _⟩ ?_
  exact q_ret C dX5_smallestAround_21 hv

theorem lkX5_smallestWith_89 : (.fieldLink RX5 89 "QuarterTiles$Window" "x" "I" : Cond) ∈ wsX5_smallestWith := by decide +kernel
theorem hiX5_smallestWith_X6 : ∀ w ∈ wsX60, w ∈ wsX5_smallestWith := by decide +kernel
theorem lkX5_smallestWith_94 : (.fieldLink RX5 94 "QuarterTiles$Window" "y" "I" : Cond) ∈ wsX5_smallestWith := by decide +kernel
theorem lkX5_smallestWith_100 : (.fieldLink RX5 100 "QuarterTiles$Window" "toX" "I" : Cond) ∈ wsX5_smallestWith := by decide +kernel
theorem lkX5_smallestWith_103 : (.fieldLink RX5 103 "QuarterTiles$Window" "toY" "I" : Cond) ∈ wsX5_smallestWith := by decide +kernel
set_option maxRecDepth 100000 in
set_option maxHeartbeats 4000000 in
theorem wfX5_smallestWith_L31 {p : Program} {e : Env} {s : State} {m : MethodId} {below : List Frame} {meth : Method} {c : Code} {l : Launch} {D : va_G} {E : Nat → ClassId} {a0_0 a0_1 a0_2 a0_3 a0_4 : Nat} {a1_0 : Nat} {T0 : FS} {w1 : FA} {v : Int32} {y2 : Int32} {y3 : Int32} (C : Ctx p s m meth c [.ref a0_0, .ref a1_0] wsX5_smallestWith cX5_smallestWith 5 (some .int) RX5) (hP : va_P D vwCl ((wTree E a0_0 a0_1 a0_2 a0_3 a0_4 T0) ++ (wWin a1_0 w1)) s.heap) (hK : va_K D vwCl (tyE E) s) (hZ : zNo s s.heap) : ∀ (q : Nat) (y4 : Int32), fX5_smallestWith_L31 T0 w1 y2 y3 q y4 = some v → ∀ ls, lv_has ls 5 [(2, .int y2), (3, .int y3), (4, .int y4)] → WP p l e (rmN 4 87) s m [.ref a0_0, .ref a1_0] below meth c v 31 ls [] := by
  obtain ⟨hx, hb, hr, hml, hown, hlocks, hts⟩ := id C
  intro q
  induction q with
  | zero =>
    intro y4 hv
    cases hv
  | succ q ih =>
    intro y4 hv ls hl
    rw [fX5_smallestWith_L31.eq_2] at hv
    refine lv_iload hx hb dX5_smallestWith_31 (lv_at hl 2 rfl) ?_
    refine lv_if_le (tgt := 61) hx hb dX5_smallestWith_33 (by decide) (fun c_33_k_4 => ?_) (fun c_33_k_4 => ?_)
    · have hv := qT c_33_k_4 hv
      refine lv_iload_n hx hb dX5_smallestWith_61 rfl (lv_at hl 0 rfl) ?_
      refine lv_bipush (v := 6) hx hb dX5_smallestWith_62 (by decide) ?_
      refine lv_iload hx hb dX5_smallestWith_64 (lv_at hl 2 rfl) ?_
      obtain ⟨r_5, hr_5, hv⟩ := qB hv
      refine q_S (As := [.int y2, .int (6:Int32), .int y4]) (rest := []) hx hb hml hown hts hl.1 (kX1_upTo l D E  hr_5) zNo_mv (va_cwS 3 hts gX5_smallestWith_X1_upTo rfl rfl rfl (by decide +kernel) ⟨Nat.le_of_ble_eq_true rfl, Nat.le_of_ble_eq_true rfl⟩) (hP.sub (ws' := []) [] rfl) hK hZ rfl rfl (Nat.le_of_ble_eq_true rfl) dX5_smallestWith_66 ⟨Nat.zero_le _, Nat.zero_le _⟩ ?_
      exact q_ret C dX5_smallestWith_69 hv
    · have hv := qF c_33_k_4 hv
      refine lv_iload_n hx hb dX5_smallestWith_36 rfl (lv_at hl 0 rfl) ?_
      refine lv_bipush (v := 6) hx hb dX5_smallestWith_37 (by decide) ?_
      refine lv_iload hx hb dX5_smallestWith_39 (lv_at hl 2 rfl) ?_
      obtain ⟨r_6, hr_6, hv⟩ := qB hv
      refine q_S (As := [.int y2, .int (6:Int32), .int y4]) (rest := []) hx hb hml hown hts hl.1 (kX1_upTo l D E  hr_6) zNo_mv (va_cwS 3 hts gX5_smallestWith_X1_upTo rfl rfl rfl (by decide +kernel) ⟨Nat.le_of_ble_eq_true rfl, Nat.le_of_ble_eq_true rfl⟩) (hP.sub (ws' := []) [] rfl) hK hZ rfl rfl (Nat.le_of_ble_eq_true rfl) dX5_smallestWith_41 ⟨Nat.zero_le _, Nat.zero_le _⟩ ?_
      refine lv_iload_n hx hb dX5_smallestWith_44 rfl (lv_at hl 1 rfl) ?_
      refine lv_bipush (v := 6) hx hb dX5_smallestWith_45 (by decide) ?_
      refine lv_iload hx hb dX5_smallestWith_47 (lv_at hl 2 rfl) ?_
      obtain ⟨r_7, hr_7, hv⟩ := qB hv
      refine q_S (As := [.int y3, .int (6:Int32), .int y4]) (rest := [.int r_6]) hx hb hml hown hts hl.1 (kX1_upTo l D E  hr_7) zNo_mv (va_cwS 3 hts gX5_smallestWith_X1_upTo rfl rfl rfl (by decide +kernel) ⟨Nat.le_of_ble_eq_true rfl, Nat.le_of_ble_eq_true rfl⟩) (hP.sub (ws' := []) [] rfl) hK hZ rfl rfl (Nat.le_of_ble_eq_true rfl) dX5_smallestWith_49 ⟨Nat.zero_le _, Nat.zero_le _⟩ ?_
      refine lv_icmp_eq (tgt := 61) hx hb dX5_smallestWith_52 (by decide) (fun c_52_k_8 => ?_) (fun c_52_k_8 => ?_)
      · have hv := qT c_52_k_8 hv
        refine lv_iload_n hx hb dX5_smallestWith_61 rfl (lv_at hl 0 rfl) ?_
        refine lv_bipush (v := 6) hx hb dX5_smallestWith_62 (by decide) ?_
        refine lv_iload hx hb dX5_smallestWith_64 (lv_at hl 2 rfl) ?_
        obtain ⟨r_9, hr_9, hv⟩ := qB hv
        refine q_S (As := [.int y2, .int (6:Int32), .int y4]) (rest := []) hx hb hml hown hts hl.1 (kX1_upTo l D E  hr_9) zNo_mv (va_cwS 3 hts gX5_smallestWith_X1_upTo rfl rfl rfl (by decide +kernel) ⟨Nat.le_of_ble_eq_true rfl, Nat.le_of_ble_eq_true rfl⟩) (hP.sub (ws' := []) [] rfl) hK hZ rfl rfl (Nat.le_of_ble_eq_true rfl) dX5_smallestWith_66 ⟨Nat.zero_le _, Nat.zero_le _⟩ ?_
        exact q_ret C dX5_smallestWith_69 hv
      · have hv := qF c_52_k_8 hv
        refine lv_iinc (v := (y4 + (-1))) (lv' := [(4, .int (y4 + (-1))), (2, .int y2), (3, .int y3)]) hx hb dX5_smallestWith_55 hl (k := 2) rfl (by rfl) (by decide) rfl (fun ls hl => ?_)
        refine lv_goto (tgt := 31) hx hb dX5_smallestWith_58 (by decide) ?_
        exact ih (y4 + (-1)) hv _ (lv_sub hl [1, 2, 0] rfl)

set_option maxRecDepth 100000 in
set_option maxHeartbeats 4000000 in
theorem kX5_smallestWith (l : Launch) (D : va_G) (E : Nat → ClassId) (a0_0 a0_1 a0_2 a0_3 a0_4 : Nat) (a1_0 : Nat) {T0 : FS} {w1 : FA} {v : Int32} (hv : fX5_smallestWith T0 w1 = some v) : PU l yX5_smallestWith wsX5_smallestWith (rmN 4 87) D E zNo ((wTree E a0_0 a0_1 a0_2 a0_3 a0_4 T0) ++ (wWin a1_0 w1)) [.ref a0_0, .ref a1_0] v := by
  refine PU.of (by decide) rfl (Nat.le_of_ble_eq_true rfl) ?_
  intro p e s m below meth c C hP hK hZ ls hl
  have hl : lv_has ls 5 [(0, .ref a0_0), (1, .ref a1_0)] := hl
  obtain ⟨hx, hb, hr, hml, hown, hlocks, hts⟩ := id C
  unfold fX5_smallestWith at hv
  refine lv_aload_n hx hb dX5_smallestWith_0 rfl (lv_at hl 1 rfl) ?_
  refine va_get (D := D) (ci := 5) (v := .int (w1 0)) (C := RX6) (T := TX6) (N := 4) hx hb hts hiX5_smallestWith_X6 hown hK hP 5 rfl rfl 0 (by decide) (hts _ lkX5_smallestWith_89) (fun _ h9 => h9) rfl dX5_smallestWith_1 ?_
  refine lv_aload_n hx hb dX5_smallestWith_4 rfl (lv_at hl 1 rfl) ?_
  refine va_get (D := D) (ci := 5) (v := .int (w1 1)) (C := RX6) (T := TX6) (N := 4) hx hb hts hiX5_smallestWith_X6 hown hK hP 5 rfl rfl 1 (by decide) (hts _ lkX5_smallestWith_94) (fun _ h9 => h9) rfl dX5_smallestWith_5 ?_
  obtain ⟨r_1, hr_1, hv⟩ := qB hv
  refine q_S (As := [.int (w1 0), .int (w1 1)]) (rest := []) hx hb hml hown hts hl.1 (kX1_placeAt l D E  hr_1) zNo_mv (va_cwS 2 hts gX5_smallestWith_X1_placeAt rfl rfl rfl (by decide +kernel) ⟨Nat.le_of_ble_eq_true rfl, Nat.le_of_ble_eq_true rfl⟩) (hP.sub (ws' := []) [] rfl) hK hZ rfl rfl (Nat.le_of_ble_eq_true rfl) dX5_smallestWith_8 ⟨Nat.zero_le _, Nat.zero_le _⟩ ?_
  refine lv_istore_n (lv' := [(2, .int r_1), (0, .ref a0_0), (1, .ref a1_0)]) hx hb dX5_smallestWith_11 rfl hl (by decide) rfl (fun ls hl => ?_)
  refine lv_aload_n hx hb dX5_smallestWith_12 rfl (lv_at hl 2 rfl) ?_
  refine va_get (D := D) (ci := 5) (v := .int (w1 2)) (C := RX6) (T := TX6) (N := 4) hx hb hts hiX5_smallestWith_X6 hown hK hP 5 rfl rfl 2 (by decide) (hts _ lkX5_smallestWith_100) (fun _ h9 => h9) rfl dX5_smallestWith_13 ?_
  refine lv_aload_n hx hb dX5_smallestWith_16 rfl (lv_at hl 2 rfl) ?_
  refine va_get (D := D) (ci := 5) (v := .int (w1 3)) (C := RX6) (T := TX6) (N := 4) hx hb hts hiX5_smallestWith_X6 hown hK hP 5 rfl rfl 3 (by decide) (hts _ lkX5_smallestWith_103) (fun _ h9 => h9) rfl dX5_smallestWith_17 ?_
  obtain ⟨r_2, hr_2, hv⟩ := qB hv
  refine q_S (As := [.int (w1 2), .int (w1 3)]) (rest := []) hx hb hml hown hts hl.1 (kX1_placeAt l D E  hr_2) zNo_mv (va_cwS 2 hts gX5_smallestWith_X1_placeAt rfl rfl rfl (by decide +kernel) ⟨Nat.le_of_ble_eq_true rfl, Nat.le_of_ble_eq_true rfl⟩) (hP.sub (ws' := []) [] rfl) hK hZ rfl rfl (Nat.le_of_ble_eq_true rfl) dX5_smallestWith_20 ⟨Nat.zero_le _, Nat.zero_le _⟩ ?_
  refine lv_istore_n (lv' := [(3, .int r_2), (2, .int r_1), (0, .ref a0_0), (1, .ref a1_0)]) hx hb dX5_smallestWith_23 rfl hl (by decide) rfl (fun ls hl => ?_)
  refine lv_aload_n hx hb dX5_smallestWith_24 rfl (lv_at hl 2 rfl) ?_
  refine lv_iload_n hx hb dX5_smallestWith_25 rfl (lv_at hl 1 rfl) ?_
  obtain ⟨r_3, hr_3, hv⟩ := qB hv
  refine q_V (As := [.int r_1]) (rest := []) (C := RX5) (T0 := TX5) (N0 := 2) (ci := 4) hx hb hml hown hts hl.1 (kX5_depthOfLeafWith l D E a0_0 a0_1 a0_2 a0_3 a0_4 hr_3) zNo_mv (cwV 1 hts gX5_smallestWith_X5_depthOfLeafWith rfl rfl rfl (by decide +kernel) ⟨Nat.le_of_ble_eq_true rfl, Nat.le_of_ble_eq_true rfl⟩) 0 rfl rfl (hP.sub (ws' := (wTree E a0_0 a0_1 a0_2 a0_3 a0_4 T0)) [0, 1, 2, 3, 4] rfl) hK hZ rfl rfl (Nat.le_of_ble_eq_true rfl) dX5_smallestWith_26 ⟨Nat.zero_le _, Nat.zero_le _⟩ ?_
  refine lv_istore (lv' := [(4, .int r_3), (3, .int r_2), (2, .int r_1), (0, .ref a0_0), (1, .ref a1_0)]) hx hb dX5_smallestWith_29 hl (by decide) rfl (fun ls hl => ?_)
  exact wfX5_smallestWith_L31 C hP hK hZ  6000 r_3 hv _ (lv_sub hl [2, 1, 0] rfl)

set_option maxRecDepth 100000 in
set_option maxHeartbeats 4000000 in
theorem wfX5_leavesIn_L22 {p : Program} {e : Env} {s : State} {m : MethodId} {below : List Frame} {meth : Method} {c : Code} {l : Launch} {D : va_G} {E : Nat → ClassId} {a0_0 a0_1 a0_2 a0_3 a0_4 : Nat} {T0 : FS} {x1 : Int32} {x2 : Int32} {dd : Nat} {v : Int32} {y1 : Int32} {y2 : Int32} (C : Ctx p s m meth c [.ref a0_0, .int x1, .int x2] wsX5_leavesIn cX5_leavesIn 5 (some .int) RX5) (hP : va_P D vwCl ((wTree E a0_0 a0_1 a0_2 a0_3 a0_4 T0)) s.heap) (hK : va_K D vwCl (tyE E) s) (hZ : zNo s s.heap) {self : Int32 → Int32 → Option Int32} (hself : ∀ (x1 x2 v : Int32), self x1 x2 = some v → PU l yX5_leavesIn wsX5_leavesIn (rmR 3 65 24 dd) D E zNo ((wTree E a0_0 a0_1 a0_2 a0_3 a0_4 T0)) [.ref a0_0, .int x1, .int x2] v) : ∀ (q : Nat) (y3 : Int32) (y4 : Int32), fX5_leavesIn_L22 T0 self y1 y2 q y3 y4 = some v → ∀ ls, lv_has ls 5 [(0, .ref a0_0), (1, .int y1), (2, .int y2), (3, .int y3), (4, .int y4)] → WP p l e (rmR 3 65 24 (dd + 1)) s m [.ref a0_0, .int x1, .int x2] below meth c v 22 ls [] := by
  obtain ⟨hx, hb, hr, hml, hown, hlocks, hts⟩ := id C
  intro q
  induction q with
  | zero =>
    intro y3 y4 hv
    cases hv
  | succ q ih =>
    intro y3 y4 hv ls hl
    rw [fX5_leavesIn_L22.eq_2] at hv
    refine lv_iload hx hb dX5_leavesIn_22 (lv_at hl 4 rfl) ?_
    refine lv_iconst (v := 4) hx hb dX5_leavesIn_24 (by decide) ?_
    refine lv_icmp_ge (tgt := 50) hx hb dX5_leavesIn_25 (by decide) (fun c_25_k_4 => ?_) (fun c_25_k_4 => ?_)
    · have hv := qT c_25_k_4 hv
      refine lv_iload_n hx hb dX5_leavesIn_50 rfl (lv_at hl 3 rfl) ?_
      exact q_ret C dX5_leavesIn_51 hv
    · have hv := qF c_25_k_4 hv
      refine lv_iload_n hx hb dX5_leavesIn_28 rfl (lv_at hl 3 rfl) ?_
      refine lv_aload_n hx hb dX5_leavesIn_29 rfl (lv_at hl 0 rfl) ?_
      refine lv_iconst (v := 4) hx hb dX5_leavesIn_30 (by decide) ?_
      refine lv_iload_n hx hb dX5_leavesIn_31 rfl (lv_at hl 1 rfl) ?_
      refine lv_imul hx hb dX5_leavesIn_32 ?_
      refine lv_iload hx hb dX5_leavesIn_33 (lv_at hl 4 rfl) ?_
      refine lv_iadd hx hb dX5_leavesIn_35 ?_
      refine lv_iload_n hx hb dX5_leavesIn_36 rfl (lv_at hl 2 rfl) ?_
      refine lv_iconst (v := 1) hx hb dX5_leavesIn_37 (by decide) ?_
      refine lv_iadd hx hb dX5_leavesIn_38 ?_
      obtain ⟨r_5, hr_5, hv⟩ := qB hv
      refine q_S (As := [.ref a0_0, .int (((4:Int32) * y1) + y4), .int (y2 + (1:Int32))]) (rest := [.int y3]) hx hb hml hown hts hl.1 (hself (((4:Int32) * y1) + y4) (y2 + (1:Int32)) r_5 hr_5) zNo_mv (va_cwS 3 hts gX5_leavesIn_X5_leavesIn rfl rfl rfl (by decide +kernel) ⟨rmR_sf, (rmR_sl (by decide))⟩) (hP.sub (ws' := (wTree E a0_0 a0_1 a0_2 a0_3 a0_4 T0)) [0, 1, 2, 3, 4] rfl) hK hZ rfl rfl (Nat.le_of_ble_eq_true rfl) dX5_leavesIn_39 ⟨Nat.zero_le _, Nat.zero_le _⟩ ?_
      refine lv_iadd hx hb dX5_leavesIn_42 ?_
      refine lv_istore_n (lv' := [(3, .int (y3 + r_5)), (0, .ref a0_0), (1, .int y1), (2, .int y2), (4, .int y4)]) hx hb dX5_leavesIn_43 rfl hl (by decide) rfl (fun ls hl => ?_)
      refine lv_iinc (v := (y4 + 1)) (lv' := [(4, .int (y4 + 1)), (3, .int (y3 + r_5)), (0, .ref a0_0), (1, .int y1), (2, .int y2)]) hx hb dX5_leavesIn_44 hl (k := 4) rfl (by rfl) (by decide) rfl (fun ls hl => ?_)
      refine lv_goto (tgt := 22) hx hb dX5_leavesIn_47 (by decide) ?_
      exact ih (y3 + r_5) (y4 + 1) hv _ (lv_sub hl [2, 3, 4, 1, 0] rfl)

set_option maxRecDepth 100000 in
set_option maxHeartbeats 4000000 in
theorem kkX5_leavesIn (l : Launch) (D : va_G) (E : Nat → ClassId) (a0_0 a0_1 a0_2 a0_3 a0_4 : Nat) {T0 : FS} : ∀ (dd : Nat) (x1 x2 v : Int32), fX5_leavesIn T0 dd x1 x2 = some v → PU l yX5_leavesIn wsX5_leavesIn (rmR 3 65 24 dd) D E zNo ((wTree E a0_0 a0_1 a0_2 a0_3 a0_4 T0)) [.ref a0_0, .int x1, .int x2] v := by
  intro dd
  induction dd with
  | zero =>
    intro x1 x2 v hv
    cases hv
  | succ dd hself =>
    intro x1 x2 v hv
    rw [fX5_leavesIn.eq_2] at hv
    unfold fX5_leavesIn_B at hv
    generalize fX5_leavesIn T0 dd = self at hself hv
    refine PU.of (by decide) rfl (Nat.le_of_ble_eq_true rfl) ?_
    intro p e s m below meth c C hP hK hZ ls hl
    have hl : lv_has ls 5 [(0, .ref a0_0), (1, .int x1), (2, .int x2)] := hl
    obtain ⟨hx, hb, hr, hml, hown, hlocks, hts⟩ := id C
    refine lv_iload_n hx hb dX5_leavesIn_0 rfl (lv_at hl 2 rfl) ?_
    refine lv_bipush (v := 6) hx hb dX5_leavesIn_1 (by decide) ?_
    refine lv_icmp_ge (tgt := 15) hx hb dX5_leavesIn_3 (by decide) (fun c_3_k_1 => ?_) (fun c_3_k_1 => ?_)
    · have hv := qT c_3_k_1 hv
      refine lv_iconst (v := 1) hx hb dX5_leavesIn_15 (by decide) ?_
      exact q_ret C dX5_leavesIn_16 hv
    · have hv := qF c_3_k_1 hv
      refine lv_aload_n hx hb dX5_leavesIn_6 rfl (lv_at hl 0 rfl) ?_
      refine lv_iload_n hx hb dX5_leavesIn_7 rfl (lv_at hl 1 rfl) ?_
      refine lv_iload_n hx hb dX5_leavesIn_8 rfl (lv_at hl 2 rfl) ?_
      obtain ⟨r_2, hr_2, hv⟩ := qB hv
      refine q_V (As := [.int x1, .int x2]) (rest := []) (C := RX5) (T0 := TX5) (N0 := 2) (ci := 4) hx hb hml hown hts hl.1 (kX5_wouldBeSplit l D E a0_0 a0_1 a0_2 a0_3 a0_4 hr_2) zNo_mv (cwV 2 hts gX5_leavesIn_X5_wouldBeSplit rfl rfl rfl (by decide +kernel) ⟨(rmR_f (by decide)), (rmR_l (by decide))⟩) 0 rfl rfl (hP.sub (ws' := (wTree E a0_0 a0_1 a0_2 a0_3 a0_4 T0)) [0, 1, 2, 3, 4] rfl) hK hZ rfl rfl (Nat.le_of_ble_eq_true rfl) dX5_leavesIn_9 ⟨Nat.zero_le _, Nat.zero_le _⟩ ?_
      refine lv_if_ne (tgt := 17) hx hb dX5_leavesIn_12 (by decide) (fun c_12_k_3 => ?_) (fun c_12_k_3 => ?_)
      · have hv := qF c_12_k_3 hv
        refine lv_iconst (v := 0) hx hb dX5_leavesIn_17 (by decide) ?_
        refine lv_istore_n (lv' := [(3, .int (0:Int32)), (0, .ref a0_0), (1, .int x1), (2, .int x2)]) hx hb dX5_leavesIn_18 rfl hl (by decide) rfl (fun ls hl => ?_)
        refine lv_iconst (v := 0) hx hb dX5_leavesIn_19 (by decide) ?_
        refine lv_istore (lv' := [(4, .int (0:Int32)), (3, .int (0:Int32)), (0, .ref a0_0), (1, .int x1), (2, .int x2)]) hx hb dX5_leavesIn_20 hl (by decide) rfl (fun ls hl => ?_)
        exact wfX5_leavesIn_L22 C hP hK hZ (hself := hself) 6000 (0:Int32) (0:Int32) hv _ (lv_sub hl [2, 3, 4, 1, 0] rfl)
      · have hv := qT c_12_k_3 hv
        refine lv_iconst (v := 1) hx hb dX5_leavesIn_15 (by decide) ?_
        exact q_ret C dX5_leavesIn_16 hv
theorem kX5_leavesIn (l : Launch) (D : va_G) (E : Nat → ClassId) (a0_0 a0_1 a0_2 a0_3 a0_4 : Nat) {T0 : FS} {x1 : Int32} {x2 : Int32} {v : Int32} (hv : fX5_leavesIn T0 8 x1 x2 = some v) : PU l yX5_leavesIn wsX5_leavesIn (rmR 3 65 24 8) D E zNo ((wTree E a0_0 a0_1 a0_2 a0_3 a0_4 T0)) [.ref a0_0, .int x1, .int x2] v := kkX5_leavesIn l D E a0_0 a0_1 a0_2 a0_3 a0_4 8 x1 x2 v hv

set_option maxRecDepth 100000 in
set_option maxHeartbeats 4000000 in
theorem kX5_leaves (l : Launch) (D : va_G) (E : Nat → ClassId) (a0_0 a0_1 a0_2 a0_3 a0_4 : Nat) {T0 : FS} {v : Int32} (hv : fX5_leaves T0 = some v) : PU l yX5_leaves wsX5_leaves (rmN 12 281) D E zNo ((wTree E a0_0 a0_1 a0_2 a0_3 a0_4 T0)) [.ref a0_0] v := by
  refine PU.of (by decide) rfl (Nat.le_of_ble_eq_true rfl) ?_
  intro p e s m below meth c C hP hK hZ ls hl
  have hl : lv_has ls 1 [(0, .ref a0_0)] := hl
  obtain ⟨hx, hb, hr, hml, hown, hlocks, hts⟩ := id C
  unfold fX5_leaves at hv
  refine lv_aload_n hx hb dX5_leaves_0 rfl (lv_at hl 0 rfl) ?_
  refine lv_iconst (v := 1) hx hb dX5_leaves_1 (by decide) ?_
  refine lv_iconst (v := 0) hx hb dX5_leaves_2 (by decide) ?_
  obtain ⟨r_1, hr_1, hv⟩ := qB hv
  refine q_S (As := [.ref a0_0, .int (1:Int32), .int (0:Int32)]) (rest := []) hx hb hml hown hts hl.1 (kX5_leavesIn l D E a0_0 a0_1 a0_2 a0_3 a0_4 hr_1) zNo_mv (va_cwS 3 hts gX5_leaves_X5_leavesIn rfl rfl rfl (by decide +kernel) ⟨Nat.le_of_ble_eq_true rfl, Nat.le_of_ble_eq_true rfl⟩) (hP.sub (ws' := (wTree E a0_0 a0_1 a0_2 a0_3 a0_4 T0)) [0, 1, 2, 3, 4] rfl) hK hZ rfl rfl (Nat.le_of_ble_eq_true rfl) dX5_leaves_3 ⟨Nat.zero_le _, Nat.zero_le _⟩ ?_
  exact q_ret C dX5_leaves_6 hv

set_option maxRecDepth 100000 in
set_option maxHeartbeats 4000000 in
theorem kX5_tiles (l : Launch) (D : va_G) (E : Nat → ClassId) (a0_0 a0_1 a0_2 a0_3 a0_4 : Nat) {T0 : FS} {v : Int32} (hv : fX5_tiles T0 = some v) : PU l yX5_tiles wsX5_tiles (rmN 13 301) D E zNo ((wTree E a0_0 a0_1 a0_2 a0_3 a0_4 T0)) [.ref a0_0] v := by
  refine PU.of (by decide) rfl (Nat.le_of_ble_eq_true rfl) ?_
  intro p e s m below meth c C hP hK hZ ls hl
  have hl : lv_has ls 2 [(0, .ref a0_0)] := hl
  obtain ⟨hx, hb, hr, hml, hown, hlocks, hts⟩ := id C
  unfold fX5_tiles at hv
  refine lv_aload_n hx hb dX5_tiles_0 rfl (lv_at hl 0 rfl) ?_
  obtain ⟨r_1, hr_1, hv⟩ := qB hv
  refine q_V (As := []) (rest := []) (C := RX5) (T0 := TX5) (N0 := 2) (ci := 4) hx hb hml hown hts hl.1 (kX5_leaves l D E a0_0 a0_1 a0_2 a0_3 a0_4 hr_1) zNo_mv (cwV 0 hts gX5_tiles_X5_leaves rfl rfl rfl (by decide +kernel) ⟨Nat.le_of_ble_eq_true rfl, Nat.le_of_ble_eq_true rfl⟩) 0 rfl rfl (hP.sub (ws' := (wTree E a0_0 a0_1 a0_2 a0_3 a0_4 T0)) [0, 1, 2, 3, 4] rfl) hK hZ rfl rfl (Nat.le_of_ble_eq_true rfl) dX5_tiles_1 ⟨Nat.zero_le _, Nat.zero_le _⟩ ?_
  refine lv_istore_n (lv' := [(1, .int r_1), (0, .ref a0_0)]) hx hb dX5_tiles_4 rfl hl (by decide) rfl (fun ls hl => ?_)
  refine lv_iload_n hx hb dX5_tiles_5 rfl (lv_at hl 0 rfl) ?_
  refine lv_iload_n hx hb dX5_tiles_6 rfl (lv_at hl 0 rfl) ?_
  refine lv_iconst (v := 1) hx hb dX5_tiles_7 (by decide) ?_
  refine lv_isub hx hb dX5_tiles_8 ?_
  refine lv_iconst (v := 3) hx hb dX5_tiles_9 (by decide) ?_
  refine lv_idiv hx hb dX5_tiles_10 (by decide) ?_
  refine lv_iadd hx hb dX5_tiles_11 ?_
  exact q_ret C dX5_tiles_12 hv

set_option maxRecDepth 100000 in
set_option maxHeartbeats 4000000 in
theorem wfX5_emptyLeavesIn_L15 {p : Program} {e : Env} {s : State} {m : MethodId} {below : List Frame} {meth : Method} {c : Code} {l : Launch} {D : va_G} {E : Nat → ClassId} {a0_0 a0_1 a0_2 a0_3 a0_4 : Nat} {T0 : FS} {x1 : Int32} {x2 : Int32} {dd : Nat} {v : Int32} (C : Ctx p s m meth c [.ref a0_0, .int x1, .int x2] wsX5_emptyLeavesIn cX5_emptyLeavesIn 5 (some .int) RX5) (hP : va_P D vwCl ((wTree E a0_0 a0_1 a0_2 a0_3 a0_4 T0)) s.heap) (hK : va_K D vwCl (tyE E) s) (hZ : zNo s s.heap) {self : Int32 → Int32 → Option Int32} (hself : ∀ (x1 x2 v : Int32), self x1 x2 = some v → PU l yX5_emptyLeavesIn wsX5_emptyLeavesIn (rmR 3 65 24 dd) D E zNo ((wTree E a0_0 a0_1 a0_2 a0_3 a0_4 T0)) [.ref a0_0, .int x1, .int x2] v) : ∀ (y1 : Int32), fX5_emptyLeavesIn_L15 T0 self y1 = some v → ∀ ls, lv_has ls 5 [(0, .ref a0_0), (1, .int y1)] → WP p l e (rmR 3 65 24 (dd + 1)) s m [.ref a0_0, .int x1, .int x2] below meth c v 15 ls [] := by
  obtain ⟨hx, hb, hr, hml, hown, hlocks, hts⟩ := id C
  intro y1 hv ls hl
  unfold fX5_emptyLeavesIn_L15 at hv
  refine lv_aload_n hx hb dX5_emptyLeavesIn_15 rfl (lv_at hl 0 rfl) ?_
  refine lv_iload_n hx hb dX5_emptyLeavesIn_16 rfl (lv_at hl 1 rfl) ?_
  obtain ⟨r_2, hr_2, hv⟩ := qB hv
  refine q_V (As := [.int y1]) (rest := []) (C := RX5) (T0 := TX5) (N0 := 2) (ci := 4) hx hb hml hown hts hl.1 (kX5_pointsIn l D E a0_0 a0_1 a0_2 a0_3 a0_4 hr_2) zNo_mv (cwV 1 hts gX5_emptyLeavesIn_X5_pointsIn rfl rfl rfl (by decide +kernel) ⟨(rmR_f (by decide)), (rmR_l (by decide))⟩) 0 rfl rfl (hP.sub (ws' := (wTree E a0_0 a0_1 a0_2 a0_3 a0_4 T0)) [0, 1, 2, 3, 4] rfl) hK hZ rfl rfl (Nat.le_of_ble_eq_true rfl) dX5_emptyLeavesIn_17 ⟨Nat.zero_le _, Nat.zero_le _⟩ ?_
  refine lv_if_ne (tgt := 27) hx hb dX5_emptyLeavesIn_20 (by decide) (fun c_20_k_3 => ?_) (fun c_20_k_3 => ?_)
  · have hv := qF c_20_k_3 hv
    refine lv_iconst (v := 0) hx hb dX5_emptyLeavesIn_27 (by decide) ?_
    exact q_ret C dX5_emptyLeavesIn_28 hv
  · have hv := qT c_20_k_3 hv
    refine lv_iconst (v := 1) hx hb dX5_emptyLeavesIn_23 (by decide) ?_
    refine lv_goto (tgt := 28) hx hb dX5_emptyLeavesIn_24 (by decide) ?_
    exact q_ret C dX5_emptyLeavesIn_28 hv

set_option maxRecDepth 100000 in
set_option maxHeartbeats 4000000 in
theorem wfX5_emptyLeavesIn_L34 {p : Program} {e : Env} {s : State} {m : MethodId} {below : List Frame} {meth : Method} {c : Code} {l : Launch} {D : va_G} {E : Nat → ClassId} {a0_0 a0_1 a0_2 a0_3 a0_4 : Nat} {T0 : FS} {x1 : Int32} {x2 : Int32} {dd : Nat} {v : Int32} {y1 : Int32} {y2 : Int32} (C : Ctx p s m meth c [.ref a0_0, .int x1, .int x2] wsX5_emptyLeavesIn cX5_emptyLeavesIn 5 (some .int) RX5) (hP : va_P D vwCl ((wTree E a0_0 a0_1 a0_2 a0_3 a0_4 T0)) s.heap) (hK : va_K D vwCl (tyE E) s) (hZ : zNo s s.heap) {self : Int32 → Int32 → Option Int32} (hself : ∀ (x1 x2 v : Int32), self x1 x2 = some v → PU l yX5_emptyLeavesIn wsX5_emptyLeavesIn (rmR 3 65 24 dd) D E zNo ((wTree E a0_0 a0_1 a0_2 a0_3 a0_4 T0)) [.ref a0_0, .int x1, .int x2] v) : ∀ (q : Nat) (y3 : Int32) (y4 : Int32), fX5_emptyLeavesIn_L34 T0 self y1 y2 q y3 y4 = some v → ∀ ls, lv_has ls 5 [(0, .ref a0_0), (1, .int y1), (2, .int y2), (3, .int y3), (4, .int y4)] → WP p l e (rmR 3 65 24 (dd + 1)) s m [.ref a0_0, .int x1, .int x2] below meth c v 34 ls [] := by
  obtain ⟨hx, hb, hr, hml, hown, hlocks, hts⟩ := id C
  intro q
  induction q with
  | zero =>
    intro y3 y4 hv
    cases hv
  | succ q ih =>
    intro y3 y4 hv ls hl
    rw [fX5_emptyLeavesIn_L34.eq_2] at hv
    refine lv_iload hx hb dX5_emptyLeavesIn_34 (lv_at hl 4 rfl) ?_
    refine lv_iconst (v := 4) hx hb dX5_emptyLeavesIn_36 (by decide) ?_
    refine lv_icmp_ge (tgt := 62) hx hb dX5_emptyLeavesIn_37 (by decide) (fun c_37_k_6 => ?_) (fun c_37_k_6 => ?_)
    · have hv := qT c_37_k_6 hv
      refine lv_iload_n hx hb dX5_emptyLeavesIn_62 rfl (lv_at hl 3 rfl) ?_
      exact q_ret C dX5_emptyLeavesIn_63 hv
    · have hv := qF c_37_k_6 hv
      refine lv_iload_n hx hb dX5_emptyLeavesIn_40 rfl (lv_at hl 3 rfl) ?_
      refine lv_aload_n hx hb dX5_emptyLeavesIn_41 rfl (lv_at hl 0 rfl) ?_
      refine lv_iconst (v := 4) hx hb dX5_emptyLeavesIn_42 (by decide) ?_
      refine lv_iload_n hx hb dX5_emptyLeavesIn_43 rfl (lv_at hl 1 rfl) ?_
      refine lv_imul hx hb dX5_emptyLeavesIn_44 ?_
      refine lv_iload hx hb dX5_emptyLeavesIn_45 (lv_at hl 4 rfl) ?_
      refine lv_iadd hx hb dX5_emptyLeavesIn_47 ?_
      refine lv_iload_n hx hb dX5_emptyLeavesIn_48 rfl (lv_at hl 2 rfl) ?_
      refine lv_iconst (v := 1) hx hb dX5_emptyLeavesIn_49 (by decide) ?_
      refine lv_iadd hx hb dX5_emptyLeavesIn_50 ?_
      obtain ⟨r_7, hr_7, hv⟩ := qB hv
      refine q_S (As := [.ref a0_0, .int (((4:Int32) * y1) + y4), .int (y2 + (1:Int32))]) (rest := [.int y3]) hx hb hml hown hts hl.1 (hself (((4:Int32) * y1) + y4) (y2 + (1:Int32)) r_7 hr_7) zNo_mv (va_cwS 3 hts gX5_emptyLeavesIn_X5_emptyLeavesIn rfl rfl rfl (by decide +kernel) ⟨rmR_sf, (rmR_sl (by decide))⟩) (hP.sub (ws' := (wTree E a0_0 a0_1 a0_2 a0_3 a0_4 T0)) [0, 1, 2, 3, 4] rfl) hK hZ rfl rfl (Nat.le_of_ble_eq_true rfl) dX5_emptyLeavesIn_51 ⟨Nat.zero_le _, Nat.zero_le _⟩ ?_
      refine lv_iadd hx hb dX5_emptyLeavesIn_54 ?_
      refine lv_istore_n (lv' := [(3, .int (y3 + r_7)), (0, .ref a0_0), (1, .int y1), (2, .int y2), (4, .int y4)]) hx hb dX5_emptyLeavesIn_55 rfl hl (by decide) rfl (fun ls hl => ?_)
      refine lv_iinc (v := (y4 + 1)) (lv' := [(4, .int (y4 + 1)), (3, .int (y3 + r_7)), (0, .ref a0_0), (1, .int y1), (2, .int y2)]) hx hb dX5_emptyLeavesIn_56 hl (k := 4) rfl (by rfl) (by decide) rfl (fun ls hl => ?_)
      refine lv_goto (tgt := 34) hx hb dX5_emptyLeavesIn_59 (by decide) ?_
      exact ih (y3 + r_7) (y4 + 1) hv _ (lv_sub hl [2, 3, 4, 1, 0] rfl)

set_option maxRecDepth 100000 in
set_option maxHeartbeats 4000000 in
theorem kkX5_emptyLeavesIn (l : Launch) (D : va_G) (E : Nat → ClassId) (a0_0 a0_1 a0_2 a0_3 a0_4 : Nat) {T0 : FS} : ∀ (dd : Nat) (x1 x2 v : Int32), fX5_emptyLeavesIn T0 dd x1 x2 = some v → PU l yX5_emptyLeavesIn wsX5_emptyLeavesIn (rmR 3 65 24 dd) D E zNo ((wTree E a0_0 a0_1 a0_2 a0_3 a0_4 T0)) [.ref a0_0, .int x1, .int x2] v := by
  intro dd
  induction dd with
  | zero =>
    intro x1 x2 v hv
    cases hv
  | succ dd hself =>
    intro x1 x2 v hv
    rw [fX5_emptyLeavesIn.eq_2] at hv
    unfold fX5_emptyLeavesIn_B at hv
    generalize fX5_emptyLeavesIn T0 dd = self at hself hv
    refine PU.of (by decide) rfl (Nat.le_of_ble_eq_true rfl) ?_
    intro p e s m below meth c C hP hK hZ ls hl
    have hl : lv_has ls 5 [(0, .ref a0_0), (1, .int x1), (2, .int x2)] := hl
    obtain ⟨hx, hb, hr, hml, hown, hlocks, hts⟩ := id C
    refine lv_iload_n hx hb dX5_emptyLeavesIn_0 rfl (lv_at hl 2 rfl) ?_
    refine lv_bipush (v := 6) hx hb dX5_emptyLeavesIn_1 (by decide) ?_
    refine lv_icmp_ge (tgt := 15) hx hb dX5_emptyLeavesIn_3 (by decide) (fun c_3_k_1 => ?_) (fun c_3_k_1 => ?_)
    · have hv := qT c_3_k_1 hv
      exact wfX5_emptyLeavesIn_L15 C hP hK hZ (hself := hself) x1 hv _ (lv_sub hl [0, 1] rfl)
    · have hv := qF c_3_k_1 hv
      refine lv_aload_n hx hb dX5_emptyLeavesIn_6 rfl (lv_at hl 0 rfl) ?_
      refine lv_iload_n hx hb dX5_emptyLeavesIn_7 rfl (lv_at hl 1 rfl) ?_
      refine lv_iload_n hx hb dX5_emptyLeavesIn_8 rfl (lv_at hl 2 rfl) ?_
      obtain ⟨r_4, hr_4, hv⟩ := qB hv
      refine q_V (As := [.int x1, .int x2]) (rest := []) (C := RX5) (T0 := TX5) (N0 := 2) (ci := 4) hx hb hml hown hts hl.1 (kX5_wouldBeSplit l D E a0_0 a0_1 a0_2 a0_3 a0_4 hr_4) zNo_mv (cwV 2 hts gX5_emptyLeavesIn_X5_wouldBeSplit rfl rfl rfl (by decide +kernel) ⟨(rmR_f (by decide)), (rmR_l (by decide))⟩) 0 rfl rfl (hP.sub (ws' := (wTree E a0_0 a0_1 a0_2 a0_3 a0_4 T0)) [0, 1, 2, 3, 4] rfl) hK hZ rfl rfl (Nat.le_of_ble_eq_true rfl) dX5_emptyLeavesIn_9 ⟨Nat.zero_le _, Nat.zero_le _⟩ ?_
      refine lv_if_ne (tgt := 29) hx hb dX5_emptyLeavesIn_12 (by decide) (fun c_12_k_5 => ?_) (fun c_12_k_5 => ?_)
      · have hv := qF c_12_k_5 hv
        refine lv_iconst (v := 0) hx hb dX5_emptyLeavesIn_29 (by decide) ?_
        refine lv_istore_n (lv' := [(3, .int (0:Int32)), (0, .ref a0_0), (1, .int x1), (2, .int x2)]) hx hb dX5_emptyLeavesIn_30 rfl hl (by decide) rfl (fun ls hl => ?_)
        refine lv_iconst (v := 0) hx hb dX5_emptyLeavesIn_31 (by decide) ?_
        refine lv_istore (lv' := [(4, .int (0:Int32)), (3, .int (0:Int32)), (0, .ref a0_0), (1, .int x1), (2, .int x2)]) hx hb dX5_emptyLeavesIn_32 hl (by decide) rfl (fun ls hl => ?_)
        exact wfX5_emptyLeavesIn_L34 C hP hK hZ (hself := hself) 6000 (0:Int32) (0:Int32) hv _ (lv_sub hl [2, 3, 4, 1, 0] rfl)
      · have hv := qT c_12_k_5 hv
        exact wfX5_emptyLeavesIn_L15 C hP hK hZ (hself := hself) x1 hv _ (lv_sub hl [0, 1] rfl)
theorem kX5_emptyLeavesIn (l : Launch) (D : va_G) (E : Nat → ClassId) (a0_0 a0_1 a0_2 a0_3 a0_4 : Nat) {T0 : FS} {x1 : Int32} {x2 : Int32} {v : Int32} (hv : fX5_emptyLeavesIn T0 8 x1 x2 = some v) : PU l yX5_emptyLeavesIn wsX5_emptyLeavesIn (rmR 3 65 24 8) D E zNo ((wTree E a0_0 a0_1 a0_2 a0_3 a0_4 T0)) [.ref a0_0, .int x1, .int x2] v := kkX5_emptyLeavesIn l D E a0_0 a0_1 a0_2 a0_3 a0_4 8 x1 x2 v hv

theorem lkX5_deepestIn_120a : (.methodLink RX5 120 Lib.Math.max.name : Cond) ∈ wsX5_deepestIn := by decide +kernel
theorem lkX5_deepestIn_120b : (.static Lib.Math.max.name : Cond) ∈ wsX5_deepestIn := by decide +kernel
theorem lkX5_deepestIn_120c : (.initialized "java/lang/Math" : Cond) ∈ wsX5_deepestIn := by decide +kernel
theorem lkX5_deepestIn_120d : (.code Lib.Math.max.name Lib.Math.max.code 2 (some .int) : Cond) ∈ wsX5_deepestIn := by decide +kernel
set_option maxRecDepth 100000 in
set_option maxHeartbeats 4000000 in
theorem wfX5_deepestIn_L22 {p : Program} {e : Env} {s : State} {m : MethodId} {below : List Frame} {meth : Method} {c : Code} {l : Launch} {D : va_G} {E : Nat → ClassId} {a0_0 a0_1 a0_2 a0_3 a0_4 : Nat} {T0 : FS} {x1 : Int32} {x2 : Int32} {dd : Nat} {v : Int32} {y1 : Int32} {y2 : Int32} (C : Ctx p s m meth c [.ref a0_0, .int x1, .int x2] wsX5_deepestIn cX5_deepestIn 5 (some .int) RX5) (hP : va_P D vwCl ((wTree E a0_0 a0_1 a0_2 a0_3 a0_4 T0)) s.heap) (hK : va_K D vwCl (tyE E) s) (hZ : zNo s s.heap) {self : Int32 → Int32 → Option Int32} (hself : ∀ (x1 x2 v : Int32), self x1 x2 = some v → PU l yX5_deepestIn wsX5_deepestIn (rmR 3 65 24 dd) D E zNo ((wTree E a0_0 a0_1 a0_2 a0_3 a0_4 T0)) [.ref a0_0, .int x1, .int x2] v) : ∀ (q : Nat) (y3 : Int32) (y4 : Int32), fX5_deepestIn_L22 T0 self y1 y2 q y3 y4 = some v → ∀ ls, lv_has ls 5 [(0, .ref a0_0), (1, .int y1), (2, .int y2), (3, .int y3), (4, .int y4)] → WP p l e (rmR 3 65 24 (dd + 1)) s m [.ref a0_0, .int x1, .int x2] below meth c v 22 ls [] := by
  obtain ⟨hx, hb, hr, hml, hown, hlocks, hts⟩ := id C
  intro q
  induction q with
  | zero =>
    intro y3 y4 hv
    cases hv
  | succ q ih =>
    intro y3 y4 hv ls hl
    rw [fX5_deepestIn_L22.eq_2] at hv
    refine lv_iload hx hb dX5_deepestIn_22 (lv_at hl 4 rfl) ?_
    refine lv_iconst (v := 4) hx hb dX5_deepestIn_24 (by decide) ?_
    refine lv_icmp_ge (tgt := 52) hx hb dX5_deepestIn_25 (by decide) (fun c_25_k_4 => ?_) (fun c_25_k_4 => ?_)
    · have hv := qT c_25_k_4 hv
      refine lv_iload_n hx hb dX5_deepestIn_52 rfl (lv_at hl 3 rfl) ?_
      exact q_ret C dX5_deepestIn_53 hv
    · have hv := qF c_25_k_4 hv
      refine lv_iload_n hx hb dX5_deepestIn_28 rfl (lv_at hl 3 rfl) ?_
      refine lv_aload_n hx hb dX5_deepestIn_29 rfl (lv_at hl 0 rfl) ?_
      refine lv_iconst (v := 4) hx hb dX5_deepestIn_30 (by decide) ?_
      refine lv_iload_n hx hb dX5_deepestIn_31 rfl (lv_at hl 1 rfl) ?_
      refine lv_imul hx hb dX5_deepestIn_32 ?_
      refine lv_iload hx hb dX5_deepestIn_33 (lv_at hl 4 rfl) ?_
      refine lv_iadd hx hb dX5_deepestIn_35 ?_
      refine lv_iload_n hx hb dX5_deepestIn_36 rfl (lv_at hl 2 rfl) ?_
      refine lv_iconst (v := 1) hx hb dX5_deepestIn_37 (by decide) ?_
      refine lv_iadd hx hb dX5_deepestIn_38 ?_
      obtain ⟨r_5, hr_5, hv⟩ := qB hv
      refine q_S (As := [.ref a0_0, .int (((4:Int32) * y1) + y4), .int (y2 + (1:Int32))]) (rest := [.int y3]) hx hb hml hown hts hl.1 (hself (((4:Int32) * y1) + y4) (y2 + (1:Int32)) r_5 hr_5) zNo_mv (va_cwS 3 hts gX5_deepestIn_X5_deepestIn rfl rfl rfl (by decide +kernel) ⟨rmR_sf, (rmR_sl (by decide))⟩) (hP.sub (ws' := (wTree E a0_0 a0_1 a0_2 a0_3 a0_4 T0)) [0, 1, 2, 3, 4] rfl) hK hZ rfl rfl (Nat.le_of_ble_eq_true rfl) dX5_deepestIn_39 ⟨Nat.zero_le _, Nat.zero_le _⟩ ?_
      refine va_mmax hx hb (hml.trans hl.1.symm) hown (hts _ lkX5_deepestIn_120a) (hts _ lkX5_deepestIn_120b) (hts _ lkX5_deepestIn_120c) (hts _ lkX5_deepestIn_120d) (rmR_1 (Nat.le_of_ble_eq_true rfl)) (rmR_13 (Nat.le_of_ble_eq_true rfl)) (Nat.zero_le _) (Nat.zero_le _) dX5_deepestIn_42 ?_
      refine lv_istore_n (lv' := [(3, .int (if y3 < r_5 then r_5 else y3)), (0, .ref a0_0), (1, .int y1), (2, .int y2), (4, .int y4)]) hx hb dX5_deepestIn_45 rfl hl (by decide) rfl (fun ls hl => ?_)
      refine lv_iinc (v := (y4 + 1)) (lv' := [(4, .int (y4 + 1)), (3, .int (if y3 < r_5 then r_5 else y3)), (0, .ref a0_0), (1, .int y1), (2, .int y2)]) hx hb dX5_deepestIn_46 hl (k := 4) rfl (by rfl) (by decide) rfl (fun ls hl => ?_)
      refine lv_goto (tgt := 22) hx hb dX5_deepestIn_49 (by decide) ?_
      exact ih (if y3 < r_5 then r_5 else y3) (y4 + 1) hv _ (lv_sub hl [2, 3, 4, 1, 0] rfl)

set_option maxRecDepth 100000 in
set_option maxHeartbeats 4000000 in
theorem kkX5_deepestIn (l : Launch) (D : va_G) (E : Nat → ClassId) (a0_0 a0_1 a0_2 a0_3 a0_4 : Nat) {T0 : FS} : ∀ (dd : Nat) (x1 x2 v : Int32), fX5_deepestIn T0 dd x1 x2 = some v → PU l yX5_deepestIn wsX5_deepestIn (rmR 3 65 24 dd) D E zNo ((wTree E a0_0 a0_1 a0_2 a0_3 a0_4 T0)) [.ref a0_0, .int x1, .int x2] v := by
  intro dd
  induction dd with
  | zero =>
    intro x1 x2 v hv
    cases hv
  | succ dd hself =>
    intro x1 x2 v hv
    rw [fX5_deepestIn.eq_2] at hv
    unfold fX5_deepestIn_B at hv
    generalize fX5_deepestIn T0 dd = self at hself hv
    refine PU.of (by decide) rfl (Nat.le_of_ble_eq_true rfl) ?_
    intro p e s m below meth c C hP hK hZ ls hl
    have hl : lv_has ls 5 [(0, .ref a0_0), (1, .int x1), (2, .int x2)] := hl
    obtain ⟨hx, hb, hr, hml, hown, hlocks, hts⟩ := id C
    refine lv_iload_n hx hb dX5_deepestIn_0 rfl (lv_at hl 2 rfl) ?_
    refine lv_bipush (v := 6) hx hb dX5_deepestIn_1 (by decide) ?_
    refine lv_icmp_ge (tgt := 15) hx hb dX5_deepestIn_3 (by decide) (fun c_3_k_1 => ?_) (fun c_3_k_1 => ?_)
    · have hv := qT c_3_k_1 hv
      refine lv_iload_n hx hb dX5_deepestIn_15 rfl (lv_at hl 2 rfl) ?_
      exact q_ret C dX5_deepestIn_16 hv
    · have hv := qF c_3_k_1 hv
      refine lv_aload_n hx hb dX5_deepestIn_6 rfl (lv_at hl 0 rfl) ?_
      refine lv_iload_n hx hb dX5_deepestIn_7 rfl (lv_at hl 1 rfl) ?_
      refine lv_iload_n hx hb dX5_deepestIn_8 rfl (lv_at hl 2 rfl) ?_
      obtain ⟨r_2, hr_2, hv⟩ := qB hv
      refine q_V (As := [.int x1, .int x2]) (rest := []) (C := RX5) (T0 := TX5) (N0 := 2) (ci := 4) hx hb hml hown hts hl.1 (kX5_wouldBeSplit l D E a0_0 a0_1 a0_2 a0_3 a0_4 hr_2) zNo_mv (cwV 2 hts gX5_deepestIn_X5_wouldBeSplit rfl rfl rfl (by decide +kernel) ⟨(rmR_f (by decide)), (rmR_l (by decide))⟩) 0 rfl rfl (hP.sub (ws' := (wTree E a0_0 a0_1 a0_2 a0_3 a0_4 T0)) [0, 1, 2, 3, 4] rfl) hK hZ rfl rfl (Nat.le_of_ble_eq_true rfl) dX5_deepestIn_9 ⟨Nat.zero_le _, Nat.zero_le _⟩ ?_
      refine lv_if_ne (tgt := 17) hx hb dX5_deepestIn_12 (by decide) (fun c_12_k_3 => ?_) (fun c_12_k_3 => ?_)
      · have hv := qF c_12_k_3 hv
        refine lv_iconst (v := 0) hx hb dX5_deepestIn_17 (by decide) ?_
        refine lv_istore_n (lv' := [(3, .int (0:Int32)), (0, .ref a0_0), (1, .int x1), (2, .int x2)]) hx hb dX5_deepestIn_18 rfl hl (by decide) rfl (fun ls hl => ?_)
        refine lv_iconst (v := 0) hx hb dX5_deepestIn_19 (by decide) ?_
        refine lv_istore (lv' := [(4, .int (0:Int32)), (3, .int (0:Int32)), (0, .ref a0_0), (1, .int x1), (2, .int x2)]) hx hb dX5_deepestIn_20 hl (by decide) rfl (fun ls hl => ?_)
        exact wfX5_deepestIn_L22 C hP hK hZ (hself := hself) 6000 (0:Int32) (0:Int32) hv _ (lv_sub hl [2, 3, 4, 1, 0] rfl)
      · have hv := qT c_12_k_3 hv
        refine lv_iload_n hx hb dX5_deepestIn_15 rfl (lv_at hl 2 rfl) ?_
        exact q_ret C dX5_deepestIn_16 hv
theorem kX5_deepestIn (l : Launch) (D : va_G) (E : Nat → ClassId) (a0_0 a0_1 a0_2 a0_3 a0_4 : Nat) {T0 : FS} {x1 : Int32} {x2 : Int32} {v : Int32} (hv : fX5_deepestIn T0 8 x1 x2 = some v) : PU l yX5_deepestIn wsX5_deepestIn (rmR 3 65 24 8) D E zNo ((wTree E a0_0 a0_1 a0_2 a0_3 a0_4 T0)) [.ref a0_0, .int x1, .int x2] v := kkX5_deepestIn l D E a0_0 a0_1 a0_2 a0_3 a0_4 8 x1 x2 v hv

set_option maxRecDepth 100000 in
set_option maxHeartbeats 4000000 in
theorem wfX5_leavesMeeting_L34 {p : Program} {e : Env} {s : State} {m : MethodId} {below : List Frame} {meth : Method} {c : Code} {l : Launch} {D : va_G} {E : Nat → ClassId} {a0_0 a0_1 a0_2 a0_3 a0_4 : Nat} {a1_0 : Nat} {T0 : FS} {w1 : FA} {x2 : Int32} {x3 : Int32} {dd : Nat} {v : Int32} {y2 : Int32} {y3 : Int32} (C : Ctx p s m meth c [.ref a0_0, .ref a1_0, .int x2, .int x3] wsX5_leavesMeeting cX5_leavesMeeting 6 (some .int) RX5) (hP : va_P D vwCl ((wTree E a0_0 a0_1 a0_2 a0_3 a0_4 T0) ++ (wWin a1_0 w1)) s.heap) (hK : va_K D vwCl (tyE E) s) (hZ : zNo s s.heap) {self : Int32 → Int32 → Option Int32} (hself : ∀ (x2 x3 v : Int32), self x2 x3 = some v → PU l yX5_leavesMeeting wsX5_leavesMeeting (rmR 3 68 25 dd) D E zNo ((wTree E a0_0 a0_1 a0_2 a0_3 a0_4 T0) ++ (wWin a1_0 w1)) [.ref a0_0, .ref a1_0, .int x2, .int x3] v) : ∀ (q : Nat) (y4 : Int32) (y5 : Int32), fX5_leavesMeeting_L34 T0 w1 self y2 y3 q y4 y5 = some v → ∀ ls, lv_has ls 6 [(0, .ref a0_0), (1, .ref a1_0), (2, .int y2), (3, .int y3), (4, .int y4), (5, .int y5)] → WP p l e (rmR 3 68 25 (dd + 1)) s m [.ref a0_0, .ref a1_0, .int x2, .int x3] below meth c v 34 ls [] := by
  obtain ⟨hx, hb, hr, hml, hown, hlocks, hts⟩ := id C
  intro q
  induction q with
  | zero =>
    intro y4 y5 hv
    cases hv
  | succ q ih =>
    intro y4 y5 hv ls hl
    rw [fX5_leavesMeeting_L34.eq_2] at hv
    refine lv_iload hx hb dX5_leavesMeeting_34 (lv_at hl 5 rfl) ?_
    refine lv_iconst (v := 4) hx hb dX5_leavesMeeting_36 (by decide) ?_
    refine lv_icmp_ge (tgt := 65) hx hb dX5_leavesMeeting_37 (by decide) (fun c_37_k_6 => ?_) (fun c_37_k_6 => ?_)
    · have hv := qT c_37_k_6 hv
      refine lv_iload hx hb dX5_leavesMeeting_65 (lv_at hl 4 rfl) ?_
      exact q_ret C dX5_leavesMeeting_67 hv
    · have hv := qF c_37_k_6 hv
      refine lv_iload hx hb dX5_leavesMeeting_40 (lv_at hl 4 rfl) ?_
      refine lv_aload_n hx hb dX5_leavesMeeting_42 rfl (lv_at hl 0 rfl) ?_
      refine lv_aload_n hx hb dX5_leavesMeeting_43 rfl (lv_at hl 1 rfl) ?_
      refine lv_iconst (v := 4) hx hb dX5_leavesMeeting_44 (by decide) ?_
      refine lv_iload_n hx hb dX5_leavesMeeting_45 rfl (lv_at hl 2 rfl) ?_
      refine lv_imul hx hb dX5_leavesMeeting_46 ?_
      refine lv_iload hx hb dX5_leavesMeeting_47 (lv_at hl 5 rfl) ?_
      refine lv_iadd hx hb dX5_leavesMeeting_49 ?_
      refine lv_iload_n hx hb dX5_leavesMeeting_50 rfl (lv_at hl 3 rfl) ?_
      refine lv_iconst (v := 1) hx hb dX5_leavesMeeting_51 (by decide) ?_
      refine lv_iadd hx hb dX5_leavesMeeting_52 ?_
      obtain ⟨r_7, hr_7, hv⟩ := qB hv
      refine q_S (As := [.ref a0_0, .ref a1_0, .int (((4:Int32) * y2) + y5), .int (y3 + (1:Int32))]) (rest := [.int y4]) hx hb hml hown hts hl.1 (hself (((4:Int32) * y2) + y5) (y3 + (1:Int32)) r_7 hr_7) zNo_mv (va_cwS 4 hts gX5_leavesMeeting_X5_leavesMeeting rfl rfl rfl (by decide +kernel) ⟨rmR_sf, (rmR_sl (by decide))⟩) (hP.sub (ws' := (wTree E a0_0 a0_1 a0_2 a0_3 a0_4 T0) ++ (wWin a1_0 w1)) [0, 1, 2, 3, 4, 5] rfl) hK hZ rfl rfl (Nat.le_of_ble_eq_true rfl) dX5_leavesMeeting_53 ⟨Nat.zero_le _, Nat.zero_le _⟩ ?_
      refine lv_iadd hx hb dX5_leavesMeeting_56 ?_
      refine lv_istore (lv' := [(4, .int (y4 + r_7)), (0, .ref a0_0), (1, .ref a1_0), (2, .int y2), (3, .int y3), (5, .int y5)]) hx hb dX5_leavesMeeting_57 hl (by decide) rfl (fun ls hl => ?_)
      refine lv_iinc (v := (y5 + 1)) (lv' := [(5, .int (y5 + 1)), (4, .int (y4 + r_7)), (0, .ref a0_0), (1, .ref a1_0), (2, .int y2), (3, .int y3)]) hx hb dX5_leavesMeeting_59 hl (k := 5) rfl (by rfl) (by decide) rfl (fun ls hl => ?_)
      refine lv_goto (tgt := 34) hx hb dX5_leavesMeeting_62 (by decide) ?_
      exact ih (y4 + r_7) (y5 + 1) hv _ (lv_sub hl [2, 3, 4, 5, 1, 0] rfl)

set_option maxRecDepth 100000 in
set_option maxHeartbeats 4000000 in
theorem kkX5_leavesMeeting (l : Launch) (D : va_G) (E : Nat → ClassId) (a0_0 a0_1 a0_2 a0_3 a0_4 : Nat) (a1_0 : Nat) {T0 : FS} {w1 : FA} : ∀ (dd : Nat) (x2 x3 v : Int32), fX5_leavesMeeting T0 w1 dd x2 x3 = some v → PU l yX5_leavesMeeting wsX5_leavesMeeting (rmR 3 68 25 dd) D E zNo ((wTree E a0_0 a0_1 a0_2 a0_3 a0_4 T0) ++ (wWin a1_0 w1)) [.ref a0_0, .ref a1_0, .int x2, .int x3] v := by
  intro dd
  induction dd with
  | zero =>
    intro x2 x3 v hv
    cases hv
  | succ dd hself =>
    intro x2 x3 v hv
    rw [fX5_leavesMeeting.eq_2] at hv
    unfold fX5_leavesMeeting_B at hv
    generalize fX5_leavesMeeting T0 w1 dd = self at hself hv
    refine PU.of (by decide) rfl (Nat.le_of_ble_eq_true rfl) ?_
    intro p e s m below meth c C hP hK hZ ls hl
    have hl : lv_has ls 6 [(0, .ref a0_0), (1, .ref a1_0), (2, .int x2), (3, .int x3)] := hl
    obtain ⟨hx, hb, hr, hml, hown, hlocks, hts⟩ := id C
    refine lv_aload_n hx hb dX5_leavesMeeting_0 rfl (lv_at hl 1 rfl) ?_
    refine lv_iload_n hx hb dX5_leavesMeeting_1 rfl (lv_at hl 2 rfl) ?_
    refine lv_iload_n hx hb dX5_leavesMeeting_2 rfl (lv_at hl 3 rfl) ?_
    obtain ⟨r_1, hr_1, hv⟩ := qB hv
    refine q_V (As := [.int x2, .int x3]) (rest := []) (C := RX6) (T0 := TX6) (N0 := 4) (ci := 5) hx hb hml hown hts hl.1 (kX6_meets l D E a1_0 hr_1) zNo_mv (cwV 2 hts gX5_leavesMeeting_X6_meets rfl rfl rfl (by decide +kernel) ⟨(rmR_f (by decide)), (rmR_l (by decide))⟩) 0 rfl rfl (hP.sub (ws' := (wWin a1_0 w1)) [5] rfl) hK hZ rfl rfl (Nat.le_of_ble_eq_true rfl) dX5_leavesMeeting_3 ⟨Nat.zero_le _, Nat.zero_le _⟩ ?_
    refine lv_if_ne (tgt := 11) hx hb dX5_leavesMeeting_6 (by decide) (fun c_6_k_2 => ?_) (fun c_6_k_2 => ?_)
    · have hv := qF c_6_k_2 hv
      refine lv_iload_n hx hb dX5_leavesMeeting_11 rfl (lv_at hl 3 rfl) ?_
      refine lv_bipush (v := 6) hx hb dX5_leavesMeeting_12 (by decide) ?_
      refine lv_icmp_ge (tgt := 26) hx hb dX5_leavesMeeting_14 (by decide) (fun c_14_k_3 => ?_) (fun c_14_k_3 => ?_)
      · have hv := qT c_14_k_3 hv
        refine lv_iconst (v := 1) hx hb dX5_leavesMeeting_26 (by decide) ?_
        exact q_ret C dX5_leavesMeeting_27 hv
      · have hv := qF c_14_k_3 hv
        refine lv_aload_n hx hb dX5_leavesMeeting_17 rfl (lv_at hl 0 rfl) ?_
        refine lv_iload_n hx hb dX5_leavesMeeting_18 rfl (lv_at hl 2 rfl) ?_
        refine lv_iload_n hx hb dX5_leavesMeeting_19 rfl (lv_at hl 3 rfl) ?_
        obtain ⟨r_4, hr_4, hv⟩ := qB hv
        refine q_V (As := [.int x2, .int x3]) (rest := []) (C := RX5) (T0 := TX5) (N0 := 2) (ci := 4) hx hb hml hown hts hl.1 (kX5_wouldBeSplit l D E a0_0 a0_1 a0_2 a0_3 a0_4 hr_4) zNo_mv (cwV 2 hts gX5_leavesMeeting_X5_wouldBeSplit rfl rfl rfl (by decide +kernel) ⟨(rmR_f (by decide)), (rmR_l (by decide))⟩) 0 rfl rfl (hP.sub (ws' := (wTree E a0_0 a0_1 a0_2 a0_3 a0_4 T0)) [0, 1, 2, 3, 4] rfl) hK hZ rfl rfl (Nat.le_of_ble_eq_true rfl) dX5_leavesMeeting_20 ⟨Nat.zero_le _, Nat.zero_le _⟩ ?_
        refine lv_if_ne (tgt := 28) hx hb dX5_leavesMeeting_23 (by decide) (fun c_23_k_5 => ?_) (fun c_23_k_5 => ?_)
        · have hv := qF c_23_k_5 hv
          refine lv_iconst (v := 0) hx hb dX5_leavesMeeting_28 (by decide) ?_
          refine lv_istore (lv' := [(4, .int (0:Int32)), (0, .ref a0_0), (1, .ref a1_0), (2, .int x2), (3, .int x3)]) hx hb dX5_leavesMeeting_29 hl (by decide) rfl (fun ls hl => ?_)
          refine lv_iconst (v := 0) hx hb dX5_leavesMeeting_31 (by decide) ?_
          refine lv_istore (lv' := [(5, .int (0:Int32)), (4, .int (0:Int32)), (0, .ref a0_0), (1, .ref a1_0), (2, .int x2), (3, .int x3)]) hx hb dX5_leavesMeeting_32 hl (by decide) rfl (fun ls hl => ?_)
          exact wfX5_leavesMeeting_L34 C hP hK hZ (hself := hself) 6000 (0:Int32) (0:Int32) hv _ (lv_sub hl [2, 3, 4, 5, 1, 0] rfl)
        · have hv := qT c_23_k_5 hv
          refine lv_iconst (v := 1) hx hb dX5_leavesMeeting_26 (by decide) ?_
          exact q_ret C dX5_leavesMeeting_27 hv
    · have hv := qT c_6_k_2 hv
      refine lv_iconst (v := 0) hx hb dX5_leavesMeeting_9 (by decide) ?_
      exact q_ret C dX5_leavesMeeting_10 hv
theorem kX5_leavesMeeting (l : Launch) (D : va_G) (E : Nat → ClassId) (a0_0 a0_1 a0_2 a0_3 a0_4 : Nat) (a1_0 : Nat) {T0 : FS} {w1 : FA} {x2 : Int32} {x3 : Int32} {v : Int32} (hv : fX5_leavesMeeting T0 w1 8 x2 x3 = some v) : PU l yX5_leavesMeeting wsX5_leavesMeeting (rmR 3 68 25 8) D E zNo ((wTree E a0_0 a0_1 a0_2 a0_3 a0_4 T0) ++ (wWin a1_0 w1)) [.ref a0_0, .ref a1_0, .int x2, .int x3] v := kkX5_leavesMeeting l D E a0_0 a0_1 a0_2 a0_3 a0_4 a1_0 8 x2 x3 v hv

set_option maxRecDepth 100000 in
set_option maxHeartbeats 4000000 in
theorem wfX5_tilesMeeting_L32 {p : Program} {e : Env} {s : State} {m : MethodId} {below : List Frame} {meth : Method} {c : Code} {l : Launch} {D : va_G} {E : Nat → ClassId} {a0_0 a0_1 a0_2 a0_3 a0_4 : Nat} {a1_0 : Nat} {T0 : FS} {w1 : FA} {x2 : Int32} {x3 : Int32} {dd : Nat} {v : Int32} {y2 : Int32} {y3 : Int32} (C : Ctx p s m meth c [.ref a0_0, .ref a1_0, .int x2, .int x3] wsX5_tilesMeeting cX5_tilesMeeting 6 (some .int) RX5) (hP : va_P D vwCl ((wTree E a0_0 a0_1 a0_2 a0_3 a0_4 T0) ++ (wWin a1_0 w1)) s.heap) (hK : va_K D vwCl (tyE E) s) (hZ : zNo s s.heap) {self : Int32 → Int32 → Option Int32} (hself : ∀ (x2 x3 v : Int32), self x2 x3 = some v → PU l yX5_tilesMeeting wsX5_tilesMeeting (rmR 3 68 25 dd) D E zNo ((wTree E a0_0 a0_1 a0_2 a0_3 a0_4 T0) ++ (wWin a1_0 w1)) [.ref a0_0, .ref a1_0, .int x2, .int x3] v) : ∀ (q : Nat) (y4 : Int32) (y5 : Int32), fX5_tilesMeeting_L32 T0 w1 self y2 y3 q y4 y5 = some v → ∀ ls, lv_has ls 6 [(0, .ref a0_0), (1, .ref a1_0), (2, .int y2), (3, .int y3), (4, .int y4), (5, .int y5)] → WP p l e (rmR 3 68 25 (dd + 1)) s m [.ref a0_0, .ref a1_0, .int x2, .int x3] below meth c v 32 ls [] := by
  obtain ⟨hx, hb, hr, hml, hown, hlocks, hts⟩ := id C
  intro q
  induction q with
  | zero =>
    intro y4 y5 hv
    cases hv
  | succ q ih =>
    intro y4 y5 hv ls hl
    rw [fX5_tilesMeeting_L32.eq_2] at hv
    refine lv_iload hx hb dX5_tilesMeeting_32 (lv_at hl 5 rfl) ?_
    refine lv_iconst (v := 4) hx hb dX5_tilesMeeting_34 (by decide) ?_
    refine lv_icmp_ge (tgt := 63) hx hb dX5_tilesMeeting_35 (by decide) (fun c_35_k_6 => ?_) (fun c_35_k_6 => ?_)
    · have hv := qT c_35_k_6 hv
      refine lv_iload hx hb dX5_tilesMeeting_63 (lv_at hl 4 rfl) ?_
      exact q_ret C dX5_tilesMeeting_65 hv
    · have hv := qF c_35_k_6 hv
      refine lv_iload hx hb dX5_tilesMeeting_38 (lv_at hl 4 rfl) ?_
      refine lv_aload_n hx hb dX5_tilesMeeting_40 rfl (lv_at hl 0 rfl) ?_
      refine lv_aload_n hx hb dX5_tilesMeeting_41 rfl (lv_at hl 1 rfl) ?_
      refine lv_iconst (v := 4) hx hb dX5_tilesMeeting_42 (by decide) ?_
      refine lv_iload_n hx hb dX5_tilesMeeting_43 rfl (lv_at hl 2 rfl) ?_
      refine lv_imul hx hb dX5_tilesMeeting_44 ?_
      refine lv_iload hx hb dX5_tilesMeeting_45 (lv_at hl 5 rfl) ?_
      refine lv_iadd hx hb dX5_tilesMeeting_47 ?_
      refine lv_iload_n hx hb dX5_tilesMeeting_48 rfl (lv_at hl 3 rfl) ?_
      refine lv_iconst (v := 1) hx hb dX5_tilesMeeting_49 (by decide) ?_
      refine lv_iadd hx hb dX5_tilesMeeting_50 ?_
      obtain ⟨r_7, hr_7, hv⟩ := qB hv
      refine q_S (As := [.ref a0_0, .ref a1_0, .int (((4:Int32) * y2) + y5), .int (y3 + (1:Int32))]) (rest := [.int y4]) hx hb hml hown hts hl.1 (hself (((4:Int32) * y2) + y5) (y3 + (1:Int32)) r_7 hr_7) zNo_mv (va_cwS 4 hts gX5_tilesMeeting_X5_tilesMeeting rfl rfl rfl (by decide +kernel) ⟨rmR_sf, (rmR_sl (by decide))⟩) (hP.sub (ws' := (wTree E a0_0 a0_1 a0_2 a0_3 a0_4 T0) ++ (wWin a1_0 w1)) [0, 1, 2, 3, 4, 5] rfl) hK hZ rfl rfl (Nat.le_of_ble_eq_true rfl) dX5_tilesMeeting_51 ⟨Nat.zero_le _, Nat.zero_le _⟩ ?_
      refine lv_iadd hx hb dX5_tilesMeeting_54 ?_
      refine lv_istore (lv' := [(4, .int (y4 + r_7)), (0, .ref a0_0), (1, .ref a1_0), (2, .int y2), (3, .int y3), (5, .int y5)]) hx hb dX5_tilesMeeting_55 hl (by decide) rfl (fun ls hl => ?_)
      refine lv_iinc (v := (y5 + 1)) (lv' := [(5, .int (y5 + 1)), (4, .int (y4 + r_7)), (0, .ref a0_0), (1, .ref a1_0), (2, .int y2), (3, .int y3)]) hx hb dX5_tilesMeeting_57 hl (k := 5) rfl (by rfl) (by decide) rfl (fun ls hl => ?_)
      refine lv_goto (tgt := 32) hx hb dX5_tilesMeeting_60 (by decide) ?_
      exact ih (y4 + r_7) (y5 + 1) hv _ (lv_sub hl [2, 3, 4, 5, 1, 0] rfl)

set_option maxRecDepth 100000 in
set_option maxHeartbeats 4000000 in
theorem kkX5_tilesMeeting (l : Launch) (D : va_G) (E : Nat → ClassId) (a0_0 a0_1 a0_2 a0_3 a0_4 : Nat) (a1_0 : Nat) {T0 : FS} {w1 : FA} : ∀ (dd : Nat) (x2 x3 v : Int32), fX5_tilesMeeting T0 w1 dd x2 x3 = some v → PU l yX5_tilesMeeting wsX5_tilesMeeting (rmR 3 68 25 dd) D E zNo ((wTree E a0_0 a0_1 a0_2 a0_3 a0_4 T0) ++ (wWin a1_0 w1)) [.ref a0_0, .ref a1_0, .int x2, .int x3] v := by
  intro dd
  induction dd with
  | zero =>
    intro x2 x3 v hv
    cases hv
  | succ dd hself =>
    intro x2 x3 v hv
    rw [fX5_tilesMeeting.eq_2] at hv
    unfold fX5_tilesMeeting_B at hv
    generalize fX5_tilesMeeting T0 w1 dd = self at hself hv
    refine PU.of (by decide) rfl (Nat.le_of_ble_eq_true rfl) ?_
    intro p e s m below meth c C hP hK hZ ls hl
    have hl : lv_has ls 6 [(0, .ref a0_0), (1, .ref a1_0), (2, .int x2), (3, .int x3)] := hl
    obtain ⟨hx, hb, hr, hml, hown, hlocks, hts⟩ := id C
    refine lv_aload_n hx hb dX5_tilesMeeting_0 rfl (lv_at hl 1 rfl) ?_
    refine lv_iload_n hx hb dX5_tilesMeeting_1 rfl (lv_at hl 2 rfl) ?_
    refine lv_iload_n hx hb dX5_tilesMeeting_2 rfl (lv_at hl 3 rfl) ?_
    obtain ⟨r_1, hr_1, hv⟩ := qB hv
    refine q_V (As := [.int x2, .int x3]) (rest := []) (C := RX6) (T0 := TX6) (N0 := 4) (ci := 5) hx hb hml hown hts hl.1 (kX6_meets l D E a1_0 hr_1) zNo_mv (cwV 2 hts gX5_tilesMeeting_X6_meets rfl rfl rfl (by decide +kernel) ⟨(rmR_f (by decide)), (rmR_l (by decide))⟩) 0 rfl rfl (hP.sub (ws' := (wWin a1_0 w1)) [5] rfl) hK hZ rfl rfl (Nat.le_of_ble_eq_true rfl) dX5_tilesMeeting_3 ⟨Nat.zero_le _, Nat.zero_le _⟩ ?_
    refine lv_if_ne (tgt := 11) hx hb dX5_tilesMeeting_6 (by decide) (fun c_6_k_2 => ?_) (fun c_6_k_2 => ?_)
    · have hv := qF c_6_k_2 hv
      refine lv_iconst (v := 1) hx hb dX5_tilesMeeting_11 (by decide) ?_
      refine lv_istore (lv' := [(4, .int (1:Int32)), (0, .ref a0_0), (1, .ref a1_0), (2, .int x2), (3, .int x3)]) hx hb dX5_tilesMeeting_12 hl (by decide) rfl (fun ls hl => ?_)
      refine lv_iload_n hx hb dX5_tilesMeeting_14 rfl (lv_at hl 4 rfl) ?_
      refine lv_bipush (v := 6) hx hb dX5_tilesMeeting_15 (by decide) ?_
      refine lv_icmp_ge (tgt := 63) hx hb dX5_tilesMeeting_17 (by decide) (fun c_17_k_3 => ?_) (fun c_17_k_3 => ?_)
      · have hv := qT c_17_k_3 hv
        refine lv_iload hx hb dX5_tilesMeeting_63 (lv_at hl 0 rfl) ?_
        exact q_ret C dX5_tilesMeeting_65 hv
      · have hv := qF c_17_k_3 hv
        refine lv_aload_n hx hb dX5_tilesMeeting_20 rfl (lv_at hl 1 rfl) ?_
        refine lv_iload_n hx hb dX5_tilesMeeting_21 rfl (lv_at hl 3 rfl) ?_
        refine lv_iload_n hx hb dX5_tilesMeeting_22 rfl (lv_at hl 4 rfl) ?_
        obtain ⟨r_4, hr_4, hv⟩ := qB hv
        refine q_V (As := [.int x2, .int x3]) (rest := []) (C := RX5) (T0 := TX5) (N0 := 2) (ci := 4) hx hb hml hown hts hl.1 (kX5_wouldBeSplit l D E a0_0 a0_1 a0_2 a0_3 a0_4 hr_4) zNo_mv (cwV 2 hts gX5_tilesMeeting_X5_wouldBeSplit rfl rfl rfl (by decide +kernel) ⟨(rmR_f (by decide)), (rmR_l (by decide))⟩) 0 rfl rfl (hP.sub (ws' := (wTree E a0_0 a0_1 a0_2 a0_3 a0_4 T0)) [0, 1, 2, 3, 4] rfl) hK hZ rfl rfl (Nat.le_of_ble_eq_true rfl) dX5_tilesMeeting_23 ⟨Nat.zero_le _, Nat.zero_le _⟩ ?_
        refine lv_if_eq (tgt := 63) hx hb dX5_tilesMeeting_26 (by decide) (fun c_26_k_5 => ?_) (fun c_26_k_5 => ?_)
        · have hv := qT c_26_k_5 hv
          refine lv_iload hx hb dX5_tilesMeeting_63 (lv_at hl 0 rfl) ?_
          exact q_ret C dX5_tilesMeeting_65 hv
        · have hv := qF c_26_k_5 hv
          refine lv_iconst (v := 0) hx hb dX5_tilesMeeting_29 (by decide) ?_
          refine lv_istore (lv' := [(5, .int (0:Int32)), (4, .int (1:Int32)), (0, .ref a0_0), (1, .ref a1_0), (2, .int x2), (3, .int x3)]) hx hb dX5_tilesMeeting_30 hl (by decide) rfl (fun ls hl => ?_)
          exact wfX5_tilesMeeting_L32 C hP hK hZ (hself := hself) 6000 (1:Int32) (0:Int32) hv _ (lv_sub hl [2, 3, 4, 5, 1, 0] rfl)
    · have hv := qT c_6_k_2 hv
      refine lv_iconst (v := 0) hx hb dX5_tilesMeeting_9 (by decide) ?_
      exact q_ret C dX5_tilesMeeting_10 hv
theorem kX5_tilesMeeting (l : Launch) (D : va_G) (E : Nat → ClassId) (a0_0 a0_1 a0_2 a0_3 a0_4 : Nat) (a1_0 : Nat) {T0 : FS} {w1 : FA} {x2 : Int32} {x3 : Int32} {v : Int32} (hv : fX5_tilesMeeting T0 w1 8 x2 x3 = some v) : PU l yX5_tilesMeeting wsX5_tilesMeeting (rmR 3 68 25 8) D E zNo ((wTree E a0_0 a0_1 a0_2 a0_3 a0_4 T0) ++ (wWin a1_0 w1)) [.ref a0_0, .ref a1_0, .int x2, .int x3] v := kkX5_tilesMeeting l D E a0_0 a0_1 a0_2 a0_3 a0_4 a1_0 8 x2 x3 v hv

theorem lkX5_leavesSeen_140 : (.fieldLink RX5 140 "QuarterTiles$Tree" "ONE_QUARTER_SEEN" "[I" : Cond) ∈ wsX5_leavesSeen := by decide +kernel
theorem lkX5_leavesSeen_143 : (.fieldLink RX5 143 "QuarterTiles$Tree" "OTHER_QUARTER_SEEN" "[I" : Cond) ∈ wsX5_leavesSeen := by decide +kernel
set_option maxRecDepth 100000 in
set_option maxHeartbeats 4000000 in
theorem kkX5_leavesSeen (l : Launch) (D : va_G) (E : Nat → ClassId) (t : Nat → Nat) (a0_0 a0_1 a0_2 a0_3 a0_4 : Nat) {T0 : FS} : ∀ (dd : Nat) (x1 x2 x3 v : Int32), fX5_leavesSeen T0 dd x1 x2 x3 = some v → PU l yX5_leavesSeen wsX5_leavesSeen (rmR 3 65 24 dd) D E (zSt t) ((wTree E a0_0 a0_1 a0_2 a0_3 a0_4 T0)) [.ref a0_0, .int x1, .int x2, .int x3] v := by
  intro dd
  induction dd with
  | zero =>
    intro x1 x2 x3 v hv
    cases hv
  | succ dd hself =>
    intro x1 x2 x3 v hv
    rw [fX5_leavesSeen.eq_2] at hv
    unfold fX5_leavesSeen_B at hv
    generalize fX5_leavesSeen T0 dd = self at hself hv
    refine PU.of (by decide) rfl (Nat.le_of_ble_eq_true rfl) ?_
    intro p e s m below meth c C hP hK hZ ls hl
    have hl : lv_has ls 5 [(0, .ref a0_0), (1, .int x1), (2, .int x2), (3, .int x3)] := hl
    obtain ⟨hx, hb, hr, hml, hown, hlocks, hts⟩ := id C
    refine lv_iload_n hx hb dX5_leavesSeen_0 rfl (lv_at hl 2 rfl) ?_
    refine lv_bipush (v := 6) hx hb dX5_leavesSeen_1 (by decide) ?_
    refine lv_icmp_ge (tgt := 15) hx hb dX5_leavesSeen_3 (by decide) (fun c_3_k_1 => ?_) (fun c_3_k_1 => ?_)
    · have hv := qT c_3_k_1 hv
      refine lv_iconst (v := 1) hx hb dX5_leavesSeen_15 (by decide) ?_
      exact q_ret C dX5_leavesSeen_16 hv
    · have hv := qF c_3_k_1 hv
      refine lv_aload_n hx hb dX5_leavesSeen_6 rfl (lv_at hl 0 rfl) ?_
      refine lv_iload_n hx hb dX5_leavesSeen_7 rfl (lv_at hl 1 rfl) ?_
      refine lv_iload_n hx hb dX5_leavesSeen_8 rfl (lv_at hl 2 rfl) ?_
      obtain ⟨r_2, hr_2, hv⟩ := qB hv
      refine q_V (As := [.int x1, .int x2]) (rest := []) (C := RX5) (T0 := TX5) (N0 := 2) (ci := 4) hx hb hml hown hts hl.1 (kX5_wouldBeSplit l D E a0_0 a0_1 a0_2 a0_3 a0_4 hr_2) zNo_mv (cwV 2 hts gX5_leavesSeen_X5_wouldBeSplit rfl rfl rfl (by decide +kernel) ⟨(rmR_f (by decide)), (rmR_l (by decide))⟩) 0 rfl rfl (hP.sub (ws' := (wTree E a0_0 a0_1 a0_2 a0_3 a0_4 T0)) [0, 1, 2, 3, 4] rfl) hK trivial rfl rfl (Nat.le_of_ble_eq_true rfl) dX5_leavesSeen_9 ⟨Nat.zero_le _, Nat.zero_le _⟩ ?_
      refine lv_if_ne (tgt := 17) hx hb dX5_leavesSeen_12 (by decide) (fun c_12_k_3 => ?_) (fun c_12_k_3 => ?_)
      · have hv := qF c_12_k_3 hv
        refine lv_iload_n hx hb dX5_leavesSeen_17 rfl (lv_at hl 3 rfl) ?_
        refine lv_iconst (v := 2) hx hb dX5_leavesSeen_18 (by decide) ?_
        refine lv_idiv hx hb dX5_leavesSeen_19 (by decide) ?_
        refine lv_istore (lv' := [(4, .int (x3 / (2:Int32))), (0, .ref a0_0), (1, .int x1), (2, .int x2), (3, .int x3)]) hx hb dX5_leavesSeen_20 hl (by decide) rfl (fun ls hl => ?_)
        refine lv_iload hx hb dX5_leavesSeen_22 (lv_at hl 0 rfl) ?_
        refine lv_if_lt (tgt := 45) hx hb dX5_leavesSeen_24 (by decide) (fun c_24_k_4 => ?_) (fun c_24_k_4 => ?_)
        · have hv := qT c_24_k_4 hv
          refine lv_iconst (v := 0) hx hb dX5_leavesSeen_45 (by decide) ?_
          exact q_ret C dX5_leavesSeen_46 hv
        · have hv := qF c_24_k_4 hv
          refine lv_iload hx hb dX5_leavesSeen_27 (lv_at hl 0 rfl) ?_
          refine va_gets (A := nA) (C := "QuarterTiles$Tree") (n := "ONE_QUARTER_SEEN") (d := "[I") (v := .ref (t 2)) hx hb (hZ.2.2.2.2.1) va_S.rf hown (hts _ lkX5_leavesSeen_140) (fun _ h9 => h9) dX5_leavesSeen_29 ?_
          refine va_tlen (v := 4) hx hb (hZ.2.2.2.2.2.1) va_S.rf (by decide) dX5_leavesSeen_32 ?_
          refine lv_icmp_ge (tgt := 45) hx hb dX5_leavesSeen_33 (by decide) (fun c_33_k_5 => ?_) (fun c_33_k_5 => ?_)
          · have hv := qT c_33_k_5 hv
            refine lv_iconst (v := 0) hx hb dX5_leavesSeen_45 (by decide) ?_
            exact q_ret C dX5_leavesSeen_46 hv
          · have hv := qF c_33_k_5 hv
            refine lv_iload hx hb dX5_leavesSeen_36 (lv_at hl 0 rfl) ?_
            refine va_gets (A := nA) (C := "QuarterTiles$Tree") (n := "OTHER_QUARTER_SEEN") (d := "[I") (v := .ref (t 3)) hx hb (hZ.2.2.2.2.2.2.1) va_S.rf hown (hts _ lkX5_leavesSeen_143) (fun _ h9 => h9) dX5_leavesSeen_38 ?_
            refine va_tlen (v := 4) hx hb (hZ.2.2.2.2.2.2.2.1) va_S.rf (by decide) dX5_leavesSeen_41 ?_
            refine lv_icmp_lt (tgt := 47) hx hb dX5_leavesSeen_42 (by decide) (fun c_42_k_6 => ?_) (fun c_42_k_6 => ?_)
            · have hv := qT c_42_k_6 hv
              refine lv_aload_n hx hb dX5_leavesSeen_47 rfl (lv_at hl 1 rfl) ?_
              refine lv_iconst (v := 4) hx hb dX5_leavesSeen_48 (by decide) ?_
              refine lv_iload_n hx hb dX5_leavesSeen_49 rfl (lv_at hl 2 rfl) ?_
              refine lv_imul hx hb dX5_leavesSeen_50 ?_
              refine va_gets (A := nA) (C := "QuarterTiles$Tree") (n := "ONE_QUARTER_SEEN") (d := "[I") (v := .ref (t 2)) hx hb (hZ.2.2.2.2.1) va_S.rf hown (hts _ lkX5_leavesSeen_140) (fun _ h9 => h9) dX5_leavesSeen_51 ?_
              refine lv_iload hx hb dX5_leavesSeen_54 (lv_at hl 0 rfl) ?_
              obtain ⟨x_7, hx_7, hv⟩ := qB hv
              refine q_tld hx hb (hZ.2.2.2.2.2.1) va_S.rf hx_7 dX5_leavesSeen_56 ?_
              refine lv_iadd hx hb dX5_leavesSeen_57 ?_
              refine lv_iload_n hx hb dX5_leavesSeen_58 rfl (lv_at hl 3 rfl) ?_
              refine lv_iconst (v := 1) hx hb dX5_leavesSeen_59 (by decide) ?_
              refine lv_iadd hx hb dX5_leavesSeen_60 ?_
              refine lv_iload_n hx hb dX5_leavesSeen_61 rfl (lv_at hl 4 rfl) ?_
              obtain ⟨r_8, hr_8, hv⟩ := qB hv
              refine q_S (As := [.ref a0_0, .int (((4:Int32) * x1) + x_7), .int (x2 + (1:Int32)), .int x3]) (rest := []) hx hb hml hown hts hl.1 (hself (((4:Int32) * x1) + x_7) (x2 + (1:Int32)) x3 r_8 hr_8) zSt_mv (va_cwS 4 hts gX5_leavesSeen_X5_leavesSeen rfl rfl rfl (by decide +kernel) ⟨rmR_sf, (rmR_sl (by decide))⟩) (hP.sub (ws' := (wTree E a0_0 a0_1 a0_2 a0_3 a0_4 T0)) [0, 1, 2, 3, 4] rfl) hK hZ rfl rfl (Nat.le_of_ble_eq_true rfl) dX5_leavesSeen_62 ⟨Nat.zero_le _, Nat.zero_le _⟩ ?_
              refine lv_aload_n hx hb dX5_leavesSeen_65 rfl (lv_at hl 1 rfl) ?_
              refine lv_iconst (v := 4) hx hb dX5_leavesSeen_66 (by decide) ?_
              refine lv_iload_n hx hb dX5_leavesSeen_67 rfl (lv_at hl 2 rfl) ?_
              refine lv_imul hx hb dX5_leavesSeen_68 ?_
              refine va_gets (A := nA) (C := "QuarterTiles$Tree") (n := "OTHER_QUARTER_SEEN") (d := "[I") (v := .ref (t 3)) hx hb (hZ.2.2.2.2.2.2.1) va_S.rf hown (hts _ lkX5_leavesSeen_143) (fun _ h9 => h9) dX5_leavesSeen_69 ?_
              refine lv_iload hx hb dX5_leavesSeen_72 (lv_at hl 0 rfl) ?_
              obtain ⟨x_9, hx_9, hv⟩ := qB hv
              refine q_tld hx hb (hZ.2.2.2.2.2.2.2.1) va_S.rf hx_9 dX5_leavesSeen_74 ?_
              refine lv_iadd hx hb dX5_leavesSeen_75 ?_
              refine lv_iload_n hx hb dX5_leavesSeen_76 rfl (lv_at hl 3 rfl) ?_
              refine lv_iconst (v := 1) hx hb dX5_leavesSeen_77 (by decide) ?_
              refine lv_iadd hx hb dX5_leavesSeen_78 ?_
              refine lv_iload_n hx hb dX5_leavesSeen_79 rfl (lv_at hl 4 rfl) ?_
              obtain ⟨r_10, hr_10, hv⟩ := qB hv
              refine q_S (As := [.ref a0_0, .int (((4:Int32) * x1) + x_9), .int (x2 + (1:Int32)), .int x3]) (rest := [.int r_8]) hx hb hml hown hts hl.1 (hself (((4:Int32) * x1) + x_9) (x2 + (1:Int32)) x3 r_10 hr_10) zSt_mv (va_cwS 4 hts gX5_leavesSeen_X5_leavesSeen rfl rfl rfl (by decide +kernel) ⟨rmR_sf, (rmR_sl (by decide))⟩) (hP.sub (ws' := (wTree E a0_0 a0_1 a0_2 a0_3 a0_4 T0)) [0, 1, 2, 3, 4] rfl) hK hZ rfl rfl (Nat.le_of_ble_eq_true rfl) dX5_leavesSeen_80 ⟨Nat.zero_le _, Nat.zero_le _⟩ ?_
              refine lv_iadd hx hb dX5_leavesSeen_83 ?_
              exact q_ret C dX5_leavesSeen_84 hv
            · have hv := qF c_42_k_6 hv
              refine lv_iconst (v := 0) hx hb dX5_leavesSeen_45 (by decide) ?_
              exact q_ret C dX5_leavesSeen_46 hv
      · have hv := qT c_12_k_3 hv
        refine lv_iconst (v := 1) hx hb dX5_leavesSeen_15 (by decide) ?_
        exact q_ret C dX5_leavesSeen_16 hv
theorem kX5_leavesSeen (l : Launch) (D : va_G) (E : Nat → ClassId) (t : Nat → Nat) (a0_0 a0_1 a0_2 a0_3 a0_4 : Nat) {T0 : FS} {x1 : Int32} {x2 : Int32} {x3 : Int32} {v : Int32} (hv : fX5_leavesSeen T0 8 x1 x2 x3 = some v) : PU l yX5_leavesSeen wsX5_leavesSeen (rmR 3 65 24 8) D E (zSt t) ((wTree E a0_0 a0_1 a0_2 a0_3 a0_4 T0)) [.ref a0_0, .int x1, .int x2, .int x3] v := kkX5_leavesSeen l D E t a0_0 a0_1 a0_2 a0_3 a0_4 8 x1 x2 x3 v hv

set_option maxRecDepth 100000 in
set_option maxHeartbeats 4000000 in
theorem wfX5_neighboursOf_L5 {p : Program} {e : Env} {s : State} {m : MethodId} {below : List Frame} {meth : Method} {c : Code} {l : Launch} {D : va_G} {E : Nat → ClassId} {t : Nat → Nat} {a0_0 a0_1 a0_2 a0_3 a0_4 : Nat} {T0 : FS} {x1 : Int32} {x2 : Int32} {v : Int32} {y1 : Int32} {y2 : Int32} (C : Ctx p s m meth c [.ref a0_0, .int x1, .int x2] wsX5_neighboursOf cX5_neighboursOf 6 (some .int) RX5) (hP : va_P D vwCl ((wTree E a0_0 a0_1 a0_2 a0_3 a0_4 T0)) s.heap) (hK : va_K D vwCl (tyE E) s) (hZ : (zSt t) s s.heap) : ∀ (q : Nat) (y3 : Int32) (y4 : Int32), fX5_neighboursOf_L5 T0 y1 y2 q y3 y4 = some v → ∀ ls, lv_has ls 6 [(0, .ref a0_0), (1, .int y1), (2, .int y2), (3, .int y3), (4, .int y4)] → WP p l e (rmN 12 281) s m [.ref a0_0, .int x1, .int x2] below meth c v 5 ls [] := by
  obtain ⟨hx, hb, hr, hml, hown, hlocks, hts⟩ := id C
  intro q
  induction q with
  | zero =>
    intro y3 y4 hv
    cases hv
  | succ q ih =>
    intro y3 y4 hv ls hl
    rw [fX5_neighboursOf_L5.eq_2] at hv
    refine lv_iload hx hb dX5_neighboursOf_5 (lv_at hl 4 rfl) ?_
    refine lv_bipush (v := 8) hx hb dX5_neighboursOf_7 (by decide) ?_
    refine lv_icmp_ge (tgt := 60) hx hb dX5_neighboursOf_9 (by decide) (fun c_9_k_1 => ?_) (fun c_9_k_1 => ?_)
    · have hv := qT c_9_k_1 hv
      refine lv_iload_n hx hb dX5_neighboursOf_60 rfl (lv_at hl 3 rfl) ?_
      exact q_ret C dX5_neighboursOf_61 hv
    · have hv := qF c_9_k_1 hv
      refine lv_iload_n hx hb dX5_neighboursOf_12 rfl (lv_at hl 1 rfl) ?_
      refine lv_iload_n hx hb dX5_neighboursOf_13 rfl (lv_at hl 2 rfl) ?_
      refine lv_iload hx hb dX5_neighboursOf_14 (lv_at hl 4 rfl) ?_
      obtain ⟨r_2, hr_2, hv⟩ := qB hv
      refine q_S (As := [.int y1, .int y2, .int y4]) (rest := []) hx hb hml hown hts hl.1 (kX1_nextTo l D E t  hr_2) zSt_mv (va_cwS 3 hts gX5_neighboursOf_X1_nextTo rfl rfl rfl (by decide +kernel) ⟨Nat.le_of_ble_eq_true rfl, Nat.le_of_ble_eq_true rfl⟩) (hP.sub (ws' := []) [] rfl) hK hZ rfl rfl (Nat.le_of_ble_eq_true rfl) dX5_neighboursOf_16 ⟨Nat.zero_le _, Nat.zero_le _⟩ ?_
      refine lv_istore (lv' := [(5, .int r_2), (0, .ref a0_0), (1, .int y1), (2, .int y2), (3, .int y3), (4, .int y4)]) hx hb dX5_neighboursOf_19 hl (by decide) rfl (fun ls hl => ?_)
      refine lv_iload hx hb dX5_neighboursOf_21 (lv_at hl 0 rfl) ?_
      refine lv_bipush (v := -6) hx hb dX5_neighboursOf_23 (by decide) ?_
      refine lv_icmp_eq (tgt := 54) hx hb dX5_neighboursOf_25 (by decide) (fun c_25_k_3 => ?_) (fun c_25_k_3 => ?_)
      · have hv := qT c_25_k_3 hv
        refine lv_iinc (v := (y4 + 2)) (lv' := [(4, .int (y4 + 2)), (5, .int r_2), (0, .ref a0_0), (1, .int y1), (2, .int y2), (3, .int y3)]) hx hb dX5_neighboursOf_54 hl (k := 5) rfl (by rfl) (by decide) rfl (fun ls hl => ?_)
        refine lv_goto (tgt := 5) hx hb dX5_neighboursOf_57 (by decide) ?_
        exact ih y3 (y4 + 2) hv _ (lv_sub hl [2, 3, 4, 5, 0] rfl)
      · have hv := qF c_25_k_3 hv
        refine lv_iload_n hx hb dX5_neighboursOf_28 rfl (lv_at hl 4 rfl) ?_
        refine lv_aload_n hx hb dX5_neighboursOf_29 rfl (lv_at hl 1 rfl) ?_
        refine lv_iload hx hb dX5_neighboursOf_30 (lv_at hl 0 rfl) ?_
        refine lv_iload_n hx hb dX5_neighboursOf_32 rfl (lv_at hl 3 rfl) ?_
        obtain ⟨r_4, hr_4, hv⟩ := qB hv
        refine q_V (As := [.int r_2, .int y2]) (rest := [.int y3]) (C := RX5) (T0 := TX5) (N0 := 2) (ci := 4) hx hb hml hown hts hl.1 (kX5_isThere l D E a0_0 a0_1 a0_2 a0_3 a0_4 hr_4) zNo_mv (cwV 2 hts gX5_neighboursOf_X5_isThere rfl rfl rfl (by decide +kernel) ⟨Nat.le_of_ble_eq_true rfl, Nat.le_of_ble_eq_true rfl⟩) 0 rfl rfl (hP.sub (ws' := (wTree E a0_0 a0_1 a0_2 a0_3 a0_4 T0)) [0, 1, 2, 3, 4] rfl) hK trivial rfl rfl (Nat.le_of_ble_eq_true rfl) dX5_neighboursOf_33 ⟨Nat.zero_le _, Nat.zero_le _⟩ ?_
        refine lv_if_eq (tgt := 51) hx hb dX5_neighboursOf_36 (by decide) (fun c_36_k_5 => ?_) (fun c_36_k_5 => ?_)
        · have hv := qT c_36_k_5 hv
          refine lv_iconst (v := 1) hx hb dX5_neighboursOf_51 (by decide) ?_
          refine lv_iadd hx hb dX5_neighboursOf_52 ?_
          refine lv_istore_n (lv' := [(3, .int (y3 + (1:Int32))), (5, .int r_2), (0, .ref a0_0), (1, .int y1), (2, .int y2), (4, .int y4)]) hx hb dX5_neighboursOf_53 rfl hl (by decide) rfl (fun ls hl => ?_)
          refine lv_iinc (v := (y4 + 2)) (lv' := [(4, .int (y4 + 2)), (3, .int (y3 + (1:Int32))), (5, .int r_2), (0, .ref a0_0), (1, .int y1), (2, .int y2)]) hx hb dX5_neighboursOf_54 hl (k := 5) rfl (by rfl) (by decide) rfl (fun ls hl => ?_)
          refine lv_goto (tgt := 5) hx hb dX5_neighboursOf_57 (by decide) ?_
          exact ih (y3 + (1:Int32)) (y4 + 2) hv _ (lv_sub hl [3, 4, 5, 1, 0] rfl)
        · have hv := qF c_36_k_5 hv
          refine lv_aload_n hx hb dX5_neighboursOf_39 rfl (lv_at hl 1 rfl) ?_
          refine lv_iload hx hb dX5_neighboursOf_40 (lv_at hl 0 rfl) ?_
          refine lv_iload_n hx hb dX5_neighboursOf_42 rfl (lv_at hl 3 rfl) ?_
          refine lv_iload hx hb dX5_neighboursOf_43 (lv_at hl 5 rfl) ?_
          obtain ⟨r_6, hr_6, hv⟩ := qB hv
          refine q_S (As := [.ref a0_0, .int r_2, .int y2, .int y4]) (rest := [.int y3]) hx hb hml hown hts hl.1 (kX5_leavesSeen l D E t a0_0 a0_1 a0_2 a0_3 a0_4 hr_6) zSt_mv (va_cwS 4 hts gX5_neighboursOf_X5_leavesSeen rfl rfl rfl (by decide +kernel) ⟨Nat.le_of_ble_eq_true rfl, Nat.le_of_ble_eq_true rfl⟩) (hP.sub (ws' := (wTree E a0_0 a0_1 a0_2 a0_3 a0_4 T0)) [0, 1, 2, 3, 4] rfl) hK hZ rfl rfl (Nat.le_of_ble_eq_true rfl) dX5_neighboursOf_45 ⟨Nat.zero_le _, Nat.zero_le _⟩ ?_
          refine lv_goto (tgt := 52) hx hb dX5_neighboursOf_48 (by decide) ?_
          refine lv_iadd hx hb dX5_neighboursOf_52 ?_
          refine lv_istore_n (lv' := [(3, .int (y3 + r_6)), (5, .int r_2), (0, .ref a0_0), (1, .int y1), (2, .int y2), (4, .int y4)]) hx hb dX5_neighboursOf_53 rfl hl (by decide) rfl (fun ls hl => ?_)
          refine lv_iinc (v := (y4 + 2)) (lv' := [(4, .int (y4 + 2)), (3, .int (y3 + r_6)), (5, .int r_2), (0, .ref a0_0), (1, .int y1), (2, .int y2)]) hx hb dX5_neighboursOf_54 hl (k := 5) rfl (by rfl) (by decide) rfl (fun ls hl => ?_)
          refine lv_goto (tgt := 5) hx hb dX5_neighboursOf_57 (by decide) ?_
          exact ih (y3 + r_6) (y4 + 2) hv _ (lv_sub hl [3, 4, 5, 1, 0] rfl)

set_option maxRecDepth 100000 in
set_option maxHeartbeats 4000000 in
theorem kX5_neighboursOf (l : Launch) (D : va_G) (E : Nat → ClassId) (t : Nat → Nat) (a0_0 a0_1 a0_2 a0_3 a0_4 : Nat) {T0 : FS} {x1 : Int32} {x2 : Int32} {v : Int32} (hv : fX5_neighboursOf T0 x1 x2 = some v) : PU l yX5_neighboursOf wsX5_neighboursOf (rmN 12 281) D E (zSt t) ((wTree E a0_0 a0_1 a0_2 a0_3 a0_4 T0)) [.ref a0_0, .int x1, .int x2] v := by
  refine PU.of (by decide) rfl (Nat.le_of_ble_eq_true rfl) ?_
  intro p e s m below meth c C hP hK hZ ls hl
  have hl : lv_has ls 6 [(0, .ref a0_0), (1, .int x1), (2, .int x2)] := hl
  obtain ⟨hx, hb, hr, hml, hown, hlocks, hts⟩ := id C
  unfold fX5_neighboursOf at hv
  refine lv_iconst (v := 0) hx hb dX5_neighboursOf_0 (by decide) ?_
  refine lv_istore_n (lv' := [(3, .int (0:Int32)), (0, .ref a0_0), (1, .int x1), (2, .int x2)]) hx hb dX5_neighboursOf_1 rfl hl (by decide) rfl (fun ls hl => ?_)
  refine lv_iconst (v := 0) hx hb dX5_neighboursOf_2 (by decide) ?_
  refine lv_istore (lv' := [(4, .int (0:Int32)), (3, .int (0:Int32)), (0, .ref a0_0), (1, .int x1), (2, .int x2)]) hx hb dX5_neighboursOf_3 hl (by decide) rfl (fun ls hl => ?_)
  exact wfX5_neighboursOf_L5 C hP hK hZ  6000 (0:Int32) (0:Int32) hv _ (lv_sub hl [2, 3, 4, 1, 0] rfl)

theorem lkX5_greatestStepOutOf_120a : (.methodLink RX5 120 Lib.Math.max.name : Cond) ∈ wsX5_greatestStepOutOf := by decide +kernel
theorem lkX5_greatestStepOutOf_120b : (.static Lib.Math.max.name : Cond) ∈ wsX5_greatestStepOutOf := by decide +kernel
theorem lkX5_greatestStepOutOf_120c : (.initialized "java/lang/Math" : Cond) ∈ wsX5_greatestStepOutOf := by decide +kernel
theorem lkX5_greatestStepOutOf_120d : (.code Lib.Math.max.name Lib.Math.max.code 2 (some .int) : Cond) ∈ wsX5_greatestStepOutOf := by decide +kernel
set_option maxRecDepth 100000 in
set_option maxHeartbeats 4000000 in
theorem wfX5_greatestStepOutOf_L5 {p : Program} {e : Env} {s : State} {m : MethodId} {below : List Frame} {meth : Method} {c : Code} {l : Launch} {D : va_G} {E : Nat → ClassId} {t : Nat → Nat} {a0_0 a0_1 a0_2 a0_3 a0_4 : Nat} {T0 : FS} {x1 : Int32} {x2 : Int32} {v : Int32} {y1 : Int32} {y2 : Int32} (C : Ctx p s m meth c [.ref a0_0, .int x1, .int x2] wsX5_greatestStepOutOf cX5_greatestStepOutOf 7 (some .int) RX5) (hP : va_P D vwCl ((wTree E a0_0 a0_1 a0_2 a0_3 a0_4 T0)) s.heap) (hK : va_K D vwCl (tyE E) s) (hZ : (zSt t) s s.heap) : ∀ (q : Nat) (y3 : Int32) (y4 : Int32), fX5_greatestStepOutOf_L5 T0 y1 y2 q y3 y4 = some v → ∀ ls, lv_has ls 7 [(0, .ref a0_0), (1, .int y1), (2, .int y2), (3, .int y3), (4, .int y4)] → WP p l e (rmN 4 87) s m [.ref a0_0, .int x1, .int x2] below meth c v 5 ls [] := by
  obtain ⟨hx, hb, hr, hml, hown, hlocks, hts⟩ := id C
  intro q
  induction q with
  | zero =>
    intro y3 y4 hv
    cases hv
  | succ q ih =>
    intro y3 y4 hv ls hl
    rw [fX5_greatestStepOutOf_L5.eq_2] at hv
    refine lv_iload hx hb dX5_greatestStepOutOf_5 (lv_at hl 4 rfl) ?_
    refine lv_bipush (v := 8) hx hb dX5_greatestStepOutOf_7 (by decide) ?_
    refine lv_icmp_ge (tgt := 55) hx hb dX5_greatestStepOutOf_9 (by decide) (fun c_9_k_1 => ?_) (fun c_9_k_1 => ?_)
    · have hv := qT c_9_k_1 hv
      refine lv_iload_n hx hb dX5_greatestStepOutOf_55 rfl (lv_at hl 3 rfl) ?_
      exact q_ret C dX5_greatestStepOutOf_56 hv
    · have hv := qF c_9_k_1 hv
      refine lv_iload_n hx hb dX5_greatestStepOutOf_12 rfl (lv_at hl 1 rfl) ?_
      refine lv_iload_n hx hb dX5_greatestStepOutOf_13 rfl (lv_at hl 2 rfl) ?_
      refine lv_iload hx hb dX5_greatestStepOutOf_14 (lv_at hl 4 rfl) ?_
      obtain ⟨r_2, hr_2, hv⟩ := qB hv
      refine q_S (As := [.int y1, .int y2, .int y4]) (rest := []) hx hb hml hown hts hl.1 (kX1_nextTo l D E t  hr_2) zSt_mv (va_cwS 3 hts gX5_greatestStepOutOf_X1_nextTo rfl rfl rfl (by decide +kernel) ⟨Nat.le_of_ble_eq_true rfl, Nat.le_of_ble_eq_true rfl⟩) (hP.sub (ws' := []) [] rfl) hK hZ rfl rfl (Nat.le_of_ble_eq_true rfl) dX5_greatestStepOutOf_16 ⟨Nat.zero_le _, Nat.zero_le _⟩ ?_
      refine lv_istore (lv' := [(5, .int r_2), (0, .ref a0_0), (1, .int y1), (2, .int y2), (3, .int y3), (4, .int y4)]) hx hb dX5_greatestStepOutOf_19 hl (by decide) rfl (fun ls hl => ?_)
      refine lv_iload hx hb dX5_greatestStepOutOf_21 (lv_at hl 0 rfl) ?_
      refine lv_bipush (v := -6) hx hb dX5_greatestStepOutOf_23 (by decide) ?_
      refine lv_icmp_eq (tgt := 49) hx hb dX5_greatestStepOutOf_25 (by decide) (fun c_25_k_3 => ?_) (fun c_25_k_3 => ?_)
      · have hv := qT c_25_k_3 hv
        refine lv_iinc (v := (y4 + 2)) (lv' := [(4, .int (y4 + 2)), (5, .int r_2), (0, .ref a0_0), (1, .int y1), (2, .int y2), (3, .int y3)]) hx hb dX5_greatestStepOutOf_49 hl (k := 5) rfl (by rfl) (by decide) rfl (fun ls hl => ?_)
        refine lv_goto (tgt := 5) hx hb dX5_greatestStepOutOf_52 (by decide) ?_
        exact ih y3 (y4 + 2) hv _ (lv_sub hl [2, 3, 4, 5, 0] rfl)
      · have hv := qF c_25_k_3 hv
        refine lv_aload_n hx hb dX5_greatestStepOutOf_28 rfl (lv_at hl 1 rfl) ?_
        refine lv_iload hx hb dX5_greatestStepOutOf_29 (lv_at hl 0 rfl) ?_
        refine lv_iload_n hx hb dX5_greatestStepOutOf_31 rfl (lv_at hl 3 rfl) ?_
        obtain ⟨r_4, hr_4, hv⟩ := qB hv
        refine q_S (As := [.int r_2, .int y2]) (rest := [.ref a0_0]) hx hb hml hown hts hl.1 (kX1_leastPlace l D E  hr_4) zNo_mv (va_cwS 2 hts gX5_greatestStepOutOf_X1_leastPlace rfl rfl rfl (by decide +kernel) ⟨Nat.le_of_ble_eq_true rfl, Nat.le_of_ble_eq_true rfl⟩) (hP.sub (ws' := []) [] rfl) hK trivial rfl rfl (Nat.le_of_ble_eq_true rfl) dX5_greatestStepOutOf_32 ⟨Nat.zero_le _, Nat.zero_le _⟩ ?_
        obtain ⟨r_5, hr_5, hv⟩ := qB hv
        refine q_V (As := [.int r_4]) (rest := []) (C := RX5) (T0 := TX5) (N0 := 2) (ci := 4) hx hb hml hown hts hl.1 (kX5_depthOfLeafWith l D E a0_0 a0_1 a0_2 a0_3 a0_4 hr_5) zNo_mv (cwV 1 hts gX5_greatestStepOutOf_X5_depthOfLeafWith rfl rfl rfl (by decide +kernel) ⟨Nat.le_of_ble_eq_true rfl, Nat.le_of_ble_eq_true rfl⟩) 0 rfl rfl (hP.sub (ws' := (wTree E a0_0 a0_1 a0_2 a0_3 a0_4 T0)) [0, 1, 2, 3, 4] rfl) hK trivial rfl rfl (Nat.le_of_ble_eq_true rfl) dX5_greatestStepOutOf_35 ⟨Nat.zero_le _, Nat.zero_le _⟩ ?_
        refine lv_istore (lv' := [(6, .int r_5), (5, .int r_2), (0, .ref a0_0), (1, .int y1), (2, .int y2), (3, .int y3), (4, .int y4)]) hx hb dX5_greatestStepOutOf_38 hl (by decide) rfl (fun ls hl => ?_)
        refine lv_iload_n hx hb dX5_greatestStepOutOf_40 rfl (lv_at hl 5 rfl) ?_
        refine lv_iload_n hx hb dX5_greatestStepOutOf_41 rfl (lv_at hl 4 rfl) ?_
        refine lv_iload hx hb dX5_greatestStepOutOf_42 (lv_at hl 0 rfl) ?_
        refine lv_isub hx hb dX5_greatestStepOutOf_44 ?_
        refine va_mmax hx hb (hml.trans hl.1.symm) hown (hts _ lkX5_greatestStepOutOf_120a) (hts _ lkX5_greatestStepOutOf_120b) (hts _ lkX5_greatestStepOutOf_120c) (hts _ lkX5_greatestStepOutOf_120d) (Nat.le_of_ble_eq_true rfl) (Nat.le_of_ble_eq_true rfl) (Nat.zero_le _) (Nat.zero_le _) dX5_greatestStepOutOf_45 ?_
        refine lv_istore_n (lv' := [(3, .int (if y3 < (y2 - r_5) then (y2 - r_5) else y3)), (6, .int r_5), (5, .int r_2), (0, .ref a0_0), (1, .int y1), (2, .int y2), (4, .int y4)]) hx hb dX5_greatestStepOutOf_48 rfl hl (by decide) rfl (fun ls hl => ?_)
        refine lv_iinc (v := (y4 + 2)) (lv' := [(4, .int (y4 + 2)), (3, .int (if y3 < (y2 - r_5) then (y2 - r_5) else y3)), (6, .int r_5), (5, .int r_2), (0, .ref a0_0), (1, .int y1), (2, .int y2)]) hx hb dX5_greatestStepOutOf_49 hl (k := 6) rfl (by rfl) (by decide) rfl (fun ls hl => ?_)
        refine lv_goto (tgt := 5) hx hb dX5_greatestStepOutOf_52 (by decide) ?_
        exact ih (if y3 < (y2 - r_5) then (y2 - r_5) else y3) (y4 + 2) hv _ (lv_sub hl [4, 5, 6, 1, 0] rfl)

set_option maxRecDepth 100000 in
set_option maxHeartbeats 4000000 in
theorem kX5_greatestStepOutOf (l : Launch) (D : va_G) (E : Nat → ClassId) (t : Nat → Nat) (a0_0 a0_1 a0_2 a0_3 a0_4 : Nat) {T0 : FS} {x1 : Int32} {x2 : Int32} {v : Int32} (hv : fX5_greatestStepOutOf T0 x1 x2 = some v) : PU l yX5_greatestStepOutOf wsX5_greatestStepOutOf (rmN 4 87) D E (zSt t) ((wTree E a0_0 a0_1 a0_2 a0_3 a0_4 T0)) [.ref a0_0, .int x1, .int x2] v := by
  refine PU.of (by decide) rfl (Nat.le_of_ble_eq_true rfl) ?_
  intro p e s m below meth c C hP hK hZ ls hl
  have hl : lv_has ls 7 [(0, .ref a0_0), (1, .int x1), (2, .int x2)] := hl
  obtain ⟨hx, hb, hr, hml, hown, hlocks, hts⟩ := id C
  unfold fX5_greatestStepOutOf at hv
  refine lv_iconst (v := 0) hx hb dX5_greatestStepOutOf_0 (by decide) ?_
  refine lv_istore_n (lv' := [(3, .int (0:Int32)), (0, .ref a0_0), (1, .int x1), (2, .int x2)]) hx hb dX5_greatestStepOutOf_1 rfl hl (by decide) rfl (fun ls hl => ?_)
  refine lv_iconst (v := 0) hx hb dX5_greatestStepOutOf_2 (by decide) ?_
  refine lv_istore (lv' := [(4, .int (0:Int32)), (3, .int (0:Int32)), (0, .ref a0_0), (1, .int x1), (2, .int x2)]) hx hb dX5_greatestStepOutOf_3 hl (by decide) rfl (fun ls hl => ?_)
  exact wfX5_greatestStepOutOf_L5 C hP hK hZ  6000 (0:Int32) (0:Int32) hv _ (lv_sub hl [2, 3, 4, 1, 0] rfl)

theorem lkX5_unevennessIn_120a : (.methodLink RX5 120 Lib.Math.max.name : Cond) ∈ wsX5_unevennessIn := by decide +kernel
theorem lkX5_unevennessIn_120b : (.static Lib.Math.max.name : Cond) ∈ wsX5_unevennessIn := by decide +kernel
theorem lkX5_unevennessIn_120c : (.initialized "java/lang/Math" : Cond) ∈ wsX5_unevennessIn := by decide +kernel
theorem lkX5_unevennessIn_120d : (.code Lib.Math.max.name Lib.Math.max.code 2 (some .int) : Cond) ∈ wsX5_unevennessIn := by decide +kernel
set_option maxRecDepth 100000 in
set_option maxHeartbeats 4000000 in
theorem wfX5_unevennessIn_L27 {p : Program} {e : Env} {s : State} {m : MethodId} {below : List Frame} {meth : Method} {c : Code} {l : Launch} {D : va_G} {E : Nat → ClassId} {t : Nat → Nat} {a0_0 a0_1 a0_2 a0_3 a0_4 : Nat} {T0 : FS} {x1 : Int32} {x2 : Int32} {dd : Nat} {v : Int32} {y1 : Int32} {y2 : Int32} (C : Ctx p s m meth c [.ref a0_0, .int x1, .int x2] wsX5_unevennessIn cX5_unevennessIn 5 (some .int) RX5) (hP : va_P D vwCl ((wTree E a0_0 a0_1 a0_2 a0_3 a0_4 T0)) s.heap) (hK : va_K D vwCl (tyE E) s) (hZ : (zSt t) s s.heap) {self : Int32 → Int32 → Option Int32} (hself : ∀ (x1 x2 v : Int32), self x1 x2 = some v → PU l yX5_unevennessIn wsX5_unevennessIn (rmR 5 113 24 dd) D E (zSt t) ((wTree E a0_0 a0_1 a0_2 a0_3 a0_4 T0)) [.ref a0_0, .int x1, .int x2] v) : ∀ (q : Nat) (y3 : Int32) (y4 : Int32), fX5_unevennessIn_L27 T0 self y1 y2 q y3 y4 = some v → ∀ ls, lv_has ls 5 [(0, .ref a0_0), (1, .int y1), (2, .int y2), (3, .int y3), (4, .int y4)] → WP p l e (rmR 5 113 24 (dd + 1)) s m [.ref a0_0, .int x1, .int x2] below meth c v 27 ls [] := by
  obtain ⟨hx, hb, hr, hml, hown, hlocks, hts⟩ := id C
  intro q
  induction q with
  | zero =>
    intro y3 y4 hv
    cases hv
  | succ q ih =>
    intro y3 y4 hv ls hl
    rw [fX5_unevennessIn_L27.eq_2] at hv
    refine lv_iload hx hb dX5_unevennessIn_27 (lv_at hl 4 rfl) ?_
    refine lv_iconst (v := 4) hx hb dX5_unevennessIn_29 (by decide) ?_
    refine lv_icmp_ge (tgt := 57) hx hb dX5_unevennessIn_30 (by decide) (fun c_30_k_5 => ?_) (fun c_30_k_5 => ?_)
    · have hv := qT c_30_k_5 hv
      refine lv_iload_n hx hb dX5_unevennessIn_57 rfl (lv_at hl 3 rfl) ?_
      exact q_ret C dX5_unevennessIn_58 hv
    · have hv := qF c_30_k_5 hv
      refine lv_iload_n hx hb dX5_unevennessIn_33 rfl (lv_at hl 3 rfl) ?_
      refine lv_aload_n hx hb dX5_unevennessIn_34 rfl (lv_at hl 0 rfl) ?_
      refine lv_iconst (v := 4) hx hb dX5_unevennessIn_35 (by decide) ?_
      refine lv_iload_n hx hb dX5_unevennessIn_36 rfl (lv_at hl 1 rfl) ?_
      refine lv_imul hx hb dX5_unevennessIn_37 ?_
      refine lv_iload hx hb dX5_unevennessIn_38 (lv_at hl 4 rfl) ?_
      refine lv_iadd hx hb dX5_unevennessIn_40 ?_
      refine lv_iload_n hx hb dX5_unevennessIn_41 rfl (lv_at hl 2 rfl) ?_
      refine lv_iconst (v := 1) hx hb dX5_unevennessIn_42 (by decide) ?_
      refine lv_iadd hx hb dX5_unevennessIn_43 ?_
      obtain ⟨r_6, hr_6, hv⟩ := qB hv
      refine q_S (As := [.ref a0_0, .int (((4:Int32) * y1) + y4), .int (y2 + (1:Int32))]) (rest := [.int y3]) hx hb hml hown hts hl.1 (hself (((4:Int32) * y1) + y4) (y2 + (1:Int32)) r_6 hr_6) zSt_mv (va_cwS 3 hts gX5_unevennessIn_X5_unevennessIn rfl rfl rfl (by decide +kernel) ⟨rmR_sf, (rmR_sl (by decide))⟩) (hP.sub (ws' := (wTree E a0_0 a0_1 a0_2 a0_3 a0_4 T0)) [0, 1, 2, 3, 4] rfl) hK hZ rfl rfl (Nat.le_of_ble_eq_true rfl) dX5_unevennessIn_44 ⟨Nat.zero_le _, Nat.zero_le _⟩ ?_
      refine va_mmax hx hb (hml.trans hl.1.symm) hown (hts _ lkX5_unevennessIn_120a) (hts _ lkX5_unevennessIn_120b) (hts _ lkX5_unevennessIn_120c) (hts _ lkX5_unevennessIn_120d) (rmR_1 (Nat.le_of_ble_eq_true rfl)) (rmR_13 (Nat.le_of_ble_eq_true rfl)) (Nat.zero_le _) (Nat.zero_le _) dX5_unevennessIn_47 ?_
      refine lv_istore_n (lv' := [(3, .int (if y3 < r_6 then r_6 else y3)), (0, .ref a0_0), (1, .int y1), (2, .int y2), (4, .int y4)]) hx hb dX5_unevennessIn_50 rfl hl (by decide) rfl (fun ls hl => ?_)
      refine lv_iinc (v := (y4 + 1)) (lv' := [(4, .int (y4 + 1)), (3, .int (if y3 < r_6 then r_6 else y3)), (0, .ref a0_0), (1, .int y1), (2, .int y2)]) hx hb dX5_unevennessIn_51 hl (k := 4) rfl (by rfl) (by decide) rfl (fun ls hl => ?_)
      refine lv_goto (tgt := 27) hx hb dX5_unevennessIn_54 (by decide) ?_
      exact ih (if y3 < r_6 then r_6 else y3) (y4 + 1) hv _ (lv_sub hl [2, 3, 4, 1, 0] rfl)

set_option maxRecDepth 100000 in
set_option maxHeartbeats 4000000 in
theorem kkX5_unevennessIn (l : Launch) (D : va_G) (E : Nat → ClassId) (t : Nat → Nat) (a0_0 a0_1 a0_2 a0_3 a0_4 : Nat) {T0 : FS} : ∀ (dd : Nat) (x1 x2 v : Int32), fX5_unevennessIn T0 dd x1 x2 = some v → PU l yX5_unevennessIn wsX5_unevennessIn (rmR 5 113 24 dd) D E (zSt t) ((wTree E a0_0 a0_1 a0_2 a0_3 a0_4 T0)) [.ref a0_0, .int x1, .int x2] v := by
  intro dd
  induction dd with
  | zero =>
    intro x1 x2 v hv
    cases hv
  | succ dd hself =>
    intro x1 x2 v hv
    rw [fX5_unevennessIn.eq_2] at hv
    unfold fX5_unevennessIn_B at hv
    generalize fX5_unevennessIn T0 dd = self at hself hv
    refine PU.of (by decide) rfl (Nat.le_of_ble_eq_true rfl) ?_
    intro p e s m below meth c C hP hK hZ ls hl
    have hl : lv_has ls 5 [(0, .ref a0_0), (1, .int x1), (2, .int x2)] := hl
    obtain ⟨hx, hb, hr, hml, hown, hlocks, hts⟩ := id C
    refine lv_iload_n hx hb dX5_unevennessIn_0 rfl (lv_at hl 2 rfl) ?_
    refine lv_bipush (v := 6) hx hb dX5_unevennessIn_1 (by decide) ?_
    refine lv_icmp_ge (tgt := 15) hx hb dX5_unevennessIn_3 (by decide) (fun c_3_k_1 => ?_) (fun c_3_k_1 => ?_)
    · have hv := qT c_3_k_1 hv
      refine lv_aload_n hx hb dX5_unevennessIn_15 rfl (lv_at hl 0 rfl) ?_
      refine lv_iload_n hx hb dX5_unevennessIn_16 rfl (lv_at hl 1 rfl) ?_
      refine lv_iload_n hx hb dX5_unevennessIn_17 rfl (lv_at hl 2 rfl) ?_
      obtain ⟨r_2, hr_2, hv⟩ := qB hv
      refine q_V (As := [.int x1, .int x2]) (rest := []) (C := RX5) (T0 := TX5) (N0 := 2) (ci := 4) hx hb hml hown hts hl.1 (kX5_greatestStepOutOf l D E t a0_0 a0_1 a0_2 a0_3 a0_4 hr_2) zSt_mv (cwV 2 hts gX5_unevennessIn_X5_greatestStepOutOf rfl rfl rfl (by decide +kernel) ⟨(rmR_f (by decide)), (rmR_l (by decide))⟩) 0 rfl rfl (hP.sub (ws' := (wTree E a0_0 a0_1 a0_2 a0_3 a0_4 T0)) [0, 1, 2, 3, 4] rfl) hK hZ rfl rfl (Nat.le_of_ble_eq_true rfl) dX5_unevennessIn_18 ⟨Nat.zero_le _, Nat.zero_le _⟩ ?_
      exact q_ret C dX5_unevennessIn_21 hv
    · have hv := qF c_3_k_1 hv
      refine lv_aload_n hx hb dX5_unevennessIn_6 rfl (lv_at hl 0 rfl) ?_
      refine lv_iload_n hx hb dX5_unevennessIn_7 rfl (lv_at hl 1 rfl) ?_
      refine lv_iload_n hx hb dX5_unevennessIn_8 rfl (lv_at hl 2 rfl) ?_
      obtain ⟨r_3, hr_3, hv⟩ := qB hv
      refine q_V (As := [.int x1, .int x2]) (rest := []) (C := RX5) (T0 := TX5) (N0 := 2) (ci := 4) hx hb hml hown hts hl.1 (kX5_wouldBeSplit l D E a0_0 a0_1 a0_2 a0_3 a0_4 hr_3) zNo_mv (cwV 2 hts gX5_unevennessIn_X5_wouldBeSplit rfl rfl rfl (by decide +kernel) ⟨(rmR_f (by decide)), (rmR_l (by decide))⟩) 0 rfl rfl (hP.sub (ws' := (wTree E a0_0 a0_1 a0_2 a0_3 a0_4 T0)) [0, 1, 2, 3, 4] rfl) hK trivial rfl rfl (Nat.le_of_ble_eq_true rfl) dX5_unevennessIn_9 ⟨Nat.zero_le _, Nat.zero_le _⟩ ?_
      refine lv_if_ne (tgt := 22) hx hb dX5_unevennessIn_12 (by decide) (fun c_12_k_4 => ?_) (fun c_12_k_4 => ?_)
      · have hv := qF c_12_k_4 hv
        refine lv_iconst (v := 0) hx hb dX5_unevennessIn_22 (by decide) ?_
        refine lv_istore_n (lv' := [(3, .int (0:Int32)), (0, .ref a0_0), (1, .int x1), (2, .int x2)]) hx hb dX5_unevennessIn_23 rfl hl (by decide) rfl (fun ls hl => ?_)
        refine lv_iconst (v := 0) hx hb dX5_unevennessIn_24 (by decide) ?_
        refine lv_istore (lv' := [(4, .int (0:Int32)), (3, .int (0:Int32)), (0, .ref a0_0), (1, .int x1), (2, .int x2)]) hx hb dX5_unevennessIn_25 hl (by decide) rfl (fun ls hl => ?_)
        exact wfX5_unevennessIn_L27 C hP hK hZ (hself := hself) 6000 (0:Int32) (0:Int32) hv _ (lv_sub hl [2, 3, 4, 1, 0] rfl)
      · have hv := qT c_12_k_4 hv
        refine lv_aload_n hx hb dX5_unevennessIn_15 rfl (lv_at hl 0 rfl) ?_
        refine lv_iload_n hx hb dX5_unevennessIn_16 rfl (lv_at hl 1 rfl) ?_
        refine lv_iload_n hx hb dX5_unevennessIn_17 rfl (lv_at hl 2 rfl) ?_
        obtain ⟨r_7, hr_7, hv⟩ := qB hv
        refine q_V (As := [.int x1, .int x2]) (rest := []) (C := RX5) (T0 := TX5) (N0 := 2) (ci := 4) hx hb hml hown hts hl.1 (kX5_greatestStepOutOf l D E t a0_0 a0_1 a0_2 a0_3 a0_4 hr_7) zSt_mv (cwV 2 hts gX5_unevennessIn_X5_greatestStepOutOf rfl rfl rfl (by decide +kernel) ⟨(rmR_f (by decide)), (rmR_l (by decide))⟩) 0 rfl rfl (hP.sub (ws' := (wTree E a0_0 a0_1 a0_2 a0_3 a0_4 T0)) [0, 1, 2, 3, 4] rfl) hK hZ rfl rfl (Nat.le_of_ble_eq_true rfl) dX5_unevennessIn_18 ⟨Nat.zero_le _, Nat.zero_le _⟩ ?_
        exact q_ret C dX5_unevennessIn_21 hv
theorem kX5_unevennessIn (l : Launch) (D : va_G) (E : Nat → ClassId) (t : Nat → Nat) (a0_0 a0_1 a0_2 a0_3 a0_4 : Nat) {T0 : FS} {x1 : Int32} {x2 : Int32} {v : Int32} (hv : fX5_unevennessIn T0 8 x1 x2 = some v) : PU l yX5_unevennessIn wsX5_unevennessIn (rmR 5 113 24 8) D E (zSt t) ((wTree E a0_0 a0_1 a0_2 a0_3 a0_4 T0)) [.ref a0_0, .int x1, .int x2] v := kkX5_unevennessIn l D E t a0_0 a0_1 a0_2 a0_3 a0_4 8 x1 x2 v hv
