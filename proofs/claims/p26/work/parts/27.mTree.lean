theorem lkX5_addToSums_18 : (.fieldLink RX5 18 "QuarterTiles$Tree" "sums" "[I" : Cond) ∈ wsX5_addToSums := by decide +kernel
theorem hiX5_addToSums_X5 : ∀ w ∈ wsX50, w ∈ wsX5_addToSums := by decide +kernel
set_option maxRecDepth 100000 in
set_option maxHeartbeats 4000000 in
theorem wfX5_addToSums_L17 {p : Program} {e : Env} {s : State} {m : MethodId} {below : List Frame} {meth : Method} {c : Code} {l : Launch} {D : va_G} {E : Nat → ClassId} {a0_0 a0_1 a0_2 a0_3 a0_4 : Nat} {x1 : Int32} {x2 : Int32} {T09 : FS} {A : Nat → Prop} {y1 : Int32} {y2 : Int32} (C : Ctx p s m meth c [.ref a0_0, .int x1, .int x2] wsX5_addToSums cX5_addToSums 4 none RX5) (hK : va_K D vwCl (tyE E) s) (hA : ∀ q : Nat, s.heap.size ≤ q → A q) : ∀ (q : Nat) (T0 : FS) (y3 : Int32), fX5_addToSums_L17 y1 y2 q T0 y3 = some (T09) → ∀ (H : Heap) (locs : List Loc) (ls : Array Slot), va_P D vwCl ((wTree E a0_0 a0_1 a0_2 a0_3 a0_4 T0)) H → va_D A ((wTree E a0_0 a0_1 a0_2 a0_3 a0_4 T0)) → va_S A s.heap H locs → lv_has ls 4 [(0, .ref a0_0), (1, .int y1), (2, .int y2), (3, .int y3)] → WV p l e (rmN 1 22) s m [.ref a0_0, .int x1, .int x2] below meth c D A (fun _ : Unit => (wTree E a0_0 a0_1 a0_2 a0_3 a0_4 T09)) 0 0 H locs 0 0 17 ls [] := by
  obtain ⟨hx, hb, hr, hml, hown, hlocks, hts⟩ := id C
  intro q
  induction q with
  | zero =>
    intro T0 y3 hv
    cases hv
  | succ q ih =>
    intro T0 y3 hv H locs ls hP hD hS hl
    rw [fX5_addToSums_L17.eq_2] at hv
    refine lv_iload_n hx hb dX5_addToSums_17 rfl (lv_at hl 3 rfl) ?_
    refine lv_bipush (v := 6) hx hb dX5_addToSums_18 (by decide) ?_
    refine lv_icmp_gt (tgt := 45) hx hb dX5_addToSums_20 (by decide) (fun c_20_k_3 => ?_) (fun c_20_k_3 => ?_)
    · have hv := qT c_20_k_3 hv
      exact m_retv (F := (fun (Z9 : FS) => (fun _ : Unit => (wTree E a0_0 a0_1 a0_2 a0_3 a0_4 Z9)))) () C dX5_addToSums_45 hv hP hD hS
    · have hv := qF c_20_k_3 hv
      refine lv_aload_n hx hb dX5_addToSums_23 rfl (lv_at hl 0 rfl) ?_
      refine va_get (D := D) (ci := 4) (v := .ref a0_1) (C := RX5) (T := TX5) (N := 2) hx hb hts hiX5_addToSums_X5 hown hK hP 0 rfl rfl 1 (by decide) (hts _ lkX5_addToSums_18) (fun _ h9 => h9) rfl dX5_addToSums_24 ?_
      refine lv_iload_n hx hb dX5_addToSums_27 rfl (lv_at hl 1 rfl) ?_
      refine lv_bipush (v := 6) hx hb dX5_addToSums_28 (by decide) ?_
      refine lv_iload_n hx hb dX5_addToSums_30 rfl (lv_at hl 3 rfl) ?_
      obtain ⟨r_4, hr_4, hv⟩ := qB hv
      refine q_S (As := [.int y1, .int (6:Int32), .int y3]) (rest := [.ref a0_1]) hx hb hml hown hts hl.1 (kX1_upTo l D E  hr_4) zNo_mv (va_cwS 3 hts gX5_addToSums_X1_upTo rfl rfl rfl (by decide +kernel) ⟨Nat.le_of_ble_eq_true rfl, Nat.le_of_ble_eq_true rfl⟩) (hP.sub (ws' := []) [] rfl) hK trivial rfl rfl (Nat.le_of_ble_eq_true rfl) dX5_addToSums_31 ⟨Nat.zero_le _, Nat.zero_le _⟩ ?_
      refine lv_dup2_11 hx hb dX5_addToSums_34 rfl rfl ?_
      obtain ⟨x_5, hx_5, hv⟩ := qB hv
      refine q_ild hx hb hK hP 1 0 rfl rfl hx_5 dX5_addToSums_35 ?_
      refine lv_iload_n hx hb dX5_addToSums_36 rfl (lv_at hl 2 rfl) ?_
      refine lv_iadd hx hb dX5_addToSums_37 ?_
      obtain ⟨f_6, hf_6, hv⟩ := qB hv
      refine m_ist hx hb hK hP hD hS 1 0 rfl rfl hf_6 dX5_addToSums_38 (fun H locs hP hD hS => ?_)
      obtain ⟨T0s_7, hT0s_7, hv⟩ := qB hv
      obtain ⟨hP, hD⟩ := m_st (F := fun Z9 : FS => (wTree E a0_0 a0_1 a0_2 a0_3 a0_4 Z9)) (Option.some.inj hT0s_7) hP hD
      refine lv_iinc (v := (y3 + 1)) (lv' := [(3, .int (y3 + 1)), (0, .ref a0_0), (1, .int y1), (2, .int y2)]) hx hb dX5_addToSums_39 hl (k := 3) rfl (by rfl) (by decide) rfl (fun ls hl => ?_)
      refine lv_goto (tgt := 17) hx hb dX5_addToSums_42 (by decide) ?_
      exact ih T0s_7 (y3 + 1) hv _ _ _ hP hD hS (lv_sub hl [1, 2, 3, 0] rfl)

set_option maxRecDepth 100000 in
set_option maxHeartbeats 4000000 in
theorem kX5_addToSums (l : Launch) (D : va_G) (E : Nat → ClassId) (a0_0 a0_1 a0_2 a0_3 a0_4 : Nat) {T0 : FS} {x1 : Int32} {x2 : Int32} {T09 : FS} (sz : Nat) (hv : fX5_addToSums T0 x1 x2 = some (T09)) : MV l yX5_addToSums wsX5_addToSums (rmN 1 22) D E ((wTree E a0_0 a0_1 a0_2 a0_3 a0_4 T0)) sz [.ref a0_0, .int x1, .int x2] (fun _ : Unit => (wTree E a0_0 a0_1 a0_2 a0_3 a0_4 T09)) 0 0 := by
  refine MV.of (by decide) rfl (Nat.le_of_ble_eq_true rfl) ?_
  intro p e s m below meth c A H locs C hP hK hD hS hA ls hl
  have hl : lv_has ls 4 [(0, .ref a0_0), (1, .int x1), (2, .int x2)] := hl
  obtain ⟨hx, hb, hr, hml, hown, hlocks, hts⟩ := id C
  unfold fX5_addToSums at hv
  refine lv_iload_n hx hb dX5_addToSums_0 rfl (lv_at hl 1 rfl) ?_
  refine lv_sipush (v := 4096) hx hb dX5_addToSums_1 (by decide) ?_
  refine lv_icmp_lt (tgt := 14) hx hb dX5_addToSums_4 (by decide) (fun c_4_k_1 => ?_) (fun c_4_k_1 => ?_)
  · have hv := qT c_4_k_1 hv
    exact m_retv (F := (fun (Z9 : FS) => (fun _ : Unit => (wTree E a0_0 a0_1 a0_2 a0_3 a0_4 Z9)))) () C dX5_addToSums_14 hv hP hD hS
  · have hv := qF c_4_k_1 hv
    refine lv_iload_n hx hb dX5_addToSums_7 rfl (lv_at hl 1 rfl) ?_
    refine lv_sipush (v := 8192) hx hb dX5_addToSums_8 (by decide) ?_
    refine lv_icmp_lt (tgt := 15) hx hb dX5_addToSums_11 (by decide) (fun c_11_k_2 => ?_) (fun c_11_k_2 => ?_)
    · have hv := qT c_11_k_2 hv
      refine lv_iconst (v := 0) hx hb dX5_addToSums_15 (by decide) ?_
      refine lv_istore_n (lv' := [(3, .int (0:Int32)), (0, .ref a0_0), (1, .int x1), (2, .int x2)]) hx hb dX5_addToSums_16 rfl hl (by decide) rfl (fun ls hl => ?_)
      exact wfX5_addToSums_L17 C hK hA  6000 T0 (0:Int32) hv _ _ _ hP hD hS (lv_sub hl [1, 2, 3, 0] rfl)
    · have hv := qF c_11_k_2 hv
      exact m_retv (F := (fun (Z9 : FS) => (fun _ : Unit => (wTree E a0_0 a0_1 a0_2 a0_3 a0_4 Z9)))) () C dX5_addToSums_14 hv hP hD hS

theorem lkX5_addAllToSums_12 : (.fieldLink RX5 12 "QuarterTiles$Tree" "plan" "LQuarterTiles$Plan;" : Cond) ∈ wsX5_addAllToSums := by decide +kernel
theorem hiX5_addAllToSums_X5 : ∀ w ∈ wsX50, w ∈ wsX5_addAllToSums := by decide +kernel
theorem lkX5_addAllToSums_28 : (.fieldLink RX5 28 "QuarterTiles$Plan" "points" "I" : Cond) ∈ wsX5_addAllToSums := by decide +kernel
theorem hiX5_addAllToSums_X3 : ∀ w ∈ wsX30, w ∈ wsX5_addAllToSums := by decide +kernel
set_option maxRecDepth 100000 in
set_option maxHeartbeats 4000000 in
theorem wfX5_addAllToSums_L2 {p : Program} {e : Env} {s : State} {m : MethodId} {below : List Frame} {meth : Method} {c : Code} {l : Launch} {D : va_G} {E : Nat → ClassId} {a0_0 a0_1 a0_2 a0_3 a0_4 : Nat} {x1 : Int32} {T09 : FS} {A : Nat → Prop} {y1 : Int32} (C : Ctx p s m meth c [.ref a0_0, .int x1] wsX5_addAllToSums cX5_addAllToSums 3 none RX5) (hK : va_K D vwCl (tyE E) s) (hA : ∀ q : Nat, s.heap.size ≤ q → A q) : ∀ (q : Nat) (T0 : FS) (y2 : Int32), fX5_addAllToSums_L2 y1 q T0 y2 = some (T09) → ∀ (H : Heap) (locs : List Loc) (ls : Array Slot), va_P D vwCl ((wTree E a0_0 a0_1 a0_2 a0_3 a0_4 T0)) H → va_D A ((wTree E a0_0 a0_1 a0_2 a0_3 a0_4 T0)) → va_S A s.heap H locs → lv_has ls 3 [(0, .ref a0_0), (1, .int y1), (2, .int y2)] → WV p l e (rmN 2 45) s m [.ref a0_0, .int x1] below meth c D A (fun _ : Unit => (wTree E a0_0 a0_1 a0_2 a0_3 a0_4 T09)) 0 0 H locs 0 0 2 ls [] := by
  obtain ⟨hx, hb, hr, hml, hown, hlocks, hts⟩ := id C
  intro q
  induction q with
  | zero =>
    intro T0 y2 hv
    cases hv
  | succ q ih =>
    intro T0 y2 hv H locs ls hP hD hS hl
    rw [fX5_addAllToSums_L2.eq_2] at hv
    refine lv_iload_n hx hb dX5_addAllToSums_2 rfl (lv_at hl 2 rfl) ?_
    refine lv_aload_n hx hb dX5_addAllToSums_3 rfl (lv_at hl 0 rfl) ?_
    refine va_get (D := D) (ci := 4) (v := .ref a0_2) (C := RX5) (T := TX5) (N := 2) hx hb hts hiX5_addAllToSums_X5 hown hK hP 0 rfl rfl 0 (by decide) (hts _ lkX5_addAllToSums_12) (fun _ h9 => h9) rfl dX5_addAllToSums_4 ?_
    refine va_get (D := D) (ci := 2) (v := .int (T0 2 0)) (C := RX3) (T := TX3) (N := 6) hx hb hts hiX5_addAllToSums_X3 hown hK hP 2 rfl rfl 2 (by decide) (hts _ lkX5_addAllToSums_28) (fun _ h9 => h9) rfl dX5_addAllToSums_7 ?_
    refine lv_icmp_ge (tgt := 32) hx hb dX5_addAllToSums_10 (by decide) (fun c_10_k_1 => ?_) (fun c_10_k_1 => ?_)
    · have hv := qT c_10_k_1 hv
      exact m_retv (F := (fun (Z9 : FS) => (fun _ : Unit => (wTree E a0_0 a0_1 a0_2 a0_3 a0_4 Z9)))) () C dX5_addAllToSums_32 hv hP hD hS
    · have hv := qF c_10_k_1 hv
      refine lv_aload_n hx hb dX5_addAllToSums_13 rfl (lv_at hl 0 rfl) ?_
      refine lv_aload_n hx hb dX5_addAllToSums_14 rfl (lv_at hl 0 rfl) ?_
      refine va_get (D := D) (ci := 4) (v := .ref a0_2) (C := RX5) (T := TX5) (N := 2) hx hb hts hiX5_addAllToSums_X5 hown hK hP 0 rfl rfl 0 (by decide) (hts _ lkX5_addAllToSums_12) (fun _ h9 => h9) rfl dX5_addAllToSums_15 ?_
      refine lv_iload_n hx hb dX5_addAllToSums_18 rfl (lv_at hl 2 rfl) ?_
      obtain ⟨r_2, hr_2, hv⟩ := qB hv
      refine q_V (As := [.int y2]) (rest := [.ref a0_0]) (C := RX3) (T0 := TX3) (N0 := 6) (ci := 2) hx hb hml hown hts hl.1 (kX3_placeOf l D E a0_2 a0_3 a0_4 hr_2) zNo_mv (cwV 1 hts gX5_addAllToSums_X3_placeOf rfl rfl rfl (by decide +kernel) ⟨Nat.le_of_ble_eq_true rfl, Nat.le_of_ble_eq_true rfl⟩) 0 rfl rfl (hP.sub (ws' := (wPlan E a0_2 a0_3 a0_4 T0)) [2, 3, 4] rfl) hK trivial rfl rfl (Nat.le_of_ble_eq_true rfl) dX5_addAllToSums_19 ⟨Nat.zero_le _, Nat.zero_le _⟩ ?_
      refine lv_iload_n hx hb dX5_addAllToSums_22 rfl (lv_at hl 1 rfl) ?_
      obtain ⟨S_3, hS_3, hv⟩ := qB hv
      refine m_VV (As := [.int r_2, .int y1]) (rest := []) (C := RX5) (T0 := TX5) (N0 := 2) (ci := 4) (Wn := (fun _ : Unit => (wTree E a0_0 a0_1 a0_2 a0_3 a0_4 S_3))) (Wr := []) hx hb hml hown hts hl.1 (kX5_addToSums l D E a0_0 a0_1 a0_2 a0_3 a0_4 H.size hS_3) (cwV 2 hts gX5_addAllToSums_X5_addToSums rfl rfl rfl (by decide +kernel) ⟨Nat.le_of_ble_eq_true rfl, Nat.le_of_ble_eq_true rfl⟩) 0 rfl rfl hP hD hS hA hK [0, 1, 2, 3, 4] [] [0, 1, 2, 3, 4] (by decide) rfl rfl (by decide) (by decide) (by decide) (fun _ => rfl) rfl rfl (Nat.le_of_ble_eq_true rfl) dX5_addAllToSums_23 ⟨Nat.le_of_ble_eq_true rfl, Nat.le_of_ble_eq_true rfl⟩ (fun _ H locs hP hD hS => ?_)
      refine lv_iinc (v := (y2 + 1)) (lv' := [(2, .int (y2 + 1)), (0, .ref a0_0), (1, .int y1)]) hx hb dX5_addAllToSums_26 hl (k := 2) rfl (by rfl) (by decide) rfl (fun ls hl => ?_)
      refine lv_goto (tgt := 2) hx hb dX5_addAllToSums_29 (by decide) ?_
      exact ih S_3 (y2 + 1) hv _ _ _ hP hD hS (lv_sub hl [1, 2, 0] rfl)

set_option maxRecDepth 100000 in
set_option maxHeartbeats 4000000 in
theorem kX5_addAllToSums (l : Launch) (D : va_G) (E : Nat → ClassId) (a0_0 a0_1 a0_2 a0_3 a0_4 : Nat) {T0 : FS} {x1 : Int32} {T09 : FS} (sz : Nat) (hv : fX5_addAllToSums T0 x1 = some (T09)) : MV l yX5_addAllToSums wsX5_addAllToSums (rmN 2 45) D E ((wTree E a0_0 a0_1 a0_2 a0_3 a0_4 T0)) sz [.ref a0_0, .int x1] (fun _ : Unit => (wTree E a0_0 a0_1 a0_2 a0_3 a0_4 T09)) 0 0 := by
  refine MV.of (by decide) rfl (Nat.le_of_ble_eq_true rfl) ?_
  intro p e s m below meth c A H locs C hP hK hD hS hA ls hl
  have hl : lv_has ls 3 [(0, .ref a0_0), (1, .int x1)] := hl
  obtain ⟨hx, hb, hr, hml, hown, hlocks, hts⟩ := id C
  unfold fX5_addAllToSums at hv
  refine lv_iconst (v := 0) hx hb dX5_addAllToSums_0 (by decide) ?_
  refine lv_istore_n (lv' := [(2, .int (0:Int32)), (0, .ref a0_0), (1, .int x1)]) hx hb dX5_addAllToSums_1 rfl hl (by decide) rfl (fun ls hl => ?_)
  exact wfX5_addAllToSums_L2 C hK hA  6000 T0 (0:Int32) hv _ _ _ hP hD hS (lv_sub hl [1, 2, 0] rfl)

theorem lkX5_show_12 : (.fieldLink RX5 12 "QuarterTiles$Tree" "plan" "LQuarterTiles$Plan;" : Cond) ∈ wsX5_show := by decide +kernel
theorem hiX5_show_X5 : ∀ w ∈ wsX50, w ∈ wsX5_show := by decide +kernel
set_option maxRecDepth 100000 in
set_option maxHeartbeats 4000000 in
theorem kX5_show (l : Launch) (D : va_G) (E : Nat → ClassId) (a0_0 a0_1 a0_2 a0_3 a0_4 : Nat) (a1_0 a1_1 a1_2 : Nat) {T0 : FS} {P1 : FS} {T09 : FS} (sz : Nat) (hv : fX5_show T0 P1 = some (T09)) : MV l yX5_show wsX5_show (rmN 3 67) D E ((wTree E a0_0 a0_1 a0_2 a0_3 a0_4 T0) ++ (wPlan E a1_0 a1_1 a1_2 P1)) sz [.ref a0_0, .ref a1_0] (fun _ : Unit => (wTree E a0_0 a0_1 a0_2 a0_3 a0_4 T09) ++ (wPlan E a1_0 a1_1 a1_2 P1)) 0 0 := by
  refine MV.of (by decide) rfl (Nat.le_of_ble_eq_true rfl) ?_
  intro p e s m below meth c A H locs C hP hK hD hS hA ls hl
  have hl : lv_has ls 2 [(0, .ref a0_0), (1, .ref a1_0)] := hl
  obtain ⟨hx, hb, hr, hml, hown, hlocks, hts⟩ := id C
  unfold fX5_show at hv
  refine lv_aload_n hx hb dX5_show_0 rfl (lv_at hl 0 rfl) ?_
  refine lv_iconst (v := -1) hx hb dX5_show_1 (by decide) ?_
  obtain ⟨S_1, hS_1, hv⟩ := qB hv
  refine m_VV (As := [.int (-1:Int32)]) (rest := []) (C := RX5) (T0 := TX5) (N0 := 2) (ci := 4) (Wn := (fun _ : Unit => (wTree E a0_0 a0_1 a0_2 a0_3 a0_4 S_1) ++ (wPlan E a1_0 a1_1 a1_2 P1))) (Wr := [(a1_0, .inr (2, [.ref a1_1, .ref a1_2, .int (P1 2 0), .int (P1 2 1), .int (P1 2 2), .int (P1 2 3)])), aI E a1_1 50 (P1 0), aI E a1_2 12 (P1 1)]) hx hb hml hown hts hl.1 (kX5_addAllToSums l D E a0_0 a0_1 a0_2 a0_3 a0_4 H.size hS_1) (cwV 1 hts gX5_show_X5_addAllToSums rfl rfl rfl (by decide +kernel) ⟨Nat.le_of_ble_eq_true rfl, Nat.le_of_ble_eq_true rfl⟩) 0 rfl rfl hP hD hS hA hK [0, 1, 2, 3, 4] [5, 6, 7] [3, 4, 5, 6, 7, 0, 1, 2] (by decide) rfl rfl (by decide) (by decide) (by decide) (fun _ => rfl) rfl rfl (Nat.le_of_ble_eq_true rfl) dX5_show_2 ⟨Nat.le_of_ble_eq_true rfl, Nat.le_of_ble_eq_true rfl⟩ (fun _ H locs hP hD hS => ?_)
  refine lv_aload_n hx hb dX5_show_5 rfl (lv_at hl 0 rfl) ?_
  refine va_get (D := D) (ci := 4) (v := .ref a0_2) (C := RX5) (T := TX5) (N := 2) hx hb hts hiX5_show_X5 hown hK hP 0 rfl rfl 0 (by decide) (hts _ lkX5_show_12) (fun _ h9 => h9) rfl dX5_show_6 ?_
  refine lv_aload_n hx hb dX5_show_9 rfl (lv_at hl 1 rfl) ?_
  obtain ⟨S_2, hS_2, hv⟩ := qB hv
  refine m_VV (As := [.ref a1_0]) (rest := []) (C := RX3) (T0 := TX3) (N0 := 6) (ci := 2) (Wn := (fun _ : Unit => (wTree E a0_0 a0_1 a0_2 a0_3 a0_4 (sr S_2 3 (S_1 3))) ++ (wPlan E a1_0 a1_1 a1_2 P1))) (Wr := [(a0_0, .inr (4, [.ref a0_2, .ref a0_1])), aI E a0_1 8192 (S_1 3)]) hx hb hml hown hts hl.1 (kX3_copyFrom l D E a0_2 a0_3 a0_4 a1_0 a1_1 a1_2 H.size hS_2) (cwV 1 hts gX5_show_X3_copyFrom rfl rfl rfl (by decide +kernel) ⟨Nat.le_of_ble_eq_true rfl, Nat.le_of_ble_eq_true rfl⟩) 0 rfl rfl hP hD hS hA hK [2, 3, 4, 5, 6, 7] [0, 1] [0, 1, 2, 3, 4, 5, 6, 7] (by decide) rfl rfl (by decide) (by decide) (by decide) (fun _ => rfl) rfl rfl (Nat.le_of_ble_eq_true rfl) dX5_show_10 ⟨Nat.le_of_ble_eq_true rfl, Nat.le_of_ble_eq_true rfl⟩ (fun _ H locs hP hD hS => ?_)
  obtain ⟨T0s_3, hT0s_3, hv⟩ := qB hv
  obtain ⟨hP, hD⟩ := m_st (F := fun Z9 : FS => (wTree E a0_0 a0_1 a0_2 a0_3 a0_4 Z9) ++ (wPlan E a1_0 a1_1 a1_2 P1)) (Option.some.inj hT0s_3) hP hD
  refine lv_aload_n hx hb dX5_show_13 rfl (lv_at hl 0 rfl) ?_
  refine lv_iconst (v := 1) hx hb dX5_show_14 (by decide) ?_
  obtain ⟨S_4, hS_4, hv⟩ := qB hv
  refine m_VV (As := [.int (1:Int32)]) (rest := []) (C := RX5) (T0 := TX5) (N0 := 2) (ci := 4) (Wn := (fun _ : Unit => (wTree E a0_0 a0_1 a0_2 a0_3 a0_4 S_4) ++ (wPlan E a1_0 a1_1 a1_2 P1))) (Wr := [(a1_0, .inr (2, [.ref a1_1, .ref a1_2, .int (P1 2 0), .int (P1 2 1), .int (P1 2 2), .int (P1 2 3)])), aI E a1_1 50 (P1 0), aI E a1_2 12 (P1 1)]) hx hb hml hown hts hl.1 (kX5_addAllToSums l D E a0_0 a0_1 a0_2 a0_3 a0_4 H.size hS_4) (cwV 1 hts gX5_show_X5_addAllToSums rfl rfl rfl (by decide +kernel) ⟨Nat.le_of_ble_eq_true rfl, Nat.le_of_ble_eq_true rfl⟩) 0 rfl rfl hP hD hS hA hK [0, 1, 2, 3, 4] [5, 6, 7] [3, 4, 5, 6, 7, 0, 1, 2] (by decide) rfl rfl (by decide) (by decide) (by decide) (fun _ => rfl) rfl rfl (Nat.le_of_ble_eq_true rfl) dX5_show_15 ⟨Nat.le_of_ble_eq_true rfl, Nat.le_of_ble_eq_true rfl⟩ (fun _ H locs hP hD hS => ?_)
  exact m_retv (F := (fun (Z9 : FS) => (fun _ : Unit => (wTree E a0_0 a0_1 a0_2 a0_3 a0_4 Z9) ++ (wPlan E a1_0 a1_1 a1_2 P1)))) () C dX5_show_18 hv hP hD hS

theorem lkX5_addPoint_12 : (.fieldLink RX5 12 "QuarterTiles$Tree" "plan" "LQuarterTiles$Plan;" : Cond) ∈ wsX5_addPoint := by decide +kernel
theorem hiX5_addPoint_X5 : ∀ w ∈ wsX50, w ∈ wsX5_addPoint := by decide +kernel
set_option maxRecDepth 100000 in
set_option maxHeartbeats 4000000 in
theorem kX5_addPoint (l : Launch) (D : va_G) (E : Nat → ClassId) (a0_0 a0_1 a0_2 a0_3 a0_4 : Nat) {T0 : FS} {x1 : Int32} {T09 : FS} (sz : Nat) (hv : fX5_addPoint T0 x1 = some (T09)) : MV l yX5_addPoint wsX5_addPoint (rmN 2 45) D E ((wTree E a0_0 a0_1 a0_2 a0_3 a0_4 T0)) sz [.ref a0_0, .int x1] (fun _ : Unit => (wTree E a0_0 a0_1 a0_2 a0_3 a0_4 T09)) 0 0 := by
  refine MV.of (by decide) rfl (Nat.le_of_ble_eq_true rfl) ?_
  intro p e s m below meth c A H locs C hP hK hD hS hA ls hl
  have hl : lv_has ls 2 [(0, .ref a0_0), (1, .int x1)] := hl
  obtain ⟨hx, hb, hr, hml, hown, hlocks, hts⟩ := id C
  unfold fX5_addPoint at hv
  refine lv_aload_n hx hb dX5_addPoint_0 rfl (lv_at hl 0 rfl) ?_
  refine va_get (D := D) (ci := 4) (v := .ref a0_2) (C := RX5) (T := TX5) (N := 2) hx hb hts hiX5_addPoint_X5 hown hK hP 0 rfl rfl 0 (by decide) (hts _ lkX5_addPoint_12) (fun _ h9 => h9) rfl dX5_addPoint_1 ?_
  refine lv_iload_n hx hb dX5_addPoint_4 rfl (lv_at hl 1 rfl) ?_
  obtain ⟨S_1, hS_1, hv⟩ := qB hv
  refine m_VV (As := [.int x1]) (rest := []) (C := RX3) (T0 := TX3) (N0 := 6) (ci := 2) (Wn := (fun _ : Unit => (wTree E a0_0 a0_1 a0_2 a0_3 a0_4 (sr S_1 3 (T0 3))))) (Wr := [(a0_0, .inr (4, [.ref a0_2, .ref a0_1])), aI E a0_1 8192 (T0 3)]) hx hb hml hown hts hl.1 (kX3_addPlace l D E a0_2 a0_3 a0_4 H.size hS_1) (cwV 1 hts gX5_addPoint_X3_addPlace rfl rfl rfl (by decide +kernel) ⟨Nat.le_of_ble_eq_true rfl, Nat.le_of_ble_eq_true rfl⟩) 0 rfl rfl hP hD hS hA hK [2, 3, 4] [0, 1] [0, 1, 2, 3, 4] (by decide) rfl rfl (by decide) (by decide) (by decide) (fun _ => rfl) rfl rfl (Nat.le_of_ble_eq_true rfl) dX5_addPoint_5 ⟨Nat.le_of_ble_eq_true rfl, Nat.le_of_ble_eq_true rfl⟩ (fun _ H locs hP hD hS => ?_)
  obtain ⟨T0s_2, hT0s_2, hv⟩ := qB hv
  obtain ⟨hP, hD⟩ := m_st (F := fun Z9 : FS => (wTree E a0_0 a0_1 a0_2 a0_3 a0_4 Z9)) (Option.some.inj hT0s_2) hP hD
  refine lv_aload_n hx hb dX5_addPoint_8 rfl (lv_at hl 0 rfl) ?_
  refine lv_iload_n hx hb dX5_addPoint_9 rfl (lv_at hl 1 rfl) ?_
  refine lv_iconst (v := 1) hx hb dX5_addPoint_10 (by decide) ?_
  obtain ⟨S_3, hS_3, hv⟩ := qB hv
  refine m_VV (As := [.int x1, .int (1:Int32)]) (rest := []) (C := RX5) (T0 := TX5) (N0 := 2) (ci := 4) (Wn := (fun _ : Unit => (wTree E a0_0 a0_1 a0_2 a0_3 a0_4 S_3))) (Wr := []) hx hb hml hown hts hl.1 (kX5_addToSums l D E a0_0 a0_1 a0_2 a0_3 a0_4 H.size hS_3) (cwV 2 hts gX5_addPoint_X5_addToSums rfl rfl rfl (by decide +kernel) ⟨Nat.le_of_ble_eq_true rfl, Nat.le_of_ble_eq_true rfl⟩) 0 rfl rfl hP hD hS hA hK [0, 1, 2, 3, 4] [] [0, 1, 2, 3, 4] (by decide) rfl rfl (by decide) (by decide) (by decide) (fun _ => rfl) rfl rfl (Nat.le_of_ble_eq_true rfl) dX5_addPoint_11 ⟨Nat.le_of_ble_eq_true rfl, Nat.le_of_ble_eq_true rfl⟩ (fun _ H locs hP hD hS => ?_)
  exact m_retv (F := (fun (Z9 : FS) => (fun _ : Unit => (wTree E a0_0 a0_1 a0_2 a0_3 a0_4 Z9)))) () C dX5_addPoint_14 hv hP hD hS

theorem lkX5_removePoint_12 : (.fieldLink RX5 12 "QuarterTiles$Tree" "plan" "LQuarterTiles$Plan;" : Cond) ∈ wsX5_removePoint := by decide +kernel
theorem hiX5_removePoint_X5 : ∀ w ∈ wsX50, w ∈ wsX5_removePoint := by decide +kernel
set_option maxRecDepth 100000 in
set_option maxHeartbeats 4000000 in
theorem kX5_removePoint (l : Launch) (D : va_G) (E : Nat → ClassId) (a0_0 a0_1 a0_2 a0_3 a0_4 : Nat) {T0 : FS} {x1 : Int32} {T09 : FS} (sz : Nat) (hv : fX5_removePoint T0 x1 = some (T09)) : MV l yX5_removePoint wsX5_removePoint (rmN 2 51) D E ((wTree E a0_0 a0_1 a0_2 a0_3 a0_4 T0)) sz [.ref a0_0, .int x1] (fun _ : Unit => (wTree E a0_0 a0_1 a0_2 a0_3 a0_4 T09)) 0 0 := by
  refine MV.of (by decide) rfl (Nat.le_of_ble_eq_true rfl) ?_
  intro p e s m below meth c A H locs C hP hK hD hS hA ls hl
  have hl : lv_has ls 2 [(0, .ref a0_0), (1, .int x1)] := hl
  obtain ⟨hx, hb, hr, hml, hown, hlocks, hts⟩ := id C
  unfold fX5_removePoint at hv
  refine lv_aload_n hx hb dX5_removePoint_0 rfl (lv_at hl 0 rfl) ?_
  refine lv_aload_n hx hb dX5_removePoint_1 rfl (lv_at hl 0 rfl) ?_
  refine va_get (D := D) (ci := 4) (v := .ref a0_2) (C := RX5) (T := TX5) (N := 2) hx hb hts hiX5_removePoint_X5 hown hK hP 0 rfl rfl 0 (by decide) (hts _ lkX5_removePoint_12) (fun _ h9 => h9) rfl dX5_removePoint_2 ?_
  refine lv_iload_n hx hb dX5_removePoint_5 rfl (lv_at hl 1 rfl) ?_
  obtain ⟨r_1, hr_1, hv⟩ := qB hv
  refine q_V (As := [.int x1]) (rest := [.ref a0_0]) (C := RX3) (T0 := TX3) (N0 := 6) (ci := 2) hx hb hml hown hts hl.1 (kX3_placeOf l D E a0_2 a0_3 a0_4 hr_1) zNo_mv (cwV 1 hts gX5_removePoint_X3_placeOf rfl rfl rfl (by decide +kernel) ⟨Nat.le_of_ble_eq_true rfl, Nat.le_of_ble_eq_true rfl⟩) 0 rfl rfl (hP.sub (ws' := (wPlan E a0_2 a0_3 a0_4 T0)) [2, 3, 4] rfl) hK trivial rfl rfl (Nat.le_of_ble_eq_true rfl) dX5_removePoint_6 ⟨Nat.zero_le _, Nat.zero_le _⟩ ?_
  refine lv_iconst (v := -1) hx hb dX5_removePoint_9 (by decide) ?_
  obtain ⟨S_2, hS_2, hv⟩ := qB hv
  refine m_VV (As := [.int r_1, .int (-1:Int32)]) (rest := []) (C := RX5) (T0 := TX5) (N0 := 2) (ci := 4) (Wn := (fun _ : Unit => (wTree E a0_0 a0_1 a0_2 a0_3 a0_4 S_2))) (Wr := []) hx hb hml hown hts hl.1 (kX5_addToSums l D E a0_0 a0_1 a0_2 a0_3 a0_4 H.size hS_2) (cwV 2 hts gX5_removePoint_X5_addToSums rfl rfl rfl (by decide +kernel) ⟨Nat.le_of_ble_eq_true rfl, Nat.le_of_ble_eq_true rfl⟩) 0 rfl rfl hP hD hS hA hK [0, 1, 2, 3, 4] [] [0, 1, 2, 3, 4] (by decide) rfl rfl (by decide) (by decide) (by decide) (fun _ => rfl) rfl rfl (Nat.le_of_ble_eq_true rfl) dX5_removePoint_10 ⟨Nat.le_of_ble_eq_true rfl, Nat.le_of_ble_eq_true rfl⟩ (fun _ H locs hP hD hS => ?_)
  refine lv_aload_n hx hb dX5_removePoint_13 rfl (lv_at hl 0 rfl) ?_
  refine va_get (D := D) (ci := 4) (v := .ref a0_2) (C := RX5) (T := TX5) (N := 2) hx hb hts hiX5_removePoint_X5 hown hK hP 0 rfl rfl 0 (by decide) (hts _ lkX5_removePoint_12) (fun _ h9 => h9) rfl dX5_removePoint_14 ?_
  refine lv_iload_n hx hb dX5_removePoint_17 rfl (lv_at hl 1 rfl) ?_
  obtain ⟨S_3, hS_3, hv⟩ := qB hv
  refine m_VV (As := [.int x1]) (rest := []) (C := RX3) (T0 := TX3) (N0 := 6) (ci := 2) (Wn := (fun _ : Unit => (wTree E a0_0 a0_1 a0_2 a0_3 a0_4 (sr S_3 3 (S_2 3))))) (Wr := [(a0_0, .inr (4, [.ref a0_2, .ref a0_1])), aI E a0_1 8192 (S_2 3)]) hx hb hml hown hts hl.1 (kX3_removePlace l D E a0_2 a0_3 a0_4 H.size hS_3) (cwV 1 hts gX5_removePoint_X3_removePlace rfl rfl rfl (by decide +kernel) ⟨Nat.le_of_ble_eq_true rfl, Nat.le_of_ble_eq_true rfl⟩) 0 rfl rfl hP hD hS hA hK [2, 3, 4] [0, 1] [0, 1, 2, 3, 4] (by decide) rfl rfl (by decide) (by decide) (by decide) (fun _ => rfl) rfl rfl (Nat.le_of_ble_eq_true rfl) dX5_removePoint_18 ⟨Nat.le_of_ble_eq_true rfl, Nat.le_of_ble_eq_true rfl⟩ (fun _ H locs hP hD hS => ?_)
  obtain ⟨T0s_4, hT0s_4, hv⟩ := qB hv
  obtain ⟨hP, hD⟩ := m_st (F := fun Z9 : FS => (wTree E a0_0 a0_1 a0_2 a0_3 a0_4 Z9)) (Option.some.inj hT0s_4) hP hD
  exact m_retv (F := (fun (Z9 : FS) => (fun _ : Unit => (wTree E a0_0 a0_1 a0_2 a0_3 a0_4 Z9)))) () C dX5_removePoint_21 hv hP hD hS

theorem lkX5_shiftPoint_12 : (.fieldLink RX5 12 "QuarterTiles$Tree" "plan" "LQuarterTiles$Plan;" : Cond) ∈ wsX5_shiftPoint := by decide +kernel
theorem hiX5_shiftPoint_X5 : ∀ w ∈ wsX50, w ∈ wsX5_shiftPoint := by decide +kernel
set_option maxRecDepth 100000 in
set_option maxHeartbeats 4000000 in
theorem kX5_shiftPoint (l : Launch) (D : va_G) (E : Nat → ClassId) (a0_0 a0_1 a0_2 a0_3 a0_4 : Nat) {T0 : FS} {x1 : Int32} {x2 : Int32} {T09 : FS} (sz : Nat) (hv : fX5_shiftPoint T0 x1 x2 = some (T09)) : MV l yX5_shiftPoint wsX5_shiftPoint (rmN 2 45) D E ((wTree E a0_0 a0_1 a0_2 a0_3 a0_4 T0)) sz [.ref a0_0, .int x1, .int x2] (fun _ : Unit => (wTree E a0_0 a0_1 a0_2 a0_3 a0_4 T09)) 0 0 := by
  refine MV.of (by decide) rfl (Nat.le_of_ble_eq_true rfl) ?_
  intro p e s m below meth c A H locs C hP hK hD hS hA ls hl
  have hl : lv_has ls 3 [(0, .ref a0_0), (1, .int x1), (2, .int x2)] := hl
  obtain ⟨hx, hb, hr, hml, hown, hlocks, hts⟩ := id C
  unfold fX5_shiftPoint at hv
  refine lv_aload_n hx hb dX5_shiftPoint_0 rfl (lv_at hl 0 rfl) ?_
  refine lv_aload_n hx hb dX5_shiftPoint_1 rfl (lv_at hl 0 rfl) ?_
  refine va_get (D := D) (ci := 4) (v := .ref a0_2) (C := RX5) (T := TX5) (N := 2) hx hb hts hiX5_shiftPoint_X5 hown hK hP 0 rfl rfl 0 (by decide) (hts _ lkX5_shiftPoint_12) (fun _ h9 => h9) rfl dX5_shiftPoint_2 ?_
  refine lv_iload_n hx hb dX5_shiftPoint_5 rfl (lv_at hl 1 rfl) ?_
  obtain ⟨r_1, hr_1, hv⟩ := qB hv
  refine q_V (As := [.int x1]) (rest := [.ref a0_0]) (C := RX3) (T0 := TX3) (N0 := 6) (ci := 2) hx hb hml hown hts hl.1 (kX3_placeOf l D E a0_2 a0_3 a0_4 hr_1) zNo_mv (cwV 1 hts gX5_shiftPoint_X3_placeOf rfl rfl rfl (by decide +kernel) ⟨Nat.le_of_ble_eq_true rfl, Nat.le_of_ble_eq_true rfl⟩) 0 rfl rfl (hP.sub (ws' := (wPlan E a0_2 a0_3 a0_4 T0)) [2, 3, 4] rfl) hK trivial rfl rfl (Nat.le_of_ble_eq_true rfl) dX5_shiftPoint_6 ⟨Nat.zero_le _, Nat.zero_le _⟩ ?_
  refine lv_iconst (v := -1) hx hb dX5_shiftPoint_9 (by decide) ?_
  obtain ⟨S_2, hS_2, hv⟩ := qB hv
  refine m_VV (As := [.int r_1, .int (-1:Int32)]) (rest := []) (C := RX5) (T0 := TX5) (N0 := 2) (ci := 4) (Wn := (fun _ : Unit => (wTree E a0_0 a0_1 a0_2 a0_3 a0_4 S_2))) (Wr := []) hx hb hml hown hts hl.1 (kX5_addToSums l D E a0_0 a0_1 a0_2 a0_3 a0_4 H.size hS_2) (cwV 2 hts gX5_shiftPoint_X5_addToSums rfl rfl rfl (by decide +kernel) ⟨Nat.le_of_ble_eq_true rfl, Nat.le_of_ble_eq_true rfl⟩) 0 rfl rfl hP hD hS hA hK [0, 1, 2, 3, 4] [] [0, 1, 2, 3, 4] (by decide) rfl rfl (by decide) (by decide) (by decide) (fun _ => rfl) rfl rfl (Nat.le_of_ble_eq_true rfl) dX5_shiftPoint_10 ⟨Nat.le_of_ble_eq_true rfl, Nat.le_of_ble_eq_true rfl⟩ (fun _ H locs hP hD hS => ?_)
  refine lv_aload_n hx hb dX5_shiftPoint_13 rfl (lv_at hl 0 rfl) ?_
  refine va_get (D := D) (ci := 4) (v := .ref a0_2) (C := RX5) (T := TX5) (N := 2) hx hb hts hiX5_shiftPoint_X5 hown hK hP 0 rfl rfl 0 (by decide) (hts _ lkX5_shiftPoint_12) (fun _ h9 => h9) rfl dX5_shiftPoint_14 ?_
  refine lv_iload_n hx hb dX5_shiftPoint_17 rfl (lv_at hl 1 rfl) ?_
  refine lv_iload_n hx hb dX5_shiftPoint_18 rfl (lv_at hl 2 rfl) ?_
  obtain ⟨S_3, hS_3, hv⟩ := qB hv
  refine m_VV (As := [.int x1, .int x2]) (rest := []) (C := RX3) (T0 := TX3) (N0 := 6) (ci := 2) (Wn := (fun _ : Unit => (wTree E a0_0 a0_1 a0_2 a0_3 a0_4 (sr S_3 3 (S_2 3))))) (Wr := [(a0_0, .inr (4, [.ref a0_2, .ref a0_1])), aI E a0_1 8192 (S_2 3)]) hx hb hml hown hts hl.1 (kX3_changePlace l D E a0_2 a0_3 a0_4 H.size hS_3) (cwV 2 hts gX5_shiftPoint_X3_changePlace rfl rfl rfl (by decide +kernel) ⟨Nat.le_of_ble_eq_true rfl, Nat.le_of_ble_eq_true rfl⟩) 0 rfl rfl hP hD hS hA hK [2, 3, 4] [0, 1] [0, 1, 2, 3, 4] (by decide) rfl rfl (by decide) (by decide) (by decide) (fun _ => rfl) rfl rfl (Nat.le_of_ble_eq_true rfl) dX5_shiftPoint_19 ⟨Nat.le_of_ble_eq_true rfl, Nat.le_of_ble_eq_true rfl⟩ (fun _ H locs hP hD hS => ?_)
  obtain ⟨T0s_4, hT0s_4, hv⟩ := qB hv
  obtain ⟨hP, hD⟩ := m_st (F := fun Z9 : FS => (wTree E a0_0 a0_1 a0_2 a0_3 a0_4 Z9)) (Option.some.inj hT0s_4) hP hD
  refine lv_aload_n hx hb dX5_shiftPoint_22 rfl (lv_at hl 0 rfl) ?_
  refine lv_iload_n hx hb dX5_shiftPoint_23 rfl (lv_at hl 2 rfl) ?_
  refine lv_iconst (v := 1) hx hb dX5_shiftPoint_24 (by decide) ?_
  obtain ⟨S_5, hS_5, hv⟩ := qB hv
  refine m_VV (As := [.int x2, .int (1:Int32)]) (rest := []) (C := RX5) (T0 := TX5) (N0 := 2) (ci := 4) (Wn := (fun _ : Unit => (wTree E a0_0 a0_1 a0_2 a0_3 a0_4 S_5))) (Wr := []) hx hb hml hown hts hl.1 (kX5_addToSums l D E a0_0 a0_1 a0_2 a0_3 a0_4 H.size hS_5) (cwV 2 hts gX5_shiftPoint_X5_addToSums rfl rfl rfl (by decide +kernel) ⟨Nat.le_of_ble_eq_true rfl, Nat.le_of_ble_eq_true rfl⟩) 0 rfl rfl hP hD hS hA hK [0, 1, 2, 3, 4] [] [0, 1, 2, 3, 4] (by decide) rfl rfl (by decide) (by decide) (by decide) (fun _ => rfl) rfl rfl (Nat.le_of_ble_eq_true rfl) dX5_shiftPoint_25 ⟨Nat.le_of_ble_eq_true rfl, Nat.le_of_ble_eq_true rfl⟩ (fun _ H locs hP hD hS => ?_)
  exact m_retv (F := (fun (Z9 : FS) => (fun _ : Unit => (wTree E a0_0 a0_1 a0_2 a0_3 a0_4 Z9)))) () C dX5_shiftPoint_28 hv hP hD hS

set_option maxRecDepth 100000 in
set_option maxHeartbeats 4000000 in
theorem kX5_leavesIfPut (l : Launch) (D : va_G) (E : Nat → ClassId) (a0_0 a0_1 a0_2 a0_3 a0_4 : Nat) {T0 : FS} {x1 : Int32} {v : Int32} {T09 : FS} (sz : Nat) (hv : fX5_leavesIfPut T0 x1 = some (v, T09)) : MI l yX5_leavesIfPut wsX5_leavesIfPut (rmN 13 301) D E ((wTree E a0_0 a0_1 a0_2 a0_3 a0_4 T0)) sz [.ref a0_0, .int x1] v (fun _ : Unit => (wTree E a0_0 a0_1 a0_2 a0_3 a0_4 T09)) 0 0 := by
  refine MI.of (by decide) rfl (Nat.le_of_ble_eq_true rfl) ?_
  intro p e s m below meth c A H locs C hP hK hD hS hA ls hl
  have hl : lv_has ls 3 [(0, .ref a0_0), (1, .int x1)] := hl
  obtain ⟨hx, hb, hr, hml, hown, hlocks, hts⟩ := id C
  unfold fX5_leavesIfPut at hv
  refine lv_aload_n hx hb dX5_leavesIfPut_0 rfl (lv_at hl 0 rfl) ?_
  refine lv_iload_n hx hb dX5_leavesIfPut_1 rfl (lv_at hl 1 rfl) ?_
  refine lv_iconst (v := 1) hx hb dX5_leavesIfPut_2 (by decide) ?_
  obtain ⟨S_1, hS_1, hv⟩ := qB hv
  refine m_VV (As := [.int x1, .int (1:Int32)]) (rest := []) (C := RX5) (T0 := TX5) (N0 := 2) (ci := 4) (Wn := (fun _ : Unit => (wTree E a0_0 a0_1 a0_2 a0_3 a0_4 S_1))) (Wr := []) hx hb hml hown hts hl.1 (kX5_addToSums l D E a0_0 a0_1 a0_2 a0_3 a0_4 H.size hS_1) (cwV 2 hts gX5_leavesIfPut_X5_addToSums rfl rfl rfl (by decide +kernel) ⟨Nat.le_of_ble_eq_true rfl, Nat.le_of_ble_eq_true rfl⟩) 0 rfl rfl hP hD hS hA hK [0, 1, 2, 3, 4] [] [0, 1, 2, 3, 4] (by decide) rfl rfl (by decide) (by decide) (by decide) (fun _ => rfl) rfl rfl (Nat.le_of_ble_eq_true rfl) dX5_leavesIfPut_3 ⟨Nat.le_of_ble_eq_true rfl, Nat.le_of_ble_eq_true rfl⟩ (fun _ H locs hP hD hS => ?_)
  refine lv_aload_n hx hb dX5_leavesIfPut_6 rfl (lv_at hl 0 rfl) ?_
  obtain ⟨r_2, hr_2, hv⟩ := qB hv
  refine q_V (As := []) (rest := []) (C := RX5) (T0 := TX5) (N0 := 2) (ci := 4) hx hb hml hown hts hl.1 (kX5_leaves l D E a0_0 a0_1 a0_2 a0_3 a0_4 hr_2) zNo_mv (cwV 0 hts gX5_leavesIfPut_X5_leaves rfl rfl rfl (by decide +kernel) ⟨Nat.le_of_ble_eq_true rfl, Nat.le_of_ble_eq_true rfl⟩) 0 rfl rfl (hP.sub (ws' := (wTree E a0_0 a0_1 a0_2 a0_3 a0_4 S_1)) [0, 1, 2, 3, 4] rfl) hK trivial rfl rfl (Nat.le_of_ble_eq_true rfl) dX5_leavesIfPut_7 ⟨Nat.zero_le _, Nat.zero_le _⟩ ?_
  refine lv_istore_n (lv' := [(2, .int r_2), (0, .ref a0_0), (1, .int x1)]) hx hb dX5_leavesIfPut_10 rfl hl (by decide) rfl (fun ls hl => ?_)
  refine lv_aload_n hx hb dX5_leavesIfPut_11 rfl (lv_at hl 1 rfl) ?_
  refine lv_iload_n hx hb dX5_leavesIfPut_12 rfl (lv_at hl 2 rfl) ?_
  refine lv_iconst (v := -1) hx hb dX5_leavesIfPut_13 (by decide) ?_
  obtain ⟨S_3, hS_3, hv⟩ := qB hv
  refine m_VV (As := [.int x1, .int (-1:Int32)]) (rest := []) (C := RX5) (T0 := TX5) (N0 := 2) (ci := 4) (Wn := (fun _ : Unit => (wTree E a0_0 a0_1 a0_2 a0_3 a0_4 S_3))) (Wr := []) hx hb hml hown hts hl.1 (kX5_addToSums l D E a0_0 a0_1 a0_2 a0_3 a0_4 H.size hS_3) (cwV 2 hts gX5_leavesIfPut_X5_addToSums rfl rfl rfl (by decide +kernel) ⟨Nat.le_of_ble_eq_true rfl, Nat.le_of_ble_eq_true rfl⟩) 0 rfl rfl hP hD hS hA hK [0, 1, 2, 3, 4] [] [0, 1, 2, 3, 4] (by decide) rfl rfl (by decide) (by decide) (by decide) (fun _ => rfl) rfl rfl (Nat.le_of_ble_eq_true rfl) dX5_leavesIfPut_14 ⟨Nat.le_of_ble_eq_true rfl, Nat.le_of_ble_eq_true rfl⟩ (fun _ H locs hP hD hS => ?_)
  refine lv_iload_n hx hb dX5_leavesIfPut_17 rfl (lv_at hl 0 rfl) ?_
  exact m_ret (F := (fun (Z9 : FS) => (fun _ : Unit => (wTree E a0_0 a0_1 a0_2 a0_3 a0_4 Z9)))) () C dX5_leavesIfPut_18 hv hP hD hS

set_option maxRecDepth 100000 in
set_option maxHeartbeats 4000000 in
theorem kX5_depthIfPut (l : Launch) (D : va_G) (E : Nat → ClassId) (a0_0 a0_1 a0_2 a0_3 a0_4 : Nat) {T0 : FS} {x1 : Int32} {v : Int32} {T09 : FS} (sz : Nat) (hv : fX5_depthIfPut T0 x1 = some (v, T09)) : MI l yX5_depthIfPut wsX5_depthIfPut (rmN 4 87) D E ((wTree E a0_0 a0_1 a0_2 a0_3 a0_4 T0)) sz [.ref a0_0, .int x1] v (fun _ : Unit => (wTree E a0_0 a0_1 a0_2 a0_3 a0_4 T09)) 0 0 := by
  refine MI.of (by decide) rfl (Nat.le_of_ble_eq_true rfl) ?_
  intro p e s m below meth c A H locs C hP hK hD hS hA ls hl
  have hl : lv_has ls 3 [(0, .ref a0_0), (1, .int x1)] := hl
  obtain ⟨hx, hb, hr, hml, hown, hlocks, hts⟩ := id C
  unfold fX5_depthIfPut at hv
  refine lv_aload_n hx hb dX5_depthIfPut_0 rfl (lv_at hl 0 rfl) ?_
  refine lv_iload_n hx hb dX5_depthIfPut_1 rfl (lv_at hl 1 rfl) ?_
  refine lv_iconst (v := 1) hx hb dX5_depthIfPut_2 (by decide) ?_
  obtain ⟨S_1, hS_1, hv⟩ := qB hv
  refine m_VV (As := [.int x1, .int (1:Int32)]) (rest := []) (C := RX5) (T0 := TX5) (N0 := 2) (ci := 4) (Wn := (fun _ : Unit => (wTree E a0_0 a0_1 a0_2 a0_3 a0_4 S_1))) (Wr := []) hx hb hml hown hts hl.1 (kX5_addToSums l D E a0_0 a0_1 a0_2 a0_3 a0_4 H.size hS_1) (cwV 2 hts gX5_depthIfPut_X5_addToSums rfl rfl rfl (by decide +kernel) ⟨Nat.le_of_ble_eq_true rfl, Nat.le_of_ble_eq_true rfl⟩) 0 rfl rfl hP hD hS hA hK [0, 1, 2, 3, 4] [] [0, 1, 2, 3, 4] (by decide) rfl rfl (by decide) (by decide) (by decide) (fun _ => rfl) rfl rfl (Nat.le_of_ble_eq_true rfl) dX5_depthIfPut_3 ⟨Nat.le_of_ble_eq_true rfl, Nat.le_of_ble_eq_true rfl⟩ (fun _ H locs hP hD hS => ?_)
  refine lv_aload_n hx hb dX5_depthIfPut_6 rfl (lv_at hl 0 rfl) ?_
  refine lv_iload_n hx hb dX5_depthIfPut_7 rfl (lv_at hl 1 rfl) ?_
  obtain ⟨r_2, hr_2, hv⟩ := qB hv
  refine q_V (As := [.int x1]) (rest := []) (C := RX5) (T0 := TX5) (N0 := 2) (ci := 4) hx hb hml hown hts hl.1 (kX5_depthOfLeafWith l D E a0_0 a0_1 a0_2 a0_3 a0_4 hr_2) zNo_mv (cwV 1 hts gX5_depthIfPut_X5_depthOfLeafWith rfl rfl rfl (by decide +kernel) ⟨Nat.le_of_ble_eq_true rfl, Nat.le_of_ble_eq_true rfl⟩) 0 rfl rfl (hP.sub (ws' := (wTree E a0_0 a0_1 a0_2 a0_3 a0_4 S_1)) [0, 1, 2, 3, 4] rfl) hK trivial rfl rfl (Nat.le_of_ble_eq_true rfl) dX5_depthIfPut_8 ⟨Nat.zero_le _, Nat.zero_le _⟩ ?_
  refine lv_istore_n (lv' := [(2, .int r_2), (0, .ref a0_0), (1, .int x1)]) hx hb dX5_depthIfPut_11 rfl hl (by decide) rfl (fun ls hl => ?_)
  refine lv_aload_n hx hb dX5_depthIfPut_12 rfl (lv_at hl 1 rfl) ?_
  refine lv_iload_n hx hb dX5_depthIfPut_13 rfl (lv_at hl 2 rfl) ?_
  refine lv_iconst (v := -1) hx hb dX5_depthIfPut_14 (by decide) ?_
  obtain ⟨S_3, hS_3, hv⟩ := qB hv
  refine m_VV (As := [.int x1, .int (-1:Int32)]) (rest := []) (C := RX5) (T0 := TX5) (N0 := 2) (ci := 4) (Wn := (fun _ : Unit => (wTree E a0_0 a0_1 a0_2 a0_3 a0_4 S_3))) (Wr := []) hx hb hml hown hts hl.1 (kX5_addToSums l D E a0_0 a0_1 a0_2 a0_3 a0_4 H.size hS_3) (cwV 2 hts gX5_depthIfPut_X5_addToSums rfl rfl rfl (by decide +kernel) ⟨Nat.le_of_ble_eq_true rfl, Nat.le_of_ble_eq_true rfl⟩) 0 rfl rfl hP hD hS hA hK [0, 1, 2, 3, 4] [] [0, 1, 2, 3, 4] (by decide) rfl rfl (by decide) (by decide) (by decide) (fun _ => rfl) rfl rfl (Nat.le_of_ble_eq_true rfl) dX5_depthIfPut_15 ⟨Nat.le_of_ble_eq_true rfl, Nat.le_of_ble_eq_true rfl⟩ (fun _ H locs hP hD hS => ?_)
  refine lv_iload_n hx hb dX5_depthIfPut_18 rfl (lv_at hl 0 rfl) ?_
  exact m_ret (F := (fun (Z9 : FS) => (fun _ : Unit => (wTree E a0_0 a0_1 a0_2 a0_3 a0_4 Z9)))) () C dX5_depthIfPut_19 hv hP hD hS

theorem lkX5_leastFullFor_12 : (.fieldLink RX5 12 "QuarterTiles$Tree" "plan" "LQuarterTiles$Plan;" : Cond) ∈ wsX5_leastFullFor := by decide +kernel
theorem hiX5_leastFullFor_X5 : ∀ w ∈ wsX50, w ∈ wsX5_leastFullFor := by decide +kernel
theorem lkX5_leastFullFor_63 : (.fieldLink RX5 63 "QuarterTiles$Plan" "full" "I" : Cond) ∈ wsX5_leastFullFor := by decide +kernel
theorem hiX5_leastFullFor_X3 : ∀ w ∈ wsX30, w ∈ wsX5_leastFullFor := by decide +kernel
set_option maxRecDepth 100000 in
set_option maxHeartbeats 4000000 in
theorem wfX5_leastFullFor_L14 {p : Program} {e : Env} {s : State} {m : MethodId} {below : List Frame} {meth : Method} {c : Code} {l : Launch} {D : va_G} {E : Nat → ClassId} {a0_0 a0_1 a0_2 a0_3 a0_4 : Nat} {x1 : Int32} {v : Int32} {T09 : FS} {A : Nat → Prop} {y1 : Int32} {y2 : Int32} (C : Ctx p s m meth c [.ref a0_0, .int x1] wsX5_leastFullFor cX5_leastFullFor 5 (some .int) RX5) (hK : va_K D vwCl (tyE E) s) (hA : ∀ q : Nat, s.heap.size ≤ q → A q) : ∀ (q : Nat) (T0 : FS) (y3 : Int32) (y4 : Int32), fX5_leastFullFor_L14 y1 y2 q T0 y3 y4 = some (v, T09) → ∀ (H : Heap) (locs : List Loc) (ls : Array Slot), va_P D vwCl ((wTree E a0_0 a0_1 a0_2 a0_3 a0_4 T0)) H → va_D A ((wTree E a0_0 a0_1 a0_2 a0_3 a0_4 T0)) → va_S A s.heap H locs → lv_has ls 5 [(0, .ref a0_0), (1, .int y1), (2, .int y2), (3, .int y3), (4, .int y4)] → WI p l e (rmN 13 301) s m [.ref a0_0, .int x1] below meth c D A v (fun _ : Unit => (wTree E a0_0 a0_1 a0_2 a0_3 a0_4 T09)) 0 0 H locs 0 0 14 ls [] := by
  obtain ⟨hx, hb, hr, hml, hown, hlocks, hts⟩ := id C
  intro q
  induction q with
  | zero =>
    intro T0 y3 y4 hv
    cases hv
  | succ q ih =>
    intro T0 y3 y4 hv H locs ls hP hD hS hl
    rw [fX5_leastFullFor_L14.eq_2] at hv
    refine lv_iload hx hb dX5_leastFullFor_14 (lv_at hl 4 rfl) ?_
    refine lv_bipush (v := 8) hx hb dX5_leastFullFor_16 (by decide) ?_
    refine lv_icmp_gt (tgt := 53) hx hb dX5_leastFullFor_18 (by decide) (fun c_18_k_1 => ?_) (fun c_18_k_1 => ?_)
    · have hv := qT c_18_k_1 hv
      refine lv_aload_n hx hb dX5_leastFullFor_53 rfl (lv_at hl 0 rfl) ?_
      refine va_get (D := D) (ci := 4) (v := .ref a0_2) (C := RX5) (T := TX5) (N := 2) hx hb hts hiX5_leastFullFor_X5 hown hK hP 0 rfl rfl 0 (by decide) (hts _ lkX5_leastFullFor_12) (fun _ h9 => h9) rfl dX5_leastFullFor_54 ?_
      refine lv_iload_n hx hb dX5_leastFullFor_57 rfl (lv_at hl 2 rfl) ?_
      refine va_put (D := D) (ci := 2) (v := .int y2) (ty := .int) (C := RX3) (T := TX3) (N := 6) hx hb hts hiX5_leastFullFor_X3 tyX3 tyX3_ok nmX3 hown hK hP hD hS 2 rfl rfl 4 (by decide) (hts _ lkX5_leastFullFor_63) (fun _ h9 => h9) rfl (by decide +kernel) rfl rfl (Nat.le_of_ble_eq_true rfl) dX5_leastFullFor_58 (fun H locs hP hD hS => ?_)
      obtain ⟨T0s_2, hT0s_2, hv⟩ := qB hv
      obtain ⟨hP, hD⟩ := m_st (F := fun Z9 : FS => (wTree E a0_0 a0_1 a0_2 a0_3 a0_4 Z9)) (Option.some.inj hT0s_2) hP hD
      refine lv_iload_n hx hb dX5_leastFullFor_61 rfl (lv_at hl 3 rfl) ?_
      exact m_ret (F := (fun (Z9 : FS) => (fun _ : Unit => (wTree E a0_0 a0_1 a0_2 a0_3 a0_4 Z9)))) () C dX5_leastFullFor_62 hv hP hD hS
    · have hv := qF c_18_k_1 hv
      refine lv_iload_n hx hb dX5_leastFullFor_21 rfl (lv_at hl 3 rfl) ?_
      refine lv_bipush (v := -6) hx hb dX5_leastFullFor_22 (by decide) ?_
      refine lv_icmp_ne (tgt := 53) hx hb dX5_leastFullFor_24 (by decide) (fun c_24_k_3 => ?_) (fun c_24_k_3 => ?_)
      · have hv := qF c_24_k_3 hv
        refine lv_aload_n hx hb dX5_leastFullFor_53 rfl (lv_at hl 0 rfl) ?_
        refine va_get (D := D) (ci := 4) (v := .ref a0_2) (C := RX5) (T := TX5) (N := 2) hx hb hts hiX5_leastFullFor_X5 hown hK hP 0 rfl rfl 0 (by decide) (hts _ lkX5_leastFullFor_12) (fun _ h9 => h9) rfl dX5_leastFullFor_54 ?_
        refine lv_iload_n hx hb dX5_leastFullFor_57 rfl (lv_at hl 2 rfl) ?_
        refine va_put (D := D) (ci := 2) (v := .int y2) (ty := .int) (C := RX3) (T := TX3) (N := 6) hx hb hts hiX5_leastFullFor_X3 tyX3 tyX3_ok nmX3 hown hK hP hD hS 2 rfl rfl 4 (by decide) (hts _ lkX5_leastFullFor_63) (fun _ h9 => h9) rfl (by decide +kernel) rfl rfl (Nat.le_of_ble_eq_true rfl) dX5_leastFullFor_58 (fun H locs hP hD hS => ?_)
        obtain ⟨T0s_4, hT0s_4, hv⟩ := qB hv
        obtain ⟨hP, hD⟩ := m_st (F := fun Z9 : FS => (wTree E a0_0 a0_1 a0_2 a0_3 a0_4 Z9)) (Option.some.inj hT0s_4) hP hD
        refine lv_iload_n hx hb dX5_leastFullFor_61 rfl (lv_at hl 3 rfl) ?_
        exact m_ret (F := (fun (Z9 : FS) => (fun _ : Unit => (wTree E a0_0 a0_1 a0_2 a0_3 a0_4 Z9)))) () C dX5_leastFullFor_62 hv hP hD hS
      · have hv := qT c_24_k_3 hv
        refine lv_aload_n hx hb dX5_leastFullFor_27 rfl (lv_at hl 0 rfl) ?_
        refine va_get (D := D) (ci := 4) (v := .ref a0_2) (C := RX5) (T := TX5) (N := 2) hx hb hts hiX5_leastFullFor_X5 hown hK hP 0 rfl rfl 0 (by decide) (hts _ lkX5_leastFullFor_12) (fun _ h9 => h9) rfl dX5_leastFullFor_28 ?_
        refine lv_iload hx hb dX5_leastFullFor_31 (lv_at hl 4 rfl) ?_
        refine va_put (D := D) (ci := 2) (v := .int y4) (ty := .int) (C := RX3) (T := TX3) (N := 6) hx hb hts hiX5_leastFullFor_X3 tyX3 tyX3_ok nmX3 hown hK hP hD hS 2 rfl rfl 4 (by decide) (hts _ lkX5_leastFullFor_63) (fun _ h9 => h9) rfl (by decide +kernel) rfl rfl (Nat.le_of_ble_eq_true rfl) dX5_leastFullFor_33 (fun H locs hP hD hS => ?_)
        obtain ⟨T0s_5, hT0s_5, hv⟩ := qB hv
        obtain ⟨hP, hD⟩ := m_st (F := fun Z9 : FS => (wTree E a0_0 a0_1 a0_2 a0_3 a0_4 Z9)) (Option.some.inj hT0s_5) hP hD
        refine lv_aload_n hx hb dX5_leastFullFor_36 rfl (lv_at hl 0 rfl) ?_
        obtain ⟨r_6, hr_6, hv⟩ := qB hv
        refine q_V (As := []) (rest := []) (C := RX5) (T0 := TX5) (N0 := 2) (ci := 4) hx hb hml hown hts hl.1 (kX5_leaves l D E a0_0 a0_1 a0_2 a0_3 a0_4 hr_6) zNo_mv (cwV 0 hts gX5_leastFullFor_X5_leaves rfl rfl rfl (by decide +kernel) ⟨Nat.le_of_ble_eq_true rfl, Nat.le_of_ble_eq_true rfl⟩) 0 rfl rfl (hP.sub (ws' := (wTree E a0_0 a0_1 a0_2 a0_3 a0_4 T0s_5)) [0, 1, 2, 3, 4] rfl) hK trivial rfl rfl (Nat.le_of_ble_eq_true rfl) dX5_leastFullFor_37 ⟨Nat.zero_le _, Nat.zero_le _⟩ ?_
        refine lv_iload_n hx hb dX5_leastFullFor_40 rfl (lv_at hl 1 rfl) ?_
        refine lv_icmp_gt (tgt := 47) hx hb dX5_leastFullFor_41 (by decide) (fun c_41_k_7 => ?_) (fun c_41_k_7 => ?_)
        · have hv := qT c_41_k_7 hv
          refine lv_iinc (v := (y4 + 1)) (lv' := [(4, .int (y4 + 1)), (0, .ref a0_0), (1, .int y1), (2, .int y2), (3, .int y3)]) hx hb dX5_leastFullFor_47 hl (k := 4) rfl (by rfl) (by decide) rfl (fun ls hl => ?_)
          refine lv_goto (tgt := 14) hx hb dX5_leastFullFor_50 (by decide) ?_
          exact ih T0s_5 y3 (y4 + 1) hv _ _ _ hP hD hS (lv_sub hl [1, 2, 3, 4, 0] rfl)
        · have hv := qF c_41_k_7 hv
          refine lv_iload hx hb dX5_leastFullFor_44 (lv_at hl 4 rfl) ?_
          refine lv_istore_n (lv' := [(3, .int y4), (0, .ref a0_0), (1, .int y1), (2, .int y2), (4, .int y4)]) hx hb dX5_leastFullFor_46 rfl hl (by decide) rfl (fun ls hl => ?_)
          refine lv_iinc (v := (y4 + 1)) (lv' := [(4, .int (y4 + 1)), (3, .int y4), (0, .ref a0_0), (1, .int y1), (2, .int y2)]) hx hb dX5_leastFullFor_47 hl (k := 4) rfl (by rfl) (by decide) rfl (fun ls hl => ?_)
          refine lv_goto (tgt := 14) hx hb dX5_leastFullFor_50 (by decide) ?_
          exact ih T0s_5 y4 (y4 + 1) hv _ _ _ hP hD hS (lv_sub hl [2, 3, 4, 1, 0] rfl)

set_option maxRecDepth 100000 in
set_option maxHeartbeats 4000000 in
theorem kX5_leastFullFor (l : Launch) (D : va_G) (E : Nat → ClassId) (a0_0 a0_1 a0_2 a0_3 a0_4 : Nat) {T0 : FS} {x1 : Int32} {v : Int32} {T09 : FS} (sz : Nat) (hv : fX5_leastFullFor T0 x1 = some (v, T09)) : MI l yX5_leastFullFor wsX5_leastFullFor (rmN 13 301) D E ((wTree E a0_0 a0_1 a0_2 a0_3 a0_4 T0)) sz [.ref a0_0, .int x1] v (fun _ : Unit => (wTree E a0_0 a0_1 a0_2 a0_3 a0_4 T09)) 0 0 := by
  refine MI.of (by decide) rfl (Nat.le_of_ble_eq_true rfl) ?_
  intro p e s m below meth c A H locs C hP hK hD hS hA ls hl
  have hl : lv_has ls 5 [(0, .ref a0_0), (1, .int x1)] := hl
  obtain ⟨hx, hb, hr, hml, hown, hlocks, hts⟩ := id C
  unfold fX5_leastFullFor at hv
  refine lv_aload_n hx hb dX5_leastFullFor_0 rfl (lv_at hl 0 rfl) ?_
  refine va_get (D := D) (ci := 4) (v := .ref a0_2) (C := RX5) (T := TX5) (N := 2) hx hb hts hiX5_leastFullFor_X5 hown hK hP 0 rfl rfl 0 (by decide) (hts _ lkX5_leastFullFor_12) (fun _ h9 => h9) rfl dX5_leastFullFor_1 ?_
  refine va_get (D := D) (ci := 2) (v := .int (T0 2 2)) (C := RX3) (T := TX3) (N := 6) hx hb hts hiX5_leastFullFor_X3 hown hK hP 2 rfl rfl 4 (by decide) (hts _ lkX5_leastFullFor_63) (fun _ h9 => h9) rfl dX5_leastFullFor_4 ?_
  refine lv_istore_n (lv' := [(2, .int (T0 2 2)), (0, .ref a0_0), (1, .int x1)]) hx hb dX5_leastFullFor_7 rfl hl (by decide) rfl (fun ls hl => ?_)
  refine lv_bipush (v := -6) hx hb dX5_leastFullFor_8 (by decide) ?_
  refine lv_istore_n (lv' := [(3, .int (-6:Int32)), (2, .int (T0 2 2)), (0, .ref a0_0), (1, .int x1)]) hx hb dX5_leastFullFor_10 rfl hl (by decide) rfl (fun ls hl => ?_)
  refine lv_iconst (v := 1) hx hb dX5_leastFullFor_11 (by decide) ?_
  refine lv_istore (lv' := [(4, .int (1:Int32)), (3, .int (-6:Int32)), (2, .int (T0 2 2)), (0, .ref a0_0), (1, .int x1)]) hx hb dX5_leastFullFor_12 hl (by decide) rfl (fun ls hl => ?_)
  exact wfX5_leastFullFor_L14 C hK hA  6000 T0 (-6:Int32) (1:Int32) hv _ _ _ hP hD hS (lv_sub hl [3, 4, 2, 1, 0] rfl)
