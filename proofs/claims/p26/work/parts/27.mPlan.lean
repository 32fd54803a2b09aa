theorem lkX3_copyFrom_9 : (.fieldLink RX3 9 "QuarterTiles$Plan" "places" "[I" : Cond) ∈ wsX3_copyFrom := by decide +kernel
theorem hiX3_copyFrom_X3 : ∀ w ∈ wsX30, w ∈ wsX3_copyFrom := by decide +kernel
theorem lkX3_copyFrom_25a : (.methodLink RX3 25 arraycopyName : Cond) ∈ wsX3_copyFrom := by decide +kernel
theorem lkX3_copyFrom_25b : (.native arraycopyName : Cond) ∈ wsX3_copyFrom := by decide +kernel
theorem lkX3_copyFrom_25c : (.static arraycopyName : Cond) ∈ wsX3_copyFrom := by decide +kernel
theorem lkX3_copyFrom_25d : (.initialized "java/lang/System" : Cond) ∈ wsX3_copyFrom := by decide +kernel
theorem lkX3_copyFrom_15 : (.fieldLink RX3 15 "QuarterTiles$Plan" "ordered" "[I" : Cond) ∈ wsX3_copyFrom := by decide +kernel
theorem lkX3_copyFrom_31 : (.fieldLink RX3 31 "QuarterTiles$Plan" "points" "I" : Cond) ∈ wsX3_copyFrom := by decide +kernel
theorem lkX3_copyFrom_34 : (.fieldLink RX3 34 "QuarterTiles$Plan" "orders" "I" : Cond) ∈ wsX3_copyFrom := by decide +kernel
theorem lkX3_copyFrom_18 : (.fieldLink RX3 18 "QuarterTiles$Plan" "full" "I" : Cond) ∈ wsX3_copyFrom := by decide +kernel
theorem lkX3_copyFrom_22 : (.fieldLink RX3 22 "QuarterTiles$Plan" "deep" "I" : Cond) ∈ wsX3_copyFrom := by decide +kernel
set_option maxRecDepth 100000 in
set_option maxHeartbeats 4000000 in
theorem kX3_copyFrom (l : Launch) (D : va_G) (E : Nat → ClassId) (a0_0 a0_1 a0_2 : Nat) (a1_0 a1_1 a1_2 : Nat) {P0 : FS} {P1 : FS} {P09 : FS} (sz : Nat) (hv : fX3_copyFrom P0 P1 = some (P09)) : MV l yX3_copyFrom wsX3_copyFrom (rmN 1 30) D E ((wPlan E a0_0 a0_1 a0_2 P0) ++ (wPlan E a1_0 a1_1 a1_2 P1)) sz [.ref a0_0, .ref a1_0] (fun _ : Unit => (wPlan E a0_0 a0_1 a0_2 P09) ++ (wPlan E a1_0 a1_1 a1_2 P1)) 0 0 := by
  refine MV.of (by decide) rfl (Nat.le_of_ble_eq_true rfl) ?_
  intro p e s m below meth c A H locs C hP hK hD hS hA ls hl
  have hl : lv_has ls 2 [(0, .ref a0_0), (1, .ref a1_0)] := hl
  obtain ⟨hx, hb, hr, hml, hown, hlocks, hts⟩ := id C
  unfold fX3_copyFrom at hv
  refine lv_aload_n hx hb dX3_copyFrom_0 rfl (lv_at hl 1 rfl) ?_
  refine va_get (D := D) (ci := 2) (v := .ref a1_1) (C := RX3) (T := TX3) (N := 6) hx hb hts hiX3_copyFrom_X3 hown hK hP 3 rfl rfl 0 (by decide) (hts _ lkX3_copyFrom_9) (fun _ h9 => h9) rfl dX3_copyFrom_1 ?_
  refine lv_iconst (v := 0) hx hb dX3_copyFrom_4 (by decide) ?_
  refine lv_aload_n hx hb dX3_copyFrom_5 rfl (lv_at hl 0 rfl) ?_
  refine va_get (D := D) (ci := 2) (v := .ref a0_1) (C := RX3) (T := TX3) (N := 6) hx hb hts hiX3_copyFrom_X3 hown hK hP 0 rfl rfl 0 (by decide) (hts _ lkX3_copyFrom_9) (fun _ h9 => h9) rfl dX3_copyFrom_6 ?_
  refine lv_iconst (v := 0) hx hb dX3_copyFrom_9 (by decide) ?_
  refine lv_bipush (v := 50) hx hb dX3_copyFrom_10 (by decide) ?_
  obtain ⟨f_1, hf_1, hv⟩ := qB hv
  refine m_cp hx hb (hml.trans hl.1.symm) hown (hts _ lkX3_copyFrom_25a) (hts _ lkX3_copyFrom_25b) (hts _ lkX3_copyFrom_25c) (hts _ lkX3_copyFrom_25d) hK hP hD hS 4 1 0 rfl rfl rfl hf_1 (Nat.le_of_ble_eq_true rfl) (Nat.le_of_ble_eq_true rfl) dX3_copyFrom_12 (fun H locs hP hD hS => ?_)
  obtain ⟨P0s_2, hP0s_2, hv⟩ := qB hv
  obtain ⟨hP, hD⟩ := m_st (F := fun Z9 : FS => (wPlan E a0_0 a0_1 a0_2 Z9) ++ (wPlan E a1_0 a1_1 a1_2 P1)) (Option.some.inj hP0s_2) hP hD
  refine lv_aload_n hx hb dX3_copyFrom_15 rfl (lv_at hl 1 rfl) ?_
  refine va_get (D := D) (ci := 2) (v := .ref a1_2) (C := RX3) (T := TX3) (N := 6) hx hb hts hiX3_copyFrom_X3 hown hK hP 3 rfl rfl 1 (by decide) (hts _ lkX3_copyFrom_15) (fun _ h9 => h9) rfl dX3_copyFrom_16 ?_
  refine lv_iconst (v := 0) hx hb dX3_copyFrom_19 (by decide) ?_
  refine lv_aload_n hx hb dX3_copyFrom_20 rfl (lv_at hl 0 rfl) ?_
  refine va_get (D := D) (ci := 2) (v := .ref a0_2) (C := RX3) (T := TX3) (N := 6) hx hb hts hiX3_copyFrom_X3 hown hK hP 0 rfl rfl 1 (by decide) (hts _ lkX3_copyFrom_15) (fun _ h9 => h9) rfl dX3_copyFrom_21 ?_
  refine lv_iconst (v := 0) hx hb dX3_copyFrom_24 (by decide) ?_
  refine lv_bipush (v := 12) hx hb dX3_copyFrom_25 (by decide) ?_
  obtain ⟨f_3, hf_3, hv⟩ := qB hv
  refine m_cp hx hb (hml.trans hl.1.symm) hown (hts _ lkX3_copyFrom_25a) (hts _ lkX3_copyFrom_25b) (hts _ lkX3_copyFrom_25c) (hts _ lkX3_copyFrom_25d) hK hP hD hS 5 2 0 rfl rfl rfl hf_3 (Nat.le_of_ble_eq_true rfl) (Nat.le_of_ble_eq_true rfl) dX3_copyFrom_27 (fun H locs hP hD hS => ?_)
  obtain ⟨P0s_4, hP0s_4, hv⟩ := qB hv
  obtain ⟨hP, hD⟩ := m_st (F := fun Z9 : FS => (wPlan E a0_0 a0_1 a0_2 Z9) ++ (wPlan E a1_0 a1_1 a1_2 P1)) (Option.some.inj hP0s_4) hP hD
  refine lv_aload_n hx hb dX3_copyFrom_30 rfl (lv_at hl 0 rfl) ?_
  refine lv_aload_n hx hb dX3_copyFrom_31 rfl (lv_at hl 1 rfl) ?_
  refine va_get (D := D) (ci := 2) (v := .int (P1 2 0)) (C := RX3) (T := TX3) (N := 6) hx hb hts hiX3_copyFrom_X3 hown hK hP 3 rfl rfl 2 (by decide) (hts _ lkX3_copyFrom_31) (fun _ h9 => h9) rfl dX3_copyFrom_32 ?_
  refine va_put (D := D) (ci := 2) (v := .int (P1 2 0)) (ty := .int) (C := RX3) (T := TX3) (N := 6) hx hb hts hiX3_copyFrom_X3 tyX3 tyX3_ok nmX3 hown hK hP hD hS 0 rfl rfl 2 (by decide) (hts _ lkX3_copyFrom_31) (fun _ h9 => h9) rfl (by decide +kernel) rfl rfl (Nat.le_of_ble_eq_true rfl) dX3_copyFrom_35 (fun H locs hP hD hS => ?_)
  obtain ⟨P0s_5, hP0s_5, hv⟩ := qB hv
  obtain ⟨hP, hD⟩ := m_st (F := fun Z9 : FS => (wPlan E a0_0 a0_1 a0_2 Z9) ++ (wPlan E a1_0 a1_1 a1_2 P1)) (Option.some.inj hP0s_5) hP hD
  refine lv_aload_n hx hb dX3_copyFrom_38 rfl (lv_at hl 0 rfl) ?_
  refine lv_aload_n hx hb dX3_copyFrom_39 rfl (lv_at hl 1 rfl) ?_
  refine va_get (D := D) (ci := 2) (v := .int (P1 2 1)) (C := RX3) (T := TX3) (N := 6) hx hb hts hiX3_copyFrom_X3 hown hK hP 3 rfl rfl 3 (by decide) (hts _ lkX3_copyFrom_34) (fun _ h9 => h9) rfl dX3_copyFrom_40 ?_
  refine va_put (D := D) (ci := 2) (v := .int (P1 2 1)) (ty := .int) (C := RX3) (T := TX3) (N := 6) hx hb hts hiX3_copyFrom_X3 tyX3 tyX3_ok nmX3 hown hK hP hD hS 0 rfl rfl 3 (by decide) (hts _ lkX3_copyFrom_34) (fun _ h9 => h9) rfl (by decide +kernel) rfl rfl (Nat.le_of_ble_eq_true rfl) dX3_copyFrom_43 (fun H locs hP hD hS => ?_)
  obtain ⟨P0s_6, hP0s_6, hv⟩ := qB hv
  obtain ⟨hP, hD⟩ := m_st (F := fun Z9 : FS => (wPlan E a0_0 a0_1 a0_2 Z9) ++ (wPlan E a1_0 a1_1 a1_2 P1)) (Option.some.inj hP0s_6) hP hD
  refine lv_aload_n hx hb dX3_copyFrom_46 rfl (lv_at hl 0 rfl) ?_
  refine lv_aload_n hx hb dX3_copyFrom_47 rfl (lv_at hl 1 rfl) ?_
  refine va_get (D := D) (ci := 2) (v := .int (P1 2 2)) (C := RX3) (T := TX3) (N := 6) hx hb hts hiX3_copyFrom_X3 hown hK hP 3 rfl rfl 4 (by decide) (hts _ lkX3_copyFrom_18) (fun _ h9 => h9) rfl dX3_copyFrom_48 ?_
  refine va_put (D := D) (ci := 2) (v := .int (P1 2 2)) (ty := .int) (C := RX3) (T := TX3) (N := 6) hx hb hts hiX3_copyFrom_X3 tyX3 tyX3_ok nmX3 hown hK hP hD hS 0 rfl rfl 4 (by decide) (hts _ lkX3_copyFrom_18) (fun _ h9 => h9) rfl (by decide +kernel) rfl rfl (Nat.le_of_ble_eq_true rfl) dX3_copyFrom_51 (fun H locs hP hD hS => ?_)
  obtain ⟨P0s_7, hP0s_7, hv⟩ := qB hv
  obtain ⟨hP, hD⟩ := m_st (F := fun Z9 : FS => (wPlan E a0_0 a0_1 a0_2 Z9) ++ (wPlan E a1_0 a1_1 a1_2 P1)) (Option.some.inj hP0s_7) hP hD
  refine lv_aload_n hx hb dX3_copyFrom_54 rfl (lv_at hl 0 rfl) ?_
  refine lv_aload_n hx hb dX3_copyFrom_55 rfl (lv_at hl 1 rfl) ?_
  refine va_get (D := D) (ci := 2) (v := .int (P1 2 3)) (C := RX3) (T := TX3) (N := 6) hx hb hts hiX3_copyFrom_X3 hown hK hP 3 rfl rfl 5 (by decide) (hts _ lkX3_copyFrom_22) (fun _ h9 => h9) rfl dX3_copyFrom_56 ?_
  refine va_put (D := D) (ci := 2) (v := .int (P1 2 3)) (ty := .int) (C := RX3) (T := TX3) (N := 6) hx hb hts hiX3_copyFrom_X3 tyX3 tyX3_ok nmX3 hown hK hP hD hS 0 rfl rfl 5 (by decide) (hts _ lkX3_copyFrom_22) (fun _ h9 => h9) rfl (by decide +kernel) rfl rfl (Nat.le_of_ble_eq_true rfl) dX3_copyFrom_59 (fun H locs hP hD hS => ?_)
  obtain ⟨P0s_8, hP0s_8, hv⟩ := qB hv
  obtain ⟨hP, hD⟩ := m_st (F := fun Z9 : FS => (wPlan E a0_0 a0_1 a0_2 Z9) ++ (wPlan E a1_0 a1_1 a1_2 P1)) (Option.some.inj hP0s_8) hP hD
  exact m_retv (F := (fun (Z9 : FS) => (fun _ : Unit => (wPlan E a0_0 a0_1 a0_2 Z9) ++ (wPlan E a1_0 a1_1 a1_2 P1)))) () C dX3_copyFrom_62 hv hP hD hS

theorem lkX3_addPlace_31 : (.fieldLink RX3 31 "QuarterTiles$Plan" "points" "I" : Cond) ∈ wsX3_addPlace := by decide +kernel
theorem hiX3_addPlace_X3 : ∀ w ∈ wsX30, w ∈ wsX3_addPlace := by decide +kernel
theorem lkX3_addPlace_9 : (.fieldLink RX3 9 "QuarterTiles$Plan" "places" "[I" : Cond) ∈ wsX3_addPlace := by decide +kernel
set_option maxRecDepth 100000 in
set_option maxHeartbeats 4000000 in
theorem kX3_addPlace (l : Launch) (D : va_G) (E : Nat → ClassId) (a0_0 a0_1 a0_2 : Nat) {P0 : FS} {x1 : Int32} {P09 : FS} (sz : Nat) (hv : fX3_addPlace P0 x1 = some (P09)) : MV l yX3_addPlace wsX3_addPlace (rmN 0 0) D E ((wPlan E a0_0 a0_1 a0_2 P0)) sz [.ref a0_0, .int x1] (fun _ : Unit => (wPlan E a0_0 a0_1 a0_2 P09)) 0 0 := by
  refine MV.of (by decide) rfl (Nat.le_of_ble_eq_true rfl) ?_
  intro p e s m below meth c A H locs C hP hK hD hS hA ls hl
  have hl : lv_has ls 2 [(0, .ref a0_0), (1, .int x1)] := hl
  obtain ⟨hx, hb, hr, hml, hown, hlocks, hts⟩ := id C
  unfold fX3_addPlace at hv
  refine lv_aload_n hx hb dX3_addPlace_0 rfl (lv_at hl 0 rfl) ?_
  refine va_get (D := D) (ci := 2) (v := .int (P0 2 0)) (C := RX3) (T := TX3) (N := 6) hx hb hts hiX3_addPlace_X3 hown hK hP 0 rfl rfl 2 (by decide) (hts _ lkX3_addPlace_31) (fun _ h9 => h9) rfl dX3_addPlace_1 ?_
  refine lv_bipush (v := 50) hx hb dX3_addPlace_4 (by decide) ?_
  refine lv_icmp_ge (tgt := 29) hx hb dX3_addPlace_6 (by decide) (fun c_6_k_1 => ?_) (fun c_6_k_1 => ?_)
  · have hv := qT c_6_k_1 hv
    exact m_retv (F := (fun (Z9 : FS) => (fun _ : Unit => (wPlan E a0_0 a0_1 a0_2 Z9)))) () C dX3_addPlace_29 hv hP hD hS
  · have hv := qF c_6_k_1 hv
    refine lv_aload_n hx hb dX3_addPlace_9 rfl (lv_at hl 0 rfl) ?_
    refine va_get (D := D) (ci := 2) (v := .ref a0_1) (C := RX3) (T := TX3) (N := 6) hx hb hts hiX3_addPlace_X3 hown hK hP 0 rfl rfl 0 (by decide) (hts _ lkX3_addPlace_9) (fun _ h9 => h9) rfl dX3_addPlace_10 ?_
    refine lv_aload_n hx hb dX3_addPlace_13 rfl (lv_at hl 0 rfl) ?_
    refine va_get (D := D) (ci := 2) (v := .int (P0 2 0)) (C := RX3) (T := TX3) (N := 6) hx hb hts hiX3_addPlace_X3 hown hK hP 0 rfl rfl 2 (by decide) (hts _ lkX3_addPlace_31) (fun _ h9 => h9) rfl dX3_addPlace_14 ?_
    refine lv_iload_n hx hb dX3_addPlace_17 rfl (lv_at hl 1 rfl) ?_
    obtain ⟨f_2, hf_2, hv⟩ := qB hv
    refine m_ist hx hb hK hP hD hS 1 0 rfl rfl hf_2 dX3_addPlace_18 (fun H locs hP hD hS => ?_)
    obtain ⟨P0s_3, hP0s_3, hv⟩ := qB hv
    obtain ⟨hP, hD⟩ := m_st (F := fun Z9 : FS => (wPlan E a0_0 a0_1 a0_2 Z9)) (Option.some.inj hP0s_3) hP hD
    refine lv_aload_n hx hb dX3_addPlace_19 rfl (lv_at hl 0 rfl) ?_
    refine lv_dup hx hb dX3_addPlace_20 rfl ?_
    refine va_get (D := D) (ci := 2) (v := .int (P0s_3 2 0)) (C := RX3) (T := TX3) (N := 6) hx hb hts hiX3_addPlace_X3 hown hK hP 0 rfl rfl 2 (by decide) (hts _ lkX3_addPlace_31) (fun _ h9 => h9) rfl dX3_addPlace_21 ?_
    refine lv_iconst (v := 1) hx hb dX3_addPlace_24 (by decide) ?_
    refine lv_iadd hx hb dX3_addPlace_25 ?_
    refine va_put (D := D) (ci := 2) (v := .int ((P0s_3 2 0) + (1:Int32))) (ty := .int) (C := RX3) (T := TX3) (N := 6) hx hb hts hiX3_addPlace_X3 tyX3 tyX3_ok nmX3 hown hK hP hD hS 0 rfl rfl 2 (by decide) (hts _ lkX3_addPlace_31) (fun _ h9 => h9) rfl (by decide +kernel) rfl rfl (Nat.le_of_ble_eq_true rfl) dX3_addPlace_26 (fun H locs hP hD hS => ?_)
    obtain ⟨P0s_4, hP0s_4, hv⟩ := qB hv
    obtain ⟨hP, hD⟩ := m_st (F := fun Z9 : FS => (wPlan E a0_0 a0_1 a0_2 Z9)) (Option.some.inj hP0s_4) hP hD
    exact m_retv (F := (fun (Z9 : FS) => (fun _ : Unit => (wPlan E a0_0 a0_1 a0_2 Z9)))) () C dX3_addPlace_29 hv hP hD hS

theorem lkX3_removePlace_9 : (.fieldLink RX3 9 "QuarterTiles$Plan" "places" "[I" : Cond) ∈ wsX3_removePlace := by decide +kernel
theorem hiX3_removePlace_X3 : ∀ w ∈ wsX30, w ∈ wsX3_removePlace := by decide +kernel
theorem lkX3_removePlace_31 : (.fieldLink RX3 31 "QuarterTiles$Plan" "points" "I" : Cond) ∈ wsX3_removePlace := by decide +kernel
theorem lkX3_removePlace_25a : (.methodLink RX3 25 arraycopyName : Cond) ∈ wsX3_removePlace := by decide +kernel
theorem lkX3_removePlace_25b : (.native arraycopyName : Cond) ∈ wsX3_removePlace := by decide +kernel
theorem lkX3_removePlace_25c : (.static arraycopyName : Cond) ∈ wsX3_removePlace := by decide +kernel
theorem lkX3_removePlace_25d : (.initialized "java/lang/System" : Cond) ∈ wsX3_removePlace := by decide +kernel
set_option maxRecDepth 100000 in
set_option maxHeartbeats 4000000 in
theorem kX3_removePlace (l : Launch) (D : va_G) (E : Nat → ClassId) (a0_0 a0_1 a0_2 : Nat) {P0 : FS} {x1 : Int32} {P09 : FS} (sz : Nat) (hv : fX3_removePlace P0 x1 = some (P09)) : MV l yX3_removePlace wsX3_removePlace (rmN 1 30) D E ((wPlan E a0_0 a0_1 a0_2 P0)) sz [.ref a0_0, .int x1] (fun _ : Unit => (wPlan E a0_0 a0_1 a0_2 P09)) 0 0 := by
  refine MV.of (by decide) rfl (Nat.le_of_ble_eq_true rfl) ?_
  intro p e s m below meth c A H locs C hP hK hD hS hA ls hl
  have hl : lv_has ls 2 [(0, .ref a0_0), (1, .int x1)] := hl
  obtain ⟨hx, hb, hr, hml, hown, hlocks, hts⟩ := id C
  unfold fX3_removePlace at hv
  refine lv_aload_n hx hb dX3_removePlace_0 rfl (lv_at hl 0 rfl) ?_
  refine lv_iload_n hx hb dX3_removePlace_1 rfl (lv_at hl 1 rfl) ?_
  obtain ⟨r_1, hr_1, hv⟩ := qB hv
  refine q_V (As := [.int x1]) (rest := []) (C := RX3) (T0 := TX3) (N0 := 6) (ci := 2) hx hb hml hown hts hl.1 (kX3_isPoint l D E a0_0 a0_1 a0_2 hr_1) zNo_mv (cwV 1 hts gX3_removePlace_X3_isPoint rfl rfl rfl (by decide +kernel) ⟨Nat.le_of_ble_eq_true rfl, Nat.le_of_ble_eq_true rfl⟩) 0 rfl rfl (hP.sub (ws' := (wPlan E a0_0 a0_1 a0_2 P0)) [0, 1, 2] rfl) hK trivial rfl rfl (Nat.le_of_ble_eq_true rfl) dX3_removePlace_2 ⟨Nat.zero_le _, Nat.zero_le _⟩ ?_
  refine lv_if_eq (tgt := 41) hx hb dX3_removePlace_5 (by decide) (fun c_5_k_2 => ?_) (fun c_5_k_2 => ?_)
  · have hv := qT c_5_k_2 hv
    exact m_retv (F := (fun (Z9 : FS) => (fun _ : Unit => (wPlan E a0_0 a0_1 a0_2 Z9)))) () C dX3_removePlace_41 hv hP hD hS
  · have hv := qF c_5_k_2 hv
    refine lv_aload_n hx hb dX3_removePlace_8 rfl (lv_at hl 0 rfl) ?_
    refine va_get (D := D) (ci := 2) (v := .ref a0_1) (C := RX3) (T := TX3) (N := 6) hx hb hts hiX3_removePlace_X3 hown hK hP 0 rfl rfl 0 (by decide) (hts _ lkX3_removePlace_9) (fun _ h9 => h9) rfl dX3_removePlace_9 ?_
    refine lv_iload_n hx hb dX3_removePlace_12 rfl (lv_at hl 1 rfl) ?_
    refine lv_iconst (v := 1) hx hb dX3_removePlace_13 (by decide) ?_
    refine lv_iadd hx hb dX3_removePlace_14 ?_
    refine lv_aload_n hx hb dX3_removePlace_15 rfl (lv_at hl 0 rfl) ?_
    refine va_get (D := D) (ci := 2) (v := .ref a0_1) (C := RX3) (T := TX3) (N := 6) hx hb hts hiX3_removePlace_X3 hown hK hP 0 rfl rfl 0 (by decide) (hts _ lkX3_removePlace_9) (fun _ h9 => h9) rfl dX3_removePlace_16 ?_
    refine lv_iload_n hx hb dX3_removePlace_19 rfl (lv_at hl 1 rfl) ?_
    refine lv_aload_n hx hb dX3_removePlace_20 rfl (lv_at hl 0 rfl) ?_
    refine va_get (D := D) (ci := 2) (v := .int (P0 2 0)) (C := RX3) (T := TX3) (N := 6) hx hb hts hiX3_removePlace_X3 hown hK hP 0 rfl rfl 2 (by decide) (hts _ lkX3_removePlace_31) (fun _ h9 => h9) rfl dX3_removePlace_21 ?_
    refine lv_iload_n hx hb dX3_removePlace_24 rfl (lv_at hl 1 rfl) ?_
    refine lv_isub hx hb dX3_removePlace_25 ?_
    refine lv_iconst (v := 1) hx hb dX3_removePlace_26 (by decide) ?_
    refine lv_isub hx hb dX3_removePlace_27 ?_
    obtain ⟨f_3, hf_3, hv⟩ := qB hv
    refine m_cp hx hb (hml.trans hl.1.symm) hown (hts _ lkX3_removePlace_25a) (hts _ lkX3_removePlace_25b) (hts _ lkX3_removePlace_25c) (hts _ lkX3_removePlace_25d) hK hP hD hS 1 1 0 rfl rfl rfl hf_3 (Nat.le_of_ble_eq_true rfl) (Nat.le_of_ble_eq_true rfl) dX3_removePlace_28 (fun H locs hP hD hS => ?_)
    obtain ⟨P0s_4, hP0s_4, hv⟩ := qB hv
    obtain ⟨hP, hD⟩ := m_st (F := fun Z9 : FS => (wPlan E a0_0 a0_1 a0_2 Z9)) (Option.some.inj hP0s_4) hP hD
    refine lv_aload_n hx hb dX3_removePlace_31 rfl (lv_at hl 0 rfl) ?_
    refine lv_dup hx hb dX3_removePlace_32 rfl ?_
    refine va_get (D := D) (ci := 2) (v := .int (P0s_4 2 0)) (C := RX3) (T := TX3) (N := 6) hx hb hts hiX3_removePlace_X3 hown hK hP 0 rfl rfl 2 (by decide) (hts _ lkX3_removePlace_31) (fun _ h9 => h9) rfl dX3_removePlace_33 ?_
    refine lv_iconst (v := 1) hx hb dX3_removePlace_36 (by decide) ?_
    refine lv_isub hx hb dX3_removePlace_37 ?_
    refine va_put (D := D) (ci := 2) (v := .int ((P0s_4 2 0) - (1:Int32))) (ty := .int) (C := RX3) (T := TX3) (N := 6) hx hb hts hiX3_removePlace_X3 tyX3 tyX3_ok nmX3 hown hK hP hD hS 0 rfl rfl 2 (by decide) (hts _ lkX3_removePlace_31) (fun _ h9 => h9) rfl (by decide +kernel) rfl rfl (Nat.le_of_ble_eq_true rfl) dX3_removePlace_38 (fun H locs hP hD hS => ?_)
    obtain ⟨P0s_5, hP0s_5, hv⟩ := qB hv
    obtain ⟨hP, hD⟩ := m_st (F := fun Z9 : FS => (wPlan E a0_0 a0_1 a0_2 Z9)) (Option.some.inj hP0s_5) hP hD
    exact m_retv (F := (fun (Z9 : FS) => (fun _ : Unit => (wPlan E a0_0 a0_1 a0_2 Z9)))) () C dX3_removePlace_41 hv hP hD hS

theorem lkX3_changePlace_9 : (.fieldLink RX3 9 "QuarterTiles$Plan" "places" "[I" : Cond) ∈ wsX3_changePlace := by decide +kernel
theorem hiX3_changePlace_X3 : ∀ w ∈ wsX30, w ∈ wsX3_changePlace := by decide +kernel
set_option maxRecDepth 100000 in
set_option maxHeartbeats 4000000 in
theorem kX3_changePlace (l : Launch) (D : va_G) (E : Nat → ClassId) (a0_0 a0_1 a0_2 : Nat) {P0 : FS} {x1 : Int32} {x2 : Int32} {P09 : FS} (sz : Nat) (hv : fX3_changePlace P0 x1 x2 = some (P09)) : MV l yX3_changePlace wsX3_changePlace (rmN 1 21) D E ((wPlan E a0_0 a0_1 a0_2 P0)) sz [.ref a0_0, .int x1, .int x2] (fun _ : Unit => (wPlan E a0_0 a0_1 a0_2 P09)) 0 0 := by
  refine MV.of (by decide) rfl (Nat.le_of_ble_eq_true rfl) ?_
  intro p e s m below meth c A H locs C hP hK hD hS hA ls hl
  have hl : lv_has ls 3 [(0, .ref a0_0), (1, .int x1), (2, .int x2)] := hl
  obtain ⟨hx, hb, hr, hml, hown, hlocks, hts⟩ := id C
  unfold fX3_changePlace at hv
  refine lv_aload_n hx hb dX3_changePlace_0 rfl (lv_at hl 0 rfl) ?_
  refine lv_iload_n hx hb dX3_changePlace_1 rfl (lv_at hl 1 rfl) ?_
  obtain ⟨r_1, hr_1, hv⟩ := qB hv
  refine q_V (As := [.int x1]) (rest := []) (C := RX3) (T0 := TX3) (N0 := 6) (ci := 2) hx hb hml hown hts hl.1 (kX3_isPoint l D E a0_0 a0_1 a0_2 hr_1) zNo_mv (cwV 1 hts gX3_changePlace_X3_isPoint rfl rfl rfl (by decide +kernel) ⟨Nat.le_of_ble_eq_true rfl, Nat.le_of_ble_eq_true rfl⟩) 0 rfl rfl (hP.sub (ws' := (wPlan E a0_0 a0_1 a0_2 P0)) [0, 1, 2] rfl) hK trivial rfl rfl (Nat.le_of_ble_eq_true rfl) dX3_changePlace_2 ⟨Nat.zero_le _, Nat.zero_le _⟩ ?_
  refine lv_if_eq (tgt := 15) hx hb dX3_changePlace_5 (by decide) (fun c_5_k_2 => ?_) (fun c_5_k_2 => ?_)
  · have hv := qT c_5_k_2 hv
    exact m_retv (F := (fun (Z9 : FS) => (fun _ : Unit => (wPlan E a0_0 a0_1 a0_2 Z9)))) () C dX3_changePlace_15 hv hP hD hS
  · have hv := qF c_5_k_2 hv
    refine lv_aload_n hx hb dX3_changePlace_8 rfl (lv_at hl 0 rfl) ?_
    refine va_get (D := D) (ci := 2) (v := .ref a0_1) (C := RX3) (T := TX3) (N := 6) hx hb hts hiX3_changePlace_X3 hown hK hP 0 rfl rfl 0 (by decide) (hts _ lkX3_changePlace_9) (fun _ h9 => h9) rfl dX3_changePlace_9 ?_
    refine lv_iload_n hx hb dX3_changePlace_12 rfl (lv_at hl 1 rfl) ?_
    refine lv_iload_n hx hb dX3_changePlace_13 rfl (lv_at hl 2 rfl) ?_
    obtain ⟨f_3, hf_3, hv⟩ := qB hv
    refine m_ist hx hb hK hP hD hS 1 0 rfl rfl hf_3 dX3_changePlace_14 (fun H locs hP hD hS => ?_)
    obtain ⟨P0s_4, hP0s_4, hv⟩ := qB hv
    obtain ⟨hP, hD⟩ := m_st (F := fun Z9 : FS => (wPlan E a0_0 a0_1 a0_2 Z9)) (Option.some.inj hP0s_4) hP hD
    exact m_retv (F := (fun (Z9 : FS) => (fun _ : Unit => (wPlan E a0_0 a0_1 a0_2 Z9)))) () C dX3_changePlace_15 hv hP hD hS

theorem lkX3_addOrder_34 : (.fieldLink RX3 34 "QuarterTiles$Plan" "orders" "I" : Cond) ∈ wsX3_addOrder := by decide +kernel
theorem hiX3_addOrder_X3 : ∀ w ∈ wsX30, w ∈ wsX3_addOrder := by decide +kernel
theorem lkX3_addOrder_15 : (.fieldLink RX3 15 "QuarterTiles$Plan" "ordered" "[I" : Cond) ∈ wsX3_addOrder := by decide +kernel
set_option maxRecDepth 100000 in
set_option maxHeartbeats 4000000 in
theorem kX3_addOrder (l : Launch) (D : va_G) (E : Nat → ClassId) (a0_0 a0_1 a0_2 : Nat) {P0 : FS} {x1 : Int32} {P09 : FS} (sz : Nat) (hv : fX3_addOrder P0 x1 = some (P09)) : MV l yX3_addOrder wsX3_addOrder (rmN 0 0) D E ((wPlan E a0_0 a0_1 a0_2 P0)) sz [.ref a0_0, .int x1] (fun _ : Unit => (wPlan E a0_0 a0_1 a0_2 P09)) 0 0 := by
  refine MV.of (by decide) rfl (Nat.le_of_ble_eq_true rfl) ?_
  intro p e s m below meth c A H locs C hP hK hD hS hA ls hl
  have hl : lv_has ls 2 [(0, .ref a0_0), (1, .int x1)] := hl
  obtain ⟨hx, hb, hr, hml, hown, hlocks, hts⟩ := id C
  unfold fX3_addOrder at hv
  refine lv_aload_n hx hb dX3_addOrder_0 rfl (lv_at hl 0 rfl) ?_
  refine va_get (D := D) (ci := 2) (v := .int (P0 2 1)) (C := RX3) (T := TX3) (N := 6) hx hb hts hiX3_addOrder_X3 hown hK hP 0 rfl rfl 3 (by decide) (hts _ lkX3_addOrder_34) (fun _ h9 => h9) rfl dX3_addOrder_1 ?_
  refine lv_bipush (v := 12) hx hb dX3_addOrder_4 (by decide) ?_
  refine lv_icmp_ge (tgt := 29) hx hb dX3_addOrder_6 (by decide) (fun c_6_k_1 => ?_) (fun c_6_k_1 => ?_)
  · have hv := qT c_6_k_1 hv
    exact m_retv (F := (fun (Z9 : FS) => (fun _ : Unit => (wPlan E a0_0 a0_1 a0_2 Z9)))) () C dX3_addOrder_29 hv hP hD hS
  · have hv := qF c_6_k_1 hv
    refine lv_aload_n hx hb dX3_addOrder_9 rfl (lv_at hl 0 rfl) ?_
    refine va_get (D := D) (ci := 2) (v := .ref a0_2) (C := RX3) (T := TX3) (N := 6) hx hb hts hiX3_addOrder_X3 hown hK hP 0 rfl rfl 1 (by decide) (hts _ lkX3_addOrder_15) (fun _ h9 => h9) rfl dX3_addOrder_10 ?_
    refine lv_aload_n hx hb dX3_addOrder_13 rfl (lv_at hl 0 rfl) ?_
    refine va_get (D := D) (ci := 2) (v := .int (P0 2 1)) (C := RX3) (T := TX3) (N := 6) hx hb hts hiX3_addOrder_X3 hown hK hP 0 rfl rfl 3 (by decide) (hts _ lkX3_addOrder_34) (fun _ h9 => h9) rfl dX3_addOrder_14 ?_
    refine lv_iload_n hx hb dX3_addOrder_17 rfl (lv_at hl 1 rfl) ?_
    obtain ⟨f_2, hf_2, hv⟩ := qB hv
    refine m_ist hx hb hK hP hD hS 2 0 rfl rfl hf_2 dX3_addOrder_18 (fun H locs hP hD hS => ?_)
    obtain ⟨P0s_3, hP0s_3, hv⟩ := qB hv
    obtain ⟨hP, hD⟩ := m_st (F := fun Z9 : FS => (wPlan E a0_0 a0_1 a0_2 Z9)) (Option.some.inj hP0s_3) hP hD
    refine lv_aload_n hx hb dX3_addOrder_19 rfl (lv_at hl 0 rfl) ?_
    refine lv_dup hx hb dX3_addOrder_20 rfl ?_
    refine va_get (D := D) (ci := 2) (v := .int (P0s_3 2 1)) (C := RX3) (T := TX3) (N := 6) hx hb hts hiX3_addOrder_X3 hown hK hP 0 rfl rfl 3 (by decide) (hts _ lkX3_addOrder_34) (fun _ h9 => h9) rfl dX3_addOrder_21 ?_
    refine lv_iconst (v := 1) hx hb dX3_addOrder_24 (by decide) ?_
    refine lv_iadd hx hb dX3_addOrder_25 ?_
    refine va_put (D := D) (ci := 2) (v := .int ((P0s_3 2 1) + (1:Int32))) (ty := .int) (C := RX3) (T := TX3) (N := 6) hx hb hts hiX3_addOrder_X3 tyX3 tyX3_ok nmX3 hown hK hP hD hS 0 rfl rfl 3 (by decide) (hts _ lkX3_addOrder_34) (fun _ h9 => h9) rfl (by decide +kernel) rfl rfl (Nat.le_of_ble_eq_true rfl) dX3_addOrder_26 (fun H locs hP hD hS => ?_)
    obtain ⟨P0s_4, hP0s_4, hv⟩ := qB hv
    obtain ⟨hP, hD⟩ := m_st (F := fun Z9 : FS => (wPlan E a0_0 a0_1 a0_2 Z9)) (Option.some.inj hP0s_4) hP hD
    exact m_retv (F := (fun (Z9 : FS) => (fun _ : Unit => (wPlan E a0_0 a0_1 a0_2 Z9)))) () C dX3_addOrder_29 hv hP hD hS

theorem lkX3_removeOrder_15 : (.fieldLink RX3 15 "QuarterTiles$Plan" "ordered" "[I" : Cond) ∈ wsX3_removeOrder := by decide +kernel
theorem hiX3_removeOrder_X3 : ∀ w ∈ wsX30, w ∈ wsX3_removeOrder := by decide +kernel
theorem lkX3_removeOrder_34 : (.fieldLink RX3 34 "QuarterTiles$Plan" "orders" "I" : Cond) ∈ wsX3_removeOrder := by decide +kernel
set_option maxRecDepth 100000 in
set_option maxHeartbeats 4000000 in
theorem kX3_removeOrder (l : Launch) (D : va_G) (E : Nat → ClassId) (a0_0 a0_1 a0_2 : Nat) {P0 : FS} {x1 : Int32} {P09 : FS} (sz : Nat) (hv : fX3_removeOrder P0 x1 = some (P09)) : MV l yX3_removeOrder wsX3_removeOrder (rmN 1 22) D E ((wPlan E a0_0 a0_1 a0_2 P0)) sz [.ref a0_0, .int x1] (fun _ : Unit => (wPlan E a0_0 a0_1 a0_2 P09)) 0 0 := by
  refine MV.of (by decide) rfl (Nat.le_of_ble_eq_true rfl) ?_
  intro p e s m below meth c A H locs C hP hK hD hS hA ls hl
  have hl : lv_has ls 3 [(0, .ref a0_0), (1, .int x1)] := hl
  obtain ⟨hx, hb, hr, hml, hown, hlocks, hts⟩ := id C
  unfold fX3_removeOrder at hv
  refine lv_aload_n hx hb dX3_removeOrder_0 rfl (lv_at hl 0 rfl) ?_
  refine lv_iload_n hx hb dX3_removeOrder_1 rfl (lv_at hl 1 rfl) ?_
  obtain ⟨r_1, hr_1, hv⟩ := qB hv
  refine q_V (As := [.int x1]) (rest := []) (C := RX3) (T0 := TX3) (N0 := 6) (ci := 2) hx hb hml hown hts hl.1 (kX3_indexOfOrder l D E a0_0 a0_1 a0_2 hr_1) zNo_mv (cwV 1 hts gX3_removeOrder_X3_indexOfOrder rfl rfl rfl (by decide +kernel) ⟨Nat.le_of_ble_eq_true rfl, Nat.le_of_ble_eq_true rfl⟩) 0 rfl rfl (hP.sub (ws' := (wPlan E a0_0 a0_1 a0_2 P0)) [0, 1, 2] rfl) hK trivial rfl rfl (Nat.le_of_ble_eq_true rfl) dX3_removeOrder_2 ⟨Nat.zero_le _, Nat.zero_le _⟩ ?_
  refine lv_istore_n (lv' := [(2, .int r_1), (0, .ref a0_0), (1, .int x1)]) hx hb dX3_removeOrder_5 rfl hl (by decide) rfl (fun ls hl => ?_)
  refine lv_iload_n hx hb dX3_removeOrder_6 rfl (lv_at hl 0 rfl) ?_
  refine lv_bipush (v := -6) hx hb dX3_removeOrder_7 (by decide) ?_
  refine lv_icmp_eq (tgt := 39) hx hb dX3_removeOrder_9 (by decide) (fun c_9_k_2 => ?_) (fun c_9_k_2 => ?_)
  · have hv := qT c_9_k_2 hv
    exact m_retv (F := (fun (Z9 : FS) => (fun _ : Unit => (wPlan E a0_0 a0_1 a0_2 Z9)))) () C dX3_removeOrder_39 hv hP hD hS
  · have hv := qF c_9_k_2 hv
    refine lv_aload_n hx hb dX3_removeOrder_12 rfl (lv_at hl 1 rfl) ?_
    refine va_get (D := D) (ci := 2) (v := .ref a0_2) (C := RX3) (T := TX3) (N := 6) hx hb hts hiX3_removeOrder_X3 hown hK hP 0 rfl rfl 1 (by decide) (hts _ lkX3_removeOrder_15) (fun _ h9 => h9) rfl dX3_removeOrder_13 ?_
    refine lv_iload_n hx hb dX3_removeOrder_16 rfl (lv_at hl 0 rfl) ?_
    refine lv_aload_n hx hb dX3_removeOrder_17 rfl (lv_at hl 1 rfl) ?_
    refine va_get (D := D) (ci := 2) (v := .ref a0_2) (C := RX3) (T := TX3) (N := 6) hx hb hts hiX3_removeOrder_X3 hown hK hP 0 rfl rfl 1 (by decide) (hts _ lkX3_removeOrder_15) (fun _ h9 => h9) rfl dX3_removeOrder_18 ?_
    refine lv_aload_n hx hb dX3_removeOrder_21 rfl (lv_at hl 1 rfl) ?_
    refine va_get (D := D) (ci := 2) (v := .int (P0 2 1)) (C := RX3) (T := TX3) (N := 6) hx hb hts hiX3_removeOrder_X3 hown hK hP 0 rfl rfl 3 (by decide) (hts _ lkX3_removeOrder_34) (fun _ h9 => h9) rfl dX3_removeOrder_22 ?_
    refine lv_iconst (v := 1) hx hb dX3_removeOrder_25 (by decide) ?_
    refine lv_isub hx hb dX3_removeOrder_26 ?_
    obtain ⟨x_3, hx_3, hv⟩ := qB hv
    refine q_ild hx hb hK hP 2 0 rfl rfl hx_3 dX3_removeOrder_27 ?_
    obtain ⟨f_4, hf_4, hv⟩ := qB hv
    refine m_ist hx hb hK hP hD hS 2 0 rfl rfl hf_4 dX3_removeOrder_28 (fun H locs hP hD hS => ?_)
    obtain ⟨P0s_5, hP0s_5, hv⟩ := qB hv
    obtain ⟨hP, hD⟩ := m_st (F := fun Z9 : FS => (wPlan E a0_0 a0_1 a0_2 Z9)) (Option.some.inj hP0s_5) hP hD
    refine lv_aload_n hx hb dX3_removeOrder_29 rfl (lv_at hl 1 rfl) ?_
    refine lv_dup hx hb dX3_removeOrder_30 rfl ?_
    refine va_get (D := D) (ci := 2) (v := .int (P0s_5 2 1)) (C := RX3) (T := TX3) (N := 6) hx hb hts hiX3_removeOrder_X3 hown hK hP 0 rfl rfl 3 (by decide) (hts _ lkX3_removeOrder_34) (fun _ h9 => h9) rfl dX3_removeOrder_31 ?_
    refine lv_iconst (v := 1) hx hb dX3_removeOrder_34 (by decide) ?_
    refine lv_isub hx hb dX3_removeOrder_35 ?_
    refine va_put (D := D) (ci := 2) (v := .int ((P0s_5 2 1) - (1:Int32))) (ty := .int) (C := RX3) (T := TX3) (N := 6) hx hb hts hiX3_removeOrder_X3 tyX3 tyX3_ok nmX3 hown hK hP hD hS 0 rfl rfl 3 (by decide) (hts _ lkX3_removeOrder_34) (fun _ h9 => h9) rfl (by decide +kernel) rfl rfl (Nat.le_of_ble_eq_true rfl) dX3_removeOrder_36 (fun H locs hP hD hS => ?_)
    obtain ⟨P0s_6, hP0s_6, hv⟩ := qB hv
    obtain ⟨hP, hD⟩ := m_st (F := fun Z9 : FS => (wPlan E a0_0 a0_1 a0_2 Z9)) (Option.some.inj hP0s_6) hP hD
    exact m_retv (F := (fun (Z9 : FS) => (fun _ : Unit => (wPlan E a0_0 a0_1 a0_2 Z9)))) () C dX3_removeOrder_39 hv hP hD hS
