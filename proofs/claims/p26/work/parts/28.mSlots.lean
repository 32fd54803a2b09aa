theorem lkX4_fill_11 : (.fieldLink RX4 11 "QuarterTiles$Slots" "plans" "[LQuarterTiles$Plan;" : Cond) ∈ wsX4_fill := by decide +kernel
theorem hiX4_fill_X4 : ∀ w ∈ wsX40, w ∈ wsX4_fill := by decide +kernel
theorem lkX4_fill_17 : (.fieldLink RX4 17 "QuarterTiles$Slots" "filled" "[Z" : Cond) ∈ wsX4_fill := by decide +kernel
set_option maxRecDepth 100000 in
set_option maxHeartbeats 4000000 in
theorem kX4_fill (l : Launch) (D : va_G) (E : Nat → ClassId) (a0_0 a0_1 a0_2 a0_3 a0_4 a0_5 a0_6 a0_7 a0_8 : Nat) (a2_0 a2_1 a2_2 : Nat) {Q0 : Nat → FS} {P2 : FS} {x1 : Int32} {Q09 : Nat → FS} (sz : Nat) (hv : fX4_fill Q0 P2 x1 = some (Q09)) : MV l yX4_fill wsX4_fill (rmN 2 51) D E ((wSlots E a0_0 a0_1 a0_2 a0_3 a0_4 a0_5 a0_6 a0_7 a0_8 Q0) ++ (wPlan E a2_0 a2_1 a2_2 P2)) sz [.ref a0_0, .int x1, .ref a2_0] (fun _ : Unit => (wSlots E a0_0 a0_1 a0_2 a0_3 a0_4 a0_5 a0_6 a0_7 a0_8 Q09) ++ (wPlan E a2_0 a2_1 a2_2 P2)) 0 0 := by
  refine MV.of (by decide) rfl (Nat.le_of_ble_eq_true rfl) ?_
  intro p e s m below meth c A H locs C hP hK hD hS hA ls hl
  have hl : lv_has ls 3 [(0, .ref a0_0), (1, .int x1), (2, .ref a2_0)] := hl
  obtain ⟨hx, hb, hr, hml, hown, hlocks, hts⟩ := id C
  unfold fX4_fill at hv
  refine lv_iload_n hx hb dX4_fill_0 rfl (lv_at hl 1 rfl) ?_
  obtain ⟨r_1, hr_1, hv⟩ := qB hv
  refine q_S (As := [.int x1]) (rest := []) hx hb hml hown hts hl.1 (kX4_isSlot l D E  hr_1) zNo_mv (va_cwS 1 hts gX4_fill_X4_isSlot rfl rfl rfl (by decide +kernel) ⟨Nat.le_of_ble_eq_true rfl, Nat.le_of_ble_eq_true rfl⟩) (hP.sub (ws' := []) [] rfl) hK trivial rfl rfl (Nat.le_of_ble_eq_true rfl) dX4_fill_1 ⟨Nat.zero_le _, Nat.zero_le _⟩ ?_
  refine lv_if_eq (tgt := 24) hx hb dX4_fill_4 (by decide) (fun c_4_k_2 => ?_) (fun c_4_k_2 => ?_)
  · have hv := qT c_4_k_2 hv
    exact m_retv (F := (fun (Z9 : Nat → FS) => (fun _ : Unit => (wSlots E a0_0 a0_1 a0_2 a0_3 a0_4 a0_5 a0_6 a0_7 a0_8 Z9) ++ (wPlan E a2_0 a2_1 a2_2 P2)))) () C dX4_fill_24 hv hP hD hS
  · have hv := qF c_4_k_2 hv
    refine lv_aload_n hx hb dX4_fill_7 rfl (lv_at hl 0 rfl) ?_
    refine va_get (D := D) (ci := 3) (v := .ref a0_1) (C := RX4) (T := TX4) (N := 2) hx hb hts hiX4_fill_X4 hown hK hP 0 rfl rfl 0 (by decide) (hts _ lkX4_fill_11) (fun _ h9 => h9) rfl dX4_fill_8 ?_
    refine lv_iload_n hx hb dX4_fill_11 rfl (lv_at hl 1 rfl) ?_
    rcases (Decidable.em (x1 = 0)) with c_12_k_3 | c_12_k_3
    · have hv := qT c_12_k_3 hv
      refine m_ald (v := a0_3) hx hb hK hP 1 2 rfl rfl c_12_k_3 (by unfold vp_in; decide) rfl dX4_fill_12 ?_
      refine lv_aload_n hx hb dX4_fill_13 rfl (lv_at hl 2 rfl) ?_
      obtain ⟨S_4, hS_4, hv⟩ := qB hv
      refine m_VV (As := [.ref a2_0]) (rest := []) (C := RX3) (T0 := TX3) (N0 := 6) (ci := 2) (Wn := (fun _ : Unit => (wSlots E a0_0 a0_1 a0_2 a0_3 a0_4 a0_5 a0_6 a0_7 a0_8 (sq Q0 9 S_4)) ++ (wPlan E a2_0 a2_1 a2_2 P2))) (Wr := [(a0_0, .inr (3, [.ref a0_1, .ref a0_2])), aP E a0_1 2 (fS a0_3 a0_6), aZ E a0_2 2 (Q0 2 1), (a0_6, .inr (2, [.ref a0_7, .ref a0_8, .int ((Q0 10) 2 0), .int ((Q0 10) 2 1), .int ((Q0 10) 2 2), .int ((Q0 10) 2 3)])), aI E a0_7 50 ((Q0 10) 0), aI E a0_8 12 ((Q0 10) 1)]) hx hb hml hown hts hl.1 (kX3_copyFrom l D E a0_3 a0_4 a0_5 a2_0 a2_1 a2_2 H.size hS_4) (cwV 1 hts gX4_fill_X3_copyFrom rfl rfl rfl (by decide +kernel) ⟨Nat.le_of_ble_eq_true rfl, Nat.le_of_ble_eq_true rfl⟩) 0 rfl rfl hP hD hS hA hK [3, 4, 5, 9, 10, 11] [0, 1, 2, 6, 7, 8] [0, 1, 2, 6, 7, 8, 3, 4, 5, 9, 10, 11] (by decide) rfl rfl (by decide) (by decide) (by decide) (fun _ => rfl) rfl rfl (Nat.le_of_ble_eq_true rfl) dX4_fill_14 ⟨Nat.le_of_ble_eq_true rfl, Nat.le_of_ble_eq_true rfl⟩ (fun _ H locs hP hD hS => ?_)
      obtain ⟨Q0s_5, hQ0s_5, hv⟩ := qB hv
      obtain ⟨hP, hD⟩ := m_st (F := fun Z9 : Nat → FS => (wSlots E a0_0 a0_1 a0_2 a0_3 a0_4 a0_5 a0_6 a0_7 a0_8 Z9) ++ (wPlan E a2_0 a2_1 a2_2 P2)) (Option.some.inj hQ0s_5) hP hD
      refine lv_aload_n hx hb dX4_fill_17 rfl (lv_at hl 0 rfl) ?_
      refine va_get (D := D) (ci := 3) (v := .ref a0_2) (C := RX4) (T := TX4) (N := 2) hx hb hts hiX4_fill_X4 hown hK hP 0 rfl rfl 1 (by decide) (hts _ lkX4_fill_17) (fun _ h9 => h9) rfl dX4_fill_18 ?_
      refine lv_iload_n hx hb dX4_fill_21 rfl (lv_at hl 1 rfl) ?_
      refine lv_iconst (v := 1) hx hb dX4_fill_22 (by decide) ?_
      obtain ⟨f_6, hf_6, hv⟩ := qB hv
      refine m_zst hx hb hK hP hD hS 2 1 rfl rfl hf_6 dX4_fill_23 (fun H locs hP hD hS => ?_)
      obtain ⟨Q0s_7, hQ0s_7, hv⟩ := qB hv
      obtain ⟨hP, hD⟩ := m_st (F := fun Z9 : Nat → FS => (wSlots E a0_0 a0_1 a0_2 a0_3 a0_4 a0_5 a0_6 a0_7 a0_8 Z9) ++ (wPlan E a2_0 a2_1 a2_2 P2)) (Option.some.inj hQ0s_7) hP hD
      exact m_retv (F := (fun (Z9 : Nat → FS) => (fun _ : Unit => (wSlots E a0_0 a0_1 a0_2 a0_3 a0_4 a0_5 a0_6 a0_7 a0_8 Z9) ++ (wPlan E a2_0 a2_1 a2_2 P2)))) () C dX4_fill_24 hv hP hD hS
    have hv := qF c_12_k_3 hv
    rcases (Decidable.em (x1 = 1)) with c_12_k_8 | c_12_k_8
    · have hv := qT c_12_k_8 hv
      refine m_ald (v := a0_6) hx hb hK hP 1 2 rfl rfl c_12_k_8 (by unfold vp_in; decide) rfl dX4_fill_12 ?_
      refine lv_aload_n hx hb dX4_fill_13 rfl (lv_at hl 2 rfl) ?_
      obtain ⟨S_9, hS_9, hv⟩ := qB hv
      refine m_VV (As := [.ref a2_0]) (rest := []) (C := RX3) (T0 := TX3) (N0 := 6) (ci := 2) (Wn := (fun _ : Unit => (wSlots E a0_0 a0_1 a0_2 a0_3 a0_4 a0_5 a0_6 a0_7 a0_8 (sq Q0 10 S_9)) ++ (wPlan E a2_0 a2_1 a2_2 P2))) (Wr := [(a0_0, .inr (3, [.ref a0_1, .ref a0_2])), aP E a0_1 2 (fS a0_3 a0_6), aZ E a0_2 2 (Q0 2 1), (a0_3, .inr (2, [.ref a0_4, .ref a0_5, .int ((Q0 9) 2 0), .int ((Q0 9) 2 1), .int ((Q0 9) 2 2), .int ((Q0 9) 2 3)])), aI E a0_4 50 ((Q0 9) 0), aI E a0_5 12 ((Q0 9) 1)]) hx hb hml hown hts hl.1 (kX3_copyFrom l D E a0_6 a0_7 a0_8 a2_0 a2_1 a2_2 H.size hS_9) (cwV 1 hts gX4_fill_X3_copyFrom rfl rfl rfl (by decide +kernel) ⟨Nat.le_of_ble_eq_true rfl, Nat.le_of_ble_eq_true rfl⟩) 0 rfl rfl hP hD hS hA hK [6, 7, 8, 9, 10, 11] [0, 1, 2, 3, 4, 5] [0, 1, 2, 3, 4, 5, 6, 7, 8, 9, 10, 11] (by decide) rfl rfl (by decide) (by decide) (by decide) (fun _ => rfl) rfl rfl (Nat.le_of_ble_eq_true rfl) dX4_fill_14 ⟨Nat.le_of_ble_eq_true rfl, Nat.le_of_ble_eq_true rfl⟩ (fun _ H locs hP hD hS => ?_)
      obtain ⟨Q0s_10, hQ0s_10, hv⟩ := qB hv
      obtain ⟨hP, hD⟩ := m_st (F := fun Z9 : Nat → FS => (wSlots E a0_0 a0_1 a0_2 a0_3 a0_4 a0_5 a0_6 a0_7 a0_8 Z9) ++ (wPlan E a2_0 a2_1 a2_2 P2)) (Option.some.inj hQ0s_10) hP hD
      refine lv_aload_n hx hb dX4_fill_17 rfl (lv_at hl 0 rfl) ?_
      refine va_get (D := D) (ci := 3) (v := .ref a0_2) (C := RX4) (T := TX4) (N := 2) hx hb hts hiX4_fill_X4 hown hK hP 0 rfl rfl 1 (by decide) (hts _ lkX4_fill_17) (fun _ h9 => h9) rfl dX4_fill_18 ?_
      refine lv_iload_n hx hb dX4_fill_21 rfl (lv_at hl 1 rfl) ?_
      refine lv_iconst (v := 1) hx hb dX4_fill_22 (by decide) ?_
      obtain ⟨f_11, hf_11, hv⟩ := qB hv
      refine m_zst hx hb hK hP hD hS 2 1 rfl rfl hf_11 dX4_fill_23 (fun H locs hP hD hS => ?_)
      obtain ⟨Q0s_12, hQ0s_12, hv⟩ := qB hv
      obtain ⟨hP, hD⟩ := m_st (F := fun Z9 : Nat → FS => (wSlots E a0_0 a0_1 a0_2 a0_3 a0_4 a0_5 a0_6 a0_7 a0_8 Z9) ++ (wPlan E a2_0 a2_1 a2_2 P2)) (Option.some.inj hQ0s_12) hP hD
      exact m_retv (F := (fun (Z9 : Nat → FS) => (fun _ : Unit => (wSlots E a0_0 a0_1 a0_2 a0_3 a0_4 a0_5 a0_6 a0_7 a0_8 Z9) ++ (wPlan E a2_0 a2_1 a2_2 P2)))) () C dX4_fill_24 hv hP hD hS
    have hv := qF c_12_k_8 hv
    cases hv
