/-! refused: nothing is left of refused calls -/
set_option maxRecDepth 100000 in
set_option maxHeartbeats 4000000 in
theorem kL_refused (l : Launch) (t : Nat → Nat) (D : va_G) (E : Nat → ClassId) (q : Nat) (u : Nat → Nat) {Z : Nat → FS} {A0 : AS} {w : Int32} (h : RH Z A0) (hs : SeenH Z A0) (hc : fX7_count Z 10 = some w) (sz : Nat) : LI l yL_refused wsL_refused (rmW 16 374 12 48) t D E (wQ E (aZ0 q u) Z) sz [.ref q] 1 (fun u1 : Nat → Nat => wQ E (aZ0 q u1) Z) 12 48 := by
  refine LI.of (by decide) rfl (Nat.le_of_ble_eq_true rfl) ?_
  intro p e s m below meth c A H locs C hP hK hD hS hA hZ ls hl
  have hl : lv_has ls 4 [(0, .ref q)] := hl
  obtain ⟨hx, hb, hr, hml, hown, hlocks, hts⟩ := id C
  refine lv_aload_n hx hb dL_refused_0 rfl (lv_at hl 0 rfl) ?_
  refine q_SL (As := [.ref q]) (rest := []) hx hb hml hown hts hl.1 (kL_seen l t D E q u hs) zSt_mv (va_cwS 1 hts gL_refused_L_seen rfl rfl rfl (by decide +kernel) ⟨Nat.le_of_ble_eq_true rfl, Nat.le_of_ble_eq_true rfl⟩) hP hK (zSX_now hZ hS) rfl rfl (Nat.le_of_ble_eq_true rfl) dL_refused_1 ⟨Nat.le_of_ble_eq_true rfl, Nat.le_of_ble_eq_true rfl⟩ ?_
  refine lv_lstore_n (lv' := [(1, .long (sv A0)), (0, .ref q)]) hx hb dL_refused_4 rfl hl (by decide) rfl (fun ls hl => ?_)
  refine lv_aload_n hx hb dL_refused_5 rfl (lv_at hl 1 rfl) ?_
  refine lv_bipush (v := 10) hx hb dL_refused_6 (by decide) ?_
  refine q_V (As := [.int (10:Int32)]) (rest := []) (C := RX7) (T0 := TX7) (N0 := 4) (ci := 6) hx hb hml hown hts hl.1 (kX7_count l D E t (aZ0 q u) hc) zSt_mv (cwV 1 hts gL_refused_X7_count rfl rfl rfl (by decide +kernel) ⟨Nat.le_of_ble_eq_true rfl, Nat.le_of_ble_eq_true rfl⟩) 0 rfl rfl hP hK (zSX_now hZ hS) rfl rfl (Nat.le_of_ble_eq_true rfl) dL_refused_8 ⟨Nat.le_of_ble_eq_true rfl, Nat.le_of_ble_eq_true rfl⟩ ?_
  refine lv_istore_n (lv' := [(3, .int w), (1, .long (sv A0)), (0, .ref q)]) hx hb dL_refused_11 rfl hl (by decide) rfl (fun ls hl => ?_)
  refine lv_aload_n hx hb dL_refused_12 rfl (lv_at hl 2 rfl) ?_
  refine lv_iconst (v := 0) hx hb dL_refused_13 (by decide) ?_
  refine t0_SI (As := [.ref q, .int (0:Int32)]) (rest := []) hx hb hml hown hts hl.1 (kL_refusesAny0 l t D E q u h H.size) (va_cwS 2 hts gL_refused_L_refusesAny rfl rfl rfl (by decide +kernel) ⟨Nat.le_of_ble_eq_true rfl, Nat.le_of_ble_eq_true rfl⟩) hP hD hS hA hK hZ rfl rfl (Nat.le_of_ble_eq_true rfl) dL_refused_14 ⟨Nat.le_of_ble_eq_true rfl, Nat.le_of_ble_eq_true rfl⟩ (fun u1 H locs hP hD hS => ?_)
  refine lv_if_eq (tgt := 51) hx hb dL_refused_17 (by decide) (fun c9 => absurd c9 (by decide)) (fun _ => ?_)
  refine lv_aload_n hx hb dL_refused_20 rfl (lv_at hl 2 rfl) ?_
  refine lv_iconst (v := 1) hx hb dL_refused_21 (by decide) ?_
  refine t0_SI (As := [.ref q, .int (1:Int32)]) (rest := []) hx hb hml hown hts hl.1 (kL_refusesAny1 l t D E q u1 h H.size) (va_cwS 2 hts gL_refused_L_refusesAny rfl rfl rfl (by decide +kernel) ⟨Nat.le_of_ble_eq_true rfl, Nat.le_of_ble_eq_true rfl⟩) hP hD hS hA hK hZ rfl rfl (Nat.le_of_ble_eq_true rfl) dL_refused_22 ⟨Nat.le_of_ble_eq_true rfl, Nat.le_of_ble_eq_true rfl⟩ (fun u2 H locs hP hD hS => ?_)
  refine lv_if_eq (tgt := 51) hx hb dL_refused_25 (by decide) (fun c9 => absurd c9 (by decide)) (fun _ => ?_)
  refine lv_aload_n hx hb dL_refused_28 rfl (lv_at hl 2 rfl) ?_
  refine q_SL (As := [.ref q]) (rest := []) hx hb hml hown hts hl.1 (kL_seen l t D E q u2 hs) zSt_mv (va_cwS 1 hts gL_refused_L_seen rfl rfl rfl (by decide +kernel) ⟨Nat.le_of_ble_eq_true rfl, Nat.le_of_ble_eq_true rfl⟩) hP hK (zSX_now hZ hS) rfl rfl (Nat.le_of_ble_eq_true rfl) dL_refused_29 ⟨Nat.le_of_ble_eq_true rfl, Nat.le_of_ble_eq_true rfl⟩ ?_
  refine lv_lload_n hx hb dL_refused_32 rfl (lv_at hl 1 rfl) ?_
  refine W.lcmp hx hb dL_refused_33 ?_
  refine lv_if_ne (tgt := 51) hx hb dL_refused_34 (by decide) (fun c9 => absurd ((lg_cmp_eq _ _).mpr rfl) c9) (fun _ => ?_)
  refine lv_aload_n hx hb dL_refused_37 rfl (lv_at hl 2 rfl) ?_
  refine lv_bipush (v := 10) hx hb dL_refused_38 (by decide) ?_
  refine q_V (As := [.int (10:Int32)]) (rest := []) (C := RX7) (T0 := TX7) (N0 := 4) (ci := 6) hx hb hml hown hts hl.1 (kX7_count l D E t (aZ0 q u2) hc) zSt_mv (cwV 1 hts gL_refused_X7_count rfl rfl rfl (by decide +kernel) ⟨Nat.le_of_ble_eq_true rfl, Nat.le_of_ble_eq_true rfl⟩) 0 rfl rfl hP hK (zSX_now hZ hS) rfl rfl (Nat.le_of_ble_eq_true rfl) dL_refused_40 ⟨Nat.le_of_ble_eq_true rfl, Nat.le_of_ble_eq_true rfl⟩ ?_
  refine lv_iload_n hx hb dL_refused_43 rfl (lv_at hl 0 rfl) ?_
  refine lv_icmp_ne (tgt := 51) hx hb dL_refused_44 (by decide) (fun c9 => absurd rfl c9) (fun _ => ?_)
  refine lv_iconst (v := 1) hx hb dL_refused_47 (by decide) ?_
  refine lv_goto (tgt := 52) hx hb dL_refused_48 (by decide) ?_
  exact t_rz u2 C dL_refused_52 (by decide) (by decide) hP hD hS
