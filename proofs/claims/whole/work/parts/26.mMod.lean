set_option maxRecDepth 100000 in
set_option maxHeartbeats 4000000 in
theorem wfX8_lays_L3 {p : Program} {e : Env} {s : State} {m : MethodId} {below : List Frame} {meth : Method} {c : Code} {l : Launch} {D : va_G} {E : Nat → ClassId} {a0_0 : Nat} {a2_0 : Nat} {n0 : Nat} {f0 : FA} {n2 : Nat} {x1 : Int32} {x3 : Int32} {f29 : FA} {A : Nat → Prop} {y1 : Int32} {y3 : Int32} (C : Ctx p s m meth c [.ref a0_0, .int x1, .ref a2_0, .int x3] wsX8_lays cX8_lays 5 none RX8) (hK : va_K D vwCl (tyE E) s) (hA : ∀ q : Nat, s.heap.size ≤ q → A q) : ∀ (q : Nat) (f2 : FA) (y4 : Int32), fX8_lays_L3 n0 f0 n2 y1 y3 q f2 y4 = some (f29) → ∀ (H : Heap) (locs : List Loc) (ls : Array Slot), va_P D vwCl ([aI E a0_0 n0 f0] ++ [aI E a2_0 n2 f2]) H → va_D A ([aI E a0_0 n0 f0] ++ [aI E a2_0 n2 f2]) → va_S A s.heap H locs → lv_has ls 5 [(0, .ref a0_0), (1, .int y1), (2, .ref a2_0), (3, .int y3), (4, .int y4)] → WV p l e (rmN 0 0) s m [.ref a0_0, .int x1, .ref a2_0, .int x3] below meth c D A (fun _ : Unit => [aI E a0_0 n0 f0] ++ [aI E a2_0 n2 f29]) 0 0 H locs 0 0 3 ls [] := by
  obtain ⟨hx, hb, hr, hml, hown, hlocks, hts⟩ := id C
  intro q
  induction q with
  | zero =>
    intro f2 y4 hv
    cases hv
  | succ q ih =>
    intro f2 y4 hv H locs ls hP hD hS hl
    rw [fX8_lays_L3.eq_2] at hv
    refine lv_iload hx hb dX8_lays_3 (lv_at hl 4 rfl) ?_
    refine lv_bipush (v := 116) hx hb dX8_lays_5 (by decide) ?_
    refine lv_icmp_ge (tgt := 28) hx hb dX8_lays_7 (by decide) (fun c_7_k_1 => ?_) (fun c_7_k_1 => ?_)
    · have hv := qT c_7_k_1 hv
      exact m_retv (F := (fun (Z9 : FA) => (fun _ : Unit => [aI E a0_0 n0 f0] ++ [aI E a2_0 n2 Z9]))) () C dX8_lays_28 hv hP hD hS
    · have hv := qF c_7_k_1 hv
      refine lv_aload_n hx hb dX8_lays_10 rfl (lv_at hl 2 rfl) ?_
      refine lv_iload_n hx hb dX8_lays_11 rfl (lv_at hl 3 rfl) ?_
      refine lv_iload hx hb dX8_lays_12 (lv_at hl 4 rfl) ?_
      refine lv_iadd hx hb dX8_lays_14 ?_
      refine lv_aload_n hx hb dX8_lays_15 rfl (lv_at hl 0 rfl) ?_
      refine lv_iload_n hx hb dX8_lays_16 rfl (lv_at hl 1 rfl) ?_
      refine lv_iload hx hb dX8_lays_17 (lv_at hl 4 rfl) ?_
      refine lv_iadd hx hb dX8_lays_19 ?_
      obtain ⟨x_2, hx_2, hv⟩ := qB hv
      refine q_ild hx hb hK hP 0 0 rfl rfl hx_2 dX8_lays_20 ?_
      obtain ⟨f_3, hf_3, hv⟩ := qB hv
      refine m_ist hx hb hK hP hD hS 1 0 rfl rfl hf_3 dX8_lays_21 (fun H locs hP hD hS => ?_)
      obtain ⟨f2s_4, hf2s_4, hv⟩ := qB hv
      obtain ⟨hP, hD⟩ := m_st (F := fun Z9 : FA => [aI E a0_0 n0 f0] ++ [aI E a2_0 n2 Z9]) (Option.some.inj hf2s_4) hP hD
      refine lv_iinc (v := (y4 + 1)) (lv' := [(4, .int (y4 + 1)), (0, .ref a0_0), (1, .int y1), (2, .ref a2_0), (3, .int y3)]) hx hb dX8_lays_22 hl (k := 4) rfl (by rfl) (by decide) rfl (fun ls hl => ?_)
      refine lv_goto (tgt := 3) hx hb dX8_lays_25 (by decide) ?_
      exact ih f2s_4 (y4 + 1) hv _ _ _ hP hD hS (lv_sub hl [1, 2, 3, 4, 0] rfl)

set_option maxRecDepth 100000 in
set_option maxHeartbeats 4000000 in
theorem kX8_lays (l : Launch) (D : va_G) (E : Nat → ClassId) (a0_0 : Nat) (a2_0 : Nat) {n0 : Nat} {f0 : FA} {n2 : Nat} {f2 : FA} {x1 : Int32} {x3 : Int32} {f29 : FA} (sz : Nat) (hv : fX8_lays n0 f0 n2 f2 x1 x3 = some (f29)) : MV l yX8_lays wsX8_lays (rmN 0 0) D E ([aI E a0_0 n0 f0] ++ [aI E a2_0 n2 f2]) sz [.ref a0_0, .int x1, .ref a2_0, .int x3] (fun _ : Unit => [aI E a0_0 n0 f0] ++ [aI E a2_0 n2 f29]) 0 0 := by
  refine MV.of (by decide) rfl (Nat.le_of_ble_eq_true rfl) ?_
  intro p e s m below meth c A H locs C hP hK hD hS hA ls hl
  have hl : lv_has ls 5 [(0, .ref a0_0), (1, .int x1), (2, .ref a2_0), (3, .int x3)] := hl
  obtain ⟨hx, hb, hr, hml, hown, hlocks, hts⟩ := id C
  unfold fX8_lays at hv
  refine lv_iconst (v := 0) hx hb dX8_lays_0 (by decide) ?_
  refine lv_istore (lv' := [(4, .int (0:Int32)), (0, .ref a0_0), (1, .int x1), (2, .ref a2_0), (3, .int x3)]) hx hb dX8_lays_1 hl (by decide) rfl (fun ls hl => ?_)
  exact wfX8_lays_L3 C hK hA  6000 f2 (0:Int32) hv _ _ _ hP hD hS (lv_sub hl [1, 2, 3, 4, 0] rfl)

theorem lkX8_records_35 : (.fieldLink RX8 35 "QuarterTilesModel" "states" "I" : Cond) ∈ wsX8_records := by decide +kernel
theorem hiX8_records_X8 : ∀ w ∈ wsX80, w ∈ wsX8_records := by decide +kernel
theorem lkX8_records_7 : (.fieldLink RX8 7 "QuarterTilesModel" "now" "[I" : Cond) ∈ wsX8_records := by decide +kernel
theorem lkX8_records_16 : (.fieldLink RX8 16 "QuarterTilesModel" "past" "[I" : Cond) ∈ wsX8_records := by decide +kernel
set_option maxRecDepth 100000 in
set_option maxHeartbeats 4000000 in
theorem wfX8_records_L49 {p : Program} {e : Env} {s : State} {m : MethodId} {below : List Frame} {meth : Method} {c : Code} {l : Launch} {D : va_G} {E : Nat → ClassId} {a0 : Nat → Nat} {M09 : FS} {A : Nat → Prop} (C : Ctx p s m meth c [.ref (a0 0)] wsX8_records cX8_records 2 none RX8) (hK : va_K D vwCl (tyE E) s) (hA : ∀ q : Nat, s.heap.size ≤ q → A q) : ∀ (M0 : FS), fX8_records_L49 M0 = some (M09) → ∀ (H : Heap) (locs : List Loc) (ls : Array Slot), va_P D vwCl ((wMod E a0 M0)) H → va_D A ((wMod E a0 M0)) → va_S A s.heap H locs → lv_has ls 2 [(0, .ref (a0 0))] → WV p l e (rmN 1 24) s m [.ref (a0 0)] below meth c D A (fun _ : Unit => (wMod E a0 M09)) 0 0 H locs 0 0 49 ls [] := by
  obtain ⟨hx, hb, hr, hml, hown, hlocks, hts⟩ := id C
  intro M0 hv H locs ls hP hD hS hl
  unfold fX8_records_L49 at hv
  refine lv_aload_n hx hb dX8_records_49 rfl (lv_at hl 0 rfl) ?_
  refine va_get (D := D) (ci := 7) (v := .ref (a0 1)) (C := RX8) (T := TX8) (N := 14) hx hb hts hiX8_records_X8 hown hK hP 0 rfl rfl 0 (by decide) (hts _ lkX8_records_7) (fun _ h9 => h9) rfl dX8_records_50 ?_
  refine lv_iconst (v := 0) hx hb dX8_records_53 (by decide) ?_
  refine lv_aload_n hx hb dX8_records_54 rfl (lv_at hl 0 rfl) ?_
  refine va_get (D := D) (ci := 7) (v := .ref (a0 3)) (C := RX8) (T := TX8) (N := 14) hx hb hts hiX8_records_X8 hown hK hP 0 rfl rfl 2 (by decide) (hts _ lkX8_records_16) (fun _ h9 => h9) rfl dX8_records_55 ?_
  refine lv_bipush (v := 116) hx hb dX8_records_58 (by decide) ?_
  refine lv_aload_n hx hb dX8_records_60 rfl (lv_at hl 0 rfl) ?_
  refine va_get (D := D) (ci := 7) (v := .int (M0 8 0)) (C := RX8) (T := TX8) (N := 14) hx hb hts hiX8_records_X8 hown hK hP 0 rfl rfl 3 (by decide) (hts _ lkX8_records_35) (fun _ h9 => h9) rfl dX8_records_61 ?_
  refine lv_imul hx hb dX8_records_64 ?_
  obtain ⟨S_2, hS_2, hv⟩ := qB hv
  refine m_SV (As := [.ref (a0 1), .int (0:Int32), .ref (a0 3), .int ((116:Int32) * (M0 8 0))]) (rest := []) (Wn := (fun _ : Unit => (wMod E a0 (sr M0 2 S_2)))) (Wr := [((a0 0), .inr (7, [.ref (a0 1), .ref (a0 2), .ref (a0 3), .int (M0 8 0), .ref (a0 4), .ref (a0 5), .ref (a0 6), .int (M0 8 1), .int (M0 8 2), .int (M0 8 3), .ref (a0 7), .int (M0 8 4), .ref (a0 8), .int (M0 8 5)])), aI E (a0 2) 116 (M0 1), aI E (a0 4) 232 (M0 3), aZ E (a0 5) 2 (M0 4), aI E (a0 6) 80 (M0 5), aI E (a0 7) 7 (M0 6), aI E (a0 8) 44 (M0 7)]) hx hb hml hown hts hl.1 (kX8_lays l D E (a0 1) (a0 3) H.size hS_2) (va_cwS 4 hts gX8_records_X8_lays rfl rfl rfl (by decide +kernel) ⟨Nat.le_of_ble_eq_true rfl, Nat.le_of_ble_eq_true rfl⟩) hP hD hS hA hK [1, 3] [0, 2, 4, 5, 6, 7, 8] [0, 7, 1, 8, 2, 3, 4, 5, 6] (by decide) rfl rfl (by decide) (by decide) (by decide) (fun _ => rfl) rfl rfl (Nat.le_of_ble_eq_true rfl) dX8_records_65 ⟨Nat.le_of_ble_eq_true rfl, Nat.le_of_ble_eq_true rfl⟩ (fun _ H locs hP hD hS => ?_)
  obtain ⟨M0s_3, hM0s_3, hv⟩ := qB hv
  obtain ⟨hP, hD⟩ := m_st (F := fun Z9 : FS => (wMod E a0 Z9)) (Option.some.inj hM0s_3) hP hD
  refine lv_aload_n hx hb dX8_records_68 rfl (lv_at hl 0 rfl) ?_
  refine lv_dup hx hb dX8_records_69 rfl ?_
  refine va_get (D := D) (ci := 7) (v := .int (M0s_3 8 0)) (C := RX8) (T := TX8) (N := 14) hx hb hts hiX8_records_X8 hown hK hP 0 rfl rfl 3 (by decide) (hts _ lkX8_records_35) (fun _ h9 => h9) rfl dX8_records_70 ?_
  refine lv_iconst (v := 1) hx hb dX8_records_73 (by decide) ?_
  refine lv_iadd hx hb dX8_records_74 ?_
  refine va_put (D := D) (ci := 7) (v := .int ((M0s_3 8 0) + (1:Int32))) (ty := .int) (C := RX8) (T := TX8) (N := 14) hx hb hts hiX8_records_X8 tyX8 tyX8_ok nmX8 hown hK hP hD hS 0 rfl rfl 3 (by decide) (hts _ lkX8_records_35) (fun _ h9 => h9) rfl (by decide +kernel) rfl rfl (Nat.le_of_ble_eq_true rfl) dX8_records_75 (fun H locs hP hD hS => ?_)
  obtain ⟨M0s_4, hM0s_4, hv⟩ := qB hv
  obtain ⟨hP, hD⟩ := m_st (F := fun Z9 : FS => (wMod E a0 Z9)) (Option.some.inj hM0s_4) hP hD
  exact m_retv (F := (fun (Z9 : FS) => (fun _ : Unit => (wMod E a0 Z9)))) () C dX8_records_78 hv hP hD hS

set_option maxRecDepth 100000 in
set_option maxHeartbeats 4000000 in
theorem wfX8_records_L11 {p : Program} {e : Env} {s : State} {m : MethodId} {below : List Frame} {meth : Method} {c : Code} {l : Launch} {D : va_G} {E : Nat → ClassId} {a0 : Nat → Nat} {M09 : FS} {A : Nat → Prop} (C : Ctx p s m meth c [.ref (a0 0)] wsX8_records cX8_records 2 none RX8) (hK : va_K D vwCl (tyE E) s) (hA : ∀ q : Nat, s.heap.size ≤ q → A q) : ∀ (q : Nat) (M0 : FS) (y1 : Int32), fX8_records_L11 q M0 y1 = some (M09) → ∀ (H : Heap) (locs : List Loc) (ls : Array Slot), va_P D vwCl ((wMod E a0 M0)) H → va_D A ((wMod E a0 M0)) → va_S A s.heap H locs → lv_has ls 2 [(0, .ref (a0 0)), (1, .int y1)] → WV p l e (rmN 1 24) s m [.ref (a0 0)] below meth c D A (fun _ : Unit => (wMod E a0 M09)) 0 0 H locs 0 0 11 ls [] := by
  obtain ⟨hx, hb, hr, hml, hown, hlocks, hts⟩ := id C
  intro q
  induction q with
  | zero =>
    intro M0 y1 hv
    cases hv
  | succ q ih =>
    intro M0 y1 hv H locs ls hP hD hS hl
    rw [fX8_records_L11.eq_2] at hv
    refine lv_iload_n hx hb dX8_records_11 rfl (lv_at hl 1 rfl) ?_
    refine lv_sipush (v := 580) hx hb dX8_records_12 (by decide) ?_
    refine lv_icmp_ge (tgt := 39) hx hb dX8_records_15 (by decide) (fun c_15_k_5 => ?_) (fun c_15_k_5 => ?_)
    · have hv := qT c_15_k_5 hv
      refine lv_aload_n hx hb dX8_records_39 rfl (lv_at hl 0 rfl) ?_
      refine lv_dup hx hb dX8_records_40 rfl ?_
      refine va_get (D := D) (ci := 7) (v := .int (M0 8 0)) (C := RX8) (T := TX8) (N := 14) hx hb hts hiX8_records_X8 hown hK hP 0 rfl rfl 3 (by decide) (hts _ lkX8_records_35) (fun _ h9 => h9) rfl dX8_records_41 ?_
      refine lv_iconst (v := 1) hx hb dX8_records_44 (by decide) ?_
      refine lv_isub hx hb dX8_records_45 ?_
      refine va_put (D := D) (ci := 7) (v := .int ((M0 8 0) - (1:Int32))) (ty := .int) (C := RX8) (T := TX8) (N := 14) hx hb hts hiX8_records_X8 tyX8 tyX8_ok nmX8 hown hK hP hD hS 0 rfl rfl 3 (by decide) (hts _ lkX8_records_35) (fun _ h9 => h9) rfl (by decide +kernel) rfl rfl (Nat.le_of_ble_eq_true rfl) dX8_records_46 (fun H locs hP hD hS => ?_)
      obtain ⟨M0s_6, hM0s_6, hv⟩ := qB hv
      obtain ⟨hP, hD⟩ := m_st (F := fun Z9 : FS => (wMod E a0 Z9)) (Option.some.inj hM0s_6) hP hD
      exact wfX8_records_L49 C hK hA  M0s_6 hv _ _ _ hP hD hS (lv_sub hl [0] rfl)
    · have hv := qF c_15_k_5 hv
      refine lv_aload_n hx hb dX8_records_18 rfl (lv_at hl 0 rfl) ?_
      refine va_get (D := D) (ci := 7) (v := .ref (a0 3)) (C := RX8) (T := TX8) (N := 14) hx hb hts hiX8_records_X8 hown hK hP 0 rfl rfl 2 (by decide) (hts _ lkX8_records_16) (fun _ h9 => h9) rfl dX8_records_19 ?_
      refine lv_iload_n hx hb dX8_records_22 rfl (lv_at hl 1 rfl) ?_
      refine lv_aload_n hx hb dX8_records_23 rfl (lv_at hl 0 rfl) ?_
      refine va_get (D := D) (ci := 7) (v := .ref (a0 3)) (C := RX8) (T := TX8) (N := 14) hx hb hts hiX8_records_X8 hown hK hP 0 rfl rfl 2 (by decide) (hts _ lkX8_records_16) (fun _ h9 => h9) rfl dX8_records_24 ?_
      refine lv_iload_n hx hb dX8_records_27 rfl (lv_at hl 1 rfl) ?_
      refine lv_bipush (v := 116) hx hb dX8_records_28 (by decide) ?_
      refine lv_iadd hx hb dX8_records_30 ?_
      obtain ⟨x_7, hx_7, hv⟩ := qB hv
      refine q_ild hx hb hK hP 3 0 rfl rfl hx_7 dX8_records_31 ?_
      obtain ⟨f_8, hf_8, hv⟩ := qB hv
      refine m_ist hx hb hK hP hD hS 3 0 rfl rfl hf_8 dX8_records_32 (fun H locs hP hD hS => ?_)
      obtain ⟨M0s_9, hM0s_9, hv⟩ := qB hv
      obtain ⟨hP, hD⟩ := m_st (F := fun Z9 : FS => (wMod E a0 Z9)) (Option.some.inj hM0s_9) hP hD
      refine lv_iinc (v := (y1 + 1)) (lv' := [(1, .int (y1 + 1)), (0, .ref (a0 0))]) hx hb dX8_records_33 hl (k := 1) rfl (by rfl) (by decide) rfl (fun ls hl => ?_)
      refine lv_goto (tgt := 11) hx hb dX8_records_36 (by decide) ?_
      exact ih M0s_9 (y1 + 1) hv _ _ _ hP hD hS (lv_sub hl [1, 0] rfl)

set_option maxRecDepth 100000 in
set_option maxHeartbeats 4000000 in
theorem kX8_records (l : Launch) (D : va_G) (E : Nat → ClassId) (a0 : Nat → Nat) {M0 : FS} {M09 : FS} (sz : Nat) (hv : fX8_records M0 = some (M09)) : MV l yX8_records wsX8_records (rmN 1 24) D E ((wMod E a0 M0)) sz [.ref (a0 0)] (fun _ : Unit => (wMod E a0 M09)) 0 0 := by
  refine MV.of (by decide) rfl (Nat.le_of_ble_eq_true rfl) ?_
  intro p e s m below meth c A H locs C hP hK hD hS hA ls hl
  have hl : lv_has ls 2 [(0, .ref (a0 0))] := hl
  obtain ⟨hx, hb, hr, hml, hown, hlocks, hts⟩ := id C
  unfold fX8_records at hv
  refine lv_aload_n hx hb dX8_records_0 rfl (lv_at hl 0 rfl) ?_
  refine va_get (D := D) (ci := 7) (v := .int (M0 8 0)) (C := RX8) (T := TX8) (N := 14) hx hb hts hiX8_records_X8 hown hK hP 0 rfl rfl 3 (by decide) (hts _ lkX8_records_35) (fun _ h9 => h9) rfl dX8_records_1 ?_
  refine lv_bipush (v := 6) hx hb dX8_records_4 (by decide) ?_
  refine lv_icmp_ne (tgt := 49) hx hb dX8_records_6 (by decide) (fun c_6_k_1 => ?_) (fun c_6_k_1 => ?_)
  · have hv := qF c_6_k_1 hv
    exact wfX8_records_L49 C hK hA  M0 hv _ _ _ hP hD hS (lv_sub hl [0] rfl)
  · have hv := qT c_6_k_1 hv
    refine lv_iconst (v := 0) hx hb dX8_records_9 (by decide) ?_
    refine lv_istore_n (lv' := [(1, .int (0:Int32)), (0, .ref (a0 0))]) hx hb dX8_records_10 rfl hl (by decide) rfl (fun ls hl => ?_)
    exact wfX8_records_L11 C hK hA  6000 M0 (0:Int32) hv _ _ _ hP hD hS (lv_sub hl [1, 0] rfl)

set_option maxRecDepth 100000 in
set_option maxHeartbeats 4000000 in
theorem kX8_places (l : Launch) (D : va_G) (E : Nat → ClassId) (a0_0 : Nat) {f0 : FA} {x1 : Int32} {x2 : Int32} {x3 : Int32} {f09 : FA} (sz : Nat) (hv : fX8_places f0 x1 x2 x3 = some (f09)) : MV l yX8_places wsX8_places (rmN 0 0) D E ([aI E a0_0 116 f0]) sz [.ref a0_0, .int x1, .int x2, .int x3] (fun _ : Unit => [aI E a0_0 116 f09]) 0 0 := by
  refine MV.of (by decide) rfl (Nat.le_of_ble_eq_true rfl) ?_
  intro p e s m below meth c A H locs C hP hK hD hS hA ls hl
  have hl : lv_has ls 4 [(0, .ref a0_0), (1, .int x1), (2, .int x2), (3, .int x3)] := hl
  obtain ⟨hx, hb, hr, hml, hown, hlocks, hts⟩ := id C
  unfold fX8_places at hv
  refine lv_aload_n hx hb dX8_places_0 rfl (lv_at hl 0 rfl) ?_
  refine lv_iconst (v := 4) hx hb dX8_places_1 (by decide) ?_
  refine lv_iconst (v := 2) hx hb dX8_places_2 (by decide) ?_
  refine lv_iload_n hx hb dX8_places_3 rfl (lv_at hl 1 rfl) ?_
  refine lv_imul hx hb dX8_places_4 ?_
  refine lv_iadd hx hb dX8_places_5 ?_
  refine lv_iload_n hx hb dX8_places_6 rfl (lv_at hl 2 rfl) ?_
  obtain ⟨f_1, hf_1, hv⟩ := qB hv
  refine m_ist hx hb hK hP hD hS 0 0 rfl rfl hf_1 dX8_places_7 (fun H locs hP hD hS => ?_)
  obtain ⟨f0s_2, hf0s_2, hv⟩ := qB hv
  obtain ⟨hP, hD⟩ := m_st (F := fun Z9 : FA => [aI E a0_0 116 Z9]) (Option.some.inj hf0s_2) hP hD
  refine lv_aload_n hx hb dX8_places_8 rfl (lv_at hl 0 rfl) ?_
  refine lv_iconst (v := 4) hx hb dX8_places_9 (by decide) ?_
  refine lv_iconst (v := 2) hx hb dX8_places_10 (by decide) ?_
  refine lv_iload_n hx hb dX8_places_11 rfl (lv_at hl 1 rfl) ?_
  refine lv_imul hx hb dX8_places_12 ?_
  refine lv_iadd hx hb dX8_places_13 ?_
  refine lv_iconst (v := 1) hx hb dX8_places_14 (by decide) ?_
  refine lv_iadd hx hb dX8_places_15 ?_
  refine lv_iload_n hx hb dX8_places_16 rfl (lv_at hl 3 rfl) ?_
  obtain ⟨f_3, hf_3, hv⟩ := qB hv
  refine m_ist hx hb hK hP hD hS 0 0 rfl rfl hf_3 dX8_places_17 (fun H locs hP hD hS => ?_)
  obtain ⟨f0s_4, hf0s_4, hv⟩ := qB hv
  obtain ⟨hP, hD⟩ := m_st (F := fun Z9 : FA => [aI E a0_0 116 Z9]) (Option.some.inj hf0s_4) hP hD
  exact m_retv (F := (fun (Z9 : FA) => (fun _ : Unit => [aI E a0_0 116 Z9]))) () C dX8_places_18 hv hP hD hS

set_option maxRecDepth 100000 in
set_option maxHeartbeats 4000000 in
theorem kX8_comes (l : Launch) (D : va_G) (E : Nat → ClassId) (a0_0 : Nat) {f0 : FA} {x1 : Int32} {x2 : Int32} {f09 : FA} (sz : Nat) (hv : fX8_comes f0 x1 x2 = some (f09)) : MV l yX8_comes wsX8_comes (rmN 1 23) D E ([aI E a0_0 116 f0]) sz [.ref a0_0, .int x1, .int x2] (fun _ : Unit => [aI E a0_0 116 f09]) 0 0 := by
  refine MV.of (by decide) rfl (Nat.le_of_ble_eq_true rfl) ?_
  intro p e s m below meth c A H locs C hP hK hD hS hA ls hl
  have hl : lv_has ls 3 [(0, .ref a0_0), (1, .int x1), (2, .int x2)] := hl
  obtain ⟨hx, hb, hr, hml, hown, hlocks, hts⟩ := id C
  unfold fX8_comes at hv
  refine lv_aload_n hx hb dX8_comes_0 rfl (lv_at hl 0 rfl) ?_
  refine lv_aload_n hx hb dX8_comes_1 rfl (lv_at hl 0 rfl) ?_
  refine lv_iconst (v := 0) hx hb dX8_comes_2 (by decide) ?_
  refine q_ildc (f := f0) hx hb hK hP 0 0 rfl rfl 0 (by decide) (by unfold vp_in; decide) dX8_comes_3 ?_
  refine lv_iload_n hx hb dX8_comes_4 rfl (lv_at hl 1 rfl) ?_
  refine lv_iload_n hx hb dX8_comes_5 rfl (lv_at hl 2 rfl) ?_
  obtain ⟨S_1, hS_1, hv⟩ := qB hv
  refine m_SV (As := [.ref a0_0, .int (f0 0), .int x1, .int x2]) (rest := []) (Wn := (fun _ : Unit => [aI E a0_0 116 S_1])) (Wr := []) hx hb hml hown hts hl.1 (kX8_places l D E a0_0 H.size hS_1) (va_cwS 4 hts gX8_comes_X8_places rfl rfl rfl (by decide +kernel) ⟨Nat.le_of_ble_eq_true rfl, Nat.le_of_ble_eq_true rfl⟩) hP hD hS hA hK [0] [] [0] (by decide) rfl rfl (by decide) (by decide) (by decide) (fun _ => rfl) rfl rfl (Nat.le_of_ble_eq_true rfl) dX8_comes_6 ⟨Nat.le_of_ble_eq_true rfl, Nat.le_of_ble_eq_true rfl⟩ (fun _ H locs hP hD hS => ?_)
  refine lv_aload_n hx hb dX8_comes_9 rfl (lv_at hl 0 rfl) ?_
  refine lv_iconst (v := 0) hx hb dX8_comes_10 (by decide) ?_
  refine lv_dup2_11 hx hb dX8_comes_11 rfl rfl ?_
  refine q_ildc (f := S_1) hx hb hK hP 0 0 rfl rfl 0 (by decide) (by unfold vp_in; decide) dX8_comes_12 ?_
  refine lv_iconst (v := 1) hx hb dX8_comes_13 (by decide) ?_
  refine lv_iadd hx hb dX8_comes_14 ?_
  obtain ⟨f_2, hf_2, hv⟩ := qB hv
  refine m_ist hx hb hK hP hD hS 0 0 rfl rfl hf_2 dX8_comes_15 (fun H locs hP hD hS => ?_)
  obtain ⟨f0s_3, hf0s_3, hv⟩ := qB hv
  obtain ⟨hP, hD⟩ := m_st (F := fun Z9 : FA => [aI E a0_0 116 Z9]) (Option.some.inj hf0s_3) hP hD
  exact m_retv (F := (fun (Z9 : FA) => (fun _ : Unit => [aI E a0_0 116 Z9]))) () C dX8_comes_16 hv hP hD hS

theorem lkX8_set_7 : (.fieldLink RX8 7 "QuarterTilesModel" "now" "[I" : Cond) ∈ wsX8_set := by decide +kernel
theorem hiX8_set_X8 : ∀ w ∈ wsX80, w ∈ wsX8_set := by decide +kernel
set_option maxRecDepth 100000 in
set_option maxHeartbeats 4000000 in
theorem wfX8_set_L22 {p : Program} {e : Env} {s : State} {m : MethodId} {below : List Frame} {meth : Method} {c : Code} {l : Launch} {D : va_G} {E : Nat → ClassId} {a0 : Nat → Nat} {x1 : Int32} {x2 : Int32} {v : Int32} {M09 : FS} {A : Nat → Prop} (C : Ctx p s m meth c [.ref (a0 0), .int x1, .int x2] wsX8_set cX8_set 4 (some .int) RX8) (hK : va_K D vwCl (tyE E) s) (hA : ∀ q : Nat, s.heap.size ≤ q → A q) : ∀ (M0 : FS) (y1 : Int32) (y2 : Int32) (z0 : Int32) (z1 : Int32) (z2 : Int32), fX8_set_L22 M0 y1 y2 z0 z1 z2 = some (v, M09) → ∀ (H : Heap) (locs : List Loc) (ls : Array Slot), va_P D vwCl ((wMod E a0 M0)) H → va_D A ((wMod E a0 M0)) → va_S A s.heap H locs → lv_has ls 4 [(0, .ref (a0 0)), (1, .int y1), (2, .int y2)] → WI p l e (rmN 2 45) s m [.ref (a0 0), .int x1, .int x2] below meth c D A v (fun _ : Unit => (wMod E a0 M09)) 0 0 H locs 0 0 22 ls [.int z0, .int z1, .int z2] := by
  obtain ⟨hx, hb, hr, hml, hown, hlocks, hts⟩ := id C
  intro M0 y1 y2 z0 z1 z2 hv H locs ls hP hD hS hl
  unfold fX8_set_L22 at hv
  obtain ⟨r_4, hr_4, hv⟩ := qB hv
  refine q_S (As := [.int z2, .int z1, .int z0]) (rest := []) hx hb hml hown hts hl.1 (kX8_in l D E  hr_4) zNo_mv (va_cwS 3 hts gX8_set_X8_in rfl rfl rfl (by decide +kernel) ⟨Nat.le_of_ble_eq_true rfl, Nat.le_of_ble_eq_true rfl⟩) (hP.sub (ws' := []) [] rfl) hK trivial rfl rfl (Nat.le_of_ble_eq_true rfl) dX8_set_22 ⟨Nat.zero_le _, Nat.zero_le _⟩ ?_
  refine lv_if_ne (tgt := 31) hx hb dX8_set_25 (by decide) (fun c_25_k_5 => ?_) (fun c_25_k_5 => ?_)
  · have hv := qF c_25_k_5 hv
    refine lv_aload_n hx hb dX8_set_31 rfl (lv_at hl 0 rfl) ?_
    obtain ⟨S_6, hS_6, hv⟩ := qB hv
    refine m_VV (As := []) (rest := []) (C := RX8) (T0 := TX8) (N0 := 14) (ci := 7) (Wn := (fun _ : Unit => (wMod E a0 S_6))) (Wr := []) hx hb hml hown hts hl.1 (kX8_records l D E a0 H.size hS_6) (cwV 0 hts gX8_set_X8_records rfl rfl rfl (by decide +kernel) ⟨Nat.le_of_ble_eq_true rfl, Nat.le_of_ble_eq_true rfl⟩) 0 rfl rfl hP hD hS hA hK [0, 1, 2, 3, 4, 5, 6, 7, 8] [] [0, 1, 2, 3, 4, 5, 6, 7, 8] (by decide) rfl rfl (by decide) (by decide) (by decide) (fun _ => rfl) rfl rfl (Nat.le_of_ble_eq_true rfl) dX8_set_32 ⟨Nat.le_of_ble_eq_true rfl, Nat.le_of_ble_eq_true rfl⟩ (fun _ H locs hP hD hS => ?_)
    refine lv_aload_n hx hb dX8_set_35 rfl (lv_at hl 0 rfl) ?_
    refine va_get (D := D) (ci := 7) (v := .ref (a0 1)) (C := RX8) (T := TX8) (N := 14) hx hb hts hiX8_set_X8 hown hK hP 0 rfl rfl 0 (by decide) (hts _ lkX8_set_7) (fun _ h9 => h9) rfl dX8_set_36 ?_
    refine lv_iconst (v := 1) hx hb dX8_set_39 (by decide) ?_
    refine lv_iload_n hx hb dX8_set_40 rfl (lv_at hl 1 rfl) ?_
    refine lv_iadd hx hb dX8_set_41 ?_
    obtain ⟨x_7, hx_7, hv⟩ := qB hv
    refine q_ild hx hb hK hP 1 0 rfl rfl hx_7 dX8_set_42 ?_
    refine lv_istore_n (lv' := [(3, .int x_7), (0, .ref (a0 0)), (1, .int y1), (2, .int y2)]) hx hb dX8_set_43 rfl hl (by decide) rfl (fun ls hl => ?_)
    refine lv_aload_n hx hb dX8_set_44 rfl (lv_at hl 1 rfl) ?_
    refine va_get (D := D) (ci := 7) (v := .ref (a0 1)) (C := RX8) (T := TX8) (N := 14) hx hb hts hiX8_set_X8 hown hK hP 0 rfl rfl 0 (by decide) (hts _ lkX8_set_7) (fun _ h9 => h9) rfl dX8_set_45 ?_
    refine lv_iconst (v := 1) hx hb dX8_set_48 (by decide) ?_
    refine lv_iload_n hx hb dX8_set_49 rfl (lv_at hl 2 rfl) ?_
    refine lv_iadd hx hb dX8_set_50 ?_
    refine lv_iload_n hx hb dX8_set_51 rfl (lv_at hl 3 rfl) ?_
    obtain ⟨f_8, hf_8, hv⟩ := qB hv
    refine m_ist hx hb hK hP hD hS 1 0 rfl rfl hf_8 dX8_set_52 (fun H locs hP hD hS => ?_)
    obtain ⟨M0s_9, hM0s_9, hv⟩ := qB hv
    obtain ⟨hP, hD⟩ := m_st (F := fun Z9 : FS => (wMod E a0 Z9)) (Option.some.inj hM0s_9) hP hD
    refine lv_iload_n hx hb dX8_set_53 rfl (lv_at hl 0 rfl) ?_
    exact m_ret (F := (fun (Z9 : FS) => (fun _ : Unit => (wMod E a0 Z9)))) () C dX8_set_54 hv hP hD hS
  · have hv := qT c_25_k_5 hv
    refine lv_bipush (v := -2) hx hb dX8_set_28 (by decide) ?_
    exact m_ret (F := (fun (Z9 : FS) => (fun _ : Unit => (wMod E a0 Z9)))) () C dX8_set_30 hv hP hD hS

set_option maxRecDepth 100000 in
set_option maxHeartbeats 4000000 in
theorem kX8_set (l : Launch) (D : va_G) (E : Nat → ClassId) (a0 : Nat → Nat) {M0 : FS} {x1 : Int32} {x2 : Int32} {v : Int32} {M09 : FS} (sz : Nat) (hv : fX8_set M0 x1 x2 = some (v, M09)) : MI l yX8_set wsX8_set (rmN 2 45) D E ((wMod E a0 M0)) sz [.ref (a0 0), .int x1, .int x2] v (fun _ : Unit => (wMod E a0 M09)) 0 0 := by
  refine MI.of (by decide) rfl (Nat.le_of_ble_eq_true rfl) ?_
  intro p e s m below meth c A H locs C hP hK hD hS hA ls hl
  have hl : lv_has ls 4 [(0, .ref (a0 0)), (1, .int x1), (2, .int x2)] := hl
  obtain ⟨hx, hb, hr, hml, hown, hlocks, hts⟩ := id C
  unfold fX8_set at hv
  refine lv_iload_n hx hb dX8_set_0 rfl (lv_at hl 1 rfl) ?_
  refine lv_iconst (v := 0) hx hb dX8_set_1 (by decide) ?_
  refine lv_iconst (v := 1) hx hb dX8_set_2 (by decide) ?_
  obtain ⟨r_1, hr_1, hv⟩ := qB hv
  refine q_S (As := [.int x1, .int (0:Int32), .int (1:Int32)]) (rest := []) hx hb hml hown hts hl.1 (kX8_in l D E  hr_1) zNo_mv (va_cwS 3 hts gX8_set_X8_in rfl rfl rfl (by decide +kernel) ⟨Nat.le_of_ble_eq_true rfl, Nat.le_of_ble_eq_true rfl⟩) (hP.sub (ws' := []) [] rfl) hK trivial rfl rfl (Nat.le_of_ble_eq_true rfl) dX8_set_3 ⟨Nat.zero_le _, Nat.zero_le _⟩ ?_
  refine lv_if_eq (tgt := 28) hx hb dX8_set_6 (by decide) (fun c_6_k_2 => ?_) (fun c_6_k_2 => ?_)
  · have hv := qT c_6_k_2 hv
    refine lv_bipush (v := -2) hx hb dX8_set_28 (by decide) ?_
    exact m_ret (F := (fun (Z9 : FS) => (fun _ : Unit => (wMod E a0 Z9)))) () C dX8_set_30 hv hP hD hS
  · have hv := qF c_6_k_2 hv
    refine lv_iload_n hx hb dX8_set_9 rfl (lv_at hl 2 rfl) ?_
    refine lv_iconst (v := 1) hx hb dX8_set_10 (by decide) ?_
    refine lv_iload_n hx hb dX8_set_11 rfl (lv_at hl 1 rfl) ?_
    refine lv_if_ne (tgt := 20) hx hb dX8_set_12 (by decide) (fun c_12_k_3 => ?_) (fun c_12_k_3 => ?_)
    · have hv := qF c_12_k_3 hv
      refine lv_bipush (v := 6) hx hb dX8_set_20 (by decide) ?_
      exact wfX8_set_L22 C hK hA  M0 x1 x2 (6:Int32) (1:Int32) x2 hv _ _ _ hP hD hS (lv_sub hl [0, 1, 2] rfl)
    · have hv := qT c_12_k_3 hv
      refine lv_bipush (v := 8) hx hb dX8_set_15 (by decide) ?_
      refine lv_goto (tgt := 22) hx hb dX8_set_17 (by decide) ?_
      exact wfX8_set_L22 C hK hA  M0 x1 x2 (8:Int32) (1:Int32) x2 hv _ _ _ hP hD hS (lv_sub hl [0, 1, 2] rfl)

theorem lkX8_point_7 : (.fieldLink RX8 7 "QuarterTilesModel" "now" "[I" : Cond) ∈ wsX8_point := by decide +kernel
theorem hiX8_point_X8 : ∀ w ∈ wsX80, w ∈ wsX8_point := by decide +kernel
set_option maxRecDepth 100000 in
set_option maxHeartbeats 4000000 in
theorem kX8_point (l : Launch) (D : va_G) (E : Nat → ClassId) (a0 : Nat → Nat) {M0 : FS} {x1 : Int32} {x2 : Int32} {v : Int32} {M09 : FS} (sz : Nat) (hv : fX8_point M0 x1 x2 = some (v, M09)) : MI l yX8_point wsX8_point (rmN 7 155) D E ((wMod E a0 M0)) sz [.ref (a0 0), .int x1, .int x2] v (fun _ : Unit => (wMod E a0 M09)) 0 0 := by
  refine MI.of (by decide) rfl (Nat.le_of_ble_eq_true rfl) ?_
  intro p e s m below meth c A H locs C hP hK hD hS hA ls hl
  have hl : lv_has ls 4 [(0, .ref (a0 0)), (1, .int x1), (2, .int x2)] := hl
  obtain ⟨hx, hb, hr, hml, hown, hlocks, hts⟩ := id C
  unfold fX8_point at hv
  refine lv_aload_n hx hb dX8_point_0 rfl (lv_at hl 0 rfl) ?_
  refine lv_iload_n hx hb dX8_point_1 rfl (lv_at hl 1 rfl) ?_
  refine lv_iload_n hx hb dX8_point_2 rfl (lv_at hl 2 rfl) ?_
  obtain ⟨r_1, hr_1, hv⟩ := qB hv
  refine q_V (As := [.int x1, .int x2]) (rest := []) (C := RX8) (T0 := TX8) (N0 := 14) (ci := 7) hx hb hml hown hts hl.1 (kX8_pointError l D E a0 hr_1) zNo_mv (cwV 2 hts gX8_point_X8_pointError rfl rfl rfl (by decide +kernel) ⟨Nat.le_of_ble_eq_true rfl, Nat.le_of_ble_eq_true rfl⟩) 0 rfl rfl (hP.sub (ws' := (wMod E a0 M0)) [0, 1, 2, 3, 4, 5, 6, 7, 8] rfl) hK trivial rfl rfl (Nat.le_of_ble_eq_true rfl) dX8_point_3 ⟨Nat.zero_le _, Nat.zero_le _⟩ ?_
  refine lv_istore_n (lv' := [(3, .int r_1), (0, .ref (a0 0)), (1, .int x1), (2, .int x2)]) hx hb dX8_point_6 rfl hl (by decide) rfl (fun ls hl => ?_)
  refine lv_iload_n hx hb dX8_point_7 rfl (lv_at hl 0 rfl) ?_
  refine lv_if_ge (tgt := 13) hx hb dX8_point_8 (by decide) (fun c_8_k_2 => ?_) (fun c_8_k_2 => ?_)
  · have hv := qT c_8_k_2 hv
    refine lv_aload_n hx hb dX8_point_13 rfl (lv_at hl 1 rfl) ?_
    obtain ⟨S_3, hS_3, hv⟩ := qB hv
    refine m_VV (As := []) (rest := []) (C := RX8) (T0 := TX8) (N0 := 14) (ci := 7) (Wn := (fun _ : Unit => (wMod E a0 S_3))) (Wr := []) hx hb hml hown hts hl.1 (kX8_records l D E a0 H.size hS_3) (cwV 0 hts gX8_point_X8_records rfl rfl rfl (by decide +kernel) ⟨Nat.le_of_ble_eq_true rfl, Nat.le_of_ble_eq_true rfl⟩) 0 rfl rfl hP hD hS hA hK [0, 1, 2, 3, 4, 5, 6, 7, 8] [] [0, 1, 2, 3, 4, 5, 6, 7, 8] (by decide) rfl rfl (by decide) (by decide) (by decide) (fun _ => rfl) rfl rfl (Nat.le_of_ble_eq_true rfl) dX8_point_14 ⟨Nat.le_of_ble_eq_true rfl, Nat.le_of_ble_eq_true rfl⟩ (fun _ H locs hP hD hS => ?_)
    refine lv_aload_n hx hb dX8_point_17 rfl (lv_at hl 1 rfl) ?_
    refine va_get (D := D) (ci := 7) (v := .ref (a0 1)) (C := RX8) (T := TX8) (N := 14) hx hb hts hiX8_point_X8 hown hK hP 0 rfl rfl 0 (by decide) (hts _ lkX8_point_7) (fun _ h9 => h9) rfl dX8_point_18 ?_
    refine lv_iload_n hx hb dX8_point_21 rfl (lv_at hl 2 rfl) ?_
    refine lv_iload_n hx hb dX8_point_22 rfl (lv_at hl 3 rfl) ?_
    obtain ⟨S_4, hS_4, hv⟩ := qB hv
    refine m_SV (As := [.ref (a0 1), .int x1, .int x2]) (rest := []) (Wn := (fun _ : Unit => (wMod E a0 (sr S_3 0 S_4)))) (Wr := [((a0 0), .inr (7, [.ref (a0 1), .ref (a0 2), .ref (a0 3), .int (S_3 8 0), .ref (a0 4), .ref (a0 5), .ref (a0 6), .int (S_3 8 1), .int (S_3 8 2), .int (S_3 8 3), .ref (a0 7), .int (S_3 8 4), .ref (a0 8), .int (S_3 8 5)])), aI E (a0 2) 116 (S_3 1), aI E (a0 3) 696 (S_3 2), aI E (a0 4) 232 (S_3 3), aZ E (a0 5) 2 (S_3 4), aI E (a0 6) 80 (S_3 5), aI E (a0 7) 7 (S_3 6), aI E (a0 8) 44 (S_3 7)]) hx hb hml hown hts hl.1 (kX8_comes l D E (a0 1) H.size hS_4) (va_cwS 3 hts gX8_point_X8_comes rfl rfl rfl (by decide +kernel) ⟨Nat.le_of_ble_eq_true rfl, Nat.le_of_ble_eq_true rfl⟩) hP hD hS hA hK [1] [0, 2, 3, 4, 5, 6, 7, 8] [0, 8, 1, 2, 3, 4, 5, 6, 7] (by decide) rfl rfl (by decide) (by decide) (by decide) (fun _ => rfl) rfl rfl (Nat.le_of_ble_eq_true rfl) dX8_point_23 ⟨Nat.le_of_ble_eq_true rfl, Nat.le_of_ble_eq_true rfl⟩ (fun _ H locs hP hD hS => ?_)
    obtain ⟨M0s_5, hM0s_5, hv⟩ := qB hv
    obtain ⟨hP, hD⟩ := m_st (F := fun Z9 : FS => (wMod E a0 Z9)) (Option.some.inj hM0s_5) hP hD
    refine lv_aload_n hx hb dX8_point_26 rfl (lv_at hl 1 rfl) ?_
    refine va_get (D := D) (ci := 7) (v := .ref (a0 1)) (C := RX8) (T := TX8) (N := 14) hx hb hts hiX8_point_X8 hown hK hP 0 rfl rfl 0 (by decide) (hts _ lkX8_point_7) (fun _ h9 => h9) rfl dX8_point_27 ?_
    obtain ⟨r_6, hr_6, hv⟩ := qB hv
    refine q_S (As := [.ref (a0 1)]) (rest := []) hx hb hml hown hts hl.1 (kX8_allLeaves l D E (a0 1) hr_6) zNo_mv (va_cwS 1 hts gX8_point_X8_allLeaves rfl rfl rfl (by decide +kernel) ⟨Nat.le_of_ble_eq_true rfl, Nat.le_of_ble_eq_true rfl⟩) (hP.sub (ws' := [aI E (a0 1) 116 (M0s_5 0)]) [1] rfl) hK trivial rfl rfl (Nat.le_of_ble_eq_true rfl) dX8_point_30 ⟨Nat.zero_le _, Nat.zero_le _⟩ ?_
    exact m_ret (F := (fun (Z9 : FS) => (fun _ : Unit => (wMod E a0 Z9)))) () C dX8_point_33 hv hP hD hS
  · have hv := qF c_8_k_2 hv
    refine lv_iload_n hx hb dX8_point_11 rfl (lv_at hl 0 rfl) ?_
    exact m_ret (F := (fun (Z9 : FS) => (fun _ : Unit => (wMod E a0 Z9)))) () C dX8_point_12 hv hP hD hS

theorem lkX8_take_7 : (.fieldLink RX8 7 "QuarterTilesModel" "now" "[I" : Cond) ∈ wsX8_take := by decide +kernel
theorem hiX8_take_X8 : ∀ w ∈ wsX80, w ∈ wsX8_take := by decide +kernel
set_option maxRecDepth 100000 in
set_option maxHeartbeats 4000000 in
theorem wfX8_take_L30 {p : Program} {e : Env} {s : State} {m : MethodId} {below : List Frame} {meth : Method} {c : Code} {l : Launch} {D : va_G} {E : Nat → ClassId} {a0 : Nat → Nat} {x1 : Int32} {v : Int32} {M09 : FS} {A : Nat → Prop} (C : Ctx p s m meth c [.ref (a0 0), .int x1] wsX8_take cX8_take 3 (some .int) RX8) (hK : va_K D vwCl (tyE E) s) (hA : ∀ q : Nat, s.heap.size ≤ q → A q) : ∀ (q : Nat) (M0 : FS) (y2 : Int32), fX8_take_L30 q M0 y2 = some (v, M09) → ∀ (H : Heap) (locs : List Loc) (ls : Array Slot), va_P D vwCl ((wMod E a0 M0)) H → va_D A ((wMod E a0 M0)) → va_S A s.heap H locs → lv_has ls 3 [(0, .ref (a0 0)), (2, .int y2)] → WI p l e (rmN 7 155) s m [.ref (a0 0), .int x1] below meth c D A v (fun _ : Unit => (wMod E a0 M09)) 0 0 H locs 0 0 30 ls [] := by
  obtain ⟨hx, hb, hr, hml, hown, hlocks, hts⟩ := id C
  intro q
  induction q with
  | zero =>
    intro M0 y2 hv
    cases hv
  | succ q ih =>
    intro M0 y2 hv H locs ls hP hD hS hl
    rw [fX8_take_L30.eq_2] at hv
    refine lv_iload_n hx hb dX8_take_30 rfl (lv_at hl 1 rfl) ?_
    refine lv_iconst (v := 4) hx hb dX8_take_31 (by decide) ?_
    refine lv_iconst (v := 2) hx hb dX8_take_32 (by decide) ?_
    refine lv_aload_n hx hb dX8_take_33 rfl (lv_at hl 0 rfl) ?_
    refine va_get (D := D) (ci := 7) (v := .ref (a0 1)) (C := RX8) (T := TX8) (N := 14) hx hb hts hiX8_take_X8 hown hK hP 0 rfl rfl 0 (by decide) (hts _ lkX8_take_7) (fun _ h9 => h9) rfl dX8_take_34 ?_
    refine lv_iconst (v := 0) hx hb dX8_take_37 (by decide) ?_
    refine q_ildc (f := (M0 0)) hx hb hK hP 1 0 rfl rfl 0 (by decide) (by unfold vp_in; decide) dX8_take_38 ?_
    refine lv_imul hx hb dX8_take_39 ?_
    refine lv_iadd hx hb dX8_take_40 ?_
    refine lv_icmp_ge (tgt := 64) hx hb dX8_take_41 (by decide) (fun c_41_k_6 => ?_) (fun c_41_k_6 => ?_)
    · have hv := qT c_41_k_6 hv
      refine lv_aload_n hx hb dX8_take_64 rfl (lv_at hl 0 rfl) ?_
      refine va_get (D := D) (ci := 7) (v := .ref (a0 1)) (C := RX8) (T := TX8) (N := 14) hx hb hts hiX8_take_X8 hown hK hP 0 rfl rfl 0 (by decide) (hts _ lkX8_take_7) (fun _ h9 => h9) rfl dX8_take_65 ?_
      refine lv_aload_n hx hb dX8_take_68 rfl (lv_at hl 0 rfl) ?_
      refine va_get (D := D) (ci := 7) (v := .ref (a0 1)) (C := RX8) (T := TX8) (N := 14) hx hb hts hiX8_take_X8 hown hK hP 0 rfl rfl 0 (by decide) (hts _ lkX8_take_7) (fun _ h9 => h9) rfl dX8_take_69 ?_
      refine lv_iconst (v := 0) hx hb dX8_take_72 (by decide) ?_
      refine q_ildc (f := (M0 0)) hx hb hK hP 1 0 rfl rfl 0 (by decide) (by unfold vp_in; decide) dX8_take_73 ?_
      refine lv_iconst (v := 0) hx hb dX8_take_74 (by decide) ?_
      refine lv_iconst (v := 0) hx hb dX8_take_75 (by decide) ?_
      obtain ⟨S_7, hS_7, hv⟩ := qB hv
      refine m_SV (As := [.ref (a0 1), .int ((M0 0) 0), .int (0:Int32), .int (0:Int32)]) (rest := []) (Wn := (fun _ : Unit => (wMod E a0 (sr M0 0 S_7)))) (Wr := [((a0 0), .inr (7, [.ref (a0 1), .ref (a0 2), .ref (a0 3), .int (M0 8 0), .ref (a0 4), .ref (a0 5), .ref (a0 6), .int (M0 8 1), .int (M0 8 2), .int (M0 8 3), .ref (a0 7), .int (M0 8 4), .ref (a0 8), .int (M0 8 5)])), aI E (a0 2) 116 (M0 1), aI E (a0 3) 696 (M0 2), aI E (a0 4) 232 (M0 3), aZ E (a0 5) 2 (M0 4), aI E (a0 6) 80 (M0 5), aI E (a0 7) 7 (M0 6), aI E (a0 8) 44 (M0 7)]) hx hb hml hown hts hl.1 (kX8_places l D E (a0 1) H.size hS_7) (va_cwS 4 hts gX8_take_X8_places rfl rfl rfl (by decide +kernel) ⟨Nat.le_of_ble_eq_true rfl, Nat.le_of_ble_eq_true rfl⟩) hP hD hS hA hK [1] [0, 2, 3, 4, 5, 6, 7, 8] [0, 8, 1, 2, 3, 4, 5, 6, 7] (by decide) rfl rfl (by decide) (by decide) (by decide) (fun _ => rfl) rfl rfl (Nat.le_of_ble_eq_true rfl) dX8_take_76 ⟨Nat.le_of_ble_eq_true rfl, Nat.le_of_ble_eq_true rfl⟩ (fun _ H locs hP hD hS => ?_)
      obtain ⟨M0s_8, hM0s_8, hv⟩ := qB hv
      obtain ⟨hP, hD⟩ := m_st (F := fun Z9 : FS => (wMod E a0 Z9)) (Option.some.inj hM0s_8) hP hD
      refine lv_aload_n hx hb dX8_take_79 rfl (lv_at hl 0 rfl) ?_
      refine va_get (D := D) (ci := 7) (v := .ref (a0 1)) (C := RX8) (T := TX8) (N := 14) hx hb hts hiX8_take_X8 hown hK hP 0 rfl rfl 0 (by decide) (hts _ lkX8_take_7) (fun _ h9 => h9) rfl dX8_take_80 ?_
      obtain ⟨r_9, hr_9, hv⟩ := qB hv
      refine q_S (As := [.ref (a0 1)]) (rest := []) hx hb hml hown hts hl.1 (kX8_allLeaves l D E (a0 1) hr_9) zNo_mv (va_cwS 1 hts gX8_take_X8_allLeaves rfl rfl rfl (by decide +kernel) ⟨Nat.le_of_ble_eq_true rfl, Nat.le_of_ble_eq_true rfl⟩) (hP.sub (ws' := [aI E (a0 1) 116 (M0s_8 0)]) [1] rfl) hK trivial rfl rfl (Nat.le_of_ble_eq_true rfl) dX8_take_83 ⟨Nat.zero_le _, Nat.zero_le _⟩ ?_
      exact m_ret (F := (fun (Z9 : FS) => (fun _ : Unit => (wMod E a0 Z9)))) () C dX8_take_86 hv hP hD hS
    · have hv := qF c_41_k_6 hv
      refine lv_aload_n hx hb dX8_take_44 rfl (lv_at hl 0 rfl) ?_
      refine va_get (D := D) (ci := 7) (v := .ref (a0 1)) (C := RX8) (T := TX8) (N := 14) hx hb hts hiX8_take_X8 hown hK hP 0 rfl rfl 0 (by decide) (hts _ lkX8_take_7) (fun _ h9 => h9) rfl dX8_take_45 ?_
      refine lv_iload_n hx hb dX8_take_48 rfl (lv_at hl 1 rfl) ?_
      refine lv_aload_n hx hb dX8_take_49 rfl (lv_at hl 0 rfl) ?_
      refine va_get (D := D) (ci := 7) (v := .ref (a0 1)) (C := RX8) (T := TX8) (N := 14) hx hb hts hiX8_take_X8 hown hK hP 0 rfl rfl 0 (by decide) (hts _ lkX8_take_7) (fun _ h9 => h9) rfl dX8_take_50 ?_
      refine lv_iload_n hx hb dX8_take_53 rfl (lv_at hl 1 rfl) ?_
      refine lv_iconst (v := 2) hx hb dX8_take_54 (by decide) ?_
      refine lv_iadd hx hb dX8_take_55 ?_
      obtain ⟨x_10, hx_10, hv⟩ := qB hv
      refine q_ild hx hb hK hP 1 0 rfl rfl hx_10 dX8_take_56 ?_
      obtain ⟨f_11, hf_11, hv⟩ := qB hv
      refine m_ist hx hb hK hP hD hS 1 0 rfl rfl hf_11 dX8_take_57 (fun H locs hP hD hS => ?_)
      obtain ⟨M0s_12, hM0s_12, hv⟩ := qB hv
      obtain ⟨hP, hD⟩ := m_st (F := fun Z9 : FS => (wMod E a0 Z9)) (Option.some.inj hM0s_12) hP hD
      refine lv_iinc (v := (y2 + 1)) (lv' := [(2, .int (y2 + 1)), (0, .ref (a0 0))]) hx hb dX8_take_58 hl (k := 1) rfl (by rfl) (by decide) rfl (fun ls hl => ?_)
      refine lv_goto (tgt := 30) hx hb dX8_take_61 (by decide) ?_
      exact ih M0s_12 (y2 + 1) hv _ _ _ hP hD hS (lv_sub hl [1, 0] rfl)

set_option maxRecDepth 100000 in
set_option maxHeartbeats 4000000 in
theorem kX8_take (l : Launch) (D : va_G) (E : Nat → ClassId) (a0 : Nat → Nat) {M0 : FS} {x1 : Int32} {v : Int32} {M09 : FS} (sz : Nat) (hv : fX8_take M0 x1 = some (v, M09)) : MI l yX8_take wsX8_take (rmN 7 155) D E ((wMod E a0 M0)) sz [.ref (a0 0), .int x1] v (fun _ : Unit => (wMod E a0 M09)) 0 0 := by
  refine MI.of (by decide) rfl (Nat.le_of_ble_eq_true rfl) ?_
  intro p e s m below meth c A H locs C hP hK hD hS hA ls hl
  have hl : lv_has ls 3 [(0, .ref (a0 0)), (1, .int x1)] := hl
  obtain ⟨hx, hb, hr, hml, hown, hlocks, hts⟩ := id C
  unfold fX8_take at hv
  refine lv_aload_n hx hb dX8_take_0 rfl (lv_at hl 0 rfl) ?_
  refine lv_iload_n hx hb dX8_take_1 rfl (lv_at hl 1 rfl) ?_
  obtain ⟨r_1, hr_1, hv⟩ := qB hv
  refine q_V (As := [.int x1]) (rest := []) (C := RX8) (T0 := TX8) (N0 := 14) (ci := 7) hx hb hml hown hts hl.1 (kX8_isPoint l D E a0 hr_1) zNo_mv (cwV 1 hts gX8_take_X8_isPoint rfl rfl rfl (by decide +kernel) ⟨Nat.le_of_ble_eq_true rfl, Nat.le_of_ble_eq_true rfl⟩) 0 rfl rfl (hP.sub (ws' := (wMod E a0 M0)) [0, 1, 2, 3, 4, 5, 6, 7, 8] rfl) hK trivial rfl rfl (Nat.le_of_ble_eq_true rfl) dX8_take_2 ⟨Nat.zero_le _, Nat.zero_le _⟩ ?_
  refine lv_if_ne (tgt := 10) hx hb dX8_take_5 (by decide) (fun c_5_k_2 => ?_) (fun c_5_k_2 => ?_)
  · have hv := qF c_5_k_2 hv
    refine lv_aload_n hx hb dX8_take_10 rfl (lv_at hl 0 rfl) ?_
    obtain ⟨S_3, hS_3, hv⟩ := qB hv
    refine m_VV (As := []) (rest := []) (C := RX8) (T0 := TX8) (N0 := 14) (ci := 7) (Wn := (fun _ : Unit => (wMod E a0 S_3))) (Wr := []) hx hb hml hown hts hl.1 (kX8_records l D E a0 H.size hS_3) (cwV 0 hts gX8_take_X8_records rfl rfl rfl (by decide +kernel) ⟨Nat.le_of_ble_eq_true rfl, Nat.le_of_ble_eq_true rfl⟩) 0 rfl rfl hP hD hS hA hK [0, 1, 2, 3, 4, 5, 6, 7, 8] [] [0, 1, 2, 3, 4, 5, 6, 7, 8] (by decide) rfl rfl (by decide) (by decide) (by decide) (fun _ => rfl) rfl rfl (Nat.le_of_ble_eq_true rfl) dX8_take_11 ⟨Nat.le_of_ble_eq_true rfl, Nat.le_of_ble_eq_true rfl⟩ (fun _ H locs hP hD hS => ?_)
    refine lv_aload_n hx hb dX8_take_14 rfl (lv_at hl 0 rfl) ?_
    refine va_get (D := D) (ci := 7) (v := .ref (a0 1)) (C := RX8) (T := TX8) (N := 14) hx hb hts hiX8_take_X8 hown hK hP 0 rfl rfl 0 (by decide) (hts _ lkX8_take_7) (fun _ h9 => h9) rfl dX8_take_15 ?_
    refine lv_iconst (v := 0) hx hb dX8_take_18 (by decide) ?_
    refine lv_dup2_11 hx hb dX8_take_19 rfl rfl ?_
    refine q_ildc (f := (S_3 0)) hx hb hK hP 1 0 rfl rfl 0 (by decide) (by unfold vp_in; decide) dX8_take_20 ?_
    refine lv_iconst (v := 1) hx hb dX8_take_21 (by decide) ?_
    refine lv_isub hx hb dX8_take_22 ?_
    obtain ⟨f_4, hf_4, hv⟩ := qB hv
    refine m_ist hx hb hK hP hD hS 1 0 rfl rfl hf_4 dX8_take_23 (fun H locs hP hD hS => ?_)
    obtain ⟨M0s_5, hM0s_5, hv⟩ := qB hv
    obtain ⟨hP, hD⟩ := m_st (F := fun Z9 : FS => (wMod E a0 Z9)) (Option.some.inj hM0s_5) hP hD
    refine lv_iconst (v := 4) hx hb dX8_take_24 (by decide) ?_
    refine lv_iconst (v := 2) hx hb dX8_take_25 (by decide) ?_
    refine lv_iload_n hx hb dX8_take_26 rfl (lv_at hl 1 rfl) ?_
    refine lv_imul hx hb dX8_take_27 ?_
    refine lv_iadd hx hb dX8_take_28 ?_
    refine lv_istore_n (lv' := [(2, .int ((4:Int32) + ((2:Int32) * x1))), (0, .ref (a0 0)), (1, .int x1)]) hx hb dX8_take_29 rfl hl (by decide) rfl (fun ls hl => ?_)
    exact wfX8_take_L30 C hK hA  6000 M0s_5 ((4:Int32) + ((2:Int32) * x1)) hv _ _ _ hP hD hS (lv_sub hl [1, 0] rfl)
  · have hv := qT c_5_k_2 hv
    refine lv_iconst (v := -1) hx hb dX8_take_8 (by decide) ?_
    exact m_ret (F := (fun (Z9 : FS) => (fun _ : Unit => (wMod E a0 Z9)))) () C dX8_take_9 hv hP hD hS

theorem lkX8_move_7 : (.fieldLink RX8 7 "QuarterTilesModel" "now" "[I" : Cond) ∈ wsX8_move := by decide +kernel
theorem hiX8_move_X8 : ∀ w ∈ wsX80, w ∈ wsX8_move := by decide +kernel
set_option maxRecDepth 100000 in
set_option maxHeartbeats 4000000 in
theorem wfX8_move_L45 {p : Program} {e : Env} {s : State} {m : MethodId} {below : List Frame} {meth : Method} {c : Code} {l : Launch} {D : va_G} {E : Nat → ClassId} {a0 : Nat → Nat} {x1 : Int32} {x2 : Int32} {x3 : Int32} {v : Int32} {M09 : FS} {A : Nat → Prop} (C : Ctx p s m meth c [.ref (a0 0), .int x1, .int x2, .int x3] wsX8_move cX8_move 5 (some .int) RX8) (hK : va_K D vwCl (tyE E) s) (hA : ∀ q : Nat, s.heap.size ≤ q → A q) : ∀ (M0 : FS) (y1 : Int32) (y2 : Int32) (y3 : Int32), fX8_move_L45 M0 y1 y2 y3 = some (v, M09) → ∀ (H : Heap) (locs : List Loc) (ls : Array Slot), va_P D vwCl ((wMod E a0 M0)) H → va_D A ((wMod E a0 M0)) → va_S A s.heap H locs → lv_has ls 5 [(0, .ref (a0 0)), (1, .int y1), (2, .int y2), (3, .int y3)] → WI p l e (rmN 7 155) s m [.ref (a0 0), .int x1, .int x2, .int x3] below meth c D A v (fun _ : Unit => (wMod E a0 M09)) 0 0 H locs 0 0 45 ls [] := by
  obtain ⟨hx, hb, hr, hml, hown, hlocks, hts⟩ := id C
  intro M0 y1 y2 y3 hv H locs ls hP hD hS hl
  unfold fX8_move_L45 at hv
  refine lv_aload_n hx hb dX8_move_45 rfl (lv_at hl 0 rfl) ?_
  obtain ⟨S_7, hS_7, hv⟩ := qB hv
  refine m_VV (As := []) (rest := []) (C := RX8) (T0 := TX8) (N0 := 14) (ci := 7) (Wn := (fun _ : Unit => (wMod E a0 S_7))) (Wr := []) hx hb hml hown hts hl.1 (kX8_records l D E a0 H.size hS_7) (cwV 0 hts gX8_move_X8_records rfl rfl rfl (by decide +kernel) ⟨Nat.le_of_ble_eq_true rfl, Nat.le_of_ble_eq_true rfl⟩) 0 rfl rfl hP hD hS hA hK [0, 1, 2, 3, 4, 5, 6, 7, 8] [] [0, 1, 2, 3, 4, 5, 6, 7, 8] (by decide) rfl rfl (by decide) (by decide) (by decide) (fun _ => rfl) rfl rfl (Nat.le_of_ble_eq_true rfl) dX8_move_46 ⟨Nat.le_of_ble_eq_true rfl, Nat.le_of_ble_eq_true rfl⟩ (fun _ H locs hP hD hS => ?_)
  refine lv_aload_n hx hb dX8_move_49 rfl (lv_at hl 0 rfl) ?_
  refine va_get (D := D) (ci := 7) (v := .ref (a0 1)) (C := RX8) (T := TX8) (N := 14) hx hb hts hiX8_move_X8 hown hK hP 0 rfl rfl 0 (by decide) (hts _ lkX8_move_7) (fun _ h9 => h9) rfl dX8_move_50 ?_
  refine lv_iload_n hx hb dX8_move_53 rfl (lv_at hl 1 rfl) ?_
  refine lv_iload_n hx hb dX8_move_54 rfl (lv_at hl 2 rfl) ?_
  refine lv_iload_n hx hb dX8_move_55 rfl (lv_at hl 3 rfl) ?_
  obtain ⟨S_8, hS_8, hv⟩ := qB hv
  refine m_SV (As := [.ref (a0 1), .int y1, .int y2, .int y3]) (rest := []) (Wn := (fun _ : Unit => (wMod E a0 (sr S_7 0 S_8)))) (Wr := [((a0 0), .inr (7, [.ref (a0 1), .ref (a0 2), .ref (a0 3), .int (S_7 8 0), .ref (a0 4), .ref (a0 5), .ref (a0 6), .int (S_7 8 1), .int (S_7 8 2), .int (S_7 8 3), .ref (a0 7), .int (S_7 8 4), .ref (a0 8), .int (S_7 8 5)])), aI E (a0 2) 116 (S_7 1), aI E (a0 3) 696 (S_7 2), aI E (a0 4) 232 (S_7 3), aZ E (a0 5) 2 (S_7 4), aI E (a0 6) 80 (S_7 5), aI E (a0 7) 7 (S_7 6), aI E (a0 8) 44 (S_7 7)]) hx hb hml hown hts hl.1 (kX8_places l D E (a0 1) H.size hS_8) (va_cwS 4 hts gX8_move_X8_places rfl rfl rfl (by decide +kernel) ⟨Nat.le_of_ble_eq_true rfl, Nat.le_of_ble_eq_true rfl⟩) hP hD hS hA hK [1] [0, 2, 3, 4, 5, 6, 7, 8] [0, 8, 1, 2, 3, 4, 5, 6, 7] (by decide) rfl rfl (by decide) (by decide) (by decide) (fun _ => rfl) rfl rfl (Nat.le_of_ble_eq_true rfl) dX8_move_56 ⟨Nat.le_of_ble_eq_true rfl, Nat.le_of_ble_eq_true rfl⟩ (fun _ H locs hP hD hS => ?_)
  obtain ⟨M0s_9, hM0s_9, hv⟩ := qB hv
  obtain ⟨hP, hD⟩ := m_st (F := fun Z9 : FS => (wMod E a0 Z9)) (Option.some.inj hM0s_9) hP hD
  refine lv_aload_n hx hb dX8_move_59 rfl (lv_at hl 0 rfl) ?_
  refine va_get (D := D) (ci := 7) (v := .ref (a0 1)) (C := RX8) (T := TX8) (N := 14) hx hb hts hiX8_move_X8 hown hK hP 0 rfl rfl 0 (by decide) (hts _ lkX8_move_7) (fun _ h9 => h9) rfl dX8_move_60 ?_
  obtain ⟨r_10, hr_10, hv⟩ := qB hv
  refine q_S (As := [.ref (a0 1)]) (rest := []) hx hb hml hown hts hl.1 (kX8_allLeaves l D E (a0 1) hr_10) zNo_mv (va_cwS 1 hts gX8_move_X8_allLeaves rfl rfl rfl (by decide +kernel) ⟨Nat.le_of_ble_eq_true rfl, Nat.le_of_ble_eq_true rfl⟩) (hP.sub (ws' := [aI E (a0 1) 116 (M0s_9 0)]) [1] rfl) hK trivial rfl rfl (Nat.le_of_ble_eq_true rfl) dX8_move_63 ⟨Nat.zero_le _, Nat.zero_le _⟩ ?_
  exact m_ret (F := (fun (Z9 : FS) => (fun _ : Unit => (wMod E a0 Z9)))) () C dX8_move_66 hv hP hD hS

set_option maxRecDepth 100000 in
set_option maxHeartbeats 4000000 in
theorem kX8_move (l : Launch) (D : va_G) (E : Nat → ClassId) (a0 : Nat → Nat) {M0 : FS} {x1 : Int32} {x2 : Int32} {x3 : Int32} {v : Int32} {M09 : FS} (sz : Nat) (hv : fX8_move M0 x1 x2 x3 = some (v, M09)) : MI l yX8_move wsX8_move (rmN 7 155) D E ((wMod E a0 M0)) sz [.ref (a0 0), .int x1, .int x2, .int x3] v (fun _ : Unit => (wMod E a0 M09)) 0 0 := by
  refine MI.of (by decide) rfl (Nat.le_of_ble_eq_true rfl) ?_
  intro p e s m below meth c A H locs C hP hK hD hS hA ls hl
  have hl : lv_has ls 5 [(0, .ref (a0 0)), (1, .int x1), (2, .int x2), (3, .int x3)] := hl
  obtain ⟨hx, hb, hr, hml, hown, hlocks, hts⟩ := id C
  unfold fX8_move at hv
  refine lv_aload_n hx hb dX8_move_0 rfl (lv_at hl 0 rfl) ?_
  refine lv_iload_n hx hb dX8_move_1 rfl (lv_at hl 1 rfl) ?_
  obtain ⟨r_1, hr_1, hv⟩ := qB hv
  refine q_V (As := [.int x1]) (rest := []) (C := RX8) (T0 := TX8) (N0 := 14) (ci := 7) hx hb hml hown hts hl.1 (kX8_isPoint l D E a0 hr_1) zNo_mv (cwV 1 hts gX8_move_X8_isPoint rfl rfl rfl (by decide +kernel) ⟨Nat.le_of_ble_eq_true rfl, Nat.le_of_ble_eq_true rfl⟩) 0 rfl rfl (hP.sub (ws' := (wMod E a0 M0)) [0, 1, 2, 3, 4, 5, 6, 7, 8] rfl) hK trivial rfl rfl (Nat.le_of_ble_eq_true rfl) dX8_move_2 ⟨Nat.zero_le _, Nat.zero_le _⟩ ?_
  refine lv_if_eq (tgt := 16) hx hb dX8_move_5 (by decide) (fun c_5_k_2 => ?_) (fun c_5_k_2 => ?_)
  · have hv := qT c_5_k_2 hv
    refine lv_iconst (v := -1) hx hb dX8_move_16 (by decide) ?_
    exact m_ret (F := (fun (Z9 : FS) => (fun _ : Unit => (wMod E a0 Z9)))) () C dX8_move_17 hv hP hD hS
  · have hv := qF c_5_k_2 hv
    refine lv_iload_n hx hb dX8_move_8 rfl (lv_at hl 2 rfl) ?_
    refine lv_iload_n hx hb dX8_move_9 rfl (lv_at hl 3 rfl) ?_
    obtain ⟨r_3, hr_3, hv⟩ := qB hv
    refine q_S (As := [.int x2, .int x3]) (rest := []) hx hb hml hown hts hl.1 (kX8_isPlace l D E  hr_3) zNo_mv (va_cwS 2 hts gX8_move_X8_isPlace rfl rfl rfl (by decide +kernel) ⟨Nat.le_of_ble_eq_true rfl, Nat.le_of_ble_eq_true rfl⟩) (hP.sub (ws' := []) [] rfl) hK trivial rfl rfl (Nat.le_of_ble_eq_true rfl) dX8_move_10 ⟨Nat.zero_le _, Nat.zero_le _⟩ ?_
    refine lv_if_ne (tgt := 18) hx hb dX8_move_13 (by decide) (fun c_13_k_4 => ?_) (fun c_13_k_4 => ?_)
    · have hv := qF c_13_k_4 hv
      refine lv_aload_n hx hb dX8_move_18 rfl (lv_at hl 0 rfl) ?_
      refine va_get (D := D) (ci := 7) (v := .ref (a0 1)) (C := RX8) (T := TX8) (N := 14) hx hb hts hiX8_move_X8 hown hK hP 0 rfl rfl 0 (by decide) (hts _ lkX8_move_7) (fun _ h9 => h9) rfl dX8_move_19 ?_
      refine lv_iload_n hx hb dX8_move_22 rfl (lv_at hl 2 rfl) ?_
      refine lv_iload_n hx hb dX8_move_23 rfl (lv_at hl 3 rfl) ?_
      obtain ⟨r_5, hr_5, hv⟩ := qB hv
      refine q_S (As := [.ref (a0 1), .int x2, .int x3]) (rest := []) hx hb hml hown hts hl.1 (kX8_pointAt l D E (a0 1) hr_5) zNo_mv (va_cwS 3 hts gX8_move_X8_pointAt rfl rfl rfl (by decide +kernel) ⟨Nat.le_of_ble_eq_true rfl, Nat.le_of_ble_eq_true rfl⟩) (hP.sub (ws' := [aI E (a0 1) 116 (M0 0)]) [1] rfl) hK trivial rfl rfl (Nat.le_of_ble_eq_true rfl) dX8_move_24 ⟨Nat.zero_le _, Nat.zero_le _⟩ ?_
      refine lv_istore (lv' := [(4, .int r_5), (0, .ref (a0 0)), (1, .int x1), (2, .int x2), (3, .int x3)]) hx hb dX8_move_27 hl (by decide) rfl (fun ls hl => ?_)
      refine lv_iload hx hb dX8_move_29 (lv_at hl 0 rfl) ?_
      refine lv_bipush (v := -6) hx hb dX8_move_31 (by decide) ?_
      refine lv_icmp_eq (tgt := 45) hx hb dX8_move_33 (by decide) (fun c_33_k_6 => ?_) (fun c_33_k_6 => ?_)
      · have hv := qT c_33_k_6 hv
        exact wfX8_move_L45 C hK hA  M0 x1 x2 x3 hv _ _ _ hP hD hS (lv_sub hl [1, 2, 3, 4] rfl)
      · have hv := qF c_33_k_6 hv
        refine lv_iload hx hb dX8_move_36 (lv_at hl 0 rfl) ?_
        refine lv_iload_n hx hb dX8_move_38 rfl (lv_at hl 2 rfl) ?_
        refine lv_icmp_eq (tgt := 45) hx hb dX8_move_39 (by decide) (fun c_39_k_11 => ?_) (fun c_39_k_11 => ?_)
        · have hv := qT c_39_k_11 hv
          exact wfX8_move_L45 C hK hA  M0 x1 x2 x3 hv _ _ _ hP hD hS (lv_sub hl [1, 2, 3, 4] rfl)
        · have hv := qF c_39_k_11 hv
          refine lv_bipush (v := -5) hx hb dX8_move_42 (by decide) ?_
          exact m_ret (F := (fun (Z9 : FS) => (fun _ : Unit => (wMod E a0 Z9)))) () C dX8_move_44 hv hP hD hS
    · have hv := qT c_13_k_4 hv
      refine lv_iconst (v := -1) hx hb dX8_move_16 (by decide) ?_
      exact m_ret (F := (fun (Z9 : FS) => (fun _ : Unit => (wMod E a0 Z9)))) () C dX8_move_17 hv hP hD hS

theorem lkX8_forgets_7 : (.fieldLink RX8 7 "QuarterTilesModel" "now" "[I" : Cond) ∈ wsX8_forgets := by decide +kernel
theorem hiX8_forgets_X8 : ∀ w ∈ wsX80, w ∈ wsX8_forgets := by decide +kernel
set_option maxRecDepth 100000 in
set_option maxHeartbeats 4000000 in
theorem wfX8_forgets_L4 {p : Program} {e : Env} {s : State} {m : MethodId} {below : List Frame} {meth : Method} {c : Code} {l : Launch} {D : va_G} {E : Nat → ClassId} {a0 : Nat → Nat} {x1 : Int32} {M09 : FS} {A : Nat → Prop} {y1 : Int32} (C : Ctx p s m meth c [.ref (a0 0), .int x1] wsX8_forgets cX8_forgets 5 none RX8) (hK : va_K D vwCl (tyE E) s) (hA : ∀ q : Nat, s.heap.size ≤ q → A q) : ∀ (q : Nat) (M0 : FS) (y2 : Int32) (y3 : Int32), fX8_forgets_L4 y1 q M0 y2 y3 = some (M09) → ∀ (H : Heap) (locs : List Loc) (ls : Array Slot), va_P D vwCl ((wMod E a0 M0)) H → va_D A ((wMod E a0 M0)) → va_S A s.heap H locs → lv_has ls 5 [(0, .ref (a0 0)), (1, .int y1), (2, .int y2), (3, .int y3)] → WV p l e (rmN 0 0) s m [.ref (a0 0), .int x1] below meth c D A (fun _ : Unit => (wMod E a0 M09)) 0 0 H locs 0 0 4 ls [] := by
  obtain ⟨hx, hb, hr, hml, hown, hlocks, hts⟩ := id C
  intro q
  induction q with
  | zero =>
    intro M0 y2 y3 hv
    cases hv
  | succ q ih =>
    intro M0 y2 y3 hv H locs ls hP hD hS hl
    rw [fX8_forgets_L4.eq_2] at hv
    refine lv_iload_n hx hb dX8_forgets_4 rfl (lv_at hl 3 rfl) ?_
    refine lv_aload_n hx hb dX8_forgets_5 rfl (lv_at hl 0 rfl) ?_
    refine va_get (D := D) (ci := 7) (v := .ref (a0 1)) (C := RX8) (T := TX8) (N := 14) hx hb hts hiX8_forgets_X8 hown hK hP 0 rfl rfl 0 (by decide) (hts _ lkX8_forgets_7) (fun _ h9 => h9) rfl dX8_forgets_6 ?_
    refine lv_iconst (v := 3) hx hb dX8_forgets_9 (by decide) ?_
    refine q_ildc (f := (M0 0)) hx hb hK hP 1 0 rfl rfl 3 (by decide) (by unfold vp_in; decide) dX8_forgets_10 ?_
    refine lv_icmp_ge (tgt := 61) hx hb dX8_forgets_11 (by decide) (fun c_11_k_1 => ?_) (fun c_11_k_1 => ?_)
    · have hv := qT c_11_k_1 hv
      refine lv_aload_n hx hb dX8_forgets_61 rfl (lv_at hl 0 rfl) ?_
      refine va_get (D := D) (ci := 7) (v := .ref (a0 1)) (C := RX8) (T := TX8) (N := 14) hx hb hts hiX8_forgets_X8 hown hK hP 0 rfl rfl 0 (by decide) (hts _ lkX8_forgets_7) (fun _ h9 => h9) rfl dX8_forgets_62 ?_
      refine lv_iconst (v := 3) hx hb dX8_forgets_65 (by decide) ?_
      refine lv_iload_n hx hb dX8_forgets_66 rfl (lv_at hl 2 rfl) ?_
      obtain ⟨f_2, hf_2, hv⟩ := qB hv
      refine m_ist hx hb hK hP hD hS 1 0 rfl rfl hf_2 dX8_forgets_67 (fun H locs hP hD hS => ?_)
      obtain ⟨M0s_3, hM0s_3, hv⟩ := qB hv
      obtain ⟨hP, hD⟩ := m_st (F := fun Z9 : FS => (wMod E a0 Z9)) (Option.some.inj hM0s_3) hP hD
      exact m_retv (F := (fun (Z9 : FS) => (fun _ : Unit => (wMod E a0 Z9)))) () C dX8_forgets_68 hv hP hD hS
    · have hv := qF c_11_k_1 hv
      refine lv_aload_n hx hb dX8_forgets_14 rfl (lv_at hl 0 rfl) ?_
      refine va_get (D := D) (ci := 7) (v := .ref (a0 1)) (C := RX8) (T := TX8) (N := 14) hx hb hts hiX8_forgets_X8 hown hK hP 0 rfl rfl 0 (by decide) (hts _ lkX8_forgets_7) (fun _ h9 => h9) rfl dX8_forgets_15 ?_
      refine lv_bipush (v := 104) hx hb dX8_forgets_18 (by decide) ?_
      refine lv_iload_n hx hb dX8_forgets_20 rfl (lv_at hl 3 rfl) ?_
      refine lv_iadd hx hb dX8_forgets_21 ?_
      obtain ⟨x_4, hx_4, hv⟩ := qB hv
      refine q_ild hx hb hK hP 1 0 rfl rfl hx_4 dX8_forgets_22 ?_
      refine lv_istore (lv' := [(4, .int x_4), (0, .ref (a0 0)), (1, .int y1), (2, .int y2), (3, .int y3)]) hx hb dX8_forgets_23 hl (by decide) rfl (fun ls hl => ?_)
      refine lv_aload_n hx hb dX8_forgets_25 rfl (lv_at hl 1 rfl) ?_
      refine va_get (D := D) (ci := 7) (v := .ref (a0 1)) (C := RX8) (T := TX8) (N := 14) hx hb hts hiX8_forgets_X8 hown hK hP 0 rfl rfl 0 (by decide) (hts _ lkX8_forgets_7) (fun _ h9 => h9) rfl dX8_forgets_26 ?_
      refine lv_bipush (v := 104) hx hb dX8_forgets_29 (by decide) ?_
      refine lv_iload_n hx hb dX8_forgets_31 rfl (lv_at hl 4 rfl) ?_
      refine lv_iadd hx hb dX8_forgets_32 ?_
      refine lv_iconst (v := 0) hx hb dX8_forgets_33 (by decide) ?_
      obtain ⟨f_5, hf_5, hv⟩ := qB hv
      refine m_ist hx hb hK hP hD hS 1 0 rfl rfl hf_5 dX8_forgets_34 (fun H locs hP hD hS => ?_)
      obtain ⟨M0s_6, hM0s_6, hv⟩ := qB hv
      obtain ⟨hP, hD⟩ := m_st (F := fun Z9 : FS => (wMod E a0 Z9)) (Option.some.inj hM0s_6) hP hD
      refine lv_iload hx hb dX8_forgets_35 (lv_at hl 0 rfl) ?_
      refine lv_iload_n hx hb dX8_forgets_37 rfl (lv_at hl 2 rfl) ?_
      refine lv_icmp_eq (tgt := 55) hx hb dX8_forgets_38 (by decide) (fun c_38_k_7 => ?_) (fun c_38_k_7 => ?_)
      · have hv := qT c_38_k_7 hv
        refine lv_iinc (v := (y3 + 1)) (lv' := [(3, .int (y3 + 1)), (4, .int x_4), (0, .ref (a0 0)), (1, .int y1), (2, .int y2)]) hx hb dX8_forgets_55 hl (k := 4) rfl (by rfl) (by decide) rfl (fun ls hl => ?_)
        refine lv_goto (tgt := 4) hx hb dX8_forgets_58 (by decide) ?_
        exact ih M0s_6 y2 (y3 + 1) hv _ _ _ hP hD hS (lv_sub hl [2, 3, 4, 0] rfl)
      · have hv := qF c_38_k_7 hv
        refine lv_aload_n hx hb dX8_forgets_41 rfl (lv_at hl 1 rfl) ?_
        refine va_get (D := D) (ci := 7) (v := .ref (a0 1)) (C := RX8) (T := TX8) (N := 14) hx hb hts hiX8_forgets_X8 hown hK hP 0 rfl rfl 0 (by decide) (hts _ lkX8_forgets_7) (fun _ h9 => h9) rfl dX8_forgets_42 ?_
        refine lv_bipush (v := 104) hx hb dX8_forgets_45 (by decide) ?_
        refine lv_iload_n hx hb dX8_forgets_47 rfl (lv_at hl 3 rfl) ?_
        refine lv_iadd hx hb dX8_forgets_48 ?_
        refine lv_iload hx hb dX8_forgets_49 (lv_at hl 0 rfl) ?_
        obtain ⟨f_8, hf_8, hv⟩ := qB hv
        refine m_ist hx hb hK hP hD hS 1 0 rfl rfl hf_8 dX8_forgets_51 (fun H locs hP hD hS => ?_)
        obtain ⟨M0s_9, hM0s_9, hv⟩ := qB hv
        obtain ⟨hP, hD⟩ := m_st (F := fun Z9 : FS => (wMod E a0 Z9)) (Option.some.inj hM0s_9) hP hD
        refine lv_iinc (v := (y2 + 1)) (lv' := [(2, .int (y2 + 1)), (4, .int x_4), (0, .ref (a0 0)), (1, .int y1), (3, .int y3)]) hx hb dX8_forgets_52 hl (k := 3) rfl (by rfl) (by decide) rfl (fun ls hl => ?_)
        refine lv_iinc (v := (y3 + 1)) (lv' := [(3, .int (y3 + 1)), (2, .int (y2 + 1)), (4, .int x_4), (0, .ref (a0 0)), (1, .int y1)]) hx hb dX8_forgets_55 hl (k := 4) rfl (by rfl) (by decide) rfl (fun ls hl => ?_)
        refine lv_goto (tgt := 4) hx hb dX8_forgets_58 (by decide) ?_
        exact ih M0s_9 (y2 + 1) (y3 + 1) hv _ _ _ hP hD hS (lv_sub hl [3, 4, 1, 0] rfl)

set_option maxRecDepth 100000 in
set_option maxHeartbeats 4000000 in
theorem kX8_forgets (l : Launch) (D : va_G) (E : Nat → ClassId) (a0 : Nat → Nat) {M0 : FS} {x1 : Int32} {M09 : FS} (sz : Nat) (hv : fX8_forgets M0 x1 = some (M09)) : MV l yX8_forgets wsX8_forgets (rmN 0 0) D E ((wMod E a0 M0)) sz [.ref (a0 0), .int x1] (fun _ : Unit => (wMod E a0 M09)) 0 0 := by
  refine MV.of (by decide) rfl (Nat.le_of_ble_eq_true rfl) ?_
  intro p e s m below meth c A H locs C hP hK hD hS hA ls hl
  have hl : lv_has ls 5 [(0, .ref (a0 0)), (1, .int x1)] := hl
  obtain ⟨hx, hb, hr, hml, hown, hlocks, hts⟩ := id C
  unfold fX8_forgets at hv
  refine lv_iconst (v := 0) hx hb dX8_forgets_0 (by decide) ?_
  refine lv_istore_n (lv' := [(2, .int (0:Int32)), (0, .ref (a0 0)), (1, .int x1)]) hx hb dX8_forgets_1 rfl hl (by decide) rfl (fun ls hl => ?_)
  refine lv_iconst (v := 0) hx hb dX8_forgets_2 (by decide) ?_
  refine lv_istore_n (lv' := [(3, .int (0:Int32)), (2, .int (0:Int32)), (0, .ref (a0 0)), (1, .int x1)]) hx hb dX8_forgets_3 rfl hl (by decide) rfl (fun ls hl => ?_)
  exact wfX8_forgets_L4 C hK hA  6000 M0 (0:Int32) (0:Int32) hv _ _ _ hP hD hS (lv_sub hl [2, 3, 1, 0] rfl)

theorem lkX8_split_7 : (.fieldLink RX8 7 "QuarterTilesModel" "now" "[I" : Cond) ∈ wsX8_split := by decide +kernel
theorem hiX8_split_X8 : ∀ w ∈ wsX80, w ∈ wsX8_split := by decide +kernel
set_option maxRecDepth 100000 in
set_option maxHeartbeats 4000000 in
theorem wfX8_split_L51 {p : Program} {e : Env} {s : State} {m : MethodId} {below : List Frame} {meth : Method} {c : Code} {l : Launch} {D : va_G} {E : Nat → ClassId} {a0 : Nat → Nat} {x1 : Int32} {x2 : Int32} {v : Int32} {M09 : FS} {A : Nat → Prop} (C : Ctx p s m meth c [.ref (a0 0), .int x1, .int x2] wsX8_split cX8_split 3 (some .int) RX8) (hK : va_K D vwCl (tyE E) s) (hA : ∀ q : Nat, s.heap.size ≤ q → A q) : ∀ (M0 : FS) (y1 : Int32) (y2 : Int32), fX8_split_L51 M0 y1 y2 = some (v, M09) → ∀ (H : Heap) (locs : List Loc) (ls : Array Slot), va_P D vwCl ((wMod E a0 M0)) H → va_D A ((wMod E a0 M0)) → va_S A s.heap H locs → lv_has ls 3 [(0, .ref (a0 0)), (1, .int y1), (2, .int y2)] → WI p l e (rmN 7 155) s m [.ref (a0 0), .int x1, .int x2] below meth c D A v (fun _ : Unit => (wMod E a0 M09)) 0 0 H locs 0 0 51 ls [] := by
  obtain ⟨hx, hb, hr, hml, hown, hlocks, hts⟩ := id C
  intro M0 y1 y2 hv H locs ls hP hD hS hl
  unfold fX8_split_L51 at hv
  refine lv_aload_n hx hb dX8_split_51 rfl (lv_at hl 0 rfl) ?_
  obtain ⟨S_8, hS_8, hv⟩ := qB hv
  refine m_VV (As := []) (rest := []) (C := RX8) (T0 := TX8) (N0 := 14) (ci := 7) (Wn := (fun _ : Unit => (wMod E a0 S_8))) (Wr := []) hx hb hml hown hts hl.1 (kX8_records l D E a0 H.size hS_8) (cwV 0 hts gX8_split_X8_records rfl rfl rfl (by decide +kernel) ⟨Nat.le_of_ble_eq_true rfl, Nat.le_of_ble_eq_true rfl⟩) 0 rfl rfl hP hD hS hA hK [0, 1, 2, 3, 4, 5, 6, 7, 8] [] [0, 1, 2, 3, 4, 5, 6, 7, 8] (by decide) rfl rfl (by decide) (by decide) (by decide) (fun _ => rfl) rfl rfl (Nat.le_of_ble_eq_true rfl) dX8_split_52 ⟨Nat.le_of_ble_eq_true rfl, Nat.le_of_ble_eq_true rfl⟩ (fun _ H locs hP hD hS => ?_)
  refine lv_iload_n hx hb dX8_split_55 rfl (lv_at hl 2 rfl) ?_
  refine lv_if_eq (tgt := 87) hx hb dX8_split_56 (by decide) (fun c_56_k_9 => ?_) (fun c_56_k_9 => ?_)
  · have hv := qT c_56_k_9 hv
    refine lv_aload_n hx hb dX8_split_87 rfl (lv_at hl 0 rfl) ?_
    refine lv_iload_n hx hb dX8_split_88 rfl (lv_at hl 1 rfl) ?_
    obtain ⟨S_10, hS_10, hv⟩ := qB hv
    refine m_VV (As := [.int y1]) (rest := []) (C := RX8) (T0 := TX8) (N0 := 14) (ci := 7) (Wn := (fun _ : Unit => (wMod E a0 S_10))) (Wr := []) hx hb hml hown hts hl.1 (kX8_forgets l D E a0 H.size hS_10) (cwV 1 hts gX8_split_X8_forgets rfl rfl rfl (by decide +kernel) ⟨Nat.le_of_ble_eq_true rfl, Nat.le_of_ble_eq_true rfl⟩) 0 rfl rfl hP hD hS hA hK [0, 1, 2, 3, 4, 5, 6, 7, 8] [] [0, 1, 2, 3, 4, 5, 6, 7, 8] (by decide) rfl rfl (by decide) (by decide) (by decide) (fun _ => rfl) rfl rfl (Nat.le_of_ble_eq_true rfl) dX8_split_89 ⟨Nat.le_of_ble_eq_true rfl, Nat.le_of_ble_eq_true rfl⟩ (fun _ H locs hP hD hS => ?_)
    refine lv_aload_n hx hb dX8_split_92 rfl (lv_at hl 0 rfl) ?_
    refine va_get (D := D) (ci := 7) (v := .ref (a0 1)) (C := RX8) (T := TX8) (N := 14) hx hb hts hiX8_split_X8 hown hK hP 0 rfl rfl 0 (by decide) (hts _ lkX8_split_7) (fun _ h9 => h9) rfl dX8_split_93 ?_
    obtain ⟨r_11, hr_11, hv⟩ := qB hv
    refine q_S (As := [.ref (a0 1)]) (rest := []) hx hb hml hown hts hl.1 (kX8_allLeaves l D E (a0 1) hr_11) zNo_mv (va_cwS 1 hts gX8_split_X8_allLeaves rfl rfl rfl (by decide +kernel) ⟨Nat.le_of_ble_eq_true rfl, Nat.le_of_ble_eq_true rfl⟩) (hP.sub (ws' := [aI E (a0 1) 116 (S_10 0)]) [1] rfl) hK trivial rfl rfl (Nat.le_of_ble_eq_true rfl) dX8_split_96 ⟨Nat.zero_le _, Nat.zero_le _⟩ ?_
    exact m_ret (F := (fun (Z9 : FS) => (fun _ : Unit => (wMod E a0 Z9)))) () C dX8_split_99 hv hP hD hS
  · have hv := qF c_56_k_9 hv
    refine lv_aload_n hx hb dX8_split_59 rfl (lv_at hl 0 rfl) ?_
    refine va_get (D := D) (ci := 7) (v := .ref (a0 1)) (C := RX8) (T := TX8) (N := 14) hx hb hts hiX8_split_X8 hown hK hP 0 rfl rfl 0 (by decide) (hts _ lkX8_split_7) (fun _ h9 => h9) rfl dX8_split_60 ?_
    refine lv_bipush (v := 104) hx hb dX8_split_63 (by decide) ?_
    refine lv_aload_n hx hb dX8_split_65 rfl (lv_at hl 0 rfl) ?_
    refine va_get (D := D) (ci := 7) (v := .ref (a0 1)) (C := RX8) (T := TX8) (N := 14) hx hb hts hiX8_split_X8 hown hK hP 0 rfl rfl 0 (by decide) (hts _ lkX8_split_7) (fun _ h9 => h9) rfl dX8_split_66 ?_
    refine lv_iconst (v := 3) hx hb dX8_split_69 (by decide) ?_
    refine q_ildc (f := (S_8 0)) hx hb hK hP 1 0 rfl rfl 3 (by decide) (by unfold vp_in; decide) dX8_split_70 ?_
    refine lv_iadd hx hb dX8_split_71 ?_
    refine lv_iload_n hx hb dX8_split_72 rfl (lv_at hl 1 rfl) ?_
    obtain ⟨f_12, hf_12, hv⟩ := qB hv
    refine m_ist hx hb hK hP hD hS 1 0 rfl rfl hf_12 dX8_split_73 (fun H locs hP hD hS => ?_)
    obtain ⟨M0s_13, hM0s_13, hv⟩ := qB hv
    obtain ⟨hP, hD⟩ := m_st (F := fun Z9 : FS => (wMod E a0 Z9)) (Option.some.inj hM0s_13) hP hD
    refine lv_aload_n hx hb dX8_split_74 rfl (lv_at hl 0 rfl) ?_
    refine va_get (D := D) (ci := 7) (v := .ref (a0 1)) (C := RX8) (T := TX8) (N := 14) hx hb hts hiX8_split_X8 hown hK hP 0 rfl rfl 0 (by decide) (hts _ lkX8_split_7) (fun _ h9 => h9) rfl dX8_split_75 ?_
    refine lv_iconst (v := 3) hx hb dX8_split_78 (by decide) ?_
    refine lv_dup2_11 hx hb dX8_split_79 rfl rfl ?_
    refine q_ildc (f := (M0s_13 0)) hx hb hK hP 1 0 rfl rfl 3 (by decide) (by unfold vp_in; decide) dX8_split_80 ?_
    refine lv_iconst (v := 1) hx hb dX8_split_81 (by decide) ?_
    refine lv_iadd hx hb dX8_split_82 ?_
    obtain ⟨f_14, hf_14, hv⟩ := qB hv
    refine m_ist hx hb hK hP hD hS 1 0 rfl rfl hf_14 dX8_split_83 (fun H locs hP hD hS => ?_)
    obtain ⟨M0s_15, hM0s_15, hv⟩ := qB hv
    obtain ⟨hP, hD⟩ := m_st (F := fun Z9 : FS => (wMod E a0 Z9)) (Option.some.inj hM0s_15) hP hD
    refine lv_goto (tgt := 92) hx hb dX8_split_84 (by decide) ?_
    refine lv_aload_n hx hb dX8_split_92 rfl (lv_at hl 0 rfl) ?_
    refine va_get (D := D) (ci := 7) (v := .ref (a0 1)) (C := RX8) (T := TX8) (N := 14) hx hb hts hiX8_split_X8 hown hK hP 0 rfl rfl 0 (by decide) (hts _ lkX8_split_7) (fun _ h9 => h9) rfl dX8_split_93 ?_
    obtain ⟨r_16, hr_16, hv⟩ := qB hv
    refine q_S (As := [.ref (a0 1)]) (rest := []) hx hb hml hown hts hl.1 (kX8_allLeaves l D E (a0 1) hr_16) zNo_mv (va_cwS 1 hts gX8_split_X8_allLeaves rfl rfl rfl (by decide +kernel) ⟨Nat.le_of_ble_eq_true rfl, Nat.le_of_ble_eq_true rfl⟩) (hP.sub (ws' := [aI E (a0 1) 116 (M0s_15 0)]) [1] rfl) hK trivial rfl rfl (Nat.le_of_ble_eq_true rfl) dX8_split_96 ⟨Nat.zero_le _, Nat.zero_le _⟩ ?_
    exact m_ret (F := (fun (Z9 : FS) => (fun _ : Unit => (wMod E a0 Z9)))) () C dX8_split_99 hv hP hD hS

set_option maxRecDepth 100000 in
set_option maxHeartbeats 4000000 in
theorem kX8_split (l : Launch) (D : va_G) (E : Nat → ClassId) (a0 : Nat → Nat) {M0 : FS} {x1 : Int32} {x2 : Int32} {v : Int32} {M09 : FS} (sz : Nat) (hv : fX8_split M0 x1 x2 = some (v, M09)) : MI l yX8_split wsX8_split (rmN 7 155) D E ((wMod E a0 M0)) sz [.ref (a0 0), .int x1, .int x2] v (fun _ : Unit => (wMod E a0 M09)) 0 0 := by
  refine MI.of (by decide) rfl (Nat.le_of_ble_eq_true rfl) ?_
  intro p e s m below meth c A H locs C hP hK hD hS hA ls hl
  have hl : lv_has ls 3 [(0, .ref (a0 0)), (1, .int x1), (2, .int x2)] := hl
  obtain ⟨hx, hb, hr, hml, hown, hlocks, hts⟩ := id C
  unfold fX8_split at hv
  refine lv_iload_n hx hb dX8_split_0 rfl (lv_at hl 1 rfl) ?_
  obtain ⟨r_1, hr_1, hv⟩ := qB hv
  refine q_S (As := [.int x1]) (rest := []) hx hb hml hown hts hl.1 (kX8_isNumber l D E  hr_1) zNo_mv (va_cwS 1 hts gX8_split_X8_isNumber rfl rfl rfl (by decide +kernel) ⟨Nat.le_of_ble_eq_true rfl, Nat.le_of_ble_eq_true rfl⟩) (hP.sub (ws' := []) [] rfl) hK trivial rfl rfl (Nat.le_of_ble_eq_true rfl) dX8_split_1 ⟨Nat.zero_le _, Nat.zero_le _⟩ ?_
  refine lv_if_eq (tgt := 16) hx hb dX8_split_4 (by decide) (fun c_4_k_2 => ?_) (fun c_4_k_2 => ?_)
  · have hv := qT c_4_k_2 hv
    refine lv_iconst (v := -1) hx hb dX8_split_16 (by decide) ?_
    exact m_ret (F := (fun (Z9 : FS) => (fun _ : Unit => (wMod E a0 Z9)))) () C dX8_split_17 hv hP hD hS
  · have hv := qF c_4_k_2 hv
    refine lv_iload_n hx hb dX8_split_7 rfl (lv_at hl 1 rfl) ?_
    obtain ⟨r_3, hr_3, hv⟩ := qB hv
    refine q_S (As := [.int x1]) (rest := []) hx hb hml hown hts hl.1 (kX8_depthOf l D E  hr_3) zNo_mv (va_cwS 1 hts gX8_split_X8_depthOf rfl rfl rfl (by decide +kernel) ⟨Nat.le_of_ble_eq_true rfl, Nat.le_of_ble_eq_true rfl⟩) (hP.sub (ws' := []) [] rfl) hK trivial rfl rfl (Nat.le_of_ble_eq_true rfl) dX8_split_8 ⟨Nat.zero_le _, Nat.zero_le _⟩ ?_
    refine lv_bipush (v := 6) hx hb dX8_split_11 (by decide) ?_
    refine lv_icmp_ne (tgt := 18) hx hb dX8_split_13 (by decide) (fun c_13_k_4 => ?_) (fun c_13_k_4 => ?_)
    · have hv := qF c_13_k_4 hv
      refine lv_aload_n hx hb dX8_split_18 rfl (lv_at hl 0 rfl) ?_
      refine va_get (D := D) (ci := 7) (v := .ref (a0 1)) (C := RX8) (T := TX8) (N := 14) hx hb hts hiX8_split_X8 hown hK hP 0 rfl rfl 0 (by decide) (hts _ lkX8_split_7) (fun _ h9 => h9) rfl dX8_split_19 ?_
      refine lv_iload_n hx hb dX8_split_22 rfl (lv_at hl 1 rfl) ?_
      obtain ⟨r_5, hr_5, hv⟩ := qB hv
      refine q_S (As := [.ref (a0 1), .int x1]) (rest := []) hx hb hml hown hts hl.1 (kX8_isOrdered l D E (a0 1) hr_5) zNo_mv (va_cwS 2 hts gX8_split_X8_isOrdered rfl rfl rfl (by decide +kernel) ⟨Nat.le_of_ble_eq_true rfl, Nat.le_of_ble_eq_true rfl⟩) (hP.sub (ws' := [aI E (a0 1) 116 (M0 0)]) [1] rfl) hK trivial rfl rfl (Nat.le_of_ble_eq_true rfl) dX8_split_23 ⟨Nat.zero_le _, Nat.zero_le _⟩ ?_
      refine lv_iload_n hx hb dX8_split_26 rfl (lv_at hl 2 rfl) ?_
      refine lv_icmp_ne (tgt := 33) hx hb dX8_split_27 (by decide) (fun c_27_k_6 => ?_) (fun c_27_k_6 => ?_)
      · have hv := qF c_27_k_6 hv
        refine lv_iload_n hx hb dX8_split_33 rfl (lv_at hl 2 rfl) ?_
        refine lv_if_eq (tgt := 51) hx hb dX8_split_34 (by decide) (fun c_34_k_7 => ?_) (fun c_34_k_7 => ?_)
        · have hv := qT c_34_k_7 hv
          exact wfX8_split_L51 C hK hA  M0 x1 x2 hv _ _ _ hP hD hS (lv_sub hl [0, 1, 2] rfl)
        · have hv := qF c_34_k_7 hv
          refine lv_aload_n hx hb dX8_split_37 rfl (lv_at hl 0 rfl) ?_
          refine va_get (D := D) (ci := 7) (v := .ref (a0 1)) (C := RX8) (T := TX8) (N := 14) hx hb hts hiX8_split_X8 hown hK hP 0 rfl rfl 0 (by decide) (hts _ lkX8_split_7) (fun _ h9 => h9) rfl dX8_split_38 ?_
          refine lv_iconst (v := 3) hx hb dX8_split_41 (by decide) ?_
          refine q_ildc (f := (M0 0)) hx hb hK hP 1 0 rfl rfl 3 (by decide) (by unfold vp_in; decide) dX8_split_42 ?_
          refine lv_bipush (v := 12) hx hb dX8_split_43 (by decide) ?_
          refine lv_icmp_ne (tgt := 51) hx hb dX8_split_45 (by decide) (fun c_45_k_17 => ?_) (fun c_45_k_17 => ?_)
          · have hv := qF c_45_k_17 hv
            exact wfX8_split_L51 C hK hA  M0 x1 x2 hv _ _ _ hP hD hS (lv_sub hl [0, 1, 2] rfl)
          · have hv := qT c_45_k_17 hv
            refine lv_bipush (v := -4) hx hb dX8_split_48 (by decide) ?_
            exact m_ret (F := (fun (Z9 : FS) => (fun _ : Unit => (wMod E a0 Z9)))) () C dX8_split_50 hv hP hD hS
      · have hv := qT c_27_k_6 hv
        refine lv_bipush (v := -5) hx hb dX8_split_30 (by decide) ?_
        exact m_ret (F := (fun (Z9 : FS) => (fun _ : Unit => (wMod E a0 Z9)))) () C dX8_split_32 hv hP hD hS
    · have hv := qT c_13_k_4 hv
      refine lv_iconst (v := -1) hx hb dX8_split_16 (by decide) ?_
      exact m_ret (F := (fun (Z9 : FS) => (fun _ : Unit => (wMod E a0 Z9)))) () C dX8_split_17 hv hP hD hS

theorem lkX8_meets_145 : (.fieldLink RX8 145 "QuarterTilesModel" "met" "I" : Cond) ∈ wsX8_meets := by decide +kernel
theorem hiX8_meets_X8 : ∀ w ∈ wsX80, w ∈ wsX8_meets := by decide +kernel
theorem lkX8_meets_148 : (.fieldLink RX8 148 "QuarterTilesModel" "apart" "I" : Cond) ∈ wsX8_meets := by decide +kernel
set_option maxRecDepth 100000 in
set_option maxHeartbeats 4000000 in
theorem wfX8_meets_L197 {p : Program} {e : Env} {s : State} {m : MethodId} {below : List Frame} {meth : Method} {c : Code} {l : Launch} {D : va_G} {E : Nat → ClassId} {a0 : Nat → Nat} {x2 : Int32} {x3 : Int32} {M09 : FS} {A : Nat → Prop} {y2 : Int32} {y3 : Int32} {y5 : Int32} (C : Ctx p s m meth c [.ref (a0 0), .ref (a0 1), .int x2, .int x3] wsX8_meets cX8_meets 11 none RX8) (hK : va_K D vwCl (tyE E) s) (hA : ∀ q : Nat, s.heap.size ≤ q → A q) {g80 : FS → Int32 → Int32 → Int32 → Option FS} (hg80 : ∀ (M0 : FS) (y6 : Int32) (y7 : Int32) (y8 : Int32), g80 M0 y6 y7 y8 = some (M09) → ∀ (H : Heap) (locs : List Loc) (ls : Array Slot), va_P D vwCl ((wMod E a0 M0)) H → va_D A ((wMod E a0 M0)) → va_S A s.heap H locs → lv_has ls 11 [(0, .ref (a0 0)), (1, .ref (a0 1)), (2, .int y2), (3, .int y3), (5, .int y5), (6, .int y6), (7, .int y7), (8, .int y8)] → WV p l e (rmN 5 111) s m [.ref (a0 0), .ref (a0 1), .int x2, .int x3] below meth c D A (fun _ : Unit => (wMod E a0 M09)) 0 0 H locs 0 0 80 ls []) : ∀ (M0 : FS) (y7 : Int32) (y8 : Int32) (y9 : Int32) (z0 : Int32) (z1 : Int32), fX8_meets_L197 g80 y2 y3 y5 M0 y7 y8 y9 z0 z1 = some (M09) → ∀ (H : Heap) (locs : List Loc) (ls : Array Slot), va_P D vwCl ((wMod E a0 M0)) H → va_D A ((wMod E a0 M0)) → va_S A s.heap H locs → lv_has ls 11 [(0, .ref (a0 0)), (1, .ref (a0 1)), (2, .int y2), (3, .int y3), (5, .int y5), (7, .int y7), (8, .int y8), (9, .int y9)] → WV p l e (rmN 5 111) s m [.ref (a0 0), .ref (a0 1), .int x2, .int x3] below meth c D A (fun _ : Unit => (wMod E a0 M09)) 0 0 H locs 0 0 197 ls [.int z0, .int z1] := by
  obtain ⟨hx, hb, hr, hml, hown, hlocks, hts⟩ := id C
  intro M0 y7 y8 y9 z0 z1 hv H locs ls hP hD hS hl
  unfold fX8_meets_L197 at hv
  refine lv_iadd hx hb dX8_meets_197 ?_
  refine lv_istore (lv' := [(6, .int (z1 + z0)), (0, .ref (a0 0)), (1, .ref (a0 1)), (2, .int y2), (3, .int y3), (5, .int y5), (7, .int y7), (8, .int y8), (9, .int y9)]) hx hb dX8_meets_198 hl (by decide) rfl (fun ls hl => ?_)
  refine lv_iload hx hb dX8_meets_200 (lv_at hl 6 rfl) ?_
  refine lv_iload_n hx hb dX8_meets_202 rfl (lv_at hl 4 rfl) ?_
  refine lv_iconst (v := 2) hx hb dX8_meets_203 (by decide) ?_
  refine lv_irem hx hb dX8_meets_204 (by decide) ?_
  refine lv_if_ne (tgt := 216) hx hb dX8_meets_205 (by decide) (fun c_205_k_22 => ?_) (fun c_205_k_22 => ?_)
  · have hv := qF c_205_k_22 hv
    refine lv_iconst (v := 0) hx hb dX8_meets_216 (by decide) ?_
    refine lv_iadd hx hb dX8_meets_217 ?_
    refine lv_istore (lv' := [(7, .int (y7 + (0:Int32))), (6, .int (z1 + z0)), (0, .ref (a0 0)), (1, .ref (a0 1)), (2, .int y2), (3, .int y3), (5, .int y5), (8, .int y8), (9, .int y9)]) hx hb dX8_meets_218 hl (by decide) rfl (fun ls hl => ?_)
    refine lv_goto (tgt := 80) hx hb dX8_meets_220 (by decide) ?_
    exact hg80 M0 (z1 + z0) (y7 + (0:Int32)) y8 hv _ _ _ hP hD hS (lv_sub hl [2, 3, 4, 5, 6, 1, 0, 7] rfl)
  · have hv := qT c_205_k_22 hv
    refine lv_iload hx hb dX8_meets_208 (lv_at hl 8 rfl) ?_
    obtain ⟨r_23, hr_23, hv⟩ := qB hv
    refine q_S (As := [.int y9]) (rest := [.int y7]) hx hb hml hown hts hl.1 (kX8_sizeOf l D E  hr_23) zNo_mv (va_cwS 1 hts gX8_meets_X8_sizeOf rfl rfl rfl (by decide +kernel) ⟨Nat.le_of_ble_eq_true rfl, Nat.le_of_ble_eq_true rfl⟩) (hP.sub (ws' := []) [] rfl) hK trivial rfl rfl (Nat.le_of_ble_eq_true rfl) dX8_meets_210 ⟨Nat.zero_le _, Nat.zero_le _⟩ ?_
    refine lv_goto (tgt := 217) hx hb dX8_meets_213 (by decide) ?_
    refine lv_iadd hx hb dX8_meets_217 ?_
    refine lv_istore (lv' := [(7, .int (y7 + r_23)), (6, .int (z1 + z0)), (0, .ref (a0 0)), (1, .ref (a0 1)), (2, .int y2), (3, .int y3), (5, .int y5), (8, .int y8), (9, .int y9)]) hx hb dX8_meets_218 hl (by decide) rfl (fun ls hl => ?_)
    refine lv_goto (tgt := 80) hx hb dX8_meets_220 (by decide) ?_
    exact hg80 M0 (z1 + z0) (y7 + r_23) y8 hv _ _ _ hP hD hS (lv_sub hl [2, 3, 4, 5, 6, 1, 0, 7] rfl)

set_option maxRecDepth 100000 in
set_option maxHeartbeats 4000000 in
theorem wfX8_meets_L166 {p : Program} {e : Env} {s : State} {m : MethodId} {below : List Frame} {meth : Method} {c : Code} {l : Launch} {D : va_G} {E : Nat → ClassId} {a0 : Nat → Nat} {x2 : Int32} {x3 : Int32} {M09 : FS} {A : Nat → Prop} {y2 : Int32} {y3 : Int32} {y5 : Int32} (C : Ctx p s m meth c [.ref (a0 0), .ref (a0 1), .int x2, .int x3] wsX8_meets cX8_meets 11 none RX8) (hK : va_K D vwCl (tyE E) s) (hA : ∀ q : Nat, s.heap.size ≤ q → A q) {g80 : FS → Int32 → Int32 → Int32 → Option FS} (hg80 : ∀ (M0 : FS) (y6 : Int32) (y7 : Int32) (y8 : Int32), g80 M0 y6 y7 y8 = some (M09) → ∀ (H : Heap) (locs : List Loc) (ls : Array Slot), va_P D vwCl ((wMod E a0 M0)) H → va_D A ((wMod E a0 M0)) → va_S A s.heap H locs → lv_has ls 11 [(0, .ref (a0 0)), (1, .ref (a0 1)), (2, .int y2), (3, .int y3), (5, .int y5), (6, .int y6), (7, .int y7), (8, .int y8)] → WV p l e (rmN 5 111) s m [.ref (a0 0), .ref (a0 1), .int x2, .int x3] below meth c D A (fun _ : Unit => (wMod E a0 M09)) 0 0 H locs 0 0 80 ls []) : ∀ (M0 : FS) (y6 : Int32) (y7 : Int32) (y8 : Int32) (y9 : Int32) (z0 : Int32), fX8_meets_L166 g80 y2 y3 y5 M0 y6 y7 y8 y9 z0 = some (M09) → ∀ (H : Heap) (locs : List Loc) (ls : Array Slot), va_P D vwCl ((wMod E a0 M0)) H → va_D A ((wMod E a0 M0)) → va_S A s.heap H locs → lv_has ls 11 [(0, .ref (a0 0)), (1, .ref (a0 1)), (2, .int y2), (3, .int y3), (5, .int y5), (6, .int y6), (7, .int y7), (8, .int y8), (9, .int y9)] → WV p l e (rmN 5 111) s m [.ref (a0 0), .ref (a0 1), .int x2, .int x3] below meth c D A (fun _ : Unit => (wMod E a0 M09)) 0 0 H locs 0 0 166 ls [.int z0, .ref (a0 0)] := by
  obtain ⟨hx, hb, hr, hml, hown, hlocks, hts⟩ := id C
  intro M0 y6 y7 y8 y9 z0 hv H locs ls hP hD hS hl
  unfold fX8_meets_L166 at hv
  refine va_put (D := D) (ci := 7) (v := .int z0) (ty := .int) (C := RX8) (T := TX8) (N := 14) hx hb hts hiX8_meets_X8 tyX8 tyX8_ok nmX8 hown hK hP hD hS 0 rfl rfl 9 (by decide) (hts _ lkX8_meets_148) (fun _ h9 => h9) rfl (by decide +kernel) rfl rfl (Nat.le_of_ble_eq_true rfl) dX8_meets_166 (fun H locs hP hD hS => ?_)
  obtain ⟨M0s_19, hM0s_19, hv⟩ := qB hv
  obtain ⟨hP, hD⟩ := m_st (F := fun Z9 : FS => (wMod E a0 Z9)) (Option.some.inj hM0s_19) hP hD
  refine lv_iload hx hb dX8_meets_169 (lv_at hl 7 rfl) ?_
  refine lv_iload hx hb dX8_meets_171 (lv_at hl 8 rfl) ?_
  obtain ⟨r_20, hr_20, hv⟩ := qB hv
  refine q_S (As := [.int y9]) (rest := [.int y8]) hx hb hml hown hts hl.1 (kX8_sizeOf l D E  hr_20) zNo_mv (va_cwS 1 hts gX8_meets_X8_sizeOf rfl rfl rfl (by decide +kernel) ⟨Nat.le_of_ble_eq_true rfl, Nat.le_of_ble_eq_true rfl⟩) (hP.sub (ws' := []) [] rfl) hK trivial rfl rfl (Nat.le_of_ble_eq_true rfl) dX8_meets_173 ⟨Nat.zero_le _, Nat.zero_le _⟩ ?_
  refine lv_iadd hx hb dX8_meets_176 ?_
  refine lv_istore (lv' := [(8, .int (y8 + r_20)), (0, .ref (a0 0)), (1, .ref (a0 1)), (2, .int y2), (3, .int y3), (5, .int y5), (6, .int y6), (7, .int y7), (9, .int y9)]) hx hb dX8_meets_177 hl (by decide) rfl (fun ls hl => ?_)
  refine lv_iload hx hb dX8_meets_179 (lv_at hl 6 rfl) ?_
  refine lv_iload_n hx hb dX8_meets_181 rfl (lv_at hl 4 rfl) ?_
  refine lv_iconst (v := 2) hx hb dX8_meets_182 (by decide) ?_
  refine lv_irem hx hb dX8_meets_183 (by decide) ?_
  refine lv_iconst (v := 1) hx hb dX8_meets_184 (by decide) ?_
  refine lv_icmp_ne (tgt := 196) hx hb dX8_meets_185 (by decide) (fun c_185_k_21 => ?_) (fun c_185_k_21 => ?_)
  · have hv := qF c_185_k_21 hv
    refine lv_iconst (v := 0) hx hb dX8_meets_196 (by decide) ?_
    exact wfX8_meets_L197 C hK hA (hg80 := hg80) M0s_19 y7 (y8 + r_20) y9 (0:Int32) y6 hv _ _ _ hP hD hS (lv_sub hl [1, 2, 3, 4, 5, 7, 0, 8] rfl)
  · have hv := qT c_185_k_21 hv
    refine lv_iload hx hb dX8_meets_188 (lv_at hl 8 rfl) ?_
    obtain ⟨r_24, hr_24, hv⟩ := qB hv
    refine q_S (As := [.int y9]) (rest := [.int y6]) hx hb hml hown hts hl.1 (kX8_sizeOf l D E  hr_24) zNo_mv (va_cwS 1 hts gX8_meets_X8_sizeOf rfl rfl rfl (by decide +kernel) ⟨Nat.le_of_ble_eq_true rfl, Nat.le_of_ble_eq_true rfl⟩) (hP.sub (ws' := []) [] rfl) hK trivial rfl rfl (Nat.le_of_ble_eq_true rfl) dX8_meets_190 ⟨Nat.zero_le _, Nat.zero_le _⟩ ?_
    refine lv_goto (tgt := 197) hx hb dX8_meets_193 (by decide) ?_
    exact wfX8_meets_L197 C hK hA (hg80 := hg80) M0s_19 y7 (y8 + r_20) y9 r_24 y6 hv _ _ _ hP hD hS (lv_sub hl [1, 2, 3, 4, 5, 7, 0, 8] rfl)

set_option maxRecDepth 100000 in
set_option maxHeartbeats 4000000 in
theorem wfX8_meets_L135 {p : Program} {e : Env} {s : State} {m : MethodId} {below : List Frame} {meth : Method} {c : Code} {l : Launch} {D : va_G} {E : Nat → ClassId} {a0 : Nat → Nat} {x2 : Int32} {x3 : Int32} {M09 : FS} {A : Nat → Prop} {y2 : Int32} {y3 : Int32} {y5 : Int32} (C : Ctx p s m meth c [.ref (a0 0), .ref (a0 1), .int x2, .int x3] wsX8_meets cX8_meets 11 none RX8) (hK : va_K D vwCl (tyE E) s) (hA : ∀ q : Nat, s.heap.size ≤ q → A q) {g80 : FS → Int32 → Int32 → Int32 → Option FS} (hg80 : ∀ (M0 : FS) (y6 : Int32) (y7 : Int32) (y8 : Int32), g80 M0 y6 y7 y8 = some (M09) → ∀ (H : Heap) (locs : List Loc) (ls : Array Slot), va_P D vwCl ((wMod E a0 M0)) H → va_D A ((wMod E a0 M0)) → va_S A s.heap H locs → lv_has ls 11 [(0, .ref (a0 0)), (1, .ref (a0 1)), (2, .int y2), (3, .int y3), (5, .int y5), (6, .int y6), (7, .int y7), (8, .int y8)] → WV p l e (rmN 5 111) s m [.ref (a0 0), .ref (a0 1), .int x2, .int x3] below meth c D A (fun _ : Unit => (wMod E a0 M09)) 0 0 H locs 0 0 80 ls []) : ∀ (M0 : FS) (y6 : Int32) (y7 : Int32) (y8 : Int32) (y9 : Int32) (z0 : Int32), fX8_meets_L135 g80 y2 y3 y5 M0 y6 y7 y8 y9 z0 = some (M09) → ∀ (H : Heap) (locs : List Loc) (ls : Array Slot), va_P D vwCl ((wMod E a0 M0)) H → va_D A ((wMod E a0 M0)) → va_S A s.heap H locs → lv_has ls 11 [(0, .ref (a0 0)), (1, .ref (a0 1)), (2, .int y2), (3, .int y3), (5, .int y5), (6, .int y6), (7, .int y7), (8, .int y8), (9, .int y9)] → WV p l e (rmN 5 111) s m [.ref (a0 0), .ref (a0 1), .int x2, .int x3] below meth c D A (fun _ : Unit => (wMod E a0 M09)) 0 0 H locs 0 0 135 ls [.int z0] := by
  obtain ⟨hx, hb, hr, hml, hown, hlocks, hts⟩ := id C
  intro M0 y6 y7 y8 y9 z0 hv H locs ls hP hD hS hl
  unfold fX8_meets_L135 at hv
  refine lv_istore (lv' := [(10, .int z0), (0, .ref (a0 0)), (1, .ref (a0 1)), (2, .int y2), (3, .int y3), (5, .int y5), (6, .int y6), (7, .int y7), (8, .int y8), (9, .int y9)]) hx hb dX8_meets_135 hl (by decide) rfl (fun ls hl => ?_)
  refine lv_aload_n hx hb dX8_meets_137 rfl (lv_at hl 1 rfl) ?_
  refine lv_dup hx hb dX8_meets_138 rfl ?_
  refine va_get (D := D) (ci := 7) (v := .int (M0 8 2)) (C := RX8) (T := TX8) (N := 14) hx hb hts hiX8_meets_X8 hown hK hP 0 rfl rfl 8 (by decide) (hts _ lkX8_meets_145) (fun _ h9 => h9) rfl dX8_meets_139 ?_
  refine lv_iconst (v := 1) hx hb dX8_meets_142 (by decide) ?_
  refine lv_iadd hx hb dX8_meets_143 ?_
  refine va_put (D := D) (ci := 7) (v := .int ((M0 8 2) + (1:Int32))) (ty := .int) (C := RX8) (T := TX8) (N := 14) hx hb hts hiX8_meets_X8 tyX8 tyX8_ok nmX8 hown hK hP hD hS 0 rfl rfl 8 (by decide) (hts _ lkX8_meets_145) (fun _ h9 => h9) rfl (by decide +kernel) rfl rfl (Nat.le_of_ble_eq_true rfl) dX8_meets_144 (fun H locs hP hD hS => ?_)
  obtain ⟨M0s_17, hM0s_17, hv⟩ := qB hv
  obtain ⟨hP, hD⟩ := m_st (F := fun Z9 : FS => (wMod E a0 Z9)) (Option.some.inj hM0s_17) hP hD
  refine lv_aload_n hx hb dX8_meets_147 rfl (lv_at hl 1 rfl) ?_
  refine lv_iload hx hb dX8_meets_148 (lv_at hl 0 rfl) ?_
  refine lv_aload_n hx hb dX8_meets_150 rfl (lv_at hl 1 rfl) ?_
  refine va_get (D := D) (ci := 7) (v := .int (M0s_17 8 3)) (C := RX8) (T := TX8) (N := 14) hx hb hts hiX8_meets_X8 hown hK hP 0 rfl rfl 9 (by decide) (hts _ lkX8_meets_148) (fun _ h9 => h9) rfl dX8_meets_151 ?_
  refine lv_icmp_le (tgt := 162) hx hb dX8_meets_154 (by decide) (fun c_154_k_18 => ?_) (fun c_154_k_18 => ?_)
  · have hv := qT c_154_k_18 hv
    refine lv_aload_n hx hb dX8_meets_162 rfl (lv_at hl 1 rfl) ?_
    refine va_get (D := D) (ci := 7) (v := .int (M0s_17 8 3)) (C := RX8) (T := TX8) (N := 14) hx hb hts hiX8_meets_X8 hown hK hP 0 rfl rfl 9 (by decide) (hts _ lkX8_meets_148) (fun _ h9 => h9) rfl dX8_meets_163 ?_
    exact wfX8_meets_L166 C hK hA (hg80 := hg80) M0s_17 y6 y7 y8 y9 (M0s_17 8 3) hv _ _ _ hP hD hS (lv_sub hl [1, 2, 3, 4, 5, 6, 7, 8, 9] rfl)
  · have hv := qF c_154_k_18 hv
    refine lv_iload hx hb dX8_meets_157 (lv_at hl 0 rfl) ?_
    refine lv_goto (tgt := 166) hx hb dX8_meets_159 (by decide) ?_
    exact wfX8_meets_L166 C hK hA (hg80 := hg80) M0s_17 y6 y7 y8 y9 z0 hv _ _ _ hP hD hS (lv_sub hl [1, 2, 3, 4, 5, 6, 7, 8, 9] rfl)

set_option maxRecDepth 100000 in
set_option maxHeartbeats 4000000 in
theorem wfX8_meets_L80 {p : Program} {e : Env} {s : State} {m : MethodId} {below : List Frame} {meth : Method} {c : Code} {l : Launch} {D : va_G} {E : Nat → ClassId} {a0 : Nat → Nat} {x2 : Int32} {x3 : Int32} {M09 : FS} {A : Nat → Prop} {y2 : Int32} {y3 : Int32} {y5 : Int32} (C : Ctx p s m meth c [.ref (a0 0), .ref (a0 1), .int x2, .int x3] wsX8_meets cX8_meets 11 none RX8) (hK : va_K D vwCl (tyE E) s) (hA : ∀ q : Nat, s.heap.size ≤ q → A q) : ∀ (q : Nat) (M0 : FS) (y6 : Int32) (y7 : Int32) (y8 : Int32), fX8_meets_L80 y2 y3 y5 q M0 y6 y7 y8 = some (M09) → ∀ (H : Heap) (locs : List Loc) (ls : Array Slot), va_P D vwCl ((wMod E a0 M0)) H → va_D A ((wMod E a0 M0)) → va_S A s.heap H locs → lv_has ls 11 [(0, .ref (a0 0)), (1, .ref (a0 1)), (2, .int y2), (3, .int y3), (5, .int y5), (6, .int y6), (7, .int y7), (8, .int y8)] → WV p l e (rmN 5 111) s m [.ref (a0 0), .ref (a0 1), .int x2, .int x3] below meth c D A (fun _ : Unit => (wMod E a0 M09)) 0 0 H locs 0 0 80 ls [] := by
  obtain ⟨hx, hb, hr, hml, hown, hlocks, hts⟩ := id C
  intro q
  induction q with
  | zero =>
    intro M0 y6 y7 y8 hv
    cases hv
  | succ q ih =>
    intro M0 y6 y7 y8 hv H locs ls hP hD hS hl
    rw [fX8_meets_L80.eq_2] at hv
    refine lv_iload hx hb dX8_meets_80 (lv_at hl 7 rfl) ?_
    refine lv_iload hx hb dX8_meets_82 (lv_at hl 4 rfl) ?_
    refine lv_icmp_ge (tgt := 223) hx hb dX8_meets_84 (by decide) (fun c_84_k_9 => ?_) (fun c_84_k_9 => ?_)
    · have hv := qT c_84_k_9 hv
      exact m_retv (F := (fun (Z9 : FS) => (fun _ : Unit => (wMod E a0 Z9)))) () C dX8_meets_223 hv hP hD hS
    · have hv := qF c_84_k_9 hv
      refine lv_iload hx hb dX8_meets_87 (lv_at hl 5 rfl) ?_
      refine lv_iload hx hb dX8_meets_89 (lv_at hl 6 rfl) ?_
      obtain ⟨r_10, hr_10, hv⟩ := qB hv
      refine q_S (As := [.int y6, .int y7]) (rest := []) hx hb hml hown hts hl.1 (kX8_isPlace l D E  hr_10) zNo_mv (va_cwS 2 hts gX8_meets_X8_isPlace rfl rfl rfl (by decide +kernel) ⟨Nat.le_of_ble_eq_true rfl, Nat.le_of_ble_eq_true rfl⟩) (hP.sub (ws' := []) [] rfl) hK trivial rfl rfl (Nat.le_of_ble_eq_true rfl) dX8_meets_91 ⟨Nat.zero_le _, Nat.zero_le _⟩ ?_
      refine lv_if_eq (tgt := 223) hx hb dX8_meets_94 (by decide) (fun c_94_k_11 => ?_) (fun c_94_k_11 => ?_)
      · have hv := qT c_94_k_11 hv
        exact m_retv (F := (fun (Z9 : FS) => (fun _ : Unit => (wMod E a0 Z9)))) () C dX8_meets_223 hv hP hD hS
      · have hv := qF c_94_k_11 hv
        refine lv_aload_n hx hb dX8_meets_97 rfl (lv_at hl 1 rfl) ?_
        refine lv_iload hx hb dX8_meets_98 (lv_at hl 5 rfl) ?_
        refine lv_iload hx hb dX8_meets_100 (lv_at hl 6 rfl) ?_
        obtain ⟨r_12, hr_12, hv⟩ := qB hv
        refine q_S (As := [.int y6, .int y7]) (rest := [.ref (a0 1)]) hx hb hml hown hts hl.1 (kX8_pathOf l D E  hr_12) zNo_mv (va_cwS 2 hts gX8_meets_X8_pathOf rfl rfl rfl (by decide +kernel) ⟨Nat.le_of_ble_eq_true rfl, Nat.le_of_ble_eq_true rfl⟩) (hP.sub (ws' := []) [] rfl) hK trivial rfl rfl (Nat.le_of_ble_eq_true rfl) dX8_meets_102 ⟨Nat.zero_le _, Nat.zero_le _⟩ ?_
        obtain ⟨r_13, hr_13, hv⟩ := qB hv
        refine q_S (As := [.ref (a0 1), .int r_12]) (rest := []) hx hb hml hown hts hl.1 (kX8_leafOf l D E (a0 1) hr_13) zNo_mv (va_cwS 2 hts gX8_meets_X8_leafOf rfl rfl rfl (by decide +kernel) ⟨Nat.le_of_ble_eq_true rfl, Nat.le_of_ble_eq_true rfl⟩) (hP.sub (ws' := [aI E (a0 1) 116 (M0 0)]) [1] rfl) hK trivial rfl rfl (Nat.le_of_ble_eq_true rfl) dX8_meets_105 ⟨Nat.zero_le _, Nat.zero_le _⟩ ?_
        refine lv_istore (lv' := [(9, .int r_13), (0, .ref (a0 0)), (1, .ref (a0 1)), (2, .int y2), (3, .int y3), (5, .int y5), (6, .int y6), (7, .int y7), (8, .int y8)]) hx hb dX8_meets_108 hl (by decide) rfl (fun ls hl => ?_)
        refine lv_iload hx hb dX8_meets_110 (lv_at hl 0 rfl) ?_
        obtain ⟨r_14, hr_14, hv⟩ := qB hv
        refine q_S (As := [.int r_13]) (rest := []) hx hb hml hown hts hl.1 (kX8_depthOf l D E  hr_14) zNo_mv (va_cwS 1 hts gX8_meets_X8_depthOf rfl rfl rfl (by decide +kernel) ⟨Nat.le_of_ble_eq_true rfl, Nat.le_of_ble_eq_true rfl⟩) (hP.sub (ws' := []) [] rfl) hK trivial rfl rfl (Nat.le_of_ble_eq_true rfl) dX8_meets_112 ⟨Nat.zero_le _, Nat.zero_le _⟩ ?_
        refine lv_iload_n hx hb dX8_meets_115 rfl (lv_at hl 3 rfl) ?_
        obtain ⟨r_15, hr_15, hv⟩ := qB hv
        refine q_S (As := [.int y2]) (rest := [.int r_14]) hx hb hml hown hts hl.1 (kX8_depthOf l D E  hr_15) zNo_mv (va_cwS 1 hts gX8_meets_X8_depthOf rfl rfl rfl (by decide +kernel) ⟨Nat.le_of_ble_eq_true rfl, Nat.le_of_ble_eq_true rfl⟩) (hP.sub (ws' := []) [] rfl) hK trivial rfl rfl (Nat.le_of_ble_eq_true rfl) dX8_meets_116 ⟨Nat.zero_le _, Nat.zero_le _⟩ ?_
        refine lv_isub hx hb dX8_meets_119 ?_
        refine lv_istore (lv' := [(10, .int (r_14 - r_15)), (9, .int r_13), (0, .ref (a0 0)), (1, .ref (a0 1)), (2, .int y2), (3, .int y3), (5, .int y5), (6, .int y6), (7, .int y7), (8, .int y8)]) hx hb dX8_meets_120 hl (by decide) rfl (fun ls hl => ?_)
        refine lv_iload hx hb dX8_meets_122 (lv_at hl 0 rfl) ?_
        refine lv_if_ge (tgt := 133) hx hb dX8_meets_124 (by decide) (fun c_124_k_16 => ?_) (fun c_124_k_16 => ?_)
        · have hv := qT c_124_k_16 hv
          refine lv_iload hx hb dX8_meets_133 (lv_at hl 0 rfl) ?_
          exact wfX8_meets_L135 C hK hA (hg80 := ih) M0 y6 y7 y8 r_13 (r_14 - r_15) hv _ _ _ hP hD hS (lv_sub hl [2, 3, 4, 5, 6, 7, 8, 9, 1] rfl)
        · have hv := qF c_124_k_16 hv
          refine lv_iload hx hb dX8_meets_127 (lv_at hl 0 rfl) ?_
          refine lv_ineg hx hb dX8_meets_129 ?_
          refine lv_goto (tgt := 135) hx hb dX8_meets_130 (by decide) ?_
          exact wfX8_meets_L135 C hK hA (hg80 := ih) M0 y6 y7 y8 r_13 (-(r_14 - r_15)) hv _ _ _ hP hD hS (lv_sub hl [2, 3, 4, 5, 6, 7, 8, 9, 1] rfl)

set_option maxRecDepth 100000 in
set_option maxHeartbeats 4000000 in
theorem wfX8_meets_L49 {p : Program} {e : Env} {s : State} {m : MethodId} {below : List Frame} {meth : Method} {c : Code} {l : Launch} {D : va_G} {E : Nat → ClassId} {a0 : Nat → Nat} {x2 : Int32} {x3 : Int32} {M09 : FS} {A : Nat → Prop} (C : Ctx p s m meth c [.ref (a0 0), .ref (a0 1), .int x2, .int x3] wsX8_meets cX8_meets 11 none RX8) (hK : va_K D vwCl (tyE E) s) (hA : ∀ q : Nat, s.heap.size ≤ q → A q) : ∀ (M0 : FS) (y2 : Int32) (y3 : Int32) (y5 : Int32) (y7 : Int32) (z0 : Int32) (z1 : Int32), fX8_meets_L49 M0 y2 y3 y5 y7 z0 z1 = some (M09) → ∀ (H : Heap) (locs : List Loc) (ls : Array Slot), va_P D vwCl ((wMod E a0 M0)) H → va_D A ((wMod E a0 M0)) → va_S A s.heap H locs → lv_has ls 11 [(0, .ref (a0 0)), (1, .ref (a0 1)), (2, .int y2), (3, .int y3), (5, .int y5), (7, .int y7)] → WV p l e (rmN 5 111) s m [.ref (a0 0), .ref (a0 1), .int x2, .int x3] below meth c D A (fun _ : Unit => (wMod E a0 M09)) 0 0 H locs 0 0 49 ls [.int z0, .int z1] := by
  obtain ⟨hx, hb, hr, hml, hown, hlocks, hts⟩ := id C
  intro M0 y2 y3 y5 y7 z0 z1 hv H locs ls hP hD hS hl
  unfold fX8_meets_L49 at hv
  refine lv_iadd hx hb dX8_meets_49 ?_
  refine lv_istore (lv' := [(6, .int (z1 + z0)), (0, .ref (a0 0)), (1, .ref (a0 1)), (2, .int y2), (3, .int y3), (5, .int y5), (7, .int y7)]) hx hb dX8_meets_50 hl (by decide) rfl (fun ls hl => ?_)
  refine lv_iload hx hb dX8_meets_52 (lv_at hl 6 rfl) ?_
  refine lv_iload_n hx hb dX8_meets_54 rfl (lv_at hl 4 rfl) ?_
  refine lv_iconst (v := 1) hx hb dX8_meets_55 (by decide) ?_
  refine lv_icmp_ne (tgt := 64) hx hb dX8_meets_56 (by decide) (fun c_56_k_7 => ?_) (fun c_56_k_7 => ?_)
  · have hv := qF c_56_k_7 hv
    refine lv_iload_n hx hb dX8_meets_64 rfl (lv_at hl 4 rfl) ?_
    refine lv_iconst (v := 3) hx hb dX8_meets_65 (by decide) ?_
    refine lv_icmp_ne (tgt := 73) hx hb dX8_meets_66 (by decide) (fun c_66_k_8 => ?_) (fun c_66_k_8 => ?_)
    · have hv := qF c_66_k_8 hv
      refine lv_iconst (v := 0) hx hb dX8_meets_73 (by decide) ?_
      refine lv_iadd hx hb dX8_meets_74 ?_
      refine lv_istore (lv' := [(7, .int (y7 + (0:Int32))), (6, .int (z1 + z0)), (0, .ref (a0 0)), (1, .ref (a0 1)), (2, .int y2), (3, .int y3), (5, .int y5)]) hx hb dX8_meets_75 hl (by decide) rfl (fun ls hl => ?_)
      refine lv_iconst (v := 0) hx hb dX8_meets_77 (by decide) ?_
      refine lv_istore (lv' := [(8, .int (0:Int32)), (7, .int (y7 + (0:Int32))), (6, .int (z1 + z0)), (0, .ref (a0 0)), (1, .ref (a0 1)), (2, .int y2), (3, .int y3), (5, .int y5)]) hx hb dX8_meets_78 hl (by decide) rfl (fun ls hl => ?_)
      exact wfX8_meets_L80 C hK hA  6000 M0 (z1 + z0) (y7 + (0:Int32)) (0:Int32) hv _ _ _ hP hD hS (lv_sub hl [3, 4, 5, 6, 7, 2, 1, 0] rfl)
    · have hv := qT c_66_k_8 hv
      refine lv_iconst (v := -1) hx hb dX8_meets_69 (by decide) ?_
      refine lv_goto (tgt := 74) hx hb dX8_meets_70 (by decide) ?_
      refine lv_iadd hx hb dX8_meets_74 ?_
      refine lv_istore (lv' := [(7, .int (y7 + (-1:Int32))), (6, .int (z1 + z0)), (0, .ref (a0 0)), (1, .ref (a0 1)), (2, .int y2), (3, .int y3), (5, .int y5)]) hx hb dX8_meets_75 hl (by decide) rfl (fun ls hl => ?_)
      refine lv_iconst (v := 0) hx hb dX8_meets_77 (by decide) ?_
      refine lv_istore (lv' := [(8, .int (0:Int32)), (7, .int (y7 + (-1:Int32))), (6, .int (z1 + z0)), (0, .ref (a0 0)), (1, .ref (a0 1)), (2, .int y2), (3, .int y3), (5, .int y5)]) hx hb dX8_meets_78 hl (by decide) rfl (fun ls hl => ?_)
      exact wfX8_meets_L80 C hK hA  6000 M0 (z1 + z0) (y7 + (-1:Int32)) (0:Int32) hv _ _ _ hP hD hS (lv_sub hl [3, 4, 5, 6, 7, 2, 1, 0] rfl)
  · have hv := qT c_56_k_7 hv
    refine lv_iload hx hb dX8_meets_59 (lv_at hl 5 rfl) ?_
    refine lv_goto (tgt := 74) hx hb dX8_meets_61 (by decide) ?_
    refine lv_iadd hx hb dX8_meets_74 ?_
    refine lv_istore (lv' := [(7, .int (y7 + y5)), (6, .int (z1 + z0)), (0, .ref (a0 0)), (1, .ref (a0 1)), (2, .int y2), (3, .int y3), (5, .int y5)]) hx hb dX8_meets_75 hl (by decide) rfl (fun ls hl => ?_)
    refine lv_iconst (v := 0) hx hb dX8_meets_77 (by decide) ?_
    refine lv_istore (lv' := [(8, .int (0:Int32)), (7, .int (y7 + y5)), (6, .int (z1 + z0)), (0, .ref (a0 0)), (1, .ref (a0 1)), (2, .int y2), (3, .int y3), (5, .int y5)]) hx hb dX8_meets_78 hl (by decide) rfl (fun ls hl => ?_)
    exact wfX8_meets_L80 C hK hA  6000 M0 (z1 + z0) (y7 + y5) (0:Int32) hv _ _ _ hP hD hS (lv_sub hl [3, 4, 5, 6, 7, 2, 1, 0] rfl)

set_option maxRecDepth 100000 in
set_option maxHeartbeats 4000000 in
theorem kX8_meets (l : Launch) (D : va_G) (E : Nat → ClassId) (a0 : Nat → Nat) {M0 : FS} {x2 : Int32} {x3 : Int32} {M09 : FS} (sz : Nat) (hv : fX8_meets M0 x2 x3 = some (M09)) : MV l yX8_meets wsX8_meets (rmN 5 111) D E ((wMod E a0 M0)) sz [.ref (a0 0), .ref (a0 1), .int x2, .int x3] (fun _ : Unit => (wMod E a0 M09)) 0 0 := by
  refine MV.of (by decide) rfl (Nat.le_of_ble_eq_true rfl) ?_
  intro p e s m below meth c A H locs C hP hK hD hS hA ls hl
  have hl : lv_has ls 11 [(0, .ref (a0 0)), (1, .ref (a0 1)), (2, .int x2), (3, .int x3)] := hl
  obtain ⟨hx, hb, hr, hml, hown, hlocks, hts⟩ := id C
  unfold fX8_meets at hv
  refine lv_iload_n hx hb dX8_meets_0 rfl (lv_at hl 2 rfl) ?_
  obtain ⟨r_1, hr_1, hv⟩ := qB hv
  refine q_S (As := [.int x2]) (rest := []) hx hb hml hown hts hl.1 (kX8_firstOf l D E  hr_1) zNo_mv (va_cwS 1 hts gX8_meets_X8_firstOf rfl rfl rfl (by decide +kernel) ⟨Nat.le_of_ble_eq_true rfl, Nat.le_of_ble_eq_true rfl⟩) (hP.sub (ws' := []) [] rfl) hK trivial rfl rfl (Nat.le_of_ble_eq_true rfl) dX8_meets_1 ⟨Nat.zero_le _, Nat.zero_le _⟩ ?_
  refine lv_istore (lv' := [(4, .int r_1), (0, .ref (a0 0)), (1, .ref (a0 1)), (2, .int x2), (3, .int x3)]) hx hb dX8_meets_4 hl (by decide) rfl (fun ls hl => ?_)
  refine lv_iload_n hx hb dX8_meets_6 rfl (lv_at hl 3 rfl) ?_
  obtain ⟨r_2, hr_2, hv⟩ := qB hv
  refine q_S (As := [.int x2]) (rest := []) hx hb hml hown hts hl.1 (kX8_sizeOf l D E  hr_2) zNo_mv (va_cwS 1 hts gX8_meets_X8_sizeOf rfl rfl rfl (by decide +kernel) ⟨Nat.le_of_ble_eq_true rfl, Nat.le_of_ble_eq_true rfl⟩) (hP.sub (ws' := []) [] rfl) hK trivial rfl rfl (Nat.le_of_ble_eq_true rfl) dX8_meets_7 ⟨Nat.zero_le _, Nat.zero_le _⟩ ?_
  refine lv_istore (lv' := [(5, .int r_2), (4, .int r_1), (0, .ref (a0 0)), (1, .ref (a0 1)), (2, .int x2), (3, .int x3)]) hx hb dX8_meets_10 hl (by decide) rfl (fun ls hl => ?_)
  refine lv_iload hx hb dX8_meets_12 (lv_at hl 1 rfl) ?_
  refine lv_iconst (v := 0) hx hb dX8_meets_14 (by decide) ?_
  obtain ⟨r_3, hr_3, hv⟩ := qB hv
  refine q_S (As := [.int r_1, .int (0:Int32)]) (rest := []) hx hb hml hown hts hl.1 (kX8_coordinate l D E  hr_3) zNo_mv (va_cwS 2 hts gX8_meets_X8_coordinate rfl rfl rfl (by decide +kernel) ⟨Nat.le_of_ble_eq_true rfl, Nat.le_of_ble_eq_true rfl⟩) (hP.sub (ws' := []) [] rfl) hK trivial rfl rfl (Nat.le_of_ble_eq_true rfl) dX8_meets_15 ⟨Nat.zero_le _, Nat.zero_le _⟩ ?_
  refine lv_istore (lv' := [(6, .int r_3), (5, .int r_2), (4, .int r_1), (0, .ref (a0 0)), (1, .ref (a0 1)), (2, .int x2), (3, .int x3)]) hx hb dX8_meets_18 hl (by decide) rfl (fun ls hl => ?_)
  refine lv_iload hx hb dX8_meets_20 (lv_at hl 2 rfl) ?_
  refine lv_iconst (v := 1) hx hb dX8_meets_22 (by decide) ?_
  obtain ⟨r_4, hr_4, hv⟩ := qB hv
  refine q_S (As := [.int r_1, .int (1:Int32)]) (rest := []) hx hb hml hown hts hl.1 (kX8_coordinate l D E  hr_4) zNo_mv (va_cwS 2 hts gX8_meets_X8_coordinate rfl rfl rfl (by decide +kernel) ⟨Nat.le_of_ble_eq_true rfl, Nat.le_of_ble_eq_true rfl⟩) (hP.sub (ws' := []) [] rfl) hK trivial rfl rfl (Nat.le_of_ble_eq_true rfl) dX8_meets_23 ⟨Nat.zero_le _, Nat.zero_le _⟩ ?_
  refine lv_istore (lv' := [(7, .int r_4), (6, .int r_3), (5, .int r_2), (4, .int r_1), (0, .ref (a0 0)), (1, .ref (a0 1)), (2, .int x2), (3, .int x3)]) hx hb dX8_meets_26 hl (by decide) rfl (fun ls hl => ?_)
  refine lv_iload hx hb dX8_meets_28 (lv_at hl 1 rfl) ?_
  refine lv_iload_n hx hb dX8_meets_30 rfl (lv_at hl 7 rfl) ?_
  refine lv_if_ne (tgt := 39) hx hb dX8_meets_31 (by decide) (fun c_31_k_5 => ?_) (fun c_31_k_5 => ?_)
  · have hv := qF c_31_k_5 hv
    refine lv_iload_n hx hb dX8_meets_39 rfl (lv_at hl 7 rfl) ?_
    refine lv_iconst (v := 2) hx hb dX8_meets_40 (by decide) ?_
    refine lv_icmp_ne (tgt := 48) hx hb dX8_meets_41 (by decide) (fun c_41_k_6 => ?_) (fun c_41_k_6 => ?_)
    · have hv := qF c_41_k_6 hv
      refine lv_iconst (v := 0) hx hb dX8_meets_48 (by decide) ?_
      exact wfX8_meets_L49 C hK hA  M0 x2 x3 r_2 r_4 (0:Int32) r_3 hv _ _ _ hP hD hS (lv_sub hl [4, 5, 6, 7, 2, 0] rfl)
    · have hv := qT c_41_k_6 hv
      refine lv_iconst (v := -1) hx hb dX8_meets_44 (by decide) ?_
      refine lv_goto (tgt := 49) hx hb dX8_meets_45 (by decide) ?_
      exact wfX8_meets_L49 C hK hA  M0 x2 x3 r_2 r_4 (-1:Int32) r_3 hv _ _ _ hP hD hS (lv_sub hl [4, 5, 6, 7, 2, 0] rfl)
  · have hv := qT c_31_k_5 hv
    refine lv_iload hx hb dX8_meets_34 (lv_at hl 2 rfl) ?_
    refine lv_goto (tgt := 49) hx hb dX8_meets_36 (by decide) ?_
    exact wfX8_meets_L49 C hK hA  M0 x2 x3 r_2 r_4 r_2 r_3 hv _ _ _ hP hD hS (lv_sub hl [4, 5, 6, 7, 2, 0] rfl)

theorem lkX8_meetsAll_145 : (.fieldLink RX8 145 "QuarterTilesModel" "met" "I" : Cond) ∈ wsX8_meetsAll := by decide +kernel
theorem hiX8_meetsAll_X8 : ∀ w ∈ wsX80, w ∈ wsX8_meetsAll := by decide +kernel
set_option maxRecDepth 100000 in
set_option maxHeartbeats 4000000 in
theorem wfX8_meetsAll_L7 {p : Program} {e : Env} {s : State} {m : MethodId} {below : List Frame} {meth : Method} {c : Code} {l : Launch} {D : va_G} {E : Nat → ClassId} {a0 : Nat → Nat} {x2 : Int32} {v : Int32} {M09 : FS} {A : Nat → Prop} {y2 : Int32} (C : Ctx p s m meth c [.ref (a0 0), .ref (a0 1), .int x2] wsX8_meetsAll cX8_meetsAll 4 (some .int) RX8) (hK : va_K D vwCl (tyE E) s) (hA : ∀ q : Nat, s.heap.size ≤ q → A q) : ∀ (q : Nat) (M0 : FS) (y3 : Int32), fX8_meetsAll_L7 y2 q M0 y3 = some (v, M09) → ∀ (H : Heap) (locs : List Loc) (ls : Array Slot), va_P D vwCl ((wMod E a0 M0)) H → va_D A ((wMod E a0 M0)) → va_S A s.heap H locs → lv_has ls 4 [(0, .ref (a0 0)), (1, .ref (a0 1)), (2, .int y2), (3, .int y3)] → WI p l e (rmN 6 141) s m [.ref (a0 0), .ref (a0 1), .int x2] below meth c D A v (fun _ : Unit => (wMod E a0 M09)) 0 0 H locs 0 0 7 ls [] := by
  obtain ⟨hx, hb, hr, hml, hown, hlocks, hts⟩ := id C
  intro q
  induction q with
  | zero =>
    intro M0 y3 hv
    cases hv
  | succ q ih =>
    intro M0 y3 hv H locs ls hP hD hS hl
    rw [fX8_meetsAll_L7.eq_2] at hv
    refine lv_iload_n hx hb dX8_meetsAll_7 rfl (lv_at hl 3 rfl) ?_
    refine lv_iconst (v := 4) hx hb dX8_meetsAll_8 (by decide) ?_
    refine lv_icmp_ge (tgt := 25) hx hb dX8_meetsAll_9 (by decide) (fun c_9_k_2 => ?_) (fun c_9_k_2 => ?_)
    · have hv := qT c_9_k_2 hv
      refine lv_aload_n hx hb dX8_meetsAll_25 rfl (lv_at hl 0 rfl) ?_
      refine va_get (D := D) (ci := 7) (v := .int (M0 8 2)) (C := RX8) (T := TX8) (N := 14) hx hb hts hiX8_meetsAll_X8 hown hK hP 0 rfl rfl 8 (by decide) (hts _ lkX8_meetsAll_145) (fun _ h9 => h9) rfl dX8_meetsAll_26 ?_
      exact m_ret (F := (fun (Z9 : FS) => (fun _ : Unit => (wMod E a0 Z9)))) () C dX8_meetsAll_29 hv hP hD hS
    · have hv := qF c_9_k_2 hv
      refine lv_aload_n hx hb dX8_meetsAll_12 rfl (lv_at hl 0 rfl) ?_
      refine lv_aload_n hx hb dX8_meetsAll_13 rfl (lv_at hl 1 rfl) ?_
      refine lv_iload_n hx hb dX8_meetsAll_14 rfl (lv_at hl 2 rfl) ?_
      refine lv_iload_n hx hb dX8_meetsAll_15 rfl (lv_at hl 3 rfl) ?_
      obtain ⟨S_3, hS_3, hv⟩ := qB hv
      refine m_VV (As := [.ref (a0 1), .int y2, .int y3]) (rest := []) (C := RX8) (T0 := TX8) (N0 := 14) (ci := 7) (Wn := (fun _ : Unit => (wMod E a0 S_3))) (Wr := []) hx hb hml hown hts hl.1 (kX8_meets l D E a0 H.size hS_3) (cwV 3 hts gX8_meetsAll_X8_meets rfl rfl rfl (by decide +kernel) ⟨Nat.le_of_ble_eq_true rfl, Nat.le_of_ble_eq_true rfl⟩) 0 rfl rfl hP hD hS hA hK [0, 1, 2, 3, 4, 5, 6, 7, 8] [] [0, 1, 2, 3, 4, 5, 6, 7, 8] (by decide) rfl rfl (by decide) (by decide) (by decide) (fun _ => rfl) rfl rfl (Nat.le_of_ble_eq_true rfl) dX8_meetsAll_16 ⟨Nat.le_of_ble_eq_true rfl, Nat.le_of_ble_eq_true rfl⟩ (fun _ H locs hP hD hS => ?_)
      refine lv_iinc (v := (y3 + 1)) (lv' := [(3, .int (y3 + 1)), (0, .ref (a0 0)), (1, .ref (a0 1)), (2, .int y2)]) hx hb dX8_meetsAll_19 hl (k := 3) rfl (by rfl) (by decide) rfl (fun ls hl => ?_)
      refine lv_goto (tgt := 7) hx hb dX8_meetsAll_22 (by decide) ?_
      exact ih S_3 (y3 + 1) hv _ _ _ hP hD hS (lv_sub hl [1, 2, 3, 0] rfl)

set_option maxRecDepth 100000 in
set_option maxHeartbeats 4000000 in
theorem kX8_meetsAll (l : Launch) (D : va_G) (E : Nat → ClassId) (a0 : Nat → Nat) {M0 : FS} {x2 : Int32} {v : Int32} {M09 : FS} (sz : Nat) (hv : fX8_meetsAll M0 x2 = some (v, M09)) : MI l yX8_meetsAll wsX8_meetsAll (rmN 6 141) D E ((wMod E a0 M0)) sz [.ref (a0 0), .ref (a0 1), .int x2] v (fun _ : Unit => (wMod E a0 M09)) 0 0 := by
  refine MI.of (by decide) rfl (Nat.le_of_ble_eq_true rfl) ?_
  intro p e s m below meth c A H locs C hP hK hD hS hA ls hl
  have hl : lv_has ls 4 [(0, .ref (a0 0)), (1, .ref (a0 1)), (2, .int x2)] := hl
  obtain ⟨hx, hb, hr, hml, hown, hlocks, hts⟩ := id C
  unfold fX8_meetsAll at hv
  refine lv_aload_n hx hb dX8_meetsAll_0 rfl (lv_at hl 0 rfl) ?_
  refine lv_iconst (v := 0) hx hb dX8_meetsAll_1 (by decide) ?_
  refine va_put (D := D) (ci := 7) (v := .int (0:Int32)) (ty := .int) (C := RX8) (T := TX8) (N := 14) hx hb hts hiX8_meetsAll_X8 tyX8 tyX8_ok nmX8 hown hK hP hD hS 0 rfl rfl 8 (by decide) (hts _ lkX8_meetsAll_145) (fun _ h9 => h9) rfl (by decide +kernel) rfl rfl (Nat.le_of_ble_eq_true rfl) dX8_meetsAll_2 (fun H locs hP hD hS => ?_)
  obtain ⟨M0s_1, hM0s_1, hv⟩ := qB hv
  obtain ⟨hP, hD⟩ := m_st (F := fun Z9 : FS => (wMod E a0 Z9)) (Option.some.inj hM0s_1) hP hD
  refine lv_iconst (v := 0) hx hb dX8_meetsAll_5 (by decide) ?_
  refine lv_istore_n (lv' := [(3, .int (0:Int32)), (0, .ref (a0 0)), (1, .ref (a0 1)), (2, .int x2)]) hx hb dX8_meetsAll_6 rfl hl (by decide) rfl (fun ls hl => ?_)
  exact wfX8_meetsAll_L7 C hK hA  6000 M0s_1 (0:Int32) hv _ _ _ hP hD hS (lv_sub hl [1, 2, 3, 0] rfl)

theorem lkX8_neighbours_7 : (.fieldLink RX8 7 "QuarterTilesModel" "now" "[I" : Cond) ∈ wsX8_neighbours := by decide +kernel
theorem hiX8_neighbours_X8 : ∀ w ∈ wsX80, w ∈ wsX8_neighbours := by decide +kernel
set_option maxRecDepth 100000 in
set_option maxHeartbeats 4000000 in
theorem kX8_neighbours (l : Launch) (D : va_G) (E : Nat → ClassId) (a0 : Nat → Nat) {M0 : FS} {x1 : Int32} {v : Int32} {M09 : FS} (sz : Nat) (hv : fX8_neighbours M0 x1 = some (v, M09)) : MI l yX8_neighbours wsX8_neighbours (rmN 7 164) D E ((wMod E a0 M0)) sz [.ref (a0 0), .int x1] v (fun _ : Unit => (wMod E a0 M09)) 0 0 := by
  refine MI.of (by decide) rfl (Nat.le_of_ble_eq_true rfl) ?_
  intro p e s m below meth c A H locs C hP hK hD hS hA ls hl
  have hl : lv_has ls 2 [(0, .ref (a0 0)), (1, .int x1)] := hl
  obtain ⟨hx, hb, hr, hml, hown, hlocks, hts⟩ := id C
  unfold fX8_neighbours at hv
  refine lv_iload_n hx hb dX8_neighbours_0 rfl (lv_at hl 1 rfl) ?_
  obtain ⟨r_1, hr_1, hv⟩ := qB hv
  refine q_S (As := [.int x1]) (rest := []) hx hb hml hown hts hl.1 (kX8_isNumber l D E  hr_1) zNo_mv (va_cwS 1 hts gX8_neighbours_X8_isNumber rfl rfl rfl (by decide +kernel) ⟨Nat.le_of_ble_eq_true rfl, Nat.le_of_ble_eq_true rfl⟩) (hP.sub (ws' := []) [] rfl) hK trivial rfl rfl (Nat.le_of_ble_eq_true rfl) dX8_neighbours_1 ⟨Nat.zero_le _, Nat.zero_le _⟩ ?_
  refine lv_if_ne (tgt := 9) hx hb dX8_neighbours_4 (by decide) (fun c_4_k_2 => ?_) (fun c_4_k_2 => ?_)
  · have hv := qF c_4_k_2 hv
    refine lv_aload_n hx hb dX8_neighbours_9 rfl (lv_at hl 0 rfl) ?_
    refine lv_iload_n hx hb dX8_neighbours_10 rfl (lv_at hl 1 rfl) ?_
    obtain ⟨r_3, hr_3, hv⟩ := qB hv
    refine q_V (As := [.int x1]) (rest := []) (C := RX8) (T0 := TX8) (N0 := 14) (ci := 7) hx hb hml hown hts hl.1 (kX8_whatIs l D E a0 hr_3) zNo_mv (cwV 1 hts gX8_neighbours_X8_whatIs rfl rfl rfl (by decide +kernel) ⟨Nat.le_of_ble_eq_true rfl, Nat.le_of_ble_eq_true rfl⟩) 0 rfl rfl (hP.sub (ws' := (wMod E a0 M0)) [0, 1, 2, 3, 4, 5, 6, 7, 8] rfl) hK trivial rfl rfl (Nat.le_of_ble_eq_true rfl) dX8_neighbours_11 ⟨Nat.zero_le _, Nat.zero_le _⟩ ?_
    refine lv_iconst (v := 1) hx hb dX8_neighbours_14 (by decide) ?_
    refine lv_icmp_ne (tgt := 30) hx hb dX8_neighbours_15 (by decide) (fun c_15_k_4 => ?_) (fun c_15_k_4 => ?_)
    · have hv := qF c_15_k_4 hv
      refine lv_bipush (v := -5) hx hb dX8_neighbours_30 (by decide) ?_
      exact m_ret (F := (fun (Z9 : FS) => (fun _ : Unit => (wMod E a0 Z9)))) () C dX8_neighbours_32 hv hP hD hS
    · have hv := qT c_15_k_4 hv
      refine lv_aload_n hx hb dX8_neighbours_18 rfl (lv_at hl 0 rfl) ?_
      refine lv_aload_n hx hb dX8_neighbours_19 rfl (lv_at hl 0 rfl) ?_
      refine va_get (D := D) (ci := 7) (v := .ref (a0 1)) (C := RX8) (T := TX8) (N := 14) hx hb hts hiX8_neighbours_X8 hown hK hP 0 rfl rfl 0 (by decide) (hts _ lkX8_neighbours_7) (fun _ h9 => h9) rfl dX8_neighbours_20 ?_
      refine lv_iload_n hx hb dX8_neighbours_23 rfl (lv_at hl 1 rfl) ?_
      obtain ⟨⟨rS_5, S_5⟩, hS_5, hv⟩ := qB hv
      try dsimp only at hv
      refine m_VI (As := [.ref (a0 1), .int x1]) (rest := []) (C := RX8) (T0 := TX8) (N0 := 14) (ci := 7) (Wn := (fun _ : Unit => (wMod E a0 S_5))) (Wr := []) hx hb hml hown hts hl.1 (kX8_meetsAll l D E a0 H.size hS_5) (cwV 2 hts gX8_neighbours_X8_meetsAll rfl rfl rfl (by decide +kernel) ⟨Nat.le_of_ble_eq_true rfl, Nat.le_of_ble_eq_true rfl⟩) 0 rfl rfl hP hD hS hA hK [0, 1, 2, 3, 4, 5, 6, 7, 8] [] [0, 1, 2, 3, 4, 5, 6, 7, 8] (by decide) rfl rfl (by decide) (by decide) (by decide) (fun _ => rfl) rfl rfl (Nat.le_of_ble_eq_true rfl) dX8_neighbours_24 ⟨Nat.le_of_ble_eq_true rfl, Nat.le_of_ble_eq_true rfl⟩ (fun _ H locs hP hD hS => ?_)
      refine lv_goto (tgt := 32) hx hb dX8_neighbours_27 (by decide) ?_
      exact m_ret (F := (fun (Z9 : FS) => (fun _ : Unit => (wMod E a0 Z9)))) () C dX8_neighbours_32 hv hP hD hS
  · have hv := qT c_4_k_2 hv
    refine lv_iconst (v := -1) hx hb dX8_neighbours_7 (by decide) ?_
    exact m_ret (F := (fun (Z9 : FS) => (fun _ : Unit => (wMod E a0 Z9)))) () C dX8_neighbours_8 hv hP hD hS

theorem lkX8_ofLeaves_148 : (.fieldLink RX8 148 "QuarterTilesModel" "apart" "I" : Cond) ∈ wsX8_ofLeaves := by decide +kernel
theorem hiX8_ofLeaves_X8 : ∀ w ∈ wsX80, w ∈ wsX8_ofLeaves := by decide +kernel
theorem lkX8_ofLeaves_7 : (.fieldLink RX8 7 "QuarterTilesModel" "now" "[I" : Cond) ∈ wsX8_ofLeaves := by decide +kernel
set_option maxRecDepth 100000 in
set_option maxHeartbeats 4000000 in
theorem wfX8_ofLeaves_L90 {p : Program} {e : Env} {s : State} {m : MethodId} {below : List Frame} {meth : Method} {c : Code} {l : Launch} {D : va_G} {E : Nat → ClassId} {a0 : Nat → Nat} {x1 : Int32} {v : Int32} {M09 : FS} {A : Nat → Prop} {y1 : Int32} (C : Ctx p s m meth c [.ref (a0 0), .int x1] wsX8_ofLeaves cX8_ofLeaves 7 (some .int) RX8) (hK : va_K D vwCl (tyE E) s) (hA : ∀ q : Nat, s.heap.size ≤ q → A q) {g12 : FS → Int32 → Int32 → Int32 → Option (Int32 × FS)} (hg12 : ∀ (M0 : FS) (y2 : Int32) (y3 : Int32) (y4 : Int32), g12 M0 y2 y3 y4 = some (v, M09) → ∀ (H : Heap) (locs : List Loc) (ls : Array Slot), va_P D vwCl ((wMod E a0 M0)) H → va_D A ((wMod E a0 M0)) → va_S A s.heap H locs → lv_has ls 7 [(0, .ref (a0 0)), (1, .int y1), (2, .int y2), (3, .int y3), (4, .int y4)] → WI p l e (rmN 7 164) s m [.ref (a0 0), .int x1] below meth c D A v (fun _ : Unit => (wMod E a0 M09)) 0 0 H locs 0 0 12 ls []) : ∀ (M0 : FS) (y2 : Int32) (y3 : Int32) (y4 : Int32) (y5 : Int32) (z0 : Int32), fX8_ofLeaves_L90 g12 y1 M0 y2 y3 y4 y5 z0 = some (v, M09) → ∀ (H : Heap) (locs : List Loc) (ls : Array Slot), va_P D vwCl ((wMod E a0 M0)) H → va_D A ((wMod E a0 M0)) → va_S A s.heap H locs → lv_has ls 7 [(0, .ref (a0 0)), (1, .int y1), (2, .int y2), (3, .int y3), (4, .int y4), (5, .int y5)] → WI p l e (rmN 7 164) s m [.ref (a0 0), .int x1] below meth c D A v (fun _ : Unit => (wMod E a0 M09)) 0 0 H locs 0 0 90 ls [.int z0] := by
  obtain ⟨hx, hb, hr, hml, hown, hlocks, hts⟩ := id C
  intro M0 y2 y3 y4 y5 z0 hv H locs ls hP hD hS hl
  unfold fX8_ofLeaves_L90 at hv
  refine lv_istore (lv' := [(6, .int z0), (0, .ref (a0 0)), (1, .int y1), (2, .int y2), (3, .int y3), (4, .int y4), (5, .int y5)]) hx hb dX8_ofLeaves_90 hl (by decide) rfl (fun ls hl => ?_)
  refine lv_iload hx hb dX8_ofLeaves_92 (lv_at hl 5 rfl) ?_
  refine lv_iload hx hb dX8_ofLeaves_94 (lv_at hl 0 rfl) ?_
  refine lv_if_ge (tgt := 103) hx hb dX8_ofLeaves_96 (by decide) (fun c_96_k_11 => ?_) (fun c_96_k_11 => ?_)
  · have hv := qT c_96_k_11 hv
    refine lv_iload hx hb dX8_ofLeaves_103 (lv_at hl 6 rfl) ?_
    obtain ⟨r_12, hr_12, hv⟩ := qB hv
    refine q_S (As := [.int y5]) (rest := [.int y4]) hx hb hml hown hts hl.1 (kX8_pathsIn l D E  hr_12) zNo_mv (va_cwS 1 hts gX8_ofLeaves_X8_pathsIn rfl rfl rfl (by decide +kernel) ⟨Nat.le_of_ble_eq_true rfl, Nat.le_of_ble_eq_true rfl⟩) (hP.sub (ws' := []) [] rfl) hK trivial rfl rfl (Nat.le_of_ble_eq_true rfl) dX8_ofLeaves_105 ⟨Nat.zero_le _, Nat.zero_le _⟩ ?_
    refine lv_iadd hx hb dX8_ofLeaves_108 ?_
    refine lv_istore (lv' := [(4, .int (y4 + r_12)), (6, .int z0), (0, .ref (a0 0)), (1, .int y1), (2, .int y2), (3, .int y3), (5, .int y5)]) hx hb dX8_ofLeaves_109 hl (by decide) rfl (fun ls hl => ?_)
    refine lv_goto (tgt := 12) hx hb dX8_ofLeaves_111 (by decide) ?_
    exact hg12 M0 y2 y3 (y4 + r_12) hv _ _ _ hP hD hS (lv_sub hl [2, 3, 4, 5, 0] rfl)
  · have hv := qF c_96_k_11 hv
    refine lv_iconst (v := 0) hx hb dX8_ofLeaves_99 (by decide) ?_
    refine lv_goto (tgt := 108) hx hb dX8_ofLeaves_100 (by decide) ?_
    refine lv_iadd hx hb dX8_ofLeaves_108 ?_
    refine lv_istore (lv' := [(4, .int (y4 + (0:Int32))), (6, .int z0), (0, .ref (a0 0)), (1, .int y1), (2, .int y2), (3, .int y3), (5, .int y5)]) hx hb dX8_ofLeaves_109 hl (by decide) rfl (fun ls hl => ?_)
    refine lv_goto (tgt := 12) hx hb dX8_ofLeaves_111 (by decide) ?_
    exact hg12 M0 y2 y3 (y4 + (0:Int32)) hv _ _ _ hP hD hS (lv_sub hl [2, 3, 4, 5, 0] rfl)

set_option maxRecDepth 100000 in
set_option maxHeartbeats 4000000 in
theorem wfX8_ofLeaves_L68 {p : Program} {e : Env} {s : State} {m : MethodId} {below : List Frame} {meth : Method} {c : Code} {l : Launch} {D : va_G} {E : Nat → ClassId} {a0 : Nat → Nat} {x1 : Int32} {v : Int32} {M09 : FS} {A : Nat → Prop} {y1 : Int32} (C : Ctx p s m meth c [.ref (a0 0), .int x1] wsX8_ofLeaves cX8_ofLeaves 7 (some .int) RX8) (hK : va_K D vwCl (tyE E) s) (hA : ∀ q : Nat, s.heap.size ≤ q → A q) {g12 : FS → Int32 → Int32 → Int32 → Option (Int32 × FS)} (hg12 : ∀ (M0 : FS) (y2 : Int32) (y3 : Int32) (y4 : Int32), g12 M0 y2 y3 y4 = some (v, M09) → ∀ (H : Heap) (locs : List Loc) (ls : Array Slot), va_P D vwCl ((wMod E a0 M0)) H → va_D A ((wMod E a0 M0)) → va_S A s.heap H locs → lv_has ls 7 [(0, .ref (a0 0)), (1, .int y1), (2, .int y2), (3, .int y3), (4, .int y4)] → WI p l e (rmN 7 164) s m [.ref (a0 0), .int x1] below meth c D A v (fun _ : Unit => (wMod E a0 M09)) 0 0 H locs 0 0 12 ls []) : ∀ (M0 : FS) (y2 : Int32) (y4 : Int32) (y5 : Int32) (z0 : Int32) (z1 : Int32), fX8_ofLeaves_L68 g12 y1 M0 y2 y4 y5 z0 z1 = some (v, M09) → ∀ (H : Heap) (locs : List Loc) (ls : Array Slot), va_P D vwCl ((wMod E a0 M0)) H → va_D A ((wMod E a0 M0)) → va_S A s.heap H locs → lv_has ls 7 [(0, .ref (a0 0)), (1, .int y1), (2, .int y2), (4, .int y4), (5, .int y5)] → WI p l e (rmN 7 164) s m [.ref (a0 0), .int x1] below meth c D A v (fun _ : Unit => (wMod E a0 M09)) 0 0 H locs 0 0 68 ls [.int z0, .int z1] := by
  obtain ⟨hx, hb, hr, hml, hown, hlocks, hts⟩ := id C
  intro M0 y2 y4 y5 z0 z1 hv H locs ls hP hD hS hl
  unfold fX8_ofLeaves_L68 at hv
  refine lv_iadd hx hb dX8_ofLeaves_68 ?_
  refine lv_istore_n (lv' := [(3, .int (z1 + z0)), (0, .ref (a0 0)), (1, .int y1), (2, .int y2), (4, .int y4), (5, .int y5)]) hx hb dX8_ofLeaves_69 rfl hl (by decide) rfl (fun ls hl => ?_)
  refine lv_iload_n hx hb dX8_ofLeaves_70 rfl (lv_at hl 2 rfl) ?_
  refine lv_bipush (v := 6) hx hb dX8_ofLeaves_71 (by decide) ?_
  refine lv_icmp_ne (tgt := 89) hx hb dX8_ofLeaves_73 (by decide) (fun c_73_k_10 => ?_) (fun c_73_k_10 => ?_)
  · have hv := qF c_73_k_10 hv
    refine lv_iconst (v := 0) hx hb dX8_ofLeaves_89 (by decide) ?_
    exact wfX8_ofLeaves_L90 C hK hA (hg12 := hg12) M0 y2 (z1 + z0) y4 y5 (0:Int32) hv _ _ _ hP hD hS (lv_sub hl [1, 2, 3, 0, 4, 5] rfl)
  · have hv := qT c_73_k_10 hv
    refine lv_aload_n hx hb dX8_ofLeaves_76 rfl (lv_at hl 1 rfl) ?_
    refine lv_aload_n hx hb dX8_ofLeaves_77 rfl (lv_at hl 1 rfl) ?_
    refine va_get (D := D) (ci := 7) (v := .ref (a0 1)) (C := RX8) (T := TX8) (N := 14) hx hb hts hiX8_ofLeaves_X8 hown hK hP 0 rfl rfl 0 (by decide) (hts _ lkX8_ofLeaves_7) (fun _ h9 => h9) rfl dX8_ofLeaves_78 ?_
    refine lv_iload hx hb dX8_ofLeaves_81 (lv_at hl 5 rfl) ?_
    obtain ⟨⟨rS_13, S_13⟩, hS_13, hv⟩ := qB hv
    try dsimp only at hv
    refine m_VI (As := [.ref (a0 1), .int y5]) (rest := []) (C := RX8) (T0 := TX8) (N0 := 14) (ci := 7) (Wn := (fun _ : Unit => (wMod E a0 S_13))) (Wr := []) hx hb hml hown hts hl.1 (kX8_meetsAll l D E a0 H.size hS_13) (cwV 2 hts gX8_ofLeaves_X8_meetsAll rfl rfl rfl (by decide +kernel) ⟨Nat.le_of_ble_eq_true rfl, Nat.le_of_ble_eq_true rfl⟩) 0 rfl rfl hP hD hS hA hK [0, 1, 2, 3, 4, 5, 6, 7, 8] [] [0, 1, 2, 3, 4, 5, 6, 7, 8] (by decide) rfl rfl (by decide) (by decide) (by decide) (fun _ => rfl) rfl rfl (Nat.le_of_ble_eq_true rfl) dX8_ofLeaves_83 ⟨Nat.le_of_ble_eq_true rfl, Nat.le_of_ble_eq_true rfl⟩ (fun _ H locs hP hD hS => ?_)
    refine lv_goto (tgt := 90) hx hb dX8_ofLeaves_86 (by decide) ?_
    exact wfX8_ofLeaves_L90 C hK hA (hg12 := hg12) S_13 y2 (z1 + z0) y4 y5 rS_13 hv _ _ _ hP hD hS (lv_sub hl [1, 2, 3, 0, 4, 5] rfl)

set_option maxRecDepth 100000 in
set_option maxHeartbeats 4000000 in
theorem wfX8_ofLeaves_L49 {p : Program} {e : Env} {s : State} {m : MethodId} {below : List Frame} {meth : Method} {c : Code} {l : Launch} {D : va_G} {E : Nat → ClassId} {a0 : Nat → Nat} {x1 : Int32} {v : Int32} {M09 : FS} {A : Nat → Prop} {y1 : Int32} (C : Ctx p s m meth c [.ref (a0 0), .int x1] wsX8_ofLeaves cX8_ofLeaves 7 (some .int) RX8) (hK : va_K D vwCl (tyE E) s) (hA : ∀ q : Nat, s.heap.size ≤ q → A q) {g12 : FS → Int32 → Int32 → Int32 → Option (Int32 × FS)} (hg12 : ∀ (M0 : FS) (y2 : Int32) (y3 : Int32) (y4 : Int32), g12 M0 y2 y3 y4 = some (v, M09) → ∀ (H : Heap) (locs : List Loc) (ls : Array Slot), va_P D vwCl ((wMod E a0 M0)) H → va_D A ((wMod E a0 M0)) → va_S A s.heap H locs → lv_has ls 7 [(0, .ref (a0 0)), (1, .int y1), (2, .int y2), (3, .int y3), (4, .int y4)] → WI p l e (rmN 7 164) s m [.ref (a0 0), .int x1] below meth c D A v (fun _ : Unit => (wMod E a0 M09)) 0 0 H locs 0 0 12 ls []) : ∀ (M0 : FS) (y3 : Int32) (y4 : Int32) (y5 : Int32) (z0 : Int32), fX8_ofLeaves_L49 g12 y1 M0 y3 y4 y5 z0 = some (v, M09) → ∀ (H : Heap) (locs : List Loc) (ls : Array Slot), va_P D vwCl ((wMod E a0 M0)) H → va_D A ((wMod E a0 M0)) → va_S A s.heap H locs → lv_has ls 7 [(0, .ref (a0 0)), (1, .int y1), (3, .int y3), (4, .int y4), (5, .int y5)] → WI p l e (rmN 7 164) s m [.ref (a0 0), .int x1] below meth c D A v (fun _ : Unit => (wMod E a0 M09)) 0 0 H locs 0 0 49 ls [.int z0] := by
  obtain ⟨hx, hb, hr, hml, hown, hlocks, hts⟩ := id C
  intro M0 y3 y4 y5 z0 hv H locs ls hP hD hS hl
  unfold fX8_ofLeaves_L49 at hv
  refine lv_istore_n (lv' := [(2, .int z0), (0, .ref (a0 0)), (1, .int y1), (3, .int y3), (4, .int y4), (5, .int y5)]) hx hb dX8_ofLeaves_49 rfl hl (by decide) rfl (fun ls hl => ?_)
  refine lv_iload_n hx hb dX8_ofLeaves_50 rfl (lv_at hl 3 rfl) ?_
  refine lv_aload_n hx hb dX8_ofLeaves_51 rfl (lv_at hl 1 rfl) ?_
  refine va_get (D := D) (ci := 7) (v := .ref (a0 1)) (C := RX8) (T := TX8) (N := 14) hx hb hts hiX8_ofLeaves_X8 hown hK hP 0 rfl rfl 0 (by decide) (hts _ lkX8_ofLeaves_7) (fun _ h9 => h9) rfl dX8_ofLeaves_52 ?_
  refine lv_iload hx hb dX8_ofLeaves_55 (lv_at hl 5 rfl) ?_
  obtain ⟨r_8, hr_8, hv⟩ := qB hv
  refine q_S (As := [.ref (a0 1), .int y5]) (rest := [.int y3]) hx hb hml hown hts hl.1 (kX8_pointsIn l D E (a0 1) hr_8) zNo_mv (va_cwS 2 hts gX8_ofLeaves_X8_pointsIn rfl rfl rfl (by decide +kernel) ⟨Nat.le_of_ble_eq_true rfl, Nat.le_of_ble_eq_true rfl⟩) (hP.sub (ws' := [aI E (a0 1) 116 (M0 0)]) [1] rfl) hK trivial rfl rfl (Nat.le_of_ble_eq_true rfl) dX8_ofLeaves_57 ⟨Nat.zero_le _, Nat.zero_le _⟩ ?_
  refine lv_if_ne (tgt := 67) hx hb dX8_ofLeaves_60 (by decide) (fun c_60_k_9 => ?_) (fun c_60_k_9 => ?_)
  · have hv := qF c_60_k_9 hv
    refine lv_iconst (v := 0) hx hb dX8_ofLeaves_67 (by decide) ?_
    exact wfX8_ofLeaves_L68 C hK hA (hg12 := hg12) M0 z0 y4 y5 (0:Int32) y3 hv _ _ _ hP hD hS (lv_sub hl [1, 2, 0, 4, 5] rfl)
  · have hv := qT c_60_k_9 hv
    refine lv_iconst (v := 1) hx hb dX8_ofLeaves_63 (by decide) ?_
    refine lv_goto (tgt := 68) hx hb dX8_ofLeaves_64 (by decide) ?_
    exact wfX8_ofLeaves_L68 C hK hA (hg12 := hg12) M0 z0 y4 y5 (1:Int32) y3 hv _ _ _ hP hD hS (lv_sub hl [1, 2, 0, 4, 5] rfl)

set_option maxRecDepth 100000 in
set_option maxHeartbeats 4000000 in
theorem wfX8_ofLeaves_L12 {p : Program} {e : Env} {s : State} {m : MethodId} {below : List Frame} {meth : Method} {c : Code} {l : Launch} {D : va_G} {E : Nat → ClassId} {a0 : Nat → Nat} {x1 : Int32} {v : Int32} {M09 : FS} {A : Nat → Prop} {y1 : Int32} (C : Ctx p s m meth c [.ref (a0 0), .int x1] wsX8_ofLeaves cX8_ofLeaves 7 (some .int) RX8) (hK : va_K D vwCl (tyE E) s) (hA : ∀ q : Nat, s.heap.size ≤ q → A q) : ∀ (q : Nat) (M0 : FS) (y2 : Int32) (y3 : Int32) (y4 : Int32), fX8_ofLeaves_L12 y1 q M0 y2 y3 y4 = some (v, M09) → ∀ (H : Heap) (locs : List Loc) (ls : Array Slot), va_P D vwCl ((wMod E a0 M0)) H → va_D A ((wMod E a0 M0)) → va_S A s.heap H locs → lv_has ls 7 [(0, .ref (a0 0)), (1, .int y1), (2, .int y2), (3, .int y3), (4, .int y4)] → WI p l e (rmN 7 164) s m [.ref (a0 0), .int x1] below meth c D A v (fun _ : Unit => (wMod E a0 M09)) 0 0 H locs 0 0 12 ls [] := by
  obtain ⟨hx, hb, hr, hml, hown, hlocks, hts⟩ := id C
  intro q
  induction q with
  | zero =>
    intro M0 y2 y3 y4 hv
    cases hv
  | succ q ih =>
    intro M0 y2 y3 y4 hv H locs ls hP hD hS hl
    rw [fX8_ofLeaves_L12.eq_2] at hv
    refine lv_iload hx hb dX8_ofLeaves_12 (lv_at hl 4 rfl) ?_
    refine lv_sipush (v := 4096) hx hb dX8_ofLeaves_14 (by decide) ?_
    refine lv_icmp_ge (tgt := 114) hx hb dX8_ofLeaves_17 (by decide) (fun c_17_k_2 => ?_) (fun c_17_k_2 => ?_)
    · have hv := qT c_17_k_2 hv
      refine lv_iload_n hx hb dX8_ofLeaves_114 rfl (lv_at hl 1 rfl) ?_
      refine lv_iconst (v := 3) hx hb dX8_ofLeaves_115 (by decide) ?_
      refine lv_icmp_ne (tgt := 123) hx hb dX8_ofLeaves_116 (by decide) (fun c_116_k_3 => ?_) (fun c_116_k_3 => ?_)
      · have hv := qF c_116_k_3 hv
        refine lv_iload_n hx hb dX8_ofLeaves_123 rfl (lv_at hl 1 rfl) ?_
        refine lv_iconst (v := 4) hx hb dX8_ofLeaves_124 (by decide) ?_
        refine lv_icmp_ne (tgt := 132) hx hb dX8_ofLeaves_125 (by decide) (fun c_125_k_4 => ?_) (fun c_125_k_4 => ?_)
        · have hv := qF c_125_k_4 hv
          refine lv_aload_n hx hb dX8_ofLeaves_132 rfl (lv_at hl 0 rfl) ?_
          refine va_get (D := D) (ci := 7) (v := .int (M0 8 3)) (C := RX8) (T := TX8) (N := 14) hx hb hts hiX8_ofLeaves_X8 hown hK hP 0 rfl rfl 9 (by decide) (hts _ lkX8_ofLeaves_148) (fun _ h9 => h9) rfl dX8_ofLeaves_133 ?_
          exact m_ret (F := (fun (Z9 : FS) => (fun _ : Unit => (wMod E a0 Z9)))) () C dX8_ofLeaves_136 hv hP hD hS
        · have hv := qT c_125_k_4 hv
          refine lv_iload_n hx hb dX8_ofLeaves_128 rfl (lv_at hl 3 rfl) ?_
          refine lv_goto (tgt := 136) hx hb dX8_ofLeaves_129 (by decide) ?_
          exact m_ret (F := (fun (Z9 : FS) => (fun _ : Unit => (wMod E a0 Z9)))) () C dX8_ofLeaves_136 hv hP hD hS
      · have hv := qT c_116_k_3 hv
        refine lv_iload_n hx hb dX8_ofLeaves_119 rfl (lv_at hl 2 rfl) ?_
        refine lv_goto (tgt := 136) hx hb dX8_ofLeaves_120 (by decide) ?_
        exact m_ret (F := (fun (Z9 : FS) => (fun _ : Unit => (wMod E a0 Z9)))) () C dX8_ofLeaves_136 hv hP hD hS
    · have hv := qF c_17_k_2 hv
      refine lv_aload_n hx hb dX8_ofLeaves_20 rfl (lv_at hl 0 rfl) ?_
      refine va_get (D := D) (ci := 7) (v := .ref (a0 1)) (C := RX8) (T := TX8) (N := 14) hx hb hts hiX8_ofLeaves_X8 hown hK hP 0 rfl rfl 0 (by decide) (hts _ lkX8_ofLeaves_7) (fun _ h9 => h9) rfl dX8_ofLeaves_21 ?_
      refine lv_iload hx hb dX8_ofLeaves_24 (lv_at hl 4 rfl) ?_
      obtain ⟨r_5, hr_5, hv⟩ := qB hv
      refine q_S (As := [.ref (a0 1), .int y4]) (rest := []) hx hb hml hown hts hl.1 (kX8_leafOf l D E (a0 1) hr_5) zNo_mv (va_cwS 2 hts gX8_ofLeaves_X8_leafOf rfl rfl rfl (by decide +kernel) ⟨Nat.le_of_ble_eq_true rfl, Nat.le_of_ble_eq_true rfl⟩) (hP.sub (ws' := [aI E (a0 1) 116 (M0 0)]) [1] rfl) hK trivial rfl rfl (Nat.le_of_ble_eq_true rfl) dX8_ofLeaves_26 ⟨Nat.zero_le _, Nat.zero_le _⟩ ?_
      refine lv_istore (lv' := [(5, .int r_5), (0, .ref (a0 0)), (1, .int y1), (2, .int y2), (3, .int y3), (4, .int y4)]) hx hb dX8_ofLeaves_29 hl (by decide) rfl (fun ls hl => ?_)
      refine lv_iload hx hb dX8_ofLeaves_31 (lv_at hl 0 rfl) ?_
      obtain ⟨r_6, hr_6, hv⟩ := qB hv
      refine q_S (As := [.int r_5]) (rest := []) hx hb hml hown hts hl.1 (kX8_depthOf l D E  hr_6) zNo_mv (va_cwS 1 hts gX8_ofLeaves_X8_depthOf rfl rfl rfl (by decide +kernel) ⟨Nat.le_of_ble_eq_true rfl, Nat.le_of_ble_eq_true rfl⟩) (hP.sub (ws' := []) [] rfl) hK trivial rfl rfl (Nat.le_of_ble_eq_true rfl) dX8_ofLeaves_33 ⟨Nat.zero_le _, Nat.zero_le _⟩ ?_
      refine lv_iload_n hx hb dX8_ofLeaves_36 rfl (lv_at hl 3 rfl) ?_
      refine lv_icmp_le (tgt := 48) hx hb dX8_ofLeaves_37 (by decide) (fun c_37_k_7 => ?_) (fun c_37_k_7 => ?_)
      · have hv := qT c_37_k_7 hv
        refine lv_iload_n hx hb dX8_ofLeaves_48 rfl (lv_at hl 3 rfl) ?_
        exact wfX8_ofLeaves_L49 C hK hA (hg12 := ih) M0 y3 y4 r_5 y2 hv _ _ _ hP hD hS (lv_sub hl [1, 2, 4, 5, 0] rfl)
      · have hv := qF c_37_k_7 hv
        refine lv_iload hx hb dX8_ofLeaves_40 (lv_at hl 0 rfl) ?_
        obtain ⟨r_14, hr_14, hv⟩ := qB hv
        refine q_S (As := [.int r_5]) (rest := []) hx hb hml hown hts hl.1 (kX8_depthOf l D E  hr_14) zNo_mv (va_cwS 1 hts gX8_ofLeaves_X8_depthOf rfl rfl rfl (by decide +kernel) ⟨Nat.le_of_ble_eq_true rfl, Nat.le_of_ble_eq_true rfl⟩) (hP.sub (ws' := []) [] rfl) hK trivial rfl rfl (Nat.le_of_ble_eq_true rfl) dX8_ofLeaves_42 ⟨Nat.zero_le _, Nat.zero_le _⟩ ?_
        refine lv_goto (tgt := 49) hx hb dX8_ofLeaves_45 (by decide) ?_
        exact wfX8_ofLeaves_L49 C hK hA (hg12 := ih) M0 y3 y4 r_5 r_14 hv _ _ _ hP hD hS (lv_sub hl [1, 2, 4, 5, 0] rfl)

set_option maxRecDepth 100000 in
set_option maxHeartbeats 4000000 in
theorem kX8_ofLeaves (l : Launch) (D : va_G) (E : Nat → ClassId) (a0 : Nat → Nat) {M0 : FS} {x1 : Int32} {v : Int32} {M09 : FS} (sz : Nat) (hv : fX8_ofLeaves M0 x1 = some (v, M09)) : MI l yX8_ofLeaves wsX8_ofLeaves (rmN 7 164) D E ((wMod E a0 M0)) sz [.ref (a0 0), .int x1] v (fun _ : Unit => (wMod E a0 M09)) 0 0 := by
  refine MI.of (by decide) rfl (Nat.le_of_ble_eq_true rfl) ?_
  intro p e s m below meth c A H locs C hP hK hD hS hA ls hl
  have hl : lv_has ls 7 [(0, .ref (a0 0)), (1, .int x1)] := hl
  obtain ⟨hx, hb, hr, hml, hown, hlocks, hts⟩ := id C
  unfold fX8_ofLeaves at hv
  refine lv_iconst (v := 0) hx hb dX8_ofLeaves_0 (by decide) ?_
  refine lv_istore_n (lv' := [(2, .int (0:Int32)), (0, .ref (a0 0)), (1, .int x1)]) hx hb dX8_ofLeaves_1 rfl hl (by decide) rfl (fun ls hl => ?_)
  refine lv_iconst (v := 0) hx hb dX8_ofLeaves_2 (by decide) ?_
  refine lv_istore_n (lv' := [(3, .int (0:Int32)), (2, .int (0:Int32)), (0, .ref (a0 0)), (1, .int x1)]) hx hb dX8_ofLeaves_3 rfl hl (by decide) rfl (fun ls hl => ?_)
  refine lv_iconst (v := 0) hx hb dX8_ofLeaves_4 (by decide) ?_
  refine lv_istore (lv' := [(4, .int (0:Int32)), (3, .int (0:Int32)), (2, .int (0:Int32)), (0, .ref (a0 0)), (1, .int x1)]) hx hb dX8_ofLeaves_5 hl (by decide) rfl (fun ls hl => ?_)
  refine lv_aload_n hx hb dX8_ofLeaves_7 rfl (lv_at hl 3 rfl) ?_
  refine lv_iconst (v := 0) hx hb dX8_ofLeaves_8 (by decide) ?_
  refine va_put (D := D) (ci := 7) (v := .int (0:Int32)) (ty := .int) (C := RX8) (T := TX8) (N := 14) hx hb hts hiX8_ofLeaves_X8 tyX8 tyX8_ok nmX8 hown hK hP hD hS 0 rfl rfl 9 (by decide) (hts _ lkX8_ofLeaves_148) (fun _ h9 => h9) rfl (by decide +kernel) rfl rfl (Nat.le_of_ble_eq_true rfl) dX8_ofLeaves_9 (fun H locs hP hD hS => ?_)
  obtain ⟨M0s_1, hM0s_1, hv⟩ := qB hv
  obtain ⟨hP, hD⟩ := m_st (F := fun Z9 : FS => (wMod E a0 Z9)) (Option.some.inj hM0s_1) hP hD
  exact wfX8_ofLeaves_L12 C hK hA  6000 M0s_1 (0:Int32) (0:Int32) (0:Int32) hv _ _ _ hP hD hS (lv_sub hl [3, 4, 2, 1, 0] rfl)

theorem lkX8_count_7 : (.fieldLink RX8 7 "QuarterTilesModel" "now" "[I" : Cond) ∈ wsX8_count := by decide +kernel
theorem hiX8_count_X8 : ∀ w ∈ wsX80, w ∈ wsX8_count := by decide +kernel
theorem lkX8_count_160 : (.fieldLink RX8 160 "QuarterTilesModel" "padded" "I" : Cond) ∈ wsX8_count := by decide +kernel
theorem lkX8_count_35 : (.fieldLink RX8 35 "QuarterTilesModel" "states" "I" : Cond) ∈ wsX8_count := by decide +kernel
set_option maxRecDepth 100000 in
set_option maxHeartbeats 4000000 in
theorem kX8_count (l : Launch) (D : va_G) (E : Nat → ClassId) (a0 : Nat → Nat) {M0 : FS} {x1 : Int32} {v : Int32} {M09 : FS} (sz : Nat) (hv : fX8_count M0 x1 = some (v, M09)) : MI l yX8_count wsX8_count (rmN 8 190) D E ((wMod E a0 M0)) sz [.ref (a0 0), .int x1] v (fun _ : Unit => (wMod E a0 M09)) 0 0 := by
  refine MI.of (by decide) rfl (Nat.le_of_ble_eq_true rfl) ?_
  intro p e s m below meth c A H locs C hP hK hD hS hA ls hl
  have hl : lv_has ls 3 [(0, .ref (a0 0)), (1, .int x1)] := hl
  obtain ⟨hx, hb, hr, hml, hown, hlocks, hts⟩ := id C
  unfold fX8_count at hv
  refine lv_iconst (v := 0) hx hb dX8_count_0 (by decide) ?_
  refine lv_istore_n (lv' := [(2, .int (0:Int32)), (0, .ref (a0 0)), (1, .int x1)]) hx hb dX8_count_1 rfl hl (by decide) rfl (fun ls hl => ?_)
  refine lv_iload_n hx hb dX8_count_2 rfl (lv_at hl 2 rfl) ?_
  rcases (Decidable.em (x1 = 0)) with c_3_k_1 | c_3_k_1
  · have hv := qT c_3_k_1 hv
    refine lv_tableIn (tgt := 60) hx hb dX8_count_3 (by rw [c_3_k_1]; decide) (by rw [c_3_k_1]; decide) (by rw [c_3_k_1]; rfl) (by decide) ?_
    refine lv_aload_n hx hb dX8_count_60 rfl (lv_at hl 1 rfl) ?_
    refine va_get (D := D) (ci := 7) (v := .ref (a0 1)) (C := RX8) (T := TX8) (N := 14) hx hb hts hiX8_count_X8 hown hK hP 0 rfl rfl 0 (by decide) (hts _ lkX8_count_7) (fun _ h9 => h9) rfl dX8_count_61 ?_
    refine lv_iconst (v := 0) hx hb dX8_count_64 (by decide) ?_
    refine q_ildc (f := (M0 0)) hx hb hK hP 1 0 rfl rfl 0 (by decide) (by unfold vp_in; decide) dX8_count_65 ?_
    exact m_ret (F := (fun (Z9 : FS) => (fun _ : Unit => (wMod E a0 Z9)))) () C dX8_count_66 hv hP hD hS
  have hv := qF c_3_k_1 hv
  rcases (Decidable.em (x1 = 1)) with c_3_k_2 | c_3_k_2
  · have hv := qT c_3_k_2 hv
    refine lv_tableIn (tgt := 67) hx hb dX8_count_3 (by rw [c_3_k_2]; decide) (by rw [c_3_k_2]; decide) (by rw [c_3_k_2]; rfl) (by decide) ?_
    refine lv_aload_n hx hb dX8_count_67 rfl (lv_at hl 1 rfl) ?_
    refine va_get (D := D) (ci := 7) (v := .ref (a0 1)) (C := RX8) (T := TX8) (N := 14) hx hb hts hiX8_count_X8 hown hK hP 0 rfl rfl 0 (by decide) (hts _ lkX8_count_7) (fun _ h9 => h9) rfl dX8_count_68 ?_
    obtain ⟨r_3, hr_3, hv⟩ := qB hv
    refine q_S (As := [.ref (a0 1)]) (rest := []) hx hb hml hown hts hl.1 (kX8_allLeaves l D E (a0 1) hr_3) zNo_mv (va_cwS 1 hts gX8_count_X8_allLeaves rfl rfl rfl (by decide +kernel) ⟨Nat.le_of_ble_eq_true rfl, Nat.le_of_ble_eq_true rfl⟩) (hP.sub (ws' := [aI E (a0 1) 116 (M0 0)]) [1] rfl) hK trivial rfl rfl (Nat.le_of_ble_eq_true rfl) dX8_count_71 ⟨Nat.zero_le _, Nat.zero_le _⟩ ?_
    exact m_ret (F := (fun (Z9 : FS) => (fun _ : Unit => (wMod E a0 Z9)))) () C dX8_count_74 hv hP hD hS
  have hv := qF c_3_k_2 hv
  rcases (Decidable.em (x1 = 2)) with c_3_k_4 | c_3_k_4
  · have hv := qT c_3_k_4 hv
    refine lv_tableIn (tgt := 75) hx hb dX8_count_3 (by rw [c_3_k_4]; decide) (by rw [c_3_k_4]; decide) (by rw [c_3_k_4]; rfl) (by decide) ?_
    refine lv_aload_n hx hb dX8_count_75 rfl (lv_at hl 1 rfl) ?_
    refine va_get (D := D) (ci := 7) (v := .ref (a0 1)) (C := RX8) (T := TX8) (N := 14) hx hb hts hiX8_count_X8 hown hK hP 0 rfl rfl 0 (by decide) (hts _ lkX8_count_7) (fun _ h9 => h9) rfl dX8_count_76 ?_
    obtain ⟨r_5, hr_5, hv⟩ := qB hv
    refine q_S (As := [.ref (a0 1)]) (rest := []) hx hb hml hown hts hl.1 (kX8_allLeaves l D E (a0 1) hr_5) zNo_mv (va_cwS 1 hts gX8_count_X8_allLeaves rfl rfl rfl (by decide +kernel) ⟨Nat.le_of_ble_eq_true rfl, Nat.le_of_ble_eq_true rfl⟩) (hP.sub (ws' := [aI E (a0 1) 116 (M0 0)]) [1] rfl) hK trivial rfl rfl (Nat.le_of_ble_eq_true rfl) dX8_count_79 ⟨Nat.zero_le _, Nat.zero_le _⟩ ?_
    refine lv_istore_n (lv' := [(2, .int r_5), (0, .ref (a0 0)), (1, .int x1)]) hx hb dX8_count_82 rfl hl (by decide) rfl (fun ls hl => ?_)
    refine lv_iload_n hx hb dX8_count_83 rfl (lv_at hl 0 rfl) ?_
    refine lv_iload_n hx hb dX8_count_84 rfl (lv_at hl 0 rfl) ?_
    refine lv_iconst (v := 1) hx hb dX8_count_85 (by decide) ?_
    refine lv_isub hx hb dX8_count_86 ?_
    refine lv_iconst (v := 3) hx hb dX8_count_87 (by decide) ?_
    refine lv_idiv hx hb dX8_count_88 (by decide) ?_
    refine lv_iadd hx hb dX8_count_89 ?_
    exact m_ret (F := (fun (Z9 : FS) => (fun _ : Unit => (wMod E a0 Z9)))) () C dX8_count_90 hv hP hD hS
  have hv := qF c_3_k_4 hv
  rcases (Decidable.em (x1 = 3)) with c_3_k_6 | c_3_k_6
  · have hv := qT c_3_k_6 hv
    refine lv_tableIn (tgt := 91) hx hb dX8_count_3 (by rw [c_3_k_6]; decide) (by rw [c_3_k_6]; decide) (by rw [c_3_k_6]; rfl) (by decide) ?_
    refine lv_aload_n hx hb dX8_count_91 rfl (lv_at hl 1 rfl) ?_
    refine lv_iload_n hx hb dX8_count_92 rfl (lv_at hl 2 rfl) ?_
    obtain ⟨⟨rS_7, S_7⟩, hS_7, hv⟩ := qB hv
    try dsimp only at hv
    refine m_VI (As := [.int x1]) (rest := []) (C := RX8) (T0 := TX8) (N0 := 14) (ci := 7) (Wn := (fun _ : Unit => (wMod E a0 S_7))) (Wr := []) hx hb hml hown hts hl.1 (kX8_ofLeaves l D E a0 H.size hS_7) (cwV 1 hts gX8_count_X8_ofLeaves rfl rfl rfl (by decide +kernel) ⟨Nat.le_of_ble_eq_true rfl, Nat.le_of_ble_eq_true rfl⟩) 0 rfl rfl hP hD hS hA hK [0, 1, 2, 3, 4, 5, 6, 7, 8] [] [0, 1, 2, 3, 4, 5, 6, 7, 8] (by decide) rfl rfl (by decide) (by decide) (by decide) (fun _ => rfl) rfl rfl (Nat.le_of_ble_eq_true rfl) dX8_count_93 ⟨Nat.le_of_ble_eq_true rfl, Nat.le_of_ble_eq_true rfl⟩ (fun _ H locs hP hD hS => ?_)
    exact m_ret (F := (fun (Z9 : FS) => (fun _ : Unit => (wMod E a0 Z9)))) () C dX8_count_96 hv hP hD hS
  have hv := qF c_3_k_6 hv
  rcases (Decidable.em (x1 = 4)) with c_3_k_8 | c_3_k_8
  · have hv := qT c_3_k_8 hv
    refine lv_tableIn (tgt := 91) hx hb dX8_count_3 (by rw [c_3_k_8]; decide) (by rw [c_3_k_8]; decide) (by rw [c_3_k_8]; rfl) (by decide) ?_
    refine lv_aload_n hx hb dX8_count_91 rfl (lv_at hl 1 rfl) ?_
    refine lv_iload_n hx hb dX8_count_92 rfl (lv_at hl 2 rfl) ?_
    obtain ⟨⟨rS_9, S_9⟩, hS_9, hv⟩ := qB hv
    try dsimp only at hv
    refine m_VI (As := [.int x1]) (rest := []) (C := RX8) (T0 := TX8) (N0 := 14) (ci := 7) (Wn := (fun _ : Unit => (wMod E a0 S_9))) (Wr := []) hx hb hml hown hts hl.1 (kX8_ofLeaves l D E a0 H.size hS_9) (cwV 1 hts gX8_count_X8_ofLeaves rfl rfl rfl (by decide +kernel) ⟨Nat.le_of_ble_eq_true rfl, Nat.le_of_ble_eq_true rfl⟩) 0 rfl rfl hP hD hS hA hK [0, 1, 2, 3, 4, 5, 6, 7, 8] [] [0, 1, 2, 3, 4, 5, 6, 7, 8] (by decide) rfl rfl (by decide) (by decide) (by decide) (fun _ => rfl) rfl rfl (Nat.le_of_ble_eq_true rfl) dX8_count_93 ⟨Nat.le_of_ble_eq_true rfl, Nat.le_of_ble_eq_true rfl⟩ (fun _ H locs hP hD hS => ?_)
    exact m_ret (F := (fun (Z9 : FS) => (fun _ : Unit => (wMod E a0 Z9)))) () C dX8_count_96 hv hP hD hS
  have hv := qF c_3_k_8 hv
  rcases (Decidable.em (x1 = 5)) with c_3_k_10 | c_3_k_10
  · have hv := qT c_3_k_10 hv
    refine lv_tableIn (tgt := 97) hx hb dX8_count_3 (by rw [c_3_k_10]; decide) (by rw [c_3_k_10]; decide) (by rw [c_3_k_10]; rfl) (by decide) ?_
    refine lv_aload_n hx hb dX8_count_97 rfl (lv_at hl 1 rfl) ?_
    refine va_get (D := D) (ci := 7) (v := .ref (a0 1)) (C := RX8) (T := TX8) (N := 14) hx hb hts hiX8_count_X8 hown hK hP 0 rfl rfl 0 (by decide) (hts _ lkX8_count_7) (fun _ h9 => h9) rfl dX8_count_98 ?_
    refine lv_iconst (v := 3) hx hb dX8_count_101 (by decide) ?_
    refine q_ildc (f := (M0 0)) hx hb hK hP 1 0 rfl rfl 3 (by decide) (by unfold vp_in; decide) dX8_count_102 ?_
    exact m_ret (F := (fun (Z9 : FS) => (fun _ : Unit => (wMod E a0 Z9)))) () C dX8_count_103 hv hP hD hS
  have hv := qF c_3_k_10 hv
  rcases (Decidable.em (x1 = 6)) with c_3_k_11 | c_3_k_11
  · have hv := qT c_3_k_11 hv
    refine lv_tableIn (tgt := 91) hx hb dX8_count_3 (by rw [c_3_k_11]; decide) (by rw [c_3_k_11]; decide) (by rw [c_3_k_11]; rfl) (by decide) ?_
    refine lv_aload_n hx hb dX8_count_91 rfl (lv_at hl 1 rfl) ?_
    refine lv_iload_n hx hb dX8_count_92 rfl (lv_at hl 2 rfl) ?_
    obtain ⟨⟨rS_12, S_12⟩, hS_12, hv⟩ := qB hv
    try dsimp only at hv
    refine m_VI (As := [.int x1]) (rest := []) (C := RX8) (T0 := TX8) (N0 := 14) (ci := 7) (Wn := (fun _ : Unit => (wMod E a0 S_12))) (Wr := []) hx hb hml hown hts hl.1 (kX8_ofLeaves l D E a0 H.size hS_12) (cwV 1 hts gX8_count_X8_ofLeaves rfl rfl rfl (by decide +kernel) ⟨Nat.le_of_ble_eq_true rfl, Nat.le_of_ble_eq_true rfl⟩) 0 rfl rfl hP hD hS hA hK [0, 1, 2, 3, 4, 5, 6, 7, 8] [] [0, 1, 2, 3, 4, 5, 6, 7, 8] (by decide) rfl rfl (by decide) (by decide) (by decide) (fun _ => rfl) rfl rfl (Nat.le_of_ble_eq_true rfl) dX8_count_93 ⟨Nat.le_of_ble_eq_true rfl, Nat.le_of_ble_eq_true rfl⟩ (fun _ H locs hP hD hS => ?_)
    exact m_ret (F := (fun (Z9 : FS) => (fun _ : Unit => (wMod E a0 Z9)))) () C dX8_count_96 hv hP hD hS
  have hv := qF c_3_k_11 hv
  rcases (Decidable.em (x1 = 7)) with c_3_k_13 | c_3_k_13
  · have hv := qT c_3_k_13 hv
    refine lv_tableIn (tgt := 104) hx hb dX8_count_3 (by rw [c_3_k_13]; decide) (by rw [c_3_k_13]; decide) (by rw [c_3_k_13]; rfl) (by decide) ?_
    refine lv_aload_n hx hb dX8_count_104 rfl (lv_at hl 1 rfl) ?_
    refine va_get (D := D) (ci := 7) (v := .ref (a0 1)) (C := RX8) (T := TX8) (N := 14) hx hb hts hiX8_count_X8 hown hK hP 0 rfl rfl 0 (by decide) (hts _ lkX8_count_7) (fun _ h9 => h9) rfl dX8_count_105 ?_
    refine lv_iconst (v := 1) hx hb dX8_count_108 (by decide) ?_
    refine lv_iload_n hx hb dX8_count_109 rfl (lv_at hl 2 rfl) ?_
    refine lv_iadd hx hb dX8_count_110 ?_
    refine lv_bipush (v := 7) hx hb dX8_count_111 (by decide) ?_
    refine lv_isub hx hb dX8_count_113 ?_
    obtain ⟨x_14, hx_14, hv⟩ := qB hv
    refine q_ild hx hb hK hP 1 0 rfl rfl hx_14 dX8_count_114 ?_
    exact m_ret (F := (fun (Z9 : FS) => (fun _ : Unit => (wMod E a0 Z9)))) () C dX8_count_115 hv hP hD hS
  have hv := qF c_3_k_13 hv
  rcases (Decidable.em (x1 = 8)) with c_3_k_15 | c_3_k_15
  · have hv := qT c_3_k_15 hv
    refine lv_tableIn (tgt := 104) hx hb dX8_count_3 (by rw [c_3_k_15]; decide) (by rw [c_3_k_15]; decide) (by rw [c_3_k_15]; rfl) (by decide) ?_
    refine lv_aload_n hx hb dX8_count_104 rfl (lv_at hl 1 rfl) ?_
    refine va_get (D := D) (ci := 7) (v := .ref (a0 1)) (C := RX8) (T := TX8) (N := 14) hx hb hts hiX8_count_X8 hown hK hP 0 rfl rfl 0 (by decide) (hts _ lkX8_count_7) (fun _ h9 => h9) rfl dX8_count_105 ?_
    refine lv_iconst (v := 1) hx hb dX8_count_108 (by decide) ?_
    refine lv_iload_n hx hb dX8_count_109 rfl (lv_at hl 2 rfl) ?_
    refine lv_iadd hx hb dX8_count_110 ?_
    refine lv_bipush (v := 7) hx hb dX8_count_111 (by decide) ?_
    refine lv_isub hx hb dX8_count_113 ?_
    obtain ⟨x_16, hx_16, hv⟩ := qB hv
    refine q_ild hx hb hK hP 1 0 rfl rfl hx_16 dX8_count_114 ?_
    exact m_ret (F := (fun (Z9 : FS) => (fun _ : Unit => (wMod E a0 Z9)))) () C dX8_count_115 hv hP hD hS
  have hv := qF c_3_k_15 hv
  rcases (Decidable.em (x1 = 9)) with c_3_k_17 | c_3_k_17
  · have hv := qT c_3_k_17 hv
    refine lv_tableIn (tgt := 116) hx hb dX8_count_3 (by rw [c_3_k_17]; decide) (by rw [c_3_k_17]; decide) (by rw [c_3_k_17]; rfl) (by decide) ?_
    refine lv_aload_n hx hb dX8_count_116 rfl (lv_at hl 1 rfl) ?_
    refine va_get (D := D) (ci := 7) (v := .int (M0 8 1)) (C := RX8) (T := TX8) (N := 14) hx hb hts hiX8_count_X8 hown hK hP 0 rfl rfl 7 (by decide) (hts _ lkX8_count_160) (fun _ h9 => h9) rfl dX8_count_117 ?_
    exact m_ret (F := (fun (Z9 : FS) => (fun _ : Unit => (wMod E a0 Z9)))) () C dX8_count_120 hv hP hD hS
  have hv := qF c_3_k_17 hv
  rcases (Decidable.em (x1 = 10)) with c_3_k_18 | c_3_k_18
  · have hv := qT c_3_k_18 hv
    refine lv_tableIn (tgt := 121) hx hb dX8_count_3 (by rw [c_3_k_18]; decide) (by rw [c_3_k_18]; decide) (by rw [c_3_k_18]; rfl) (by decide) ?_
    refine lv_aload_n hx hb dX8_count_121 rfl (lv_at hl 1 rfl) ?_
    refine va_get (D := D) (ci := 7) (v := .int (M0 8 0)) (C := RX8) (T := TX8) (N := 14) hx hb hts hiX8_count_X8 hown hK hP 0 rfl rfl 3 (by decide) (hts _ lkX8_count_35) (fun _ h9 => h9) rfl dX8_count_122 ?_
    exact m_ret (F := (fun (Z9 : FS) => (fun _ : Unit => (wMod E a0 Z9)))) () C dX8_count_125 hv hP hD hS
  have hv := qF c_3_k_18 hv
  refine lv_tableOut (tgt := 126) hx hb dX8_count_3 (q_tout (fun k h1 h2 hq => by
      rcases (show k = 0 ∨ k = 1 ∨ k = 2 ∨ k = 3 ∨ k = 4 ∨ k = 5 ∨ k = 6 ∨ k = 7 ∨ k = 8 ∨ k = 9 ∨ k = 10 by omega) with rfl | rfl | rfl | rfl | rfl | rfl | rfl | rfl | rfl | rfl | rfl
      · exact c_3_k_1 hq
      · exact c_3_k_2 hq
      · exact c_3_k_4 hq
      · exact c_3_k_6 hq
      · exact c_3_k_8 hq
      · exact c_3_k_10 hq
      · exact c_3_k_11 hq
      · exact c_3_k_13 hq
      · exact c_3_k_15 hq
      · exact c_3_k_17 hq
      · exact c_3_k_18 hq)) (by decide) ?_
  refine lv_bipush (v := -2) hx hb dX8_count_126 (by decide) ?_
  exact m_ret (F := (fun (Z9 : FS) => (fun _ : Unit => (wMod E a0 Z9)))) () C dX8_count_128 hv hP hD hS

theorem lkX8_newOnes_29 : (.fieldLink RX8 29 "QuarterTilesModel" "lasts" "[I" : Cond) ∈ wsX8_newOnes := by decide +kernel
theorem hiX8_newOnes_X8 : ∀ w ∈ wsX80, w ∈ wsX8_newOnes := by decide +kernel
set_option maxRecDepth 100000 in
set_option maxHeartbeats 4000000 in
theorem wfX8_newOnes_L40 {p : Program} {e : Env} {s : State} {m : MethodId} {below : List Frame} {meth : Method} {c : Code} {l : Launch} {D : va_G} {E : Nat → ClassId} {a0 : Nat → Nat} {x1 : Int32} {v : Int32} {M09 : FS} {A : Nat → Prop} {y1 : Int32} (C : Ctx p s m meth c [.ref (a0 0), .int x1] wsX8_newOnes cX8_newOnes 5 (some .int) RX8) (hK : va_K D vwCl (tyE E) s) (hA : ∀ q : Nat, s.heap.size ≤ q → A q) {g7 : FS → Int32 → Int32 → Option (Int32 × FS)} (hg7 : ∀ (M0 : FS) (y2 : Int32) (y3 : Int32), g7 M0 y2 y3 = some (v, M09) → ∀ (H : Heap) (locs : List Loc) (ls : Array Slot), va_P D vwCl ((wMod E a0 M0)) H → va_D A ((wMod E a0 M0)) → va_S A s.heap H locs → lv_has ls 5 [(0, .ref (a0 0)), (1, .int y1), (2, .int y2), (3, .int y3)] → WI p l e (rmN 1 21) s m [.ref (a0 0), .int x1] below meth c D A v (fun _ : Unit => (wMod E a0 M09)) 0 0 H locs 0 0 7 ls []) : ∀ (M0 : FS) (y3 : Int32) (y4 : Int32) (z0 : Int32) (z1 : Int32), fX8_newOnes_L40 g7 y1 M0 y3 y4 z0 z1 = some (v, M09) → ∀ (H : Heap) (locs : List Loc) (ls : Array Slot), va_P D vwCl ((wMod E a0 M0)) H → va_D A ((wMod E a0 M0)) → va_S A s.heap H locs → lv_has ls 5 [(0, .ref (a0 0)), (1, .int y1), (3, .int y3), (4, .int y4)] → WI p l e (rmN 1 21) s m [.ref (a0 0), .int x1] below meth c D A v (fun _ : Unit => (wMod E a0 M09)) 0 0 H locs 0 0 40 ls [.int z0, .int z1] := by
  obtain ⟨hx, hb, hr, hml, hown, hlocks, hts⟩ := id C
  intro M0 y3 y4 z0 z1 hv H locs ls hP hD hS hl
  unfold fX8_newOnes_L40 at hv
  refine lv_iadd hx hb dX8_newOnes_40 ?_
  refine lv_istore_n (lv' := [(2, .int (z1 + z0)), (0, .ref (a0 0)), (1, .int y1), (3, .int y3), (4, .int y4)]) hx hb dX8_newOnes_41 rfl hl (by decide) rfl (fun ls hl => ?_)
  refine lv_aload_n hx hb dX8_newOnes_42 rfl (lv_at hl 1 rfl) ?_
  refine va_get (D := D) (ci := 7) (v := .ref (a0 7)) (C := RX8) (T := TX8) (N := 14) hx hb hts hiX8_newOnes_X8 hown hK hP 0 rfl rfl 10 (by decide) (hts _ lkX8_newOnes_29) (fun _ h9 => h9) rfl dX8_newOnes_43 ?_
  refine lv_iload_n hx hb dX8_newOnes_46 rfl (lv_at hl 3 rfl) ?_
  refine lv_iload hx hb dX8_newOnes_47 (lv_at hl 4 rfl) ?_
  obtain ⟨f_6, hf_6, hv⟩ := qB hv
  refine m_ist hx hb hK hP hD hS 7 0 rfl rfl hf_6 dX8_newOnes_49 (fun H locs hP hD hS => ?_)
  obtain ⟨M0s_7, hM0s_7, hv⟩ := qB hv
  obtain ⟨hP, hD⟩ := m_st (F := fun Z9 : FS => (wMod E a0 Z9)) (Option.some.inj hM0s_7) hP hD
  refine lv_iinc (v := (y3 + (-1))) (lv' := [(3, .int (y3 + (-1))), (2, .int (z1 + z0)), (0, .ref (a0 0)), (1, .int y1), (4, .int y4)]) hx hb dX8_newOnes_50 hl (k := 3) rfl (by rfl) (by decide) rfl (fun ls hl => ?_)
  refine lv_goto (tgt := 7) hx hb dX8_newOnes_53 (by decide) ?_
  exact hg7 M0s_7 (z1 + z0) (y3 + (-1)) hv _ _ _ hP hD hS (lv_sub hl [2, 3, 1, 0] rfl)

set_option maxRecDepth 100000 in
set_option maxHeartbeats 4000000 in
theorem wfX8_newOnes_L7 {p : Program} {e : Env} {s : State} {m : MethodId} {below : List Frame} {meth : Method} {c : Code} {l : Launch} {D : va_G} {E : Nat → ClassId} {a0 : Nat → Nat} {x1 : Int32} {v : Int32} {M09 : FS} {A : Nat → Prop} {y1 : Int32} (C : Ctx p s m meth c [.ref (a0 0), .int x1] wsX8_newOnes cX8_newOnes 5 (some .int) RX8) (hK : va_K D vwCl (tyE E) s) (hA : ∀ q : Nat, s.heap.size ≤ q → A q) : ∀ (q : Nat) (M0 : FS) (y2 : Int32) (y3 : Int32), fX8_newOnes_L7 y1 q M0 y2 y3 = some (v, M09) → ∀ (H : Heap) (locs : List Loc) (ls : Array Slot), va_P D vwCl ((wMod E a0 M0)) H → va_D A ((wMod E a0 M0)) → va_S A s.heap H locs → lv_has ls 5 [(0, .ref (a0 0)), (1, .int y1), (2, .int y2), (3, .int y3)] → WI p l e (rmN 1 21) s m [.ref (a0 0), .int x1] below meth c D A v (fun _ : Unit => (wMod E a0 M09)) 0 0 H locs 0 0 7 ls [] := by
  obtain ⟨hx, hb, hr, hml, hown, hlocks, hts⟩ := id C
  intro q
  induction q with
  | zero =>
    intro M0 y2 y3 hv
    cases hv
  | succ q ih =>
    intro M0 y2 y3 hv H locs ls hP hD hS hl
    rw [fX8_newOnes_L7.eq_2] at hv
    refine lv_iload_n hx hb dX8_newOnes_7 rfl (lv_at hl 3 rfl) ?_
    refine lv_if_lt (tgt := 56) hx hb dX8_newOnes_8 (by decide) (fun c_8_k_2 => ?_) (fun c_8_k_2 => ?_)
    · have hv := qT c_8_k_2 hv
      refine lv_iload_n hx hb dX8_newOnes_56 rfl (lv_at hl 2 rfl) ?_
      exact m_ret (F := (fun (Z9 : FS) => (fun _ : Unit => (wMod E a0 Z9)))) () C dX8_newOnes_57 hv hP hD hS
    · have hv := qF c_8_k_2 hv
      refine lv_iload_n hx hb dX8_newOnes_11 rfl (lv_at hl 1 rfl) ?_
      refine lv_iconst (v := 2) hx hb dX8_newOnes_12 (by decide) ?_
      refine lv_iload_n hx hb dX8_newOnes_13 rfl (lv_at hl 1 rfl) ?_
      obtain ⟨r_3, hr_3, hv⟩ := qB hv
      refine q_S (As := [.int y1]) (rest := [.int (2:Int32), .int y1]) hx hb hml hown hts hl.1 (kX8_depthOf l D E  hr_3) zNo_mv (va_cwS 1 hts gX8_newOnes_X8_depthOf rfl rfl rfl (by decide +kernel) ⟨Nat.le_of_ble_eq_true rfl, Nat.le_of_ble_eq_true rfl⟩) (hP.sub (ws' := []) [] rfl) hK trivial rfl rfl (Nat.le_of_ble_eq_true rfl) dX8_newOnes_14 ⟨Nat.zero_le _, Nat.zero_le _⟩ ?_
      refine lv_iload_n hx hb dX8_newOnes_17 rfl (lv_at hl 3 rfl) ?_
      refine lv_isub hx hb dX8_newOnes_18 ?_
      refine lv_imul hx hb dX8_newOnes_19 ?_
      refine lv_ishr hx hb dX8_newOnes_20 ?_
      refine lv_istore (lv' := [(4, .int (y1 >>> (((2:Int32) * (r_3 - y3)) &&& 31))), (0, .ref (a0 0)), (1, .int y1), (2, .int y2), (3, .int y3)]) hx hb dX8_newOnes_21 hl (by decide) rfl (fun ls hl => ?_)
      refine lv_iload_n hx hb dX8_newOnes_23 rfl (lv_at hl 3 rfl) ?_
      refine lv_aload_n hx hb dX8_newOnes_24 rfl (lv_at hl 1 rfl) ?_
      refine va_get (D := D) (ci := 7) (v := .ref (a0 7)) (C := RX8) (T := TX8) (N := 14) hx hb hts hiX8_newOnes_X8 hown hK hP 0 rfl rfl 10 (by decide) (hts _ lkX8_newOnes_29) (fun _ h9 => h9) rfl dX8_newOnes_25 ?_
      refine lv_iload_n hx hb dX8_newOnes_28 rfl (lv_at hl 4 rfl) ?_
      obtain ⟨x_4, hx_4, hv⟩ := qB hv
      refine q_ild hx hb hK hP 7 0 rfl rfl hx_4 dX8_newOnes_29 ?_
      refine lv_iload hx hb dX8_newOnes_30 (lv_at hl 0 rfl) ?_
      refine lv_icmp_ne (tgt := 39) hx hb dX8_newOnes_32 (by decide) (fun c_32_k_5 => ?_) (fun c_32_k_5 => ?_)
      · have hv := qF c_32_k_5 hv
        refine lv_iconst (v := 1) hx hb dX8_newOnes_39 (by decide) ?_
        exact wfX8_newOnes_L40 C hK hA (hg7 := ih) M0 y3 (y1 >>> (((2:Int32) * (r_3 - y3)) &&& 31)) (1:Int32) y2 hv _ _ _ hP hD hS (lv_sub hl [1, 2, 4, 0] rfl)
      · have hv := qT c_32_k_5 hv
        refine lv_iconst (v := 0) hx hb dX8_newOnes_35 (by decide) ?_
        refine lv_goto (tgt := 40) hx hb dX8_newOnes_36 (by decide) ?_
        exact wfX8_newOnes_L40 C hK hA (hg7 := ih) M0 y3 (y1 >>> (((2:Int32) * (r_3 - y3)) &&& 31)) (0:Int32) y2 hv _ _ _ hP hD hS (lv_sub hl [1, 2, 4, 0] rfl)

set_option maxRecDepth 100000 in
set_option maxHeartbeats 4000000 in
theorem kX8_newOnes (l : Launch) (D : va_G) (E : Nat → ClassId) (a0 : Nat → Nat) {M0 : FS} {x1 : Int32} {v : Int32} {M09 : FS} (sz : Nat) (hv : fX8_newOnes M0 x1 = some (v, M09)) : MI l yX8_newOnes wsX8_newOnes (rmN 1 21) D E ((wMod E a0 M0)) sz [.ref (a0 0), .int x1] v (fun _ : Unit => (wMod E a0 M09)) 0 0 := by
  refine MI.of (by decide) rfl (Nat.le_of_ble_eq_true rfl) ?_
  intro p e s m below meth c A H locs C hP hK hD hS hA ls hl
  have hl : lv_has ls 5 [(0, .ref (a0 0)), (1, .int x1)] := hl
  obtain ⟨hx, hb, hr, hml, hown, hlocks, hts⟩ := id C
  unfold fX8_newOnes at hv
  refine lv_iconst (v := 0) hx hb dX8_newOnes_0 (by decide) ?_
  refine lv_istore_n (lv' := [(2, .int (0:Int32)), (0, .ref (a0 0)), (1, .int x1)]) hx hb dX8_newOnes_1 rfl hl (by decide) rfl (fun ls hl => ?_)
  refine lv_iload_n hx hb dX8_newOnes_2 rfl (lv_at hl 2 rfl) ?_
  obtain ⟨r_1, hr_1, hv⟩ := qB hv
  refine q_S (As := [.int x1]) (rest := []) hx hb hml hown hts hl.1 (kX8_depthOf l D E  hr_1) zNo_mv (va_cwS 1 hts gX8_newOnes_X8_depthOf rfl rfl rfl (by decide +kernel) ⟨Nat.le_of_ble_eq_true rfl, Nat.le_of_ble_eq_true rfl⟩) (hP.sub (ws' := []) [] rfl) hK trivial rfl rfl (Nat.le_of_ble_eq_true rfl) dX8_newOnes_3 ⟨Nat.zero_le _, Nat.zero_le _⟩ ?_
  refine lv_istore_n (lv' := [(3, .int r_1), (2, .int (0:Int32)), (0, .ref (a0 0)), (1, .int x1)]) hx hb dX8_newOnes_6 rfl hl (by decide) rfl (fun ls hl => ?_)
  exact wfX8_newOnes_L7 C hK hA  6000 M0 (0:Int32) r_1 hv _ _ _ hP hD hS (lv_sub hl [2, 3, 1, 0] rfl)

theorem lkX8_tilesIn_7 : (.fieldLink RX8 7 "QuarterTilesModel" "now" "[I" : Cond) ∈ wsX8_tilesIn := by decide +kernel
theorem hiX8_tilesIn_X8 : ∀ w ∈ wsX80, w ∈ wsX8_tilesIn := by decide +kernel
theorem lkX8_tilesIn_29 : (.fieldLink RX8 29 "QuarterTilesModel" "lasts" "[I" : Cond) ∈ wsX8_tilesIn := by decide +kernel
set_option maxRecDepth 100000 in
set_option maxHeartbeats 4000000 in
theorem wfX8_tilesIn_L80 {p : Program} {e : Env} {s : State} {m : MethodId} {below : List Frame} {meth : Method} {c : Code} {l : Launch} {D : va_G} {E : Nat → ClassId} {a0 : Nat → Nat} {x1 : Int32} {x2 : Int32} {x3 : Int32} {x4 : Int32} {x5 : Int32} {v : Int32} {M09 : FS} {A : Nat → Prop} {y1 : Int32} {y2 : Int32} {y3 : Int32} {y4 : Int32} {y5 : Int32} (C : Ctx p s m meth c [.ref (a0 0), .int x1, .int x2, .int x3, .int x4, .int x5] wsX8_tilesIn cX8_tilesIn 9 (some .int) RX8) (hK : va_K D vwCl (tyE E) s) (hA : ∀ q : Nat, s.heap.size ≤ q → A q) {g30 : FS → Int32 → Int32 → Option (Int32 × FS)} (hg30 : ∀ (M0 : FS) (y6 : Int32) (y7 : Int32), g30 M0 y6 y7 = some (v, M09) → ∀ (H : Heap) (locs : List Loc) (ls : Array Slot), va_P D vwCl ((wMod E a0 M0)) H → va_D A ((wMod E a0 M0)) → va_S A s.heap H locs → lv_has ls 9 [(0, .ref (a0 0)), (1, .int y1), (2, .int y2), (3, .int y3), (4, .int y4), (5, .int y5), (6, .int y6), (7, .int y7)] → WI p l e (rmN 5 111) s m [.ref (a0 0), .int x1, .int x2, .int x3, .int x4, .int x5] below meth c D A v (fun _ : Unit => (wMod E a0 M09)) 0 0 H locs 0 0 30 ls []) : ∀ (M0 : FS) (y7 : Int32) (y8 : Int32) (z0 : Int32) (z1 : Int32), fX8_tilesIn_L80 g30 y1 y2 y3 y4 y5 M0 y7 y8 z0 z1 = some (v, M09) → ∀ (H : Heap) (locs : List Loc) (ls : Array Slot), va_P D vwCl ((wMod E a0 M0)) H → va_D A ((wMod E a0 M0)) → va_S A s.heap H locs → lv_has ls 9 [(0, .ref (a0 0)), (1, .int y1), (2, .int y2), (3, .int y3), (4, .int y4), (5, .int y5), (7, .int y7), (8, .int y8)] → WI p l e (rmN 5 111) s m [.ref (a0 0), .int x1, .int x2, .int x3, .int x4, .int x5] below meth c D A v (fun _ : Unit => (wMod E a0 M09)) 0 0 H locs 0 0 80 ls [.int z0, .int z1] := by
  obtain ⟨hx, hb, hr, hml, hown, hlocks, hts⟩ := id C
  intro M0 y7 y8 z0 z1 hv H locs ls hP hD hS hl
  unfold fX8_tilesIn_L80 at hv
  refine lv_iadd hx hb dX8_tilesIn_80 ?_
  refine lv_istore (lv' := [(6, .int (z1 + z0)), (0, .ref (a0 0)), (1, .int y1), (2, .int y2), (3, .int y3), (4, .int y4), (5, .int y5), (7, .int y7), (8, .int y8)]) hx hb dX8_tilesIn_81 hl (by decide) rfl (fun ls hl => ?_)
  refine lv_iload hx hb dX8_tilesIn_83 (lv_at hl 7 rfl) ?_
  refine lv_iload hx hb dX8_tilesIn_85 (lv_at hl 8 rfl) ?_
  obtain ⟨r_9, hr_9, hv⟩ := qB hv
  refine q_S (As := [.int y8]) (rest := [.int y7]) hx hb hml hown hts hl.1 (kX8_pathsIn l D E  hr_9) zNo_mv (va_cwS 1 hts gX8_tilesIn_X8_pathsIn rfl rfl rfl (by decide +kernel) ⟨Nat.le_of_ble_eq_true rfl, Nat.le_of_ble_eq_true rfl⟩) (hP.sub (ws' := []) [] rfl) hK trivial rfl rfl (Nat.le_of_ble_eq_true rfl) dX8_tilesIn_87 ⟨Nat.zero_le _, Nat.zero_le _⟩ ?_
  refine lv_iadd hx hb dX8_tilesIn_90 ?_
  refine lv_istore (lv' := [(7, .int (y7 + r_9)), (6, .int (z1 + z0)), (0, .ref (a0 0)), (1, .int y1), (2, .int y2), (3, .int y3), (4, .int y4), (5, .int y5), (8, .int y8)]) hx hb dX8_tilesIn_91 hl (by decide) rfl (fun ls hl => ?_)
  refine lv_goto (tgt := 30) hx hb dX8_tilesIn_93 (by decide) ?_
  exact hg30 M0 (z1 + z0) (y7 + r_9) hv _ _ _ hP hD hS (lv_sub hl [2, 3, 4, 5, 6, 7, 1, 0] rfl)

set_option maxRecDepth 100000 in
set_option maxHeartbeats 4000000 in
theorem wfX8_tilesIn_L30 {p : Program} {e : Env} {s : State} {m : MethodId} {below : List Frame} {meth : Method} {c : Code} {l : Launch} {D : va_G} {E : Nat → ClassId} {a0 : Nat → Nat} {x1 : Int32} {x2 : Int32} {x3 : Int32} {x4 : Int32} {x5 : Int32} {v : Int32} {M09 : FS} {A : Nat → Prop} {y1 : Int32} {y2 : Int32} {y3 : Int32} {y4 : Int32} {y5 : Int32} (C : Ctx p s m meth c [.ref (a0 0), .int x1, .int x2, .int x3, .int x4, .int x5] wsX8_tilesIn cX8_tilesIn 9 (some .int) RX8) (hK : va_K D vwCl (tyE E) s) (hA : ∀ q : Nat, s.heap.size ≤ q → A q) : ∀ (q : Nat) (M0 : FS) (y6 : Int32) (y7 : Int32), fX8_tilesIn_L30 y1 y2 y3 y4 y5 q M0 y6 y7 = some (v, M09) → ∀ (H : Heap) (locs : List Loc) (ls : Array Slot), va_P D vwCl ((wMod E a0 M0)) H → va_D A ((wMod E a0 M0)) → va_S A s.heap H locs → lv_has ls 9 [(0, .ref (a0 0)), (1, .int y1), (2, .int y2), (3, .int y3), (4, .int y4), (5, .int y5), (6, .int y6), (7, .int y7)] → WI p l e (rmN 5 111) s m [.ref (a0 0), .int x1, .int x2, .int x3, .int x4, .int x5] below meth c D A v (fun _ : Unit => (wMod E a0 M09)) 0 0 H locs 0 0 30 ls [] := by
  obtain ⟨hx, hb, hr, hml, hown, hlocks, hts⟩ := id C
  intro q
  induction q with
  | zero =>
    intro M0 y6 y7 hv
    cases hv
  | succ q ih =>
    intro M0 y6 y7 hv H locs ls hP hD hS hl
    rw [fX8_tilesIn_L30.eq_2] at hv
    refine lv_iload hx hb dX8_tilesIn_30 (lv_at hl 7 rfl) ?_
    refine lv_sipush (v := 4096) hx hb dX8_tilesIn_32 (by decide) ?_
    refine lv_icmp_ge (tgt := 96) hx hb dX8_tilesIn_35 (by decide) (fun c_35_k_2 => ?_) (fun c_35_k_2 => ?_)
    · have hv := qT c_35_k_2 hv
      refine lv_iload hx hb dX8_tilesIn_96 (lv_at hl 6 rfl) ?_
      exact m_ret (F := (fun (Z9 : FS) => (fun _ : Unit => (wMod E a0 Z9)))) () C dX8_tilesIn_98 hv hP hD hS
    · have hv := qF c_35_k_2 hv
      refine lv_aload_n hx hb dX8_tilesIn_38 rfl (lv_at hl 0 rfl) ?_
      refine va_get (D := D) (ci := 7) (v := .ref (a0 1)) (C := RX8) (T := TX8) (N := 14) hx hb hts hiX8_tilesIn_X8 hown hK hP 0 rfl rfl 0 (by decide) (hts _ lkX8_tilesIn_7) (fun _ h9 => h9) rfl dX8_tilesIn_39 ?_
      refine lv_iload hx hb dX8_tilesIn_42 (lv_at hl 7 rfl) ?_
      obtain ⟨r_3, hr_3, hv⟩ := qB hv
      refine q_S (As := [.ref (a0 1), .int y7]) (rest := []) hx hb hml hown hts hl.1 (kX8_leafOf l D E (a0 1) hr_3) zNo_mv (va_cwS 2 hts gX8_tilesIn_X8_leafOf rfl rfl rfl (by decide +kernel) ⟨Nat.le_of_ble_eq_true rfl, Nat.le_of_ble_eq_true rfl⟩) (hP.sub (ws' := [aI E (a0 1) 116 (M0 0)]) [1] rfl) hK trivial rfl rfl (Nat.le_of_ble_eq_true rfl) dX8_tilesIn_44 ⟨Nat.zero_le _, Nat.zero_le _⟩ ?_
      refine lv_istore (lv' := [(8, .int r_3), (0, .ref (a0 0)), (1, .int y1), (2, .int y2), (3, .int y3), (4, .int y4), (5, .int y5), (6, .int y6), (7, .int y7)]) hx hb dX8_tilesIn_47 hl (by decide) rfl (fun ls hl => ?_)
      refine lv_iload hx hb dX8_tilesIn_49 (lv_at hl 0 rfl) ?_
      refine lv_iload_n hx hb dX8_tilesIn_51 rfl (lv_at hl 2 rfl) ?_
      refine lv_iload_n hx hb dX8_tilesIn_52 rfl (lv_at hl 3 rfl) ?_
      refine lv_iload_n hx hb dX8_tilesIn_53 rfl (lv_at hl 4 rfl) ?_
      refine lv_iload hx hb dX8_tilesIn_54 (lv_at hl 5 rfl) ?_
      obtain ⟨r_4, hr_4, hv⟩ := qB hv
      refine q_S (As := [.int r_3, .int y1, .int y2, .int y3, .int y4]) (rest := []) hx hb hml hown hts hl.1 (kX8_meetsWindow l D E  hr_4) zNo_mv (va_cwS 5 hts gX8_tilesIn_X8_meetsWindow rfl rfl rfl (by decide +kernel) ⟨Nat.le_of_ble_eq_true rfl, Nat.le_of_ble_eq_true rfl⟩) (hP.sub (ws' := []) [] rfl) hK trivial rfl rfl (Nat.le_of_ble_eq_true rfl) dX8_tilesIn_56 ⟨Nat.zero_le _, Nat.zero_le _⟩ ?_
      refine lv_if_eq (tgt := 83) hx hb dX8_tilesIn_59 (by decide) (fun c_59_k_5 => ?_) (fun c_59_k_5 => ?_)
      · have hv := qT c_59_k_5 hv
        refine lv_iload hx hb dX8_tilesIn_83 (lv_at hl 8 rfl) ?_
        refine lv_iload hx hb dX8_tilesIn_85 (lv_at hl 0 rfl) ?_
        obtain ⟨r_6, hr_6, hv⟩ := qB hv
        refine q_S (As := [.int r_3]) (rest := [.int y7]) hx hb hml hown hts hl.1 (kX8_pathsIn l D E  hr_6) zNo_mv (va_cwS 1 hts gX8_tilesIn_X8_pathsIn rfl rfl rfl (by decide +kernel) ⟨Nat.le_of_ble_eq_true rfl, Nat.le_of_ble_eq_true rfl⟩) (hP.sub (ws' := []) [] rfl) hK trivial rfl rfl (Nat.le_of_ble_eq_true rfl) dX8_tilesIn_87 ⟨Nat.zero_le _, Nat.zero_le _⟩ ?_
        refine lv_iadd hx hb dX8_tilesIn_90 ?_
        refine lv_istore (lv' := [(7, .int (y7 + r_6)), (8, .int r_3), (0, .ref (a0 0)), (1, .int y1), (2, .int y2), (3, .int y3), (4, .int y4), (5, .int y5), (6, .int y6)]) hx hb dX8_tilesIn_91 hl (by decide) rfl (fun ls hl => ?_)
        refine lv_goto (tgt := 30) hx hb dX8_tilesIn_93 (by decide) ?_
        exact ih M0 y6 (y7 + r_6) hv _ _ _ hP hD hS (lv_sub hl [2, 3, 4, 5, 6, 7, 8, 0] rfl)
      · have hv := qF c_59_k_5 hv
        refine lv_iload hx hb dX8_tilesIn_62 (lv_at hl 7 rfl) ?_
        refine lv_iload hx hb dX8_tilesIn_64 (lv_at hl 6 rfl) ?_
        refine lv_iconst (v := 1) hx hb dX8_tilesIn_66 (by decide) ?_
        refine lv_icmp_ne (tgt := 74) hx hb dX8_tilesIn_67 (by decide) (fun c_67_k_7 => ?_) (fun c_67_k_7 => ?_)
        · have hv := qF c_67_k_7 hv
          refine lv_aload_n hx hb dX8_tilesIn_74 rfl (lv_at hl 1 rfl) ?_
          refine lv_iload hx hb dX8_tilesIn_75 (lv_at hl 0 rfl) ?_
          obtain ⟨⟨rS_8, S_8⟩, hS_8, hv⟩ := qB hv
          try dsimp only at hv
          refine m_VI (As := [.int r_3]) (rest := [.int y6]) (C := RX8) (T0 := TX8) (N0 := 14) (ci := 7) (Wn := (fun _ : Unit => (wMod E a0 S_8))) (Wr := []) hx hb hml hown hts hl.1 (kX8_newOnes l D E a0 H.size hS_8) (cwV 1 hts gX8_tilesIn_X8_newOnes rfl rfl rfl (by decide +kernel) ⟨Nat.le_of_ble_eq_true rfl, Nat.le_of_ble_eq_true rfl⟩) 0 rfl rfl hP hD hS hA hK [0, 1, 2, 3, 4, 5, 6, 7, 8] [] [0, 1, 2, 3, 4, 5, 6, 7, 8] (by decide) rfl rfl (by decide) (by decide) (by decide) (fun _ => rfl) rfl rfl (Nat.le_of_ble_eq_true rfl) dX8_tilesIn_77 ⟨Nat.le_of_ble_eq_true rfl, Nat.le_of_ble_eq_true rfl⟩ (fun _ H locs hP hD hS => ?_)
          exact wfX8_tilesIn_L80 C hK hA (hg30 := ih) S_8 y7 r_3 rS_8 y6 hv _ _ _ hP hD hS (lv_sub hl [1, 2, 3, 4, 5, 6, 8, 0] rfl)
        · have hv := qT c_67_k_7 hv
          refine lv_iconst (v := 1) hx hb dX8_tilesIn_70 (by decide) ?_
          refine lv_goto (tgt := 80) hx hb dX8_tilesIn_71 (by decide) ?_
          exact wfX8_tilesIn_L80 C hK hA (hg30 := ih) M0 y7 r_3 (1:Int32) y6 hv _ _ _ hP hD hS (lv_sub hl [1, 2, 3, 4, 5, 6, 8, 0] rfl)

set_option maxRecDepth 100000 in
set_option maxHeartbeats 4000000 in
theorem wfX8_tilesIn_L3 {p : Program} {e : Env} {s : State} {m : MethodId} {below : List Frame} {meth : Method} {c : Code} {l : Launch} {D : va_G} {E : Nat → ClassId} {a0 : Nat → Nat} {x1 : Int32} {x2 : Int32} {x3 : Int32} {x4 : Int32} {x5 : Int32} {v : Int32} {M09 : FS} {A : Nat → Prop} {y1 : Int32} {y2 : Int32} {y3 : Int32} {y4 : Int32} {y5 : Int32} (C : Ctx p s m meth c [.ref (a0 0), .int x1, .int x2, .int x3, .int x4, .int x5] wsX8_tilesIn cX8_tilesIn 9 (some .int) RX8) (hK : va_K D vwCl (tyE E) s) (hA : ∀ q : Nat, s.heap.size ≤ q → A q) : ∀ (q : Nat) (M0 : FS) (y6 : Int32), fX8_tilesIn_L3 y1 y2 y3 y4 y5 q M0 y6 = some (v, M09) → ∀ (H : Heap) (locs : List Loc) (ls : Array Slot), va_P D vwCl ((wMod E a0 M0)) H → va_D A ((wMod E a0 M0)) → va_S A s.heap H locs → lv_has ls 9 [(0, .ref (a0 0)), (1, .int y1), (2, .int y2), (3, .int y3), (4, .int y4), (5, .int y5), (6, .int y6)] → WI p l e (rmN 5 111) s m [.ref (a0 0), .int x1, .int x2, .int x3, .int x4, .int x5] below meth c D A v (fun _ : Unit => (wMod E a0 M09)) 0 0 H locs 0 0 3 ls [] := by
  obtain ⟨hx, hb, hr, hml, hown, hlocks, hts⟩ := id C
  intro q
  induction q with
  | zero =>
    intro M0 y6 hv
    cases hv
  | succ q ih =>
    intro M0 y6 hv H locs ls hP hD hS hl
    rw [fX8_tilesIn_L3.eq_2] at hv
    refine lv_iload hx hb dX8_tilesIn_3 (lv_at hl 6 rfl) ?_
    refine lv_bipush (v := 6) hx hb dX8_tilesIn_5 (by decide) ?_
    refine lv_icmp_gt (tgt := 24) hx hb dX8_tilesIn_7 (by decide) (fun c_7_k_1 => ?_) (fun c_7_k_1 => ?_)
    · have hv := qT c_7_k_1 hv
      refine lv_iconst (v := 0) hx hb dX8_tilesIn_24 (by decide) ?_
      refine lv_istore (lv' := [(6, .int (0:Int32)), (0, .ref (a0 0)), (1, .int y1), (2, .int y2), (3, .int y3), (4, .int y4), (5, .int y5)]) hx hb dX8_tilesIn_25 hl (by decide) rfl (fun ls hl => ?_)
      refine lv_iconst (v := 0) hx hb dX8_tilesIn_27 (by decide) ?_
      refine lv_istore (lv' := [(7, .int (0:Int32)), (6, .int (0:Int32)), (0, .ref (a0 0)), (1, .int y1), (2, .int y2), (3, .int y3), (4, .int y4), (5, .int y5)]) hx hb dX8_tilesIn_28 hl (by decide) rfl (fun ls hl => ?_)
      exact wfX8_tilesIn_L30 C hK hA  6000 M0 (0:Int32) (0:Int32) hv _ _ _ hP hD hS (lv_sub hl [2, 3, 4, 5, 6, 7, 1, 0] rfl)
    · have hv := qF c_7_k_1 hv
      refine lv_aload_n hx hb dX8_tilesIn_10 rfl (lv_at hl 0 rfl) ?_
      refine va_get (D := D) (ci := 7) (v := .ref (a0 7)) (C := RX8) (T := TX8) (N := 14) hx hb hts hiX8_tilesIn_X8 hown hK hP 0 rfl rfl 10 (by decide) (hts _ lkX8_tilesIn_29) (fun _ h9 => h9) rfl dX8_tilesIn_11 ?_
      refine lv_iload hx hb dX8_tilesIn_14 (lv_at hl 6 rfl) ?_
      refine lv_iconst (v := 0) hx hb dX8_tilesIn_16 (by decide) ?_
      obtain ⟨f_10, hf_10, hv⟩ := qB hv
      refine m_ist hx hb hK hP hD hS 7 0 rfl rfl hf_10 dX8_tilesIn_17 (fun H locs hP hD hS => ?_)
      obtain ⟨M0s_11, hM0s_11, hv⟩ := qB hv
      obtain ⟨hP, hD⟩ := m_st (F := fun Z9 : FS => (wMod E a0 Z9)) (Option.some.inj hM0s_11) hP hD
      refine lv_iinc (v := (y6 + 1)) (lv' := [(6, .int (y6 + 1)), (0, .ref (a0 0)), (1, .int y1), (2, .int y2), (3, .int y3), (4, .int y4), (5, .int y5)]) hx hb dX8_tilesIn_18 hl (k := 6) rfl (by rfl) (by decide) rfl (fun ls hl => ?_)
      refine lv_goto (tgt := 3) hx hb dX8_tilesIn_21 (by decide) ?_
      exact ih M0s_11 (y6 + 1) hv _ _ _ hP hD hS (lv_sub hl [1, 2, 3, 4, 5, 6, 0] rfl)

set_option maxRecDepth 100000 in
set_option maxHeartbeats 4000000 in
theorem kX8_tilesIn (l : Launch) (D : va_G) (E : Nat → ClassId) (a0 : Nat → Nat) {M0 : FS} {x1 : Int32} {x2 : Int32} {x3 : Int32} {x4 : Int32} {x5 : Int32} {v : Int32} {M09 : FS} (sz : Nat) (hv : fX8_tilesIn M0 x1 x2 x3 x4 x5 = some (v, M09)) : MI l yX8_tilesIn wsX8_tilesIn (rmN 5 111) D E ((wMod E a0 M0)) sz [.ref (a0 0), .int x1, .int x2, .int x3, .int x4, .int x5] v (fun _ : Unit => (wMod E a0 M09)) 0 0 := by
  refine MI.of (by decide) rfl (Nat.le_of_ble_eq_true rfl) ?_
  intro p e s m below meth c A H locs C hP hK hD hS hA ls hl
  have hl : lv_has ls 9 [(0, .ref (a0 0)), (1, .int x1), (2, .int x2), (3, .int x3), (4, .int x4), (5, .int x5)] := hl
  obtain ⟨hx, hb, hr, hml, hown, hlocks, hts⟩ := id C
  unfold fX8_tilesIn at hv
  refine lv_iconst (v := 0) hx hb dX8_tilesIn_0 (by decide) ?_
  refine lv_istore (lv' := [(6, .int (0:Int32)), (0, .ref (a0 0)), (1, .int x1), (2, .int x2), (3, .int x3), (4, .int x4), (5, .int x5)]) hx hb dX8_tilesIn_1 hl (by decide) rfl (fun ls hl => ?_)
  exact wfX8_tilesIn_L3 C hK hA  6000 M0 (0:Int32) hv _ _ _ hP hD hS (lv_sub hl [1, 2, 3, 4, 5, 6, 0] rfl)

set_option maxRecDepth 100000 in
set_option maxHeartbeats 4000000 in
theorem kX8_window (l : Launch) (D : va_G) (E : Nat → ClassId) (a0 : Nat → Nat) {M0 : FS} {x1 : Int32} {x2 : Int32} {x3 : Int32} {x4 : Int32} {x5 : Int32} {v : Int32} {M09 : FS} (sz : Nat) (hv : fX8_window M0 x1 x2 x3 x4 x5 = some (v, M09)) : MI l yX8_window wsX8_window (rmN 6 139) D E ((wMod E a0 M0)) sz [.ref (a0 0), .int x1, .int x2, .int x3, .int x4, .int x5] v (fun _ : Unit => (wMod E a0 M09)) 0 0 := by
  refine MI.of (by decide) rfl (Nat.le_of_ble_eq_true rfl) ?_
  intro p e s m below meth c A H locs C hP hK hD hS hA ls hl
  have hl : lv_has ls 6 [(0, .ref (a0 0)), (1, .int x1), (2, .int x2), (3, .int x3), (4, .int x4), (5, .int x5)] := hl
  obtain ⟨hx, hb, hr, hml, hown, hlocks, hts⟩ := id C
  unfold fX8_window at hv
  refine lv_iload_n hx hb dX8_window_0 rfl (lv_at hl 1 rfl) ?_
  refine lv_iload_n hx hb dX8_window_1 rfl (lv_at hl 2 rfl) ?_
  obtain ⟨r_1, hr_1, hv⟩ := qB hv
  refine q_S (As := [.int x1, .int x2]) (rest := []) hx hb hml hown hts hl.1 (kX8_isPlace l D E  hr_1) zNo_mv (va_cwS 2 hts gX8_window_X8_isPlace rfl rfl rfl (by decide +kernel) ⟨Nat.le_of_ble_eq_true rfl, Nat.le_of_ble_eq_true rfl⟩) (hP.sub (ws' := []) [] rfl) hK trivial rfl rfl (Nat.le_of_ble_eq_true rfl) dX8_window_2 ⟨Nat.zero_le _, Nat.zero_le _⟩ ?_
  refine lv_if_eq (tgt := 17) hx hb dX8_window_5 (by decide) (fun c_5_k_2 => ?_) (fun c_5_k_2 => ?_)
  · have hv := qT c_5_k_2 hv
    refine lv_iconst (v := -1) hx hb dX8_window_17 (by decide) ?_
    exact m_ret (F := (fun (Z9 : FS) => (fun _ : Unit => (wMod E a0 Z9)))) () C dX8_window_18 hv hP hD hS
  · have hv := qF c_5_k_2 hv
    refine lv_iload_n hx hb dX8_window_8 rfl (lv_at hl 3 rfl) ?_
    refine lv_iload hx hb dX8_window_9 (lv_at hl 4 rfl) ?_
    obtain ⟨r_3, hr_3, hv⟩ := qB hv
    refine q_S (As := [.int x3, .int x4]) (rest := []) hx hb hml hown hts hl.1 (kX8_isPlace l D E  hr_3) zNo_mv (va_cwS 2 hts gX8_window_X8_isPlace rfl rfl rfl (by decide +kernel) ⟨Nat.le_of_ble_eq_true rfl, Nat.le_of_ble_eq_true rfl⟩) (hP.sub (ws' := []) [] rfl) hK trivial rfl rfl (Nat.le_of_ble_eq_true rfl) dX8_window_11 ⟨Nat.zero_le _, Nat.zero_le _⟩ ?_
    refine lv_if_ne (tgt := 19) hx hb dX8_window_14 (by decide) (fun c_14_k_4 => ?_) (fun c_14_k_4 => ?_)
    · have hv := qF c_14_k_4 hv
      refine lv_iload_n hx hb dX8_window_19 rfl (lv_at hl 3 rfl) ?_
      refine lv_iload_n hx hb dX8_window_20 rfl (lv_at hl 1 rfl) ?_
      refine lv_icmp_lt (tgt := 30) hx hb dX8_window_21 (by decide) (fun c_21_k_5 => ?_) (fun c_21_k_5 => ?_)
      · have hv := qT c_21_k_5 hv
        refine lv_bipush (v := -2) hx hb dX8_window_30 (by decide) ?_
        exact m_ret (F := (fun (Z9 : FS) => (fun _ : Unit => (wMod E a0 Z9)))) () C dX8_window_32 hv hP hD hS
      · have hv := qF c_21_k_5 hv
        refine lv_iload hx hb dX8_window_24 (lv_at hl 4 rfl) ?_
        refine lv_iload_n hx hb dX8_window_26 rfl (lv_at hl 2 rfl) ?_
        refine lv_icmp_ge (tgt := 33) hx hb dX8_window_27 (by decide) (fun c_27_k_6 => ?_) (fun c_27_k_6 => ?_)
        · have hv := qT c_27_k_6 hv
          refine lv_iload hx hb dX8_window_33 (lv_at hl 5 rfl) ?_
          rcases (Decidable.em (x5 = 0)) with c_35_k_7 | c_35_k_7
          · have hv := qT c_35_k_7 hv
            refine lv_tableIn (tgt := 64) hx hb dX8_window_35 (by rw [c_35_k_7]; decide) (by rw [c_35_k_7]; decide) (by rw [c_35_k_7]; rfl) (by decide) ?_
            refine lv_aload_n hx hb dX8_window_64 rfl (lv_at hl 0 rfl) ?_
            refine lv_iload_n hx hb dX8_window_65 rfl (lv_at hl 1 rfl) ?_
            refine lv_iload_n hx hb dX8_window_66 rfl (lv_at hl 2 rfl) ?_
            refine lv_iload_n hx hb dX8_window_67 rfl (lv_at hl 3 rfl) ?_
            refine lv_iload hx hb dX8_window_68 (lv_at hl 4 rfl) ?_
            obtain ⟨r_8, hr_8, hv⟩ := qB hv
            refine q_V (As := [.int x1, .int x2, .int x3, .int x4]) (rest := []) (C := RX8) (T0 := TX8) (N0 := 14) (ci := 7) hx hb hml hown hts hl.1 (kX8_pointsBetween l D E a0 hr_8) zNo_mv (cwV 4 hts gX8_window_X8_pointsBetween rfl rfl rfl (by decide +kernel) ⟨Nat.le_of_ble_eq_true rfl, Nat.le_of_ble_eq_true rfl⟩) 0 rfl rfl (hP.sub (ws' := (wMod E a0 M0)) [0, 1, 2, 3, 4, 5, 6, 7, 8] rfl) hK trivial rfl rfl (Nat.le_of_ble_eq_true rfl) dX8_window_70 ⟨Nat.zero_le _, Nat.zero_le _⟩ ?_
            exact m_ret (F := (fun (Z9 : FS) => (fun _ : Unit => (wMod E a0 Z9)))) () C dX8_window_73 hv hP hD hS
          have hv := qF c_35_k_7 hv
          rcases (Decidable.em (x5 = 1)) with c_35_k_9 | c_35_k_9
          · have hv := qT c_35_k_9 hv
            refine lv_tableIn (tgt := 74) hx hb dX8_window_35 (by rw [c_35_k_9]; decide) (by rw [c_35_k_9]; decide) (by rw [c_35_k_9]; rfl) (by decide) ?_
            refine lv_aload_n hx hb dX8_window_74 rfl (lv_at hl 0 rfl) ?_
            refine lv_iload_n hx hb dX8_window_75 rfl (lv_at hl 1 rfl) ?_
            refine lv_iload_n hx hb dX8_window_76 rfl (lv_at hl 2 rfl) ?_
            refine lv_iload_n hx hb dX8_window_77 rfl (lv_at hl 3 rfl) ?_
            refine lv_iload hx hb dX8_window_78 (lv_at hl 4 rfl) ?_
            refine lv_iload hx hb dX8_window_80 (lv_at hl 5 rfl) ?_
            obtain ⟨⟨rS_10, S_10⟩, hS_10, hv⟩ := qB hv
            try dsimp only at hv
            refine m_VI (As := [.int x1, .int x2, .int x3, .int x4, .int x5]) (rest := []) (C := RX8) (T0 := TX8) (N0 := 14) (ci := 7) (Wn := (fun _ : Unit => (wMod E a0 S_10))) (Wr := []) hx hb hml hown hts hl.1 (kX8_tilesIn l D E a0 H.size hS_10) (cwV 5 hts gX8_window_X8_tilesIn rfl rfl rfl (by decide +kernel) ⟨Nat.le_of_ble_eq_true rfl, Nat.le_of_ble_eq_true rfl⟩) 0 rfl rfl hP hD hS hA hK [0, 1, 2, 3, 4, 5, 6, 7, 8] [] [0, 1, 2, 3, 4, 5, 6, 7, 8] (by decide) rfl rfl (by decide) (by decide) (by decide) (fun _ => rfl) rfl rfl (Nat.le_of_ble_eq_true rfl) dX8_window_82 ⟨Nat.le_of_ble_eq_true rfl, Nat.le_of_ble_eq_true rfl⟩ (fun _ H locs hP hD hS => ?_)
            exact m_ret (F := (fun (Z9 : FS) => (fun _ : Unit => (wMod E a0 Z9)))) () C dX8_window_85 hv hP hD hS
          have hv := qF c_35_k_9 hv
          rcases (Decidable.em (x5 = 2)) with c_35_k_11 | c_35_k_11
          · have hv := qT c_35_k_11 hv
            refine lv_tableIn (tgt := 74) hx hb dX8_window_35 (by rw [c_35_k_11]; decide) (by rw [c_35_k_11]; decide) (by rw [c_35_k_11]; rfl) (by decide) ?_
            refine lv_aload_n hx hb dX8_window_74 rfl (lv_at hl 0 rfl) ?_
            refine lv_iload_n hx hb dX8_window_75 rfl (lv_at hl 1 rfl) ?_
            refine lv_iload_n hx hb dX8_window_76 rfl (lv_at hl 2 rfl) ?_
            refine lv_iload_n hx hb dX8_window_77 rfl (lv_at hl 3 rfl) ?_
            refine lv_iload hx hb dX8_window_78 (lv_at hl 4 rfl) ?_
            refine lv_iload hx hb dX8_window_80 (lv_at hl 5 rfl) ?_
            obtain ⟨⟨rS_12, S_12⟩, hS_12, hv⟩ := qB hv
            try dsimp only at hv
            refine m_VI (As := [.int x1, .int x2, .int x3, .int x4, .int x5]) (rest := []) (C := RX8) (T0 := TX8) (N0 := 14) (ci := 7) (Wn := (fun _ : Unit => (wMod E a0 S_12))) (Wr := []) hx hb hml hown hts hl.1 (kX8_tilesIn l D E a0 H.size hS_12) (cwV 5 hts gX8_window_X8_tilesIn rfl rfl rfl (by decide +kernel) ⟨Nat.le_of_ble_eq_true rfl, Nat.le_of_ble_eq_true rfl⟩) 0 rfl rfl hP hD hS hA hK [0, 1, 2, 3, 4, 5, 6, 7, 8] [] [0, 1, 2, 3, 4, 5, 6, 7, 8] (by decide) rfl rfl (by decide) (by decide) (by decide) (fun _ => rfl) rfl rfl (Nat.le_of_ble_eq_true rfl) dX8_window_82 ⟨Nat.le_of_ble_eq_true rfl, Nat.le_of_ble_eq_true rfl⟩ (fun _ H locs hP hD hS => ?_)
            exact m_ret (F := (fun (Z9 : FS) => (fun _ : Unit => (wMod E a0 Z9)))) () C dX8_window_85 hv hP hD hS
          have hv := qF c_35_k_11 hv
          rcases (Decidable.em (x5 = 3)) with c_35_k_13 | c_35_k_13
          · have hv := qT c_35_k_13 hv
            refine lv_tableIn (tgt := 86) hx hb dX8_window_35 (by rw [c_35_k_13]; decide) (by rw [c_35_k_13]; decide) (by rw [c_35_k_13]; rfl) (by decide) ?_
            refine lv_aload_n hx hb dX8_window_86 rfl (lv_at hl 0 rfl) ?_
            refine lv_iload_n hx hb dX8_window_87 rfl (lv_at hl 1 rfl) ?_
            refine lv_iload_n hx hb dX8_window_88 rfl (lv_at hl 2 rfl) ?_
            obtain ⟨r_14, hr_14, hv⟩ := qB hv
            refine q_S (As := [.int x1, .int x2]) (rest := [.ref (a0 0)]) hx hb hml hown hts hl.1 (kX8_pathOf l D E  hr_14) zNo_mv (va_cwS 2 hts gX8_window_X8_pathOf rfl rfl rfl (by decide +kernel) ⟨Nat.le_of_ble_eq_true rfl, Nat.le_of_ble_eq_true rfl⟩) (hP.sub (ws' := []) [] rfl) hK trivial rfl rfl (Nat.le_of_ble_eq_true rfl) dX8_window_89 ⟨Nat.zero_le _, Nat.zero_le _⟩ ?_
            refine lv_iload_n hx hb dX8_window_92 rfl (lv_at hl 3 rfl) ?_
            refine lv_iload hx hb dX8_window_93 (lv_at hl 4 rfl) ?_
            obtain ⟨r_15, hr_15, hv⟩ := qB hv
            refine q_S (As := [.int x3, .int x4]) (rest := [.int r_14, .ref (a0 0)]) hx hb hml hown hts hl.1 (kX8_pathOf l D E  hr_15) zNo_mv (va_cwS 2 hts gX8_window_X8_pathOf rfl rfl rfl (by decide +kernel) ⟨Nat.le_of_ble_eq_true rfl, Nat.le_of_ble_eq_true rfl⟩) (hP.sub (ws' := []) [] rfl) hK trivial rfl rfl (Nat.le_of_ble_eq_true rfl) dX8_window_95 ⟨Nat.zero_le _, Nat.zero_le _⟩ ?_
            obtain ⟨r_16, hr_16, hv⟩ := qB hv
            refine q_V (As := [.int r_14, .int r_15]) (rest := []) (C := RX8) (T0 := TX8) (N0 := 14) (ci := 7) hx hb hml hown hts hl.1 (kX8_smallest l D E a0 hr_16) zNo_mv (cwV 2 hts gX8_window_X8_smallest rfl rfl rfl (by decide +kernel) ⟨Nat.le_of_ble_eq_true rfl, Nat.le_of_ble_eq_true rfl⟩) 0 rfl rfl (hP.sub (ws' := (wMod E a0 M0)) [0, 1, 2, 3, 4, 5, 6, 7, 8] rfl) hK trivial rfl rfl (Nat.le_of_ble_eq_true rfl) dX8_window_98 ⟨Nat.zero_le _, Nat.zero_le _⟩ ?_
            exact m_ret (F := (fun (Z9 : FS) => (fun _ : Unit => (wMod E a0 Z9)))) () C dX8_window_101 hv hP hD hS
          have hv := qF c_35_k_13 hv
          refine lv_tableOut (tgt := 102) hx hb dX8_window_35 (q_tout (fun k h1 h2 hq => by
              rcases (show k = 0 ∨ k = 1 ∨ k = 2 ∨ k = 3 by omega) with rfl | rfl | rfl | rfl
              · exact c_35_k_7 hq
              · exact c_35_k_9 hq
              · exact c_35_k_11 hq
              · exact c_35_k_13 hq)) (by decide) ?_
          refine lv_bipush (v := -2) hx hb dX8_window_102 (by decide) ?_
          exact m_ret (F := (fun (Z9 : FS) => (fun _ : Unit => (wMod E a0 Z9)))) () C dX8_window_104 hv hP hD hS
        · have hv := qF c_27_k_6 hv
          refine lv_bipush (v := -2) hx hb dX8_window_30 (by decide) ?_
          exact m_ret (F := (fun (Z9 : FS) => (fun _ : Unit => (wMod E a0 Z9)))) () C dX8_window_32 hv hP hD hS
    · have hv := qT c_14_k_4 hv
      refine lv_iconst (v := -1) hx hb dX8_window_17 (by decide) ?_
      exact m_ret (F := (fun (Z9 : FS) => (fun _ : Unit => (wMod E a0 Z9)))) () C dX8_window_18 hv hP hD hS

theorem lkX8_ifPut_7 : (.fieldLink RX8 7 "QuarterTilesModel" "now" "[I" : Cond) ∈ wsX8_ifPut := by decide +kernel
theorem hiX8_ifPut_X8 : ∀ w ∈ wsX80, w ∈ wsX8_ifPut := by decide +kernel
theorem lkX8_ifPut_13 : (.fieldLink RX8 13 "QuarterTilesModel" "then" "[I" : Cond) ∈ wsX8_ifPut := by decide +kernel
set_option maxRecDepth 100000 in
set_option maxHeartbeats 4000000 in
theorem kX8_ifPut (l : Launch) (D : va_G) (E : Nat → ClassId) (a0 : Nat → Nat) {M0 : FS} {x1 : Int32} {x2 : Int32} {x3 : Int32} {v : Int32} {M09 : FS} (sz : Nat) (hv : fX8_ifPut M0 x1 x2 x3 = some (v, M09)) : MI l yX8_ifPut wsX8_ifPut (rmN 7 155) D E ((wMod E a0 M0)) sz [.ref (a0 0), .int x1, .int x2, .int x3] v (fun _ : Unit => (wMod E a0 M09)) 0 0 := by
  refine MI.of (by decide) rfl (Nat.le_of_ble_eq_true rfl) ?_
  intro p e s m below meth c A H locs C hP hK hD hS hA ls hl
  have hl : lv_has ls 5 [(0, .ref (a0 0)), (1, .int x1), (2, .int x2), (3, .int x3)] := hl
  obtain ⟨hx, hb, hr, hml, hown, hlocks, hts⟩ := id C
  unfold fX8_ifPut at hv
  refine lv_iload_n hx hb dX8_ifPut_0 rfl (lv_at hl 1 rfl) ?_
  refine lv_iload_n hx hb dX8_ifPut_1 rfl (lv_at hl 2 rfl) ?_
  obtain ⟨r_1, hr_1, hv⟩ := qB hv
  refine q_S (As := [.int x1, .int x2]) (rest := []) hx hb hml hown hts hl.1 (kX8_isPlace l D E  hr_1) zNo_mv (va_cwS 2 hts gX8_ifPut_X8_isPlace rfl rfl rfl (by decide +kernel) ⟨Nat.le_of_ble_eq_true rfl, Nat.le_of_ble_eq_true rfl⟩) (hP.sub (ws' := []) [] rfl) hK trivial rfl rfl (Nat.le_of_ble_eq_true rfl) dX8_ifPut_2 ⟨Nat.zero_le _, Nat.zero_le _⟩ ?_
  refine lv_if_ne (tgt := 10) hx hb dX8_ifPut_5 (by decide) (fun c_5_k_2 => ?_) (fun c_5_k_2 => ?_)
  · have hv := qF c_5_k_2 hv
    refine lv_iload_n hx hb dX8_ifPut_10 rfl (lv_at hl 3 rfl) ?_
    refine lv_iconst (v := 0) hx hb dX8_ifPut_11 (by decide) ?_
    refine lv_iconst (v := 1) hx hb dX8_ifPut_12 (by decide) ?_
    obtain ⟨r_3, hr_3, hv⟩ := qB hv
    refine q_S (As := [.int x3, .int (0:Int32), .int (1:Int32)]) (rest := []) hx hb hml hown hts hl.1 (kX8_in l D E  hr_3) zNo_mv (va_cwS 3 hts gX8_ifPut_X8_in rfl rfl rfl (by decide +kernel) ⟨Nat.le_of_ble_eq_true rfl, Nat.le_of_ble_eq_true rfl⟩) (hP.sub (ws' := []) [] rfl) hK trivial rfl rfl (Nat.le_of_ble_eq_true rfl) dX8_ifPut_13 ⟨Nat.zero_le _, Nat.zero_le _⟩ ?_
    refine lv_if_ne (tgt := 22) hx hb dX8_ifPut_16 (by decide) (fun c_16_k_4 => ?_) (fun c_16_k_4 => ?_)
    · have hv := qF c_16_k_4 hv
      refine lv_aload_n hx hb dX8_ifPut_22 rfl (lv_at hl 0 rfl) ?_
      refine lv_iload_n hx hb dX8_ifPut_23 rfl (lv_at hl 1 rfl) ?_
      refine lv_iload_n hx hb dX8_ifPut_24 rfl (lv_at hl 2 rfl) ?_
      obtain ⟨r_5, hr_5, hv⟩ := qB hv
      refine q_V (As := [.int x1, .int x2]) (rest := []) (C := RX8) (T0 := TX8) (N0 := 14) (ci := 7) hx hb hml hown hts hl.1 (kX8_pointError l D E a0 hr_5) zNo_mv (cwV 2 hts gX8_ifPut_X8_pointError rfl rfl rfl (by decide +kernel) ⟨Nat.le_of_ble_eq_true rfl, Nat.le_of_ble_eq_true rfl⟩) 0 rfl rfl (hP.sub (ws' := (wMod E a0 M0)) [0, 1, 2, 3, 4, 5, 6, 7, 8] rfl) hK trivial rfl rfl (Nat.le_of_ble_eq_true rfl) dX8_ifPut_25 ⟨Nat.zero_le _, Nat.zero_le _⟩ ?_
      refine lv_istore (lv' := [(4, .int r_5), (0, .ref (a0 0)), (1, .int x1), (2, .int x2), (3, .int x3)]) hx hb dX8_ifPut_28 hl (by decide) rfl (fun ls hl => ?_)
      refine lv_iload hx hb dX8_ifPut_30 (lv_at hl 0 rfl) ?_
      refine lv_if_ge (tgt := 38) hx hb dX8_ifPut_32 (by decide) (fun c_32_k_6 => ?_) (fun c_32_k_6 => ?_)
      · have hv := qT c_32_k_6 hv
        refine lv_aload_n hx hb dX8_ifPut_38 rfl (lv_at hl 1 rfl) ?_
        refine va_get (D := D) (ci := 7) (v := .ref (a0 1)) (C := RX8) (T := TX8) (N := 14) hx hb hts hiX8_ifPut_X8 hown hK hP 0 rfl rfl 0 (by decide) (hts _ lkX8_ifPut_7) (fun _ h9 => h9) rfl dX8_ifPut_39 ?_
        refine lv_iconst (v := 0) hx hb dX8_ifPut_42 (by decide) ?_
        refine lv_aload_n hx hb dX8_ifPut_43 rfl (lv_at hl 1 rfl) ?_
        refine va_get (D := D) (ci := 7) (v := .ref (a0 2)) (C := RX8) (T := TX8) (N := 14) hx hb hts hiX8_ifPut_X8 hown hK hP 0 rfl rfl 1 (by decide) (hts _ lkX8_ifPut_13) (fun _ h9 => h9) rfl dX8_ifPut_44 ?_
        refine lv_iconst (v := 0) hx hb dX8_ifPut_47 (by decide) ?_
        obtain ⟨S_7, hS_7, hv⟩ := qB hv
        refine m_SV (As := [.ref (a0 1), .int (0:Int32), .ref (a0 2), .int (0:Int32)]) (rest := []) (Wn := (fun _ : Unit => (wMod E a0 (sr M0 1 S_7)))) (Wr := [((a0 0), .inr (7, [.ref (a0 1), .ref (a0 2), .ref (a0 3), .int (M0 8 0), .ref (a0 4), .ref (a0 5), .ref (a0 6), .int (M0 8 1), .int (M0 8 2), .int (M0 8 3), .ref (a0 7), .int (M0 8 4), .ref (a0 8), .int (M0 8 5)])), aI E (a0 3) 696 (M0 2), aI E (a0 4) 232 (M0 3), aZ E (a0 5) 2 (M0 4), aI E (a0 6) 80 (M0 5), aI E (a0 7) 7 (M0 6), aI E (a0 8) 44 (M0 7)]) hx hb hml hown hts hl.1 (kX8_lays l D E (a0 1) (a0 2) H.size hS_7) (va_cwS 4 hts gX8_ifPut_X8_lays rfl rfl rfl (by decide +kernel) ⟨Nat.le_of_ble_eq_true rfl, Nat.le_of_ble_eq_true rfl⟩) hP hD hS hA hK [1, 2] [0, 3, 4, 5, 6, 7, 8] [0, 7, 8, 1, 2, 3, 4, 5, 6] (by decide) rfl rfl (by decide) (by decide) (by decide) (fun _ => rfl) rfl rfl (Nat.le_of_ble_eq_true rfl) dX8_ifPut_48 ⟨Nat.le_of_ble_eq_true rfl, Nat.le_of_ble_eq_true rfl⟩ (fun _ H locs hP hD hS => ?_)
        obtain ⟨M0s_8, hM0s_8, hv⟩ := qB hv
        obtain ⟨hP, hD⟩ := m_st (F := fun Z9 : FS => (wMod E a0 Z9)) (Option.some.inj hM0s_8) hP hD
        refine lv_aload_n hx hb dX8_ifPut_51 rfl (lv_at hl 1 rfl) ?_
        refine va_get (D := D) (ci := 7) (v := .ref (a0 2)) (C := RX8) (T := TX8) (N := 14) hx hb hts hiX8_ifPut_X8 hown hK hP 0 rfl rfl 1 (by decide) (hts _ lkX8_ifPut_13) (fun _ h9 => h9) rfl dX8_ifPut_52 ?_
        refine lv_iload_n hx hb dX8_ifPut_55 rfl (lv_at hl 2 rfl) ?_
        refine lv_iload_n hx hb dX8_ifPut_56 rfl (lv_at hl 3 rfl) ?_
        obtain ⟨S_9, hS_9, hv⟩ := qB hv
        refine m_SV (As := [.ref (a0 2), .int x1, .int x2]) (rest := []) (Wn := (fun _ : Unit => (wMod E a0 (sr M0s_8 1 S_9)))) (Wr := [((a0 0), .inr (7, [.ref (a0 1), .ref (a0 2), .ref (a0 3), .int (M0s_8 8 0), .ref (a0 4), .ref (a0 5), .ref (a0 6), .int (M0s_8 8 1), .int (M0s_8 8 2), .int (M0s_8 8 3), .ref (a0 7), .int (M0s_8 8 4), .ref (a0 8), .int (M0s_8 8 5)])), aI E (a0 1) 116 (M0s_8 0), aI E (a0 3) 696 (M0s_8 2), aI E (a0 4) 232 (M0s_8 3), aZ E (a0 5) 2 (M0s_8 4), aI E (a0 6) 80 (M0s_8 5), aI E (a0 7) 7 (M0s_8 6), aI E (a0 8) 44 (M0s_8 7)]) hx hb hml hown hts hl.1 (kX8_comes l D E (a0 2) H.size hS_9) (va_cwS 3 hts gX8_ifPut_X8_comes rfl rfl rfl (by decide +kernel) ⟨Nat.le_of_ble_eq_true rfl, Nat.le_of_ble_eq_true rfl⟩) hP hD hS hA hK [2] [0, 1, 3, 4, 5, 6, 7, 8] [0, 1, 8, 2, 3, 4, 5, 6, 7] (by decide) rfl rfl (by decide) (by decide) (by decide) (fun _ => rfl) rfl rfl (Nat.le_of_ble_eq_true rfl) dX8_ifPut_57 ⟨Nat.le_of_ble_eq_true rfl, Nat.le_of_ble_eq_true rfl⟩ (fun _ H locs hP hD hS => ?_)
        obtain ⟨M0s_10, hM0s_10, hv⟩ := qB hv
        obtain ⟨hP, hD⟩ := m_st (F := fun Z9 : FS => (wMod E a0 Z9)) (Option.some.inj hM0s_10) hP hD
        refine lv_iload_n hx hb dX8_ifPut_60 rfl (lv_at hl 4 rfl) ?_
        refine lv_if_ne (tgt := 74) hx hb dX8_ifPut_61 (by decide) (fun c_61_k_11 => ?_) (fun c_61_k_11 => ?_)
        · have hv := qF c_61_k_11 hv
          refine lv_aload_n hx hb dX8_ifPut_74 rfl (lv_at hl 1 rfl) ?_
          refine va_get (D := D) (ci := 7) (v := .ref (a0 2)) (C := RX8) (T := TX8) (N := 14) hx hb hts hiX8_ifPut_X8 hown hK hP 0 rfl rfl 1 (by decide) (hts _ lkX8_ifPut_13) (fun _ h9 => h9) rfl dX8_ifPut_75 ?_
          refine lv_iload_n hx hb dX8_ifPut_78 rfl (lv_at hl 2 rfl) ?_
          refine lv_iload_n hx hb dX8_ifPut_79 rfl (lv_at hl 3 rfl) ?_
          obtain ⟨r_12, hr_12, hv⟩ := qB hv
          refine q_S (As := [.int x1, .int x2]) (rest := [.ref (a0 2)]) hx hb hml hown hts hl.1 (kX8_pathOf l D E  hr_12) zNo_mv (va_cwS 2 hts gX8_ifPut_X8_pathOf rfl rfl rfl (by decide +kernel) ⟨Nat.le_of_ble_eq_true rfl, Nat.le_of_ble_eq_true rfl⟩) (hP.sub (ws' := []) [] rfl) hK trivial rfl rfl (Nat.le_of_ble_eq_true rfl) dX8_ifPut_80 ⟨Nat.zero_le _, Nat.zero_le _⟩ ?_
          obtain ⟨r_13, hr_13, hv⟩ := qB hv
          refine q_S (As := [.ref (a0 2), .int r_12]) (rest := []) hx hb hml hown hts hl.1 (kX8_leafOf l D E (a0 2) hr_13) zNo_mv (va_cwS 2 hts gX8_ifPut_X8_leafOf rfl rfl rfl (by decide +kernel) ⟨Nat.le_of_ble_eq_true rfl, Nat.le_of_ble_eq_true rfl⟩) (hP.sub (ws' := [aI E (a0 2) 116 (M0s_10 1)]) [2] rfl) hK trivial rfl rfl (Nat.le_of_ble_eq_true rfl) dX8_ifPut_83 ⟨Nat.zero_le _, Nat.zero_le _⟩ ?_
          obtain ⟨r_14, hr_14, hv⟩ := qB hv
          refine q_S (As := [.int r_13]) (rest := []) hx hb hml hown hts hl.1 (kX8_depthOf l D E  hr_14) zNo_mv (va_cwS 1 hts gX8_ifPut_X8_depthOf rfl rfl rfl (by decide +kernel) ⟨Nat.le_of_ble_eq_true rfl, Nat.le_of_ble_eq_true rfl⟩) (hP.sub (ws' := []) [] rfl) hK trivial rfl rfl (Nat.le_of_ble_eq_true rfl) dX8_ifPut_86 ⟨Nat.zero_le _, Nat.zero_le _⟩ ?_
          exact m_ret (F := (fun (Z9 : FS) => (fun _ : Unit => (wMod E a0 Z9)))) () C dX8_ifPut_89 hv hP hD hS
        · have hv := qT c_61_k_11 hv
          refine lv_aload_n hx hb dX8_ifPut_64 rfl (lv_at hl 1 rfl) ?_
          refine va_get (D := D) (ci := 7) (v := .ref (a0 2)) (C := RX8) (T := TX8) (N := 14) hx hb hts hiX8_ifPut_X8 hown hK hP 0 rfl rfl 1 (by decide) (hts _ lkX8_ifPut_13) (fun _ h9 => h9) rfl dX8_ifPut_65 ?_
          obtain ⟨r_15, hr_15, hv⟩ := qB hv
          refine q_S (As := [.ref (a0 2)]) (rest := []) hx hb hml hown hts hl.1 (kX8_allLeaves l D E (a0 2) hr_15) zNo_mv (va_cwS 1 hts gX8_ifPut_X8_allLeaves rfl rfl rfl (by decide +kernel) ⟨Nat.le_of_ble_eq_true rfl, Nat.le_of_ble_eq_true rfl⟩) (hP.sub (ws' := [aI E (a0 2) 116 (M0s_10 1)]) [2] rfl) hK trivial rfl rfl (Nat.le_of_ble_eq_true rfl) dX8_ifPut_68 ⟨Nat.zero_le _, Nat.zero_le _⟩ ?_
          refine lv_goto (tgt := 89) hx hb dX8_ifPut_71 (by decide) ?_
          exact m_ret (F := (fun (Z9 : FS) => (fun _ : Unit => (wMod E a0 Z9)))) () C dX8_ifPut_89 hv hP hD hS
      · have hv := qF c_32_k_6 hv
        refine lv_iload hx hb dX8_ifPut_35 (lv_at hl 0 rfl) ?_
        exact m_ret (F := (fun (Z9 : FS) => (fun _ : Unit => (wMod E a0 Z9)))) () C dX8_ifPut_37 hv hP hD hS
    · have hv := qT c_16_k_4 hv
      refine lv_bipush (v := -2) hx hb dX8_ifPut_19 (by decide) ?_
      exact m_ret (F := (fun (Z9 : FS) => (fun _ : Unit => (wMod E a0 Z9)))) () C dX8_ifPut_21 hv hP hD hS
  · have hv := qT c_5_k_2 hv
    refine lv_iconst (v := -1) hx hb dX8_ifPut_8 (by decide) ?_
    exact m_ret (F := (fun (Z9 : FS) => (fun _ : Unit => (wMod E a0 Z9)))) () C dX8_ifPut_9 hv hP hD hS

theorem lkX8_leastFull_7 : (.fieldLink RX8 7 "QuarterTilesModel" "now" "[I" : Cond) ∈ wsX8_leastFull := by decide +kernel
theorem hiX8_leastFull_X8 : ∀ w ∈ wsX80, w ∈ wsX8_leastFull := by decide +kernel
theorem lkX8_leastFull_13 : (.fieldLink RX8 13 "QuarterTilesModel" "then" "[I" : Cond) ∈ wsX8_leastFull := by decide +kernel
set_option maxRecDepth 100000 in
set_option maxHeartbeats 4000000 in
theorem wfX8_leastFull_L29 {p : Program} {e : Env} {s : State} {m : MethodId} {below : List Frame} {meth : Method} {c : Code} {l : Launch} {D : va_G} {E : Nat → ClassId} {a0 : Nat → Nat} {x1 : Int32} {v : Int32} {M09 : FS} {A : Nat → Prop} {y1 : Int32} (C : Ctx p s m meth c [.ref (a0 0), .int x1] wsX8_leastFull cX8_leastFull 3 (some .int) RX8) (hK : va_K D vwCl (tyE E) s) (hA : ∀ q : Nat, s.heap.size ≤ q → A q) : ∀ (q : Nat) (M0 : FS) (y2 : Int32), fX8_leastFull_L29 y1 q M0 y2 = some (v, M09) → ∀ (H : Heap) (locs : List Loc) (ls : Array Slot), va_P D vwCl ((wMod E a0 M0)) H → va_D A ((wMod E a0 M0)) → va_S A s.heap H locs → lv_has ls 3 [(0, .ref (a0 0)), (1, .int y1), (2, .int y2)] → WI p l e (rmN 7 155) s m [.ref (a0 0), .int x1] below meth c D A v (fun _ : Unit => (wMod E a0 M09)) 0 0 H locs 0 0 29 ls [] := by
  obtain ⟨hx, hb, hr, hml, hown, hlocks, hts⟩ := id C
  intro q
  induction q with
  | zero =>
    intro M0 y2 hv
    cases hv
  | succ q ih =>
    intro M0 y2 hv H locs ls hP hD hS hl
    rw [fX8_leastFull_L29.eq_2] at hv
    refine lv_iload_n hx hb dX8_leastFull_29 rfl (lv_at hl 2 rfl) ?_
    refine lv_bipush (v := 9) hx hb dX8_leastFull_30 (by decide) ?_
    refine lv_icmp_ge (tgt := 61) hx hb dX8_leastFull_32 (by decide) (fun c_32_k_5 => ?_) (fun c_32_k_5 => ?_)
    · have hv := qT c_32_k_5 hv
      refine lv_bipush (v := -6) hx hb dX8_leastFull_61 (by decide) ?_
      exact m_ret (F := (fun (Z9 : FS) => (fun _ : Unit => (wMod E a0 Z9)))) () C dX8_leastFull_63 hv hP hD hS
    · have hv := qF c_32_k_5 hv
      refine lv_aload_n hx hb dX8_leastFull_35 rfl (lv_at hl 0 rfl) ?_
      refine va_get (D := D) (ci := 7) (v := .ref (a0 2)) (C := RX8) (T := TX8) (N := 14) hx hb hts hiX8_leastFull_X8 hown hK hP 0 rfl rfl 1 (by decide) (hts _ lkX8_leastFull_13) (fun _ h9 => h9) rfl dX8_leastFull_36 ?_
      refine lv_iconst (v := 1) hx hb dX8_leastFull_39 (by decide) ?_
      refine lv_iload_n hx hb dX8_leastFull_40 rfl (lv_at hl 2 rfl) ?_
      obtain ⟨f_6, hf_6, hv⟩ := qB hv
      refine m_ist hx hb hK hP hD hS 2 0 rfl rfl hf_6 dX8_leastFull_41 (fun H locs hP hD hS => ?_)
      obtain ⟨M0s_7, hM0s_7, hv⟩ := qB hv
      obtain ⟨hP, hD⟩ := m_st (F := fun Z9 : FS => (wMod E a0 Z9)) (Option.some.inj hM0s_7) hP hD
      refine lv_aload_n hx hb dX8_leastFull_42 rfl (lv_at hl 0 rfl) ?_
      refine va_get (D := D) (ci := 7) (v := .ref (a0 2)) (C := RX8) (T := TX8) (N := 14) hx hb hts hiX8_leastFull_X8 hown hK hP 0 rfl rfl 1 (by decide) (hts _ lkX8_leastFull_13) (fun _ h9 => h9) rfl dX8_leastFull_43 ?_
      obtain ⟨r_8, hr_8, hv⟩ := qB hv
      refine q_S (As := [.ref (a0 2)]) (rest := []) hx hb hml hown hts hl.1 (kX8_allLeaves l D E (a0 2) hr_8) zNo_mv (va_cwS 1 hts gX8_leastFull_X8_allLeaves rfl rfl rfl (by decide +kernel) ⟨Nat.le_of_ble_eq_true rfl, Nat.le_of_ble_eq_true rfl⟩) (hP.sub (ws' := [aI E (a0 2) 116 (M0s_7 1)]) [2] rfl) hK trivial rfl rfl (Nat.le_of_ble_eq_true rfl) dX8_leastFull_46 ⟨Nat.zero_le _, Nat.zero_le _⟩ ?_
      refine lv_iload_n hx hb dX8_leastFull_49 rfl (lv_at hl 1 rfl) ?_
      refine lv_icmp_gt (tgt := 55) hx hb dX8_leastFull_50 (by decide) (fun c_50_k_9 => ?_) (fun c_50_k_9 => ?_)
      · have hv := qT c_50_k_9 hv
        refine lv_iinc (v := (y2 + 1)) (lv' := [(2, .int (y2 + 1)), (0, .ref (a0 0)), (1, .int y1)]) hx hb dX8_leastFull_55 hl (k := 2) rfl (by rfl) (by decide) rfl (fun ls hl => ?_)
        refine lv_goto (tgt := 29) hx hb dX8_leastFull_58 (by decide) ?_
        exact ih M0s_7 (y2 + 1) hv _ _ _ hP hD hS (lv_sub hl [1, 2, 0] rfl)
      · have hv := qF c_50_k_9 hv
        refine lv_iload_n hx hb dX8_leastFull_53 rfl (lv_at hl 2 rfl) ?_
        exact m_ret (F := (fun (Z9 : FS) => (fun _ : Unit => (wMod E a0 Z9)))) () C dX8_leastFull_54 hv hP hD hS

set_option maxRecDepth 100000 in
set_option maxHeartbeats 4000000 in
theorem kX8_leastFull (l : Launch) (D : va_G) (E : Nat → ClassId) (a0 : Nat → Nat) {M0 : FS} {x1 : Int32} {v : Int32} {M09 : FS} (sz : Nat) (hv : fX8_leastFull M0 x1 = some (v, M09)) : MI l yX8_leastFull wsX8_leastFull (rmN 7 155) D E ((wMod E a0 M0)) sz [.ref (a0 0), .int x1] v (fun _ : Unit => (wMod E a0 M09)) 0 0 := by
  refine MI.of (by decide) rfl (Nat.le_of_ble_eq_true rfl) ?_
  intro p e s m below meth c A H locs C hP hK hD hS hA ls hl
  have hl : lv_has ls 3 [(0, .ref (a0 0)), (1, .int x1)] := hl
  obtain ⟨hx, hb, hr, hml, hown, hlocks, hts⟩ := id C
  unfold fX8_leastFull at hv
  refine lv_iload_n hx hb dX8_leastFull_0 rfl (lv_at hl 1 rfl) ?_
  refine lv_iconst (v := 1) hx hb dX8_leastFull_1 (by decide) ?_
  refine lv_sipush (v := 4096) hx hb dX8_leastFull_2 (by decide) ?_
  obtain ⟨r_1, hr_1, hv⟩ := qB hv
  refine q_S (As := [.int x1, .int (1:Int32), .int (4096:Int32)]) (rest := []) hx hb hml hown hts hl.1 (kX8_in l D E  hr_1) zNo_mv (va_cwS 3 hts gX8_leastFull_X8_in rfl rfl rfl (by decide +kernel) ⟨Nat.le_of_ble_eq_true rfl, Nat.le_of_ble_eq_true rfl⟩) (hP.sub (ws' := []) [] rfl) hK trivial rfl rfl (Nat.le_of_ble_eq_true rfl) dX8_leastFull_5 ⟨Nat.zero_le _, Nat.zero_le _⟩ ?_
  refine lv_if_ne (tgt := 14) hx hb dX8_leastFull_8 (by decide) (fun c_8_k_2 => ?_) (fun c_8_k_2 => ?_)
  · have hv := qF c_8_k_2 hv
    refine lv_aload_n hx hb dX8_leastFull_14 rfl (lv_at hl 0 rfl) ?_
    refine va_get (D := D) (ci := 7) (v := .ref (a0 1)) (C := RX8) (T := TX8) (N := 14) hx hb hts hiX8_leastFull_X8 hown hK hP 0 rfl rfl 0 (by decide) (hts _ lkX8_leastFull_7) (fun _ h9 => h9) rfl dX8_leastFull_15 ?_
    refine lv_iconst (v := 0) hx hb dX8_leastFull_18 (by decide) ?_
    refine lv_aload_n hx hb dX8_leastFull_19 rfl (lv_at hl 0 rfl) ?_
    refine va_get (D := D) (ci := 7) (v := .ref (a0 2)) (C := RX8) (T := TX8) (N := 14) hx hb hts hiX8_leastFull_X8 hown hK hP 0 rfl rfl 1 (by decide) (hts _ lkX8_leastFull_13) (fun _ h9 => h9) rfl dX8_leastFull_20 ?_
    refine lv_iconst (v := 0) hx hb dX8_leastFull_23 (by decide) ?_
    obtain ⟨S_3, hS_3, hv⟩ := qB hv
    refine m_SV (As := [.ref (a0 1), .int (0:Int32), .ref (a0 2), .int (0:Int32)]) (rest := []) (Wn := (fun _ : Unit => (wMod E a0 (sr M0 1 S_3)))) (Wr := [((a0 0), .inr (7, [.ref (a0 1), .ref (a0 2), .ref (a0 3), .int (M0 8 0), .ref (a0 4), .ref (a0 5), .ref (a0 6), .int (M0 8 1), .int (M0 8 2), .int (M0 8 3), .ref (a0 7), .int (M0 8 4), .ref (a0 8), .int (M0 8 5)])), aI E (a0 3) 696 (M0 2), aI E (a0 4) 232 (M0 3), aZ E (a0 5) 2 (M0 4), aI E (a0 6) 80 (M0 5), aI E (a0 7) 7 (M0 6), aI E (a0 8) 44 (M0 7)]) hx hb hml hown hts hl.1 (kX8_lays l D E (a0 1) (a0 2) H.size hS_3) (va_cwS 4 hts gX8_leastFull_X8_lays rfl rfl rfl (by decide +kernel) ⟨Nat.le_of_ble_eq_true rfl, Nat.le_of_ble_eq_true rfl⟩) hP hD hS hA hK [1, 2] [0, 3, 4, 5, 6, 7, 8] [0, 7, 8, 1, 2, 3, 4, 5, 6] (by decide) rfl rfl (by decide) (by decide) (by decide) (fun _ => rfl) rfl rfl (Nat.le_of_ble_eq_true rfl) dX8_leastFull_24 ⟨Nat.le_of_ble_eq_true rfl, Nat.le_of_ble_eq_true rfl⟩ (fun _ H locs hP hD hS => ?_)
    obtain ⟨M0s_4, hM0s_4, hv⟩ := qB hv
    obtain ⟨hP, hD⟩ := m_st (F := fun Z9 : FS => (wMod E a0 Z9)) (Option.some.inj hM0s_4) hP hD
    refine lv_iconst (v := 1) hx hb dX8_leastFull_27 (by decide) ?_
    refine lv_istore_n (lv' := [(2, .int (1:Int32)), (0, .ref (a0 0)), (1, .int x1)]) hx hb dX8_leastFull_28 rfl hl (by decide) rfl (fun ls hl => ?_)
    exact wfX8_leastFull_L29 C hK hA  6000 M0s_4 (1:Int32) hv _ _ _ hP hD hS (lv_sub hl [1, 2, 0] rfl)
  · have hv := qT c_8_k_2 hv
    refine lv_bipush (v := -2) hx hb dX8_leastFull_11 (by decide) ?_
    exact m_ret (F := (fun (Z9 : FS) => (fun _ : Unit => (wMod E a0 Z9)))) () C dX8_leastFull_13 hv hP hD hS

theorem lkX8_put_160 : (.fieldLink RX8 160 "QuarterTilesModel" "padded" "I" : Cond) ∈ wsX8_put := by decide +kernel
theorem hiX8_put_X8 : ∀ w ∈ wsX80, w ∈ wsX8_put := by decide +kernel
theorem lkX8_put_26 : (.fieldLink RX8 26 "QuarterTilesModel" "pad" "[I" : Cond) ∈ wsX8_put := by decide +kernel
theorem lkX8_put_185 : (.constantLong RX8 185 255 : Cond) ∈ wsX8_put := by decide +kernel
set_option maxRecDepth 100000 in
set_option maxHeartbeats 4000000 in
theorem wfX8_put_L105 {p : Program} {e : Env} {s : State} {m : MethodId} {below : List Frame} {meth : Method} {c : Code} {l : Launch} {D : va_G} {E : Nat → ClassId} {a0 : Nat → Nat} {x1 : Int64} {v : Int32} {M09 : FS} {A : Nat → Prop} {y1 : Int64} (C : Ctx p s m meth c [.ref (a0 0), .long x1] wsX8_put cX8_put 8 (some .int) RX8) (hK : va_K D vwCl (tyE E) s) (hA : ∀ q : Nat, s.heap.size ≤ q → A q) : ∀ (q : Nat) (M0 : FS) (y7 : Int32), fX8_put_L105 y1 q M0 y7 = some (v, M09) → ∀ (H : Heap) (locs : List Loc) (ls : Array Slot), va_P D vwCl ((wMod E a0 M0)) H → va_D A ((wMod E a0 M0)) → va_S A s.heap H locs → lv_has ls 8 [(0, .ref (a0 0)), (1, .long y1), (7, .int y7)] → WI p l e (rmN 1 22) s m [.ref (a0 0), .long x1] below meth c D A v (fun _ : Unit => (wMod E a0 M09)) 0 0 H locs 0 0 105 ls [] := by
  obtain ⟨hx, hb, hr, hml, hown, hlocks, hts⟩ := id C
  intro q
  induction q with
  | zero =>
    intro M0 y7 hv
    cases hv
  | succ q ih =>
    intro M0 y7 hv H locs ls hP hD hS hl
    rw [fX8_put_L105.eq_2] at hv
    refine lv_iload hx hb dX8_put_105 (lv_at hl 2 rfl) ?_
    refine lv_if_lt (tgt := 147) hx hb dX8_put_107 (by decide) (fun c_107_k_6 => ?_) (fun c_107_k_6 => ?_)
    · have hv := qT c_107_k_6 hv
      refine lv_aload_n hx hb dX8_put_147 rfl (lv_at hl 0 rfl) ?_
      refine va_get (D := D) (ci := 7) (v := .int (M0 8 1)) (C := RX8) (T := TX8) (N := 14) hx hb hts hiX8_put_X8 hown hK hP 0 rfl rfl 7 (by decide) (hts _ lkX8_put_160) (fun _ h9 => h9) rfl dX8_put_148 ?_
      exact m_ret (F := (fun (Z9 : FS) => (fun _ : Unit => (wMod E a0 Z9)))) () C dX8_put_151 hv hP hD hS
    · have hv := qF c_107_k_6 hv
      refine lv_aload_n hx hb dX8_put_110 rfl (lv_at hl 0 rfl) ?_
      refine va_get (D := D) (ci := 7) (v := .ref (a0 6)) (C := RX8) (T := TX8) (N := 14) hx hb hts hiX8_put_X8 hown hK hP 0 rfl rfl 6 (by decide) (hts _ lkX8_put_26) (fun _ h9 => h9) rfl dX8_put_111 ?_
      refine lv_aload_n hx hb dX8_put_114 rfl (lv_at hl 0 rfl) ?_
      refine va_get (D := D) (ci := 7) (v := .int (M0 8 1)) (C := RX8) (T := TX8) (N := 14) hx hb hts hiX8_put_X8 hown hK hP 0 rfl rfl 7 (by decide) (hts _ lkX8_put_160) (fun _ h9 => h9) rfl dX8_put_115 ?_
      refine lv_lload_n hx hb dX8_put_118 rfl (lv_at hl 1 rfl) ?_
      refine lv_bipush (v := 8) hx hb dX8_put_119 (by decide) ?_
      refine lv_iload hx hb dX8_put_121 (lv_at hl 2 rfl) ?_
      refine lv_imul hx hb dX8_put_123 ?_
      refine lv_lushr (v := (y1.toUInt64 >>> (((8:Int32) * y7).toInt64.toUInt64 &&& Int64.toUInt64 63)).toInt64) hx hb dX8_put_124 rfl ?_
      refine lv_ldc2 (v := 255) hx hb hown (hts _ lkX8_put_185) dX8_put_125 ?_
      refine lv_land hx hb dX8_put_128 ?_
      refine lv_l2i (v := ((((y1.toUInt64 >>> (((8:Int32) * y7).toInt64.toUInt64 &&& Int64.toUInt64 63)).toInt64) &&& (255:Int64)).toInt32)) hx hb dX8_put_129 rfl ?_
      obtain ⟨f_7, hf_7, hv⟩ := qB hv
      refine m_ist hx hb hK hP hD hS 6 0 rfl rfl hf_7 dX8_put_130 (fun H locs hP hD hS => ?_)
      obtain ⟨M0s_8, hM0s_8, hv⟩ := qB hv
      obtain ⟨hP, hD⟩ := m_st (F := fun Z9 : FS => (wMod E a0 Z9)) (Option.some.inj hM0s_8) hP hD
      refine lv_aload_n hx hb dX8_put_131 rfl (lv_at hl 0 rfl) ?_
      refine lv_dup hx hb dX8_put_132 rfl ?_
      refine va_get (D := D) (ci := 7) (v := .int (M0s_8 8 1)) (C := RX8) (T := TX8) (N := 14) hx hb hts hiX8_put_X8 hown hK hP 0 rfl rfl 7 (by decide) (hts _ lkX8_put_160) (fun _ h9 => h9) rfl dX8_put_133 ?_
      refine lv_iconst (v := 1) hx hb dX8_put_136 (by decide) ?_
      refine lv_iadd hx hb dX8_put_137 ?_
      refine va_put (D := D) (ci := 7) (v := .int ((M0s_8 8 1) + (1:Int32))) (ty := .int) (C := RX8) (T := TX8) (N := 14) hx hb hts hiX8_put_X8 tyX8 tyX8_ok nmX8 hown hK hP hD hS 0 rfl rfl 7 (by decide) (hts _ lkX8_put_160) (fun _ h9 => h9) rfl (by decide +kernel) rfl rfl (Nat.le_of_ble_eq_true rfl) dX8_put_138 (fun H locs hP hD hS => ?_)
      obtain ⟨M0s_9, hM0s_9, hv⟩ := qB hv
      obtain ⟨hP, hD⟩ := m_st (F := fun Z9 : FS => (wMod E a0 Z9)) (Option.some.inj hM0s_9) hP hD
      refine lv_iinc (v := (y7 + (-1))) (lv' := [(7, .int (y7 + (-1))), (0, .ref (a0 0)), (1, .long y1)]) hx hb dX8_put_141 hl (k := 2) rfl (by rfl) (by decide) rfl (fun ls hl => ?_)
      refine lv_goto (tgt := 105) hx hb dX8_put_144 (by decide) ?_
      exact ih M0s_9 (y7 + (-1)) hv _ _ _ hP hD hS (lv_sub hl [1, 2, 0] rfl)

set_option maxRecDepth 100000 in
set_option maxHeartbeats 4000000 in
theorem wfX8_put_L67 {p : Program} {e : Env} {s : State} {m : MethodId} {below : List Frame} {meth : Method} {c : Code} {l : Launch} {D : va_G} {E : Nat → ClassId} {a0 : Nat → Nat} {x1 : Int64} {v : Int32} {M09 : FS} {A : Nat → Prop} (C : Ctx p s m meth c [.ref (a0 0), .long x1] wsX8_put cX8_put 8 (some .int) RX8) (hK : va_K D vwCl (tyE E) s) (hA : ∀ q : Nat, s.heap.size ≤ q → A q) : ∀ (M0 : FS) (y1 : Int64) (y3 : Int32) (y4 : Int64) (y6 : Int32), fX8_put_L67 M0 y1 y3 y4 y6 = some (v, M09) → ∀ (H : Heap) (locs : List Loc) (ls : Array Slot), va_P D vwCl ((wMod E a0 M0)) H → va_D A ((wMod E a0 M0)) → va_S A s.heap H locs → lv_has ls 8 [(0, .ref (a0 0)), (1, .long y1), (3, .int y3), (4, .long y4), (6, .int y6)] → WI p l e (rmN 1 22) s m [.ref (a0 0), .long x1] below meth c D A v (fun _ : Unit => (wMod E a0 M09)) 0 0 H locs 0 0 67 ls [] := by
  obtain ⟨hx, hb, hr, hml, hown, hlocks, hts⟩ := id C
  intro M0 y1 y3 y4 y6 hv H locs ls hP hD hS hl
  unfold fX8_put_L67 at hv
  refine lv_iload_n hx hb dX8_put_67 rfl (lv_at hl 2 rfl) ?_
  refine lv_if_eq (tgt := 83) hx hb dX8_put_68 (by decide) (fun c_68_k_2 => ?_) (fun c_68_k_2 => ?_)
  · have hv := qT c_68_k_2 hv
    refine lv_bipush (v := -2) hx hb dX8_put_83 (by decide) ?_
    exact m_ret (F := (fun (Z9 : FS) => (fun _ : Unit => (wMod E a0 Z9)))) () C dX8_put_85 hv hP hD hS
  · have hv := qF c_68_k_2 hv
    refine lv_iload hx hb dX8_put_71 (lv_at hl 4 rfl) ?_
    refine lv_if_eq (tgt := 83) hx hb dX8_put_73 (by decide) (fun c_73_k_3 => ?_) (fun c_73_k_3 => ?_)
    · have hv := qT c_73_k_3 hv
      refine lv_bipush (v := -2) hx hb dX8_put_83 (by decide) ?_
      exact m_ret (F := (fun (Z9 : FS) => (fun _ : Unit => (wMod E a0 Z9)))) () C dX8_put_85 hv hP hD hS
    · have hv := qF c_73_k_3 hv
      refine lv_lload hx hb dX8_put_76 (lv_at hl 3 rfl) ?_
      refine lv_lconst (v := 0) hx hb dX8_put_78 (by decide) ?_
      refine W.lcmp hx hb dX8_put_79 ?_
      refine lv_if_eq (tgt := 86) hx hb dX8_put_80 (by decide) (fun c_80_k_4 => ?_) (fun c_80_k_4 => ?_)
      · have hv := qT c_80_k_4 hv
        refine lv_aload_n hx hb dX8_put_86 rfl (lv_at hl 0 rfl) ?_
        refine va_get (D := D) (ci := 7) (v := .int (M0 8 1)) (C := RX8) (T := TX8) (N := 14) hx hb hts hiX8_put_X8 hown hK hP 0 rfl rfl 7 (by decide) (hts _ lkX8_put_160) (fun _ h9 => h9) rfl dX8_put_87 ?_
        refine lv_iload_n hx hb dX8_put_90 rfl (lv_at hl 2 rfl) ?_
        refine lv_iadd hx hb dX8_put_91 ?_
        refine lv_bipush (v := 80) hx hb dX8_put_92 (by decide) ?_
        refine lv_icmp_le (tgt := 100) hx hb dX8_put_94 (by decide) (fun c_94_k_5 => ?_) (fun c_94_k_5 => ?_)
        · have hv := qT c_94_k_5 hv
          refine lv_iload_n hx hb dX8_put_100 rfl (lv_at hl 2 rfl) ?_
          refine lv_iconst (v := 1) hx hb dX8_put_101 (by decide) ?_
          refine lv_isub hx hb dX8_put_102 ?_
          refine lv_istore (lv' := [(7, .int (y3 - (1:Int32))), (0, .ref (a0 0)), (1, .long y1), (3, .int y3), (4, .long y4), (6, .int y6)]) hx hb dX8_put_103 hl (by decide) rfl (fun ls hl => ?_)
          exact wfX8_put_L105 C hK hA  6000 M0 (y3 - (1:Int32)) hv _ _ _ hP hD hS (lv_sub hl [1, 2, 0] rfl)
        · have hv := qF c_94_k_5 hv
          refine lv_bipush (v := -4) hx hb dX8_put_97 (by decide) ?_
          exact m_ret (F := (fun (Z9 : FS) => (fun _ : Unit => (wMod E a0 Z9)))) () C dX8_put_99 hv hP hD hS
      · have hv := qF c_80_k_4 hv
        refine lv_bipush (v := -2) hx hb dX8_put_83 (by decide) ?_
        exact m_ret (F := (fun (Z9 : FS) => (fun _ : Unit => (wMod E a0 Z9)))) () C dX8_put_85 hv hP hD hS

set_option maxRecDepth 100000 in
set_option maxHeartbeats 4000000 in
theorem wfX8_put_L51 {p : Program} {e : Env} {s : State} {m : MethodId} {below : List Frame} {meth : Method} {c : Code} {l : Launch} {D : va_G} {E : Nat → ClassId} {a0 : Nat → Nat} {M0 : FS} {x1 : Int64} {v : Int32} {M09 : FS} {A : Nat → Prop} {y1 : Int64} (C : Ctx p s m meth c [.ref (a0 0), .long x1] wsX8_put cX8_put 8 (some .int) RX8) (hK : va_K D vwCl (tyE E) s) (hA : ∀ q : Nat, s.heap.size ≤ q → A q) {g8 : Int32 → Int64 → Int32 → Option (Int32 × FS)} (hg8 : ∀ (y3 : Int32) (y4 : Int64) (y6 : Int32), g8 y3 y4 y6 = some (v, M09) → ∀ (H : Heap) (locs : List Loc) (ls : Array Slot), va_P D vwCl ((wMod E a0 M0)) H → va_D A ((wMod E a0 M0)) → va_S A s.heap H locs → lv_has ls 8 [(0, .ref (a0 0)), (1, .long y1), (3, .int y3), (4, .long y4), (6, .int y6)] → WI p l e (rmN 1 22) s m [.ref (a0 0), .long x1] below meth c D A v (fun _ : Unit => (wMod E a0 M09)) 0 0 H locs 0 0 8 ls []) : ∀ (y3 : Int32) (y4 : Int64), fX8_put_L51 M0 g8 y1 y3 y4 = some (v, M09) → ∀ (H : Heap) (locs : List Loc) (ls : Array Slot), va_P D vwCl ((wMod E a0 M0)) H → va_D A ((wMod E a0 M0)) → va_S A s.heap H locs → lv_has ls 8 [(0, .ref (a0 0)), (1, .long y1), (3, .int y3), (4, .long y4)] → WI p l e (rmN 1 22) s m [.ref (a0 0), .long x1] below meth c D A v (fun _ : Unit => (wMod E a0 M09)) 0 0 H locs 0 0 51 ls [] := by
  obtain ⟨hx, hb, hr, hml, hown, hlocks, hts⟩ := id C
  intro y3 y4 hv H locs ls hP hD hS hl
  unfold fX8_put_L51 at hv
  refine lv_iconst (v := 0) hx hb dX8_put_51 (by decide) ?_
  refine lv_istore (lv' := [(6, .int (0:Int32)), (0, .ref (a0 0)), (1, .long y1), (3, .int y3), (4, .long y4)]) hx hb dX8_put_52 hl (by decide) rfl (fun ls hl => ?_)
  refine lv_lload hx hb dX8_put_54 (lv_at hl 4 rfl) ?_
  refine lv_bipush (v := 8) hx hb dX8_put_56 (by decide) ?_
  refine lv_lushr (v := (y4.toUInt64 >>> ((8:Int32).toInt64.toUInt64 &&& Int64.toUInt64 63)).toInt64) hx hb dX8_put_58 rfl ?_
  refine lv_lstore (lv' := [(4, .long ((y4.toUInt64 >>> ((8:Int32).toInt64.toUInt64 &&& Int64.toUInt64 63)).toInt64)), (6, .int (0:Int32)), (0, .ref (a0 0)), (1, .long y1), (3, .int y3)]) hx hb dX8_put_59 hl (by decide) rfl (fun ls hl => ?_)
  refine lv_iinc (v := (y3 + 1)) (lv' := [(3, .int (y3 + 1)), (4, .long ((y4.toUInt64 >>> ((8:Int32).toInt64.toUInt64 &&& Int64.toUInt64 63)).toInt64)), (6, .int (0:Int32)), (0, .ref (a0 0)), (1, .long y1)]) hx hb dX8_put_61 hl (k := 4) rfl (by rfl) (by decide) rfl (fun ls hl => ?_)
  refine lv_goto (tgt := 8) hx hb dX8_put_64 (by decide) ?_
  exact hg8 (y3 + 1) ((y4.toUInt64 >>> ((8:Int32).toInt64.toUInt64 &&& Int64.toUInt64 63)).toInt64) (0:Int32) hv _ _ _ hP hD hS (lv_sub hl [3, 4, 0, 1, 2] rfl)

set_option maxRecDepth 100000 in
set_option maxHeartbeats 4000000 in
theorem wfX8_put_L8 {p : Program} {e : Env} {s : State} {m : MethodId} {below : List Frame} {meth : Method} {c : Code} {l : Launch} {D : va_G} {E : Nat → ClassId} {a0 : Nat → Nat} {M0 : FS} {x1 : Int64} {v : Int32} {M09 : FS} {A : Nat → Prop} {y1 : Int64} (C : Ctx p s m meth c [.ref (a0 0), .long x1] wsX8_put cX8_put 8 (some .int) RX8) (hK : va_K D vwCl (tyE E) s) (hA : ∀ q : Nat, s.heap.size ≤ q → A q) : ∀ (q : Nat) (y3 : Int32) (y4 : Int64) (y6 : Int32), fX8_put_L8 M0 y1 q y3 y4 y6 = some (v, M09) → ∀ (H : Heap) (locs : List Loc) (ls : Array Slot), va_P D vwCl ((wMod E a0 M0)) H → va_D A ((wMod E a0 M0)) → va_S A s.heap H locs → lv_has ls 8 [(0, .ref (a0 0)), (1, .long y1), (3, .int y3), (4, .long y4), (6, .int y6)] → WI p l e (rmN 1 22) s m [.ref (a0 0), .long x1] below meth c D A v (fun _ : Unit => (wMod E a0 M09)) 0 0 H locs 0 0 8 ls [] := by
  obtain ⟨hx, hb, hr, hml, hown, hlocks, hts⟩ := id C
  intro q
  induction q with
  | zero =>
    intro y3 y4 y6 hv
    cases hv
  | succ q ih =>
    intro y3 y4 y6 hv H locs ls hP hD hS hl
    rw [fX8_put_L8.eq_2] at hv
    refine lv_iload_n hx hb dX8_put_8 rfl (lv_at hl 2 rfl) ?_
    refine lv_bipush (v := 8) hx hb dX8_put_9 (by decide) ?_
    refine lv_icmp_ge (tgt := 67) hx hb dX8_put_11 (by decide) (fun c_11_k_1 => ?_) (fun c_11_k_1 => ?_)
    · have hv := qT c_11_k_1 hv
      exact wfX8_put_L67 C hK hA  M0 y1 y3 y4 y6 hv _ _ _ hP hD hS (lv_sub hl [0, 1, 2, 3, 4] rfl)
    · have hv := qF c_11_k_1 hv
      refine lv_lload hx hb dX8_put_14 (lv_at hl 3 rfl) ?_
      refine lv_ldc2 (v := 255) hx hb hown (hts _ lkX8_put_185) dX8_put_16 ?_
      refine lv_land hx hb dX8_put_19 ?_
      refine lv_lconst (v := 0) hx hb dX8_put_20 (by decide) ?_
      refine W.lcmp hx hb dX8_put_21 ?_
      refine lv_if_eq (tgt := 67) hx hb dX8_put_22 (by decide) (fun c_22_k_10 => ?_) (fun c_22_k_10 => ?_)
      · have hv := qT c_22_k_10 hv
        exact wfX8_put_L67 C hK hA  M0 y1 y3 y4 y6 hv _ _ _ hP hD hS (lv_sub hl [0, 1, 2, 3, 4] rfl)
      · have hv := qF c_22_k_10 hv
        refine lv_iload hx hb dX8_put_25 (lv_at hl 4 rfl) ?_
        refine lv_if_eq (tgt := 51) hx hb dX8_put_27 (by decide) (fun c_27_k_11 => ?_) (fun c_27_k_11 => ?_)
        · have hv := qT c_27_k_11 hv
          exact wfX8_put_L51 C hK hA (hg8 := ih) y3 y4 hv _ _ _ hP hD hS (lv_sub hl [0, 1, 2, 3] rfl)
        · have hv := qF c_27_k_11 hv
          refine lv_lload hx hb dX8_put_30 (lv_at hl 3 rfl) ?_
          refine lv_ldc2 (v := 255) hx hb hown (hts _ lkX8_put_185) dX8_put_32 ?_
          refine lv_land hx hb dX8_put_35 ?_
          refine lv_l2i (v := ((y4 &&& (255:Int64)).toInt32)) hx hb dX8_put_36 rfl ?_
          refine lv_bipush (v := 33) hx hb dX8_put_37 (by decide) ?_
          refine lv_bipush (v := 126) hx hb dX8_put_39 (by decide) ?_
          obtain ⟨r_12, hr_12, hv⟩ := qB hv
          refine q_S (As := [.int ((y4 &&& (255:Int64)).toInt32), .int (33:Int32), .int (126:Int32)]) (rest := []) hx hb hml hown hts hl.1 (kX8_in l D E  hr_12) zNo_mv (va_cwS 3 hts gX8_put_X8_in rfl rfl rfl (by decide +kernel) ⟨Nat.le_of_ble_eq_true rfl, Nat.le_of_ble_eq_true rfl⟩) (hP.sub (ws' := []) [] rfl) hK trivial rfl rfl (Nat.le_of_ble_eq_true rfl) dX8_put_41 ⟨Nat.zero_le _, Nat.zero_le _⟩ ?_
          refine lv_if_eq (tgt := 51) hx hb dX8_put_44 (by decide) (fun c_44_k_13 => ?_) (fun c_44_k_13 => ?_)
          · have hv := qT c_44_k_13 hv
            exact wfX8_put_L51 C hK hA (hg8 := ih) y3 y4 hv _ _ _ hP hD hS (lv_sub hl [0, 1, 2, 3] rfl)
          · have hv := qF c_44_k_13 hv
            refine lv_iconst (v := 1) hx hb dX8_put_47 (by decide) ?_
            refine lv_goto (tgt := 52) hx hb dX8_put_48 (by decide) ?_
            refine lv_istore (lv' := [(6, .int (1:Int32)), (0, .ref (a0 0)), (1, .long y1), (3, .int y3), (4, .long y4)]) hx hb dX8_put_52 hl (by decide) rfl (fun ls hl => ?_)
            refine lv_lload hx hb dX8_put_54 (lv_at hl 4 rfl) ?_
            refine lv_bipush (v := 8) hx hb dX8_put_56 (by decide) ?_
            refine lv_lushr (v := (y4.toUInt64 >>> ((8:Int32).toInt64.toUInt64 &&& Int64.toUInt64 63)).toInt64) hx hb dX8_put_58 rfl ?_
            refine lv_lstore (lv' := [(4, .long ((y4.toUInt64 >>> ((8:Int32).toInt64.toUInt64 &&& Int64.toUInt64 63)).toInt64)), (6, .int (1:Int32)), (0, .ref (a0 0)), (1, .long y1), (3, .int y3)]) hx hb dX8_put_59 hl (by decide) rfl (fun ls hl => ?_)
            refine lv_iinc (v := (y3 + 1)) (lv' := [(3, .int (y3 + 1)), (4, .long ((y4.toUInt64 >>> ((8:Int32).toInt64.toUInt64 &&& Int64.toUInt64 63)).toInt64)), (6, .int (1:Int32)), (0, .ref (a0 0)), (1, .long y1)]) hx hb dX8_put_61 hl (k := 4) rfl (by rfl) (by decide) rfl (fun ls hl => ?_)
            refine lv_goto (tgt := 8) hx hb dX8_put_64 (by decide) ?_
            exact ih (y3 + 1) ((y4.toUInt64 >>> ((8:Int32).toInt64.toUInt64 &&& Int64.toUInt64 63)).toInt64) (1:Int32) hv _ _ _ hP hD hS (lv_sub hl [3, 4, 0, 1, 2] rfl)

set_option maxRecDepth 100000 in
set_option maxHeartbeats 4000000 in
theorem kX8_put (l : Launch) (D : va_G) (E : Nat → ClassId) (a0 : Nat → Nat) {M0 : FS} {x1 : Int64} {v : Int32} {M09 : FS} (sz : Nat) (hv : fX8_put M0 x1 = some (v, M09)) : MI l yX8_put wsX8_put (rmN 1 22) D E ((wMod E a0 M0)) sz [.ref (a0 0), .long x1] v (fun _ : Unit => (wMod E a0 M09)) 0 0 := by
  refine MI.of (by decide) rfl (Nat.le_of_ble_eq_true rfl) ?_
  intro p e s m below meth c A H locs C hP hK hD hS hA ls hl
  have hl : lv_has ls 8 [(0, .ref (a0 0)), (1, .long x1)] := hl
  obtain ⟨hx, hb, hr, hml, hown, hlocks, hts⟩ := id C
  unfold fX8_put at hv
  refine lv_iconst (v := 0) hx hb dX8_put_0 (by decide) ?_
  refine lv_istore_n (lv' := [(3, .int (0:Int32)), (0, .ref (a0 0)), (1, .long x1)]) hx hb dX8_put_1 rfl hl (by decide) rfl (fun ls hl => ?_)
  refine lv_lload_n hx hb dX8_put_2 rfl (lv_at hl 2 rfl) ?_
  refine lv_lstore (lv' := [(4, .long x1), (3, .int (0:Int32)), (0, .ref (a0 0)), (1, .long x1)]) hx hb dX8_put_3 hl (by decide) rfl (fun ls hl => ?_)
  refine lv_iconst (v := 1) hx hb dX8_put_5 (by decide) ?_
  refine lv_istore (lv' := [(6, .int (1:Int32)), (4, .long x1), (3, .int (0:Int32)), (0, .ref (a0 0)), (1, .long x1)]) hx hb dX8_put_6 hl (by decide) rfl (fun ls hl => ?_)
  exact wfX8_put_L8 C hK hA  6000 (0:Int32) x1 (1:Int32) hv _ _ _ hP hD hS (lv_sub hl [3, 4, 2, 1, 0] rfl)

theorem lkX8_wipe_160 : (.fieldLink RX8 160 "QuarterTilesModel" "padded" "I" : Cond) ∈ wsX8_wipe := by decide +kernel
theorem hiX8_wipe_X8 : ∀ w ∈ wsX80, w ∈ wsX8_wipe := by decide +kernel
set_option maxRecDepth 100000 in
set_option maxHeartbeats 4000000 in
theorem kX8_wipe (l : Launch) (D : va_G) (E : Nat → ClassId) (a0 : Nat → Nat) {M0 : FS} {v : Int32} {M09 : FS} (sz : Nat) (hv : fX8_wipe M0 = some (v, M09)) : MI l yX8_wipe wsX8_wipe (rmN 0 0) D E ((wMod E a0 M0)) sz [.ref (a0 0)] v (fun _ : Unit => (wMod E a0 M09)) 0 0 := by
  refine MI.of (by decide) rfl (Nat.le_of_ble_eq_true rfl) ?_
  intro p e s m below meth c A H locs C hP hK hD hS hA ls hl
  have hl : lv_has ls 2 [(0, .ref (a0 0))] := hl
  obtain ⟨hx, hb, hr, hml, hown, hlocks, hts⟩ := id C
  unfold fX8_wipe at hv
  refine lv_aload_n hx hb dX8_wipe_0 rfl (lv_at hl 0 rfl) ?_
  refine va_get (D := D) (ci := 7) (v := .int (M0 8 1)) (C := RX8) (T := TX8) (N := 14) hx hb hts hiX8_wipe_X8 hown hK hP 0 rfl rfl 7 (by decide) (hts _ lkX8_wipe_160) (fun _ h9 => h9) rfl dX8_wipe_1 ?_
  refine lv_istore_n (lv' := [(1, .int (M0 8 1)), (0, .ref (a0 0))]) hx hb dX8_wipe_4 rfl hl (by decide) rfl (fun ls hl => ?_)
  refine lv_aload_n hx hb dX8_wipe_5 rfl (lv_at hl 1 rfl) ?_
  refine lv_iconst (v := 0) hx hb dX8_wipe_6 (by decide) ?_
  refine va_put (D := D) (ci := 7) (v := .int (0:Int32)) (ty := .int) (C := RX8) (T := TX8) (N := 14) hx hb hts hiX8_wipe_X8 tyX8 tyX8_ok nmX8 hown hK hP hD hS 0 rfl rfl 7 (by decide) (hts _ lkX8_wipe_160) (fun _ h9 => h9) rfl (by decide +kernel) rfl rfl (Nat.le_of_ble_eq_true rfl) dX8_wipe_7 (fun H locs hP hD hS => ?_)
  obtain ⟨M0s_1, hM0s_1, hv⟩ := qB hv
  obtain ⟨hP, hD⟩ := m_st (F := fun Z9 : FS => (wMod E a0 Z9)) (Option.some.inj hM0s_1) hP hD
  refine lv_iload_n hx hb dX8_wipe_10 rfl (lv_at hl 0 rfl) ?_
  exact m_ret (F := (fun (Z9 : FS) => (fun _ : Unit => (wMod E a0 Z9)))) () C dX8_wipe_11 hv hP hD hS

theorem lkX8_takes_187 : (.fieldLink RX8 187 "QuarterTilesModel" "at" "I" : Cond) ∈ wsX8_takes := by decide +kernel
theorem hiX8_takes_X8 : ∀ w ∈ wsX80, w ∈ wsX8_takes := by decide +kernel
set_option maxRecDepth 100000 in
set_option maxHeartbeats 4000000 in
theorem kX8_takes (l : Launch) (D : va_G) (E : Nat → ClassId) (a0 : Nat → Nat) {M0 : FS} {x1 : Int32} {v : Int32} {M09 : FS} (sz : Nat) (hv : fX8_takes M0 x1 = some (v, M09)) : MI l yX8_takes wsX8_takes (rmN 2 44) D E ((wMod E a0 M0)) sz [.ref (a0 0), .int x1] v (fun _ : Unit => (wMod E a0 M09)) 0 0 := by
  refine MI.of (by decide) rfl (Nat.le_of_ble_eq_true rfl) ?_
  intro p e s m below meth c A H locs C hP hK hD hS hA ls hl
  have hl : lv_has ls 3 [(0, .ref (a0 0)), (1, .int x1)] := hl
  obtain ⟨hx, hb, hr, hml, hown, hlocks, hts⟩ := id C
  unfold fX8_takes at hv
  refine lv_aload_n hx hb dX8_takes_0 rfl (lv_at hl 0 rfl) ?_
  refine lv_iload_n hx hb dX8_takes_1 rfl (lv_at hl 1 rfl) ?_
  refine lv_iload_n hx hb dX8_takes_2 rfl (lv_at hl 1 rfl) ?_
  obtain ⟨r_1, hr_1, hv⟩ := qB hv
  refine q_V (As := [.int x1, .int x1]) (rest := []) (C := RX8) (T0 := TX8) (N0 := 14) (ci := 7) hx hb hml hown hts hl.1 (kX8_sees l D E a0 hr_1) zNo_mv (cwV 2 hts gX8_takes_X8_sees rfl rfl rfl (by decide +kernel) ⟨Nat.le_of_ble_eq_true rfl, Nat.le_of_ble_eq_true rfl⟩) 0 rfl rfl (hP.sub (ws' := (wMod E a0 M0)) [0, 1, 2, 3, 4, 5, 6, 7, 8] rfl) hK trivial rfl rfl (Nat.le_of_ble_eq_true rfl) dX8_takes_3 ⟨Nat.zero_le _, Nat.zero_le _⟩ ?_
  refine lv_istore_n (lv' := [(2, .int r_1), (0, .ref (a0 0)), (1, .int x1)]) hx hb dX8_takes_6 rfl hl (by decide) rfl (fun ls hl => ?_)
  refine lv_aload_n hx hb dX8_takes_7 rfl (lv_at hl 1 rfl) ?_
  refine lv_dup hx hb dX8_takes_8 rfl ?_
  refine va_get (D := D) (ci := 7) (v := .int (M0 8 4)) (C := RX8) (T := TX8) (N := 14) hx hb hts hiX8_takes_X8 hown hK hP 0 rfl rfl 11 (by decide) (hts _ lkX8_takes_187) (fun _ h9 => h9) rfl dX8_takes_9 ?_
  refine lv_iload_n hx hb dX8_takes_12 rfl (lv_at hl 0 rfl) ?_
  refine lv_if_eq (tgt := 20) hx hb dX8_takes_13 (by decide) (fun c_13_k_2 => ?_) (fun c_13_k_2 => ?_)
  · have hv := qT c_13_k_2 hv
    refine lv_iconst (v := 0) hx hb dX8_takes_20 (by decide) ?_
    refine lv_iadd hx hb dX8_takes_21 ?_
    refine va_put (D := D) (ci := 7) (v := .int ((M0 8 4) + (0:Int32))) (ty := .int) (C := RX8) (T := TX8) (N := 14) hx hb hts hiX8_takes_X8 tyX8 tyX8_ok nmX8 hown hK hP hD hS 0 rfl rfl 11 (by decide) (hts _ lkX8_takes_187) (fun _ h9 => h9) rfl (by decide +kernel) rfl rfl (Nat.le_of_ble_eq_true rfl) dX8_takes_22 (fun H locs hP hD hS => ?_)
    obtain ⟨M0s_3, hM0s_3, hv⟩ := qB hv
    obtain ⟨hP, hD⟩ := m_st (F := fun Z9 : FS => (wMod E a0 Z9)) (Option.some.inj hM0s_3) hP hD
    refine lv_iload_n hx hb dX8_takes_25 rfl (lv_at hl 0 rfl) ?_
    exact m_retz (F := (fun (Z9 : FS) => (fun _ : Unit => (wMod E a0 Z9)))) () C dX8_takes_26 hv hP hD hS
  · have hv := qF c_13_k_2 hv
    refine lv_iconst (v := 1) hx hb dX8_takes_16 (by decide) ?_
    refine lv_goto (tgt := 21) hx hb dX8_takes_17 (by decide) ?_
    refine lv_iadd hx hb dX8_takes_21 ?_
    refine va_put (D := D) (ci := 7) (v := .int ((M0 8 4) + (1:Int32))) (ty := .int) (C := RX8) (T := TX8) (N := 14) hx hb hts hiX8_takes_X8 tyX8 tyX8_ok nmX8 hown hK hP hD hS 0 rfl rfl 11 (by decide) (hts _ lkX8_takes_187) (fun _ h9 => h9) rfl (by decide +kernel) rfl rfl (Nat.le_of_ble_eq_true rfl) dX8_takes_22 (fun H locs hP hD hS => ?_)
    obtain ⟨M0s_4, hM0s_4, hv⟩ := qB hv
    obtain ⟨hP, hD⟩ := m_st (F := fun Z9 : FS => (wMod E a0 Z9)) (Option.some.inj hM0s_4) hP hD
    refine lv_iload_n hx hb dX8_takes_25 rfl (lv_at hl 0 rfl) ?_
    exact m_retz (F := (fun (Z9 : FS) => (fun _ : Unit => (wMod E a0 Z9)))) () C dX8_takes_26 hv hP hD hS

theorem lkX8_isTold_26 : (.fieldLink RX8 26 "QuarterTilesModel" "pad" "[I" : Cond) ∈ wsX8_isTold := by decide +kernel
theorem hiX8_isTold_X8 : ∀ w ∈ wsX80, w ∈ wsX8_isTold := by decide +kernel
theorem lkX8_isTold_187 : (.fieldLink RX8 187 "QuarterTilesModel" "at" "I" : Cond) ∈ wsX8_isTold := by decide +kernel
theorem lkX8_isTold_32 : (.fieldLink RX8 32 "QuarterTilesModel" "told" "[I" : Cond) ∈ wsX8_isTold := by decide +kernel
theorem lkX8_isTold_193 : (.fieldLink RX8 193 "QuarterTilesModel" "toldMany" "I" : Cond) ∈ wsX8_isTold := by decide +kernel
set_option maxRecDepth 100000 in
set_option maxHeartbeats 4000000 in
theorem wfX8_isTold_L101 {p : Program} {e : Env} {s : State} {m : MethodId} {below : List Frame} {meth : Method} {c : Code} {l : Launch} {D : va_G} {E : Nat → ClassId} {a0 : Nat → Nat} {x1 : Int32} {v : Int32} {M09 : FS} {A : Nat → Prop} (C : Ctx p s m meth c [.ref (a0 0), .int x1] wsX8_isTold cX8_isTold 3 (some .boolean) RX8) (hK : va_K D vwCl (tyE E) s) (hA : ∀ q : Nat, s.heap.size ≤ q → A q) : ∀ (M0 : FS) (y1 : Int32) (y2 : Int32), fX8_isTold_L101 M0 y1 y2 = some (v, M09) → ∀ (H : Heap) (locs : List Loc) (ls : Array Slot), va_P D vwCl ((wMod E a0 M0)) H → va_D A ((wMod E a0 M0)) → va_S A s.heap H locs → lv_has ls 3 [(0, .ref (a0 0)), (1, .int y1), (2, .int y2)] → WI p l e (rmN 2 44) s m [.ref (a0 0), .int x1] below meth c D A v (fun _ : Unit => (wMod E a0 M09)) 0 0 H locs 0 0 101 ls [] := by
  obtain ⟨hx, hb, hr, hml, hown, hlocks, hts⟩ := id C
  intro M0 y1 y2 hv H locs ls hP hD hS hl
  unfold fX8_isTold_L101 at hv
  refine lv_aload_n hx hb dX8_isTold_101 rfl (lv_at hl 0 rfl) ?_
  refine va_get (D := D) (ci := 7) (v := .ref (a0 8)) (C := RX8) (T := TX8) (N := 14) hx hb hts hiX8_isTold_X8 hown hK hP 0 rfl rfl 12 (by decide) (hts _ lkX8_isTold_32) (fun _ h9 => h9) rfl dX8_isTold_102 ?_
  refine lv_iconst (v := 2) hx hb dX8_isTold_105 (by decide) ?_
  refine lv_aload_n hx hb dX8_isTold_106 rfl (lv_at hl 0 rfl) ?_
  refine va_get (D := D) (ci := 7) (v := .int (M0 8 5)) (C := RX8) (T := TX8) (N := 14) hx hb hts hiX8_isTold_X8 hown hK hP 0 rfl rfl 13 (by decide) (hts _ lkX8_isTold_193) (fun _ h9 => h9) rfl dX8_isTold_107 ?_
  refine lv_imul hx hb dX8_isTold_110 ?_
  refine lv_iload_n hx hb dX8_isTold_111 rfl (lv_at hl 1 rfl) ?_
  refine lv_iadd hx hb dX8_isTold_112 ?_
  refine lv_iload_n hx hb dX8_isTold_113 rfl (lv_at hl 2 rfl) ?_
  obtain ⟨f_6, hf_6, hv⟩ := qB hv
  refine m_ist hx hb hK hP hD hS 8 0 rfl rfl hf_6 dX8_isTold_114 (fun H locs hP hD hS => ?_)
  obtain ⟨M0s_7, hM0s_7, hv⟩ := qB hv
  obtain ⟨hP, hD⟩ := m_st (F := fun Z9 : FS => (wMod E a0 Z9)) (Option.some.inj hM0s_7) hP hD
  refine lv_iconst (v := 1) hx hb dX8_isTold_115 (by decide) ?_
  exact m_retz (F := (fun (Z9 : FS) => (fun _ : Unit => (wMod E a0 Z9)))) () C dX8_isTold_116 hv hP hD hS

set_option maxRecDepth 100000 in
set_option maxHeartbeats 4000000 in
theorem kX8_isTold (l : Launch) (D : va_G) (E : Nat → ClassId) (a0 : Nat → Nat) {M0 : FS} {x1 : Int32} {v : Int32} {M09 : FS} (sz : Nat) (hv : fX8_isTold M0 x1 = some (v, M09)) : MI l yX8_isTold wsX8_isTold (rmN 2 44) D E ((wMod E a0 M0)) sz [.ref (a0 0), .int x1] v (fun _ : Unit => (wMod E a0 M09)) 0 0 := by
  refine MI.of (by decide) rfl (Nat.le_of_ble_eq_true rfl) ?_
  intro p e s m below meth c A H locs C hP hK hD hS hA ls hl
  have hl : lv_has ls 3 [(0, .ref (a0 0)), (1, .int x1)] := hl
  obtain ⟨hx, hb, hr, hml, hown, hlocks, hts⟩ := id C
  unfold fX8_isTold at hv
  refine lv_aload_n hx hb dX8_isTold_0 rfl (lv_at hl 0 rfl) ?_
  refine lv_bipush (v := 48) hx hb dX8_isTold_1 (by decide) ?_
  refine lv_bipush (v := 57) hx hb dX8_isTold_3 (by decide) ?_
  obtain ⟨r_1, hr_1, hv⟩ := qB hv
  refine q_V (As := [.int (48:Int32), .int (57:Int32)]) (rest := []) (C := RX8) (T0 := TX8) (N0 := 14) (ci := 7) hx hb hml hown hts hl.1 (kX8_sees l D E a0 hr_1) zNo_mv (cwV 2 hts gX8_isTold_X8_sees rfl rfl rfl (by decide +kernel) ⟨Nat.le_of_ble_eq_true rfl, Nat.le_of_ble_eq_true rfl⟩) 0 rfl rfl (hP.sub (ws' := (wMod E a0 M0)) [0, 1, 2, 3, 4, 5, 6, 7, 8] rfl) hK trivial rfl rfl (Nat.le_of_ble_eq_true rfl) dX8_isTold_5 ⟨Nat.zero_le _, Nat.zero_le _⟩ ?_
  refine lv_if_ne (tgt := 13) hx hb dX8_isTold_8 (by decide) (fun c_8_k_2 => ?_) (fun c_8_k_2 => ?_)
  · have hv := qF c_8_k_2 hv
    refine lv_aload_n hx hb dX8_isTold_13 rfl (lv_at hl 0 rfl) ?_
    refine va_get (D := D) (ci := 7) (v := .ref (a0 6)) (C := RX8) (T := TX8) (N := 14) hx hb hts hiX8_isTold_X8 hown hK hP 0 rfl rfl 6 (by decide) (hts _ lkX8_isTold_26) (fun _ h9 => h9) rfl dX8_isTold_14 ?_
    refine lv_aload_n hx hb dX8_isTold_17 rfl (lv_at hl 0 rfl) ?_
    refine va_get (D := D) (ci := 7) (v := .int (M0 8 4)) (C := RX8) (T := TX8) (N := 14) hx hb hts hiX8_isTold_X8 hown hK hP 0 rfl rfl 11 (by decide) (hts _ lkX8_isTold_187) (fun _ h9 => h9) rfl dX8_isTold_18 ?_
    obtain ⟨x_3, hx_3, hv⟩ := qB hv
    refine q_ild hx hb hK hP 6 0 rfl rfl hx_3 dX8_isTold_21 ?_
    refine lv_bipush (v := 48) hx hb dX8_isTold_22 (by decide) ?_
    refine lv_isub hx hb dX8_isTold_24 ?_
    refine lv_istore_n (lv' := [(2, .int (x_3 - (48:Int32))), (0, .ref (a0 0)), (1, .int x1)]) hx hb dX8_isTold_25 rfl hl (by decide) rfl (fun ls hl => ?_)
    refine lv_aload_n hx hb dX8_isTold_26 rfl (lv_at hl 1 rfl) ?_
    refine lv_dup hx hb dX8_isTold_27 rfl ?_
    refine va_get (D := D) (ci := 7) (v := .int (M0 8 4)) (C := RX8) (T := TX8) (N := 14) hx hb hts hiX8_isTold_X8 hown hK hP 0 rfl rfl 11 (by decide) (hts _ lkX8_isTold_187) (fun _ h9 => h9) rfl dX8_isTold_28 ?_
    refine lv_iconst (v := 1) hx hb dX8_isTold_31 (by decide) ?_
    refine lv_iadd hx hb dX8_isTold_32 ?_
    refine va_put (D := D) (ci := 7) (v := .int ((M0 8 4) + (1:Int32))) (ty := .int) (C := RX8) (T := TX8) (N := 14) hx hb hts hiX8_isTold_X8 tyX8 tyX8_ok nmX8 hown hK hP hD hS 0 rfl rfl 11 (by decide) (hts _ lkX8_isTold_187) (fun _ h9 => h9) rfl (by decide +kernel) rfl rfl (Nat.le_of_ble_eq_true rfl) dX8_isTold_33 (fun H locs hP hD hS => ?_)
    obtain ⟨M0s_4, hM0s_4, hv⟩ := qB hv
    obtain ⟨hP, hD⟩ := m_st (F := fun Z9 : FS => (wMod E a0 Z9)) (Option.some.inj hM0s_4) hP hD
    refine lv_iload_n hx hb dX8_isTold_36 rfl (lv_at hl 0 rfl) ?_
    refine lv_if_le (tgt := 101) hx hb dX8_isTold_37 (by decide) (fun c_37_k_5 => ?_) (fun c_37_k_5 => ?_)
    · have hv := qT c_37_k_5 hv
      exact wfX8_isTold_L101 C hK hA  M0s_4 x1 (x_3 - (48:Int32)) hv _ _ _ hP hD hS (lv_sub hl [1, 2, 0] rfl)
    · have hv := qF c_37_k_5 hv
      refine lv_aload_n hx hb dX8_isTold_40 rfl (lv_at hl 1 rfl) ?_
      refine lv_bipush (v := 48) hx hb dX8_isTold_41 (by decide) ?_
      refine lv_bipush (v := 57) hx hb dX8_isTold_43 (by decide) ?_
      obtain ⟨r_8, hr_8, hv⟩ := qB hv
      refine q_V (As := [.int (48:Int32), .int (57:Int32)]) (rest := []) (C := RX8) (T0 := TX8) (N0 := 14) (ci := 7) hx hb hml hown hts hl.1 (kX8_sees l D E a0 hr_8) zNo_mv (cwV 2 hts gX8_isTold_X8_sees rfl rfl rfl (by decide +kernel) ⟨Nat.le_of_ble_eq_true rfl, Nat.le_of_ble_eq_true rfl⟩) 0 rfl rfl (hP.sub (ws' := (wMod E a0 M0s_4)) [0, 1, 2, 3, 4, 5, 6, 7, 8] rfl) hK trivial rfl rfl (Nat.le_of_ble_eq_true rfl) dX8_isTold_45 ⟨Nat.zero_le _, Nat.zero_le _⟩ ?_
      refine lv_if_eq (tgt := 101) hx hb dX8_isTold_48 (by decide) (fun c_48_k_9 => ?_) (fun c_48_k_9 => ?_)
      · have hv := qT c_48_k_9 hv
        exact wfX8_isTold_L101 C hK hA  M0s_4 x1 (x_3 - (48:Int32)) hv _ _ _ hP hD hS (lv_sub hl [1, 2, 0] rfl)
      · have hv := qF c_48_k_9 hv
        refine lv_bipush (v := 10) hx hb dX8_isTold_51 (by decide) ?_
        refine lv_iload_n hx hb dX8_isTold_53 rfl (lv_at hl 0 rfl) ?_
        refine lv_imul hx hb dX8_isTold_54 ?_
        refine lv_aload_n hx hb dX8_isTold_55 rfl (lv_at hl 1 rfl) ?_
        refine va_get (D := D) (ci := 7) (v := .ref (a0 6)) (C := RX8) (T := TX8) (N := 14) hx hb hts hiX8_isTold_X8 hown hK hP 0 rfl rfl 6 (by decide) (hts _ lkX8_isTold_26) (fun _ h9 => h9) rfl dX8_isTold_56 ?_
        refine lv_aload_n hx hb dX8_isTold_59 rfl (lv_at hl 1 rfl) ?_
        refine va_get (D := D) (ci := 7) (v := .int (M0s_4 8 4)) (C := RX8) (T := TX8) (N := 14) hx hb hts hiX8_isTold_X8 hown hK hP 0 rfl rfl 11 (by decide) (hts _ lkX8_isTold_187) (fun _ h9 => h9) rfl dX8_isTold_60 ?_
        obtain ⟨x_10, hx_10, hv⟩ := qB hv
        refine q_ild hx hb hK hP 6 0 rfl rfl hx_10 dX8_isTold_63 ?_
        refine lv_iadd hx hb dX8_isTold_64 ?_
        refine lv_bipush (v := 48) hx hb dX8_isTold_65 (by decide) ?_
        refine lv_isub hx hb dX8_isTold_67 ?_
        refine lv_bipush (v := 64) hx hb dX8_isTold_68 (by decide) ?_
        refine lv_icmp_ge (tgt := 101) hx hb dX8_isTold_70 (by decide) (fun c_70_k_11 => ?_) (fun c_70_k_11 => ?_)
        · have hv := qT c_70_k_11 hv
          exact wfX8_isTold_L101 C hK hA  M0s_4 x1 (x_3 - (48:Int32)) hv _ _ _ hP hD hS (lv_sub hl [1, 2, 0] rfl)
        · have hv := qF c_70_k_11 hv
          refine lv_bipush (v := 10) hx hb dX8_isTold_73 (by decide) ?_
          refine lv_iload_n hx hb dX8_isTold_75 rfl (lv_at hl 0 rfl) ?_
          refine lv_imul hx hb dX8_isTold_76 ?_
          refine lv_aload_n hx hb dX8_isTold_77 rfl (lv_at hl 1 rfl) ?_
          refine va_get (D := D) (ci := 7) (v := .ref (a0 6)) (C := RX8) (T := TX8) (N := 14) hx hb hts hiX8_isTold_X8 hown hK hP 0 rfl rfl 6 (by decide) (hts _ lkX8_isTold_26) (fun _ h9 => h9) rfl dX8_isTold_78 ?_
          refine lv_aload_n hx hb dX8_isTold_81 rfl (lv_at hl 1 rfl) ?_
          refine va_get (D := D) (ci := 7) (v := .int (M0s_4 8 4)) (C := RX8) (T := TX8) (N := 14) hx hb hts hiX8_isTold_X8 hown hK hP 0 rfl rfl 11 (by decide) (hts _ lkX8_isTold_187) (fun _ h9 => h9) rfl dX8_isTold_82 ?_
          obtain ⟨x_12, hx_12, hv⟩ := qB hv
          refine q_ild hx hb hK hP 6 0 rfl rfl hx_12 dX8_isTold_85 ?_
          refine lv_iadd hx hb dX8_isTold_86 ?_
          refine lv_bipush (v := 48) hx hb dX8_isTold_87 (by decide) ?_
          refine lv_isub hx hb dX8_isTold_89 ?_
          refine lv_istore_n (lv' := [(2, .int ((((10:Int32) * (x_3 - (48:Int32))) + x_12) - (48:Int32))), (0, .ref (a0 0)), (1, .int x1)]) hx hb dX8_isTold_90 rfl hl (by decide) rfl (fun ls hl => ?_)
          refine lv_aload_n hx hb dX8_isTold_91 rfl (lv_at hl 1 rfl) ?_
          refine lv_dup hx hb dX8_isTold_92 rfl ?_
          refine va_get (D := D) (ci := 7) (v := .int (M0s_4 8 4)) (C := RX8) (T := TX8) (N := 14) hx hb hts hiX8_isTold_X8 hown hK hP 0 rfl rfl 11 (by decide) (hts _ lkX8_isTold_187) (fun _ h9 => h9) rfl dX8_isTold_93 ?_
          refine lv_iconst (v := 1) hx hb dX8_isTold_96 (by decide) ?_
          refine lv_iadd hx hb dX8_isTold_97 ?_
          refine va_put (D := D) (ci := 7) (v := .int ((M0s_4 8 4) + (1:Int32))) (ty := .int) (C := RX8) (T := TX8) (N := 14) hx hb hts hiX8_isTold_X8 tyX8 tyX8_ok nmX8 hown hK hP hD hS 0 rfl rfl 11 (by decide) (hts _ lkX8_isTold_187) (fun _ h9 => h9) rfl (by decide +kernel) rfl rfl (Nat.le_of_ble_eq_true rfl) dX8_isTold_98 (fun H locs hP hD hS => ?_)
          obtain ⟨M0s_13, hM0s_13, hv⟩ := qB hv
          obtain ⟨hP, hD⟩ := m_st (F := fun Z9 : FS => (wMod E a0 Z9)) (Option.some.inj hM0s_13) hP hD
          exact wfX8_isTold_L101 C hK hA  M0s_13 x1 ((((10:Int32) * (x_3 - (48:Int32))) + x_12) - (48:Int32)) hv _ _ _ hP hD hS (lv_sub hl [1, 2, 0] rfl)
  · have hv := qT c_8_k_2 hv
    refine lv_iconst (v := 0) hx hb dX8_isTold_11 (by decide) ?_
    exact m_retz (F := (fun (Z9 : FS) => (fun _ : Unit => (wMod E a0 Z9)))) () C dX8_isTold_12 hv hP hD hS

theorem lkX8_fault_187 : (.fieldLink RX8 187 "QuarterTilesModel" "at" "I" : Cond) ∈ wsX8_fault := by decide +kernel
theorem hiX8_fault_X8 : ∀ w ∈ wsX80, w ∈ wsX8_fault := by decide +kernel
theorem lkX8_fault_193 : (.fieldLink RX8 193 "QuarterTilesModel" "toldMany" "I" : Cond) ∈ wsX8_fault := by decide +kernel
theorem lkX8_fault_160 : (.fieldLink RX8 160 "QuarterTilesModel" "padded" "I" : Cond) ∈ wsX8_fault := by decide +kernel
set_option maxRecDepth 100000 in
set_option maxHeartbeats 4000000 in
theorem wfX8_fault_L12 {p : Program} {e : Env} {s : State} {m : MethodId} {below : List Frame} {meth : Method} {c : Code} {l : Launch} {D : va_G} {E : Nat → ClassId} {a0 : Nat → Nat} {v : Int32} {M09 : FS} {A : Nat → Prop} (C : Ctx p s m meth c [.ref (a0 0)] wsX8_fault cX8_fault 2 (some .int) RX8) (hK : va_K D vwCl (tyE E) s) (hA : ∀ q : Nat, s.heap.size ≤ q → A q) : ∀ (q : Nat) (M0 : FS) (y1 : Int32), fX8_fault_L12 q M0 y1 = some (v, M09) → ∀ (H : Heap) (locs : List Loc) (ls : Array Slot), va_P D vwCl ((wMod E a0 M0)) H → va_D A ((wMod E a0 M0)) → va_S A s.heap H locs → lv_has ls 2 [(0, .ref (a0 0)), (1, .int y1)] → WI p l e (rmN 3 66) s m [.ref (a0 0)] below meth c D A v (fun _ : Unit => (wMod E a0 M09)) 0 0 H locs 0 0 12 ls [] := by
  obtain ⟨hx, hb, hr, hml, hown, hlocks, hts⟩ := id C
  intro q
  induction q with
  | zero =>
    intro M0 y1 hv
    cases hv
  | succ q ih =>
    intro M0 y1 hv H locs ls hP hD hS hl
    rw [fX8_fault_L12.eq_2] at hv
    refine lv_iload_n hx hb dX8_fault_12 rfl (lv_at hl 1 rfl) ?_
    refine lv_if_eq (tgt := 66) hx hb dX8_fault_13 (by decide) (fun c_13_k_3 => ?_) (fun c_13_k_3 => ?_)
    · have hv := qT c_13_k_3 hv
      refine lv_aload_n hx hb dX8_fault_66 rfl (lv_at hl 0 rfl) ?_
      refine va_get (D := D) (ci := 7) (v := .int (M0 8 4)) (C := RX8) (T := TX8) (N := 14) hx hb hts hiX8_fault_X8 hown hK hP 0 rfl rfl 11 (by decide) (hts _ lkX8_fault_187) (fun _ h9 => h9) rfl dX8_fault_67 ?_
      refine lv_aload_n hx hb dX8_fault_70 rfl (lv_at hl 0 rfl) ?_
      refine va_get (D := D) (ci := 7) (v := .int (M0 8 1)) (C := RX8) (T := TX8) (N := 14) hx hb hts hiX8_fault_X8 hown hK hP 0 rfl rfl 7 (by decide) (hts _ lkX8_fault_160) (fun _ h9 => h9) rfl dX8_fault_71 ?_
      refine lv_icmp_ne (tgt := 82) hx hb dX8_fault_74 (by decide) (fun c_74_k_4 => ?_) (fun c_74_k_4 => ?_)
      · have hv := qF c_74_k_4 hv
        refine lv_aload_n hx hb dX8_fault_82 rfl (lv_at hl 0 rfl) ?_
        refine va_get (D := D) (ci := 7) (v := .int (M0 8 4)) (C := RX8) (T := TX8) (N := 14) hx hb hts hiX8_fault_X8 hown hK hP 0 rfl rfl 11 (by decide) (hts _ lkX8_fault_187) (fun _ h9 => h9) rfl dX8_fault_83 ?_
        exact m_ret (F := (fun (Z9 : FS) => (fun _ : Unit => (wMod E a0 Z9)))) () C dX8_fault_86 hv hP hD hS
      · have hv := qT c_74_k_4 hv
        refine lv_bipush (v := -6) hx hb dX8_fault_77 (by decide) ?_
        refine lv_goto (tgt := 86) hx hb dX8_fault_79 (by decide) ?_
        exact m_ret (F := (fun (Z9 : FS) => (fun _ : Unit => (wMod E a0 Z9)))) () C dX8_fault_86 hv hP hD hS
    · have hv := qF c_13_k_3 hv
      refine lv_aload_n hx hb dX8_fault_16 rfl (lv_at hl 0 rfl) ?_
      refine lv_iconst (v := 0) hx hb dX8_fault_17 (by decide) ?_
      obtain ⟨⟨rS_5, S_5⟩, hS_5, hv⟩ := qB hv
      try dsimp only at hv
      refine m_VI (As := [.int (0:Int32)]) (rest := []) (C := RX8) (T0 := TX8) (N0 := 14) (ci := 7) (Wn := (fun _ : Unit => (wMod E a0 S_5))) (Wr := []) hx hb hml hown hts hl.1 (kX8_isTold l D E a0 H.size hS_5) (cwV 1 hts gX8_fault_X8_isTold rfl rfl rfl (by decide +kernel) ⟨Nat.le_of_ble_eq_true rfl, Nat.le_of_ble_eq_true rfl⟩) 0 rfl rfl hP hD hS hA hK [0, 1, 2, 3, 4, 5, 6, 7, 8] [] [0, 1, 2, 3, 4, 5, 6, 7, 8] (by decide) rfl rfl (by decide) (by decide) (by decide) (fun _ => rfl) rfl rfl (Nat.le_of_ble_eq_true rfl) dX8_fault_18 ⟨Nat.le_of_ble_eq_true rfl, Nat.le_of_ble_eq_true rfl⟩ (fun _ H locs hP hD hS => ?_)
      refine lv_if_eq (tgt := 41) hx hb dX8_fault_21 (by decide) (fun c_21_k_6 => ?_) (fun c_21_k_6 => ?_)
      · have hv := qT c_21_k_6 hv
        refine lv_aload_n hx hb dX8_fault_41 rfl (lv_at hl 0 rfl) ?_
        refine va_get (D := D) (ci := 7) (v := .int (S_5 8 4)) (C := RX8) (T := TX8) (N := 14) hx hb hts hiX8_fault_X8 hown hK hP 0 rfl rfl 11 (by decide) (hts _ lkX8_fault_187) (fun _ h9 => h9) rfl dX8_fault_42 ?_
        exact m_ret (F := (fun (Z9 : FS) => (fun _ : Unit => (wMod E a0 Z9)))) () C dX8_fault_45 hv hP hD hS
      · have hv := qF c_21_k_6 hv
        refine lv_aload_n hx hb dX8_fault_24 rfl (lv_at hl 0 rfl) ?_
        refine lv_bipush (v := 44) hx hb dX8_fault_25 (by decide) ?_
        obtain ⟨⟨rS_7, S_7⟩, hS_7, hv⟩ := qB hv
        try dsimp only at hv
        refine m_VI (As := [.int (44:Int32)]) (rest := []) (C := RX8) (T0 := TX8) (N0 := 14) (ci := 7) (Wn := (fun _ : Unit => (wMod E a0 S_7))) (Wr := []) hx hb hml hown hts hl.1 (kX8_takes l D E a0 H.size hS_7) (cwV 1 hts gX8_fault_X8_takes rfl rfl rfl (by decide +kernel) ⟨Nat.le_of_ble_eq_true rfl, Nat.le_of_ble_eq_true rfl⟩) 0 rfl rfl hP hD hS hA hK [0, 1, 2, 3, 4, 5, 6, 7, 8] [] [0, 1, 2, 3, 4, 5, 6, 7, 8] (by decide) rfl rfl (by decide) (by decide) (by decide) (fun _ => rfl) rfl rfl (Nat.le_of_ble_eq_true rfl) dX8_fault_27 ⟨Nat.le_of_ble_eq_true rfl, Nat.le_of_ble_eq_true rfl⟩ (fun _ H locs hP hD hS => ?_)
        refine lv_if_eq (tgt := 41) hx hb dX8_fault_30 (by decide) (fun c_30_k_8 => ?_) (fun c_30_k_8 => ?_)
        · have hv := qT c_30_k_8 hv
          refine lv_aload_n hx hb dX8_fault_41 rfl (lv_at hl 0 rfl) ?_
          refine va_get (D := D) (ci := 7) (v := .int (S_7 8 4)) (C := RX8) (T := TX8) (N := 14) hx hb hts hiX8_fault_X8 hown hK hP 0 rfl rfl 11 (by decide) (hts _ lkX8_fault_187) (fun _ h9 => h9) rfl dX8_fault_42 ?_
          exact m_ret (F := (fun (Z9 : FS) => (fun _ : Unit => (wMod E a0 Z9)))) () C dX8_fault_45 hv hP hD hS
        · have hv := qF c_30_k_8 hv
          refine lv_aload_n hx hb dX8_fault_33 rfl (lv_at hl 0 rfl) ?_
          refine lv_iconst (v := 1) hx hb dX8_fault_34 (by decide) ?_
          obtain ⟨⟨rS_9, S_9⟩, hS_9, hv⟩ := qB hv
          try dsimp only at hv
          refine m_VI (As := [.int (1:Int32)]) (rest := []) (C := RX8) (T0 := TX8) (N0 := 14) (ci := 7) (Wn := (fun _ : Unit => (wMod E a0 S_9))) (Wr := []) hx hb hml hown hts hl.1 (kX8_isTold l D E a0 H.size hS_9) (cwV 1 hts gX8_fault_X8_isTold rfl rfl rfl (by decide +kernel) ⟨Nat.le_of_ble_eq_true rfl, Nat.le_of_ble_eq_true rfl⟩) 0 rfl rfl hP hD hS hA hK [0, 1, 2, 3, 4, 5, 6, 7, 8] [] [0, 1, 2, 3, 4, 5, 6, 7, 8] (by decide) rfl rfl (by decide) (by decide) (by decide) (fun _ => rfl) rfl rfl (Nat.le_of_ble_eq_true rfl) dX8_fault_35 ⟨Nat.le_of_ble_eq_true rfl, Nat.le_of_ble_eq_true rfl⟩ (fun _ H locs hP hD hS => ?_)
          refine lv_if_ne (tgt := 46) hx hb dX8_fault_38 (by decide) (fun c_38_k_10 => ?_) (fun c_38_k_10 => ?_)
          · have hv := qF c_38_k_10 hv
            refine lv_aload_n hx hb dX8_fault_46 rfl (lv_at hl 0 rfl) ?_
            refine lv_dup hx hb dX8_fault_47 rfl ?_
            refine va_get (D := D) (ci := 7) (v := .int (S_9 8 5)) (C := RX8) (T := TX8) (N := 14) hx hb hts hiX8_fault_X8 hown hK hP 0 rfl rfl 13 (by decide) (hts _ lkX8_fault_193) (fun _ h9 => h9) rfl dX8_fault_48 ?_
            refine lv_iconst (v := 1) hx hb dX8_fault_51 (by decide) ?_
            refine lv_iadd hx hb dX8_fault_52 ?_
            refine va_put (D := D) (ci := 7) (v := .int ((S_9 8 5) + (1:Int32))) (ty := .int) (C := RX8) (T := TX8) (N := 14) hx hb hts hiX8_fault_X8 tyX8 tyX8_ok nmX8 hown hK hP hD hS 0 rfl rfl 13 (by decide) (hts _ lkX8_fault_193) (fun _ h9 => h9) rfl (by decide +kernel) rfl rfl (Nat.le_of_ble_eq_true rfl) dX8_fault_53 (fun H locs hP hD hS => ?_)
            obtain ⟨M0s_11, hM0s_11, hv⟩ := qB hv
            obtain ⟨hP, hD⟩ := m_st (F := fun Z9 : FS => (wMod E a0 Z9)) (Option.some.inj hM0s_11) hP hD
            refine lv_aload_n hx hb dX8_fault_56 rfl (lv_at hl 0 rfl) ?_
            refine lv_bipush (v := 59) hx hb dX8_fault_57 (by decide) ?_
            obtain ⟨⟨rS_12, S_12⟩, hS_12, hv⟩ := qB hv
            try dsimp only at hv
            refine m_VI (As := [.int (59:Int32)]) (rest := []) (C := RX8) (T0 := TX8) (N0 := 14) (ci := 7) (Wn := (fun _ : Unit => (wMod E a0 S_12))) (Wr := []) hx hb hml hown hts hl.1 (kX8_takes l D E a0 H.size hS_12) (cwV 1 hts gX8_fault_X8_takes rfl rfl rfl (by decide +kernel) ⟨Nat.le_of_ble_eq_true rfl, Nat.le_of_ble_eq_true rfl⟩) 0 rfl rfl hP hD hS hA hK [0, 1, 2, 3, 4, 5, 6, 7, 8] [] [0, 1, 2, 3, 4, 5, 6, 7, 8] (by decide) rfl rfl (by decide) (by decide) (by decide) (fun _ => rfl) rfl rfl (Nat.le_of_ble_eq_true rfl) dX8_fault_59 ⟨Nat.le_of_ble_eq_true rfl, Nat.le_of_ble_eq_true rfl⟩ (fun _ H locs hP hD hS => ?_)
            refine lv_istore_n (lv' := [(1, .int rS_12), (0, .ref (a0 0))]) hx hb dX8_fault_62 rfl hl (by decide) rfl (fun ls hl => ?_)
            refine lv_goto (tgt := 12) hx hb dX8_fault_63 (by decide) ?_
            exact ih S_12 rS_12 hv _ _ _ hP hD hS (lv_sub hl [1, 0] rfl)
          · have hv := qT c_38_k_10 hv
            refine lv_aload_n hx hb dX8_fault_41 rfl (lv_at hl 0 rfl) ?_
            refine va_get (D := D) (ci := 7) (v := .int (S_9 8 4)) (C := RX8) (T := TX8) (N := 14) hx hb hts hiX8_fault_X8 hown hK hP 0 rfl rfl 11 (by decide) (hts _ lkX8_fault_187) (fun _ h9 => h9) rfl dX8_fault_42 ?_
            exact m_ret (F := (fun (Z9 : FS) => (fun _ : Unit => (wMod E a0 Z9)))) () C dX8_fault_45 hv hP hD hS

set_option maxRecDepth 100000 in
set_option maxHeartbeats 4000000 in
theorem kX8_fault (l : Launch) (D : va_G) (E : Nat → ClassId) (a0 : Nat → Nat) {M0 : FS} {v : Int32} {M09 : FS} (sz : Nat) (hv : fX8_fault M0 = some (v, M09)) : MI l yX8_fault wsX8_fault (rmN 3 66) D E ((wMod E a0 M0)) sz [.ref (a0 0)] v (fun _ : Unit => (wMod E a0 M09)) 0 0 := by
  refine MI.of (by decide) rfl (Nat.le_of_ble_eq_true rfl) ?_
  intro p e s m below meth c A H locs C hP hK hD hS hA ls hl
  have hl : lv_has ls 2 [(0, .ref (a0 0))] := hl
  obtain ⟨hx, hb, hr, hml, hown, hlocks, hts⟩ := id C
  unfold fX8_fault at hv
  refine lv_aload_n hx hb dX8_fault_0 rfl (lv_at hl 0 rfl) ?_
  refine lv_iconst (v := 0) hx hb dX8_fault_1 (by decide) ?_
  refine va_put (D := D) (ci := 7) (v := .int (0:Int32)) (ty := .int) (C := RX8) (T := TX8) (N := 14) hx hb hts hiX8_fault_X8 tyX8 tyX8_ok nmX8 hown hK hP hD hS 0 rfl rfl 11 (by decide) (hts _ lkX8_fault_187) (fun _ h9 => h9) rfl (by decide +kernel) rfl rfl (Nat.le_of_ble_eq_true rfl) dX8_fault_2 (fun H locs hP hD hS => ?_)
  obtain ⟨M0s_1, hM0s_1, hv⟩ := qB hv
  obtain ⟨hP, hD⟩ := m_st (F := fun Z9 : FS => (wMod E a0 Z9)) (Option.some.inj hM0s_1) hP hD
  refine lv_aload_n hx hb dX8_fault_5 rfl (lv_at hl 0 rfl) ?_
  refine lv_iconst (v := 0) hx hb dX8_fault_6 (by decide) ?_
  refine va_put (D := D) (ci := 7) (v := .int (0:Int32)) (ty := .int) (C := RX8) (T := TX8) (N := 14) hx hb hts hiX8_fault_X8 tyX8 tyX8_ok nmX8 hown hK hP hD hS 0 rfl rfl 13 (by decide) (hts _ lkX8_fault_193) (fun _ h9 => h9) rfl (by decide +kernel) rfl rfl (Nat.le_of_ble_eq_true rfl) dX8_fault_7 (fun H locs hP hD hS => ?_)
  obtain ⟨M0s_2, hM0s_2, hv⟩ := qB hv
  obtain ⟨hP, hD⟩ := m_st (F := fun Z9 : FS => (wMod E a0 Z9)) (Option.some.inj hM0s_2) hP hD
  refine lv_iconst (v := 1) hx hb dX8_fault_10 (by decide) ?_
  refine lv_istore_n (lv' := [(1, .int (1:Int32)), (0, .ref (a0 0))]) hx hb dX8_fault_11 rfl hl (by decide) rfl (fun ls hl => ?_)
  exact wfX8_fault_L12 C hK hA  6000 M0s_2 (1:Int32) hv _ _ _ hP hD hS (lv_sub hl [1, 0] rfl)

theorem lkX8_putAll_193 : (.fieldLink RX8 193 "QuarterTilesModel" "toldMany" "I" : Cond) ∈ wsX8_putAll := by decide +kernel
theorem hiX8_putAll_X8 : ∀ w ∈ wsX80, w ∈ wsX8_putAll := by decide +kernel
theorem lkX8_putAll_160 : (.fieldLink RX8 160 "QuarterTilesModel" "padded" "I" : Cond) ∈ wsX8_putAll := by decide +kernel
theorem lkX8_putAll_32 : (.fieldLink RX8 32 "QuarterTilesModel" "told" "[I" : Cond) ∈ wsX8_putAll := by decide +kernel
theorem lkX8_putAll_7 : (.fieldLink RX8 7 "QuarterTilesModel" "now" "[I" : Cond) ∈ wsX8_putAll := by decide +kernel
set_option maxRecDepth 100000 in
set_option maxHeartbeats 4000000 in
theorem wfX8_putAll_L18 {p : Program} {e : Env} {s : State} {m : MethodId} {below : List Frame} {meth : Method} {c : Code} {l : Launch} {D : va_G} {E : Nat → ClassId} {a0 : Nat → Nat} {v : Int32} {M09 : FS} {A : Nat → Prop} (C : Ctx p s m meth c [.ref (a0 0)] wsX8_putAll cX8_putAll 2 (some .int) RX8) (hK : va_K D vwCl (tyE E) s) (hA : ∀ q : Nat, s.heap.size ≤ q → A q) : ∀ (q : Nat) (M0 : FS) (y1 : Int32), fX8_putAll_L18 q M0 y1 = some (v, M09) → ∀ (H : Heap) (locs : List Loc) (ls : Array Slot), va_P D vwCl ((wMod E a0 M0)) H → va_D A ((wMod E a0 M0)) → va_S A s.heap H locs → lv_has ls 2 [(0, .ref (a0 0)), (1, .int y1)] → WI p l e (rmN 4 87) s m [.ref (a0 0)] below meth c D A v (fun _ : Unit => (wMod E a0 M09)) 0 0 H locs 0 0 18 ls [] := by
  obtain ⟨hx, hb, hr, hml, hown, hlocks, hts⟩ := id C
  intro q
  induction q with
  | zero =>
    intro M0 y1 hv
    cases hv
  | succ q ih =>
    intro M0 y1 hv H locs ls hP hD hS hl
    rw [fX8_putAll_L18.eq_2] at hv
    refine lv_iload_n hx hb dX8_putAll_18 rfl (lv_at hl 1 rfl) ?_
    refine lv_aload_n hx hb dX8_putAll_19 rfl (lv_at hl 0 rfl) ?_
    refine va_get (D := D) (ci := 7) (v := .int (M0 8 5)) (C := RX8) (T := TX8) (N := 14) hx hb hts hiX8_putAll_X8 hown hK hP 0 rfl rfl 13 (by decide) (hts _ lkX8_putAll_193) (fun _ h9 => h9) rfl dX8_putAll_20 ?_
    refine lv_icmp_ge (tgt := 82) hx hb dX8_putAll_23 (by decide) (fun c_23_k_4 => ?_) (fun c_23_k_4 => ?_)
    · have hv := qT c_23_k_4 hv
      refine lv_aload_n hx hb dX8_putAll_82 rfl (lv_at hl 0 rfl) ?_
      refine lv_iconst (v := 0) hx hb dX8_putAll_83 (by decide) ?_
      refine va_put (D := D) (ci := 7) (v := .int (0:Int32)) (ty := .int) (C := RX8) (T := TX8) (N := 14) hx hb hts hiX8_putAll_X8 tyX8 tyX8_ok nmX8 hown hK hP hD hS 0 rfl rfl 7 (by decide) (hts _ lkX8_putAll_160) (fun _ h9 => h9) rfl (by decide +kernel) rfl rfl (Nat.le_of_ble_eq_true rfl) dX8_putAll_84 (fun H locs hP hD hS => ?_)
      obtain ⟨M0s_5, hM0s_5, hv⟩ := qB hv
      obtain ⟨hP, hD⟩ := m_st (F := fun Z9 : FS => (wMod E a0 Z9)) (Option.some.inj hM0s_5) hP hD
      refine lv_iload_n hx hb dX8_putAll_87 rfl (lv_at hl 1 rfl) ?_
      exact m_ret (F := (fun (Z9 : FS) => (fun _ : Unit => (wMod E a0 Z9)))) () C dX8_putAll_88 hv hP hD hS
    · have hv := qF c_23_k_4 hv
      refine lv_aload_n hx hb dX8_putAll_26 rfl (lv_at hl 0 rfl) ?_
      refine lv_aload_n hx hb dX8_putAll_27 rfl (lv_at hl 0 rfl) ?_
      refine va_get (D := D) (ci := 7) (v := .ref (a0 8)) (C := RX8) (T := TX8) (N := 14) hx hb hts hiX8_putAll_X8 hown hK hP 0 rfl rfl 12 (by decide) (hts _ lkX8_putAll_32) (fun _ h9 => h9) rfl dX8_putAll_28 ?_
      refine lv_iconst (v := 2) hx hb dX8_putAll_31 (by decide) ?_
      refine lv_iload_n hx hb dX8_putAll_32 rfl (lv_at hl 1 rfl) ?_
      refine lv_imul hx hb dX8_putAll_33 ?_
      obtain ⟨x_6, hx_6, hv⟩ := qB hv
      refine q_ild hx hb hK hP 8 0 rfl rfl hx_6 dX8_putAll_34 ?_
      refine lv_aload_n hx hb dX8_putAll_35 rfl (lv_at hl 0 rfl) ?_
      refine va_get (D := D) (ci := 7) (v := .ref (a0 8)) (C := RX8) (T := TX8) (N := 14) hx hb hts hiX8_putAll_X8 hown hK hP 0 rfl rfl 12 (by decide) (hts _ lkX8_putAll_32) (fun _ h9 => h9) rfl dX8_putAll_36 ?_
      refine lv_iconst (v := 2) hx hb dX8_putAll_39 (by decide) ?_
      refine lv_iload_n hx hb dX8_putAll_40 rfl (lv_at hl 1 rfl) ?_
      refine lv_imul hx hb dX8_putAll_41 ?_
      refine lv_iconst (v := 1) hx hb dX8_putAll_42 (by decide) ?_
      refine lv_iadd hx hb dX8_putAll_43 ?_
      obtain ⟨x_7, hx_7, hv⟩ := qB hv
      refine q_ild hx hb hK hP 8 0 rfl rfl hx_7 dX8_putAll_44 ?_
      obtain ⟨r_8, hr_8, hv⟩ := qB hv
      refine q_V (As := [.int x_6, .int x_7]) (rest := []) (C := RX8) (T0 := TX8) (N0 := 14) (ci := 7) hx hb hml hown hts hl.1 (kX8_pointError l D E a0 hr_8) zNo_mv (cwV 2 hts gX8_putAll_X8_pointError rfl rfl rfl (by decide +kernel) ⟨Nat.le_of_ble_eq_true rfl, Nat.le_of_ble_eq_true rfl⟩) 0 rfl rfl (hP.sub (ws' := (wMod E a0 M0)) [0, 1, 2, 3, 4, 5, 6, 7, 8] rfl) hK trivial rfl rfl (Nat.le_of_ble_eq_true rfl) dX8_putAll_45 ⟨Nat.zero_le _, Nat.zero_le _⟩ ?_
      refine lv_if_ne (tgt := 82) hx hb dX8_putAll_48 (by decide) (fun c_48_k_9 => ?_) (fun c_48_k_9 => ?_)
      · have hv := qF c_48_k_9 hv
        refine lv_aload_n hx hb dX8_putAll_82 rfl (lv_at hl 0 rfl) ?_
        refine lv_iconst (v := 0) hx hb dX8_putAll_83 (by decide) ?_
        refine va_put (D := D) (ci := 7) (v := .int (0:Int32)) (ty := .int) (C := RX8) (T := TX8) (N := 14) hx hb hts hiX8_putAll_X8 tyX8 tyX8_ok nmX8 hown hK hP hD hS 0 rfl rfl 7 (by decide) (hts _ lkX8_putAll_160) (fun _ h9 => h9) rfl (by decide +kernel) rfl rfl (Nat.le_of_ble_eq_true rfl) dX8_putAll_84 (fun H locs hP hD hS => ?_)
        obtain ⟨M0s_10, hM0s_10, hv⟩ := qB hv
        obtain ⟨hP, hD⟩ := m_st (F := fun Z9 : FS => (wMod E a0 Z9)) (Option.some.inj hM0s_10) hP hD
        refine lv_iload_n hx hb dX8_putAll_87 rfl (lv_at hl 1 rfl) ?_
        exact m_ret (F := (fun (Z9 : FS) => (fun _ : Unit => (wMod E a0 Z9)))) () C dX8_putAll_88 hv hP hD hS
      · have hv := qT c_48_k_9 hv
        refine lv_aload_n hx hb dX8_putAll_51 rfl (lv_at hl 0 rfl) ?_
        refine va_get (D := D) (ci := 7) (v := .ref (a0 1)) (C := RX8) (T := TX8) (N := 14) hx hb hts hiX8_putAll_X8 hown hK hP 0 rfl rfl 0 (by decide) (hts _ lkX8_putAll_7) (fun _ h9 => h9) rfl dX8_putAll_52 ?_
        refine lv_aload_n hx hb dX8_putAll_55 rfl (lv_at hl 0 rfl) ?_
        refine va_get (D := D) (ci := 7) (v := .ref (a0 8)) (C := RX8) (T := TX8) (N := 14) hx hb hts hiX8_putAll_X8 hown hK hP 0 rfl rfl 12 (by decide) (hts _ lkX8_putAll_32) (fun _ h9 => h9) rfl dX8_putAll_56 ?_
        refine lv_iconst (v := 2) hx hb dX8_putAll_59 (by decide) ?_
        refine lv_iload_n hx hb dX8_putAll_60 rfl (lv_at hl 1 rfl) ?_
        refine lv_imul hx hb dX8_putAll_61 ?_
        obtain ⟨x_11, hx_11, hv⟩ := qB hv
        refine q_ild hx hb hK hP 8 0 rfl rfl hx_11 dX8_putAll_62 ?_
        refine lv_aload_n hx hb dX8_putAll_63 rfl (lv_at hl 0 rfl) ?_
        refine va_get (D := D) (ci := 7) (v := .ref (a0 8)) (C := RX8) (T := TX8) (N := 14) hx hb hts hiX8_putAll_X8 hown hK hP 0 rfl rfl 12 (by decide) (hts _ lkX8_putAll_32) (fun _ h9 => h9) rfl dX8_putAll_64 ?_
        refine lv_iconst (v := 2) hx hb dX8_putAll_67 (by decide) ?_
        refine lv_iload_n hx hb dX8_putAll_68 rfl (lv_at hl 1 rfl) ?_
        refine lv_imul hx hb dX8_putAll_69 ?_
        refine lv_iconst (v := 1) hx hb dX8_putAll_70 (by decide) ?_
        refine lv_iadd hx hb dX8_putAll_71 ?_
        obtain ⟨x_12, hx_12, hv⟩ := qB hv
        refine q_ild hx hb hK hP 8 0 rfl rfl hx_12 dX8_putAll_72 ?_
        obtain ⟨S_13, hS_13, hv⟩ := qB hv
        refine m_SV (As := [.ref (a0 1), .int x_11, .int x_12]) (rest := []) (Wn := (fun _ : Unit => (wMod E a0 (sr M0 0 S_13)))) (Wr := [((a0 0), .inr (7, [.ref (a0 1), .ref (a0 2), .ref (a0 3), .int (M0 8 0), .ref (a0 4), .ref (a0 5), .ref (a0 6), .int (M0 8 1), .int (M0 8 2), .int (M0 8 3), .ref (a0 7), .int (M0 8 4), .ref (a0 8), .int (M0 8 5)])), aI E (a0 2) 116 (M0 1), aI E (a0 3) 696 (M0 2), aI E (a0 4) 232 (M0 3), aZ E (a0 5) 2 (M0 4), aI E (a0 6) 80 (M0 5), aI E (a0 7) 7 (M0 6), aI E (a0 8) 44 (M0 7)]) hx hb hml hown hts hl.1 (kX8_comes l D E (a0 1) H.size hS_13) (va_cwS 3 hts gX8_putAll_X8_comes rfl rfl rfl (by decide +kernel) ⟨Nat.le_of_ble_eq_true rfl, Nat.le_of_ble_eq_true rfl⟩) hP hD hS hA hK [1] [0, 2, 3, 4, 5, 6, 7, 8] [0, 8, 1, 2, 3, 4, 5, 6, 7] (by decide) rfl rfl (by decide) (by decide) (by decide) (fun _ => rfl) rfl rfl (Nat.le_of_ble_eq_true rfl) dX8_putAll_73 ⟨Nat.le_of_ble_eq_true rfl, Nat.le_of_ble_eq_true rfl⟩ (fun _ H locs hP hD hS => ?_)
        obtain ⟨M0s_14, hM0s_14, hv⟩ := qB hv
        obtain ⟨hP, hD⟩ := m_st (F := fun Z9 : FS => (wMod E a0 Z9)) (Option.some.inj hM0s_14) hP hD
        refine lv_iinc (v := (y1 + 1)) (lv' := [(1, .int (y1 + 1)), (0, .ref (a0 0))]) hx hb dX8_putAll_76 hl (k := 1) rfl (by rfl) (by decide) rfl (fun ls hl => ?_)
        refine lv_goto (tgt := 18) hx hb dX8_putAll_79 (by decide) ?_
        exact ih M0s_14 (y1 + 1) hv _ _ _ hP hD hS (lv_sub hl [1, 0] rfl)

set_option maxRecDepth 100000 in
set_option maxHeartbeats 4000000 in
theorem kX8_putAll (l : Launch) (D : va_G) (E : Nat → ClassId) (a0 : Nat → Nat) {M0 : FS} {v : Int32} {M09 : FS} (sz : Nat) (hv : fX8_putAll M0 = some (v, M09)) : MI l yX8_putAll wsX8_putAll (rmN 4 87) D E ((wMod E a0 M0)) sz [.ref (a0 0)] v (fun _ : Unit => (wMod E a0 M09)) 0 0 := by
  refine MI.of (by decide) rfl (Nat.le_of_ble_eq_true rfl) ?_
  intro p e s m below meth c A H locs C hP hK hD hS hA ls hl
  have hl : lv_has ls 2 [(0, .ref (a0 0))] := hl
  obtain ⟨hx, hb, hr, hml, hown, hlocks, hts⟩ := id C
  unfold fX8_putAll at hv
  refine lv_aload_n hx hb dX8_putAll_0 rfl (lv_at hl 0 rfl) ?_
  obtain ⟨⟨rS_1, S_1⟩, hS_1, hv⟩ := qB hv
  try dsimp only at hv
  refine m_VI (As := []) (rest := []) (C := RX8) (T0 := TX8) (N0 := 14) (ci := 7) (Wn := (fun _ : Unit => (wMod E a0 S_1))) (Wr := []) hx hb hml hown hts hl.1 (kX8_fault l D E a0 H.size hS_1) (cwV 0 hts gX8_putAll_X8_fault rfl rfl rfl (by decide +kernel) ⟨Nat.le_of_ble_eq_true rfl, Nat.le_of_ble_eq_true rfl⟩) 0 rfl rfl hP hD hS hA hK [0, 1, 2, 3, 4, 5, 6, 7, 8] [] [0, 1, 2, 3, 4, 5, 6, 7, 8] (by decide) rfl rfl (by decide) (by decide) (by decide) (fun _ => rfl) rfl rfl (Nat.le_of_ble_eq_true rfl) dX8_putAll_1 ⟨Nat.le_of_ble_eq_true rfl, Nat.le_of_ble_eq_true rfl⟩ (fun _ H locs hP hD hS => ?_)
  refine lv_bipush (v := -6) hx hb dX8_putAll_4 (by decide) ?_
  refine lv_icmp_eq (tgt := 12) hx hb dX8_putAll_6 (by decide) (fun c_6_k_2 => ?_) (fun c_6_k_2 => ?_)
  · have hv := qT c_6_k_2 hv
    refine lv_aload_n hx hb dX8_putAll_12 rfl (lv_at hl 0 rfl) ?_
    obtain ⟨S_3, hS_3, hv⟩ := qB hv
    refine m_VV (As := []) (rest := []) (C := RX8) (T0 := TX8) (N0 := 14) (ci := 7) (Wn := (fun _ : Unit => (wMod E a0 S_3))) (Wr := []) hx hb hml hown hts hl.1 (kX8_records l D E a0 H.size hS_3) (cwV 0 hts gX8_putAll_X8_records rfl rfl rfl (by decide +kernel) ⟨Nat.le_of_ble_eq_true rfl, Nat.le_of_ble_eq_true rfl⟩) 0 rfl rfl hP hD hS hA hK [0, 1, 2, 3, 4, 5, 6, 7, 8] [] [0, 1, 2, 3, 4, 5, 6, 7, 8] (by decide) rfl rfl (by decide) (by decide) (by decide) (fun _ => rfl) rfl rfl (Nat.le_of_ble_eq_true rfl) dX8_putAll_13 ⟨Nat.le_of_ble_eq_true rfl, Nat.le_of_ble_eq_true rfl⟩ (fun _ H locs hP hD hS => ?_)
    refine lv_iconst (v := 0) hx hb dX8_putAll_16 (by decide) ?_
    refine lv_istore_n (lv' := [(1, .int (0:Int32)), (0, .ref (a0 0))]) hx hb dX8_putAll_17 rfl hl (by decide) rfl (fun ls hl => ?_)
    exact wfX8_putAll_L18 C hK hA  6000 S_3 (0:Int32) hv _ _ _ hP hD hS (lv_sub hl [1, 0] rfl)
  · have hv := qF c_6_k_2 hv
    refine lv_bipush (v := -3) hx hb dX8_putAll_9 (by decide) ?_
    exact m_ret (F := (fun (Z9 : FS) => (fun _ : Unit => (wMod E a0 Z9)))) () C dX8_putAll_11 hv hP hD hS

theorem lkX8_undo_35 : (.fieldLink RX8 35 "QuarterTilesModel" "states" "I" : Cond) ∈ wsX8_undo := by decide +kernel
theorem hiX8_undo_X8 : ∀ w ∈ wsX80, w ∈ wsX8_undo := by decide +kernel
theorem lkX8_undo_16 : (.fieldLink RX8 16 "QuarterTilesModel" "past" "[I" : Cond) ∈ wsX8_undo := by decide +kernel
theorem lkX8_undo_7 : (.fieldLink RX8 7 "QuarterTilesModel" "now" "[I" : Cond) ∈ wsX8_undo := by decide +kernel
set_option maxRecDepth 100000 in
set_option maxHeartbeats 4000000 in
theorem kX8_undo (l : Launch) (D : va_G) (E : Nat → ClassId) (a0 : Nat → Nat) {M0 : FS} {v : Int32} {M09 : FS} (sz : Nat) (hv : fX8_undo M0 = some (v, M09)) : MI l yX8_undo wsX8_undo (rmN 1 24) D E ((wMod E a0 M0)) sz [.ref (a0 0)] v (fun _ : Unit => (wMod E a0 M09)) 0 0 := by
  refine MI.of (by decide) rfl (Nat.le_of_ble_eq_true rfl) ?_
  intro p e s m below meth c A H locs C hP hK hD hS hA ls hl
  have hl : lv_has ls 1 [(0, .ref (a0 0))] := hl
  obtain ⟨hx, hb, hr, hml, hown, hlocks, hts⟩ := id C
  unfold fX8_undo at hv
  refine lv_aload_n hx hb dX8_undo_0 rfl (lv_at hl 0 rfl) ?_
  refine va_get (D := D) (ci := 7) (v := .int (M0 8 0)) (C := RX8) (T := TX8) (N := 14) hx hb hts hiX8_undo_X8 hown hK hP 0 rfl rfl 3 (by decide) (hts _ lkX8_undo_35) (fun _ h9 => h9) rfl dX8_undo_1 ?_
  refine lv_if_ne (tgt := 10) hx hb dX8_undo_4 (by decide) (fun c_4_k_1 => ?_) (fun c_4_k_1 => ?_)
  · have hv := qF c_4_k_1 hv
    refine lv_aload_n hx hb dX8_undo_10 rfl (lv_at hl 0 rfl) ?_
    refine lv_dup hx hb dX8_undo_11 rfl ?_
    refine va_get (D := D) (ci := 7) (v := .int (M0 8 0)) (C := RX8) (T := TX8) (N := 14) hx hb hts hiX8_undo_X8 hown hK hP 0 rfl rfl 3 (by decide) (hts _ lkX8_undo_35) (fun _ h9 => h9) rfl dX8_undo_12 ?_
    refine lv_iconst (v := 1) hx hb dX8_undo_15 (by decide) ?_
    refine lv_isub hx hb dX8_undo_16 ?_
    refine va_put (D := D) (ci := 7) (v := .int ((M0 8 0) - (1:Int32))) (ty := .int) (C := RX8) (T := TX8) (N := 14) hx hb hts hiX8_undo_X8 tyX8 tyX8_ok nmX8 hown hK hP hD hS 0 rfl rfl 3 (by decide) (hts _ lkX8_undo_35) (fun _ h9 => h9) rfl (by decide +kernel) rfl rfl (Nat.le_of_ble_eq_true rfl) dX8_undo_17 (fun H locs hP hD hS => ?_)
    obtain ⟨M0s_2, hM0s_2, hv⟩ := qB hv
    obtain ⟨hP, hD⟩ := m_st (F := fun Z9 : FS => (wMod E a0 Z9)) (Option.some.inj hM0s_2) hP hD
    refine lv_aload_n hx hb dX8_undo_20 rfl (lv_at hl 0 rfl) ?_
    refine va_get (D := D) (ci := 7) (v := .ref (a0 3)) (C := RX8) (T := TX8) (N := 14) hx hb hts hiX8_undo_X8 hown hK hP 0 rfl rfl 2 (by decide) (hts _ lkX8_undo_16) (fun _ h9 => h9) rfl dX8_undo_21 ?_
    refine lv_bipush (v := 116) hx hb dX8_undo_24 (by decide) ?_
    refine lv_aload_n hx hb dX8_undo_26 rfl (lv_at hl 0 rfl) ?_
    refine va_get (D := D) (ci := 7) (v := .int (M0s_2 8 0)) (C := RX8) (T := TX8) (N := 14) hx hb hts hiX8_undo_X8 hown hK hP 0 rfl rfl 3 (by decide) (hts _ lkX8_undo_35) (fun _ h9 => h9) rfl dX8_undo_27 ?_
    refine lv_imul hx hb dX8_undo_30 ?_
    refine lv_aload_n hx hb dX8_undo_31 rfl (lv_at hl 0 rfl) ?_
    refine va_get (D := D) (ci := 7) (v := .ref (a0 1)) (C := RX8) (T := TX8) (N := 14) hx hb hts hiX8_undo_X8 hown hK hP 0 rfl rfl 0 (by decide) (hts _ lkX8_undo_7) (fun _ h9 => h9) rfl dX8_undo_32 ?_
    refine lv_iconst (v := 0) hx hb dX8_undo_35 (by decide) ?_
    obtain ⟨S_3, hS_3, hv⟩ := qB hv
    refine m_SV (As := [.ref (a0 3), .int ((116:Int32) * (M0s_2 8 0)), .ref (a0 1), .int (0:Int32)]) (rest := []) (Wn := (fun _ : Unit => (wMod E a0 (sr M0s_2 0 S_3)))) (Wr := [((a0 0), .inr (7, [.ref (a0 1), .ref (a0 2), .ref (a0 3), .int (M0s_2 8 0), .ref (a0 4), .ref (a0 5), .ref (a0 6), .int (M0s_2 8 1), .int (M0s_2 8 2), .int (M0s_2 8 3), .ref (a0 7), .int (M0s_2 8 4), .ref (a0 8), .int (M0s_2 8 5)])), aI E (a0 2) 116 (M0s_2 1), aI E (a0 4) 232 (M0s_2 3), aZ E (a0 5) 2 (M0s_2 4), aI E (a0 6) 80 (M0s_2 5), aI E (a0 7) 7 (M0s_2 6), aI E (a0 8) 44 (M0s_2 7)]) hx hb hml hown hts hl.1 (kX8_lays l D E (a0 3) (a0 1) H.size hS_3) (va_cwS 4 hts gX8_undo_X8_lays rfl rfl rfl (by decide +kernel) ⟨Nat.le_of_ble_eq_true rfl, Nat.le_of_ble_eq_true rfl⟩) hP hD hS hA hK [3, 1] [0, 2, 4, 5, 6, 7, 8] [0, 8, 1, 7, 2, 3, 4, 5, 6] (by decide) rfl rfl (by decide) (by decide) (by decide) (fun _ => rfl) rfl rfl (Nat.le_of_ble_eq_true rfl) dX8_undo_36 ⟨Nat.le_of_ble_eq_true rfl, Nat.le_of_ble_eq_true rfl⟩ (fun _ H locs hP hD hS => ?_)
    obtain ⟨M0s_4, hM0s_4, hv⟩ := qB hv
    obtain ⟨hP, hD⟩ := m_st (F := fun Z9 : FS => (wMod E a0 Z9)) (Option.some.inj hM0s_4) hP hD
    refine lv_aload_n hx hb dX8_undo_39 rfl (lv_at hl 0 rfl) ?_
    refine va_get (D := D) (ci := 7) (v := .int (M0s_4 8 0)) (C := RX8) (T := TX8) (N := 14) hx hb hts hiX8_undo_X8 hown hK hP 0 rfl rfl 3 (by decide) (hts _ lkX8_undo_35) (fun _ h9 => h9) rfl dX8_undo_40 ?_
    exact m_ret (F := (fun (Z9 : FS) => (fun _ : Unit => (wMod E a0 Z9)))) () C dX8_undo_43 hv hP hD hS
  · have hv := qT c_4_k_1 hv
    refine lv_bipush (v := -5) hx hb dX8_undo_7 (by decide) ?_
    exact m_ret (F := (fun (Z9 : FS) => (fun _ : Unit => (wMod E a0 Z9)))) () C dX8_undo_9 hv hP hD hS

theorem lkX8_save_7 : (.fieldLink RX8 7 "QuarterTilesModel" "now" "[I" : Cond) ∈ wsX8_save := by decide +kernel
theorem hiX8_save_X8 : ∀ w ∈ wsX80, w ∈ wsX8_save := by decide +kernel
theorem lkX8_save_19 : (.fieldLink RX8 19 "QuarterTilesModel" "slots" "[I" : Cond) ∈ wsX8_save := by decide +kernel
theorem lkX8_save_22 : (.fieldLink RX8 22 "QuarterTilesModel" "held" "[Z" : Cond) ∈ wsX8_save := by decide +kernel
set_option maxRecDepth 100000 in
set_option maxHeartbeats 4000000 in
theorem kX8_save (l : Launch) (D : va_G) (E : Nat → ClassId) (a0 : Nat → Nat) {M0 : FS} {x1 : Int32} {v : Int32} {M09 : FS} (sz : Nat) (hv : fX8_save M0 x1 = some (v, M09)) : MI l yX8_save wsX8_save (rmN 1 24) D E ((wMod E a0 M0)) sz [.ref (a0 0), .int x1] v (fun _ : Unit => (wMod E a0 M09)) 0 0 := by
  refine MI.of (by decide) rfl (Nat.le_of_ble_eq_true rfl) ?_
  intro p e s m below meth c A H locs C hP hK hD hS hA ls hl
  have hl : lv_has ls 2 [(0, .ref (a0 0)), (1, .int x1)] := hl
  obtain ⟨hx, hb, hr, hml, hown, hlocks, hts⟩ := id C
  unfold fX8_save at hv
  refine lv_iload_n hx hb dX8_save_0 rfl (lv_at hl 1 rfl) ?_
  refine lv_iconst (v := 0) hx hb dX8_save_1 (by decide) ?_
  refine lv_iconst (v := 1) hx hb dX8_save_2 (by decide) ?_
  obtain ⟨r_1, hr_1, hv⟩ := qB hv
  refine q_S (As := [.int x1, .int (0:Int32), .int (1:Int32)]) (rest := []) hx hb hml hown hts hl.1 (kX8_in l D E  hr_1) zNo_mv (va_cwS 3 hts gX8_save_X8_in rfl rfl rfl (by decide +kernel) ⟨Nat.le_of_ble_eq_true rfl, Nat.le_of_ble_eq_true rfl⟩) (hP.sub (ws' := []) [] rfl) hK trivial rfl rfl (Nat.le_of_ble_eq_true rfl) dX8_save_3 ⟨Nat.zero_le _, Nat.zero_le _⟩ ?_
  refine lv_if_ne (tgt := 12) hx hb dX8_save_6 (by decide) (fun c_6_k_2 => ?_) (fun c_6_k_2 => ?_)
  · have hv := qF c_6_k_2 hv
    refine lv_aload_n hx hb dX8_save_12 rfl (lv_at hl 0 rfl) ?_
    refine va_get (D := D) (ci := 7) (v := .ref (a0 1)) (C := RX8) (T := TX8) (N := 14) hx hb hts hiX8_save_X8 hown hK hP 0 rfl rfl 0 (by decide) (hts _ lkX8_save_7) (fun _ h9 => h9) rfl dX8_save_13 ?_
    refine lv_iconst (v := 0) hx hb dX8_save_16 (by decide) ?_
    refine lv_aload_n hx hb dX8_save_17 rfl (lv_at hl 0 rfl) ?_
    refine va_get (D := D) (ci := 7) (v := .ref (a0 4)) (C := RX8) (T := TX8) (N := 14) hx hb hts hiX8_save_X8 hown hK hP 0 rfl rfl 4 (by decide) (hts _ lkX8_save_19) (fun _ h9 => h9) rfl dX8_save_18 ?_
    refine lv_bipush (v := 116) hx hb dX8_save_21 (by decide) ?_
    refine lv_iload_n hx hb dX8_save_23 rfl (lv_at hl 1 rfl) ?_
    refine lv_imul hx hb dX8_save_24 ?_
    obtain ⟨S_3, hS_3, hv⟩ := qB hv
    refine m_SV (As := [.ref (a0 1), .int (0:Int32), .ref (a0 4), .int ((116:Int32) * x1)]) (rest := []) (Wn := (fun _ : Unit => (wMod E a0 (sr M0 3 S_3)))) (Wr := [((a0 0), .inr (7, [.ref (a0 1), .ref (a0 2), .ref (a0 3), .int (M0 8 0), .ref (a0 4), .ref (a0 5), .ref (a0 6), .int (M0 8 1), .int (M0 8 2), .int (M0 8 3), .ref (a0 7), .int (M0 8 4), .ref (a0 8), .int (M0 8 5)])), aI E (a0 2) 116 (M0 1), aI E (a0 3) 696 (M0 2), aZ E (a0 5) 2 (M0 4), aI E (a0 6) 80 (M0 5), aI E (a0 7) 7 (M0 6), aI E (a0 8) 44 (M0 7)]) hx hb hml hown hts hl.1 (kX8_lays l D E (a0 1) (a0 4) H.size hS_3) (va_cwS 4 hts gX8_save_X8_lays rfl rfl rfl (by decide +kernel) ⟨Nat.le_of_ble_eq_true rfl, Nat.le_of_ble_eq_true rfl⟩) hP hD hS hA hK [1, 4] [0, 2, 3, 5, 6, 7, 8] [0, 7, 1, 2, 8, 3, 4, 5, 6] (by decide) rfl rfl (by decide) (by decide) (by decide) (fun _ => rfl) rfl rfl (Nat.le_of_ble_eq_true rfl) dX8_save_25 ⟨Nat.le_of_ble_eq_true rfl, Nat.le_of_ble_eq_true rfl⟩ (fun _ H locs hP hD hS => ?_)
    obtain ⟨M0s_4, hM0s_4, hv⟩ := qB hv
    obtain ⟨hP, hD⟩ := m_st (F := fun Z9 : FS => (wMod E a0 Z9)) (Option.some.inj hM0s_4) hP hD
    refine lv_aload_n hx hb dX8_save_28 rfl (lv_at hl 0 rfl) ?_
    refine va_get (D := D) (ci := 7) (v := .ref (a0 5)) (C := RX8) (T := TX8) (N := 14) hx hb hts hiX8_save_X8 hown hK hP 0 rfl rfl 5 (by decide) (hts _ lkX8_save_22) (fun _ h9 => h9) rfl dX8_save_29 ?_
    refine lv_iload_n hx hb dX8_save_32 rfl (lv_at hl 1 rfl) ?_
    refine lv_iconst (v := 1) hx hb dX8_save_33 (by decide) ?_
    obtain ⟨f_5, hf_5, hv⟩ := qB hv
    refine m_zst hx hb hK hP hD hS 5 1 rfl rfl hf_5 dX8_save_34 (fun H locs hP hD hS => ?_)
    obtain ⟨M0s_6, hM0s_6, hv⟩ := qB hv
    obtain ⟨hP, hD⟩ := m_st (F := fun Z9 : FS => (wMod E a0 Z9)) (Option.some.inj hM0s_6) hP hD
    refine lv_aload_n hx hb dX8_save_35 rfl (lv_at hl 0 rfl) ?_
    refine va_get (D := D) (ci := 7) (v := .ref (a0 1)) (C := RX8) (T := TX8) (N := 14) hx hb hts hiX8_save_X8 hown hK hP 0 rfl rfl 0 (by decide) (hts _ lkX8_save_7) (fun _ h9 => h9) rfl dX8_save_36 ?_
    refine lv_iconst (v := 0) hx hb dX8_save_39 (by decide) ?_
    refine q_ildc (f := (M0s_6 0)) hx hb hK hP 1 0 rfl rfl 0 (by decide) (by unfold vp_in; decide) dX8_save_40 ?_
    exact m_ret (F := (fun (Z9 : FS) => (fun _ : Unit => (wMod E a0 Z9)))) () C dX8_save_41 hv hP hD hS
  · have hv := qT c_6_k_2 hv
    refine lv_bipush (v := -2) hx hb dX8_save_9 (by decide) ?_
    exact m_ret (F := (fun (Z9 : FS) => (fun _ : Unit => (wMod E a0 Z9)))) () C dX8_save_11 hv hP hD hS

theorem lkX8_restore_22 : (.fieldLink RX8 22 "QuarterTilesModel" "held" "[Z" : Cond) ∈ wsX8_restore := by decide +kernel
theorem hiX8_restore_X8 : ∀ w ∈ wsX80, w ∈ wsX8_restore := by decide +kernel
theorem lkX8_restore_19 : (.fieldLink RX8 19 "QuarterTilesModel" "slots" "[I" : Cond) ∈ wsX8_restore := by decide +kernel
theorem lkX8_restore_7 : (.fieldLink RX8 7 "QuarterTilesModel" "now" "[I" : Cond) ∈ wsX8_restore := by decide +kernel
set_option maxRecDepth 100000 in
set_option maxHeartbeats 4000000 in
theorem kX8_restore (l : Launch) (D : va_G) (E : Nat → ClassId) (a0 : Nat → Nat) {M0 : FS} {x1 : Int32} {v : Int32} {M09 : FS} (sz : Nat) (hv : fX8_restore M0 x1 = some (v, M09)) : MI l yX8_restore wsX8_restore (rmN 2 45) D E ((wMod E a0 M0)) sz [.ref (a0 0), .int x1] v (fun _ : Unit => (wMod E a0 M09)) 0 0 := by
  refine MI.of (by decide) rfl (Nat.le_of_ble_eq_true rfl) ?_
  intro p e s m below meth c A H locs C hP hK hD hS hA ls hl
  have hl : lv_has ls 2 [(0, .ref (a0 0)), (1, .int x1)] := hl
  obtain ⟨hx, hb, hr, hml, hown, hlocks, hts⟩ := id C
  unfold fX8_restore at hv
  refine lv_iload_n hx hb dX8_restore_0 rfl (lv_at hl 1 rfl) ?_
  refine lv_iconst (v := 0) hx hb dX8_restore_1 (by decide) ?_
  refine lv_iconst (v := 1) hx hb dX8_restore_2 (by decide) ?_
  obtain ⟨r_1, hr_1, hv⟩ := qB hv
  refine q_S (As := [.int x1, .int (0:Int32), .int (1:Int32)]) (rest := []) hx hb hml hown hts hl.1 (kX8_in l D E  hr_1) zNo_mv (va_cwS 3 hts gX8_restore_X8_in rfl rfl rfl (by decide +kernel) ⟨Nat.le_of_ble_eq_true rfl, Nat.le_of_ble_eq_true rfl⟩) (hP.sub (ws' := []) [] rfl) hK trivial rfl rfl (Nat.le_of_ble_eq_true rfl) dX8_restore_3 ⟨Nat.zero_le _, Nat.zero_le _⟩ ?_
  refine lv_if_ne (tgt := 12) hx hb dX8_restore_6 (by decide) (fun c_6_k_2 => ?_) (fun c_6_k_2 => ?_)
  · have hv := qF c_6_k_2 hv
    refine lv_aload_n hx hb dX8_restore_12 rfl (lv_at hl 0 rfl) ?_
    refine va_get (D := D) (ci := 7) (v := .ref (a0 5)) (C := RX8) (T := TX8) (N := 14) hx hb hts hiX8_restore_X8 hown hK hP 0 rfl rfl 5 (by decide) (hts _ lkX8_restore_22) (fun _ h9 => h9) rfl dX8_restore_13 ?_
    refine lv_iload_n hx hb dX8_restore_16 rfl (lv_at hl 1 rfl) ?_
    obtain ⟨x_3, hx_3, hv⟩ := qB hv
    refine q_zld hx hb hK hP 5 1 rfl rfl hx_3 dX8_restore_17 ?_
    refine lv_if_ne (tgt := 24) hx hb dX8_restore_18 (by decide) (fun c_18_k_4 => ?_) (fun c_18_k_4 => ?_)
    · have hv := qF c_18_k_4 hv
      refine lv_aload_n hx hb dX8_restore_24 rfl (lv_at hl 0 rfl) ?_
      obtain ⟨S_5, hS_5, hv⟩ := qB hv
      refine m_VV (As := []) (rest := []) (C := RX8) (T0 := TX8) (N0 := 14) (ci := 7) (Wn := (fun _ : Unit => (wMod E a0 S_5))) (Wr := []) hx hb hml hown hts hl.1 (kX8_records l D E a0 H.size hS_5) (cwV 0 hts gX8_restore_X8_records rfl rfl rfl (by decide +kernel) ⟨Nat.le_of_ble_eq_true rfl, Nat.le_of_ble_eq_true rfl⟩) 0 rfl rfl hP hD hS hA hK [0, 1, 2, 3, 4, 5, 6, 7, 8] [] [0, 1, 2, 3, 4, 5, 6, 7, 8] (by decide) rfl rfl (by decide) (by decide) (by decide) (fun _ => rfl) rfl rfl (Nat.le_of_ble_eq_true rfl) dX8_restore_25 ⟨Nat.le_of_ble_eq_true rfl, Nat.le_of_ble_eq_true rfl⟩ (fun _ H locs hP hD hS => ?_)
      refine lv_aload_n hx hb dX8_restore_28 rfl (lv_at hl 0 rfl) ?_
      refine va_get (D := D) (ci := 7) (v := .ref (a0 4)) (C := RX8) (T := TX8) (N := 14) hx hb hts hiX8_restore_X8 hown hK hP 0 rfl rfl 4 (by decide) (hts _ lkX8_restore_19) (fun _ h9 => h9) rfl dX8_restore_29 ?_
      refine lv_bipush (v := 116) hx hb dX8_restore_32 (by decide) ?_
      refine lv_iload_n hx hb dX8_restore_34 rfl (lv_at hl 1 rfl) ?_
      refine lv_imul hx hb dX8_restore_35 ?_
      refine lv_aload_n hx hb dX8_restore_36 rfl (lv_at hl 0 rfl) ?_
      refine va_get (D := D) (ci := 7) (v := .ref (a0 1)) (C := RX8) (T := TX8) (N := 14) hx hb hts hiX8_restore_X8 hown hK hP 0 rfl rfl 0 (by decide) (hts _ lkX8_restore_7) (fun _ h9 => h9) rfl dX8_restore_37 ?_
      refine lv_iconst (v := 0) hx hb dX8_restore_40 (by decide) ?_
      obtain ⟨S_6, hS_6, hv⟩ := qB hv
      refine m_SV (As := [.ref (a0 4), .int ((116:Int32) * x1), .ref (a0 1), .int (0:Int32)]) (rest := []) (Wn := (fun _ : Unit => (wMod E a0 (sr S_5 0 S_6)))) (Wr := [((a0 0), .inr (7, [.ref (a0 1), .ref (a0 2), .ref (a0 3), .int (S_5 8 0), .ref (a0 4), .ref (a0 5), .ref (a0 6), .int (S_5 8 1), .int (S_5 8 2), .int (S_5 8 3), .ref (a0 7), .int (S_5 8 4), .ref (a0 8), .int (S_5 8 5)])), aI E (a0 2) 116 (S_5 1), aI E (a0 3) 696 (S_5 2), aZ E (a0 5) 2 (S_5 4), aI E (a0 6) 80 (S_5 5), aI E (a0 7) 7 (S_5 6), aI E (a0 8) 44 (S_5 7)]) hx hb hml hown hts hl.1 (kX8_lays l D E (a0 4) (a0 1) H.size hS_6) (va_cwS 4 hts gX8_restore_X8_lays rfl rfl rfl (by decide +kernel) ⟨Nat.le_of_ble_eq_true rfl, Nat.le_of_ble_eq_true rfl⟩) hP hD hS hA hK [4, 1] [0, 2, 3, 5, 6, 7, 8] [0, 8, 1, 2, 7, 3, 4, 5, 6] (by decide) rfl rfl (by decide) (by decide) (by decide) (fun _ => rfl) rfl rfl (Nat.le_of_ble_eq_true rfl) dX8_restore_41 ⟨Nat.le_of_ble_eq_true rfl, Nat.le_of_ble_eq_true rfl⟩ (fun _ H locs hP hD hS => ?_)
      obtain ⟨M0s_7, hM0s_7, hv⟩ := qB hv
      obtain ⟨hP, hD⟩ := m_st (F := fun Z9 : FS => (wMod E a0 Z9)) (Option.some.inj hM0s_7) hP hD
      refine lv_aload_n hx hb dX8_restore_44 rfl (lv_at hl 0 rfl) ?_
      refine va_get (D := D) (ci := 7) (v := .ref (a0 1)) (C := RX8) (T := TX8) (N := 14) hx hb hts hiX8_restore_X8 hown hK hP 0 rfl rfl 0 (by decide) (hts _ lkX8_restore_7) (fun _ h9 => h9) rfl dX8_restore_45 ?_
      refine lv_iconst (v := 0) hx hb dX8_restore_48 (by decide) ?_
      refine q_ildc (f := (M0s_7 0)) hx hb hK hP 1 0 rfl rfl 0 (by decide) (by unfold vp_in; decide) dX8_restore_49 ?_
      exact m_ret (F := (fun (Z9 : FS) => (fun _ : Unit => (wMod E a0 Z9)))) () C dX8_restore_50 hv hP hD hS
    · have hv := qT c_18_k_4 hv
      refine lv_bipush (v := -5) hx hb dX8_restore_21 (by decide) ?_
      exact m_ret (F := (fun (Z9 : FS) => (fun _ : Unit => (wMod E a0 Z9)))) () C dX8_restore_23 hv hP hD hS
  · have hv := qT c_6_k_2 hv
    refine lv_bipush (v := -2) hx hb dX8_restore_9 (by decide) ?_
    exact m_ret (F := (fun (Z9 : FS) => (fun _ : Unit => (wMod E a0 Z9)))) () C dX8_restore_11 hv hP hD hS
