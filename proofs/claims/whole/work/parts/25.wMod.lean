set_option maxRecDepth 100000 in
set_option maxHeartbeats 4000000 in
theorem kX8_in (l : Launch) (D : va_G) (E : Nat → ClassId)  {x0 : Int32} {x1 : Int32} {x2 : Int32} {v : Int32} (hv : fX8_in x0 x1 x2 = some v) : PU l yX8_in wsX8_in (rmN 0 0) D E zNo ([]) [.int x0, .int x1, .int x2] v := by
  refine PU.of (by decide) rfl (Nat.le_of_ble_eq_true rfl) ?_
  intro p e s m below meth c C hP hK hZ ls hl
  have hl : lv_has ls 3 [(0, .int x0), (1, .int x1), (2, .int x2)] := hl
  obtain ⟨hx, hb, hr, hml, hown, hlocks, hts⟩ := id C
  unfold fX8_in at hv
  refine lv_iload_n hx hb dX8_in_0 rfl (lv_at hl 0 rfl) ?_
  refine lv_iload_n hx hb dX8_in_1 rfl (lv_at hl 1 rfl) ?_
  refine lv_icmp_lt (tgt := 14) hx hb dX8_in_2 (by decide) (fun c_2_k_1 => ?_) (fun c_2_k_1 => ?_)
  · have hv := qT c_2_k_1 hv
    refine lv_iconst (v := 0) hx hb dX8_in_14 (by decide) ?_
    exact q_retz C dX8_in_15 hv
  · have hv := qF c_2_k_1 hv
    refine lv_iload_n hx hb dX8_in_5 rfl (lv_at hl 0 rfl) ?_
    refine lv_iload_n hx hb dX8_in_6 rfl (lv_at hl 2 rfl) ?_
    refine lv_icmp_gt (tgt := 14) hx hb dX8_in_7 (by decide) (fun c_7_k_2 => ?_) (fun c_7_k_2 => ?_)
    · have hv := qT c_7_k_2 hv
      refine lv_iconst (v := 0) hx hb dX8_in_14 (by decide) ?_
      exact q_retz C dX8_in_15 hv
    · have hv := qF c_7_k_2 hv
      refine lv_iconst (v := 1) hx hb dX8_in_10 (by decide) ?_
      refine lv_goto (tgt := 15) hx hb dX8_in_11 (by decide) ?_
      exact q_retz C dX8_in_15 hv

set_option maxRecDepth 100000 in
set_option maxHeartbeats 4000000 in
theorem kX8_isPlace (l : Launch) (D : va_G) (E : Nat → ClassId)  {x0 : Int32} {x1 : Int32} {v : Int32} (hv : fX8_isPlace x0 x1 = some v) : PU l yX8_isPlace wsX8_isPlace (rmN 1 22) D E zNo ([]) [.int x0, .int x1] v := by
  refine PU.of (by decide) rfl (Nat.le_of_ble_eq_true rfl) ?_
  intro p e s m below meth c C hP hK hZ ls hl
  have hl : lv_has ls 2 [(0, .int x0), (1, .int x1)] := hl
  obtain ⟨hx, hb, hr, hml, hown, hlocks, hts⟩ := id C
  unfold fX8_isPlace at hv
  refine lv_iload_n hx hb dX8_isPlace_0 rfl (lv_at hl 0 rfl) ?_
  refine lv_iconst (v := 0) hx hb dX8_isPlace_1 (by decide) ?_
  refine lv_bipush (v := 63) hx hb dX8_isPlace_2 (by decide) ?_
  obtain ⟨r_1, hr_1, hv⟩ := qB hv
  refine q_S (As := [.int x0, .int (0:Int32), .int (63:Int32)]) (rest := []) hx hb hml hown hts hl.1 (kX8_in l D E  hr_1) zNo_mv (va_cwS 3 hts gX8_isPlace_X8_in rfl rfl rfl (by decide +kernel) ⟨Nat.le_of_ble_eq_true rfl, Nat.le_of_ble_eq_true rfl⟩) (hP.sub (ws' := []) [] rfl) hK hZ rfl rfl (Nat.le_of_ble_eq_true rfl) dX8_isPlace_4 ⟨Nat.zero_le _, Nat.zero_le _⟩ ?_
  refine lv_if_eq (tgt := 24) hx hb dX8_isPlace_7 (by decide) (fun c_7_k_2 => ?_) (fun c_7_k_2 => ?_)
  · have hv := qT c_7_k_2 hv
    refine lv_iconst (v := 0) hx hb dX8_isPlace_24 (by decide) ?_
    exact q_retz C dX8_isPlace_25 hv
  · have hv := qF c_7_k_2 hv
    refine lv_iload_n hx hb dX8_isPlace_10 rfl (lv_at hl 1 rfl) ?_
    refine lv_iconst (v := 0) hx hb dX8_isPlace_11 (by decide) ?_
    refine lv_bipush (v := 63) hx hb dX8_isPlace_12 (by decide) ?_
    obtain ⟨r_3, hr_3, hv⟩ := qB hv
    refine q_S (As := [.int x1, .int (0:Int32), .int (63:Int32)]) (rest := []) hx hb hml hown hts hl.1 (kX8_in l D E  hr_3) zNo_mv (va_cwS 3 hts gX8_isPlace_X8_in rfl rfl rfl (by decide +kernel) ⟨Nat.le_of_ble_eq_true rfl, Nat.le_of_ble_eq_true rfl⟩) (hP.sub (ws' := []) [] rfl) hK hZ rfl rfl (Nat.le_of_ble_eq_true rfl) dX8_isPlace_14 ⟨Nat.zero_le _, Nat.zero_le _⟩ ?_
    refine lv_if_eq (tgt := 24) hx hb dX8_isPlace_17 (by decide) (fun c_17_k_4 => ?_) (fun c_17_k_4 => ?_)
    · have hv := qT c_17_k_4 hv
      refine lv_iconst (v := 0) hx hb dX8_isPlace_24 (by decide) ?_
      exact q_retz C dX8_isPlace_25 hv
    · have hv := qF c_17_k_4 hv
      refine lv_iconst (v := 1) hx hb dX8_isPlace_20 (by decide) ?_
      refine lv_goto (tgt := 25) hx hb dX8_isPlace_21 (by decide) ?_
      exact q_retz C dX8_isPlace_25 hv

set_option maxRecDepth 100000 in
set_option maxHeartbeats 4000000 in
theorem wfX8_pathOf_L4 {p : Program} {e : Env} {s : State} {m : MethodId} {below : List Frame} {meth : Method} {c : Code} {l : Launch} {D : va_G} {E : Nat → ClassId} {x0 : Int32} {x1 : Int32} {v : Int32} {y0 : Int32} {y1 : Int32} (C : Ctx p s m meth c [.int x0, .int x1] wsX8_pathOf cX8_pathOf 4 (some .int) RX8) (hP : va_P D vwCl ([]) s.heap) (hK : va_K D vwCl (tyE E) s) (hZ : zNo s s.heap) : ∀ (q : Nat) (y2 : Int32) (y3 : Int32), fX8_pathOf_L4 y0 y1 q y2 y3 = some v → ∀ ls, lv_has ls 4 [(0, .int y0), (1, .int y1), (2, .int y2), (3, .int y3)] → WP p l e (rmN 0 0) s m [.int x0, .int x1] below meth c v 4 ls [] := by
  obtain ⟨hx, hb, hr, hml, hown, hlocks, hts⟩ := id C
  intro q
  induction q with
  | zero =>
    intro y2 y3 hv
    cases hv
  | succ q ih =>
    intro y2 y3 hv ls hl
    rw [fX8_pathOf_L4.eq_2] at hv
    refine lv_iload_n hx hb dX8_pathOf_4 rfl (lv_at hl 3 rfl) ?_
    refine lv_if_lt (tgt := 32) hx hb dX8_pathOf_5 (by decide) (fun c_5_k_1 => ?_) (fun c_5_k_1 => ?_)
    · have hv := qT c_5_k_1 hv
      refine lv_iload_n hx hb dX8_pathOf_32 rfl (lv_at hl 2 rfl) ?_
      exact q_ret C dX8_pathOf_33 hv
    · have hv := qF c_5_k_1 hv
      refine lv_iconst (v := 4) hx hb dX8_pathOf_8 (by decide) ?_
      refine lv_iload_n hx hb dX8_pathOf_9 rfl (lv_at hl 2 rfl) ?_
      refine lv_imul hx hb dX8_pathOf_10 ?_
      refine lv_iconst (v := 2) hx hb dX8_pathOf_11 (by decide) ?_
      refine lv_iload_n hx hb dX8_pathOf_12 rfl (lv_at hl 1 rfl) ?_
      refine lv_iload_n hx hb dX8_pathOf_13 rfl (lv_at hl 3 rfl) ?_
      refine lv_ishr hx hb dX8_pathOf_14 ?_
      refine lv_iconst (v := 1) hx hb dX8_pathOf_15 (by decide) ?_
      refine lv_iand hx hb dX8_pathOf_16 ?_
      refine lv_imul hx hb dX8_pathOf_17 ?_
      refine lv_iadd hx hb dX8_pathOf_18 ?_
      refine lv_iload_n hx hb dX8_pathOf_19 rfl (lv_at hl 0 rfl) ?_
      refine lv_iload_n hx hb dX8_pathOf_20 rfl (lv_at hl 3 rfl) ?_
      refine lv_ishr hx hb dX8_pathOf_21 ?_
      refine lv_iconst (v := 1) hx hb dX8_pathOf_22 (by decide) ?_
      refine lv_iand hx hb dX8_pathOf_23 ?_
      refine lv_iadd hx hb dX8_pathOf_24 ?_
      refine lv_istore_n (lv' := [(2, .int ((((4:Int32) * y2) + ((2:Int32) * ((y1 >>> (y3 &&& 31)) &&& (1:Int32)))) + ((y0 >>> (y3 &&& 31)) &&& (1:Int32)))), (0, .int y0), (1, .int y1), (3, .int y3)]) hx hb dX8_pathOf_25 rfl hl (by decide) rfl (fun ls hl => ?_)
      refine lv_iinc (v := (y3 + (-1))) (lv' := [(3, .int (y3 + (-1))), (2, .int ((((4:Int32) * y2) + ((2:Int32) * ((y1 >>> (y3 &&& 31)) &&& (1:Int32)))) + ((y0 >>> (y3 &&& 31)) &&& (1:Int32)))), (0, .int y0), (1, .int y1)]) hx hb dX8_pathOf_26 hl (k := 3) rfl (by rfl) (by decide) rfl (fun ls hl => ?_)
      refine lv_goto (tgt := 4) hx hb dX8_pathOf_29 (by decide) ?_
      exact ih ((((4:Int32) * y2) + ((2:Int32) * ((y1 >>> (y3 &&& 31)) &&& (1:Int32)))) + ((y0 >>> (y3 &&& 31)) &&& (1:Int32))) (y3 + (-1)) hv _ (lv_sub hl [2, 3, 1, 0] rfl)

set_option maxRecDepth 100000 in
set_option maxHeartbeats 4000000 in
theorem kX8_pathOf (l : Launch) (D : va_G) (E : Nat → ClassId)  {x0 : Int32} {x1 : Int32} {v : Int32} (hv : fX8_pathOf x0 x1 = some v) : PU l yX8_pathOf wsX8_pathOf (rmN 0 0) D E zNo ([]) [.int x0, .int x1] v := by
  refine PU.of (by decide) rfl (Nat.le_of_ble_eq_true rfl) ?_
  intro p e s m below meth c C hP hK hZ ls hl
  have hl : lv_has ls 4 [(0, .int x0), (1, .int x1)] := hl
  obtain ⟨hx, hb, hr, hml, hown, hlocks, hts⟩ := id C
  unfold fX8_pathOf at hv
  refine lv_iconst (v := 0) hx hb dX8_pathOf_0 (by decide) ?_
  refine lv_istore_n (lv' := [(2, .int (0:Int32)), (0, .int x0), (1, .int x1)]) hx hb dX8_pathOf_1 rfl hl (by decide) rfl (fun ls hl => ?_)
  refine lv_iconst (v := 5) hx hb dX8_pathOf_2 (by decide) ?_
  refine lv_istore_n (lv' := [(3, .int (5:Int32)), (2, .int (0:Int32)), (0, .int x0), (1, .int x1)]) hx hb dX8_pathOf_3 rfl hl (by decide) rfl (fun ls hl => ?_)
  exact wfX8_pathOf_L4 C hP hK hZ  6000 (0:Int32) (5:Int32) hv _ (lv_sub hl [2, 3, 1, 0] rfl)

set_option maxRecDepth 100000 in
set_option maxHeartbeats 4000000 in
theorem wfX8_coordinate_L4 {p : Program} {e : Env} {s : State} {m : MethodId} {below : List Frame} {meth : Method} {c : Code} {l : Launch} {D : va_G} {E : Nat → ClassId} {x0 : Int32} {x1 : Int32} {v : Int32} {y0 : Int32} {y1 : Int32} (C : Ctx p s m meth c [.int x0, .int x1] wsX8_coordinate cX8_coordinate 4 (some .int) RX8) (hP : va_P D vwCl ([]) s.heap) (hK : va_K D vwCl (tyE E) s) (hZ : zNo s s.heap) : ∀ (q : Nat) (y2 : Int32) (y3 : Int32), fX8_coordinate_L4 y0 y1 q y2 y3 = some v → ∀ ls, lv_has ls 4 [(0, .int y0), (1, .int y1), (2, .int y2), (3, .int y3)] → WP p l e (rmN 0 0) s m [.int x0, .int x1] below meth c v 4 ls [] := by
  obtain ⟨hx, hb, hr, hml, hown, hlocks, hts⟩ := id C
  intro q
  induction q with
  | zero =>
    intro y2 y3 hv
    cases hv
  | succ q ih =>
    intro y2 y3 hv ls hl
    rw [fX8_coordinate_L4.eq_2] at hv
    refine lv_iload_n hx hb dX8_coordinate_4 rfl (lv_at hl 3 rfl) ?_
    refine lv_if_lt (tgt := 28) hx hb dX8_coordinate_5 (by decide) (fun c_5_k_1 => ?_) (fun c_5_k_1 => ?_)
    · have hv := qT c_5_k_1 hv
      refine lv_iload_n hx hb dX8_coordinate_28 rfl (lv_at hl 2 rfl) ?_
      exact q_ret C dX8_coordinate_29 hv
    · have hv := qF c_5_k_1 hv
      refine lv_iconst (v := 2) hx hb dX8_coordinate_8 (by decide) ?_
      refine lv_iload_n hx hb dX8_coordinate_9 rfl (lv_at hl 2 rfl) ?_
      refine lv_imul hx hb dX8_coordinate_10 ?_
      refine lv_iload_n hx hb dX8_coordinate_11 rfl (lv_at hl 0 rfl) ?_
      refine lv_iconst (v := 2) hx hb dX8_coordinate_12 (by decide) ?_
      refine lv_iload_n hx hb dX8_coordinate_13 rfl (lv_at hl 3 rfl) ?_
      refine lv_imul hx hb dX8_coordinate_14 ?_
      refine lv_iload_n hx hb dX8_coordinate_15 rfl (lv_at hl 1 rfl) ?_
      refine lv_iadd hx hb dX8_coordinate_16 ?_
      refine lv_ishr hx hb dX8_coordinate_17 ?_
      refine lv_iconst (v := 1) hx hb dX8_coordinate_18 (by decide) ?_
      refine lv_iand hx hb dX8_coordinate_19 ?_
      refine lv_iadd hx hb dX8_coordinate_20 ?_
      refine lv_istore_n (lv' := [(2, .int (((2:Int32) * y2) + ((y0 >>> ((((2:Int32) * y3) + y1) &&& 31)) &&& (1:Int32)))), (0, .int y0), (1, .int y1), (3, .int y3)]) hx hb dX8_coordinate_21 rfl hl (by decide) rfl (fun ls hl => ?_)
      refine lv_iinc (v := (y3 + (-1))) (lv' := [(3, .int (y3 + (-1))), (2, .int (((2:Int32) * y2) + ((y0 >>> ((((2:Int32) * y3) + y1) &&& 31)) &&& (1:Int32)))), (0, .int y0), (1, .int y1)]) hx hb dX8_coordinate_22 hl (k := 3) rfl (by rfl) (by decide) rfl (fun ls hl => ?_)
      refine lv_goto (tgt := 4) hx hb dX8_coordinate_25 (by decide) ?_
      exact ih (((2:Int32) * y2) + ((y0 >>> ((((2:Int32) * y3) + y1) &&& 31)) &&& (1:Int32))) (y3 + (-1)) hv _ (lv_sub hl [2, 3, 1, 0] rfl)

set_option maxRecDepth 100000 in
set_option maxHeartbeats 4000000 in
theorem kX8_coordinate (l : Launch) (D : va_G) (E : Nat → ClassId)  {x0 : Int32} {x1 : Int32} {v : Int32} (hv : fX8_coordinate x0 x1 = some v) : PU l yX8_coordinate wsX8_coordinate (rmN 0 0) D E zNo ([]) [.int x0, .int x1] v := by
  refine PU.of (by decide) rfl (Nat.le_of_ble_eq_true rfl) ?_
  intro p e s m below meth c C hP hK hZ ls hl
  have hl : lv_has ls 4 [(0, .int x0), (1, .int x1)] := hl
  obtain ⟨hx, hb, hr, hml, hown, hlocks, hts⟩ := id C
  unfold fX8_coordinate at hv
  refine lv_iconst (v := 0) hx hb dX8_coordinate_0 (by decide) ?_
  refine lv_istore_n (lv' := [(2, .int (0:Int32)), (0, .int x0), (1, .int x1)]) hx hb dX8_coordinate_1 rfl hl (by decide) rfl (fun ls hl => ?_)
  refine lv_iconst (v := 5) hx hb dX8_coordinate_2 (by decide) ?_
  refine lv_istore_n (lv' := [(3, .int (5:Int32)), (2, .int (0:Int32)), (0, .int x0), (1, .int x1)]) hx hb dX8_coordinate_3 rfl hl (by decide) rfl (fun ls hl => ?_)
  exact wfX8_coordinate_L4 C hP hK hZ  6000 (0:Int32) (5:Int32) hv _ (lv_sub hl [2, 3, 1, 0] rfl)

set_option maxRecDepth 100000 in
set_option maxHeartbeats 4000000 in
theorem wfX8_depthOf_L2 {p : Program} {e : Env} {s : State} {m : MethodId} {below : List Frame} {meth : Method} {c : Code} {l : Launch} {D : va_G} {E : Nat → ClassId} {x0 : Int32} {v : Int32} {y0 : Int32} (C : Ctx p s m meth c [.int x0] wsX8_depthOf cX8_depthOf 2 (some .int) RX8) (hP : va_P D vwCl ([]) s.heap) (hK : va_K D vwCl (tyE E) s) (hZ : zNo s s.heap) : ∀ (q : Nat) (y1 : Int32), fX8_depthOf_L2 y0 q y1 = some v → ∀ ls, lv_has ls 2 [(0, .int y0), (1, .int y1)] → WP p l e (rmN 0 0) s m [.int x0] below meth c v 2 ls [] := by
  obtain ⟨hx, hb, hr, hml, hown, hlocks, hts⟩ := id C
  intro q
  induction q with
  | zero =>
    intro y1 hv
    cases hv
  | succ q ih =>
    intro y1 hv ls hl
    rw [fX8_depthOf_L2.eq_2] at hv
    refine lv_iload_n hx hb dX8_depthOf_2 rfl (lv_at hl 1 rfl) ?_
    refine lv_bipush (v := 6) hx hb dX8_depthOf_3 (by decide) ?_
    refine lv_icmp_gt (tgt := 25) hx hb dX8_depthOf_5 (by decide) (fun c_5_k_1 => ?_) (fun c_5_k_1 => ?_)
    · have hv := qT c_5_k_1 hv
      refine lv_bipush (v := -6) hx hb dX8_depthOf_25 (by decide) ?_
      exact q_ret C dX8_depthOf_27 hv
    · have hv := qF c_5_k_1 hv
      refine lv_iload_n hx hb dX8_depthOf_8 rfl (lv_at hl 0 rfl) ?_
      refine lv_iconst (v := 2) hx hb dX8_depthOf_9 (by decide) ?_
      refine lv_iload_n hx hb dX8_depthOf_10 rfl (lv_at hl 1 rfl) ?_
      refine lv_imul hx hb dX8_depthOf_11 ?_
      refine lv_ishr hx hb dX8_depthOf_12 ?_
      refine lv_iconst (v := 1) hx hb dX8_depthOf_13 (by decide) ?_
      refine lv_icmp_ne (tgt := 19) hx hb dX8_depthOf_14 (by decide) (fun c_14_k_2 => ?_) (fun c_14_k_2 => ?_)
      · have hv := qF c_14_k_2 hv
        refine lv_iinc (v := (y1 + 1)) (lv' := [(1, .int (y1 + 1)), (0, .int y0)]) hx hb dX8_depthOf_19 hl (k := 1) rfl (by rfl) (by decide) rfl (fun ls hl => ?_)
        refine lv_goto (tgt := 2) hx hb dX8_depthOf_22 (by decide) ?_
        exact ih (y1 + 1) hv _ (lv_sub hl [1, 0] rfl)
      · have hv := qT c_14_k_2 hv
        refine lv_iload_n hx hb dX8_depthOf_17 rfl (lv_at hl 1 rfl) ?_
        exact q_ret C dX8_depthOf_18 hv

set_option maxRecDepth 100000 in
set_option maxHeartbeats 4000000 in
theorem kX8_depthOf (l : Launch) (D : va_G) (E : Nat → ClassId)  {x0 : Int32} {v : Int32} (hv : fX8_depthOf x0 = some v) : PU l yX8_depthOf wsX8_depthOf (rmN 0 0) D E zNo ([]) [.int x0] v := by
  refine PU.of (by decide) rfl (Nat.le_of_ble_eq_true rfl) ?_
  intro p e s m below meth c C hP hK hZ ls hl
  have hl : lv_has ls 2 [(0, .int x0)] := hl
  obtain ⟨hx, hb, hr, hml, hown, hlocks, hts⟩ := id C
  unfold fX8_depthOf at hv
  refine lv_iconst (v := 0) hx hb dX8_depthOf_0 (by decide) ?_
  refine lv_istore_n (lv' := [(1, .int (0:Int32)), (0, .int x0)]) hx hb dX8_depthOf_1 rfl hl (by decide) rfl (fun ls hl => ?_)
  exact wfX8_depthOf_L2 C hP hK hZ  6000 (0:Int32) hv _ (lv_sub hl [1, 0] rfl)

set_option maxRecDepth 100000 in
set_option maxHeartbeats 4000000 in
theorem kX8_isNumber (l : Launch) (D : va_G) (E : Nat → ClassId)  {x0 : Int32} {v : Int32} (hv : fX8_isNumber x0 = some v) : PU l yX8_isNumber wsX8_isNumber (rmN 1 21) D E zNo ([]) [.int x0] v := by
  refine PU.of (by decide) rfl (Nat.le_of_ble_eq_true rfl) ?_
  intro p e s m below meth c C hP hK hZ ls hl
  have hl : lv_has ls 1 [(0, .int x0)] := hl
  obtain ⟨hx, hb, hr, hml, hown, hlocks, hts⟩ := id C
  unfold fX8_isNumber at hv
  refine lv_iload_n hx hb dX8_isNumber_0 rfl (lv_at hl 0 rfl) ?_
  refine lv_if_le (tgt := 17) hx hb dX8_isNumber_1 (by decide) (fun c_1_k_1 => ?_) (fun c_1_k_1 => ?_)
  · have hv := qT c_1_k_1 hv
    refine lv_iconst (v := 0) hx hb dX8_isNumber_17 (by decide) ?_
    exact q_retz C dX8_isNumber_18 hv
  · have hv := qF c_1_k_1 hv
    refine lv_iload_n hx hb dX8_isNumber_4 rfl (lv_at hl 0 rfl) ?_
    obtain ⟨r_2, hr_2, hv⟩ := qB hv
    refine q_S (As := [.int x0]) (rest := []) hx hb hml hown hts hl.1 (kX8_depthOf l D E  hr_2) zNo_mv (va_cwS 1 hts gX8_isNumber_X8_depthOf rfl rfl rfl (by decide +kernel) ⟨Nat.le_of_ble_eq_true rfl, Nat.le_of_ble_eq_true rfl⟩) (hP.sub (ws' := []) [] rfl) hK hZ rfl rfl (Nat.le_of_ble_eq_true rfl) dX8_isNumber_5 ⟨Nat.zero_le _, Nat.zero_le _⟩ ?_
    refine lv_bipush (v := -6) hx hb dX8_isNumber_8 (by decide) ?_
    refine lv_icmp_eq (tgt := 17) hx hb dX8_isNumber_10 (by decide) (fun c_10_k_3 => ?_) (fun c_10_k_3 => ?_)
    · have hv := qT c_10_k_3 hv
      refine lv_iconst (v := 0) hx hb dX8_isNumber_17 (by decide) ?_
      exact q_retz C dX8_isNumber_18 hv
    · have hv := qF c_10_k_3 hv
      refine lv_iconst (v := 1) hx hb dX8_isNumber_13 (by decide) ?_
      refine lv_goto (tgt := 18) hx hb dX8_isNumber_14 (by decide) ?_
      exact q_retz C dX8_isNumber_18 hv

set_option maxRecDepth 100000 in
set_option maxHeartbeats 4000000 in
theorem kX8_tileOf (l : Launch) (D : va_G) (E : Nat → ClassId)  {x0 : Int32} {x1 : Int32} {v : Int32} (hv : fX8_tileOf x0 x1 = some v) : PU l yX8_tileOf wsX8_tileOf (rmN 0 0) D E zNo ([]) [.int x0, .int x1] v := by
  refine PU.of (by decide) rfl (Nat.le_of_ble_eq_true rfl) ?_
  intro p e s m below meth c C hP hK hZ ls hl
  have hl : lv_has ls 2 [(0, .int x0), (1, .int x1)] := hl
  obtain ⟨hx, hb, hr, hml, hown, hlocks, hts⟩ := id C
  unfold fX8_tileOf at hv
  refine lv_sipush (v := 4096) hx hb dX8_tileOf_0 (by decide) ?_
  refine lv_iload_n hx hb dX8_tileOf_3 rfl (lv_at hl 0 rfl) ?_
  refine lv_iadd hx hb dX8_tileOf_4 ?_
  refine lv_iconst (v := 2) hx hb dX8_tileOf_5 (by decide) ?_
  refine lv_bipush (v := 6) hx hb dX8_tileOf_6 (by decide) ?_
  refine lv_iload_n hx hb dX8_tileOf_8 rfl (lv_at hl 1 rfl) ?_
  refine lv_isub hx hb dX8_tileOf_9 ?_
  refine lv_imul hx hb dX8_tileOf_10 ?_
  refine lv_ishr hx hb dX8_tileOf_11 ?_
  exact q_ret C dX8_tileOf_12 hv

set_option maxRecDepth 100000 in
set_option maxHeartbeats 4000000 in
theorem kX8_firstOf (l : Launch) (D : va_G) (E : Nat → ClassId)  {x0 : Int32} {v : Int32} (hv : fX8_firstOf x0 = some v) : PU l yX8_firstOf wsX8_firstOf (rmN 1 21) D E zNo ([]) [.int x0] v := by
  refine PU.of (by decide) rfl (Nat.le_of_ble_eq_true rfl) ?_
  intro p e s m below meth c C hP hK hZ ls hl
  have hl : lv_has ls 1 [(0, .int x0)] := hl
  obtain ⟨hx, hb, hr, hml, hown, hlocks, hts⟩ := id C
  unfold fX8_firstOf at hv
  refine lv_iload_n hx hb dX8_firstOf_0 rfl (lv_at hl 0 rfl) ?_
  refine lv_iconst (v := 2) hx hb dX8_firstOf_1 (by decide) ?_
  refine lv_bipush (v := 6) hx hb dX8_firstOf_2 (by decide) ?_
  refine lv_iload_n hx hb dX8_firstOf_4 rfl (lv_at hl 0 rfl) ?_
  obtain ⟨r_1, hr_1, hv⟩ := qB hv
  refine q_S (As := [.int x0]) (rest := [.int (6:Int32), .int (2:Int32), .int x0]) hx hb hml hown hts hl.1 (kX8_depthOf l D E  hr_1) zNo_mv (va_cwS 1 hts gX8_firstOf_X8_depthOf rfl rfl rfl (by decide +kernel) ⟨Nat.le_of_ble_eq_true rfl, Nat.le_of_ble_eq_true rfl⟩) (hP.sub (ws' := []) [] rfl) hK hZ rfl rfl (Nat.le_of_ble_eq_true rfl) dX8_firstOf_5 ⟨Nat.zero_le _, Nat.zero_le _⟩ ?_
  refine lv_isub hx hb dX8_firstOf_8 ?_
  refine lv_imul hx hb dX8_firstOf_9 ?_
  refine lv_ishl hx hb dX8_firstOf_10 ?_
  refine lv_sipush (v := 4096) hx hb dX8_firstOf_11 (by decide) ?_
  refine lv_isub hx hb dX8_firstOf_14 ?_
  exact q_ret C dX8_firstOf_15 hv

set_option maxRecDepth 100000 in
set_option maxHeartbeats 4000000 in
theorem kX8_sizeOf (l : Launch) (D : va_G) (E : Nat → ClassId)  {x0 : Int32} {v : Int32} (hv : fX8_sizeOf x0 = some v) : PU l yX8_sizeOf wsX8_sizeOf (rmN 1 21) D E zNo ([]) [.int x0] v := by
  refine PU.of (by decide) rfl (Nat.le_of_ble_eq_true rfl) ?_
  intro p e s m below meth c C hP hK hZ ls hl
  have hl : lv_has ls 1 [(0, .int x0)] := hl
  obtain ⟨hx, hb, hr, hml, hown, hlocks, hts⟩ := id C
  unfold fX8_sizeOf at hv
  refine lv_bipush (v := 64) hx hb dX8_sizeOf_0 (by decide) ?_
  refine lv_iload_n hx hb dX8_sizeOf_2 rfl (lv_at hl 0 rfl) ?_
  obtain ⟨r_1, hr_1, hv⟩ := qB hv
  refine q_S (As := [.int x0]) (rest := [.int (64:Int32)]) hx hb hml hown hts hl.1 (kX8_depthOf l D E  hr_1) zNo_mv (va_cwS 1 hts gX8_sizeOf_X8_depthOf rfl rfl rfl (by decide +kernel) ⟨Nat.le_of_ble_eq_true rfl, Nat.le_of_ble_eq_true rfl⟩) (hP.sub (ws' := []) [] rfl) hK hZ rfl rfl (Nat.le_of_ble_eq_true rfl) dX8_sizeOf_3 ⟨Nat.zero_le _, Nat.zero_le _⟩ ?_
  refine lv_ishr hx hb dX8_sizeOf_6 ?_
  exact q_ret C dX8_sizeOf_7 hv

set_option maxRecDepth 100000 in
set_option maxHeartbeats 4000000 in
theorem kX8_pathAt (l : Launch) (D : va_G) (E : Nat → ClassId) (a0_0 : Nat) {f0 : FA} {x1 : Int32} {v : Int32} (hv : fX8_pathAt f0 x1 = some v) : PU l yX8_pathAt wsX8_pathAt (rmN 1 23) D E zNo ([aI E a0_0 116 f0]) [.ref a0_0, .int x1] v := by
  refine PU.of (by decide) rfl (Nat.le_of_ble_eq_true rfl) ?_
  intro p e s m below meth c C hP hK hZ ls hl
  have hl : lv_has ls 2 [(0, .ref a0_0), (1, .int x1)] := hl
  obtain ⟨hx, hb, hr, hml, hown, hlocks, hts⟩ := id C
  unfold fX8_pathAt at hv
  refine lv_aload_n hx hb dX8_pathAt_0 rfl (lv_at hl 0 rfl) ?_
  refine lv_iconst (v := 4) hx hb dX8_pathAt_1 (by decide) ?_
  refine lv_iconst (v := 2) hx hb dX8_pathAt_2 (by decide) ?_
  refine lv_iload_n hx hb dX8_pathAt_3 rfl (lv_at hl 1 rfl) ?_
  refine lv_imul hx hb dX8_pathAt_4 ?_
  refine lv_iadd hx hb dX8_pathAt_5 ?_
  obtain ⟨x_1, hx_1, hv⟩ := qB hv
  refine q_ild hx hb hK hP 0 0 rfl rfl hx_1 dX8_pathAt_6 ?_
  refine lv_aload_n hx hb dX8_pathAt_7 rfl (lv_at hl 0 rfl) ?_
  refine lv_iconst (v := 4) hx hb dX8_pathAt_8 (by decide) ?_
  refine lv_iconst (v := 2) hx hb dX8_pathAt_9 (by decide) ?_
  refine lv_iload_n hx hb dX8_pathAt_10 rfl (lv_at hl 1 rfl) ?_
  refine lv_imul hx hb dX8_pathAt_11 ?_
  refine lv_iadd hx hb dX8_pathAt_12 ?_
  refine lv_iconst (v := 1) hx hb dX8_pathAt_13 (by decide) ?_
  refine lv_iadd hx hb dX8_pathAt_14 ?_
  obtain ⟨x_2, hx_2, hv⟩ := qB hv
  refine q_ild hx hb hK hP 0 0 rfl rfl hx_2 dX8_pathAt_15 ?_
  obtain ⟨r_3, hr_3, hv⟩ := qB hv
  refine q_S (As := [.int x_1, .int x_2]) (rest := []) hx hb hml hown hts hl.1 (kX8_pathOf l D E  hr_3) zNo_mv (va_cwS 2 hts gX8_pathAt_X8_pathOf rfl rfl rfl (by decide +kernel) ⟨Nat.le_of_ble_eq_true rfl, Nat.le_of_ble_eq_true rfl⟩) (hP.sub (ws' := []) [] rfl) hK hZ rfl rfl (Nat.le_of_ble_eq_true rfl) dX8_pathAt_16 ⟨Nat.zero_le _, Nat.zero_le _⟩ ?_
  exact q_ret C dX8_pathAt_19 hv

set_option maxRecDepth 100000 in
set_option maxHeartbeats 4000000 in
theorem wfX8_pointsIn_L10 {p : Program} {e : Env} {s : State} {m : MethodId} {below : List Frame} {meth : Method} {c : Code} {l : Launch} {D : va_G} {E : Nat → ClassId} {a0_0 : Nat} {f0 : FA} {x1 : Int32} {v : Int32} {y1 : Int32} {y2 : Int32} (C : Ctx p s m meth c [.ref a0_0, .int x1] wsX8_pointsIn cX8_pointsIn 5 (some .int) RX8) (hP : va_P D vwCl ([aI E a0_0 116 f0]) s.heap) (hK : va_K D vwCl (tyE E) s) (hZ : zNo s s.heap) : ∀ (q : Nat) (y3 : Int32) (y4 : Int32), fX8_pointsIn_L10 f0 y1 y2 q y3 y4 = some v → ∀ ls, lv_has ls 5 [(0, .ref a0_0), (1, .int y1), (2, .int y2), (3, .int y3), (4, .int y4)] → WP p l e (rmN 2 44) s m [.ref a0_0, .int x1] below meth c v 10 ls [] := by
  obtain ⟨hx, hb, hr, hml, hown, hlocks, hts⟩ := id C
  intro q
  induction q with
  | zero =>
    intro y3 y4 hv
    cases hv
  | succ q ih =>
    intro y3 y4 hv ls hl
    rw [fX8_pointsIn_L10.eq_2] at hv
    refine lv_iload hx hb dX8_pointsIn_10 (lv_at hl 4 rfl) ?_
    refine lv_aload_n hx hb dX8_pointsIn_12 rfl (lv_at hl 0 rfl) ?_
    refine lv_iconst (v := 0) hx hb dX8_pointsIn_13 (by decide) ?_
    refine q_ildc (f := f0) hx hb hK hP 0 0 rfl rfl 0 (by decide) (by unfold vp_in; decide) dX8_pointsIn_14 ?_
    refine lv_icmp_ge (tgt := 46) hx hb dX8_pointsIn_15 (by decide) (fun c_15_k_2 => ?_) (fun c_15_k_2 => ?_)
    · have hv := qT c_15_k_2 hv
      refine lv_iload_n hx hb dX8_pointsIn_46 rfl (lv_at hl 3 rfl) ?_
      exact q_ret C dX8_pointsIn_47 hv
    · have hv := qF c_15_k_2 hv
      refine lv_iload_n hx hb dX8_pointsIn_18 rfl (lv_at hl 3 rfl) ?_
      refine lv_aload_n hx hb dX8_pointsIn_19 rfl (lv_at hl 0 rfl) ?_
      refine lv_iload hx hb dX8_pointsIn_20 (lv_at hl 4 rfl) ?_
      obtain ⟨r_3, hr_3, hv⟩ := qB hv
      refine q_S (As := [.ref a0_0, .int y4]) (rest := [.int y3]) hx hb hml hown hts hl.1 (kX8_pathAt l D E a0_0 hr_3) zNo_mv (va_cwS 2 hts gX8_pointsIn_X8_pathAt rfl rfl rfl (by decide +kernel) ⟨Nat.le_of_ble_eq_true rfl, Nat.le_of_ble_eq_true rfl⟩) (hP.sub (ws' := [aI E a0_0 116 f0]) [0] rfl) hK hZ rfl rfl (Nat.le_of_ble_eq_true rfl) dX8_pointsIn_22 ⟨Nat.zero_le _, Nat.zero_le _⟩ ?_
      refine lv_iload_n hx hb dX8_pointsIn_25 rfl (lv_at hl 2 rfl) ?_
      obtain ⟨r_4, hr_4, hv⟩ := qB hv
      refine q_S (As := [.int r_3, .int y2]) (rest := [.int y3]) hx hb hml hown hts hl.1 (kX8_tileOf l D E  hr_4) zNo_mv (va_cwS 2 hts gX8_pointsIn_X8_tileOf rfl rfl rfl (by decide +kernel) ⟨Nat.le_of_ble_eq_true rfl, Nat.le_of_ble_eq_true rfl⟩) (hP.sub (ws' := []) [] rfl) hK hZ rfl rfl (Nat.le_of_ble_eq_true rfl) dX8_pointsIn_26 ⟨Nat.zero_le _, Nat.zero_le _⟩ ?_
      refine lv_iload_n hx hb dX8_pointsIn_29 rfl (lv_at hl 1 rfl) ?_
      refine lv_icmp_ne (tgt := 37) hx hb dX8_pointsIn_30 (by decide) (fun c_30_k_5 => ?_) (fun c_30_k_5 => ?_)
      · have hv := qF c_30_k_5 hv
        refine lv_iconst (v := 0) hx hb dX8_pointsIn_37 (by decide) ?_
        refine lv_iadd hx hb dX8_pointsIn_38 ?_
        refine lv_istore_n (lv' := [(3, .int (y3 + (0:Int32))), (0, .ref a0_0), (1, .int y1), (2, .int y2), (4, .int y4)]) hx hb dX8_pointsIn_39 rfl hl (by decide) rfl (fun ls hl => ?_)
        refine lv_iinc (v := (y4 + 1)) (lv' := [(4, .int (y4 + 1)), (3, .int (y3 + (0:Int32))), (0, .ref a0_0), (1, .int y1), (2, .int y2)]) hx hb dX8_pointsIn_40 hl (k := 4) rfl (by rfl) (by decide) rfl (fun ls hl => ?_)
        refine lv_goto (tgt := 10) hx hb dX8_pointsIn_43 (by decide) ?_
        exact ih (y3 + (0:Int32)) (y4 + 1) hv _ (lv_sub hl [2, 3, 4, 1, 0] rfl)
      · have hv := qT c_30_k_5 hv
        refine lv_iconst (v := 1) hx hb dX8_pointsIn_33 (by decide) ?_
        refine lv_goto (tgt := 38) hx hb dX8_pointsIn_34 (by decide) ?_
        refine lv_iadd hx hb dX8_pointsIn_38 ?_
        refine lv_istore_n (lv' := [(3, .int (y3 + (1:Int32))), (0, .ref a0_0), (1, .int y1), (2, .int y2), (4, .int y4)]) hx hb dX8_pointsIn_39 rfl hl (by decide) rfl (fun ls hl => ?_)
        refine lv_iinc (v := (y4 + 1)) (lv' := [(4, .int (y4 + 1)), (3, .int (y3 + (1:Int32))), (0, .ref a0_0), (1, .int y1), (2, .int y2)]) hx hb dX8_pointsIn_40 hl (k := 4) rfl (by rfl) (by decide) rfl (fun ls hl => ?_)
        refine lv_goto (tgt := 10) hx hb dX8_pointsIn_43 (by decide) ?_
        exact ih (y3 + (1:Int32)) (y4 + 1) hv _ (lv_sub hl [2, 3, 4, 1, 0] rfl)

set_option maxRecDepth 100000 in
set_option maxHeartbeats 4000000 in
theorem kX8_pointsIn (l : Launch) (D : va_G) (E : Nat → ClassId) (a0_0 : Nat) {f0 : FA} {x1 : Int32} {v : Int32} (hv : fX8_pointsIn f0 x1 = some v) : PU l yX8_pointsIn wsX8_pointsIn (rmN 2 44) D E zNo ([aI E a0_0 116 f0]) [.ref a0_0, .int x1] v := by
  refine PU.of (by decide) rfl (Nat.le_of_ble_eq_true rfl) ?_
  intro p e s m below meth c C hP hK hZ ls hl
  have hl : lv_has ls 5 [(0, .ref a0_0), (1, .int x1)] := hl
  obtain ⟨hx, hb, hr, hml, hown, hlocks, hts⟩ := id C
  unfold fX8_pointsIn at hv
  refine lv_iload_n hx hb dX8_pointsIn_0 rfl (lv_at hl 1 rfl) ?_
  obtain ⟨r_1, hr_1, hv⟩ := qB hv
  refine q_S (As := [.int x1]) (rest := []) hx hb hml hown hts hl.1 (kX8_depthOf l D E  hr_1) zNo_mv (va_cwS 1 hts gX8_pointsIn_X8_depthOf rfl rfl rfl (by decide +kernel) ⟨Nat.le_of_ble_eq_true rfl, Nat.le_of_ble_eq_true rfl⟩) (hP.sub (ws' := []) [] rfl) hK hZ rfl rfl (Nat.le_of_ble_eq_true rfl) dX8_pointsIn_1 ⟨Nat.zero_le _, Nat.zero_le _⟩ ?_
  refine lv_istore_n (lv' := [(2, .int r_1), (0, .ref a0_0), (1, .int x1)]) hx hb dX8_pointsIn_4 rfl hl (by decide) rfl (fun ls hl => ?_)
  refine lv_iconst (v := 0) hx hb dX8_pointsIn_5 (by decide) ?_
  refine lv_istore_n (lv' := [(3, .int (0:Int32)), (2, .int r_1), (0, .ref a0_0), (1, .int x1)]) hx hb dX8_pointsIn_6 rfl hl (by decide) rfl (fun ls hl => ?_)
  refine lv_iconst (v := 0) hx hb dX8_pointsIn_7 (by decide) ?_
  refine lv_istore (lv' := [(4, .int (0:Int32)), (3, .int (0:Int32)), (2, .int r_1), (0, .ref a0_0), (1, .int x1)]) hx hb dX8_pointsIn_8 hl (by decide) rfl (fun ls hl => ?_)
  exact wfX8_pointsIn_L10 C hP hK hZ  6000 (0:Int32) (0:Int32) hv _ (lv_sub hl [3, 4, 2, 1, 0] rfl)

set_option maxRecDepth 100000 in
set_option maxHeartbeats 4000000 in
theorem wfX8_isOrdered_L4 {p : Program} {e : Env} {s : State} {m : MethodId} {below : List Frame} {meth : Method} {c : Code} {l : Launch} {D : va_G} {E : Nat → ClassId} {a0_0 : Nat} {f0 : FA} {x1 : Int32} {v : Int32} {y1 : Int32} (C : Ctx p s m meth c [.ref a0_0, .int x1] wsX8_isOrdered cX8_isOrdered 4 (some .boolean) RX8) (hP : va_P D vwCl ([aI E a0_0 116 f0]) s.heap) (hK : va_K D vwCl (tyE E) s) (hZ : zNo s s.heap) : ∀ (q : Nat) (y2 : Int32) (y3 : Int32), fX8_isOrdered_L4 f0 y1 q y2 y3 = some v → ∀ ls, lv_has ls 4 [(0, .ref a0_0), (1, .int y1), (2, .int y2), (3, .int y3)] → WP p l e (rmN 0 0) s m [.ref a0_0, .int x1] below meth c v 4 ls [] := by
  obtain ⟨hx, hb, hr, hml, hown, hlocks, hts⟩ := id C
  intro q
  induction q with
  | zero =>
    intro y2 y3 hv
    cases hv
  | succ q ih =>
    intro y2 y3 hv ls hl
    rw [fX8_isOrdered_L4.eq_2] at hv
    refine lv_iload_n hx hb dX8_isOrdered_4 rfl (lv_at hl 3 rfl) ?_
    refine lv_aload_n hx hb dX8_isOrdered_5 rfl (lv_at hl 0 rfl) ?_
    refine lv_iconst (v := 3) hx hb dX8_isOrdered_6 (by decide) ?_
    refine q_ildc (f := f0) hx hb hK hP 0 0 rfl rfl 3 (by decide) (by unfold vp_in; decide) dX8_isOrdered_7 ?_
    refine lv_icmp_ge (tgt := 37) hx hb dX8_isOrdered_8 (by decide) (fun c_8_k_1 => ?_) (fun c_8_k_1 => ?_)
    · have hv := qT c_8_k_1 hv
      refine lv_iload_n hx hb dX8_isOrdered_37 rfl (lv_at hl 2 rfl) ?_
      exact q_retz C dX8_isOrdered_38 hv
    · have hv := qF c_8_k_1 hv
      refine lv_iload_n hx hb dX8_isOrdered_11 rfl (lv_at hl 2 rfl) ?_
      refine lv_if_ne (tgt := 25) hx hb dX8_isOrdered_12 (by decide) (fun c_12_k_2 => ?_) (fun c_12_k_2 => ?_)
      · have hv := qF c_12_k_2 hv
        refine lv_iconst (v := 1) hx hb dX8_isOrdered_25 (by decide) ?_
        refine lv_goto (tgt := 30) hx hb dX8_isOrdered_26 (by decide) ?_
        refine lv_istore_n (lv' := [(2, .int (1:Int32)), (0, .ref a0_0), (1, .int y1), (3, .int y3)]) hx hb dX8_isOrdered_30 rfl hl (by decide) rfl (fun ls hl => ?_)
        refine lv_iinc (v := (y3 + 1)) (lv' := [(3, .int (y3 + 1)), (2, .int (1:Int32)), (0, .ref a0_0), (1, .int y1)]) hx hb dX8_isOrdered_31 hl (k := 3) rfl (by rfl) (by decide) rfl (fun ls hl => ?_)
        refine lv_goto (tgt := 4) hx hb dX8_isOrdered_34 (by decide) ?_
        exact ih (1:Int32) (y3 + 1) hv _ (lv_sub hl [2, 3, 1, 0] rfl)
      · have hv := qT c_12_k_2 hv
        refine lv_aload_n hx hb dX8_isOrdered_15 rfl (lv_at hl 0 rfl) ?_
        refine lv_bipush (v := 104) hx hb dX8_isOrdered_16 (by decide) ?_
        refine lv_iload_n hx hb dX8_isOrdered_18 rfl (lv_at hl 3 rfl) ?_
        refine lv_iadd hx hb dX8_isOrdered_19 ?_
        obtain ⟨x_3, hx_3, hv⟩ := qB hv
        refine q_ild hx hb hK hP 0 0 rfl rfl hx_3 dX8_isOrdered_20 ?_
        refine lv_iload_n hx hb dX8_isOrdered_21 rfl (lv_at hl 1 rfl) ?_
        refine lv_icmp_ne (tgt := 29) hx hb dX8_isOrdered_22 (by decide) (fun c_22_k_4 => ?_) (fun c_22_k_4 => ?_)
        · have hv := qF c_22_k_4 hv
          refine lv_iconst (v := 0) hx hb dX8_isOrdered_29 (by decide) ?_
          refine lv_istore_n (lv' := [(2, .int (0:Int32)), (0, .ref a0_0), (1, .int y1), (3, .int y3)]) hx hb dX8_isOrdered_30 rfl hl (by decide) rfl (fun ls hl => ?_)
          refine lv_iinc (v := (y3 + 1)) (lv' := [(3, .int (y3 + 1)), (2, .int (0:Int32)), (0, .ref a0_0), (1, .int y1)]) hx hb dX8_isOrdered_31 hl (k := 3) rfl (by rfl) (by decide) rfl (fun ls hl => ?_)
          refine lv_goto (tgt := 4) hx hb dX8_isOrdered_34 (by decide) ?_
          exact ih (0:Int32) (y3 + 1) hv _ (lv_sub hl [2, 3, 1, 0] rfl)
        · have hv := qT c_22_k_4 hv
          refine lv_iconst (v := 1) hx hb dX8_isOrdered_25 (by decide) ?_
          refine lv_goto (tgt := 30) hx hb dX8_isOrdered_26 (by decide) ?_
          refine lv_istore_n (lv' := [(2, .int (1:Int32)), (0, .ref a0_0), (1, .int y1), (3, .int y3)]) hx hb dX8_isOrdered_30 rfl hl (by decide) rfl (fun ls hl => ?_)
          refine lv_iinc (v := (y3 + 1)) (lv' := [(3, .int (y3 + 1)), (2, .int (1:Int32)), (0, .ref a0_0), (1, .int y1)]) hx hb dX8_isOrdered_31 hl (k := 3) rfl (by rfl) (by decide) rfl (fun ls hl => ?_)
          refine lv_goto (tgt := 4) hx hb dX8_isOrdered_34 (by decide) ?_
          exact ih (1:Int32) (y3 + 1) hv _ (lv_sub hl [2, 3, 1, 0] rfl)

set_option maxRecDepth 100000 in
set_option maxHeartbeats 4000000 in
theorem kX8_isOrdered (l : Launch) (D : va_G) (E : Nat → ClassId) (a0_0 : Nat) {f0 : FA} {x1 : Int32} {v : Int32} (hv : fX8_isOrdered f0 x1 = some v) : PU l yX8_isOrdered wsX8_isOrdered (rmN 0 0) D E zNo ([aI E a0_0 116 f0]) [.ref a0_0, .int x1] v := by
  refine PU.of (by decide) rfl (Nat.le_of_ble_eq_true rfl) ?_
  intro p e s m below meth c C hP hK hZ ls hl
  have hl : lv_has ls 4 [(0, .ref a0_0), (1, .int x1)] := hl
  obtain ⟨hx, hb, hr, hml, hown, hlocks, hts⟩ := id C
  unfold fX8_isOrdered at hv
  refine lv_iconst (v := 0) hx hb dX8_isOrdered_0 (by decide) ?_
  refine lv_istore_n (lv' := [(2, .int (0:Int32)), (0, .ref a0_0), (1, .int x1)]) hx hb dX8_isOrdered_1 rfl hl (by decide) rfl (fun ls hl => ?_)
  refine lv_iconst (v := 0) hx hb dX8_isOrdered_2 (by decide) ?_
  refine lv_istore_n (lv' := [(3, .int (0:Int32)), (2, .int (0:Int32)), (0, .ref a0_0), (1, .int x1)]) hx hb dX8_isOrdered_3 rfl hl (by decide) rfl (fun ls hl => ?_)
  exact wfX8_isOrdered_L4 C hP hK hZ  6000 (0:Int32) (0:Int32) hv _ (lv_sub hl [2, 3, 1, 0] rfl)

set_option maxRecDepth 100000 in
set_option maxHeartbeats 4000000 in
theorem kX8_isSplit (l : Launch) (D : va_G) (E : Nat → ClassId) (a0_0 : Nat) {f0 : FA} {x1 : Int32} {v : Int32} (hv : fX8_isSplit f0 x1 = some v) : PU l yX8_isSplit wsX8_isSplit (rmN 3 68) D E zNo ([aI E a0_0 116 f0]) [.ref a0_0, .int x1] v := by
  refine PU.of (by decide) rfl (Nat.le_of_ble_eq_true rfl) ?_
  intro p e s m below meth c C hP hK hZ ls hl
  have hl : lv_has ls 2 [(0, .ref a0_0), (1, .int x1)] := hl
  obtain ⟨hx, hb, hr, hml, hown, hlocks, hts⟩ := id C
  unfold fX8_isSplit at hv
  refine lv_iload_n hx hb dX8_isSplit_0 rfl (lv_at hl 1 rfl) ?_
  obtain ⟨r_1, hr_1, hv⟩ := qB hv
  refine q_S (As := [.int x1]) (rest := []) hx hb hml hown hts hl.1 (kX8_depthOf l D E  hr_1) zNo_mv (va_cwS 1 hts gX8_isSplit_X8_depthOf rfl rfl rfl (by decide +kernel) ⟨Nat.le_of_ble_eq_true rfl, Nat.le_of_ble_eq_true rfl⟩) (hP.sub (ws' := []) [] rfl) hK hZ rfl rfl (Nat.le_of_ble_eq_true rfl) dX8_isSplit_1 ⟨Nat.zero_le _, Nat.zero_le _⟩ ?_
  refine lv_aload_n hx hb dX8_isSplit_4 rfl (lv_at hl 0 rfl) ?_
  refine lv_iconst (v := 2) hx hb dX8_isSplit_5 (by decide) ?_
  refine q_ildc (f := f0) hx hb hK hP 0 0 rfl rfl 2 (by decide) (by unfold vp_in; decide) dX8_isSplit_6 ?_
  refine lv_icmp_ge (tgt := 33) hx hb dX8_isSplit_7 (by decide) (fun c_7_k_2 => ?_) (fun c_7_k_2 => ?_)
  · have hv := qT c_7_k_2 hv
    refine lv_iconst (v := 0) hx hb dX8_isSplit_33 (by decide) ?_
    exact q_retz C dX8_isSplit_34 hv
  · have hv := qF c_7_k_2 hv
    refine lv_aload_n hx hb dX8_isSplit_10 rfl (lv_at hl 0 rfl) ?_
    refine lv_iload_n hx hb dX8_isSplit_11 rfl (lv_at hl 1 rfl) ?_
    obtain ⟨r_3, hr_3, hv⟩ := qB hv
    refine q_S (As := [.ref a0_0, .int x1]) (rest := []) hx hb hml hown hts hl.1 (kX8_isOrdered l D E a0_0 hr_3) zNo_mv (va_cwS 2 hts gX8_isSplit_X8_isOrdered rfl rfl rfl (by decide +kernel) ⟨Nat.le_of_ble_eq_true rfl, Nat.le_of_ble_eq_true rfl⟩) (hP.sub (ws' := [aI E a0_0 116 f0]) [0] rfl) hK hZ rfl rfl (Nat.le_of_ble_eq_true rfl) dX8_isSplit_12 ⟨Nat.zero_le _, Nat.zero_le _⟩ ?_
    refine lv_if_ne (tgt := 29) hx hb dX8_isSplit_15 (by decide) (fun c_15_k_4 => ?_) (fun c_15_k_4 => ?_)
    · have hv := qF c_15_k_4 hv
      refine lv_iconst (v := 1) hx hb dX8_isSplit_29 (by decide) ?_
      refine lv_goto (tgt := 34) hx hb dX8_isSplit_30 (by decide) ?_
      exact q_retz C dX8_isSplit_34 hv
    · have hv := qT c_15_k_4 hv
      refine lv_aload_n hx hb dX8_isSplit_18 rfl (lv_at hl 0 rfl) ?_
      refine lv_iload_n hx hb dX8_isSplit_19 rfl (lv_at hl 1 rfl) ?_
      obtain ⟨r_5, hr_5, hv⟩ := qB hv
      refine q_S (As := [.ref a0_0, .int x1]) (rest := []) hx hb hml hown hts hl.1 (kX8_pointsIn l D E a0_0 hr_5) zNo_mv (va_cwS 2 hts gX8_isSplit_X8_pointsIn rfl rfl rfl (by decide +kernel) ⟨Nat.le_of_ble_eq_true rfl, Nat.le_of_ble_eq_true rfl⟩) (hP.sub (ws' := [aI E a0_0 116 f0]) [0] rfl) hK hZ rfl rfl (Nat.le_of_ble_eq_true rfl) dX8_isSplit_20 ⟨Nat.zero_le _, Nat.zero_le _⟩ ?_
      refine lv_aload_n hx hb dX8_isSplit_23 rfl (lv_at hl 0 rfl) ?_
      refine lv_iconst (v := 1) hx hb dX8_isSplit_24 (by decide) ?_
      refine q_ildc (f := f0) hx hb hK hP 0 0 rfl rfl 1 (by decide) (by unfold vp_in; decide) dX8_isSplit_25 ?_
      refine lv_icmp_le (tgt := 33) hx hb dX8_isSplit_26 (by decide) (fun c_26_k_6 => ?_) (fun c_26_k_6 => ?_)
      · have hv := qT c_26_k_6 hv
        refine lv_iconst (v := 0) hx hb dX8_isSplit_33 (by decide) ?_
        exact q_retz C dX8_isSplit_34 hv
      · have hv := qF c_26_k_6 hv
        refine lv_iconst (v := 1) hx hb dX8_isSplit_29 (by decide) ?_
        refine lv_goto (tgt := 34) hx hb dX8_isSplit_30 (by decide) ?_
        exact q_retz C dX8_isSplit_34 hv

set_option maxRecDepth 100000 in
set_option maxHeartbeats 4000000 in
theorem wfX8_leafOf_L2 {p : Program} {e : Env} {s : State} {m : MethodId} {below : List Frame} {meth : Method} {c : Code} {l : Launch} {D : va_G} {E : Nat → ClassId} {a0_0 : Nat} {f0 : FA} {x1 : Int32} {v : Int32} {y1 : Int32} (C : Ctx p s m meth c [.ref a0_0, .int x1] wsX8_leafOf cX8_leafOf 3 (some .int) RX8) (hP : va_P D vwCl ([aI E a0_0 116 f0]) s.heap) (hK : va_K D vwCl (tyE E) s) (hZ : zNo s s.heap) : ∀ (q : Nat) (y2 : Int32), fX8_leafOf_L2 f0 y1 q y2 = some v → ∀ ls, lv_has ls 3 [(0, .ref a0_0), (1, .int y1), (2, .int y2)] → WP p l e (rmN 4 89) s m [.ref a0_0, .int x1] below meth c v 2 ls [] := by
  obtain ⟨hx, hb, hr, hml, hown, hlocks, hts⟩ := id C
  intro q
  induction q with
  | zero =>
    intro y2 hv
    cases hv
  | succ q ih =>
    intro y2 hv ls hl
    rw [fX8_leafOf_L2.eq_2] at hv
    refine lv_aload_n hx hb dX8_leafOf_2 rfl (lv_at hl 0 rfl) ?_
    refine lv_iload_n hx hb dX8_leafOf_3 rfl (lv_at hl 1 rfl) ?_
    refine lv_iload_n hx hb dX8_leafOf_4 rfl (lv_at hl 2 rfl) ?_
    obtain ⟨r_1, hr_1, hv⟩ := qB hv
    refine q_S (As := [.int y1, .int y2]) (rest := [.ref a0_0]) hx hb hml hown hts hl.1 (kX8_tileOf l D E  hr_1) zNo_mv (va_cwS 2 hts gX8_leafOf_X8_tileOf rfl rfl rfl (by decide +kernel) ⟨Nat.le_of_ble_eq_true rfl, Nat.le_of_ble_eq_true rfl⟩) (hP.sub (ws' := []) [] rfl) hK hZ rfl rfl (Nat.le_of_ble_eq_true rfl) dX8_leafOf_5 ⟨Nat.zero_le _, Nat.zero_le _⟩ ?_
    obtain ⟨r_2, hr_2, hv⟩ := qB hv
    refine q_S (As := [.ref a0_0, .int r_1]) (rest := []) hx hb hml hown hts hl.1 (kX8_isSplit l D E a0_0 hr_2) zNo_mv (va_cwS 2 hts gX8_leafOf_X8_isSplit rfl rfl rfl (by decide +kernel) ⟨Nat.le_of_ble_eq_true rfl, Nat.le_of_ble_eq_true rfl⟩) (hP.sub (ws' := [aI E a0_0 116 f0]) [0] rfl) hK hZ rfl rfl (Nat.le_of_ble_eq_true rfl) dX8_leafOf_8 ⟨Nat.zero_le _, Nat.zero_le _⟩ ?_
    refine lv_if_eq (tgt := 20) hx hb dX8_leafOf_11 (by decide) (fun c_11_k_3 => ?_) (fun c_11_k_3 => ?_)
    · have hv := qT c_11_k_3 hv
      refine lv_iload_n hx hb dX8_leafOf_20 rfl (lv_at hl 1 rfl) ?_
      refine lv_iload_n hx hb dX8_leafOf_21 rfl (lv_at hl 2 rfl) ?_
      obtain ⟨r_4, hr_4, hv⟩ := qB hv
      refine q_S (As := [.int y1, .int y2]) (rest := []) hx hb hml hown hts hl.1 (kX8_tileOf l D E  hr_4) zNo_mv (va_cwS 2 hts gX8_leafOf_X8_tileOf rfl rfl rfl (by decide +kernel) ⟨Nat.le_of_ble_eq_true rfl, Nat.le_of_ble_eq_true rfl⟩) (hP.sub (ws' := []) [] rfl) hK hZ rfl rfl (Nat.le_of_ble_eq_true rfl) dX8_leafOf_22 ⟨Nat.zero_le _, Nat.zero_le _⟩ ?_
      exact q_ret C dX8_leafOf_25 hv
    · have hv := qF c_11_k_3 hv
      refine lv_iinc (v := (y2 + 1)) (lv' := [(2, .int (y2 + 1)), (0, .ref a0_0), (1, .int y1)]) hx hb dX8_leafOf_14 hl (k := 2) rfl (by rfl) (by decide) rfl (fun ls hl => ?_)
      refine lv_goto (tgt := 2) hx hb dX8_leafOf_17 (by decide) ?_
      exact ih (y2 + 1) hv _ (lv_sub hl [1, 2, 0] rfl)

set_option maxRecDepth 100000 in
set_option maxHeartbeats 4000000 in
theorem kX8_leafOf (l : Launch) (D : va_G) (E : Nat → ClassId) (a0_0 : Nat) {f0 : FA} {x1 : Int32} {v : Int32} (hv : fX8_leafOf f0 x1 = some v) : PU l yX8_leafOf wsX8_leafOf (rmN 4 89) D E zNo ([aI E a0_0 116 f0]) [.ref a0_0, .int x1] v := by
  refine PU.of (by decide) rfl (Nat.le_of_ble_eq_true rfl) ?_
  intro p e s m below meth c C hP hK hZ ls hl
  have hl : lv_has ls 3 [(0, .ref a0_0), (1, .int x1)] := hl
  obtain ⟨hx, hb, hr, hml, hown, hlocks, hts⟩ := id C
  unfold fX8_leafOf at hv
  refine lv_iconst (v := 0) hx hb dX8_leafOf_0 (by decide) ?_
  refine lv_istore_n (lv' := [(2, .int (0:Int32)), (0, .ref a0_0), (1, .int x1)]) hx hb dX8_leafOf_1 rfl hl (by decide) rfl (fun ls hl => ?_)
  exact wfX8_leafOf_L2 C hP hK hZ  6000 (0:Int32) hv _ (lv_sub hl [1, 2, 0] rfl)

set_option maxRecDepth 100000 in
set_option maxHeartbeats 4000000 in
theorem kX8_isThere (l : Launch) (D : va_G) (E : Nat → ClassId) (a0_0 : Nat) {f0 : FA} {x1 : Int32} {v : Int32} (hv : fX8_isThere f0 x1 = some v) : PU l yX8_isThere wsX8_isThere (rmN 5 111) D E zNo ([aI E a0_0 116 f0]) [.ref a0_0, .int x1] v := by
  refine PU.of (by decide) rfl (Nat.le_of_ble_eq_true rfl) ?_
  intro p e s m below meth c C hP hK hZ ls hl
  have hl : lv_has ls 2 [(0, .ref a0_0), (1, .int x1)] := hl
  obtain ⟨hx, hb, hr, hml, hown, hlocks, hts⟩ := id C
  unfold fX8_isThere at hv
  refine lv_aload_n hx hb dX8_isThere_0 rfl (lv_at hl 0 rfl) ?_
  refine lv_iload_n hx hb dX8_isThere_1 rfl (lv_at hl 1 rfl) ?_
  obtain ⟨r_1, hr_1, hv⟩ := qB hv
  refine q_S (As := [.int x1]) (rest := [.ref a0_0]) hx hb hml hown hts hl.1 (kX8_firstOf l D E  hr_1) zNo_mv (va_cwS 1 hts gX8_isThere_X8_firstOf rfl rfl rfl (by decide +kernel) ⟨Nat.le_of_ble_eq_true rfl, Nat.le_of_ble_eq_true rfl⟩) (hP.sub (ws' := []) [] rfl) hK hZ rfl rfl (Nat.le_of_ble_eq_true rfl) dX8_isThere_2 ⟨Nat.zero_le _, Nat.zero_le _⟩ ?_
  obtain ⟨r_2, hr_2, hv⟩ := qB hv
  refine q_S (As := [.ref a0_0, .int r_1]) (rest := []) hx hb hml hown hts hl.1 (kX8_leafOf l D E a0_0 hr_2) zNo_mv (va_cwS 2 hts gX8_isThere_X8_leafOf rfl rfl rfl (by decide +kernel) ⟨Nat.le_of_ble_eq_true rfl, Nat.le_of_ble_eq_true rfl⟩) (hP.sub (ws' := [aI E a0_0 116 f0]) [0] rfl) hK hZ rfl rfl (Nat.le_of_ble_eq_true rfl) dX8_isThere_5 ⟨Nat.zero_le _, Nat.zero_le _⟩ ?_
  obtain ⟨r_3, hr_3, hv⟩ := qB hv
  refine q_S (As := [.int r_2]) (rest := []) hx hb hml hown hts hl.1 (kX8_depthOf l D E  hr_3) zNo_mv (va_cwS 1 hts gX8_isThere_X8_depthOf rfl rfl rfl (by decide +kernel) ⟨Nat.le_of_ble_eq_true rfl, Nat.le_of_ble_eq_true rfl⟩) (hP.sub (ws' := []) [] rfl) hK hZ rfl rfl (Nat.le_of_ble_eq_true rfl) dX8_isThere_8 ⟨Nat.zero_le _, Nat.zero_le _⟩ ?_
  refine lv_iload_n hx hb dX8_isThere_11 rfl (lv_at hl 1 rfl) ?_
  obtain ⟨r_4, hr_4, hv⟩ := qB hv
  refine q_S (As := [.int x1]) (rest := [.int r_3]) hx hb hml hown hts hl.1 (kX8_depthOf l D E  hr_4) zNo_mv (va_cwS 1 hts gX8_isThere_X8_depthOf rfl rfl rfl (by decide +kernel) ⟨Nat.le_of_ble_eq_true rfl, Nat.le_of_ble_eq_true rfl⟩) (hP.sub (ws' := []) [] rfl) hK hZ rfl rfl (Nat.le_of_ble_eq_true rfl) dX8_isThere_12 ⟨Nat.zero_le _, Nat.zero_le _⟩ ?_
  refine lv_icmp_lt (tgt := 22) hx hb dX8_isThere_15 (by decide) (fun c_15_k_5 => ?_) (fun c_15_k_5 => ?_)
  · have hv := qT c_15_k_5 hv
    refine lv_iconst (v := 0) hx hb dX8_isThere_22 (by decide) ?_
    exact q_retz C dX8_isThere_23 hv
  · have hv := qF c_15_k_5 hv
    refine lv_iconst (v := 1) hx hb dX8_isThere_18 (by decide) ?_
    refine lv_goto (tgt := 23) hx hb dX8_isThere_19 (by decide) ?_
    exact q_retz C dX8_isThere_23 hv

set_option maxRecDepth 100000 in
set_option maxHeartbeats 4000000 in
theorem kX8_pathsIn (l : Launch) (D : va_G) (E : Nat → ClassId)  {x0 : Int32} {v : Int32} (hv : fX8_pathsIn x0 = some v) : PU l yX8_pathsIn wsX8_pathsIn (rmN 1 21) D E zNo ([]) [.int x0] v := by
  refine PU.of (by decide) rfl (Nat.le_of_ble_eq_true rfl) ?_
  intro p e s m below meth c C hP hK hZ ls hl
  have hl : lv_has ls 1 [(0, .int x0)] := hl
  obtain ⟨hx, hb, hr, hml, hown, hlocks, hts⟩ := id C
  unfold fX8_pathsIn at hv
  refine lv_sipush (v := 4096) hx hb dX8_pathsIn_0 (by decide) ?_
  refine lv_iconst (v := 2) hx hb dX8_pathsIn_3 (by decide) ?_
  refine lv_iload_n hx hb dX8_pathsIn_4 rfl (lv_at hl 0 rfl) ?_
  obtain ⟨r_1, hr_1, hv⟩ := qB hv
  refine q_S (As := [.int x0]) (rest := [.int (2:Int32), .int (4096:Int32)]) hx hb hml hown hts hl.1 (kX8_depthOf l D E  hr_1) zNo_mv (va_cwS 1 hts gX8_pathsIn_X8_depthOf rfl rfl rfl (by decide +kernel) ⟨Nat.le_of_ble_eq_true rfl, Nat.le_of_ble_eq_true rfl⟩) (hP.sub (ws' := []) [] rfl) hK hZ rfl rfl (Nat.le_of_ble_eq_true rfl) dX8_pathsIn_5 ⟨Nat.zero_le _, Nat.zero_le _⟩ ?_
  refine lv_imul hx hb dX8_pathsIn_8 ?_
  refine lv_ishr hx hb dX8_pathsIn_9 ?_
  exact q_ret C dX8_pathsIn_10 hv

set_option maxRecDepth 100000 in
set_option maxHeartbeats 4000000 in
theorem wfX8_leaves_L5 {p : Program} {e : Env} {s : State} {m : MethodId} {below : List Frame} {meth : Method} {c : Code} {l : Launch} {D : va_G} {E : Nat → ClassId} {a0_0 : Nat} {f0 : FA} {x1 : Int32} {x2 : Int32} {v : Int32} {y2 : Int32} (C : Ctx p s m meth c [.ref a0_0, .int x1, .int x2] wsX8_leaves cX8_leaves 5 (some .int) RX8) (hP : va_P D vwCl ([aI E a0_0 116 f0]) s.heap) (hK : va_K D vwCl (tyE E) s) (hZ : zNo s s.heap) : ∀ (q : Nat) (y3 : Int32) (y4 : Int32), fX8_leaves_L5 f0 y2 q y3 y4 = some v → ∀ ls, lv_has ls 5 [(0, .ref a0_0), (2, .int y2), (3, .int y3), (4, .int y4)] → WP p l e (rmN 5 111) s m [.ref a0_0, .int x1, .int x2] below meth c v 5 ls [] := by
  obtain ⟨hx, hb, hr, hml, hown, hlocks, hts⟩ := id C
  intro q
  induction q with
  | zero =>
    intro y3 y4 hv
    cases hv
  | succ q ih =>
    intro y3 y4 hv ls hl
    rw [fX8_leaves_L5.eq_2] at hv
    refine lv_iload hx hb dX8_leaves_5 (lv_at hl 3 rfl) ?_
    refine lv_iload_n hx hb dX8_leaves_7 rfl (lv_at hl 1 rfl) ?_
    refine lv_icmp_ge (tgt := 31) hx hb dX8_leaves_8 (by decide) (fun c_8_k_1 => ?_) (fun c_8_k_1 => ?_)
    · have hv := qT c_8_k_1 hv
      refine lv_iload_n hx hb dX8_leaves_31 rfl (lv_at hl 2 rfl) ?_
      exact q_ret C dX8_leaves_32 hv
    · have hv := qF c_8_k_1 hv
      refine lv_iload hx hb dX8_leaves_11 (lv_at hl 3 rfl) ?_
      refine lv_aload_n hx hb dX8_leaves_13 rfl (lv_at hl 0 rfl) ?_
      refine lv_iload hx hb dX8_leaves_14 (lv_at hl 3 rfl) ?_
      obtain ⟨r_2, hr_2, hv⟩ := qB hv
      refine q_S (As := [.ref a0_0, .int y4]) (rest := [.int y4]) hx hb hml hown hts hl.1 (kX8_leafOf l D E a0_0 hr_2) zNo_mv (va_cwS 2 hts gX8_leaves_X8_leafOf rfl rfl rfl (by decide +kernel) ⟨Nat.le_of_ble_eq_true rfl, Nat.le_of_ble_eq_true rfl⟩) (hP.sub (ws' := [aI E a0_0 116 f0]) [0] rfl) hK hZ rfl rfl (Nat.le_of_ble_eq_true rfl) dX8_leaves_16 ⟨Nat.zero_le _, Nat.zero_le _⟩ ?_
      obtain ⟨r_3, hr_3, hv⟩ := qB hv
      refine q_S (As := [.int r_2]) (rest := [.int y4]) hx hb hml hown hts hl.1 (kX8_pathsIn l D E  hr_3) zNo_mv (va_cwS 1 hts gX8_leaves_X8_pathsIn rfl rfl rfl (by decide +kernel) ⟨Nat.le_of_ble_eq_true rfl, Nat.le_of_ble_eq_true rfl⟩) (hP.sub (ws' := []) [] rfl) hK hZ rfl rfl (Nat.le_of_ble_eq_true rfl) dX8_leaves_19 ⟨Nat.zero_le _, Nat.zero_le _⟩ ?_
      refine lv_iadd hx hb dX8_leaves_22 ?_
      refine lv_istore (lv' := [(4, .int (y4 + r_3)), (0, .ref a0_0), (2, .int y2), (3, .int y3)]) hx hb dX8_leaves_23 hl (by decide) rfl (fun ls hl => ?_)
      refine lv_iinc (v := (y3 + 1)) (lv' := [(3, .int (y3 + 1)), (4, .int (y4 + r_3)), (0, .ref a0_0), (2, .int y2)]) hx hb dX8_leaves_25 hl (k := 3) rfl (by rfl) (by decide) rfl (fun ls hl => ?_)
      refine lv_goto (tgt := 5) hx hb dX8_leaves_28 (by decide) ?_
      exact ih (y3 + 1) (y4 + r_3) hv _ (lv_sub hl [2, 3, 0, 1] rfl)

set_option maxRecDepth 100000 in
set_option maxHeartbeats 4000000 in
theorem kX8_leaves (l : Launch) (D : va_G) (E : Nat → ClassId) (a0_0 : Nat) {f0 : FA} {x1 : Int32} {x2 : Int32} {v : Int32} (hv : fX8_leaves f0 x1 x2 = some v) : PU l yX8_leaves wsX8_leaves (rmN 5 111) D E zNo ([aI E a0_0 116 f0]) [.ref a0_0, .int x1, .int x2] v := by
  refine PU.of (by decide) rfl (Nat.le_of_ble_eq_true rfl) ?_
  intro p e s m below meth c C hP hK hZ ls hl
  have hl : lv_has ls 5 [(0, .ref a0_0), (1, .int x1), (2, .int x2)] := hl
  obtain ⟨hx, hb, hr, hml, hown, hlocks, hts⟩ := id C
  unfold fX8_leaves at hv
  refine lv_iconst (v := 0) hx hb dX8_leaves_0 (by decide) ?_
  refine lv_istore_n (lv' := [(3, .int (0:Int32)), (0, .ref a0_0), (1, .int x1), (2, .int x2)]) hx hb dX8_leaves_1 rfl hl (by decide) rfl (fun ls hl => ?_)
  refine lv_iload_n hx hb dX8_leaves_2 rfl (lv_at hl 2 rfl) ?_
  refine lv_istore (lv' := [(4, .int x1), (3, .int (0:Int32)), (0, .ref a0_0), (1, .int x1), (2, .int x2)]) hx hb dX8_leaves_3 hl (by decide) rfl (fun ls hl => ?_)
  exact wfX8_leaves_L5 C hP hK hZ  6000 (0:Int32) x1 hv _ (lv_sub hl [2, 4, 1, 0] rfl)

set_option maxRecDepth 100000 in
set_option maxHeartbeats 4000000 in
theorem kX8_allLeaves (l : Launch) (D : va_G) (E : Nat → ClassId) (a0_0 : Nat) {f0 : FA} {v : Int32} (hv : fX8_allLeaves f0 = some v) : PU l yX8_allLeaves wsX8_allLeaves (rmN 6 135) D E zNo ([aI E a0_0 116 f0]) [.ref a0_0] v := by
  refine PU.of (by decide) rfl (Nat.le_of_ble_eq_true rfl) ?_
  intro p e s m below meth c C hP hK hZ ls hl
  have hl : lv_has ls 1 [(0, .ref a0_0)] := hl
  obtain ⟨hx, hb, hr, hml, hown, hlocks, hts⟩ := id C
  unfold fX8_allLeaves at hv
  refine lv_aload_n hx hb dX8_allLeaves_0 rfl (lv_at hl 0 rfl) ?_
  refine lv_iconst (v := 0) hx hb dX8_allLeaves_1 (by decide) ?_
  refine lv_sipush (v := 4096) hx hb dX8_allLeaves_2 (by decide) ?_
  obtain ⟨r_1, hr_1, hv⟩ := qB hv
  refine q_S (As := [.ref a0_0, .int (0:Int32), .int (4096:Int32)]) (rest := []) hx hb hml hown hts hl.1 (kX8_leaves l D E a0_0 hr_1) zNo_mv (va_cwS 3 hts gX8_allLeaves_X8_leaves rfl rfl rfl (by decide +kernel) ⟨Nat.le_of_ble_eq_true rfl, Nat.le_of_ble_eq_true rfl⟩) (hP.sub (ws' := [aI E a0_0 116 f0]) [0] rfl) hK hZ rfl rfl (Nat.le_of_ble_eq_true rfl) dX8_allLeaves_5 ⟨Nat.zero_le _, Nat.zero_le _⟩ ?_
  exact q_ret C dX8_allLeaves_8 hv

theorem lkX8_isPoint_7 : (.fieldLink RX8 7 "QuarterTilesModel" "now" "[I" : Cond) ∈ wsX8_isPoint := by decide +kernel
theorem hiX8_isPoint_X8 : ∀ w ∈ wsX80, w ∈ wsX8_isPoint := by decide +kernel
set_option maxRecDepth 100000 in
set_option maxHeartbeats 4000000 in
theorem kX8_isPoint (l : Launch) (D : va_G) (E : Nat → ClassId) (a0 : Nat → Nat) {M0 : FS} {x1 : Int32} {v : Int32} (hv : fX8_isPoint M0 x1 = some v) : PU l yX8_isPoint wsX8_isPoint (rmN 1 22) D E zNo ((wMod E a0 M0)) [.ref (a0 0), .int x1] v := by
  refine PU.of (by decide) rfl (Nat.le_of_ble_eq_true rfl) ?_
  intro p e s m below meth c C hP hK hZ ls hl
  have hl : lv_has ls 2 [(0, .ref (a0 0)), (1, .int x1)] := hl
  obtain ⟨hx, hb, hr, hml, hown, hlocks, hts⟩ := id C
  unfold fX8_isPoint at hv
  refine lv_iload_n hx hb dX8_isPoint_0 rfl (lv_at hl 1 rfl) ?_
  refine lv_iconst (v := 0) hx hb dX8_isPoint_1 (by decide) ?_
  refine lv_aload_n hx hb dX8_isPoint_2 rfl (lv_at hl 0 rfl) ?_
  refine va_get (D := D) (ci := 7) (v := .ref (a0 1)) (C := RX8) (T := TX8) (N := 14) hx hb hts hiX8_isPoint_X8 hown hK hP 0 rfl rfl 0 (by decide) (hts _ lkX8_isPoint_7) (fun _ h9 => h9) rfl dX8_isPoint_3 ?_
  refine lv_iconst (v := 0) hx hb dX8_isPoint_6 (by decide) ?_
  refine q_ildc (f := (M0 0)) hx hb hK hP 1 0 rfl rfl 0 (by decide) (by unfold vp_in; decide) dX8_isPoint_7 ?_
  refine lv_iconst (v := 1) hx hb dX8_isPoint_8 (by decide) ?_
  refine lv_isub hx hb dX8_isPoint_9 ?_
  obtain ⟨r_1, hr_1, hv⟩ := qB hv
  refine q_S (As := [.int x1, .int (0:Int32), .int (((M0 0) 0) - (1:Int32))]) (rest := []) hx hb hml hown hts hl.1 (kX8_in l D E  hr_1) zNo_mv (va_cwS 3 hts gX8_isPoint_X8_in rfl rfl rfl (by decide +kernel) ⟨Nat.le_of_ble_eq_true rfl, Nat.le_of_ble_eq_true rfl⟩) (hP.sub (ws' := []) [] rfl) hK hZ rfl rfl (Nat.le_of_ble_eq_true rfl) dX8_isPoint_10 ⟨Nat.zero_le _, Nat.zero_le _⟩ ?_
  exact q_retz C dX8_isPoint_13 hv

set_option maxRecDepth 100000 in
set_option maxHeartbeats 4000000 in
theorem wfX8_pointAt_L6 {p : Program} {e : Env} {s : State} {m : MethodId} {below : List Frame} {meth : Method} {c : Code} {l : Launch} {D : va_G} {E : Nat → ClassId} {a0_0 : Nat} {f0 : FA} {x1 : Int32} {x2 : Int32} {v : Int32} {y1 : Int32} {y2 : Int32} (C : Ctx p s m meth c [.ref a0_0, .int x1, .int x2] wsX8_pointAt cX8_pointAt 5 (some .int) RX8) (hP : va_P D vwCl ([aI E a0_0 116 f0]) s.heap) (hK : va_K D vwCl (tyE E) s) (hZ : zNo s s.heap) : ∀ (q : Nat) (y3 : Int32) (y4 : Int32), fX8_pointAt_L6 f0 y1 y2 q y3 y4 = some v → ∀ ls, lv_has ls 5 [(0, .ref a0_0), (1, .int y1), (2, .int y2), (3, .int y3), (4, .int y4)] → WP p l e (rmN 0 0) s m [.ref a0_0, .int x1, .int x2] below meth c v 6 ls [] := by
  obtain ⟨hx, hb, hr, hml, hown, hlocks, hts⟩ := id C
  intro q
  induction q with
  | zero =>
    intro y3 y4 hv
    cases hv
  | succ q ih =>
    intro y3 y4 hv ls hl
    rw [fX8_pointAt_L6.eq_2] at hv
    refine lv_iload hx hb dX8_pointAt_6 (lv_at hl 4 rfl) ?_
    refine lv_aload_n hx hb dX8_pointAt_8 rfl (lv_at hl 0 rfl) ?_
    refine lv_iconst (v := 0) hx hb dX8_pointAt_9 (by decide) ?_
    refine q_ildc (f := f0) hx hb hK hP 0 0 rfl rfl 0 (by decide) (by unfold vp_in; decide) dX8_pointAt_10 ?_
    refine lv_icmp_ge (tgt := 53) hx hb dX8_pointAt_11 (by decide) (fun c_11_k_1 => ?_) (fun c_11_k_1 => ?_)
    · have hv := qT c_11_k_1 hv
      refine lv_iload_n hx hb dX8_pointAt_53 rfl (lv_at hl 3 rfl) ?_
      exact q_ret C dX8_pointAt_54 hv
    · have hv := qF c_11_k_1 hv
      refine lv_aload_n hx hb dX8_pointAt_14 rfl (lv_at hl 0 rfl) ?_
      refine lv_iconst (v := 4) hx hb dX8_pointAt_15 (by decide) ?_
      refine lv_iconst (v := 2) hx hb dX8_pointAt_16 (by decide) ?_
      refine lv_iload hx hb dX8_pointAt_17 (lv_at hl 4 rfl) ?_
      refine lv_imul hx hb dX8_pointAt_19 ?_
      refine lv_iadd hx hb dX8_pointAt_20 ?_
      obtain ⟨x_2, hx_2, hv⟩ := qB hv
      refine q_ild hx hb hK hP 0 0 rfl rfl hx_2 dX8_pointAt_21 ?_
      refine lv_iload_n hx hb dX8_pointAt_22 rfl (lv_at hl 1 rfl) ?_
      refine lv_icmp_ne (tgt := 45) hx hb dX8_pointAt_23 (by decide) (fun c_23_k_3 => ?_) (fun c_23_k_3 => ?_)
      · have hv := qF c_23_k_3 hv
        refine lv_iload_n hx hb dX8_pointAt_45 rfl (lv_at hl 3 rfl) ?_
        refine lv_istore_n (lv' := [(3, .int y3), (0, .ref a0_0), (1, .int y1), (2, .int y2), (4, .int y4)]) hx hb dX8_pointAt_46 rfl hl (by decide) rfl (fun ls hl => ?_)
        refine lv_iinc (v := (y4 + 1)) (lv' := [(4, .int (y4 + 1)), (3, .int y3), (0, .ref a0_0), (1, .int y1), (2, .int y2)]) hx hb dX8_pointAt_47 hl (k := 4) rfl (by rfl) (by decide) rfl (fun ls hl => ?_)
        refine lv_goto (tgt := 6) hx hb dX8_pointAt_50 (by decide) ?_
        exact ih y3 (y4 + 1) hv _ (lv_sub hl [2, 3, 4, 1, 0] rfl)
      · have hv := qT c_23_k_3 hv
        refine lv_aload_n hx hb dX8_pointAt_26 rfl (lv_at hl 0 rfl) ?_
        refine lv_iconst (v := 4) hx hb dX8_pointAt_27 (by decide) ?_
        refine lv_iconst (v := 2) hx hb dX8_pointAt_28 (by decide) ?_
        refine lv_iload hx hb dX8_pointAt_29 (lv_at hl 4 rfl) ?_
        refine lv_imul hx hb dX8_pointAt_31 ?_
        refine lv_iadd hx hb dX8_pointAt_32 ?_
        refine lv_iconst (v := 1) hx hb dX8_pointAt_33 (by decide) ?_
        refine lv_iadd hx hb dX8_pointAt_34 ?_
        obtain ⟨x_4, hx_4, hv⟩ := qB hv
        refine q_ild hx hb hK hP 0 0 rfl rfl hx_4 dX8_pointAt_35 ?_
        refine lv_iload_n hx hb dX8_pointAt_36 rfl (lv_at hl 2 rfl) ?_
        refine lv_icmp_ne (tgt := 45) hx hb dX8_pointAt_37 (by decide) (fun c_37_k_5 => ?_) (fun c_37_k_5 => ?_)
        · have hv := qF c_37_k_5 hv
          refine lv_iload_n hx hb dX8_pointAt_45 rfl (lv_at hl 3 rfl) ?_
          refine lv_istore_n (lv' := [(3, .int y3), (0, .ref a0_0), (1, .int y1), (2, .int y2), (4, .int y4)]) hx hb dX8_pointAt_46 rfl hl (by decide) rfl (fun ls hl => ?_)
          refine lv_iinc (v := (y4 + 1)) (lv' := [(4, .int (y4 + 1)), (3, .int y3), (0, .ref a0_0), (1, .int y1), (2, .int y2)]) hx hb dX8_pointAt_47 hl (k := 4) rfl (by rfl) (by decide) rfl (fun ls hl => ?_)
          refine lv_goto (tgt := 6) hx hb dX8_pointAt_50 (by decide) ?_
          exact ih y3 (y4 + 1) hv _ (lv_sub hl [2, 3, 4, 1, 0] rfl)
        · have hv := qT c_37_k_5 hv
          refine lv_iload hx hb dX8_pointAt_40 (lv_at hl 4 rfl) ?_
          refine lv_goto (tgt := 46) hx hb dX8_pointAt_42 (by decide) ?_
          refine lv_istore_n (lv' := [(3, .int y4), (0, .ref a0_0), (1, .int y1), (2, .int y2), (4, .int y4)]) hx hb dX8_pointAt_46 rfl hl (by decide) rfl (fun ls hl => ?_)
          refine lv_iinc (v := (y4 + 1)) (lv' := [(4, .int (y4 + 1)), (3, .int y4), (0, .ref a0_0), (1, .int y1), (2, .int y2)]) hx hb dX8_pointAt_47 hl (k := 4) rfl (by rfl) (by decide) rfl (fun ls hl => ?_)
          refine lv_goto (tgt := 6) hx hb dX8_pointAt_50 (by decide) ?_
          exact ih y4 (y4 + 1) hv _ (lv_sub hl [2, 3, 4, 1, 0] rfl)

set_option maxRecDepth 100000 in
set_option maxHeartbeats 4000000 in
theorem kX8_pointAt (l : Launch) (D : va_G) (E : Nat → ClassId) (a0_0 : Nat) {f0 : FA} {x1 : Int32} {x2 : Int32} {v : Int32} (hv : fX8_pointAt f0 x1 x2 = some v) : PU l yX8_pointAt wsX8_pointAt (rmN 0 0) D E zNo ([aI E a0_0 116 f0]) [.ref a0_0, .int x1, .int x2] v := by
  refine PU.of (by decide) rfl (Nat.le_of_ble_eq_true rfl) ?_
  intro p e s m below meth c C hP hK hZ ls hl
  have hl : lv_has ls 5 [(0, .ref a0_0), (1, .int x1), (2, .int x2)] := hl
  obtain ⟨hx, hb, hr, hml, hown, hlocks, hts⟩ := id C
  unfold fX8_pointAt at hv
  refine lv_bipush (v := -6) hx hb dX8_pointAt_0 (by decide) ?_
  refine lv_istore_n (lv' := [(3, .int (-6:Int32)), (0, .ref a0_0), (1, .int x1), (2, .int x2)]) hx hb dX8_pointAt_2 rfl hl (by decide) rfl (fun ls hl => ?_)
  refine lv_iconst (v := 0) hx hb dX8_pointAt_3 (by decide) ?_
  refine lv_istore (lv' := [(4, .int (0:Int32)), (3, .int (-6:Int32)), (0, .ref a0_0), (1, .int x1), (2, .int x2)]) hx hb dX8_pointAt_4 hl (by decide) rfl (fun ls hl => ?_)
  exact wfX8_pointAt_L6 C hP hK hZ  6000 (-6:Int32) (0:Int32) hv _ (lv_sub hl [2, 3, 4, 1, 0] rfl)

theorem lkX8_pointError_7 : (.fieldLink RX8 7 "QuarterTilesModel" "now" "[I" : Cond) ∈ wsX8_pointError := by decide +kernel
theorem hiX8_pointError_X8 : ∀ w ∈ wsX80, w ∈ wsX8_pointError := by decide +kernel
set_option maxRecDepth 100000 in
set_option maxHeartbeats 4000000 in
theorem kX8_pointError (l : Launch) (D : va_G) (E : Nat → ClassId) (a0 : Nat → Nat) {M0 : FS} {x1 : Int32} {x2 : Int32} {v : Int32} (hv : fX8_pointError M0 x1 x2 = some v) : PU l yX8_pointError wsX8_pointError (rmN 2 43) D E zNo ((wMod E a0 M0)) [.ref (a0 0), .int x1, .int x2] v := by
  refine PU.of (by decide) rfl (Nat.le_of_ble_eq_true rfl) ?_
  intro p e s m below meth c C hP hK hZ ls hl
  have hl : lv_has ls 3 [(0, .ref (a0 0)), (1, .int x1), (2, .int x2)] := hl
  obtain ⟨hx, hb, hr, hml, hown, hlocks, hts⟩ := id C
  unfold fX8_pointError at hv
  refine lv_iload_n hx hb dX8_pointError_0 rfl (lv_at hl 1 rfl) ?_
  refine lv_iload_n hx hb dX8_pointError_1 rfl (lv_at hl 2 rfl) ?_
  obtain ⟨r_1, hr_1, hv⟩ := qB hv
  refine q_S (As := [.int x1, .int x2]) (rest := []) hx hb hml hown hts hl.1 (kX8_isPlace l D E  hr_1) zNo_mv (va_cwS 2 hts gX8_pointError_X8_isPlace rfl rfl rfl (by decide +kernel) ⟨Nat.le_of_ble_eq_true rfl, Nat.le_of_ble_eq_true rfl⟩) (hP.sub (ws' := []) [] rfl) hK hZ rfl rfl (Nat.le_of_ble_eq_true rfl) dX8_pointError_2 ⟨Nat.zero_le _, Nat.zero_le _⟩ ?_
  refine lv_if_ne (tgt := 10) hx hb dX8_pointError_5 (by decide) (fun c_5_k_2 => ?_) (fun c_5_k_2 => ?_)
  · have hv := qF c_5_k_2 hv
    refine lv_aload_n hx hb dX8_pointError_10 rfl (lv_at hl 0 rfl) ?_
    refine va_get (D := D) (ci := 7) (v := .ref (a0 1)) (C := RX8) (T := TX8) (N := 14) hx hb hts hiX8_pointError_X8 hown hK hP 0 rfl rfl 0 (by decide) (hts _ lkX8_pointError_7) (fun _ h9 => h9) rfl dX8_pointError_11 ?_
    refine lv_iload_n hx hb dX8_pointError_14 rfl (lv_at hl 1 rfl) ?_
    refine lv_iload_n hx hb dX8_pointError_15 rfl (lv_at hl 2 rfl) ?_
    obtain ⟨r_3, hr_3, hv⟩ := qB hv
    refine q_S (As := [.ref (a0 1), .int x1, .int x2]) (rest := []) hx hb hml hown hts hl.1 (kX8_pointAt l D E (a0 1) hr_3) zNo_mv (va_cwS 3 hts gX8_pointError_X8_pointAt rfl rfl rfl (by decide +kernel) ⟨Nat.le_of_ble_eq_true rfl, Nat.le_of_ble_eq_true rfl⟩) (hP.sub (ws' := [aI E (a0 1) 116 (M0 0)]) [1] rfl) hK hZ rfl rfl (Nat.le_of_ble_eq_true rfl) dX8_pointError_16 ⟨Nat.zero_le _, Nat.zero_le _⟩ ?_
    refine lv_bipush (v := -6) hx hb dX8_pointError_19 (by decide) ?_
    refine lv_icmp_eq (tgt := 29) hx hb dX8_pointError_21 (by decide) (fun c_21_k_4 => ?_) (fun c_21_k_4 => ?_)
    · have hv := qT c_21_k_4 hv
      refine lv_aload_n hx hb dX8_pointError_29 rfl (lv_at hl 0 rfl) ?_
      refine va_get (D := D) (ci := 7) (v := .ref (a0 1)) (C := RX8) (T := TX8) (N := 14) hx hb hts hiX8_pointError_X8 hown hK hP 0 rfl rfl 0 (by decide) (hts _ lkX8_pointError_7) (fun _ h9 => h9) rfl dX8_pointError_30 ?_
      refine lv_iconst (v := 0) hx hb dX8_pointError_33 (by decide) ?_
      refine q_ildc (f := (M0 0)) hx hb hK hP 1 0 rfl rfl 0 (by decide) (by unfold vp_in; decide) dX8_pointError_34 ?_
      refine lv_bipush (v := 50) hx hb dX8_pointError_35 (by decide) ?_
      refine lv_icmp_ne (tgt := 45) hx hb dX8_pointError_37 (by decide) (fun c_37_k_5 => ?_) (fun c_37_k_5 => ?_)
      · have hv := qF c_37_k_5 hv
        refine lv_iconst (v := 0) hx hb dX8_pointError_45 (by decide) ?_
        exact q_ret C dX8_pointError_46 hv
      · have hv := qT c_37_k_5 hv
        refine lv_bipush (v := -4) hx hb dX8_pointError_40 (by decide) ?_
        refine lv_goto (tgt := 46) hx hb dX8_pointError_42 (by decide) ?_
        exact q_ret C dX8_pointError_46 hv
    · have hv := qF c_21_k_4 hv
      refine lv_bipush (v := -5) hx hb dX8_pointError_24 (by decide) ?_
      refine lv_goto (tgt := 46) hx hb dX8_pointError_26 (by decide) ?_
      exact q_ret C dX8_pointError_46 hv
  · have hv := qT c_5_k_2 hv
    refine lv_iconst (v := -1) hx hb dX8_pointError_8 (by decide) ?_
    exact q_ret C dX8_pointError_9 hv

theorem lkX8_rankOf_7 : (.fieldLink RX8 7 "QuarterTilesModel" "now" "[I" : Cond) ∈ wsX8_rankOf := by decide +kernel
theorem hiX8_rankOf_X8 : ∀ w ∈ wsX80, w ∈ wsX8_rankOf := by decide +kernel
set_option maxRecDepth 100000 in
set_option maxHeartbeats 4000000 in
theorem wfX8_rankOf_L4 {p : Program} {e : Env} {s : State} {m : MethodId} {below : List Frame} {meth : Method} {c : Code} {l : Launch} {D : va_G} {E : Nat → ClassId} {a0 : Nat → Nat} {M0 : FS} {x1 : Int32} {v : Int32} {y1 : Int32} (C : Ctx p s m meth c [.ref (a0 0), .int x1] wsX8_rankOf cX8_rankOf 4 (some .int) RX8) (hP : va_P D vwCl ((wMod E a0 M0)) s.heap) (hK : va_K D vwCl (tyE E) s) (hZ : zNo s s.heap) : ∀ (q : Nat) (y2 : Int32) (y3 : Int32), fX8_rankOf_L4 M0 y1 q y2 y3 = some v → ∀ ls, lv_has ls 4 [(0, .ref (a0 0)), (1, .int y1), (2, .int y2), (3, .int y3)] → WP p l e (rmN 2 44) s m [.ref (a0 0), .int x1] below meth c v 4 ls [] := by
  obtain ⟨hx, hb, hr, hml, hown, hlocks, hts⟩ := id C
  intro q
  induction q with
  | zero =>
    intro y2 y3 hv
    cases hv
  | succ q ih =>
    intro y2 y3 hv ls hl
    rw [fX8_rankOf_L4.eq_2] at hv
    refine lv_iload_n hx hb dX8_rankOf_4 rfl (lv_at hl 3 rfl) ?_
    refine lv_aload_n hx hb dX8_rankOf_5 rfl (lv_at hl 0 rfl) ?_
    refine va_get (D := D) (ci := 7) (v := .ref (a0 1)) (C := RX8) (T := TX8) (N := 14) hx hb hts hiX8_rankOf_X8 hown hK hP 0 rfl rfl 0 (by decide) (hts _ lkX8_rankOf_7) (fun _ h9 => h9) rfl dX8_rankOf_6 ?_
    refine lv_iconst (v := 0) hx hb dX8_rankOf_9 (by decide) ?_
    refine q_ildc (f := (M0 0)) hx hb hK hP 1 0 rfl rfl 0 (by decide) (by unfold vp_in; decide) dX8_rankOf_10 ?_
    refine lv_icmp_ge (tgt := 47) hx hb dX8_rankOf_11 (by decide) (fun c_11_k_1 => ?_) (fun c_11_k_1 => ?_)
    · have hv := qT c_11_k_1 hv
      refine lv_iload_n hx hb dX8_rankOf_47 rfl (lv_at hl 2 rfl) ?_
      exact q_ret C dX8_rankOf_48 hv
    · have hv := qF c_11_k_1 hv
      refine lv_iload_n hx hb dX8_rankOf_14 rfl (lv_at hl 2 rfl) ?_
      refine lv_aload_n hx hb dX8_rankOf_15 rfl (lv_at hl 0 rfl) ?_
      refine va_get (D := D) (ci := 7) (v := .ref (a0 1)) (C := RX8) (T := TX8) (N := 14) hx hb hts hiX8_rankOf_X8 hown hK hP 0 rfl rfl 0 (by decide) (hts _ lkX8_rankOf_7) (fun _ h9 => h9) rfl dX8_rankOf_16 ?_
      refine lv_iload_n hx hb dX8_rankOf_19 rfl (lv_at hl 3 rfl) ?_
      obtain ⟨r_2, hr_2, hv⟩ := qB hv
      refine q_S (As := [.ref (a0 1), .int y3]) (rest := [.int y2]) hx hb hml hown hts hl.1 (kX8_pathAt l D E (a0 1) hr_2) zNo_mv (va_cwS 2 hts gX8_rankOf_X8_pathAt rfl rfl rfl (by decide +kernel) ⟨Nat.le_of_ble_eq_true rfl, Nat.le_of_ble_eq_true rfl⟩) (hP.sub (ws' := [aI E (a0 1) 116 (M0 0)]) [1] rfl) hK hZ rfl rfl (Nat.le_of_ble_eq_true rfl) dX8_rankOf_20 ⟨Nat.zero_le _, Nat.zero_le _⟩ ?_
      refine lv_aload_n hx hb dX8_rankOf_23 rfl (lv_at hl 0 rfl) ?_
      refine va_get (D := D) (ci := 7) (v := .ref (a0 1)) (C := RX8) (T := TX8) (N := 14) hx hb hts hiX8_rankOf_X8 hown hK hP 0 rfl rfl 0 (by decide) (hts _ lkX8_rankOf_7) (fun _ h9 => h9) rfl dX8_rankOf_24 ?_
      refine lv_iload_n hx hb dX8_rankOf_27 rfl (lv_at hl 1 rfl) ?_
      obtain ⟨r_3, hr_3, hv⟩ := qB hv
      refine q_S (As := [.ref (a0 1), .int y1]) (rest := [.int r_2, .int y2]) hx hb hml hown hts hl.1 (kX8_pathAt l D E (a0 1) hr_3) zNo_mv (va_cwS 2 hts gX8_rankOf_X8_pathAt rfl rfl rfl (by decide +kernel) ⟨Nat.le_of_ble_eq_true rfl, Nat.le_of_ble_eq_true rfl⟩) (hP.sub (ws' := [aI E (a0 1) 116 (M0 0)]) [1] rfl) hK hZ rfl rfl (Nat.le_of_ble_eq_true rfl) dX8_rankOf_28 ⟨Nat.zero_le _, Nat.zero_le _⟩ ?_
      refine lv_icmp_ge (tgt := 38) hx hb dX8_rankOf_31 (by decide) (fun c_31_k_4 => ?_) (fun c_31_k_4 => ?_)
      · have hv := qT c_31_k_4 hv
        refine lv_iconst (v := 0) hx hb dX8_rankOf_38 (by decide) ?_
        refine lv_iadd hx hb dX8_rankOf_39 ?_
        refine lv_istore_n (lv' := [(2, .int (y2 + (0:Int32))), (0, .ref (a0 0)), (1, .int y1), (3, .int y3)]) hx hb dX8_rankOf_40 rfl hl (by decide) rfl (fun ls hl => ?_)
        refine lv_iinc (v := (y3 + 1)) (lv' := [(3, .int (y3 + 1)), (2, .int (y2 + (0:Int32))), (0, .ref (a0 0)), (1, .int y1)]) hx hb dX8_rankOf_41 hl (k := 3) rfl (by rfl) (by decide) rfl (fun ls hl => ?_)
        refine lv_goto (tgt := 4) hx hb dX8_rankOf_44 (by decide) ?_
        exact ih (y2 + (0:Int32)) (y3 + 1) hv _ (lv_sub hl [2, 3, 1, 0] rfl)
      · have hv := qF c_31_k_4 hv
        refine lv_iconst (v := 1) hx hb dX8_rankOf_34 (by decide) ?_
        refine lv_goto (tgt := 39) hx hb dX8_rankOf_35 (by decide) ?_
        refine lv_iadd hx hb dX8_rankOf_39 ?_
        refine lv_istore_n (lv' := [(2, .int (y2 + (1:Int32))), (0, .ref (a0 0)), (1, .int y1), (3, .int y3)]) hx hb dX8_rankOf_40 rfl hl (by decide) rfl (fun ls hl => ?_)
        refine lv_iinc (v := (y3 + 1)) (lv' := [(3, .int (y3 + 1)), (2, .int (y2 + (1:Int32))), (0, .ref (a0 0)), (1, .int y1)]) hx hb dX8_rankOf_41 hl (k := 3) rfl (by rfl) (by decide) rfl (fun ls hl => ?_)
        refine lv_goto (tgt := 4) hx hb dX8_rankOf_44 (by decide) ?_
        exact ih (y2 + (1:Int32)) (y3 + 1) hv _ (lv_sub hl [2, 3, 1, 0] rfl)

set_option maxRecDepth 100000 in
set_option maxHeartbeats 4000000 in
theorem kX8_rankOf (l : Launch) (D : va_G) (E : Nat → ClassId) (a0 : Nat → Nat) {M0 : FS} {x1 : Int32} {v : Int32} (hv : fX8_rankOf M0 x1 = some v) : PU l yX8_rankOf wsX8_rankOf (rmN 2 44) D E zNo ((wMod E a0 M0)) [.ref (a0 0), .int x1] v := by
  refine PU.of (by decide) rfl (Nat.le_of_ble_eq_true rfl) ?_
  intro p e s m below meth c C hP hK hZ ls hl
  have hl : lv_has ls 4 [(0, .ref (a0 0)), (1, .int x1)] := hl
  obtain ⟨hx, hb, hr, hml, hown, hlocks, hts⟩ := id C
  unfold fX8_rankOf at hv
  refine lv_iconst (v := 0) hx hb dX8_rankOf_0 (by decide) ?_
  refine lv_istore_n (lv' := [(2, .int (0:Int32)), (0, .ref (a0 0)), (1, .int x1)]) hx hb dX8_rankOf_1 rfl hl (by decide) rfl (fun ls hl => ?_)
  refine lv_iconst (v := 0) hx hb dX8_rankOf_2 (by decide) ?_
  refine lv_istore_n (lv' := [(3, .int (0:Int32)), (2, .int (0:Int32)), (0, .ref (a0 0)), (1, .int x1)]) hx hb dX8_rankOf_3 rfl hl (by decide) rfl (fun ls hl => ?_)
  exact wfX8_rankOf_L4 C hP hK hZ  6000 (0:Int32) (0:Int32) hv _ (lv_sub hl [2, 3, 1, 0] rfl)

theorem lkX8_of_7 : (.fieldLink RX8 7 "QuarterTilesModel" "now" "[I" : Cond) ∈ wsX8_of := by decide +kernel
theorem hiX8_of_X8 : ∀ w ∈ wsX80, w ∈ wsX8_of := by decide +kernel
set_option maxRecDepth 100000 in
set_option maxHeartbeats 4000000 in
theorem kX8_of (l : Launch) (D : va_G) (E : Nat → ClassId) (a0 : Nat → Nat) {M0 : FS} {x1 : Int32} {x2 : Int32} {v : Int32} (hv : fX8_of M0 x1 x2 = some v) : PU l yX8_of wsX8_of (rmN 5 111) D E zNo ((wMod E a0 M0)) [.ref (a0 0), .int x1, .int x2] v := by
  refine PU.of (by decide) rfl (Nat.le_of_ble_eq_true rfl) ?_
  intro p e s m below meth c C hP hK hZ ls hl
  have hl : lv_has ls 3 [(0, .ref (a0 0)), (1, .int x1), (2, .int x2)] := hl
  obtain ⟨hx, hb, hr, hml, hown, hlocks, hts⟩ := id C
  unfold fX8_of at hv
  refine lv_aload_n hx hb dX8_of_0 rfl (lv_at hl 0 rfl) ?_
  refine lv_iload_n hx hb dX8_of_1 rfl (lv_at hl 1 rfl) ?_
  obtain ⟨r_1, hr_1, hv⟩ := qB hv
  refine q_V (As := [.int x1]) (rest := []) (C := RX8) (T0 := TX8) (N0 := 14) (ci := 7) hx hb hml hown hts hl.1 (kX8_isPoint l D E a0 hr_1) zNo_mv (cwV 1 hts gX8_of_X8_isPoint rfl rfl rfl (by decide +kernel) ⟨Nat.le_of_ble_eq_true rfl, Nat.le_of_ble_eq_true rfl⟩) 0 rfl rfl (hP.sub (ws' := (wMod E a0 M0)) [0, 1, 2, 3, 4, 5, 6, 7, 8] rfl) hK hZ rfl rfl (Nat.le_of_ble_eq_true rfl) dX8_of_2 ⟨Nat.zero_le _, Nat.zero_le _⟩ ?_
  refine lv_if_ne (tgt := 10) hx hb dX8_of_5 (by decide) (fun c_5_k_2 => ?_) (fun c_5_k_2 => ?_)
  · have hv := qF c_5_k_2 hv
    refine lv_iload_n hx hb dX8_of_10 rfl (lv_at hl 2 rfl) ?_
    rcases (Decidable.em (x2 = 0)) with c_11_k_3 | c_11_k_3
    · have hv := qT c_11_k_3 hv
      refine lv_tableIn (tgt := 40) hx hb dX8_of_11 (by rw [c_11_k_3]; decide) (by rw [c_11_k_3]; decide) (by rw [c_11_k_3]; rfl) (by decide) ?_
      refine lv_aload_n hx hb dX8_of_40 rfl (lv_at hl 0 rfl) ?_
      refine va_get (D := D) (ci := 7) (v := .ref (a0 1)) (C := RX8) (T := TX8) (N := 14) hx hb hts hiX8_of_X8 hown hK hP 0 rfl rfl 0 (by decide) (hts _ lkX8_of_7) (fun _ h9 => h9) rfl dX8_of_41 ?_
      refine lv_iconst (v := 4) hx hb dX8_of_44 (by decide) ?_
      refine lv_iconst (v := 2) hx hb dX8_of_45 (by decide) ?_
      refine lv_iload_n hx hb dX8_of_46 rfl (lv_at hl 1 rfl) ?_
      refine lv_imul hx hb dX8_of_47 ?_
      refine lv_iadd hx hb dX8_of_48 ?_
      refine lv_iload_n hx hb dX8_of_49 rfl (lv_at hl 2 rfl) ?_
      refine lv_iadd hx hb dX8_of_50 ?_
      obtain ⟨x_4, hx_4, hv⟩ := qB hv
      refine q_ild hx hb hK hP 1 0 rfl rfl hx_4 dX8_of_51 ?_
      exact q_ret C dX8_of_52 hv
    have hv := qF c_11_k_3 hv
    rcases (Decidable.em (x2 = 1)) with c_11_k_5 | c_11_k_5
    · have hv := qT c_11_k_5 hv
      refine lv_tableIn (tgt := 40) hx hb dX8_of_11 (by rw [c_11_k_5]; decide) (by rw [c_11_k_5]; decide) (by rw [c_11_k_5]; rfl) (by decide) ?_
      refine lv_aload_n hx hb dX8_of_40 rfl (lv_at hl 0 rfl) ?_
      refine va_get (D := D) (ci := 7) (v := .ref (a0 1)) (C := RX8) (T := TX8) (N := 14) hx hb hts hiX8_of_X8 hown hK hP 0 rfl rfl 0 (by decide) (hts _ lkX8_of_7) (fun _ h9 => h9) rfl dX8_of_41 ?_
      refine lv_iconst (v := 4) hx hb dX8_of_44 (by decide) ?_
      refine lv_iconst (v := 2) hx hb dX8_of_45 (by decide) ?_
      refine lv_iload_n hx hb dX8_of_46 rfl (lv_at hl 1 rfl) ?_
      refine lv_imul hx hb dX8_of_47 ?_
      refine lv_iadd hx hb dX8_of_48 ?_
      refine lv_iload_n hx hb dX8_of_49 rfl (lv_at hl 2 rfl) ?_
      refine lv_iadd hx hb dX8_of_50 ?_
      obtain ⟨x_6, hx_6, hv⟩ := qB hv
      refine q_ild hx hb hK hP 1 0 rfl rfl hx_6 dX8_of_51 ?_
      exact q_ret C dX8_of_52 hv
    have hv := qF c_11_k_5 hv
    rcases (Decidable.em (x2 = 2)) with c_11_k_7 | c_11_k_7
    · have hv := qT c_11_k_7 hv
      refine lv_tableIn (tgt := 53) hx hb dX8_of_11 (by rw [c_11_k_7]; decide) (by rw [c_11_k_7]; decide) (by rw [c_11_k_7]; rfl) (by decide) ?_
      refine lv_aload_n hx hb dX8_of_53 rfl (lv_at hl 0 rfl) ?_
      refine va_get (D := D) (ci := 7) (v := .ref (a0 1)) (C := RX8) (T := TX8) (N := 14) hx hb hts hiX8_of_X8 hown hK hP 0 rfl rfl 0 (by decide) (hts _ lkX8_of_7) (fun _ h9 => h9) rfl dX8_of_54 ?_
      refine lv_aload_n hx hb dX8_of_57 rfl (lv_at hl 0 rfl) ?_
      refine va_get (D := D) (ci := 7) (v := .ref (a0 1)) (C := RX8) (T := TX8) (N := 14) hx hb hts hiX8_of_X8 hown hK hP 0 rfl rfl 0 (by decide) (hts _ lkX8_of_7) (fun _ h9 => h9) rfl dX8_of_58 ?_
      refine lv_iload_n hx hb dX8_of_61 rfl (lv_at hl 1 rfl) ?_
      obtain ⟨r_8, hr_8, hv⟩ := qB hv
      refine q_S (As := [.ref (a0 1), .int x1]) (rest := [.ref (a0 1)]) hx hb hml hown hts hl.1 (kX8_pathAt l D E (a0 1) hr_8) zNo_mv (va_cwS 2 hts gX8_of_X8_pathAt rfl rfl rfl (by decide +kernel) ⟨Nat.le_of_ble_eq_true rfl, Nat.le_of_ble_eq_true rfl⟩) (hP.sub (ws' := [aI E (a0 1) 116 (M0 0)]) [1] rfl) hK hZ rfl rfl (Nat.le_of_ble_eq_true rfl) dX8_of_62 ⟨Nat.zero_le _, Nat.zero_le _⟩ ?_
      obtain ⟨r_9, hr_9, hv⟩ := qB hv
      refine q_S (As := [.ref (a0 1), .int r_8]) (rest := []) hx hb hml hown hts hl.1 (kX8_leafOf l D E (a0 1) hr_9) zNo_mv (va_cwS 2 hts gX8_of_X8_leafOf rfl rfl rfl (by decide +kernel) ⟨Nat.le_of_ble_eq_true rfl, Nat.le_of_ble_eq_true rfl⟩) (hP.sub (ws' := [aI E (a0 1) 116 (M0 0)]) [1] rfl) hK hZ rfl rfl (Nat.le_of_ble_eq_true rfl) dX8_of_65 ⟨Nat.zero_le _, Nat.zero_le _⟩ ?_
      exact q_ret C dX8_of_68 hv
    have hv := qF c_11_k_7 hv
    rcases (Decidable.em (x2 = 3)) with c_11_k_10 | c_11_k_10
    · have hv := qT c_11_k_10 hv
      refine lv_tableIn (tgt := 69) hx hb dX8_of_11 (by rw [c_11_k_10]; decide) (by rw [c_11_k_10]; decide) (by rw [c_11_k_10]; rfl) (by decide) ?_
      refine lv_aload_n hx hb dX8_of_69 rfl (lv_at hl 0 rfl) ?_
      refine lv_iload_n hx hb dX8_of_70 rfl (lv_at hl 1 rfl) ?_
      obtain ⟨r_11, hr_11, hv⟩ := qB hv
      refine q_V (As := [.int x1]) (rest := []) (C := RX8) (T0 := TX8) (N0 := 14) (ci := 7) hx hb hml hown hts hl.1 (kX8_rankOf l D E a0 hr_11) zNo_mv (cwV 1 hts gX8_of_X8_rankOf rfl rfl rfl (by decide +kernel) ⟨Nat.le_of_ble_eq_true rfl, Nat.le_of_ble_eq_true rfl⟩) 0 rfl rfl (hP.sub (ws' := (wMod E a0 M0)) [0, 1, 2, 3, 4, 5, 6, 7, 8] rfl) hK hZ rfl rfl (Nat.le_of_ble_eq_true rfl) dX8_of_71 ⟨Nat.zero_le _, Nat.zero_le _⟩ ?_
      exact q_ret C dX8_of_74 hv
    have hv := qF c_11_k_10 hv
    refine lv_tableOut (tgt := 75) hx hb dX8_of_11 (q_tout (fun k h1 h2 hq => by
        rcases (show k = 0 ∨ k = 1 ∨ k = 2 ∨ k = 3 by omega) with rfl | rfl | rfl | rfl
        · exact c_11_k_3 hq
        · exact c_11_k_5 hq
        · exact c_11_k_7 hq
        · exact c_11_k_10 hq)) (by decide) ?_
    refine lv_bipush (v := -2) hx hb dX8_of_75 (by decide) ?_
    exact q_ret C dX8_of_77 hv
  · have hv := qT c_5_k_2 hv
    refine lv_iconst (v := -1) hx hb dX8_of_8 (by decide) ?_
    exact q_ret C dX8_of_9 hv

theorem lkX8_leafAt_7 : (.fieldLink RX8 7 "QuarterTilesModel" "now" "[I" : Cond) ∈ wsX8_leafAt := by decide +kernel
theorem hiX8_leafAt_X8 : ∀ w ∈ wsX80, w ∈ wsX8_leafAt := by decide +kernel
set_option maxRecDepth 100000 in
set_option maxHeartbeats 4000000 in
theorem kX8_leafAt (l : Launch) (D : va_G) (E : Nat → ClassId) (a0 : Nat → Nat) {M0 : FS} {x1 : Int32} {x2 : Int32} {v : Int32} (hv : fX8_leafAt M0 x1 x2 = some v) : PU l yX8_leafAt wsX8_leafAt (rmN 5 111) D E zNo ((wMod E a0 M0)) [.ref (a0 0), .int x1, .int x2] v := by
  refine PU.of (by decide) rfl (Nat.le_of_ble_eq_true rfl) ?_
  intro p e s m below meth c C hP hK hZ ls hl
  have hl : lv_has ls 3 [(0, .ref (a0 0)), (1, .int x1), (2, .int x2)] := hl
  obtain ⟨hx, hb, hr, hml, hown, hlocks, hts⟩ := id C
  unfold fX8_leafAt at hv
  refine lv_iload_n hx hb dX8_leafAt_0 rfl (lv_at hl 1 rfl) ?_
  refine lv_iload_n hx hb dX8_leafAt_1 rfl (lv_at hl 2 rfl) ?_
  obtain ⟨r_1, hr_1, hv⟩ := qB hv
  refine q_S (As := [.int x1, .int x2]) (rest := []) hx hb hml hown hts hl.1 (kX8_isPlace l D E  hr_1) zNo_mv (va_cwS 2 hts gX8_leafAt_X8_isPlace rfl rfl rfl (by decide +kernel) ⟨Nat.le_of_ble_eq_true rfl, Nat.le_of_ble_eq_true rfl⟩) (hP.sub (ws' := []) [] rfl) hK hZ rfl rfl (Nat.le_of_ble_eq_true rfl) dX8_leafAt_2 ⟨Nat.zero_le _, Nat.zero_le _⟩ ?_
  refine lv_if_eq (tgt := 23) hx hb dX8_leafAt_5 (by decide) (fun c_5_k_2 => ?_) (fun c_5_k_2 => ?_)
  · have hv := qT c_5_k_2 hv
    refine lv_iconst (v := -1) hx hb dX8_leafAt_23 (by decide) ?_
    exact q_ret C dX8_leafAt_24 hv
  · have hv := qF c_5_k_2 hv
    refine lv_aload_n hx hb dX8_leafAt_8 rfl (lv_at hl 0 rfl) ?_
    refine va_get (D := D) (ci := 7) (v := .ref (a0 1)) (C := RX8) (T := TX8) (N := 14) hx hb hts hiX8_leafAt_X8 hown hK hP 0 rfl rfl 0 (by decide) (hts _ lkX8_leafAt_7) (fun _ h9 => h9) rfl dX8_leafAt_9 ?_
    refine lv_iload_n hx hb dX8_leafAt_12 rfl (lv_at hl 1 rfl) ?_
    refine lv_iload_n hx hb dX8_leafAt_13 rfl (lv_at hl 2 rfl) ?_
    obtain ⟨r_3, hr_3, hv⟩ := qB hv
    refine q_S (As := [.int x1, .int x2]) (rest := [.ref (a0 1)]) hx hb hml hown hts hl.1 (kX8_pathOf l D E  hr_3) zNo_mv (va_cwS 2 hts gX8_leafAt_X8_pathOf rfl rfl rfl (by decide +kernel) ⟨Nat.le_of_ble_eq_true rfl, Nat.le_of_ble_eq_true rfl⟩) (hP.sub (ws' := []) [] rfl) hK hZ rfl rfl (Nat.le_of_ble_eq_true rfl) dX8_leafAt_14 ⟨Nat.zero_le _, Nat.zero_le _⟩ ?_
    obtain ⟨r_4, hr_4, hv⟩ := qB hv
    refine q_S (As := [.ref (a0 1), .int r_3]) (rest := []) hx hb hml hown hts hl.1 (kX8_leafOf l D E (a0 1) hr_4) zNo_mv (va_cwS 2 hts gX8_leafAt_X8_leafOf rfl rfl rfl (by decide +kernel) ⟨Nat.le_of_ble_eq_true rfl, Nat.le_of_ble_eq_true rfl⟩) (hP.sub (ws' := [aI E (a0 1) 116 (M0 0)]) [1] rfl) hK hZ rfl rfl (Nat.le_of_ble_eq_true rfl) dX8_leafAt_17 ⟨Nat.zero_le _, Nat.zero_le _⟩ ?_
    refine lv_goto (tgt := 24) hx hb dX8_leafAt_20 (by decide) ?_
    exact q_ret C dX8_leafAt_24 hv

theorem lkX8_whatIs_7 : (.fieldLink RX8 7 "QuarterTilesModel" "now" "[I" : Cond) ∈ wsX8_whatIs := by decide +kernel
theorem hiX8_whatIs_X8 : ∀ w ∈ wsX80, w ∈ wsX8_whatIs := by decide +kernel
set_option maxRecDepth 100000 in
set_option maxHeartbeats 4000000 in
theorem kX8_whatIs (l : Launch) (D : va_G) (E : Nat → ClassId) (a0 : Nat → Nat) {M0 : FS} {x1 : Int32} {v : Int32} (hv : fX8_whatIs M0 x1 = some v) : PU l yX8_whatIs wsX8_whatIs (rmN 6 132) D E zNo ((wMod E a0 M0)) [.ref (a0 0), .int x1] v := by
  refine PU.of (by decide) rfl (Nat.le_of_ble_eq_true rfl) ?_
  intro p e s m below meth c C hP hK hZ ls hl
  have hl : lv_has ls 2 [(0, .ref (a0 0)), (1, .int x1)] := hl
  obtain ⟨hx, hb, hr, hml, hown, hlocks, hts⟩ := id C
  unfold fX8_whatIs at hv
  refine lv_aload_n hx hb dX8_whatIs_0 rfl (lv_at hl 0 rfl) ?_
  refine va_get (D := D) (ci := 7) (v := .ref (a0 1)) (C := RX8) (T := TX8) (N := 14) hx hb hts hiX8_whatIs_X8 hown hK hP 0 rfl rfl 0 (by decide) (hts _ lkX8_whatIs_7) (fun _ h9 => h9) rfl dX8_whatIs_1 ?_
  refine lv_iload_n hx hb dX8_whatIs_4 rfl (lv_at hl 1 rfl) ?_
  obtain ⟨r_1, hr_1, hv⟩ := qB hv
  refine q_S (As := [.ref (a0 1), .int x1]) (rest := []) hx hb hml hown hts hl.1 (kX8_isThere l D E (a0 1) hr_1) zNo_mv (va_cwS 2 hts gX8_whatIs_X8_isThere rfl rfl rfl (by decide +kernel) ⟨Nat.le_of_ble_eq_true rfl, Nat.le_of_ble_eq_true rfl⟩) (hP.sub (ws' := [aI E (a0 1) 116 (M0 0)]) [1] rfl) hK hZ rfl rfl (Nat.le_of_ble_eq_true rfl) dX8_whatIs_5 ⟨Nat.zero_le _, Nat.zero_le _⟩ ?_
  refine lv_if_ne (tgt := 15) hx hb dX8_whatIs_8 (by decide) (fun c_8_k_2 => ?_) (fun c_8_k_2 => ?_)
  · have hv := qF c_8_k_2 hv
    refine lv_aload_n hx hb dX8_whatIs_15 rfl (lv_at hl 0 rfl) ?_
    refine va_get (D := D) (ci := 7) (v := .ref (a0 1)) (C := RX8) (T := TX8) (N := 14) hx hb hts hiX8_whatIs_X8 hown hK hP 0 rfl rfl 0 (by decide) (hts _ lkX8_whatIs_7) (fun _ h9 => h9) rfl dX8_whatIs_16 ?_
    refine lv_iload_n hx hb dX8_whatIs_19 rfl (lv_at hl 1 rfl) ?_
    obtain ⟨r_3, hr_3, hv⟩ := qB hv
    refine q_S (As := [.ref (a0 1), .int x1]) (rest := []) hx hb hml hown hts hl.1 (kX8_isSplit l D E (a0 1) hr_3) zNo_mv (va_cwS 2 hts gX8_whatIs_X8_isSplit rfl rfl rfl (by decide +kernel) ⟨Nat.le_of_ble_eq_true rfl, Nat.le_of_ble_eq_true rfl⟩) (hP.sub (ws' := [aI E (a0 1) 116 (M0 0)]) [1] rfl) hK hZ rfl rfl (Nat.le_of_ble_eq_true rfl) dX8_whatIs_20 ⟨Nat.zero_le _, Nat.zero_le _⟩ ?_
    refine lv_if_eq (tgt := 30) hx hb dX8_whatIs_23 (by decide) (fun c_23_k_4 => ?_) (fun c_23_k_4 => ?_)
    · have hv := qT c_23_k_4 hv
      refine lv_iconst (v := 1) hx hb dX8_whatIs_30 (by decide) ?_
      exact q_ret C dX8_whatIs_31 hv
    · have hv := qF c_23_k_4 hv
      refine lv_iconst (v := 2) hx hb dX8_whatIs_26 (by decide) ?_
      refine lv_goto (tgt := 31) hx hb dX8_whatIs_27 (by decide) ?_
      exact q_ret C dX8_whatIs_31 hv
  · have hv := qT c_8_k_2 hv
    refine lv_iconst (v := 0) hx hb dX8_whatIs_11 (by decide) ?_
    refine lv_goto (tgt := 31) hx hb dX8_whatIs_12 (by decide) ?_
    exact q_ret C dX8_whatIs_31 hv

theorem lkX8_leavesIn_7 : (.fieldLink RX8 7 "QuarterTilesModel" "now" "[I" : Cond) ∈ wsX8_leavesIn := by decide +kernel
theorem hiX8_leavesIn_X8 : ∀ w ∈ wsX80, w ∈ wsX8_leavesIn := by decide +kernel
set_option maxRecDepth 100000 in
set_option maxHeartbeats 4000000 in
theorem kX8_leavesIn (l : Launch) (D : va_G) (E : Nat → ClassId) (a0 : Nat → Nat) {M0 : FS} {x1 : Int32} {v : Int32} (hv : fX8_leavesIn M0 x1 = some v) : PU l yX8_leavesIn wsX8_leavesIn (rmN 6 135) D E zNo ((wMod E a0 M0)) [.ref (a0 0), .int x1] v := by
  refine PU.of (by decide) rfl (Nat.le_of_ble_eq_true rfl) ?_
  intro p e s m below meth c C hP hK hZ ls hl
  have hl : lv_has ls 3 [(0, .ref (a0 0)), (1, .int x1)] := hl
  obtain ⟨hx, hb, hr, hml, hown, hlocks, hts⟩ := id C
  unfold fX8_leavesIn at hv
  refine lv_iload_n hx hb dX8_leavesIn_0 rfl (lv_at hl 1 rfl) ?_
  obtain ⟨r_1, hr_1, hv⟩ := qB hv
  refine q_S (As := [.int x1]) (rest := []) hx hb hml hown hts hl.1 (kX8_firstOf l D E  hr_1) zNo_mv (va_cwS 1 hts gX8_leavesIn_X8_firstOf rfl rfl rfl (by decide +kernel) ⟨Nat.le_of_ble_eq_true rfl, Nat.le_of_ble_eq_true rfl⟩) (hP.sub (ws' := []) [] rfl) hK hZ rfl rfl (Nat.le_of_ble_eq_true rfl) dX8_leavesIn_1 ⟨Nat.zero_le _, Nat.zero_le _⟩ ?_
  refine lv_istore_n (lv' := [(2, .int r_1), (0, .ref (a0 0)), (1, .int x1)]) hx hb dX8_leavesIn_4 rfl hl (by decide) rfl (fun ls hl => ?_)
  refine lv_aload_n hx hb dX8_leavesIn_5 rfl (lv_at hl 1 rfl) ?_
  refine va_get (D := D) (ci := 7) (v := .ref (a0 1)) (C := RX8) (T := TX8) (N := 14) hx hb hts hiX8_leavesIn_X8 hown hK hP 0 rfl rfl 0 (by decide) (hts _ lkX8_leavesIn_7) (fun _ h9 => h9) rfl dX8_leavesIn_6 ?_
  refine lv_iload_n hx hb dX8_leavesIn_9 rfl (lv_at hl 2 rfl) ?_
  obtain ⟨r_2, hr_2, hv⟩ := qB hv
  refine q_S (As := [.ref (a0 1), .int x1]) (rest := []) hx hb hml hown hts hl.1 (kX8_isThere l D E (a0 1) hr_2) zNo_mv (va_cwS 2 hts gX8_leavesIn_X8_isThere rfl rfl rfl (by decide +kernel) ⟨Nat.le_of_ble_eq_true rfl, Nat.le_of_ble_eq_true rfl⟩) (hP.sub (ws' := [aI E (a0 1) 116 (M0 0)]) [1] rfl) hK hZ rfl rfl (Nat.le_of_ble_eq_true rfl) dX8_leavesIn_10 ⟨Nat.zero_le _, Nat.zero_le _⟩ ?_
  refine lv_if_eq (tgt := 33) hx hb dX8_leavesIn_13 (by decide) (fun c_13_k_3 => ?_) (fun c_13_k_3 => ?_)
  · have hv := qT c_13_k_3 hv
    refine lv_iconst (v := 0) hx hb dX8_leavesIn_33 (by decide) ?_
    exact q_ret C dX8_leavesIn_34 hv
  · have hv := qF c_13_k_3 hv
    refine lv_aload_n hx hb dX8_leavesIn_16 rfl (lv_at hl 1 rfl) ?_
    refine va_get (D := D) (ci := 7) (v := .ref (a0 1)) (C := RX8) (T := TX8) (N := 14) hx hb hts hiX8_leavesIn_X8 hown hK hP 0 rfl rfl 0 (by decide) (hts _ lkX8_leavesIn_7) (fun _ h9 => h9) rfl dX8_leavesIn_17 ?_
    refine lv_iload_n hx hb dX8_leavesIn_20 rfl (lv_at hl 0 rfl) ?_
    refine lv_iload_n hx hb dX8_leavesIn_21 rfl (lv_at hl 0 rfl) ?_
    refine lv_iload_n hx hb dX8_leavesIn_22 rfl (lv_at hl 2 rfl) ?_
    obtain ⟨r_4, hr_4, hv⟩ := qB hv
    refine q_S (As := [.int x1]) (rest := [.int r_1, .int r_1, .ref (a0 1)]) hx hb hml hown hts hl.1 (kX8_pathsIn l D E  hr_4) zNo_mv (va_cwS 1 hts gX8_leavesIn_X8_pathsIn rfl rfl rfl (by decide +kernel) ⟨Nat.le_of_ble_eq_true rfl, Nat.le_of_ble_eq_true rfl⟩) (hP.sub (ws' := []) [] rfl) hK hZ rfl rfl (Nat.le_of_ble_eq_true rfl) dX8_leavesIn_23 ⟨Nat.zero_le _, Nat.zero_le _⟩ ?_
    refine lv_iadd hx hb dX8_leavesIn_26 ?_
    obtain ⟨r_5, hr_5, hv⟩ := qB hv
    refine q_S (As := [.ref (a0 1), .int r_1, .int (r_1 + r_4)]) (rest := []) hx hb hml hown hts hl.1 (kX8_leaves l D E (a0 1) hr_5) zNo_mv (va_cwS 3 hts gX8_leavesIn_X8_leaves rfl rfl rfl (by decide +kernel) ⟨Nat.le_of_ble_eq_true rfl, Nat.le_of_ble_eq_true rfl⟩) (hP.sub (ws' := [aI E (a0 1) 116 (M0 0)]) [1] rfl) hK hZ rfl rfl (Nat.le_of_ble_eq_true rfl) dX8_leavesIn_27 ⟨Nat.zero_le _, Nat.zero_le _⟩ ?_
    refine lv_goto (tgt := 34) hx hb dX8_leavesIn_30 (by decide) ?_
    exact q_ret C dX8_leavesIn_34 hv

theorem lkX8_tile_7 : (.fieldLink RX8 7 "QuarterTilesModel" "now" "[I" : Cond) ∈ wsX8_tile := by decide +kernel
theorem hiX8_tile_X8 : ∀ w ∈ wsX80, w ∈ wsX8_tile := by decide +kernel
set_option maxRecDepth 100000 in
set_option maxHeartbeats 4000000 in
theorem kX8_tile (l : Launch) (D : va_G) (E : Nat → ClassId) (a0 : Nat → Nat) {M0 : FS} {x1 : Int32} {x2 : Int32} {v : Int32} (hv : fX8_tile M0 x1 x2 = some v) : PU l yX8_tile wsX8_tile (rmN 7 157) D E zNo ((wMod E a0 M0)) [.ref (a0 0), .int x1, .int x2] v := by
  refine PU.of (by decide) rfl (Nat.le_of_ble_eq_true rfl) ?_
  intro p e s m below meth c C hP hK hZ ls hl
  have hl : lv_has ls 3 [(0, .ref (a0 0)), (1, .int x1), (2, .int x2)] := hl
  obtain ⟨hx, hb, hr, hml, hown, hlocks, hts⟩ := id C
  unfold fX8_tile at hv
  refine lv_iload_n hx hb dX8_tile_0 rfl (lv_at hl 1 rfl) ?_
  obtain ⟨r_1, hr_1, hv⟩ := qB hv
  refine q_S (As := [.int x1]) (rest := []) hx hb hml hown hts hl.1 (kX8_isNumber l D E  hr_1) zNo_mv (va_cwS 1 hts gX8_tile_X8_isNumber rfl rfl rfl (by decide +kernel) ⟨Nat.le_of_ble_eq_true rfl, Nat.le_of_ble_eq_true rfl⟩) (hP.sub (ws' := []) [] rfl) hK hZ rfl rfl (Nat.le_of_ble_eq_true rfl) dX8_tile_1 ⟨Nat.zero_le _, Nat.zero_le _⟩ ?_
  refine lv_if_ne (tgt := 9) hx hb dX8_tile_4 (by decide) (fun c_4_k_2 => ?_) (fun c_4_k_2 => ?_)
  · have hv := qF c_4_k_2 hv
    refine lv_iload_n hx hb dX8_tile_9 rfl (lv_at hl 2 rfl) ?_
    rcases (Decidable.em (x2 = 0)) with c_10_k_3 | c_10_k_3
    · have hv := qT c_10_k_3 hv
      refine lv_tableIn (tgt := 56) hx hb dX8_tile_10 (by rw [c_10_k_3]; decide) (by rw [c_10_k_3]; decide) (by rw [c_10_k_3]; rfl) (by decide) ?_
      refine lv_iload_n hx hb dX8_tile_56 rfl (lv_at hl 1 rfl) ?_
      obtain ⟨r_4, hr_4, hv⟩ := qB hv
      refine q_S (As := [.int x1]) (rest := []) hx hb hml hown hts hl.1 (kX8_firstOf l D E  hr_4) zNo_mv (va_cwS 1 hts gX8_tile_X8_firstOf rfl rfl rfl (by decide +kernel) ⟨Nat.le_of_ble_eq_true rfl, Nat.le_of_ble_eq_true rfl⟩) (hP.sub (ws' := []) [] rfl) hK hZ rfl rfl (Nat.le_of_ble_eq_true rfl) dX8_tile_57 ⟨Nat.zero_le _, Nat.zero_le _⟩ ?_
      refine lv_iload_n hx hb dX8_tile_60 rfl (lv_at hl 2 rfl) ?_
      obtain ⟨r_5, hr_5, hv⟩ := qB hv
      refine q_S (As := [.int r_4, .int x2]) (rest := []) hx hb hml hown hts hl.1 (kX8_coordinate l D E  hr_5) zNo_mv (va_cwS 2 hts gX8_tile_X8_coordinate rfl rfl rfl (by decide +kernel) ⟨Nat.le_of_ble_eq_true rfl, Nat.le_of_ble_eq_true rfl⟩) (hP.sub (ws' := []) [] rfl) hK hZ rfl rfl (Nat.le_of_ble_eq_true rfl) dX8_tile_61 ⟨Nat.zero_le _, Nat.zero_le _⟩ ?_
      exact q_ret C dX8_tile_64 hv
    have hv := qF c_10_k_3 hv
    rcases (Decidable.em (x2 = 1)) with c_10_k_6 | c_10_k_6
    · have hv := qT c_10_k_6 hv
      refine lv_tableIn (tgt := 56) hx hb dX8_tile_10 (by rw [c_10_k_6]; decide) (by rw [c_10_k_6]; decide) (by rw [c_10_k_6]; rfl) (by decide) ?_
      refine lv_iload_n hx hb dX8_tile_56 rfl (lv_at hl 1 rfl) ?_
      obtain ⟨r_7, hr_7, hv⟩ := qB hv
      refine q_S (As := [.int x1]) (rest := []) hx hb hml hown hts hl.1 (kX8_firstOf l D E  hr_7) zNo_mv (va_cwS 1 hts gX8_tile_X8_firstOf rfl rfl rfl (by decide +kernel) ⟨Nat.le_of_ble_eq_true rfl, Nat.le_of_ble_eq_true rfl⟩) (hP.sub (ws' := []) [] rfl) hK hZ rfl rfl (Nat.le_of_ble_eq_true rfl) dX8_tile_57 ⟨Nat.zero_le _, Nat.zero_le _⟩ ?_
      refine lv_iload_n hx hb dX8_tile_60 rfl (lv_at hl 2 rfl) ?_
      obtain ⟨r_8, hr_8, hv⟩ := qB hv
      refine q_S (As := [.int r_7, .int x2]) (rest := []) hx hb hml hown hts hl.1 (kX8_coordinate l D E  hr_8) zNo_mv (va_cwS 2 hts gX8_tile_X8_coordinate rfl rfl rfl (by decide +kernel) ⟨Nat.le_of_ble_eq_true rfl, Nat.le_of_ble_eq_true rfl⟩) (hP.sub (ws' := []) [] rfl) hK hZ rfl rfl (Nat.le_of_ble_eq_true rfl) dX8_tile_61 ⟨Nat.zero_le _, Nat.zero_le _⟩ ?_
      exact q_ret C dX8_tile_64 hv
    have hv := qF c_10_k_6 hv
    rcases (Decidable.em (x2 = 2)) with c_10_k_9 | c_10_k_9
    · have hv := qT c_10_k_9 hv
      refine lv_tableIn (tgt := 65) hx hb dX8_tile_10 (by rw [c_10_k_9]; decide) (by rw [c_10_k_9]; decide) (by rw [c_10_k_9]; rfl) (by decide) ?_
      refine lv_iload_n hx hb dX8_tile_65 rfl (lv_at hl 1 rfl) ?_
      obtain ⟨r_10, hr_10, hv⟩ := qB hv
      refine q_S (As := [.int x1]) (rest := []) hx hb hml hown hts hl.1 (kX8_sizeOf l D E  hr_10) zNo_mv (va_cwS 1 hts gX8_tile_X8_sizeOf rfl rfl rfl (by decide +kernel) ⟨Nat.le_of_ble_eq_true rfl, Nat.le_of_ble_eq_true rfl⟩) (hP.sub (ws' := []) [] rfl) hK hZ rfl rfl (Nat.le_of_ble_eq_true rfl) dX8_tile_66 ⟨Nat.zero_le _, Nat.zero_le _⟩ ?_
      exact q_ret C dX8_tile_69 hv
    have hv := qF c_10_k_9 hv
    rcases (Decidable.em (x2 = 3)) with c_10_k_11 | c_10_k_11
    · have hv := qT c_10_k_11 hv
      refine lv_tableIn (tgt := 70) hx hb dX8_tile_10 (by rw [c_10_k_11]; decide) (by rw [c_10_k_11]; decide) (by rw [c_10_k_11]; rfl) (by decide) ?_
      refine lv_iload_n hx hb dX8_tile_70 rfl (lv_at hl 1 rfl) ?_
      obtain ⟨r_12, hr_12, hv⟩ := qB hv
      refine q_S (As := [.int x1]) (rest := []) hx hb hml hown hts hl.1 (kX8_depthOf l D E  hr_12) zNo_mv (va_cwS 1 hts gX8_tile_X8_depthOf rfl rfl rfl (by decide +kernel) ⟨Nat.le_of_ble_eq_true rfl, Nat.le_of_ble_eq_true rfl⟩) (hP.sub (ws' := []) [] rfl) hK hZ rfl rfl (Nat.le_of_ble_eq_true rfl) dX8_tile_71 ⟨Nat.zero_le _, Nat.zero_le _⟩ ?_
      exact q_ret C dX8_tile_74 hv
    have hv := qF c_10_k_11 hv
    rcases (Decidable.em (x2 = 4)) with c_10_k_13 | c_10_k_13
    · have hv := qT c_10_k_13 hv
      refine lv_tableIn (tgt := 75) hx hb dX8_tile_10 (by rw [c_10_k_13]; decide) (by rw [c_10_k_13]; decide) (by rw [c_10_k_13]; rfl) (by decide) ?_
      refine lv_aload_n hx hb dX8_tile_75 rfl (lv_at hl 0 rfl) ?_
      refine va_get (D := D) (ci := 7) (v := .ref (a0 1)) (C := RX8) (T := TX8) (N := 14) hx hb hts hiX8_tile_X8 hown hK hP 0 rfl rfl 0 (by decide) (hts _ lkX8_tile_7) (fun _ h9 => h9) rfl dX8_tile_76 ?_
      refine lv_iload_n hx hb dX8_tile_79 rfl (lv_at hl 1 rfl) ?_
      obtain ⟨r_14, hr_14, hv⟩ := qB hv
      refine q_S (As := [.ref (a0 1), .int x1]) (rest := []) hx hb hml hown hts hl.1 (kX8_pointsIn l D E (a0 1) hr_14) zNo_mv (va_cwS 2 hts gX8_tile_X8_pointsIn rfl rfl rfl (by decide +kernel) ⟨Nat.le_of_ble_eq_true rfl, Nat.le_of_ble_eq_true rfl⟩) (hP.sub (ws' := [aI E (a0 1) 116 (M0 0)]) [1] rfl) hK hZ rfl rfl (Nat.le_of_ble_eq_true rfl) dX8_tile_80 ⟨Nat.zero_le _, Nat.zero_le _⟩ ?_
      exact q_ret C dX8_tile_83 hv
    have hv := qF c_10_k_13 hv
    rcases (Decidable.em (x2 = 5)) with c_10_k_15 | c_10_k_15
    · have hv := qT c_10_k_15 hv
      refine lv_tableIn (tgt := 84) hx hb dX8_tile_10 (by rw [c_10_k_15]; decide) (by rw [c_10_k_15]; decide) (by rw [c_10_k_15]; rfl) (by decide) ?_
      refine lv_aload_n hx hb dX8_tile_84 rfl (lv_at hl 0 rfl) ?_
      refine lv_iload_n hx hb dX8_tile_85 rfl (lv_at hl 1 rfl) ?_
      obtain ⟨r_16, hr_16, hv⟩ := qB hv
      refine q_V (As := [.int x1]) (rest := []) (C := RX8) (T0 := TX8) (N0 := 14) (ci := 7) hx hb hml hown hts hl.1 (kX8_whatIs l D E a0 hr_16) zNo_mv (cwV 1 hts gX8_tile_X8_whatIs rfl rfl rfl (by decide +kernel) ⟨Nat.le_of_ble_eq_true rfl, Nat.le_of_ble_eq_true rfl⟩) 0 rfl rfl (hP.sub (ws' := (wMod E a0 M0)) [0, 1, 2, 3, 4, 5, 6, 7, 8] rfl) hK hZ rfl rfl (Nat.le_of_ble_eq_true rfl) dX8_tile_86 ⟨Nat.zero_le _, Nat.zero_le _⟩ ?_
      exact q_ret C dX8_tile_89 hv
    have hv := qF c_10_k_15 hv
    rcases (Decidable.em (x2 = 6)) with c_10_k_17 | c_10_k_17
    · have hv := qT c_10_k_17 hv
      refine lv_tableIn (tgt := 90) hx hb dX8_tile_10 (by rw [c_10_k_17]; decide) (by rw [c_10_k_17]; decide) (by rw [c_10_k_17]; rfl) (by decide) ?_
      refine lv_aload_n hx hb dX8_tile_90 rfl (lv_at hl 0 rfl) ?_
      refine va_get (D := D) (ci := 7) (v := .ref (a0 1)) (C := RX8) (T := TX8) (N := 14) hx hb hts hiX8_tile_X8 hown hK hP 0 rfl rfl 0 (by decide) (hts _ lkX8_tile_7) (fun _ h9 => h9) rfl dX8_tile_91 ?_
      refine lv_iload_n hx hb dX8_tile_94 rfl (lv_at hl 1 rfl) ?_
      obtain ⟨r_18, hr_18, hv⟩ := qB hv
      refine q_S (As := [.ref (a0 1), .int x1]) (rest := []) hx hb hml hown hts hl.1 (kX8_isOrdered l D E (a0 1) hr_18) zNo_mv (va_cwS 2 hts gX8_tile_X8_isOrdered rfl rfl rfl (by decide +kernel) ⟨Nat.le_of_ble_eq_true rfl, Nat.le_of_ble_eq_true rfl⟩) (hP.sub (ws' := [aI E (a0 1) 116 (M0 0)]) [1] rfl) hK hZ rfl rfl (Nat.le_of_ble_eq_true rfl) dX8_tile_95 ⟨Nat.zero_le _, Nat.zero_le _⟩ ?_
      refine lv_if_eq (tgt := 105) hx hb dX8_tile_98 (by decide) (fun c_98_k_19 => ?_) (fun c_98_k_19 => ?_)
      · have hv := qT c_98_k_19 hv
        refine lv_iconst (v := 0) hx hb dX8_tile_105 (by decide) ?_
        exact q_ret C dX8_tile_106 hv
      · have hv := qF c_98_k_19 hv
        refine lv_iconst (v := 1) hx hb dX8_tile_101 (by decide) ?_
        refine lv_goto (tgt := 106) hx hb dX8_tile_102 (by decide) ?_
        exact q_ret C dX8_tile_106 hv
    have hv := qF c_10_k_17 hv
    rcases (Decidable.em (x2 = 7)) with c_10_k_20 | c_10_k_20
    · have hv := qT c_10_k_20 hv
      refine lv_tableIn (tgt := 107) hx hb dX8_tile_10 (by rw [c_10_k_20]; decide) (by rw [c_10_k_20]; decide) (by rw [c_10_k_20]; rfl) (by decide) ?_
      refine lv_aload_n hx hb dX8_tile_107 rfl (lv_at hl 0 rfl) ?_
      refine lv_iload_n hx hb dX8_tile_108 rfl (lv_at hl 1 rfl) ?_
      obtain ⟨r_21, hr_21, hv⟩ := qB hv
      refine q_V (As := [.int x1]) (rest := []) (C := RX8) (T0 := TX8) (N0 := 14) (ci := 7) hx hb hml hown hts hl.1 (kX8_leavesIn l D E a0 hr_21) zNo_mv (cwV 1 hts gX8_tile_X8_leavesIn rfl rfl rfl (by decide +kernel) ⟨Nat.le_of_ble_eq_true rfl, Nat.le_of_ble_eq_true rfl⟩) 0 rfl rfl (hP.sub (ws' := (wMod E a0 M0)) [0, 1, 2, 3, 4, 5, 6, 7, 8] rfl) hK hZ rfl rfl (Nat.le_of_ble_eq_true rfl) dX8_tile_109 ⟨Nat.zero_le _, Nat.zero_le _⟩ ?_
      exact q_ret C dX8_tile_112 hv
    have hv := qF c_10_k_20 hv
    refine lv_tableOut (tgt := 113) hx hb dX8_tile_10 (q_tout (fun k h1 h2 hq => by
        rcases (show k = 0 ∨ k = 1 ∨ k = 2 ∨ k = 3 ∨ k = 4 ∨ k = 5 ∨ k = 6 ∨ k = 7 by omega) with rfl | rfl | rfl | rfl | rfl | rfl | rfl | rfl
        · exact c_10_k_3 hq
        · exact c_10_k_6 hq
        · exact c_10_k_9 hq
        · exact c_10_k_11 hq
        · exact c_10_k_13 hq
        · exact c_10_k_15 hq
        · exact c_10_k_17 hq
        · exact c_10_k_20 hq)) (by decide) ?_
    refine lv_bipush (v := -2) hx hb dX8_tile_113 (by decide) ?_
    exact q_ret C dX8_tile_115 hv
  · have hv := qT c_4_k_2 hv
    refine lv_iconst (v := -1) hx hb dX8_tile_7 (by decide) ?_
    exact q_ret C dX8_tile_8 hv

set_option maxRecDepth 100000 in
set_option maxHeartbeats 4000000 in
theorem kX8_letter (l : Launch) (D : va_G) (E : Nat → ClassId) (a0 : Nat → Nat) {M0 : FS} {x1 : Int32} {x2 : Int32} {v : Int32} (hv : fX8_letter M0 x1 x2 = some v) : PU l yX8_letter wsX8_letter (rmN 2 41) D E zNo ((wMod E a0 M0)) [.ref (a0 0), .int x1, .int x2] v := by
  refine PU.of (by decide) rfl (Nat.le_of_ble_eq_true rfl) ?_
  intro p e s m below meth c C hP hK hZ ls hl
  have hl : lv_has ls 3 [(0, .ref (a0 0)), (1, .int x1), (2, .int x2)] := hl
  obtain ⟨hx, hb, hr, hml, hown, hlocks, hts⟩ := id C
  unfold fX8_letter at hv
  refine lv_iload_n hx hb dX8_letter_0 rfl (lv_at hl 1 rfl) ?_
  obtain ⟨r_1, hr_1, hv⟩ := qB hv
  refine q_S (As := [.int x1]) (rest := []) hx hb hml hown hts hl.1 (kX8_isNumber l D E  hr_1) zNo_mv (va_cwS 1 hts gX8_letter_X8_isNumber rfl rfl rfl (by decide +kernel) ⟨Nat.le_of_ble_eq_true rfl, Nat.le_of_ble_eq_true rfl⟩) (hP.sub (ws' := []) [] rfl) hK hZ rfl rfl (Nat.le_of_ble_eq_true rfl) dX8_letter_1 ⟨Nat.zero_le _, Nat.zero_le _⟩ ?_
  refine lv_if_eq (tgt := 21) hx hb dX8_letter_4 (by decide) (fun c_4_k_2 => ?_) (fun c_4_k_2 => ?_)
  · have hv := qT c_4_k_2 hv
    refine lv_iconst (v := -1) hx hb dX8_letter_21 (by decide) ?_
    exact q_ret C dX8_letter_22 hv
  · have hv := qF c_4_k_2 hv
    refine lv_iload_n hx hb dX8_letter_7 rfl (lv_at hl 2 rfl) ?_
    refine lv_iconst (v := 0) hx hb dX8_letter_8 (by decide) ?_
    refine lv_iload_n hx hb dX8_letter_9 rfl (lv_at hl 1 rfl) ?_
    obtain ⟨r_3, hr_3, hv⟩ := qB hv
    refine q_S (As := [.int x1]) (rest := [.int (0:Int32), .int x2]) hx hb hml hown hts hl.1 (kX8_depthOf l D E  hr_3) zNo_mv (va_cwS 1 hts gX8_letter_X8_depthOf rfl rfl rfl (by decide +kernel) ⟨Nat.le_of_ble_eq_true rfl, Nat.le_of_ble_eq_true rfl⟩) (hP.sub (ws' := []) [] rfl) hK hZ rfl rfl (Nat.le_of_ble_eq_true rfl) dX8_letter_10 ⟨Nat.zero_le _, Nat.zero_le _⟩ ?_
    refine lv_iconst (v := 1) hx hb dX8_letter_13 (by decide) ?_
    refine lv_isub hx hb dX8_letter_14 ?_
    obtain ⟨r_4, hr_4, hv⟩ := qB hv
    refine q_S (As := [.int x2, .int (0:Int32), .int (r_3 - (1:Int32))]) (rest := []) hx hb hml hown hts hl.1 (kX8_in l D E  hr_4) zNo_mv (va_cwS 3 hts gX8_letter_X8_in rfl rfl rfl (by decide +kernel) ⟨Nat.le_of_ble_eq_true rfl, Nat.le_of_ble_eq_true rfl⟩) (hP.sub (ws' := []) [] rfl) hK hZ rfl rfl (Nat.le_of_ble_eq_true rfl) dX8_letter_15 ⟨Nat.zero_le _, Nat.zero_le _⟩ ?_
    refine lv_if_ne (tgt := 23) hx hb dX8_letter_18 (by decide) (fun c_18_k_5 => ?_) (fun c_18_k_5 => ?_)
    · have hv := qF c_18_k_5 hv
      refine lv_iload_n hx hb dX8_letter_23 rfl (lv_at hl 1 rfl) ?_
      refine lv_iconst (v := 2) hx hb dX8_letter_24 (by decide) ?_
      refine lv_iload_n hx hb dX8_letter_25 rfl (lv_at hl 1 rfl) ?_
      obtain ⟨r_6, hr_6, hv⟩ := qB hv
      refine q_S (As := [.int x1]) (rest := [.int (2:Int32), .int x1]) hx hb hml hown hts hl.1 (kX8_depthOf l D E  hr_6) zNo_mv (va_cwS 1 hts gX8_letter_X8_depthOf rfl rfl rfl (by decide +kernel) ⟨Nat.le_of_ble_eq_true rfl, Nat.le_of_ble_eq_true rfl⟩) (hP.sub (ws' := []) [] rfl) hK hZ rfl rfl (Nat.le_of_ble_eq_true rfl) dX8_letter_26 ⟨Nat.zero_le _, Nat.zero_le _⟩ ?_
      refine lv_iconst (v := 1) hx hb dX8_letter_29 (by decide) ?_
      refine lv_isub hx hb dX8_letter_30 ?_
      refine lv_iload_n hx hb dX8_letter_31 rfl (lv_at hl 2 rfl) ?_
      refine lv_isub hx hb dX8_letter_32 ?_
      refine lv_imul hx hb dX8_letter_33 ?_
      refine lv_ishr hx hb dX8_letter_34 ?_
      refine lv_iconst (v := 3) hx hb dX8_letter_35 (by decide) ?_
      refine lv_iand hx hb dX8_letter_36 ?_
      exact q_ret C dX8_letter_37 hv
    · have hv := qT c_18_k_5 hv
      refine lv_iconst (v := -1) hx hb dX8_letter_21 (by decide) ?_
      exact q_ret C dX8_letter_22 hv

set_option maxRecDepth 100000 in
set_option maxHeartbeats 4000000 in
theorem kX8_across (l : Launch) (D : va_G) (E : Nat → ClassId)  {x0 : Int32} {v : Int32} (hv : fX8_across x0 = some v) : PU l yX8_across wsX8_across (rmN 0 0) D E zNo ([]) [.int x0] v := by
  refine PU.of (by decide) rfl (Nat.le_of_ble_eq_true rfl) ?_
  intro p e s m below meth c C hP hK hZ ls hl
  have hl : lv_has ls 1 [(0, .int x0)] := hl
  obtain ⟨hx, hb, hr, hml, hown, hlocks, hts⟩ := id C
  unfold fX8_across at hv
  refine lv_iload_n hx hb dX8_across_0 rfl (lv_at hl 0 rfl) ?_
  refine lv_iconst (v := 2) hx hb dX8_across_1 (by decide) ?_
  refine lv_icmp_lt (tgt := 11) hx hb dX8_across_2 (by decide) (fun c_2_k_1 => ?_) (fun c_2_k_1 => ?_)
  · have hv := qT c_2_k_1 hv
    refine lv_iconst (v := 1) hx hb dX8_across_11 (by decide) ?_
    refine lv_goto (tgt := 31) hx hb dX8_across_12 (by decide) ?_
    exact q_ret C dX8_across_31 hv
  · have hv := qF c_2_k_1 hv
    refine lv_iload_n hx hb dX8_across_5 rfl (lv_at hl 0 rfl) ?_
    refine lv_bipush (v := 7) hx hb dX8_across_6 (by decide) ?_
    refine lv_icmp_ne (tgt := 15) hx hb dX8_across_8 (by decide) (fun c_8_k_2 => ?_) (fun c_8_k_2 => ?_)
    · have hv := qF c_8_k_2 hv
      refine lv_iload_n hx hb dX8_across_15 rfl (lv_at hl 0 rfl) ?_
      refine lv_iconst (v := 2) hx hb dX8_across_16 (by decide) ?_
      refine lv_icmp_eq (tgt := 26) hx hb dX8_across_17 (by decide) (fun c_17_k_3 => ?_) (fun c_17_k_3 => ?_)
      · have hv := qT c_17_k_3 hv
        refine lv_iconst (v := 0) hx hb dX8_across_26 (by decide) ?_
        refine lv_goto (tgt := 31) hx hb dX8_across_27 (by decide) ?_
        exact q_ret C dX8_across_31 hv
      · have hv := qF c_17_k_3 hv
        refine lv_iload_n hx hb dX8_across_20 rfl (lv_at hl 0 rfl) ?_
        refine lv_bipush (v := 6) hx hb dX8_across_21 (by decide) ?_
        refine lv_icmp_ne (tgt := 30) hx hb dX8_across_23 (by decide) (fun c_23_k_4 => ?_) (fun c_23_k_4 => ?_)
        · have hv := qF c_23_k_4 hv
          refine lv_iconst (v := -1) hx hb dX8_across_30 (by decide) ?_
          exact q_ret C dX8_across_31 hv
        · have hv := qT c_23_k_4 hv
          refine lv_iconst (v := 0) hx hb dX8_across_26 (by decide) ?_
          refine lv_goto (tgt := 31) hx hb dX8_across_27 (by decide) ?_
          exact q_ret C dX8_across_31 hv
    · have hv := qT c_8_k_2 hv
      refine lv_iconst (v := 1) hx hb dX8_across_11 (by decide) ?_
      refine lv_goto (tgt := 31) hx hb dX8_across_12 (by decide) ?_
      exact q_ret C dX8_across_31 hv

set_option maxRecDepth 100000 in
set_option maxHeartbeats 4000000 in
theorem kX8_along (l : Launch) (D : va_G) (E : Nat → ClassId)  {x0 : Int32} {v : Int32} (hv : fX8_along x0 = some v) : PU l yX8_along wsX8_along (rmN 1 22) D E zNo ([]) [.int x0] v := by
  refine PU.of (by decide) rfl (Nat.le_of_ble_eq_true rfl) ?_
  intro p e s m below meth c C hP hK hZ ls hl
  have hl : lv_has ls 1 [(0, .int x0)] := hl
  obtain ⟨hx, hb, hr, hml, hown, hlocks, hts⟩ := id C
  unfold fX8_along at hv
  refine lv_iload_n hx hb dX8_along_0 rfl (lv_at hl 0 rfl) ?_
  refine lv_iconst (v := 1) hx hb dX8_along_1 (by decide) ?_
  refine lv_iconst (v := 3) hx hb dX8_along_2 (by decide) ?_
  obtain ⟨r_1, hr_1, hv⟩ := qB hv
  refine q_S (As := [.int x0, .int (1:Int32), .int (3:Int32)]) (rest := []) hx hb hml hown hts hl.1 (kX8_in l D E  hr_1) zNo_mv (va_cwS 3 hts gX8_along_X8_in rfl rfl rfl (by decide +kernel) ⟨Nat.le_of_ble_eq_true rfl, Nat.le_of_ble_eq_true rfl⟩) (hP.sub (ws' := []) [] rfl) hK hZ rfl rfl (Nat.le_of_ble_eq_true rfl) dX8_along_3 ⟨Nat.zero_le _, Nat.zero_le _⟩ ?_
  refine lv_if_eq (tgt := 13) hx hb dX8_along_6 (by decide) (fun c_6_k_2 => ?_) (fun c_6_k_2 => ?_)
  · have hv := qT c_6_k_2 hv
    refine lv_iload_n hx hb dX8_along_13 rfl (lv_at hl 0 rfl) ?_
    refine lv_iconst (v := 5) hx hb dX8_along_14 (by decide) ?_
    refine lv_bipush (v := 7) hx hb dX8_along_15 (by decide) ?_
    obtain ⟨r_3, hr_3, hv⟩ := qB hv
    refine q_S (As := [.int x0, .int (5:Int32), .int (7:Int32)]) (rest := []) hx hb hml hown hts hl.1 (kX8_in l D E  hr_3) zNo_mv (va_cwS 3 hts gX8_along_X8_in rfl rfl rfl (by decide +kernel) ⟨Nat.le_of_ble_eq_true rfl, Nat.le_of_ble_eq_true rfl⟩) (hP.sub (ws' := []) [] rfl) hK hZ rfl rfl (Nat.le_of_ble_eq_true rfl) dX8_along_17 ⟨Nat.zero_le _, Nat.zero_le _⟩ ?_
    refine lv_if_eq (tgt := 27) hx hb dX8_along_20 (by decide) (fun c_20_k_4 => ?_) (fun c_20_k_4 => ?_)
    · have hv := qT c_20_k_4 hv
      refine lv_iconst (v := 0) hx hb dX8_along_27 (by decide) ?_
      exact q_ret C dX8_along_28 hv
    · have hv := qF c_20_k_4 hv
      refine lv_iconst (v := -1) hx hb dX8_along_23 (by decide) ?_
      refine lv_goto (tgt := 28) hx hb dX8_along_24 (by decide) ?_
      exact q_ret C dX8_along_28 hv
  · have hv := qF c_6_k_2 hv
    refine lv_iconst (v := 1) hx hb dX8_along_9 (by decide) ?_
    refine lv_goto (tgt := 28) hx hb dX8_along_10 (by decide) ?_
    exact q_ret C dX8_along_28 hv

theorem lkX8_beside_7 : (.fieldLink RX8 7 "QuarterTilesModel" "now" "[I" : Cond) ∈ wsX8_beside := by decide +kernel
theorem hiX8_beside_X8 : ∀ w ∈ wsX80, w ∈ wsX8_beside := by decide +kernel
set_option maxRecDepth 100000 in
set_option maxHeartbeats 4000000 in
theorem kX8_beside (l : Launch) (D : va_G) (E : Nat → ClassId) (a0 : Nat → Nat) {M0 : FS} {x1 : Int32} {x2 : Int32} {x3 : Int32} {v : Int32} (hv : fX8_beside M0 x1 x2 x3 = some v) : PU l yX8_beside wsX8_beside (rmN 5 111) D E zNo ((wMod E a0 M0)) [.ref (a0 0), .int x1, .int x2, .int x3] v := by
  refine PU.of (by decide) rfl (Nat.le_of_ble_eq_true rfl) ?_
  intro p e s m below meth c C hP hK hZ ls hl
  have hl : lv_has ls 10 [(0, .ref (a0 0)), (1, .int x1), (2, .int x2), (3, .int x3)] := hl
  obtain ⟨hx, hb, hr, hml, hown, hlocks, hts⟩ := id C
  unfold fX8_beside at hv
  refine lv_iload_n hx hb dX8_beside_0 rfl (lv_at hl 1 rfl) ?_
  obtain ⟨r_1, hr_1, hv⟩ := qB hv
  refine q_S (As := [.int x1]) (rest := []) hx hb hml hown hts hl.1 (kX8_isNumber l D E  hr_1) zNo_mv (va_cwS 1 hts gX8_beside_X8_isNumber rfl rfl rfl (by decide +kernel) ⟨Nat.le_of_ble_eq_true rfl, Nat.le_of_ble_eq_true rfl⟩) (hP.sub (ws' := []) [] rfl) hK hZ rfl rfl (Nat.le_of_ble_eq_true rfl) dX8_beside_1 ⟨Nat.zero_le _, Nat.zero_le _⟩ ?_
  refine lv_if_ne (tgt := 9) hx hb dX8_beside_4 (by decide) (fun c_4_k_2 => ?_) (fun c_4_k_2 => ?_)
  · have hv := qF c_4_k_2 hv
    refine lv_iload_n hx hb dX8_beside_9 rfl (lv_at hl 2 rfl) ?_
    refine lv_iconst (v := 0) hx hb dX8_beside_10 (by decide) ?_
    refine lv_bipush (v := 7) hx hb dX8_beside_11 (by decide) ?_
    obtain ⟨r_3, hr_3, hv⟩ := qB hv
    refine q_S (As := [.int x2, .int (0:Int32), .int (7:Int32)]) (rest := []) hx hb hml hown hts hl.1 (kX8_in l D E  hr_3) zNo_mv (va_cwS 3 hts gX8_beside_X8_in rfl rfl rfl (by decide +kernel) ⟨Nat.le_of_ble_eq_true rfl, Nat.le_of_ble_eq_true rfl⟩) (hP.sub (ws' := []) [] rfl) hK hZ rfl rfl (Nat.le_of_ble_eq_true rfl) dX8_beside_13 ⟨Nat.zero_le _, Nat.zero_le _⟩ ?_
    refine lv_if_eq (tgt := 28) hx hb dX8_beside_16 (by decide) (fun c_16_k_4 => ?_) (fun c_16_k_4 => ?_)
    · have hv := qT c_16_k_4 hv
      refine lv_bipush (v := -2) hx hb dX8_beside_28 (by decide) ?_
      exact q_ret C dX8_beside_30 hv
    · have hv := qF c_16_k_4 hv
      refine lv_iload_n hx hb dX8_beside_19 rfl (lv_at hl 3 rfl) ?_
      refine lv_iconst (v := 0) hx hb dX8_beside_20 (by decide) ?_
      refine lv_iconst (v := 1) hx hb dX8_beside_21 (by decide) ?_
      obtain ⟨r_5, hr_5, hv⟩ := qB hv
      refine q_S (As := [.int x3, .int (0:Int32), .int (1:Int32)]) (rest := []) hx hb hml hown hts hl.1 (kX8_in l D E  hr_5) zNo_mv (va_cwS 3 hts gX8_beside_X8_in rfl rfl rfl (by decide +kernel) ⟨Nat.le_of_ble_eq_true rfl, Nat.le_of_ble_eq_true rfl⟩) (hP.sub (ws' := []) [] rfl) hK hZ rfl rfl (Nat.le_of_ble_eq_true rfl) dX8_beside_22 ⟨Nat.zero_le _, Nat.zero_le _⟩ ?_
      refine lv_if_ne (tgt := 31) hx hb dX8_beside_25 (by decide) (fun c_25_k_6 => ?_) (fun c_25_k_6 => ?_)
      · have hv := qF c_25_k_6 hv
        refine lv_iload_n hx hb dX8_beside_31 rfl (lv_at hl 1 rfl) ?_
        obtain ⟨r_7, hr_7, hv⟩ := qB hv
        refine q_S (As := [.int x1]) (rest := []) hx hb hml hown hts hl.1 (kX8_firstOf l D E  hr_7) zNo_mv (va_cwS 1 hts gX8_beside_X8_firstOf rfl rfl rfl (by decide +kernel) ⟨Nat.le_of_ble_eq_true rfl, Nat.le_of_ble_eq_true rfl⟩) (hP.sub (ws' := []) [] rfl) hK hZ rfl rfl (Nat.le_of_ble_eq_true rfl) dX8_beside_32 ⟨Nat.zero_le _, Nat.zero_le _⟩ ?_
        refine lv_istore (lv' := [(4, .int r_7), (0, .ref (a0 0)), (1, .int x1), (2, .int x2), (3, .int x3)]) hx hb dX8_beside_35 hl (by decide) rfl (fun ls hl => ?_)
        refine lv_iload hx hb dX8_beside_37 (lv_at hl 0 rfl) ?_
        refine lv_iconst (v := 0) hx hb dX8_beside_39 (by decide) ?_
        obtain ⟨r_8, hr_8, hv⟩ := qB hv
        refine q_S (As := [.int r_7, .int (0:Int32)]) (rest := []) hx hb hml hown hts hl.1 (kX8_coordinate l D E  hr_8) zNo_mv (va_cwS 2 hts gX8_beside_X8_coordinate rfl rfl rfl (by decide +kernel) ⟨Nat.le_of_ble_eq_true rfl, Nat.le_of_ble_eq_true rfl⟩) (hP.sub (ws' := []) [] rfl) hK hZ rfl rfl (Nat.le_of_ble_eq_true rfl) dX8_beside_40 ⟨Nat.zero_le _, Nat.zero_le _⟩ ?_
        refine lv_iload_n hx hb dX8_beside_43 rfl (lv_at hl 2 rfl) ?_
        obtain ⟨r_9, hr_9, hv⟩ := qB hv
        refine q_S (As := [.int x1]) (rest := [.int r_8]) hx hb hml hown hts hl.1 (kX8_sizeOf l D E  hr_9) zNo_mv (va_cwS 1 hts gX8_beside_X8_sizeOf rfl rfl rfl (by decide +kernel) ⟨Nat.le_of_ble_eq_true rfl, Nat.le_of_ble_eq_true rfl⟩) (hP.sub (ws' := []) [] rfl) hK hZ rfl rfl (Nat.le_of_ble_eq_true rfl) dX8_beside_44 ⟨Nat.zero_le _, Nat.zero_le _⟩ ?_
        refine lv_iload_n hx hb dX8_beside_47 rfl (lv_at hl 3 rfl) ?_
        obtain ⟨r_10, hr_10, hv⟩ := qB hv
        refine q_S (As := [.int x2]) (rest := [.int r_9, .int r_8]) hx hb hml hown hts hl.1 (kX8_across l D E  hr_10) zNo_mv (va_cwS 1 hts gX8_beside_X8_across rfl rfl rfl (by decide +kernel) ⟨Nat.le_of_ble_eq_true rfl, Nat.le_of_ble_eq_true rfl⟩) (hP.sub (ws' := []) [] rfl) hK hZ rfl rfl (Nat.le_of_ble_eq_true rfl) dX8_beside_48 ⟨Nat.zero_le _, Nat.zero_le _⟩ ?_
        refine lv_imul hx hb dX8_beside_51 ?_
        refine lv_iadd hx hb dX8_beside_52 ?_
        refine lv_istore (lv' := [(5, .int (r_8 + (r_9 * r_10))), (4, .int r_7), (0, .ref (a0 0)), (1, .int x1), (2, .int x2), (3, .int x3)]) hx hb dX8_beside_53 hl (by decide) rfl (fun ls hl => ?_)
        refine lv_iload hx hb dX8_beside_55 (lv_at hl 1 rfl) ?_
        refine lv_iconst (v := 1) hx hb dX8_beside_57 (by decide) ?_
        obtain ⟨r_11, hr_11, hv⟩ := qB hv
        refine q_S (As := [.int r_7, .int (1:Int32)]) (rest := []) hx hb hml hown hts hl.1 (kX8_coordinate l D E  hr_11) zNo_mv (va_cwS 2 hts gX8_beside_X8_coordinate rfl rfl rfl (by decide +kernel) ⟨Nat.le_of_ble_eq_true rfl, Nat.le_of_ble_eq_true rfl⟩) (hP.sub (ws' := []) [] rfl) hK hZ rfl rfl (Nat.le_of_ble_eq_true rfl) dX8_beside_58 ⟨Nat.zero_le _, Nat.zero_le _⟩ ?_
        refine lv_iload_n hx hb dX8_beside_61 rfl (lv_at hl 3 rfl) ?_
        obtain ⟨r_12, hr_12, hv⟩ := qB hv
        refine q_S (As := [.int x1]) (rest := [.int r_11]) hx hb hml hown hts hl.1 (kX8_sizeOf l D E  hr_12) zNo_mv (va_cwS 1 hts gX8_beside_X8_sizeOf rfl rfl rfl (by decide +kernel) ⟨Nat.le_of_ble_eq_true rfl, Nat.le_of_ble_eq_true rfl⟩) (hP.sub (ws' := []) [] rfl) hK hZ rfl rfl (Nat.le_of_ble_eq_true rfl) dX8_beside_62 ⟨Nat.zero_le _, Nat.zero_le _⟩ ?_
        refine lv_iload_n hx hb dX8_beside_65 rfl (lv_at hl 4 rfl) ?_
        obtain ⟨r_13, hr_13, hv⟩ := qB hv
        refine q_S (As := [.int x2]) (rest := [.int r_12, .int r_11]) hx hb hml hown hts hl.1 (kX8_along l D E  hr_13) zNo_mv (va_cwS 1 hts gX8_beside_X8_along rfl rfl rfl (by decide +kernel) ⟨Nat.le_of_ble_eq_true rfl, Nat.le_of_ble_eq_true rfl⟩) (hP.sub (ws' := []) [] rfl) hK hZ rfl rfl (Nat.le_of_ble_eq_true rfl) dX8_beside_66 ⟨Nat.zero_le _, Nat.zero_le _⟩ ?_
        refine lv_imul hx hb dX8_beside_69 ?_
        refine lv_iadd hx hb dX8_beside_70 ?_
        refine lv_istore (lv' := [(6, .int (r_11 + (r_12 * r_13))), (5, .int (r_8 + (r_9 * r_10))), (4, .int r_7), (0, .ref (a0 0)), (1, .int x1), (2, .int x2), (3, .int x3)]) hx hb dX8_beside_71 hl (by decide) rfl (fun ls hl => ?_)
        refine lv_iload hx hb dX8_beside_73 (lv_at hl 1 rfl) ?_
        refine lv_iload hx hb dX8_beside_75 (lv_at hl 0 rfl) ?_
        obtain ⟨r_14, hr_14, hv⟩ := qB hv
        refine q_S (As := [.int (r_8 + (r_9 * r_10)), .int (r_11 + (r_12 * r_13))]) (rest := []) hx hb hml hown hts hl.1 (kX8_isPlace l D E  hr_14) zNo_mv (va_cwS 2 hts gX8_beside_X8_isPlace rfl rfl rfl (by decide +kernel) ⟨Nat.le_of_ble_eq_true rfl, Nat.le_of_ble_eq_true rfl⟩) (hP.sub (ws' := []) [] rfl) hK hZ rfl rfl (Nat.le_of_ble_eq_true rfl) dX8_beside_77 ⟨Nat.zero_le _, Nat.zero_le _⟩ ?_
        refine lv_if_ne (tgt := 86) hx hb dX8_beside_80 (by decide) (fun c_80_k_15 => ?_) (fun c_80_k_15 => ?_)
        · have hv := qF c_80_k_15 hv
          refine lv_iload hx hb dX8_beside_86 (lv_at hl 1 rfl) ?_
          refine lv_iload hx hb dX8_beside_88 (lv_at hl 0 rfl) ?_
          obtain ⟨r_16, hr_16, hv⟩ := qB hv
          refine q_S (As := [.int (r_8 + (r_9 * r_10)), .int (r_11 + (r_12 * r_13))]) (rest := []) hx hb hml hown hts hl.1 (kX8_pathOf l D E  hr_16) zNo_mv (va_cwS 2 hts gX8_beside_X8_pathOf rfl rfl rfl (by decide +kernel) ⟨Nat.le_of_ble_eq_true rfl, Nat.le_of_ble_eq_true rfl⟩) (hP.sub (ws' := []) [] rfl) hK hZ rfl rfl (Nat.le_of_ble_eq_true rfl) dX8_beside_90 ⟨Nat.zero_le _, Nat.zero_le _⟩ ?_
          refine lv_istore (lv' := [(7, .int r_16), (6, .int (r_11 + (r_12 * r_13))), (5, .int (r_8 + (r_9 * r_10))), (4, .int r_7), (0, .ref (a0 0)), (1, .int x1), (2, .int x2), (3, .int x3)]) hx hb dX8_beside_93 hl (by decide) rfl (fun ls hl => ?_)
          refine lv_iload hx hb dX8_beside_95 (lv_at hl 0 rfl) ?_
          refine lv_iload_n hx hb dX8_beside_97 rfl (lv_at hl 5 rfl) ?_
          obtain ⟨r_17, hr_17, hv⟩ := qB hv
          refine q_S (As := [.int x1]) (rest := [.int r_16]) hx hb hml hown hts hl.1 (kX8_depthOf l D E  hr_17) zNo_mv (va_cwS 1 hts gX8_beside_X8_depthOf rfl rfl rfl (by decide +kernel) ⟨Nat.le_of_ble_eq_true rfl, Nat.le_of_ble_eq_true rfl⟩) (hP.sub (ws' := []) [] rfl) hK hZ rfl rfl (Nat.le_of_ble_eq_true rfl) dX8_beside_98 ⟨Nat.zero_le _, Nat.zero_le _⟩ ?_
          obtain ⟨r_18, hr_18, hv⟩ := qB hv
          refine q_S (As := [.int r_16, .int r_17]) (rest := []) hx hb hml hown hts hl.1 (kX8_tileOf l D E  hr_18) zNo_mv (va_cwS 2 hts gX8_beside_X8_tileOf rfl rfl rfl (by decide +kernel) ⟨Nat.le_of_ble_eq_true rfl, Nat.le_of_ble_eq_true rfl⟩) (hP.sub (ws' := []) [] rfl) hK hZ rfl rfl (Nat.le_of_ble_eq_true rfl) dX8_beside_101 ⟨Nat.zero_le _, Nat.zero_le _⟩ ?_
          refine lv_istore (lv' := [(8, .int r_18), (7, .int r_16), (6, .int (r_11 + (r_12 * r_13))), (5, .int (r_8 + (r_9 * r_10))), (4, .int r_7), (0, .ref (a0 0)), (1, .int x1), (2, .int x2), (3, .int x3)]) hx hb dX8_beside_104 hl (by decide) rfl (fun ls hl => ?_)
          refine lv_aload_n hx hb dX8_beside_106 rfl (lv_at hl 5 rfl) ?_
          refine va_get (D := D) (ci := 7) (v := .ref (a0 1)) (C := RX8) (T := TX8) (N := 14) hx hb hts hiX8_beside_X8 hown hK hP 0 rfl rfl 0 (by decide) (hts _ lkX8_beside_7) (fun _ h9 => h9) rfl dX8_beside_107 ?_
          refine lv_iload hx hb dX8_beside_110 (lv_at hl 1 rfl) ?_
          obtain ⟨r_19, hr_19, hv⟩ := qB hv
          refine q_S (As := [.ref (a0 1), .int r_16]) (rest := []) hx hb hml hown hts hl.1 (kX8_leafOf l D E (a0 1) hr_19) zNo_mv (va_cwS 2 hts gX8_beside_X8_leafOf rfl rfl rfl (by decide +kernel) ⟨Nat.le_of_ble_eq_true rfl, Nat.le_of_ble_eq_true rfl⟩) (hP.sub (ws' := [aI E (a0 1) 116 (M0 0)]) [1] rfl) hK hZ rfl rfl (Nat.le_of_ble_eq_true rfl) dX8_beside_112 ⟨Nat.zero_le _, Nat.zero_le _⟩ ?_
          refine lv_istore (lv' := [(9, .int r_19), (8, .int r_18), (7, .int r_16), (6, .int (r_11 + (r_12 * r_13))), (5, .int (r_8 + (r_9 * r_10))), (4, .int r_7), (0, .ref (a0 0)), (1, .int x1), (2, .int x2), (3, .int x3)]) hx hb dX8_beside_115 hl (by decide) rfl (fun ls hl => ?_)
          refine lv_iload_n hx hb dX8_beside_117 rfl (lv_at hl 9 rfl) ?_
          refine lv_if_eq (tgt := 133) hx hb dX8_beside_118 (by decide) (fun c_118_k_20 => ?_) (fun c_118_k_20 => ?_)
          · have hv := qT c_118_k_20 hv
            refine lv_iload hx hb dX8_beside_133 (lv_at hl 1 rfl) ?_
            refine lv_goto (tgt := 140) hx hb dX8_beside_135 (by decide) ?_
            exact q_ret C dX8_beside_140 hv
          · have hv := qF c_118_k_20 hv
            refine lv_iload hx hb dX8_beside_121 (lv_at hl 0 rfl) ?_
            obtain ⟨r_21, hr_21, hv⟩ := qB hv
            refine q_S (As := [.int r_19]) (rest := []) hx hb hml hown hts hl.1 (kX8_depthOf l D E  hr_21) zNo_mv (va_cwS 1 hts gX8_beside_X8_depthOf rfl rfl rfl (by decide +kernel) ⟨Nat.le_of_ble_eq_true rfl, Nat.le_of_ble_eq_true rfl⟩) (hP.sub (ws' := []) [] rfl) hK hZ rfl rfl (Nat.le_of_ble_eq_true rfl) dX8_beside_123 ⟨Nat.zero_le _, Nat.zero_le _⟩ ?_
            refine lv_iload_n hx hb dX8_beside_126 rfl (lv_at hl 7 rfl) ?_
            obtain ⟨r_22, hr_22, hv⟩ := qB hv
            refine q_S (As := [.int x1]) (rest := [.int r_21]) hx hb hml hown hts hl.1 (kX8_depthOf l D E  hr_22) zNo_mv (va_cwS 1 hts gX8_beside_X8_depthOf rfl rfl rfl (by decide +kernel) ⟨Nat.le_of_ble_eq_true rfl, Nat.le_of_ble_eq_true rfl⟩) (hP.sub (ws' := []) [] rfl) hK hZ rfl rfl (Nat.le_of_ble_eq_true rfl) dX8_beside_127 ⟨Nat.zero_le _, Nat.zero_le _⟩ ?_
            refine lv_icmp_le (tgt := 138) hx hb dX8_beside_130 (by decide) (fun c_130_k_23 => ?_) (fun c_130_k_23 => ?_)
            · have hv := qT c_130_k_23 hv
              refine lv_iload hx hb dX8_beside_138 (lv_at hl 0 rfl) ?_
              exact q_ret C dX8_beside_140 hv
            · have hv := qF c_130_k_23 hv
              refine lv_iload hx hb dX8_beside_133 (lv_at hl 1 rfl) ?_
              refine lv_goto (tgt := 140) hx hb dX8_beside_135 (by decide) ?_
              exact q_ret C dX8_beside_140 hv
        · have hv := qT c_80_k_15 hv
          refine lv_bipush (v := -6) hx hb dX8_beside_83 (by decide) ?_
          exact q_ret C dX8_beside_85 hv
      · have hv := qT c_25_k_6 hv
        refine lv_bipush (v := -2) hx hb dX8_beside_28 (by decide) ?_
        exact q_ret C dX8_beside_30 hv
  · have hv := qT c_4_k_2 hv
    refine lv_iconst (v := -1) hx hb dX8_beside_7 (by decide) ?_
    exact q_ret C dX8_beside_8 hv

theorem lkX8_pointsBetween_7 : (.fieldLink RX8 7 "QuarterTilesModel" "now" "[I" : Cond) ∈ wsX8_pointsBetween := by decide +kernel
theorem hiX8_pointsBetween_X8 : ∀ w ∈ wsX80, w ∈ wsX8_pointsBetween := by decide +kernel
set_option maxRecDepth 100000 in
set_option maxHeartbeats 4000000 in
theorem wfX8_pointsBetween_L6 {p : Program} {e : Env} {s : State} {m : MethodId} {below : List Frame} {meth : Method} {c : Code} {l : Launch} {D : va_G} {E : Nat → ClassId} {a0 : Nat → Nat} {M0 : FS} {x1 : Int32} {x2 : Int32} {x3 : Int32} {x4 : Int32} {v : Int32} {y1 : Int32} {y2 : Int32} {y3 : Int32} {y4 : Int32} (C : Ctx p s m meth c [.ref (a0 0), .int x1, .int x2, .int x3, .int x4] wsX8_pointsBetween cX8_pointsBetween 7 (some .int) RX8) (hP : va_P D vwCl ((wMod E a0 M0)) s.heap) (hK : va_K D vwCl (tyE E) s) (hZ : zNo s s.heap) : ∀ (q : Nat) (y5 : Int32) (y6 : Int32), fX8_pointsBetween_L6 M0 y1 y2 y3 y4 q y5 y6 = some v → ∀ ls, lv_has ls 7 [(0, .ref (a0 0)), (1, .int y1), (2, .int y2), (3, .int y3), (4, .int y4), (5, .int y5), (6, .int y6)] → WP p l e (rmN 1 22) s m [.ref (a0 0), .int x1, .int x2, .int x3, .int x4] below meth c v 6 ls [] := by
  obtain ⟨hx, hb, hr, hml, hown, hlocks, hts⟩ := id C
  intro q
  induction q with
  | zero =>
    intro y5 y6 hv
    cases hv
  | succ q ih =>
    intro y5 y6 hv ls hl
    rw [fX8_pointsBetween_L6.eq_2] at hv
    refine lv_iload hx hb dX8_pointsBetween_6 (lv_at hl 6 rfl) ?_
    refine lv_aload_n hx hb dX8_pointsBetween_8 rfl (lv_at hl 0 rfl) ?_
    refine va_get (D := D) (ci := 7) (v := .ref (a0 1)) (C := RX8) (T := TX8) (N := 14) hx hb hts hiX8_pointsBetween_X8 hown hK hP 0 rfl rfl 0 (by decide) (hts _ lkX8_pointsBetween_7) (fun _ h9 => h9) rfl dX8_pointsBetween_9 ?_
    refine lv_iconst (v := 0) hx hb dX8_pointsBetween_12 (by decide) ?_
    refine q_ildc (f := (M0 0)) hx hb hK hP 1 0 rfl rfl 0 (by decide) (by unfold vp_in; decide) dX8_pointsBetween_13 ?_
    refine lv_icmp_ge (tgt := 74) hx hb dX8_pointsBetween_14 (by decide) (fun c_14_k_1 => ?_) (fun c_14_k_1 => ?_)
    · have hv := qT c_14_k_1 hv
      refine lv_iload hx hb dX8_pointsBetween_74 (lv_at hl 5 rfl) ?_
      exact q_ret C dX8_pointsBetween_76 hv
    · have hv := qF c_14_k_1 hv
      refine lv_iload hx hb dX8_pointsBetween_17 (lv_at hl 5 rfl) ?_
      refine lv_aload_n hx hb dX8_pointsBetween_19 rfl (lv_at hl 0 rfl) ?_
      refine va_get (D := D) (ci := 7) (v := .ref (a0 1)) (C := RX8) (T := TX8) (N := 14) hx hb hts hiX8_pointsBetween_X8 hown hK hP 0 rfl rfl 0 (by decide) (hts _ lkX8_pointsBetween_7) (fun _ h9 => h9) rfl dX8_pointsBetween_20 ?_
      refine lv_iconst (v := 4) hx hb dX8_pointsBetween_23 (by decide) ?_
      refine lv_iconst (v := 2) hx hb dX8_pointsBetween_24 (by decide) ?_
      refine lv_iload hx hb dX8_pointsBetween_25 (lv_at hl 6 rfl) ?_
      refine lv_imul hx hb dX8_pointsBetween_27 ?_
      refine lv_iadd hx hb dX8_pointsBetween_28 ?_
      obtain ⟨x_2, hx_2, hv⟩ := qB hv
      refine q_ild hx hb hK hP 1 0 rfl rfl hx_2 dX8_pointsBetween_29 ?_
      refine lv_iload_n hx hb dX8_pointsBetween_30 rfl (lv_at hl 1 rfl) ?_
      refine lv_iload_n hx hb dX8_pointsBetween_31 rfl (lv_at hl 3 rfl) ?_
      obtain ⟨r_3, hr_3, hv⟩ := qB hv
      refine q_S (As := [.int x_2, .int y1, .int y3]) (rest := [.int y5]) hx hb hml hown hts hl.1 (kX8_in l D E  hr_3) zNo_mv (va_cwS 3 hts gX8_pointsBetween_X8_in rfl rfl rfl (by decide +kernel) ⟨Nat.le_of_ble_eq_true rfl, Nat.le_of_ble_eq_true rfl⟩) (hP.sub (ws' := []) [] rfl) hK hZ rfl rfl (Nat.le_of_ble_eq_true rfl) dX8_pointsBetween_32 ⟨Nat.zero_le _, Nat.zero_le _⟩ ?_
      refine lv_if_eq (tgt := 64) hx hb dX8_pointsBetween_35 (by decide) (fun c_35_k_4 => ?_) (fun c_35_k_4 => ?_)
      · have hv := qT c_35_k_4 hv
        refine lv_iconst (v := 0) hx hb dX8_pointsBetween_64 (by decide) ?_
        refine lv_iadd hx hb dX8_pointsBetween_65 ?_
        refine lv_istore (lv' := [(5, .int (y5 + (0:Int32))), (0, .ref (a0 0)), (1, .int y1), (2, .int y2), (3, .int y3), (4, .int y4), (6, .int y6)]) hx hb dX8_pointsBetween_66 hl (by decide) rfl (fun ls hl => ?_)
        refine lv_iinc (v := (y6 + 1)) (lv' := [(6, .int (y6 + 1)), (5, .int (y5 + (0:Int32))), (0, .ref (a0 0)), (1, .int y1), (2, .int y2), (3, .int y3), (4, .int y4)]) hx hb dX8_pointsBetween_68 hl (k := 6) rfl (by rfl) (by decide) rfl (fun ls hl => ?_)
        refine lv_goto (tgt := 6) hx hb dX8_pointsBetween_71 (by decide) ?_
        exact ih (y5 + (0:Int32)) (y6 + 1) hv _ (lv_sub hl [2, 3, 4, 5, 6, 1, 0] rfl)
      · have hv := qF c_35_k_4 hv
        refine lv_aload_n hx hb dX8_pointsBetween_38 rfl (lv_at hl 0 rfl) ?_
        refine va_get (D := D) (ci := 7) (v := .ref (a0 1)) (C := RX8) (T := TX8) (N := 14) hx hb hts hiX8_pointsBetween_X8 hown hK hP 0 rfl rfl 0 (by decide) (hts _ lkX8_pointsBetween_7) (fun _ h9 => h9) rfl dX8_pointsBetween_39 ?_
        refine lv_iconst (v := 4) hx hb dX8_pointsBetween_42 (by decide) ?_
        refine lv_iconst (v := 2) hx hb dX8_pointsBetween_43 (by decide) ?_
        refine lv_iload hx hb dX8_pointsBetween_44 (lv_at hl 6 rfl) ?_
        refine lv_imul hx hb dX8_pointsBetween_46 ?_
        refine lv_iadd hx hb dX8_pointsBetween_47 ?_
        refine lv_iconst (v := 1) hx hb dX8_pointsBetween_48 (by decide) ?_
        refine lv_iadd hx hb dX8_pointsBetween_49 ?_
        obtain ⟨x_5, hx_5, hv⟩ := qB hv
        refine q_ild hx hb hK hP 1 0 rfl rfl hx_5 dX8_pointsBetween_50 ?_
        refine lv_iload_n hx hb dX8_pointsBetween_51 rfl (lv_at hl 2 rfl) ?_
        refine lv_iload hx hb dX8_pointsBetween_52 (lv_at hl 4 rfl) ?_
        obtain ⟨r_6, hr_6, hv⟩ := qB hv
        refine q_S (As := [.int x_5, .int y2, .int y4]) (rest := [.int y5]) hx hb hml hown hts hl.1 (kX8_in l D E  hr_6) zNo_mv (va_cwS 3 hts gX8_pointsBetween_X8_in rfl rfl rfl (by decide +kernel) ⟨Nat.le_of_ble_eq_true rfl, Nat.le_of_ble_eq_true rfl⟩) (hP.sub (ws' := []) [] rfl) hK hZ rfl rfl (Nat.le_of_ble_eq_true rfl) dX8_pointsBetween_54 ⟨Nat.zero_le _, Nat.zero_le _⟩ ?_
        refine lv_if_eq (tgt := 64) hx hb dX8_pointsBetween_57 (by decide) (fun c_57_k_7 => ?_) (fun c_57_k_7 => ?_)
        · have hv := qT c_57_k_7 hv
          refine lv_iconst (v := 0) hx hb dX8_pointsBetween_64 (by decide) ?_
          refine lv_iadd hx hb dX8_pointsBetween_65 ?_
          refine lv_istore (lv' := [(5, .int (y5 + (0:Int32))), (0, .ref (a0 0)), (1, .int y1), (2, .int y2), (3, .int y3), (4, .int y4), (6, .int y6)]) hx hb dX8_pointsBetween_66 hl (by decide) rfl (fun ls hl => ?_)
          refine lv_iinc (v := (y6 + 1)) (lv' := [(6, .int (y6 + 1)), (5, .int (y5 + (0:Int32))), (0, .ref (a0 0)), (1, .int y1), (2, .int y2), (3, .int y3), (4, .int y4)]) hx hb dX8_pointsBetween_68 hl (k := 6) rfl (by rfl) (by decide) rfl (fun ls hl => ?_)
          refine lv_goto (tgt := 6) hx hb dX8_pointsBetween_71 (by decide) ?_
          exact ih (y5 + (0:Int32)) (y6 + 1) hv _ (lv_sub hl [2, 3, 4, 5, 6, 1, 0] rfl)
        · have hv := qF c_57_k_7 hv
          refine lv_iconst (v := 1) hx hb dX8_pointsBetween_60 (by decide) ?_
          refine lv_goto (tgt := 65) hx hb dX8_pointsBetween_61 (by decide) ?_
          refine lv_iadd hx hb dX8_pointsBetween_65 ?_
          refine lv_istore (lv' := [(5, .int (y5 + (1:Int32))), (0, .ref (a0 0)), (1, .int y1), (2, .int y2), (3, .int y3), (4, .int y4), (6, .int y6)]) hx hb dX8_pointsBetween_66 hl (by decide) rfl (fun ls hl => ?_)
          refine lv_iinc (v := (y6 + 1)) (lv' := [(6, .int (y6 + 1)), (5, .int (y5 + (1:Int32))), (0, .ref (a0 0)), (1, .int y1), (2, .int y2), (3, .int y3), (4, .int y4)]) hx hb dX8_pointsBetween_68 hl (k := 6) rfl (by rfl) (by decide) rfl (fun ls hl => ?_)
          refine lv_goto (tgt := 6) hx hb dX8_pointsBetween_71 (by decide) ?_
          exact ih (y5 + (1:Int32)) (y6 + 1) hv _ (lv_sub hl [2, 3, 4, 5, 6, 1, 0] rfl)

set_option maxRecDepth 100000 in
set_option maxHeartbeats 4000000 in
theorem kX8_pointsBetween (l : Launch) (D : va_G) (E : Nat → ClassId) (a0 : Nat → Nat) {M0 : FS} {x1 : Int32} {x2 : Int32} {x3 : Int32} {x4 : Int32} {v : Int32} (hv : fX8_pointsBetween M0 x1 x2 x3 x4 = some v) : PU l yX8_pointsBetween wsX8_pointsBetween (rmN 1 22) D E zNo ((wMod E a0 M0)) [.ref (a0 0), .int x1, .int x2, .int x3, .int x4] v := by
  refine PU.of (by decide) rfl (Nat.le_of_ble_eq_true rfl) ?_
  intro p e s m below meth c C hP hK hZ ls hl
  have hl : lv_has ls 7 [(0, .ref (a0 0)), (1, .int x1), (2, .int x2), (3, .int x3), (4, .int x4)] := hl
  obtain ⟨hx, hb, hr, hml, hown, hlocks, hts⟩ := id C
  unfold fX8_pointsBetween at hv
  refine lv_iconst (v := 0) hx hb dX8_pointsBetween_0 (by decide) ?_
  refine lv_istore (lv' := [(5, .int (0:Int32)), (0, .ref (a0 0)), (1, .int x1), (2, .int x2), (3, .int x3), (4, .int x4)]) hx hb dX8_pointsBetween_1 hl (by decide) rfl (fun ls hl => ?_)
  refine lv_iconst (v := 0) hx hb dX8_pointsBetween_3 (by decide) ?_
  refine lv_istore (lv' := [(6, .int (0:Int32)), (5, .int (0:Int32)), (0, .ref (a0 0)), (1, .int x1), (2, .int x2), (3, .int x3), (4, .int x4)]) hx hb dX8_pointsBetween_4 hl (by decide) rfl (fun ls hl => ?_)
  exact wfX8_pointsBetween_L6 C hP hK hZ  6000 (0:Int32) (0:Int32) hv _ (lv_sub hl [2, 3, 4, 5, 6, 1, 0] rfl)

set_option maxRecDepth 100000 in
set_option maxHeartbeats 4000000 in
theorem kX8_meetsWindow (l : Launch) (D : va_G) (E : Nat → ClassId)  {x0 : Int32} {x1 : Int32} {x2 : Int32} {x3 : Int32} {x4 : Int32} {v : Int32} (hv : fX8_meetsWindow x0 x1 x2 x3 x4 = some v) : PU l yX8_meetsWindow wsX8_meetsWindow (rmN 2 41) D E zNo ([]) [.int x0, .int x1, .int x2, .int x3, .int x4] v := by
  refine PU.of (by decide) rfl (Nat.le_of_ble_eq_true rfl) ?_
  intro p e s m below meth c C hP hK hZ ls hl
  have hl : lv_has ls 9 [(0, .int x0), (1, .int x1), (2, .int x2), (3, .int x3), (4, .int x4)] := hl
  obtain ⟨hx, hb, hr, hml, hown, hlocks, hts⟩ := id C
  unfold fX8_meetsWindow at hv
  refine lv_iload_n hx hb dX8_meetsWindow_0 rfl (lv_at hl 0 rfl) ?_
  obtain ⟨r_1, hr_1, hv⟩ := qB hv
  refine q_S (As := [.int x0]) (rest := []) hx hb hml hown hts hl.1 (kX8_firstOf l D E  hr_1) zNo_mv (va_cwS 1 hts gX8_meetsWindow_X8_firstOf rfl rfl rfl (by decide +kernel) ⟨Nat.le_of_ble_eq_true rfl, Nat.le_of_ble_eq_true rfl⟩) (hP.sub (ws' := []) [] rfl) hK hZ rfl rfl (Nat.le_of_ble_eq_true rfl) dX8_meetsWindow_1 ⟨Nat.zero_le _, Nat.zero_le _⟩ ?_
  refine lv_istore (lv' := [(5, .int r_1), (0, .int x0), (1, .int x1), (2, .int x2), (3, .int x3), (4, .int x4)]) hx hb dX8_meetsWindow_4 hl (by decide) rfl (fun ls hl => ?_)
  refine lv_iload hx hb dX8_meetsWindow_6 (lv_at hl 0 rfl) ?_
  refine lv_iconst (v := 0) hx hb dX8_meetsWindow_8 (by decide) ?_
  obtain ⟨r_2, hr_2, hv⟩ := qB hv
  refine q_S (As := [.int r_1, .int (0:Int32)]) (rest := []) hx hb hml hown hts hl.1 (kX8_coordinate l D E  hr_2) zNo_mv (va_cwS 2 hts gX8_meetsWindow_X8_coordinate rfl rfl rfl (by decide +kernel) ⟨Nat.le_of_ble_eq_true rfl, Nat.le_of_ble_eq_true rfl⟩) (hP.sub (ws' := []) [] rfl) hK hZ rfl rfl (Nat.le_of_ble_eq_true rfl) dX8_meetsWindow_9 ⟨Nat.zero_le _, Nat.zero_le _⟩ ?_
  refine lv_istore (lv' := [(6, .int r_2), (5, .int r_1), (0, .int x0), (1, .int x1), (2, .int x2), (3, .int x3), (4, .int x4)]) hx hb dX8_meetsWindow_12 hl (by decide) rfl (fun ls hl => ?_)
  refine lv_iload hx hb dX8_meetsWindow_14 (lv_at hl 1 rfl) ?_
  refine lv_iconst (v := 1) hx hb dX8_meetsWindow_16 (by decide) ?_
  obtain ⟨r_3, hr_3, hv⟩ := qB hv
  refine q_S (As := [.int r_1, .int (1:Int32)]) (rest := []) hx hb hml hown hts hl.1 (kX8_coordinate l D E  hr_3) zNo_mv (va_cwS 2 hts gX8_meetsWindow_X8_coordinate rfl rfl rfl (by decide +kernel) ⟨Nat.le_of_ble_eq_true rfl, Nat.le_of_ble_eq_true rfl⟩) (hP.sub (ws' := []) [] rfl) hK hZ rfl rfl (Nat.le_of_ble_eq_true rfl) dX8_meetsWindow_17 ⟨Nat.zero_le _, Nat.zero_le _⟩ ?_
  refine lv_istore (lv' := [(7, .int r_3), (6, .int r_2), (5, .int r_1), (0, .int x0), (1, .int x1), (2, .int x2), (3, .int x3), (4, .int x4)]) hx hb dX8_meetsWindow_20 hl (by decide) rfl (fun ls hl => ?_)
  refine lv_iload_n hx hb dX8_meetsWindow_22 rfl (lv_at hl 3 rfl) ?_
  obtain ⟨r_4, hr_4, hv⟩ := qB hv
  refine q_S (As := [.int x0]) (rest := []) hx hb hml hown hts hl.1 (kX8_sizeOf l D E  hr_4) zNo_mv (va_cwS 1 hts gX8_meetsWindow_X8_sizeOf rfl rfl rfl (by decide +kernel) ⟨Nat.le_of_ble_eq_true rfl, Nat.le_of_ble_eq_true rfl⟩) (hP.sub (ws' := []) [] rfl) hK hZ rfl rfl (Nat.le_of_ble_eq_true rfl) dX8_meetsWindow_23 ⟨Nat.zero_le _, Nat.zero_le _⟩ ?_
  refine lv_iconst (v := 1) hx hb dX8_meetsWindow_26 (by decide) ?_
  refine lv_isub hx hb dX8_meetsWindow_27 ?_
  refine lv_istore (lv' := [(8, .int (r_4 - (1:Int32))), (7, .int r_3), (6, .int r_2), (5, .int r_1), (0, .int x0), (1, .int x1), (2, .int x2), (3, .int x3), (4, .int x4)]) hx hb dX8_meetsWindow_28 hl (by decide) rfl (fun ls hl => ?_)
  refine lv_iload hx hb dX8_meetsWindow_30 (lv_at hl 2 rfl) ?_
  refine lv_iload_n hx hb dX8_meetsWindow_32 rfl (lv_at hl 7 rfl) ?_
  refine lv_icmp_gt (tgt := 65) hx hb dX8_meetsWindow_33 (by decide) (fun c_33_k_5 => ?_) (fun c_33_k_5 => ?_)
  · have hv := qT c_33_k_5 hv
    refine lv_iconst (v := 0) hx hb dX8_meetsWindow_65 (by decide) ?_
    exact q_retz C dX8_meetsWindow_66 hv
  · have hv := qF c_33_k_5 hv
    refine lv_iload hx hb dX8_meetsWindow_36 (lv_at hl 2 rfl) ?_
    refine lv_iload hx hb dX8_meetsWindow_38 (lv_at hl 0 rfl) ?_
    refine lv_iadd hx hb dX8_meetsWindow_40 ?_
    refine lv_iload_n hx hb dX8_meetsWindow_41 rfl (lv_at hl 5 rfl) ?_
    refine lv_icmp_lt (tgt := 65) hx hb dX8_meetsWindow_42 (by decide) (fun c_42_k_6 => ?_) (fun c_42_k_6 => ?_)
    · have hv := qT c_42_k_6 hv
      refine lv_iconst (v := 0) hx hb dX8_meetsWindow_65 (by decide) ?_
      exact q_retz C dX8_meetsWindow_66 hv
    · have hv := qF c_42_k_6 hv
      refine lv_iload hx hb dX8_meetsWindow_45 (lv_at hl 1 rfl) ?_
      refine lv_iload hx hb dX8_meetsWindow_47 (lv_at hl 8 rfl) ?_
      refine lv_icmp_gt (tgt := 65) hx hb dX8_meetsWindow_49 (by decide) (fun c_49_k_7 => ?_) (fun c_49_k_7 => ?_)
      · have hv := qT c_49_k_7 hv
        refine lv_iconst (v := 0) hx hb dX8_meetsWindow_65 (by decide) ?_
        exact q_retz C dX8_meetsWindow_66 hv
      · have hv := qF c_49_k_7 hv
        refine lv_iload hx hb dX8_meetsWindow_52 (lv_at hl 1 rfl) ?_
        refine lv_iload hx hb dX8_meetsWindow_54 (lv_at hl 0 rfl) ?_
        refine lv_iadd hx hb dX8_meetsWindow_56 ?_
        refine lv_iload_n hx hb dX8_meetsWindow_57 rfl (lv_at hl 6 rfl) ?_
        refine lv_icmp_lt (tgt := 65) hx hb dX8_meetsWindow_58 (by decide) (fun c_58_k_8 => ?_) (fun c_58_k_8 => ?_)
        · have hv := qT c_58_k_8 hv
          refine lv_iconst (v := 0) hx hb dX8_meetsWindow_65 (by decide) ?_
          exact q_retz C dX8_meetsWindow_66 hv
        · have hv := qF c_58_k_8 hv
          refine lv_iconst (v := 1) hx hb dX8_meetsWindow_61 (by decide) ?_
          refine lv_goto (tgt := 66) hx hb dX8_meetsWindow_62 (by decide) ?_
          exact q_retz C dX8_meetsWindow_66 hv

theorem lkX8_smallest_7 : (.fieldLink RX8 7 "QuarterTilesModel" "now" "[I" : Cond) ∈ wsX8_smallest := by decide +kernel
theorem hiX8_smallest_X8 : ∀ w ∈ wsX80, w ∈ wsX8_smallest := by decide +kernel
set_option maxRecDepth 100000 in
set_option maxHeartbeats 4000000 in
theorem wfX8_smallest_L2 {p : Program} {e : Env} {s : State} {m : MethodId} {below : List Frame} {meth : Method} {c : Code} {l : Launch} {D : va_G} {E : Nat → ClassId} {a0 : Nat → Nat} {M0 : FS} {x1 : Int32} {x2 : Int32} {v : Int32} {y1 : Int32} {y2 : Int32} (C : Ctx p s m meth c [.ref (a0 0), .int x1, .int x2] wsX8_smallest cX8_smallest 4 (some .int) RX8) (hP : va_P D vwCl ((wMod E a0 M0)) s.heap) (hK : va_K D vwCl (tyE E) s) (hZ : zNo s s.heap) : ∀ (q : Nat) (y3 : Int32), fX8_smallest_L2 M0 y1 y2 q y3 = some v → ∀ ls, lv_has ls 4 [(0, .ref (a0 0)), (1, .int y1), (2, .int y2), (3, .int y3)] → WP p l e (rmN 4 89) s m [.ref (a0 0), .int x1, .int x2] below meth c v 2 ls [] := by
  obtain ⟨hx, hb, hr, hml, hown, hlocks, hts⟩ := id C
  intro q
  induction q with
  | zero =>
    intro y3 hv
    cases hv
  | succ q ih =>
    intro y3 hv ls hl
    rw [fX8_smallest_L2.eq_2] at hv
    refine lv_aload_n hx hb dX8_smallest_2 rfl (lv_at hl 0 rfl) ?_
    refine va_get (D := D) (ci := 7) (v := .ref (a0 1)) (C := RX8) (T := TX8) (N := 14) hx hb hts hiX8_smallest_X8 hown hK hP 0 rfl rfl 0 (by decide) (hts _ lkX8_smallest_7) (fun _ h9 => h9) rfl dX8_smallest_3 ?_
    refine lv_iload_n hx hb dX8_smallest_6 rfl (lv_at hl 1 rfl) ?_
    refine lv_iload_n hx hb dX8_smallest_7 rfl (lv_at hl 3 rfl) ?_
    obtain ⟨r_1, hr_1, hv⟩ := qB hv
    refine q_S (As := [.int y1, .int y3]) (rest := [.ref (a0 1)]) hx hb hml hown hts hl.1 (kX8_tileOf l D E  hr_1) zNo_mv (va_cwS 2 hts gX8_smallest_X8_tileOf rfl rfl rfl (by decide +kernel) ⟨Nat.le_of_ble_eq_true rfl, Nat.le_of_ble_eq_true rfl⟩) (hP.sub (ws' := []) [] rfl) hK hZ rfl rfl (Nat.le_of_ble_eq_true rfl) dX8_smallest_8 ⟨Nat.zero_le _, Nat.zero_le _⟩ ?_
    obtain ⟨r_2, hr_2, hv⟩ := qB hv
    refine q_S (As := [.ref (a0 1), .int r_1]) (rest := []) hx hb hml hown hts hl.1 (kX8_isSplit l D E (a0 1) hr_2) zNo_mv (va_cwS 2 hts gX8_smallest_X8_isSplit rfl rfl rfl (by decide +kernel) ⟨Nat.le_of_ble_eq_true rfl, Nat.le_of_ble_eq_true rfl⟩) (hP.sub (ws' := [aI E (a0 1) 116 (M0 0)]) [1] rfl) hK hZ rfl rfl (Nat.le_of_ble_eq_true rfl) dX8_smallest_11 ⟨Nat.zero_le _, Nat.zero_le _⟩ ?_
    refine lv_if_eq (tgt := 40) hx hb dX8_smallest_14 (by decide) (fun c_14_k_3 => ?_) (fun c_14_k_3 => ?_)
    · have hv := qT c_14_k_3 hv
      refine lv_iload_n hx hb dX8_smallest_40 rfl (lv_at hl 1 rfl) ?_
      refine lv_iload_n hx hb dX8_smallest_41 rfl (lv_at hl 3 rfl) ?_
      obtain ⟨r_4, hr_4, hv⟩ := qB hv
      refine q_S (As := [.int y1, .int y3]) (rest := []) hx hb hml hown hts hl.1 (kX8_tileOf l D E  hr_4) zNo_mv (va_cwS 2 hts gX8_smallest_X8_tileOf rfl rfl rfl (by decide +kernel) ⟨Nat.le_of_ble_eq_true rfl, Nat.le_of_ble_eq_true rfl⟩) (hP.sub (ws' := []) [] rfl) hK hZ rfl rfl (Nat.le_of_ble_eq_true rfl) dX8_smallest_42 ⟨Nat.zero_le _, Nat.zero_le _⟩ ?_
      exact q_ret C dX8_smallest_45 hv
    · have hv := qF c_14_k_3 hv
      refine lv_iload_n hx hb dX8_smallest_17 rfl (lv_at hl 1 rfl) ?_
      refine lv_iload_n hx hb dX8_smallest_18 rfl (lv_at hl 3 rfl) ?_
      refine lv_iconst (v := 1) hx hb dX8_smallest_19 (by decide) ?_
      refine lv_iadd hx hb dX8_smallest_20 ?_
      obtain ⟨r_5, hr_5, hv⟩ := qB hv
      refine q_S (As := [.int y1, .int (y3 + (1:Int32))]) (rest := []) hx hb hml hown hts hl.1 (kX8_tileOf l D E  hr_5) zNo_mv (va_cwS 2 hts gX8_smallest_X8_tileOf rfl rfl rfl (by decide +kernel) ⟨Nat.le_of_ble_eq_true rfl, Nat.le_of_ble_eq_true rfl⟩) (hP.sub (ws' := []) [] rfl) hK hZ rfl rfl (Nat.le_of_ble_eq_true rfl) dX8_smallest_21 ⟨Nat.zero_le _, Nat.zero_le _⟩ ?_
      refine lv_iload_n hx hb dX8_smallest_24 rfl (lv_at hl 2 rfl) ?_
      refine lv_iload_n hx hb dX8_smallest_25 rfl (lv_at hl 3 rfl) ?_
      refine lv_iconst (v := 1) hx hb dX8_smallest_26 (by decide) ?_
      refine lv_iadd hx hb dX8_smallest_27 ?_
      obtain ⟨r_6, hr_6, hv⟩ := qB hv
      refine q_S (As := [.int y2, .int (y3 + (1:Int32))]) (rest := [.int r_5]) hx hb hml hown hts hl.1 (kX8_tileOf l D E  hr_6) zNo_mv (va_cwS 2 hts gX8_smallest_X8_tileOf rfl rfl rfl (by decide +kernel) ⟨Nat.le_of_ble_eq_true rfl, Nat.le_of_ble_eq_true rfl⟩) (hP.sub (ws' := []) [] rfl) hK hZ rfl rfl (Nat.le_of_ble_eq_true rfl) dX8_smallest_28 ⟨Nat.zero_le _, Nat.zero_le _⟩ ?_
      refine lv_icmp_ne (tgt := 40) hx hb dX8_smallest_31 (by decide) (fun c_31_k_7 => ?_) (fun c_31_k_7 => ?_)
      · have hv := qF c_31_k_7 hv
        refine lv_iload_n hx hb dX8_smallest_40 rfl (lv_at hl 1 rfl) ?_
        refine lv_iload_n hx hb dX8_smallest_41 rfl (lv_at hl 3 rfl) ?_
        obtain ⟨r_8, hr_8, hv⟩ := qB hv
        refine q_S (As := [.int y1, .int y3]) (rest := []) hx hb hml hown hts hl.1 (kX8_tileOf l D E  hr_8) zNo_mv (va_cwS 2 hts gX8_smallest_X8_tileOf rfl rfl rfl (by decide +kernel) ⟨Nat.le_of_ble_eq_true rfl, Nat.le_of_ble_eq_true rfl⟩) (hP.sub (ws' := []) [] rfl) hK hZ rfl rfl (Nat.le_of_ble_eq_true rfl) dX8_smallest_42 ⟨Nat.zero_le _, Nat.zero_le _⟩ ?_
        exact q_ret C dX8_smallest_45 hv
      · have hv := qT c_31_k_7 hv
        refine lv_iinc (v := (y3 + 1)) (lv' := [(3, .int (y3 + 1)), (0, .ref (a0 0)), (1, .int y1), (2, .int y2)]) hx hb dX8_smallest_34 hl (k := 3) rfl (by rfl) (by decide) rfl (fun ls hl => ?_)
        refine lv_goto (tgt := 2) hx hb dX8_smallest_37 (by decide) ?_
        exact ih (y3 + 1) hv _ (lv_sub hl [1, 2, 3, 0] rfl)

set_option maxRecDepth 100000 in
set_option maxHeartbeats 4000000 in
theorem kX8_smallest (l : Launch) (D : va_G) (E : Nat → ClassId) (a0 : Nat → Nat) {M0 : FS} {x1 : Int32} {x2 : Int32} {v : Int32} (hv : fX8_smallest M0 x1 x2 = some v) : PU l yX8_smallest wsX8_smallest (rmN 4 89) D E zNo ((wMod E a0 M0)) [.ref (a0 0), .int x1, .int x2] v := by
  refine PU.of (by decide) rfl (Nat.le_of_ble_eq_true rfl) ?_
  intro p e s m below meth c C hP hK hZ ls hl
  have hl : lv_has ls 4 [(0, .ref (a0 0)), (1, .int x1), (2, .int x2)] := hl
  obtain ⟨hx, hb, hr, hml, hown, hlocks, hts⟩ := id C
  unfold fX8_smallest at hv
  refine lv_iconst (v := 0) hx hb dX8_smallest_0 (by decide) ?_
  refine lv_istore_n (lv' := [(3, .int (0:Int32)), (0, .ref (a0 0)), (1, .int x1), (2, .int x2)]) hx hb dX8_smallest_1 rfl hl (by decide) rfl (fun ls hl => ?_)
  exact wfX8_smallest_L2 C hP hK hZ  6000 (0:Int32) hv _ (lv_sub hl [1, 2, 3, 0] rfl)

theorem lkX8_far_7 : (.fieldLink RX8 7 "QuarterTilesModel" "now" "[I" : Cond) ∈ wsX8_far := by decide +kernel
theorem hiX8_far_X8 : ∀ w ∈ wsX80, w ∈ wsX8_far := by decide +kernel
set_option maxRecDepth 100000 in
set_option maxHeartbeats 4000000 in
theorem kX8_far (l : Launch) (D : va_G) (E : Nat → ClassId) (a0 : Nat → Nat) {M0 : FS} {x1 : Int32} {x2 : Int32} {x3 : Int32} {v : Int32} (hv : fX8_far M0 x1 x2 x3 = some v) : PU l yX8_far wsX8_far (rmN 0 0) D E zNo ((wMod E a0 M0)) [.ref (a0 0), .int x1, .int x2, .int x3] v := by
  refine PU.of (by decide) rfl (Nat.le_of_ble_eq_true rfl) ?_
  intro p e s m below meth c C hP hK hZ ls hl
  have hl : lv_has ls 6 [(0, .ref (a0 0)), (1, .int x1), (2, .int x2), (3, .int x3)] := hl
  obtain ⟨hx, hb, hr, hml, hown, hlocks, hts⟩ := id C
  unfold fX8_far at hv
  refine lv_aload_n hx hb dX8_far_0 rfl (lv_at hl 0 rfl) ?_
  refine va_get (D := D) (ci := 7) (v := .ref (a0 1)) (C := RX8) (T := TX8) (N := 14) hx hb hts hiX8_far_X8 hown hK hP 0 rfl rfl 0 (by decide) (hts _ lkX8_far_7) (fun _ h9 => h9) rfl dX8_far_1 ?_
  refine lv_iconst (v := 4) hx hb dX8_far_4 (by decide) ?_
  refine lv_iconst (v := 2) hx hb dX8_far_5 (by decide) ?_
  refine lv_iload_n hx hb dX8_far_6 rfl (lv_at hl 1 rfl) ?_
  refine lv_imul hx hb dX8_far_7 ?_
  refine lv_iadd hx hb dX8_far_8 ?_
  obtain ⟨x_1, hx_1, hv⟩ := qB hv
  refine q_ild hx hb hK hP 1 0 rfl rfl hx_1 dX8_far_9 ?_
  refine lv_iload_n hx hb dX8_far_10 rfl (lv_at hl 2 rfl) ?_
  refine lv_isub hx hb dX8_far_11 ?_
  refine lv_istore (lv' := [(4, .int (x_1 - x2)), (0, .ref (a0 0)), (1, .int x1), (2, .int x2), (3, .int x3)]) hx hb dX8_far_12 hl (by decide) rfl (fun ls hl => ?_)
  refine lv_aload_n hx hb dX8_far_14 rfl (lv_at hl 1 rfl) ?_
  refine va_get (D := D) (ci := 7) (v := .ref (a0 1)) (C := RX8) (T := TX8) (N := 14) hx hb hts hiX8_far_X8 hown hK hP 0 rfl rfl 0 (by decide) (hts _ lkX8_far_7) (fun _ h9 => h9) rfl dX8_far_15 ?_
  refine lv_iconst (v := 4) hx hb dX8_far_18 (by decide) ?_
  refine lv_iconst (v := 2) hx hb dX8_far_19 (by decide) ?_
  refine lv_iload_n hx hb dX8_far_20 rfl (lv_at hl 2 rfl) ?_
  refine lv_imul hx hb dX8_far_21 ?_
  refine lv_iadd hx hb dX8_far_22 ?_
  refine lv_iconst (v := 1) hx hb dX8_far_23 (by decide) ?_
  refine lv_iadd hx hb dX8_far_24 ?_
  obtain ⟨x_2, hx_2, hv⟩ := qB hv
  refine q_ild hx hb hK hP 1 0 rfl rfl hx_2 dX8_far_25 ?_
  refine lv_iload_n hx hb dX8_far_26 rfl (lv_at hl 4 rfl) ?_
  refine lv_isub hx hb dX8_far_27 ?_
  refine lv_istore (lv' := [(5, .int (x_2 - x3)), (4, .int (x_1 - x2)), (0, .ref (a0 0)), (1, .int x1), (2, .int x2), (3, .int x3)]) hx hb dX8_far_28 hl (by decide) rfl (fun ls hl => ?_)
  refine lv_iload hx hb dX8_far_30 (lv_at hl 1 rfl) ?_
  refine lv_iload hx hb dX8_far_32 (lv_at hl 1 rfl) ?_
  refine lv_imul hx hb dX8_far_34 ?_
  refine lv_iload hx hb dX8_far_35 (lv_at hl 0 rfl) ?_
  refine lv_iload hx hb dX8_far_37 (lv_at hl 0 rfl) ?_
  refine lv_imul hx hb dX8_far_39 ?_
  refine lv_iadd hx hb dX8_far_40 ?_
  exact q_ret C dX8_far_41 hv

theorem lkX8_nearest_7 : (.fieldLink RX8 7 "QuarterTilesModel" "now" "[I" : Cond) ∈ wsX8_nearest := by decide +kernel
theorem hiX8_nearest_X8 : ∀ w ∈ wsX80, w ∈ wsX8_nearest := by decide +kernel
set_option maxRecDepth 100000 in
set_option maxHeartbeats 4000000 in
theorem wfX8_nearest_L29 {p : Program} {e : Env} {s : State} {m : MethodId} {below : List Frame} {meth : Method} {c : Code} {l : Launch} {D : va_G} {E : Nat → ClassId} {a0 : Nat → Nat} {M0 : FS} {x1 : Int32} {x2 : Int32} {x3 : Int32} {v : Int32} {y1 : Int32} {y2 : Int32} {y3 : Int32} (C : Ctx p s m meth c [.ref (a0 0), .int x1, .int x2, .int x3] wsX8_nearest cX8_nearest 6 (some .int) RX8) (hP : va_P D vwCl ((wMod E a0 M0)) s.heap) (hK : va_K D vwCl (tyE E) s) (hZ : zNo s s.heap) : ∀ (q : Nat) (y4 : Int32) (y5 : Int32), fX8_nearest_L29 M0 y1 y2 y3 q y4 y5 = some v → ∀ ls, lv_has ls 6 [(0, .ref (a0 0)), (1, .int y1), (2, .int y2), (3, .int y3), (4, .int y4), (5, .int y5)] → WP p l e (rmN 2 43) s m [.ref (a0 0), .int x1, .int x2, .int x3] below meth c v 29 ls [] := by
  obtain ⟨hx, hb, hr, hml, hown, hlocks, hts⟩ := id C
  intro q
  induction q with
  | zero =>
    intro y4 y5 hv
    cases hv
  | succ q ih =>
    intro y4 y5 hv ls hl
    rw [fX8_nearest_L29.eq_2] at hv
    refine lv_iload hx hb dX8_nearest_29 (lv_at hl 5 rfl) ?_
    refine lv_aload_n hx hb dX8_nearest_31 rfl (lv_at hl 0 rfl) ?_
    refine va_get (D := D) (ci := 7) (v := .ref (a0 1)) (C := RX8) (T := TX8) (N := 14) hx hb hts hiX8_nearest_X8 hown hK hP 0 rfl rfl 0 (by decide) (hts _ lkX8_nearest_7) (fun _ h9 => h9) rfl dX8_nearest_32 ?_
    refine lv_iconst (v := 0) hx hb dX8_nearest_35 (by decide) ?_
    refine q_ildc (f := (M0 0)) hx hb hK hP 1 0 rfl rfl 0 (by decide) (by unfold vp_in; decide) dX8_nearest_36 ?_
    refine lv_icmp_ge (tgt := 81) hx hb dX8_nearest_37 (by decide) (fun c_37_k_5 => ?_) (fun c_37_k_5 => ?_)
    · have hv := qT c_37_k_5 hv
      refine lv_iload hx hb dX8_nearest_81 (lv_at hl 4 rfl) ?_
      refine lv_bipush (v := -6) hx hb dX8_nearest_83 (by decide) ?_
      refine lv_icmp_eq (tgt := 92) hx hb dX8_nearest_85 (by decide) (fun c_85_k_6 => ?_) (fun c_85_k_6 => ?_)
      · have hv := qT c_85_k_6 hv
        refine lv_iload hx hb dX8_nearest_92 (lv_at hl 4 rfl) ?_
        refine lv_goto (tgt := 105) hx hb dX8_nearest_94 (by decide) ?_
        exact q_ret C dX8_nearest_105 hv
      · have hv := qF c_85_k_6 hv
        refine lv_iload_n hx hb dX8_nearest_88 rfl (lv_at hl 3 rfl) ?_
        refine lv_if_ne (tgt := 97) hx hb dX8_nearest_89 (by decide) (fun c_89_k_7 => ?_) (fun c_89_k_7 => ?_)
        · have hv := qF c_89_k_7 hv
          refine lv_aload_n hx hb dX8_nearest_97 rfl (lv_at hl 0 rfl) ?_
          refine lv_iload hx hb dX8_nearest_98 (lv_at hl 4 rfl) ?_
          refine lv_iload_n hx hb dX8_nearest_100 rfl (lv_at hl 1 rfl) ?_
          refine lv_iload_n hx hb dX8_nearest_101 rfl (lv_at hl 2 rfl) ?_
          obtain ⟨r_8, hr_8, hv⟩ := qB hv
          refine q_V (As := [.int y4, .int y1, .int y2]) (rest := []) (C := RX8) (T0 := TX8) (N0 := 14) (ci := 7) hx hb hml hown hts hl.1 (kX8_far l D E a0 hr_8) zNo_mv (cwV 3 hts gX8_nearest_X8_far rfl rfl rfl (by decide +kernel) ⟨Nat.le_of_ble_eq_true rfl, Nat.le_of_ble_eq_true rfl⟩) 0 rfl rfl (hP.sub (ws' := (wMod E a0 M0)) [0, 1, 2, 3, 4, 5, 6, 7, 8] rfl) hK hZ rfl rfl (Nat.le_of_ble_eq_true rfl) dX8_nearest_102 ⟨Nat.zero_le _, Nat.zero_le _⟩ ?_
          exact q_ret C dX8_nearest_105 hv
        · have hv := qT c_89_k_7 hv
          refine lv_iload hx hb dX8_nearest_92 (lv_at hl 4 rfl) ?_
          refine lv_goto (tgt := 105) hx hb dX8_nearest_94 (by decide) ?_
          exact q_ret C dX8_nearest_105 hv
    · have hv := qF c_37_k_5 hv
      refine lv_iload hx hb dX8_nearest_40 (lv_at hl 4 rfl) ?_
      refine lv_bipush (v := -6) hx hb dX8_nearest_42 (by decide) ?_
      refine lv_icmp_eq (tgt := 66) hx hb dX8_nearest_44 (by decide) (fun c_44_k_9 => ?_) (fun c_44_k_9 => ?_)
      · have hv := qT c_44_k_9 hv
        refine lv_iload hx hb dX8_nearest_66 (lv_at hl 5 rfl) ?_
        refine lv_goto (tgt := 73) hx hb dX8_nearest_68 (by decide) ?_
        refine lv_istore (lv' := [(4, .int y5), (0, .ref (a0 0)), (1, .int y1), (2, .int y2), (3, .int y3), (5, .int y5)]) hx hb dX8_nearest_73 hl (by decide) rfl (fun ls hl => ?_)
        refine lv_iinc (v := (y5 + 1)) (lv' := [(5, .int (y5 + 1)), (4, .int y5), (0, .ref (a0 0)), (1, .int y1), (2, .int y2), (3, .int y3)]) hx hb dX8_nearest_75 hl (k := 5) rfl (by rfl) (by decide) rfl (fun ls hl => ?_)
        refine lv_goto (tgt := 29) hx hb dX8_nearest_78 (by decide) ?_
        exact ih y5 (y5 + 1) hv _ (lv_sub hl [2, 3, 4, 5, 1, 0] rfl)
      · have hv := qF c_44_k_9 hv
        refine lv_aload_n hx hb dX8_nearest_47 rfl (lv_at hl 0 rfl) ?_
        refine lv_iload hx hb dX8_nearest_48 (lv_at hl 5 rfl) ?_
        refine lv_iload_n hx hb dX8_nearest_50 rfl (lv_at hl 1 rfl) ?_
        refine lv_iload_n hx hb dX8_nearest_51 rfl (lv_at hl 2 rfl) ?_
        obtain ⟨r_10, hr_10, hv⟩ := qB hv
        refine q_V (As := [.int y5, .int y1, .int y2]) (rest := []) (C := RX8) (T0 := TX8) (N0 := 14) (ci := 7) hx hb hml hown hts hl.1 (kX8_far l D E a0 hr_10) zNo_mv (cwV 3 hts gX8_nearest_X8_far rfl rfl rfl (by decide +kernel) ⟨Nat.le_of_ble_eq_true rfl, Nat.le_of_ble_eq_true rfl⟩) 0 rfl rfl (hP.sub (ws' := (wMod E a0 M0)) [0, 1, 2, 3, 4, 5, 6, 7, 8] rfl) hK hZ rfl rfl (Nat.le_of_ble_eq_true rfl) dX8_nearest_52 ⟨Nat.zero_le _, Nat.zero_le _⟩ ?_
        refine lv_aload_n hx hb dX8_nearest_55 rfl (lv_at hl 0 rfl) ?_
        refine lv_iload hx hb dX8_nearest_56 (lv_at hl 4 rfl) ?_
        refine lv_iload_n hx hb dX8_nearest_58 rfl (lv_at hl 1 rfl) ?_
        refine lv_iload_n hx hb dX8_nearest_59 rfl (lv_at hl 2 rfl) ?_
        obtain ⟨r_11, hr_11, hv⟩ := qB hv
        refine q_V (As := [.int y4, .int y1, .int y2]) (rest := [.int r_10]) (C := RX8) (T0 := TX8) (N0 := 14) (ci := 7) hx hb hml hown hts hl.1 (kX8_far l D E a0 hr_11) zNo_mv (cwV 3 hts gX8_nearest_X8_far rfl rfl rfl (by decide +kernel) ⟨Nat.le_of_ble_eq_true rfl, Nat.le_of_ble_eq_true rfl⟩) 0 rfl rfl (hP.sub (ws' := (wMod E a0 M0)) [0, 1, 2, 3, 4, 5, 6, 7, 8] rfl) hK hZ rfl rfl (Nat.le_of_ble_eq_true rfl) dX8_nearest_60 ⟨Nat.zero_le _, Nat.zero_le _⟩ ?_
        refine lv_icmp_ge (tgt := 71) hx hb dX8_nearest_63 (by decide) (fun c_63_k_12 => ?_) (fun c_63_k_12 => ?_)
        · have hv := qT c_63_k_12 hv
          refine lv_iload hx hb dX8_nearest_71 (lv_at hl 4 rfl) ?_
          refine lv_istore (lv' := [(4, .int y4), (0, .ref (a0 0)), (1, .int y1), (2, .int y2), (3, .int y3), (5, .int y5)]) hx hb dX8_nearest_73 hl (by decide) rfl (fun ls hl => ?_)
          refine lv_iinc (v := (y5 + 1)) (lv' := [(5, .int (y5 + 1)), (4, .int y4), (0, .ref (a0 0)), (1, .int y1), (2, .int y2), (3, .int y3)]) hx hb dX8_nearest_75 hl (k := 5) rfl (by rfl) (by decide) rfl (fun ls hl => ?_)
          refine lv_goto (tgt := 29) hx hb dX8_nearest_78 (by decide) ?_
          exact ih y4 (y5 + 1) hv _ (lv_sub hl [2, 3, 4, 5, 1, 0] rfl)
        · have hv := qF c_63_k_12 hv
          refine lv_iload hx hb dX8_nearest_66 (lv_at hl 5 rfl) ?_
          refine lv_goto (tgt := 73) hx hb dX8_nearest_68 (by decide) ?_
          refine lv_istore (lv' := [(4, .int y5), (0, .ref (a0 0)), (1, .int y1), (2, .int y2), (3, .int y3), (5, .int y5)]) hx hb dX8_nearest_73 hl (by decide) rfl (fun ls hl => ?_)
          refine lv_iinc (v := (y5 + 1)) (lv' := [(5, .int (y5 + 1)), (4, .int y5), (0, .ref (a0 0)), (1, .int y1), (2, .int y2), (3, .int y3)]) hx hb dX8_nearest_75 hl (k := 5) rfl (by rfl) (by decide) rfl (fun ls hl => ?_)
          refine lv_goto (tgt := 29) hx hb dX8_nearest_78 (by decide) ?_
          exact ih y5 (y5 + 1) hv _ (lv_sub hl [2, 3, 4, 5, 1, 0] rfl)

set_option maxRecDepth 100000 in
set_option maxHeartbeats 4000000 in
theorem kX8_nearest (l : Launch) (D : va_G) (E : Nat → ClassId) (a0 : Nat → Nat) {M0 : FS} {x1 : Int32} {x2 : Int32} {x3 : Int32} {v : Int32} (hv : fX8_nearest M0 x1 x2 x3 = some v) : PU l yX8_nearest wsX8_nearest (rmN 2 43) D E zNo ((wMod E a0 M0)) [.ref (a0 0), .int x1, .int x2, .int x3] v := by
  refine PU.of (by decide) rfl (Nat.le_of_ble_eq_true rfl) ?_
  intro p e s m below meth c C hP hK hZ ls hl
  have hl : lv_has ls 6 [(0, .ref (a0 0)), (1, .int x1), (2, .int x2), (3, .int x3)] := hl
  obtain ⟨hx, hb, hr, hml, hown, hlocks, hts⟩ := id C
  unfold fX8_nearest at hv
  refine lv_iload_n hx hb dX8_nearest_0 rfl (lv_at hl 1 rfl) ?_
  refine lv_iload_n hx hb dX8_nearest_1 rfl (lv_at hl 2 rfl) ?_
  obtain ⟨r_1, hr_1, hv⟩ := qB hv
  refine q_S (As := [.int x1, .int x2]) (rest := []) hx hb hml hown hts hl.1 (kX8_isPlace l D E  hr_1) zNo_mv (va_cwS 2 hts gX8_nearest_X8_isPlace rfl rfl rfl (by decide +kernel) ⟨Nat.le_of_ble_eq_true rfl, Nat.le_of_ble_eq_true rfl⟩) (hP.sub (ws' := []) [] rfl) hK hZ rfl rfl (Nat.le_of_ble_eq_true rfl) dX8_nearest_2 ⟨Nat.zero_le _, Nat.zero_le _⟩ ?_
  refine lv_if_ne (tgt := 10) hx hb dX8_nearest_5 (by decide) (fun c_5_k_2 => ?_) (fun c_5_k_2 => ?_)
  · have hv := qF c_5_k_2 hv
    refine lv_iload_n hx hb dX8_nearest_10 rfl (lv_at hl 3 rfl) ?_
    refine lv_iconst (v := 0) hx hb dX8_nearest_11 (by decide) ?_
    refine lv_iconst (v := 1) hx hb dX8_nearest_12 (by decide) ?_
    obtain ⟨r_3, hr_3, hv⟩ := qB hv
    refine q_S (As := [.int x3, .int (0:Int32), .int (1:Int32)]) (rest := []) hx hb hml hown hts hl.1 (kX8_in l D E  hr_3) zNo_mv (va_cwS 3 hts gX8_nearest_X8_in rfl rfl rfl (by decide +kernel) ⟨Nat.le_of_ble_eq_true rfl, Nat.le_of_ble_eq_true rfl⟩) (hP.sub (ws' := []) [] rfl) hK hZ rfl rfl (Nat.le_of_ble_eq_true rfl) dX8_nearest_13 ⟨Nat.zero_le _, Nat.zero_le _⟩ ?_
    refine lv_if_ne (tgt := 22) hx hb dX8_nearest_16 (by decide) (fun c_16_k_4 => ?_) (fun c_16_k_4 => ?_)
    · have hv := qF c_16_k_4 hv
      refine lv_bipush (v := -6) hx hb dX8_nearest_22 (by decide) ?_
      refine lv_istore (lv' := [(4, .int (-6:Int32)), (0, .ref (a0 0)), (1, .int x1), (2, .int x2), (3, .int x3)]) hx hb dX8_nearest_24 hl (by decide) rfl (fun ls hl => ?_)
      refine lv_iconst (v := 0) hx hb dX8_nearest_26 (by decide) ?_
      refine lv_istore (lv' := [(5, .int (0:Int32)), (4, .int (-6:Int32)), (0, .ref (a0 0)), (1, .int x1), (2, .int x2), (3, .int x3)]) hx hb dX8_nearest_27 hl (by decide) rfl (fun ls hl => ?_)
      exact wfX8_nearest_L29 C hP hK hZ  6000 (-6:Int32) (0:Int32) hv _ (lv_sub hl [2, 3, 4, 5, 1, 0] rfl)
    · have hv := qT c_16_k_4 hv
      refine lv_bipush (v := -2) hx hb dX8_nearest_19 (by decide) ?_
      exact q_ret C dX8_nearest_21 hv
  · have hv := qT c_5_k_2 hv
    refine lv_iconst (v := -1) hx hb dX8_nearest_8 (by decide) ?_
    exact q_ret C dX8_nearest_9 hv

theorem lkX8_sees_187 : (.fieldLink RX8 187 "QuarterTilesModel" "at" "I" : Cond) ∈ wsX8_sees := by decide +kernel
theorem hiX8_sees_X8 : ∀ w ∈ wsX80, w ∈ wsX8_sees := by decide +kernel
theorem lkX8_sees_160 : (.fieldLink RX8 160 "QuarterTilesModel" "padded" "I" : Cond) ∈ wsX8_sees := by decide +kernel
theorem lkX8_sees_26 : (.fieldLink RX8 26 "QuarterTilesModel" "pad" "[I" : Cond) ∈ wsX8_sees := by decide +kernel
set_option maxRecDepth 100000 in
set_option maxHeartbeats 4000000 in
theorem kX8_sees (l : Launch) (D : va_G) (E : Nat → ClassId) (a0 : Nat → Nat) {M0 : FS} {x1 : Int32} {x2 : Int32} {v : Int32} (hv : fX8_sees M0 x1 x2 = some v) : PU l yX8_sees wsX8_sees (rmN 1 22) D E zNo ((wMod E a0 M0)) [.ref (a0 0), .int x1, .int x2] v := by
  refine PU.of (by decide) rfl (Nat.le_of_ble_eq_true rfl) ?_
  intro p e s m below meth c C hP hK hZ ls hl
  have hl : lv_has ls 3 [(0, .ref (a0 0)), (1, .int x1), (2, .int x2)] := hl
  obtain ⟨hx, hb, hr, hml, hown, hlocks, hts⟩ := id C
  unfold fX8_sees at hv
  refine lv_aload_n hx hb dX8_sees_0 rfl (lv_at hl 0 rfl) ?_
  refine va_get (D := D) (ci := 7) (v := .int (M0 8 4)) (C := RX8) (T := TX8) (N := 14) hx hb hts hiX8_sees_X8 hown hK hP 0 rfl rfl 11 (by decide) (hts _ lkX8_sees_187) (fun _ h9 => h9) rfl dX8_sees_1 ?_
  refine lv_aload_n hx hb dX8_sees_4 rfl (lv_at hl 0 rfl) ?_
  refine va_get (D := D) (ci := 7) (v := .int (M0 8 1)) (C := RX8) (T := TX8) (N := 14) hx hb hts hiX8_sees_X8 hown hK hP 0 rfl rfl 7 (by decide) (hts _ lkX8_sees_160) (fun _ h9 => h9) rfl dX8_sees_5 ?_
  refine lv_icmp_ge (tgt := 32) hx hb dX8_sees_8 (by decide) (fun c_8_k_1 => ?_) (fun c_8_k_1 => ?_)
  · have hv := qT c_8_k_1 hv
    refine lv_iconst (v := 0) hx hb dX8_sees_32 (by decide) ?_
    exact q_retz C dX8_sees_33 hv
  · have hv := qF c_8_k_1 hv
    refine lv_aload_n hx hb dX8_sees_11 rfl (lv_at hl 0 rfl) ?_
    refine va_get (D := D) (ci := 7) (v := .ref (a0 6)) (C := RX8) (T := TX8) (N := 14) hx hb hts hiX8_sees_X8 hown hK hP 0 rfl rfl 6 (by decide) (hts _ lkX8_sees_26) (fun _ h9 => h9) rfl dX8_sees_12 ?_
    refine lv_aload_n hx hb dX8_sees_15 rfl (lv_at hl 0 rfl) ?_
    refine va_get (D := D) (ci := 7) (v := .int (M0 8 4)) (C := RX8) (T := TX8) (N := 14) hx hb hts hiX8_sees_X8 hown hK hP 0 rfl rfl 11 (by decide) (hts _ lkX8_sees_187) (fun _ h9 => h9) rfl dX8_sees_16 ?_
    obtain ⟨x_2, hx_2, hv⟩ := qB hv
    refine q_ild hx hb hK hP 6 0 rfl rfl hx_2 dX8_sees_19 ?_
    refine lv_iload_n hx hb dX8_sees_20 rfl (lv_at hl 1 rfl) ?_
    refine lv_iload_n hx hb dX8_sees_21 rfl (lv_at hl 2 rfl) ?_
    obtain ⟨r_3, hr_3, hv⟩ := qB hv
    refine q_S (As := [.int x_2, .int x1, .int x2]) (rest := []) hx hb hml hown hts hl.1 (kX8_in l D E  hr_3) zNo_mv (va_cwS 3 hts gX8_sees_X8_in rfl rfl rfl (by decide +kernel) ⟨Nat.le_of_ble_eq_true rfl, Nat.le_of_ble_eq_true rfl⟩) (hP.sub (ws' := []) [] rfl) hK hZ rfl rfl (Nat.le_of_ble_eq_true rfl) dX8_sees_22 ⟨Nat.zero_le _, Nat.zero_le _⟩ ?_
    refine lv_if_eq (tgt := 32) hx hb dX8_sees_25 (by decide) (fun c_25_k_4 => ?_) (fun c_25_k_4 => ?_)
    · have hv := qT c_25_k_4 hv
      refine lv_iconst (v := 0) hx hb dX8_sees_32 (by decide) ?_
      exact q_retz C dX8_sees_33 hv
    · have hv := qF c_25_k_4 hv
      refine lv_iconst (v := 1) hx hb dX8_sees_28 (by decide) ?_
      refine lv_goto (tgt := 33) hx hb dX8_sees_29 (by decide) ?_
      exact q_retz C dX8_sees_33 hv
