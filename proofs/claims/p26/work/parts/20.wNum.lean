set_option maxRecDepth 100000 in
set_option maxHeartbeats 4000000 in
theorem kX1_isPlace (l : Launch) (D : va_G) (E : Nat → ClassId)  {x0 : Int32} {x1 : Int32} {v : Int32} (hv : fX1_isPlace x0 x1 = some v) : PU l yX1_isPlace wsX1_isPlace (rmN 0 0) D E zNo ([]) [.int x0, .int x1] v := by
  refine PU.of (by decide) rfl (Nat.le_of_ble_eq_true rfl) ?_
  intro p e s m below meth c C hP hK hZ ls hl
  have hl : lv_has ls 2 [(0, .int x0), (1, .int x1)] := hl
  obtain ⟨hx, hb, hr, hml, hown, hlocks, hts⟩ := id C
  unfold fX1_isPlace at hv
  refine lv_iload_n hx hb dX1_isPlace_0 rfl (lv_at hl 0 rfl) ?_
  refine lv_if_lt (tgt := 24) hx hb dX1_isPlace_1 (by decide) (fun c_1_k_1 => ?_) (fun c_1_k_1 => ?_)
  · have hv := qT c_1_k_1 hv
    refine lv_iconst (v := 0) hx hb dX1_isPlace_24 (by decide) ?_
    exact q_retz C dX1_isPlace_25 hv
  · have hv := qF c_1_k_1 hv
    refine lv_iload_n hx hb dX1_isPlace_4 rfl (lv_at hl 0 rfl) ?_
    refine lv_bipush (v := 64) hx hb dX1_isPlace_5 (by decide) ?_
    refine lv_icmp_ge (tgt := 24) hx hb dX1_isPlace_7 (by decide) (fun c_7_k_2 => ?_) (fun c_7_k_2 => ?_)
    · have hv := qT c_7_k_2 hv
      refine lv_iconst (v := 0) hx hb dX1_isPlace_24 (by decide) ?_
      exact q_retz C dX1_isPlace_25 hv
    · have hv := qF c_7_k_2 hv
      refine lv_iload_n hx hb dX1_isPlace_10 rfl (lv_at hl 1 rfl) ?_
      refine lv_if_lt (tgt := 24) hx hb dX1_isPlace_11 (by decide) (fun c_11_k_3 => ?_) (fun c_11_k_3 => ?_)
      · have hv := qT c_11_k_3 hv
        refine lv_iconst (v := 0) hx hb dX1_isPlace_24 (by decide) ?_
        exact q_retz C dX1_isPlace_25 hv
      · have hv := qF c_11_k_3 hv
        refine lv_iload_n hx hb dX1_isPlace_14 rfl (lv_at hl 1 rfl) ?_
        refine lv_bipush (v := 64) hx hb dX1_isPlace_15 (by decide) ?_
        refine lv_icmp_ge (tgt := 24) hx hb dX1_isPlace_17 (by decide) (fun c_17_k_4 => ?_) (fun c_17_k_4 => ?_)
        · have hv := qT c_17_k_4 hv
          refine lv_iconst (v := 0) hx hb dX1_isPlace_24 (by decide) ?_
          exact q_retz C dX1_isPlace_25 hv
        · have hv := qF c_17_k_4 hv
          refine lv_iconst (v := 1) hx hb dX1_isPlace_20 (by decide) ?_
          refine lv_goto (tgt := 25) hx hb dX1_isPlace_21 (by decide) ?_
          exact q_retz C dX1_isPlace_25 hv

set_option maxRecDepth 100000 in
set_option maxHeartbeats 4000000 in
theorem wfX1_placeAt_L6 {p : Program} {e : Env} {s : State} {m : MethodId} {below : List Frame} {meth : Method} {c : Code} {l : Launch} {D : va_G} {E : Nat → ClassId} {x0 : Int32} {x1 : Int32} {v : Int32} {y0 : Int32} {y1 : Int32} (C : Ctx p s m meth c [.int x0, .int x1] wsX1_placeAt cX1_placeAt 4 (some .int) RX1) (hP : va_P D vwCl ([]) s.heap) (hK : va_K D vwCl (tyE E) s) (hZ : zNo s s.heap) : ∀ (q : Nat) (y2 : Int32) (y3 : Int32), fX1_placeAt_L6 y0 y1 q y2 y3 = some v → ∀ ls, lv_has ls 4 [(0, .int y0), (1, .int y1), (2, .int y2), (3, .int y3)] → WP p l e (rmN 0 0) s m [.int x0, .int x1] below meth c v 6 ls [] := by
  obtain ⟨hx, hb, hr, hml, hown, hlocks, hts⟩ := id C
  intro q
  induction q with
  | zero =>
    intro y2 y3 hv
    cases hv
  | succ q ih =>
    intro y2 y3 hv ls hl
    rw [fX1_placeAt_L6.eq_2] at hv
    refine lv_iload_n hx hb dX1_placeAt_6 rfl (lv_at hl 3 rfl) ?_
    refine lv_bipush (v := 6) hx hb dX1_placeAt_7 (by decide) ?_
    refine lv_icmp_ge (tgt := 44) hx hb dX1_placeAt_9 (by decide) (fun c_9_k_1 => ?_) (fun c_9_k_1 => ?_)
    · have hv := qT c_9_k_1 hv
      refine lv_iload_n hx hb dX1_placeAt_44 rfl (lv_at hl 2 rfl) ?_
      exact q_ret C dX1_placeAt_45 hv
    · have hv := qF c_9_k_1 hv
      refine lv_iload_n hx hb dX1_placeAt_12 rfl (lv_at hl 2 rfl) ?_
      refine lv_iload_n hx hb dX1_placeAt_13 rfl (lv_at hl 0 rfl) ?_
      refine lv_iload_n hx hb dX1_placeAt_14 rfl (lv_at hl 3 rfl) ?_
      refine lv_ishr hx hb dX1_placeAt_15 ?_
      refine lv_iconst (v := 1) hx hb dX1_placeAt_16 (by decide) ?_
      refine lv_iand hx hb dX1_placeAt_17 ?_
      refine lv_iconst (v := 2) hx hb dX1_placeAt_18 (by decide) ?_
      refine lv_iload_n hx hb dX1_placeAt_19 rfl (lv_at hl 3 rfl) ?_
      refine lv_imul hx hb dX1_placeAt_20 ?_
      refine lv_ishl hx hb dX1_placeAt_21 ?_
      refine lv_iadd hx hb dX1_placeAt_22 ?_
      refine lv_istore_n (lv' := [(2, .int (y2 + (((y0 >>> (y3 &&& 31)) &&& (1:Int32)) <<< (((2:Int32) * y3) &&& 31)))), (0, .int y0), (1, .int y1), (3, .int y3)]) hx hb dX1_placeAt_23 rfl hl (by decide) rfl (fun ls hl => ?_)
      refine lv_iload_n hx hb dX1_placeAt_24 rfl (lv_at hl 0 rfl) ?_
      refine lv_iload_n hx hb dX1_placeAt_25 rfl (lv_at hl 2 rfl) ?_
      refine lv_iload_n hx hb dX1_placeAt_26 rfl (lv_at hl 3 rfl) ?_
      refine lv_ishr hx hb dX1_placeAt_27 ?_
      refine lv_iconst (v := 1) hx hb dX1_placeAt_28 (by decide) ?_
      refine lv_iand hx hb dX1_placeAt_29 ?_
      refine lv_iconst (v := 2) hx hb dX1_placeAt_30 (by decide) ?_
      refine lv_iload_n hx hb dX1_placeAt_31 rfl (lv_at hl 3 rfl) ?_
      refine lv_imul hx hb dX1_placeAt_32 ?_
      refine lv_iconst (v := 1) hx hb dX1_placeAt_33 (by decide) ?_
      refine lv_iadd hx hb dX1_placeAt_34 ?_
      refine lv_ishl hx hb dX1_placeAt_35 ?_
      refine lv_iadd hx hb dX1_placeAt_36 ?_
      refine lv_istore_n (lv' := [(2, .int ((y2 + (((y0 >>> (y3 &&& 31)) &&& (1:Int32)) <<< (((2:Int32) * y3) &&& 31))) + (((y1 >>> (y3 &&& 31)) &&& (1:Int32)) <<< ((((2:Int32) * y3) + (1:Int32)) &&& 31)))), (0, .int y0), (1, .int y1), (3, .int y3)]) hx hb dX1_placeAt_37 rfl hl (by decide) rfl (fun ls hl => ?_)
      refine lv_iinc (v := (y3 + 1)) (lv' := [(3, .int (y3 + 1)), (2, .int ((y2 + (((y0 >>> (y3 &&& 31)) &&& (1:Int32)) <<< (((2:Int32) * y3) &&& 31))) + (((y1 >>> (y3 &&& 31)) &&& (1:Int32)) <<< ((((2:Int32) * y3) + (1:Int32)) &&& 31)))), (0, .int y0), (1, .int y1)]) hx hb dX1_placeAt_38 hl (k := 3) rfl (by rfl) (by decide) rfl (fun ls hl => ?_)
      refine lv_goto (tgt := 6) hx hb dX1_placeAt_41 (by decide) ?_
      exact ih ((y2 + (((y0 >>> (y3 &&& 31)) &&& (1:Int32)) <<< (((2:Int32) * y3) &&& 31))) + (((y1 >>> (y3 &&& 31)) &&& (1:Int32)) <<< ((((2:Int32) * y3) + (1:Int32)) &&& 31))) (y3 + 1) hv _ (lv_sub hl [2, 3, 1, 0] rfl)

set_option maxRecDepth 100000 in
set_option maxHeartbeats 4000000 in
theorem kX1_placeAt (l : Launch) (D : va_G) (E : Nat → ClassId)  {x0 : Int32} {x1 : Int32} {v : Int32} (hv : fX1_placeAt x0 x1 = some v) : PU l yX1_placeAt wsX1_placeAt (rmN 0 0) D E zNo ([]) [.int x0, .int x1] v := by
  refine PU.of (by decide) rfl (Nat.le_of_ble_eq_true rfl) ?_
  intro p e s m below meth c C hP hK hZ ls hl
  have hl : lv_has ls 4 [(0, .int x0), (1, .int x1)] := hl
  obtain ⟨hx, hb, hr, hml, hown, hlocks, hts⟩ := id C
  unfold fX1_placeAt at hv
  refine lv_sipush (v := 4096) hx hb dX1_placeAt_0 (by decide) ?_
  refine lv_istore_n (lv' := [(2, .int (4096:Int32)), (0, .int x0), (1, .int x1)]) hx hb dX1_placeAt_3 rfl hl (by decide) rfl (fun ls hl => ?_)
  refine lv_iconst (v := 0) hx hb dX1_placeAt_4 (by decide) ?_
  refine lv_istore_n (lv' := [(3, .int (0:Int32)), (2, .int (4096:Int32)), (0, .int x0), (1, .int x1)]) hx hb dX1_placeAt_5 rfl hl (by decide) rfl (fun ls hl => ?_)
  exact wfX1_placeAt_L6 C hP hK hZ  6000 (4096:Int32) (0:Int32) hv _ (lv_sub hl [2, 3, 1, 0] rfl)

set_option maxRecDepth 100000 in
set_option maxHeartbeats 4000000 in
theorem wfX1_depthOf_L2 {p : Program} {e : Env} {s : State} {m : MethodId} {below : List Frame} {meth : Method} {c : Code} {l : Launch} {D : va_G} {E : Nat → ClassId} {x0 : Int32} {v : Int32} {y0 : Int32} (C : Ctx p s m meth c [.int x0] wsX1_depthOf cX1_depthOf 2 (some .int) RX1) (hP : va_P D vwCl ([]) s.heap) (hK : va_K D vwCl (tyE E) s) (hZ : zNo s s.heap) : ∀ (q : Nat) (y1 : Int32), fX1_depthOf_L2 y0 q y1 = some v → ∀ ls, lv_has ls 2 [(0, .int y0), (1, .int y1)] → WP p l e (rmN 0 0) s m [.int x0] below meth c v 2 ls [] := by
  obtain ⟨hx, hb, hr, hml, hown, hlocks, hts⟩ := id C
  intro q
  induction q with
  | zero =>
    intro y1 hv
    cases hv
  | succ q ih =>
    intro y1 hv ls hl
    rw [fX1_depthOf_L2.eq_2] at hv
    refine lv_iload_n hx hb dX1_depthOf_2 rfl (lv_at hl 1 rfl) ?_
    refine lv_bipush (v := 6) hx hb dX1_depthOf_3 (by decide) ?_
    refine lv_icmp_gt (tgt := 25) hx hb dX1_depthOf_5 (by decide) (fun c_5_k_1 => ?_) (fun c_5_k_1 => ?_)
    · have hv := qT c_5_k_1 hv
      refine lv_bipush (v := -6) hx hb dX1_depthOf_25 (by decide) ?_
      exact q_ret C dX1_depthOf_27 hv
    · have hv := qF c_5_k_1 hv
      refine lv_iload_n hx hb dX1_depthOf_8 rfl (lv_at hl 0 rfl) ?_
      refine lv_iconst (v := 2) hx hb dX1_depthOf_9 (by decide) ?_
      refine lv_iload_n hx hb dX1_depthOf_10 rfl (lv_at hl 1 rfl) ?_
      refine lv_imul hx hb dX1_depthOf_11 ?_
      refine lv_ishr hx hb dX1_depthOf_12 ?_
      refine lv_iconst (v := 1) hx hb dX1_depthOf_13 (by decide) ?_
      refine lv_icmp_ne (tgt := 19) hx hb dX1_depthOf_14 (by decide) (fun c_14_k_2 => ?_) (fun c_14_k_2 => ?_)
      · have hv := qF c_14_k_2 hv
        refine lv_iinc (v := (y1 + 1)) (lv' := [(1, .int (y1 + 1)), (0, .int y0)]) hx hb dX1_depthOf_19 hl (k := 1) rfl (by rfl) (by decide) rfl (fun ls hl => ?_)
        refine lv_goto (tgt := 2) hx hb dX1_depthOf_22 (by decide) ?_
        exact ih (y1 + 1) hv _ (lv_sub hl [1, 0] rfl)
      · have hv := qT c_14_k_2 hv
        refine lv_iload_n hx hb dX1_depthOf_17 rfl (lv_at hl 1 rfl) ?_
        exact q_ret C dX1_depthOf_18 hv

set_option maxRecDepth 100000 in
set_option maxHeartbeats 4000000 in
theorem kX1_depthOf (l : Launch) (D : va_G) (E : Nat → ClassId)  {x0 : Int32} {v : Int32} (hv : fX1_depthOf x0 = some v) : PU l yX1_depthOf wsX1_depthOf (rmN 0 0) D E zNo ([]) [.int x0] v := by
  refine PU.of (by decide) rfl (Nat.le_of_ble_eq_true rfl) ?_
  intro p e s m below meth c C hP hK hZ ls hl
  have hl : lv_has ls 2 [(0, .int x0)] := hl
  obtain ⟨hx, hb, hr, hml, hown, hlocks, hts⟩ := id C
  unfold fX1_depthOf at hv
  refine lv_iconst (v := 0) hx hb dX1_depthOf_0 (by decide) ?_
  refine lv_istore_n (lv' := [(1, .int (0:Int32)), (0, .int x0)]) hx hb dX1_depthOf_1 rfl hl (by decide) rfl (fun ls hl => ?_)
  exact wfX1_depthOf_L2 C hP hK hZ  6000 (0:Int32) hv _ (lv_sub hl [1, 0] rfl)

set_option maxRecDepth 100000 in
set_option maxHeartbeats 4000000 in
theorem kX1_sizeAt (l : Launch) (D : va_G) (E : Nat → ClassId)  {x0 : Int32} {v : Int32} (hv : fX1_sizeAt x0 = some v) : PU l yX1_sizeAt wsX1_sizeAt (rmN 0 0) D E zNo ([]) [.int x0] v := by
  refine PU.of (by decide) rfl (Nat.le_of_ble_eq_true rfl) ?_
  intro p e s m below meth c C hP hK hZ ls hl
  have hl : lv_has ls 1 [(0, .int x0)] := hl
  obtain ⟨hx, hb, hr, hml, hown, hlocks, hts⟩ := id C
  unfold fX1_sizeAt at hv
  refine lv_bipush (v := 64) hx hb dX1_sizeAt_0 (by decide) ?_
  refine lv_iload_n hx hb dX1_sizeAt_2 rfl (lv_at hl 0 rfl) ?_
  refine lv_ishr hx hb dX1_sizeAt_3 ?_
  exact q_ret C dX1_sizeAt_4 hv

set_option maxRecDepth 100000 in
set_option maxHeartbeats 4000000 in
theorem kX1_upTo (l : Launch) (D : va_G) (E : Nat → ClassId)  {x0 : Int32} {x1 : Int32} {x2 : Int32} {v : Int32} (hv : fX1_upTo x0 x1 x2 = some v) : PU l yX1_upTo wsX1_upTo (rmN 0 0) D E zNo ([]) [.int x0, .int x1, .int x2] v := by
  refine PU.of (by decide) rfl (Nat.le_of_ble_eq_true rfl) ?_
  intro p e s m below meth c C hP hK hZ ls hl
  have hl : lv_has ls 3 [(0, .int x0), (1, .int x1), (2, .int x2)] := hl
  obtain ⟨hx, hb, hr, hml, hown, hlocks, hts⟩ := id C
  unfold fX1_upTo at hv
  refine lv_iload_n hx hb dX1_upTo_0 rfl (lv_at hl 0 rfl) ?_
  refine lv_iconst (v := 2) hx hb dX1_upTo_1 (by decide) ?_
  refine lv_iload_n hx hb dX1_upTo_2 rfl (lv_at hl 1 rfl) ?_
  refine lv_iload_n hx hb dX1_upTo_3 rfl (lv_at hl 2 rfl) ?_
  refine lv_isub hx hb dX1_upTo_4 ?_
  refine lv_imul hx hb dX1_upTo_5 ?_
  refine lv_ishr hx hb dX1_upTo_6 ?_
  exact q_ret C dX1_upTo_7 hv

set_option maxRecDepth 100000 in
set_option maxHeartbeats 4000000 in
theorem kX1_leastPlace (l : Launch) (D : va_G) (E : Nat → ClassId)  {x0 : Int32} {x1 : Int32} {v : Int32} (hv : fX1_leastPlace x0 x1 = some v) : PU l yX1_leastPlace wsX1_leastPlace (rmN 0 0) D E zNo ([]) [.int x0, .int x1] v := by
  refine PU.of (by decide) rfl (Nat.le_of_ble_eq_true rfl) ?_
  intro p e s m below meth c C hP hK hZ ls hl
  have hl : lv_has ls 2 [(0, .int x0), (1, .int x1)] := hl
  obtain ⟨hx, hb, hr, hml, hown, hlocks, hts⟩ := id C
  unfold fX1_leastPlace at hv
  refine lv_iload_n hx hb dX1_leastPlace_0 rfl (lv_at hl 0 rfl) ?_
  refine lv_iconst (v := 2) hx hb dX1_leastPlace_1 (by decide) ?_
  refine lv_bipush (v := 6) hx hb dX1_leastPlace_2 (by decide) ?_
  refine lv_iload_n hx hb dX1_leastPlace_4 rfl (lv_at hl 1 rfl) ?_
  refine lv_isub hx hb dX1_leastPlace_5 ?_
  refine lv_imul hx hb dX1_leastPlace_6 ?_
  refine lv_ishl hx hb dX1_leastPlace_7 ?_
  exact q_ret C dX1_leastPlace_8 hv

set_option maxRecDepth 100000 in
set_option maxHeartbeats 4000000 in
theorem wfX1_everySecondBit_L4 {p : Program} {e : Env} {s : State} {m : MethodId} {below : List Frame} {meth : Method} {c : Code} {l : Launch} {D : va_G} {E : Nat → ClassId} {x0 : Int32} {v : Int32} {y0 : Int32} (C : Ctx p s m meth c [.int x0] wsX1_everySecondBit cX1_everySecondBit 3 (some .int) RX1) (hP : va_P D vwCl ([]) s.heap) (hK : va_K D vwCl (tyE E) s) (hZ : zNo s s.heap) : ∀ (q : Nat) (y1 : Int32) (y2 : Int32), fX1_everySecondBit_L4 y0 q y1 y2 = some v → ∀ ls, lv_has ls 3 [(0, .int y0), (1, .int y1), (2, .int y2)] → WP p l e (rmN 0 0) s m [.int x0] below meth c v 4 ls [] := by
  obtain ⟨hx, hb, hr, hml, hown, hlocks, hts⟩ := id C
  intro q
  induction q with
  | zero =>
    intro y1 y2 hv
    cases hv
  | succ q ih =>
    intro y1 y2 hv ls hl
    rw [fX1_everySecondBit_L4.eq_2] at hv
    refine lv_iload_n hx hb dX1_everySecondBit_4 rfl (lv_at hl 2 rfl) ?_
    refine lv_bipush (v := 6) hx hb dX1_everySecondBit_5 (by decide) ?_
    refine lv_icmp_ge (tgt := 28) hx hb dX1_everySecondBit_7 (by decide) (fun c_7_k_1 => ?_) (fun c_7_k_1 => ?_)
    · have hv := qT c_7_k_1 hv
      refine lv_iload_n hx hb dX1_everySecondBit_28 rfl (lv_at hl 1 rfl) ?_
      exact q_ret C dX1_everySecondBit_29 hv
    · have hv := qF c_7_k_1 hv
      refine lv_iload_n hx hb dX1_everySecondBit_10 rfl (lv_at hl 1 rfl) ?_
      refine lv_iload_n hx hb dX1_everySecondBit_11 rfl (lv_at hl 0 rfl) ?_
      refine lv_iconst (v := 2) hx hb dX1_everySecondBit_12 (by decide) ?_
      refine lv_iload_n hx hb dX1_everySecondBit_13 rfl (lv_at hl 2 rfl) ?_
      refine lv_imul hx hb dX1_everySecondBit_14 ?_
      refine lv_ishr hx hb dX1_everySecondBit_15 ?_
      refine lv_iconst (v := 1) hx hb dX1_everySecondBit_16 (by decide) ?_
      refine lv_iand hx hb dX1_everySecondBit_17 ?_
      refine lv_iload_n hx hb dX1_everySecondBit_18 rfl (lv_at hl 2 rfl) ?_
      refine lv_ishl hx hb dX1_everySecondBit_19 ?_
      refine lv_iadd hx hb dX1_everySecondBit_20 ?_
      refine lv_istore_n (lv' := [(1, .int (y1 + (((y0 >>> (((2:Int32) * y2) &&& 31)) &&& (1:Int32)) <<< (y2 &&& 31)))), (0, .int y0), (2, .int y2)]) hx hb dX1_everySecondBit_21 rfl hl (by decide) rfl (fun ls hl => ?_)
      refine lv_iinc (v := (y2 + 1)) (lv' := [(2, .int (y2 + 1)), (1, .int (y1 + (((y0 >>> (((2:Int32) * y2) &&& 31)) &&& (1:Int32)) <<< (y2 &&& 31)))), (0, .int y0)]) hx hb dX1_everySecondBit_22 hl (k := 2) rfl (by rfl) (by decide) rfl (fun ls hl => ?_)
      refine lv_goto (tgt := 4) hx hb dX1_everySecondBit_25 (by decide) ?_
      exact ih (y1 + (((y0 >>> (((2:Int32) * y2) &&& 31)) &&& (1:Int32)) <<< (y2 &&& 31))) (y2 + 1) hv _ (lv_sub hl [2, 1, 0] rfl)

set_option maxRecDepth 100000 in
set_option maxHeartbeats 4000000 in
theorem kX1_everySecondBit (l : Launch) (D : va_G) (E : Nat → ClassId)  {x0 : Int32} {v : Int32} (hv : fX1_everySecondBit x0 = some v) : PU l yX1_everySecondBit wsX1_everySecondBit (rmN 0 0) D E zNo ([]) [.int x0] v := by
  refine PU.of (by decide) rfl (Nat.le_of_ble_eq_true rfl) ?_
  intro p e s m below meth c C hP hK hZ ls hl
  have hl : lv_has ls 3 [(0, .int x0)] := hl
  obtain ⟨hx, hb, hr, hml, hown, hlocks, hts⟩ := id C
  unfold fX1_everySecondBit at hv
  refine lv_iconst (v := 0) hx hb dX1_everySecondBit_0 (by decide) ?_
  refine lv_istore_n (lv' := [(1, .int (0:Int32)), (0, .int x0)]) hx hb dX1_everySecondBit_1 rfl hl (by decide) rfl (fun ls hl => ?_)
  refine lv_iconst (v := 0) hx hb dX1_everySecondBit_2 (by decide) ?_
  refine lv_istore_n (lv' := [(2, .int (0:Int32)), (1, .int (0:Int32)), (0, .int x0)]) hx hb dX1_everySecondBit_3 rfl hl (by decide) rfl (fun ls hl => ?_)
  exact wfX1_everySecondBit_L4 C hP hK hZ  6000 (0:Int32) (0:Int32) hv _ (lv_sub hl [2, 1, 0] rfl)

set_option maxRecDepth 100000 in
set_option maxHeartbeats 4000000 in
theorem kX1_leastX (l : Launch) (D : va_G) (E : Nat → ClassId)  {x0 : Int32} {x1 : Int32} {v : Int32} (hv : fX1_leastX x0 x1 = some v) : PU l yX1_leastX wsX1_leastX (rmN 1 22) D E zNo ([]) [.int x0, .int x1] v := by
  refine PU.of (by decide) rfl (Nat.le_of_ble_eq_true rfl) ?_
  intro p e s m below meth c C hP hK hZ ls hl
  have hl : lv_has ls 2 [(0, .int x0), (1, .int x1)] := hl
  obtain ⟨hx, hb, hr, hml, hown, hlocks, hts⟩ := id C
  unfold fX1_leastX at hv
  refine lv_iload_n hx hb dX1_leastX_0 rfl (lv_at hl 0 rfl) ?_
  refine lv_iload_n hx hb dX1_leastX_1 rfl (lv_at hl 1 rfl) ?_
  obtain ⟨r_1, hr_1, hv⟩ := qB hv
  refine q_S (As := [.int x0, .int x1]) (rest := []) hx hb hml hown hts hl.1 (kX1_leastPlace l D E  hr_1) zNo_mv (va_cwS 2 hts gX1_leastX_X1_leastPlace rfl rfl rfl (by decide +kernel) ⟨Nat.le_of_ble_eq_true rfl, Nat.le_of_ble_eq_true rfl⟩) (hP.sub (ws' := []) [] rfl) hK hZ rfl rfl (Nat.le_of_ble_eq_true rfl) dX1_leastX_2 ⟨Nat.zero_le _, Nat.zero_le _⟩ ?_
  obtain ⟨r_2, hr_2, hv⟩ := qB hv
  refine q_S (As := [.int r_1]) (rest := []) hx hb hml hown hts hl.1 (kX1_everySecondBit l D E  hr_2) zNo_mv (va_cwS 1 hts gX1_leastX_X1_everySecondBit rfl rfl rfl (by decide +kernel) ⟨Nat.le_of_ble_eq_true rfl, Nat.le_of_ble_eq_true rfl⟩) (hP.sub (ws' := []) [] rfl) hK hZ rfl rfl (Nat.le_of_ble_eq_true rfl) dX1_leastX_5 ⟨Nat.zero_le _, Nat.zero_le _⟩ ?_
  exact q_ret C dX1_leastX_8 hv

set_option maxRecDepth 100000 in
set_option maxHeartbeats 4000000 in
theorem kX1_leastY (l : Launch) (D : va_G) (E : Nat → ClassId)  {x0 : Int32} {x1 : Int32} {v : Int32} (hv : fX1_leastY x0 x1 = some v) : PU l yX1_leastY wsX1_leastY (rmN 1 22) D E zNo ([]) [.int x0, .int x1] v := by
  refine PU.of (by decide) rfl (Nat.le_of_ble_eq_true rfl) ?_
  intro p e s m below meth c C hP hK hZ ls hl
  have hl : lv_has ls 2 [(0, .int x0), (1, .int x1)] := hl
  obtain ⟨hx, hb, hr, hml, hown, hlocks, hts⟩ := id C
  unfold fX1_leastY at hv
  refine lv_iload_n hx hb dX1_leastY_0 rfl (lv_at hl 0 rfl) ?_
  refine lv_iload_n hx hb dX1_leastY_1 rfl (lv_at hl 1 rfl) ?_
  obtain ⟨r_1, hr_1, hv⟩ := qB hv
  refine q_S (As := [.int x0, .int x1]) (rest := []) hx hb hml hown hts hl.1 (kX1_leastPlace l D E  hr_1) zNo_mv (va_cwS 2 hts gX1_leastY_X1_leastPlace rfl rfl rfl (by decide +kernel) ⟨Nat.le_of_ble_eq_true rfl, Nat.le_of_ble_eq_true rfl⟩) (hP.sub (ws' := []) [] rfl) hK hZ rfl rfl (Nat.le_of_ble_eq_true rfl) dX1_leastY_2 ⟨Nat.zero_le _, Nat.zero_le _⟩ ?_
  refine lv_iconst (v := 1) hx hb dX1_leastY_5 (by decide) ?_
  refine lv_ishr hx hb dX1_leastY_6 ?_
  obtain ⟨r_2, hr_2, hv⟩ := qB hv
  refine q_S (As := [.int (r_1 >>> ((1:Int32) &&& 31))]) (rest := []) hx hb hml hown hts hl.1 (kX1_everySecondBit l D E  hr_2) zNo_mv (va_cwS 1 hts gX1_leastY_X1_everySecondBit rfl rfl rfl (by decide +kernel) ⟨Nat.le_of_ble_eq_true rfl, Nat.le_of_ble_eq_true rfl⟩) (hP.sub (ws' := []) [] rfl) hK hZ rfl rfl (Nat.le_of_ble_eq_true rfl) dX1_leastY_7 ⟨Nat.zero_le _, Nat.zero_le _⟩ ?_
  exact q_ret C dX1_leastY_10 hv

theorem lkX1_nextTo_25 : (.fieldLink RX1 25 "QuarterTiles$Numbers" "STEP_X" "[I" : Cond) ∈ wsX1_nextTo := by decide +kernel
theorem lkX1_nextTo_32 : (.fieldLink RX1 32 "QuarterTiles$Numbers" "STEP_Y" "[I" : Cond) ∈ wsX1_nextTo := by decide +kernel
set_option maxRecDepth 100000 in
set_option maxHeartbeats 4000000 in
theorem kX1_nextTo (l : Launch) (D : va_G) (E : Nat → ClassId) (t : Nat → Nat)  {x0 : Int32} {x1 : Int32} {x2 : Int32} {v : Int32} (hv : fX1_nextTo x0 x1 x2 = some v) : PU l yX1_nextTo wsX1_nextTo (rmN 2 43) D E (zSt t) ([]) [.int x0, .int x1, .int x2] v := by
  refine PU.of (by decide) rfl (Nat.le_of_ble_eq_true rfl) ?_
  intro p e s m below meth c C hP hK hZ ls hl
  have hl : lv_has ls 6 [(0, .int x0), (1, .int x1), (2, .int x2)] := hl
  obtain ⟨hx, hb, hr, hml, hown, hlocks, hts⟩ := id C
  unfold fX1_nextTo at hv
  refine lv_iload_n hx hb dX1_nextTo_0 rfl (lv_at hl 2 rfl) ?_
  refine lv_if_lt (tgt := 10) hx hb dX1_nextTo_1 (by decide) (fun c_1_k_1 => ?_) (fun c_1_k_1 => ?_)
  · have hv := qT c_1_k_1 hv
    refine lv_bipush (v := -6) hx hb dX1_nextTo_10 (by decide) ?_
    exact q_ret C dX1_nextTo_12 hv
  · have hv := qF c_1_k_1 hv
    refine lv_iload_n hx hb dX1_nextTo_4 rfl (lv_at hl 2 rfl) ?_
    refine lv_bipush (v := 8) hx hb dX1_nextTo_5 (by decide) ?_
    refine lv_icmp_lt (tgt := 13) hx hb dX1_nextTo_7 (by decide) (fun c_7_k_2 => ?_) (fun c_7_k_2 => ?_)
    · have hv := qT c_7_k_2 hv
      refine lv_iload_n hx hb dX1_nextTo_13 rfl (lv_at hl 1 rfl) ?_
      obtain ⟨r_3, hr_3, hv⟩ := qB hv
      refine q_S (As := [.int x1]) (rest := []) hx hb hml hown hts hl.1 (kX1_sizeAt l D E  hr_3) zNo_mv (va_cwS 1 hts gX1_nextTo_X1_sizeAt rfl rfl rfl (by decide +kernel) ⟨Nat.le_of_ble_eq_true rfl, Nat.le_of_ble_eq_true rfl⟩) (hP.sub (ws' := []) [] rfl) hK trivial rfl rfl (Nat.le_of_ble_eq_true rfl) dX1_nextTo_14 ⟨Nat.zero_le _, Nat.zero_le _⟩ ?_
      refine lv_istore_n (lv' := [(3, .int r_3), (0, .int x0), (1, .int x1), (2, .int x2)]) hx hb dX1_nextTo_17 rfl hl (by decide) rfl (fun ls hl => ?_)
      refine lv_iload_n hx hb dX1_nextTo_18 rfl (lv_at hl 1 rfl) ?_
      refine lv_iload_n hx hb dX1_nextTo_19 rfl (lv_at hl 2 rfl) ?_
      obtain ⟨r_4, hr_4, hv⟩ := qB hv
      refine q_S (As := [.int x0, .int x1]) (rest := []) hx hb hml hown hts hl.1 (kX1_leastX l D E  hr_4) zNo_mv (va_cwS 2 hts gX1_nextTo_X1_leastX rfl rfl rfl (by decide +kernel) ⟨Nat.le_of_ble_eq_true rfl, Nat.le_of_ble_eq_true rfl⟩) (hP.sub (ws' := []) [] rfl) hK trivial rfl rfl (Nat.le_of_ble_eq_true rfl) dX1_nextTo_20 ⟨Nat.zero_le _, Nat.zero_le _⟩ ?_
      refine va_gets (A := nA) (C := "QuarterTiles$Numbers") (n := "STEP_X") (d := "[I") (v := .ref (t 0)) hx hb (hZ.1) va_S.rf hown (hts _ lkX1_nextTo_25) (fun _ h9 => h9) dX1_nextTo_23 ?_
      refine lv_iload_n hx hb dX1_nextTo_26 rfl (lv_at hl 3 rfl) ?_
      obtain ⟨x_5, hx_5, hv⟩ := qB hv
      refine q_tld hx hb (hZ.2.1) va_S.rf hx_5 dX1_nextTo_27 ?_
      refine lv_iload_n hx hb dX1_nextTo_28 rfl (lv_at hl 0 rfl) ?_
      refine lv_imul hx hb dX1_nextTo_29 ?_
      refine lv_iadd hx hb dX1_nextTo_30 ?_
      refine lv_istore (lv' := [(4, .int (r_4 + (x_5 * r_3))), (3, .int r_3), (0, .int x0), (1, .int x1), (2, .int x2)]) hx hb dX1_nextTo_31 hl (by decide) rfl (fun ls hl => ?_)
      refine lv_iload_n hx hb dX1_nextTo_33 rfl (lv_at hl 2 rfl) ?_
      refine lv_iload_n hx hb dX1_nextTo_34 rfl (lv_at hl 3 rfl) ?_
      obtain ⟨r_6, hr_6, hv⟩ := qB hv
      refine q_S (As := [.int x0, .int x1]) (rest := []) hx hb hml hown hts hl.1 (kX1_leastY l D E  hr_6) zNo_mv (va_cwS 2 hts gX1_nextTo_X1_leastY rfl rfl rfl (by decide +kernel) ⟨Nat.le_of_ble_eq_true rfl, Nat.le_of_ble_eq_true rfl⟩) (hP.sub (ws' := []) [] rfl) hK trivial rfl rfl (Nat.le_of_ble_eq_true rfl) dX1_nextTo_35 ⟨Nat.zero_le _, Nat.zero_le _⟩ ?_
      refine va_gets (A := nA) (C := "QuarterTiles$Numbers") (n := "STEP_Y") (d := "[I") (v := .ref (t 1)) hx hb (hZ.2.2.1) va_S.rf hown (hts _ lkX1_nextTo_32) (fun _ h9 => h9) dX1_nextTo_38 ?_
      refine lv_iload_n hx hb dX1_nextTo_41 rfl (lv_at hl 4 rfl) ?_
      obtain ⟨x_7, hx_7, hv⟩ := qB hv
      refine q_tld hx hb (hZ.2.2.2.1) va_S.rf hx_7 dX1_nextTo_42 ?_
      refine lv_iload_n hx hb dX1_nextTo_43 rfl (lv_at hl 1 rfl) ?_
      refine lv_imul hx hb dX1_nextTo_44 ?_
      refine lv_iadd hx hb dX1_nextTo_45 ?_
      refine lv_istore (lv' := [(5, .int (r_6 + (x_7 * r_3))), (4, .int (r_4 + (x_5 * r_3))), (3, .int r_3), (0, .int x0), (1, .int x1), (2, .int x2)]) hx hb dX1_nextTo_46 hl (by decide) rfl (fun ls hl => ?_)
      refine lv_iload hx hb dX1_nextTo_48 (lv_at hl 1 rfl) ?_
      refine lv_iload hx hb dX1_nextTo_50 (lv_at hl 0 rfl) ?_
      obtain ⟨r_8, hr_8, hv⟩ := qB hv
      refine q_S (As := [.int (r_4 + (x_5 * r_3)), .int (r_6 + (x_7 * r_3))]) (rest := []) hx hb hml hown hts hl.1 (kX1_isPlace l D E  hr_8) zNo_mv (va_cwS 2 hts gX1_nextTo_X1_isPlace rfl rfl rfl (by decide +kernel) ⟨Nat.le_of_ble_eq_true rfl, Nat.le_of_ble_eq_true rfl⟩) (hP.sub (ws' := []) [] rfl) hK trivial rfl rfl (Nat.le_of_ble_eq_true rfl) dX1_nextTo_52 ⟨Nat.zero_le _, Nat.zero_le _⟩ ?_
      refine lv_if_eq (tgt := 74) hx hb dX1_nextTo_55 (by decide) (fun c_55_k_9 => ?_) (fun c_55_k_9 => ?_)
      · have hv := qT c_55_k_9 hv
        refine lv_bipush (v := -6) hx hb dX1_nextTo_74 (by decide) ?_
        exact q_ret C dX1_nextTo_76 hv
      · have hv := qF c_55_k_9 hv
        refine lv_iload hx hb dX1_nextTo_58 (lv_at hl 1 rfl) ?_
        refine lv_iload hx hb dX1_nextTo_60 (lv_at hl 0 rfl) ?_
        obtain ⟨r_10, hr_10, hv⟩ := qB hv
        refine q_S (As := [.int (r_4 + (x_5 * r_3)), .int (r_6 + (x_7 * r_3))]) (rest := []) hx hb hml hown hts hl.1 (kX1_placeAt l D E  hr_10) zNo_mv (va_cwS 2 hts gX1_nextTo_X1_placeAt rfl rfl rfl (by decide +kernel) ⟨Nat.le_of_ble_eq_true rfl, Nat.le_of_ble_eq_true rfl⟩) (hP.sub (ws' := []) [] rfl) hK trivial rfl rfl (Nat.le_of_ble_eq_true rfl) dX1_nextTo_62 ⟨Nat.zero_le _, Nat.zero_le _⟩ ?_
        refine lv_bipush (v := 6) hx hb dX1_nextTo_65 (by decide) ?_
        refine lv_iload_n hx hb dX1_nextTo_67 rfl (lv_at hl 4 rfl) ?_
        obtain ⟨r_11, hr_11, hv⟩ := qB hv
        refine q_S (As := [.int r_10, .int (6:Int32), .int x1]) (rest := []) hx hb hml hown hts hl.1 (kX1_upTo l D E  hr_11) zNo_mv (va_cwS 3 hts gX1_nextTo_X1_upTo rfl rfl rfl (by decide +kernel) ⟨Nat.le_of_ble_eq_true rfl, Nat.le_of_ble_eq_true rfl⟩) (hP.sub (ws' := []) [] rfl) hK trivial rfl rfl (Nat.le_of_ble_eq_true rfl) dX1_nextTo_68 ⟨Nat.zero_le _, Nat.zero_le _⟩ ?_
        refine lv_goto (tgt := 76) hx hb dX1_nextTo_71 (by decide) ?_
        exact q_ret C dX1_nextTo_76 hv
    · have hv := qF c_7_k_2 hv
      refine lv_bipush (v := -6) hx hb dX1_nextTo_10 (by decide) ?_
      exact q_ret C dX1_nextTo_12 hv

set_option maxRecDepth 100000 in
set_option maxHeartbeats 4000000 in
theorem kX1_squaresBetween (l : Launch) (D : va_G) (E : Nat → ClassId)  {x0 : Int32} {x1 : Int32} {x2 : Int32} {v : Int32} (hv : fX1_squaresBetween x0 x1 x2 = some v) : PU l yX1_squaresBetween wsX1_squaresBetween (rmN 2 43) D E zNo ([]) [.int x0, .int x1, .int x2] v := by
  refine PU.of (by decide) rfl (Nat.le_of_ble_eq_true rfl) ?_
  intro p e s m below meth c C hP hK hZ ls hl
  have hl : lv_has ls 5 [(0, .int x0), (1, .int x1), (2, .int x2)] := hl
  obtain ⟨hx, hb, hr, hml, hown, hlocks, hts⟩ := id C
  unfold fX1_squaresBetween at hv
  refine lv_iload_n hx hb dX1_squaresBetween_0 rfl (lv_at hl 0 rfl) ?_
  refine lv_bipush (v := 6) hx hb dX1_squaresBetween_1 (by decide) ?_
  obtain ⟨r_1, hr_1, hv⟩ := qB hv
  refine q_S (As := [.int x0, .int (6:Int32)]) (rest := []) hx hb hml hown hts hl.1 (kX1_leastX l D E  hr_1) zNo_mv (va_cwS 2 hts gX1_squaresBetween_X1_leastX rfl rfl rfl (by decide +kernel) ⟨Nat.le_of_ble_eq_true rfl, Nat.le_of_ble_eq_true rfl⟩) (hP.sub (ws' := []) [] rfl) hK hZ rfl rfl (Nat.le_of_ble_eq_true rfl) dX1_squaresBetween_3 ⟨Nat.zero_le _, Nat.zero_le _⟩ ?_
  refine lv_iload_n hx hb dX1_squaresBetween_6 rfl (lv_at hl 1 rfl) ?_
  refine lv_isub hx hb dX1_squaresBetween_7 ?_
  refine lv_istore_n (lv' := [(3, .int (r_1 - x1)), (0, .int x0), (1, .int x1), (2, .int x2)]) hx hb dX1_squaresBetween_8 rfl hl (by decide) rfl (fun ls hl => ?_)
  refine lv_iload_n hx hb dX1_squaresBetween_9 rfl (lv_at hl 1 rfl) ?_
  refine lv_bipush (v := 6) hx hb dX1_squaresBetween_10 (by decide) ?_
  obtain ⟨r_2, hr_2, hv⟩ := qB hv
  refine q_S (As := [.int x0, .int (6:Int32)]) (rest := []) hx hb hml hown hts hl.1 (kX1_leastY l D E  hr_2) zNo_mv (va_cwS 2 hts gX1_squaresBetween_X1_leastY rfl rfl rfl (by decide +kernel) ⟨Nat.le_of_ble_eq_true rfl, Nat.le_of_ble_eq_true rfl⟩) (hP.sub (ws' := []) [] rfl) hK hZ rfl rfl (Nat.le_of_ble_eq_true rfl) dX1_squaresBetween_12 ⟨Nat.zero_le _, Nat.zero_le _⟩ ?_
  refine lv_iload_n hx hb dX1_squaresBetween_15 rfl (lv_at hl 3 rfl) ?_
  refine lv_isub hx hb dX1_squaresBetween_16 ?_
  refine lv_istore (lv' := [(4, .int (r_2 - x2)), (3, .int (r_1 - x1)), (0, .int x0), (1, .int x1), (2, .int x2)]) hx hb dX1_squaresBetween_17 hl (by decide) rfl (fun ls hl => ?_)
  refine lv_iload_n hx hb dX1_squaresBetween_19 rfl (lv_at hl 1 rfl) ?_
  refine lv_iload_n hx hb dX1_squaresBetween_20 rfl (lv_at hl 1 rfl) ?_
  refine lv_imul hx hb dX1_squaresBetween_21 ?_
  refine lv_iload hx hb dX1_squaresBetween_22 (lv_at hl 0 rfl) ?_
  refine lv_iload hx hb dX1_squaresBetween_24 (lv_at hl 0 rfl) ?_
  refine lv_imul hx hb dX1_squaresBetween_26 ?_
  refine lv_iadd hx hb dX1_squaresBetween_27 ?_
  exact q_ret C dX1_squaresBetween_28 hv

theorem lkX6_meets_16 : (.fieldLink RX6 16 "QuarterTiles$Window" "toX" "I" : Cond) ∈ wsX6_meets := by decide +kernel
theorem hiX6_meets_X6 : ∀ w ∈ wsX60, w ∈ wsX6_meets := by decide +kernel
theorem lkX6_meets_7 : (.fieldLink RX6 7 "QuarterTiles$Window" "x" "I" : Cond) ∈ wsX6_meets := by decide +kernel
theorem lkX6_meets_19 : (.fieldLink RX6 19 "QuarterTiles$Window" "toY" "I" : Cond) ∈ wsX6_meets := by decide +kernel
theorem lkX6_meets_13 : (.fieldLink RX6 13 "QuarterTiles$Window" "y" "I" : Cond) ∈ wsX6_meets := by decide +kernel
set_option maxRecDepth 100000 in
set_option maxHeartbeats 4000000 in
theorem kX6_meets (l : Launch) (D : va_G) (E : Nat → ClassId) (a0_0 : Nat) {w0 : FA} {x1 : Int32} {x2 : Int32} {v : Int32} (hv : fX6_meets w0 x1 x2 = some v) : PU l yX6_meets wsX6_meets (rmN 2 43) D E zNo ((wWin a0_0 w0)) [.ref a0_0, .int x1, .int x2] v := by
  refine PU.of (by decide) rfl (Nat.le_of_ble_eq_true rfl) ?_
  intro p e s m below meth c C hP hK hZ ls hl
  have hl : lv_has ls 6 [(0, .ref a0_0), (1, .int x1), (2, .int x2)] := hl
  obtain ⟨hx, hb, hr, hml, hown, hlocks, hts⟩ := id C
  unfold fX6_meets at hv
  refine lv_iload_n hx hb dX6_meets_0 rfl (lv_at hl 1 rfl) ?_
  refine lv_iload_n hx hb dX6_meets_1 rfl (lv_at hl 2 rfl) ?_
  obtain ⟨r_1, hr_1, hv⟩ := qB hv
  refine q_S (As := [.int x1, .int x2]) (rest := []) hx hb hml hown hts hl.1 (kX1_leastX l D E  hr_1) zNo_mv (va_cwS 2 hts gX6_meets_X1_leastX rfl rfl rfl (by decide +kernel) ⟨Nat.le_of_ble_eq_true rfl, Nat.le_of_ble_eq_true rfl⟩) (hP.sub (ws' := []) [] rfl) hK hZ rfl rfl (Nat.le_of_ble_eq_true rfl) dX6_meets_2 ⟨Nat.zero_le _, Nat.zero_le _⟩ ?_
  refine lv_istore_n (lv' := [(3, .int r_1), (0, .ref a0_0), (1, .int x1), (2, .int x2)]) hx hb dX6_meets_5 rfl hl (by decide) rfl (fun ls hl => ?_)
  refine lv_iload_n hx hb dX6_meets_6 rfl (lv_at hl 2 rfl) ?_
  refine lv_iload_n hx hb dX6_meets_7 rfl (lv_at hl 3 rfl) ?_
  obtain ⟨r_2, hr_2, hv⟩ := qB hv
  refine q_S (As := [.int x1, .int x2]) (rest := []) hx hb hml hown hts hl.1 (kX1_leastY l D E  hr_2) zNo_mv (va_cwS 2 hts gX6_meets_X1_leastY rfl rfl rfl (by decide +kernel) ⟨Nat.le_of_ble_eq_true rfl, Nat.le_of_ble_eq_true rfl⟩) (hP.sub (ws' := []) [] rfl) hK hZ rfl rfl (Nat.le_of_ble_eq_true rfl) dX6_meets_8 ⟨Nat.zero_le _, Nat.zero_le _⟩ ?_
  refine lv_istore (lv' := [(4, .int r_2), (3, .int r_1), (0, .ref a0_0), (1, .int x1), (2, .int x2)]) hx hb dX6_meets_11 hl (by decide) rfl (fun ls hl => ?_)
  refine lv_iload_n hx hb dX6_meets_13 rfl (lv_at hl 4 rfl) ?_
  obtain ⟨r_3, hr_3, hv⟩ := qB hv
  refine q_S (As := [.int x2]) (rest := []) hx hb hml hown hts hl.1 (kX1_sizeAt l D E  hr_3) zNo_mv (va_cwS 1 hts gX6_meets_X1_sizeAt rfl rfl rfl (by decide +kernel) ⟨Nat.le_of_ble_eq_true rfl, Nat.le_of_ble_eq_true rfl⟩) (hP.sub (ws' := []) [] rfl) hK hZ rfl rfl (Nat.le_of_ble_eq_true rfl) dX6_meets_14 ⟨Nat.zero_le _, Nat.zero_le _⟩ ?_
  refine lv_istore (lv' := [(5, .int r_3), (4, .int r_2), (3, .int r_1), (0, .ref a0_0), (1, .int x1), (2, .int x2)]) hx hb dX6_meets_17 hl (by decide) rfl (fun ls hl => ?_)
  refine lv_iload_n hx hb dX6_meets_19 rfl (lv_at hl 2 rfl) ?_
  refine lv_aload_n hx hb dX6_meets_20 rfl (lv_at hl 3 rfl) ?_
  refine va_get (D := D) (ci := 5) (v := .int (w0 2)) (C := RX6) (T := TX6) (N := 4) hx hb hts hiX6_meets_X6 hown hK hP 0 rfl rfl 2 (by decide) (hts _ lkX6_meets_16) (fun _ h9 => h9) rfl dX6_meets_21 ?_
  refine lv_icmp_gt (tgt := 63) hx hb dX6_meets_24 (by decide) (fun c_24_k_4 => ?_) (fun c_24_k_4 => ?_)
  · have hv := qT c_24_k_4 hv
    refine lv_iconst (v := 0) hx hb dX6_meets_63 (by decide) ?_
    exact q_retz C dX6_meets_64 hv
  · have hv := qF c_24_k_4 hv
    refine lv_iload_n hx hb dX6_meets_27 rfl (lv_at hl 2 rfl) ?_
    refine lv_iload hx hb dX6_meets_28 (lv_at hl 0 rfl) ?_
    refine lv_iadd hx hb dX6_meets_30 ?_
    refine lv_aload_n hx hb dX6_meets_31 rfl (lv_at hl 3 rfl) ?_
    refine va_get (D := D) (ci := 5) (v := .int (w0 0)) (C := RX6) (T := TX6) (N := 4) hx hb hts hiX6_meets_X6 hown hK hP 0 rfl rfl 0 (by decide) (hts _ lkX6_meets_7) (fun _ h9 => h9) rfl dX6_meets_32 ?_
    refine lv_icmp_le (tgt := 63) hx hb dX6_meets_35 (by decide) (fun c_35_k_5 => ?_) (fun c_35_k_5 => ?_)
    · have hv := qT c_35_k_5 hv
      refine lv_iconst (v := 0) hx hb dX6_meets_63 (by decide) ?_
      exact q_retz C dX6_meets_64 hv
    · have hv := qF c_35_k_5 hv
      refine lv_iload hx hb dX6_meets_38 (lv_at hl 1 rfl) ?_
      refine lv_aload_n hx hb dX6_meets_40 rfl (lv_at hl 3 rfl) ?_
      refine va_get (D := D) (ci := 5) (v := .int (w0 3)) (C := RX6) (T := TX6) (N := 4) hx hb hts hiX6_meets_X6 hown hK hP 0 rfl rfl 3 (by decide) (hts _ lkX6_meets_19) (fun _ h9 => h9) rfl dX6_meets_41 ?_
      refine lv_icmp_gt (tgt := 63) hx hb dX6_meets_44 (by decide) (fun c_44_k_6 => ?_) (fun c_44_k_6 => ?_)
      · have hv := qT c_44_k_6 hv
        refine lv_iconst (v := 0) hx hb dX6_meets_63 (by decide) ?_
        exact q_retz C dX6_meets_64 hv
      · have hv := qF c_44_k_6 hv
        refine lv_iload hx hb dX6_meets_47 (lv_at hl 1 rfl) ?_
        refine lv_iload hx hb dX6_meets_49 (lv_at hl 0 rfl) ?_
        refine lv_iadd hx hb dX6_meets_51 ?_
        refine lv_aload_n hx hb dX6_meets_52 rfl (lv_at hl 3 rfl) ?_
        refine va_get (D := D) (ci := 5) (v := .int (w0 1)) (C := RX6) (T := TX6) (N := 4) hx hb hts hiX6_meets_X6 hown hK hP 0 rfl rfl 1 (by decide) (hts _ lkX6_meets_13) (fun _ h9 => h9) rfl dX6_meets_53 ?_
        refine lv_icmp_le (tgt := 63) hx hb dX6_meets_56 (by decide) (fun c_56_k_7 => ?_) (fun c_56_k_7 => ?_)
        · have hv := qT c_56_k_7 hv
          refine lv_iconst (v := 0) hx hb dX6_meets_63 (by decide) ?_
          exact q_retz C dX6_meets_64 hv
        · have hv := qF c_56_k_7 hv
          refine lv_iconst (v := 1) hx hb dX6_meets_59 (by decide) ?_
          refine lv_goto (tgt := 64) hx hb dX6_meets_60 (by decide) ?_
          exact q_retz C dX6_meets_64 hv
