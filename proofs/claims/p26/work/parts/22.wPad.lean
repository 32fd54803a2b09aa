set_option maxRecDepth 100000 in
set_option maxHeartbeats 4000000 in
theorem kX2_codeIn (l : Launch) (D : va_G) (E : Nat → ClassId)  {x0 : Int64} {x2 : Int32} {v : Int32} (hv : fX2_codeIn x0 x2 = some v) : PU l yX2_codeIn wsX2_codeIn (rmN 0 0) D E zNo ([]) [.long x0, .int x2] v := by
  refine PU.of (by decide) rfl (Nat.le_of_ble_eq_true rfl) ?_
  intro p e s m below meth c C hP hK hZ ls hl
  have hl : lv_has ls 3 [(0, .long x0), (2, .int x2)] := hl
  obtain ⟨hx, hb, hr, hml, hown, hlocks, hts⟩ := id C
  unfold fX2_codeIn at hv
  refine lv_lload_n hx hb dX2_codeIn_0 rfl (lv_at hl 0 rfl) ?_
  refine lv_bipush (v := 8) hx hb dX2_codeIn_1 (by decide) ?_
  refine lv_iload_n hx hb dX2_codeIn_3 rfl (lv_at hl 1 rfl) ?_
  refine lv_imul hx hb dX2_codeIn_4 ?_
  refine lv_lushr (v := (x0.toUInt64 >>> (((8:Int32) * x2).toInt64.toUInt64 &&& Int64.toUInt64 63)).toInt64) hx hb dX2_codeIn_5 rfl ?_
  refine lv_l2i (v := (((x0.toUInt64 >>> (((8:Int32) * x2).toInt64.toUInt64 &&& Int64.toUInt64 63)).toInt64).toInt32)) hx hb dX2_codeIn_6 rfl ?_
  refine lv_sipush (v := 255) hx hb dX2_codeIn_7 (by decide) ?_
  refine lv_iand hx hb dX2_codeIn_10 ?_
  exact q_ret C dX2_codeIn_11 hv

set_option maxRecDepth 100000 in
set_option maxHeartbeats 4000000 in
theorem wfX2_charactersIn_L45 {p : Program} {e : Env} {s : State} {m : MethodId} {below : List Frame} {meth : Method} {c : Code} {l : Launch} {D : va_G} {E : Nat → ClassId} {x0 : Int64} {v : Int32} {y0 : Int64} {y2 : Int32} (C : Ctx p s m meth c [.long x0] wsX2_charactersIn cX2_charactersIn 4 (some .int) RX2) (hP : va_P D vwCl ([]) s.heap) (hK : va_K D vwCl (tyE E) s) (hZ : zNo s s.heap) : ∀ (q : Nat) (y3 : Int32), fX2_charactersIn_L45 y0 y2 q y3 = some v → ∀ ls, lv_has ls 4 [(0, .long y0), (2, .int y2), (3, .int y3)] → WP p l e (rmN 1 22) s m [.long x0] below meth c v 45 ls [] := by
  obtain ⟨hx, hb, hr, hml, hown, hlocks, hts⟩ := id C
  intro q
  induction q with
  | zero =>
    intro y3 hv
    cases hv
  | succ q ih =>
    intro y3 hv ls hl
    rw [fX2_charactersIn_L45.eq_2] at hv
    refine lv_iload_n hx hb dX2_charactersIn_45 rfl (lv_at hl 2 rfl) ?_
    refine lv_bipush (v := 8) hx hb dX2_charactersIn_46 (by decide) ?_
    refine lv_icmp_ge (tgt := 68) hx hb dX2_charactersIn_48 (by decide) (fun c_48_k_2 => ?_) (fun c_48_k_2 => ?_)
    · have hv := qT c_48_k_2 hv
      refine lv_iload_n hx hb dX2_charactersIn_68 rfl (lv_at hl 1 rfl) ?_
      refine lv_if_ne (tgt := 77) hx hb dX2_charactersIn_69 (by decide) (fun c_69_k_3 => ?_) (fun c_69_k_3 => ?_)
      · have hv := qF c_69_k_3 hv
        refine lv_iload_n hx hb dX2_charactersIn_77 rfl (lv_at hl 1 rfl) ?_
        exact q_ret C dX2_charactersIn_78 hv
      · have hv := qT c_69_k_3 hv
        refine lv_bipush (v := -6) hx hb dX2_charactersIn_72 (by decide) ?_
        refine lv_goto (tgt := 78) hx hb dX2_charactersIn_74 (by decide) ?_
        exact q_ret C dX2_charactersIn_78 hv
    · have hv := qF c_48_k_2 hv
      refine lv_lload_n hx hb dX2_charactersIn_51 rfl (lv_at hl 0 rfl) ?_
      refine lv_iload_n hx hb dX2_charactersIn_52 rfl (lv_at hl 2 rfl) ?_
      obtain ⟨r_4, hr_4, hv⟩ := qB hv
      refine q_S (As := [.long y0, .int y3]) (rest := []) hx hb hml hown hts hl.1 (kX2_codeIn l D E  hr_4) zNo_mv (va_cwS 2 hts gX2_charactersIn_X2_codeIn rfl rfl rfl (by decide +kernel) ⟨Nat.le_of_ble_eq_true rfl, Nat.le_of_ble_eq_true rfl⟩) (hP.sub (ws' := []) [] rfl) hK hZ rfl rfl (Nat.le_of_ble_eq_true rfl) dX2_charactersIn_53 ⟨Nat.zero_le _, Nat.zero_le _⟩ ?_
      refine lv_if_eq (tgt := 62) hx hb dX2_charactersIn_56 (by decide) (fun c_56_k_5 => ?_) (fun c_56_k_5 => ?_)
      · have hv := qT c_56_k_5 hv
        refine lv_iinc (v := (y3 + 1)) (lv' := [(3, .int (y3 + 1)), (0, .long y0), (2, .int y2)]) hx hb dX2_charactersIn_62 hl (k := 2) rfl (by rfl) (by decide) rfl (fun ls hl => ?_)
        refine lv_goto (tgt := 45) hx hb dX2_charactersIn_65 (by decide) ?_
        exact ih (y3 + 1) hv _ (lv_sub hl [1, 2, 0] rfl)
      · have hv := qF c_56_k_5 hv
        refine lv_bipush (v := -6) hx hb dX2_charactersIn_59 (by decide) ?_
        exact q_ret C dX2_charactersIn_61 hv

set_option maxRecDepth 100000 in
set_option maxHeartbeats 4000000 in
theorem wfX2_charactersIn_L2 {p : Program} {e : Env} {s : State} {m : MethodId} {below : List Frame} {meth : Method} {c : Code} {l : Launch} {D : va_G} {E : Nat → ClassId} {x0 : Int64} {v : Int32} {y0 : Int64} (C : Ctx p s m meth c [.long x0] wsX2_charactersIn cX2_charactersIn 4 (some .int) RX2) (hP : va_P D vwCl ([]) s.heap) (hK : va_K D vwCl (tyE E) s) (hZ : zNo s s.heap) : ∀ (q : Nat) (y2 : Int32), fX2_charactersIn_L2 y0 q y2 = some v → ∀ ls, lv_has ls 4 [(0, .long y0), (2, .int y2)] → WP p l e (rmN 1 22) s m [.long x0] below meth c v 2 ls [] := by
  obtain ⟨hx, hb, hr, hml, hown, hlocks, hts⟩ := id C
  intro q
  induction q with
  | zero =>
    intro y2 hv
    cases hv
  | succ q ih =>
    intro y2 hv ls hl
    rw [fX2_charactersIn_L2.eq_2] at hv
    refine lv_iload_n hx hb dX2_charactersIn_2 rfl (lv_at hl 1 rfl) ?_
    refine lv_bipush (v := 8) hx hb dX2_charactersIn_3 (by decide) ?_
    refine lv_icmp_ge (tgt := 43) hx hb dX2_charactersIn_5 (by decide) (fun c_5_k_1 => ?_) (fun c_5_k_1 => ?_)
    · have hv := qT c_5_k_1 hv
      refine lv_iload_n hx hb dX2_charactersIn_43 rfl (lv_at hl 1 rfl) ?_
      refine lv_istore_n (lv' := [(3, .int y2), (0, .long y0), (2, .int y2)]) hx hb dX2_charactersIn_44 rfl hl (by decide) rfl (fun ls hl => ?_)
      exact wfX2_charactersIn_L45 C hP hK hZ  6000 y2 hv _ (lv_sub hl [1, 2, 0] rfl)
    · have hv := qF c_5_k_1 hv
      refine lv_lload_n hx hb dX2_charactersIn_8 rfl (lv_at hl 0 rfl) ?_
      refine lv_iload_n hx hb dX2_charactersIn_9 rfl (lv_at hl 1 rfl) ?_
      obtain ⟨r_6, hr_6, hv⟩ := qB hv
      refine q_S (As := [.long y0, .int y2]) (rest := []) hx hb hml hown hts hl.1 (kX2_codeIn l D E  hr_6) zNo_mv (va_cwS 2 hts gX2_charactersIn_X2_codeIn rfl rfl rfl (by decide +kernel) ⟨Nat.le_of_ble_eq_true rfl, Nat.le_of_ble_eq_true rfl⟩) (hP.sub (ws' := []) [] rfl) hK hZ rfl rfl (Nat.le_of_ble_eq_true rfl) dX2_charactersIn_10 ⟨Nat.zero_le _, Nat.zero_le _⟩ ?_
      refine lv_if_eq (tgt := 43) hx hb dX2_charactersIn_13 (by decide) (fun c_13_k_7 => ?_) (fun c_13_k_7 => ?_)
      · have hv := qT c_13_k_7 hv
        refine lv_iload_n hx hb dX2_charactersIn_43 rfl (lv_at hl 1 rfl) ?_
        refine lv_istore_n (lv' := [(3, .int y2), (0, .long y0), (2, .int y2)]) hx hb dX2_charactersIn_44 rfl hl (by decide) rfl (fun ls hl => ?_)
        exact wfX2_charactersIn_L45 C hP hK hZ  6000 y2 hv _ (lv_sub hl [1, 2, 0] rfl)
      · have hv := qF c_13_k_7 hv
        refine lv_lload_n hx hb dX2_charactersIn_16 rfl (lv_at hl 0 rfl) ?_
        refine lv_iload_n hx hb dX2_charactersIn_17 rfl (lv_at hl 1 rfl) ?_
        obtain ⟨r_8, hr_8, hv⟩ := qB hv
        refine q_S (As := [.long y0, .int y2]) (rest := []) hx hb hml hown hts hl.1 (kX2_codeIn l D E  hr_8) zNo_mv (va_cwS 2 hts gX2_charactersIn_X2_codeIn rfl rfl rfl (by decide +kernel) ⟨Nat.le_of_ble_eq_true rfl, Nat.le_of_ble_eq_true rfl⟩) (hP.sub (ws' := []) [] rfl) hK hZ rfl rfl (Nat.le_of_ble_eq_true rfl) dX2_charactersIn_18 ⟨Nat.zero_le _, Nat.zero_le _⟩ ?_
        refine lv_istore_n (lv' := [(3, .int r_8), (0, .long y0), (2, .int y2)]) hx hb dX2_charactersIn_21 rfl hl (by decide) rfl (fun ls hl => ?_)
        refine lv_iload_n hx hb dX2_charactersIn_22 rfl (lv_at hl 0 rfl) ?_
        refine lv_bipush (v := 33) hx hb dX2_charactersIn_23 (by decide) ?_
        refine lv_icmp_lt (tgt := 34) hx hb dX2_charactersIn_25 (by decide) (fun c_25_k_9 => ?_) (fun c_25_k_9 => ?_)
        · have hv := qT c_25_k_9 hv
          refine lv_bipush (v := -6) hx hb dX2_charactersIn_34 (by decide) ?_
          exact q_ret C dX2_charactersIn_36 hv
        · have hv := qF c_25_k_9 hv
          refine lv_iload_n hx hb dX2_charactersIn_28 rfl (lv_at hl 0 rfl) ?_
          refine lv_bipush (v := 126) hx hb dX2_charactersIn_29 (by decide) ?_
          refine lv_icmp_le (tgt := 37) hx hb dX2_charactersIn_31 (by decide) (fun c_31_k_10 => ?_) (fun c_31_k_10 => ?_)
          · have hv := qT c_31_k_10 hv
            refine lv_iinc (v := (y2 + 1)) (lv' := [(2, .int (y2 + 1)), (3, .int r_8), (0, .long y0)]) hx hb dX2_charactersIn_37 hl (k := 2) rfl (by rfl) (by decide) rfl (fun ls hl => ?_)
            refine lv_goto (tgt := 2) hx hb dX2_charactersIn_40 (by decide) ?_
            exact ih (y2 + 1) hv _ (lv_sub hl [2, 0] rfl)
          · have hv := qF c_31_k_10 hv
            refine lv_bipush (v := -6) hx hb dX2_charactersIn_34 (by decide) ?_
            exact q_ret C dX2_charactersIn_36 hv

set_option maxRecDepth 100000 in
set_option maxHeartbeats 4000000 in
theorem kX2_charactersIn (l : Launch) (D : va_G) (E : Nat → ClassId)  {x0 : Int64} {v : Int32} (hv : fX2_charactersIn x0 = some v) : PU l yX2_charactersIn wsX2_charactersIn (rmN 1 22) D E zNo ([]) [.long x0] v := by
  refine PU.of (by decide) rfl (Nat.le_of_ble_eq_true rfl) ?_
  intro p e s m below meth c C hP hK hZ ls hl
  have hl : lv_has ls 4 [(0, .long x0)] := hl
  obtain ⟨hx, hb, hr, hml, hown, hlocks, hts⟩ := id C
  unfold fX2_charactersIn at hv
  refine lv_iconst (v := 0) hx hb dX2_charactersIn_0 (by decide) ?_
  refine lv_istore_n (lv' := [(2, .int (0:Int32)), (0, .long x0)]) hx hb dX2_charactersIn_1 rfl hl (by decide) rfl (fun ls hl => ?_)
  exact wfX2_charactersIn_L2 C hP hK hZ  6000 (0:Int32) hv _ (lv_sub hl [1, 0] rfl)

theorem lkX2_codeAt_22 : (.fieldLink RX2 22 "QuarterTiles$Pad" "length" "I" : Cond) ∈ wsX2_codeAt := by decide +kernel
theorem hiX2_codeAt_X2 : ∀ w ∈ wsX20, w ∈ wsX2_codeAt := by decide +kernel
theorem lkX2_codeAt_9 : (.fieldLink RX2 9 "QuarterTiles$Pad" "codes" "[I" : Cond) ∈ wsX2_codeAt := by decide +kernel
set_option maxRecDepth 100000 in
set_option maxHeartbeats 4000000 in
theorem kX2_codeAt (l : Launch) (D : va_G) (E : Nat → ClassId) (a0_0 a0_1 a0_2 : Nat) {S0 : FS} {x1 : Int32} {v : Int32} (hv : fX2_codeAt S0 x1 = some v) : PU l yX2_codeAt wsX2_codeAt (rmN 0 0) D E zNo ((wPad E a0_0 a0_1 a0_2 S0)) [.ref a0_0, .int x1] v := by
  refine PU.of (by decide) rfl (Nat.le_of_ble_eq_true rfl) ?_
  intro p e s m below meth c C hP hK hZ ls hl
  have hl : lv_has ls 2 [(0, .ref a0_0), (1, .int x1)] := hl
  obtain ⟨hx, hb, hr, hml, hown, hlocks, hts⟩ := id C
  unfold fX2_codeAt at hv
  refine lv_iload_n hx hb dX2_codeAt_0 rfl (lv_at hl 1 rfl) ?_
  refine lv_if_lt (tgt := 27) hx hb dX2_codeAt_1 (by decide) (fun c_1_k_1 => ?_) (fun c_1_k_1 => ?_)
  · have hv := qT c_1_k_1 hv
    refine lv_iconst (v := 0) hx hb dX2_codeAt_27 (by decide) ?_
    exact q_ret C dX2_codeAt_28 hv
  · have hv := qF c_1_k_1 hv
    refine lv_iload_n hx hb dX2_codeAt_4 rfl (lv_at hl 1 rfl) ?_
    refine lv_aload_n hx hb dX2_codeAt_5 rfl (lv_at hl 0 rfl) ?_
    refine va_get (D := D) (ci := 1) (v := .int (S0 2 0)) (C := RX2) (T := TX2) (N := 3) hx hb hts hiX2_codeAt_X2 hown hK hP 0 rfl rfl 2 (by decide) (hts _ lkX2_codeAt_22) (fun _ h9 => h9) rfl dX2_codeAt_6 ?_
    refine lv_icmp_ge (tgt := 27) hx hb dX2_codeAt_9 (by decide) (fun c_9_k_2 => ?_) (fun c_9_k_2 => ?_)
    · have hv := qT c_9_k_2 hv
      refine lv_iconst (v := 0) hx hb dX2_codeAt_27 (by decide) ?_
      exact q_ret C dX2_codeAt_28 hv
    · have hv := qF c_9_k_2 hv
      refine lv_iload_n hx hb dX2_codeAt_12 rfl (lv_at hl 1 rfl) ?_
      refine lv_bipush (v := 80) hx hb dX2_codeAt_13 (by decide) ?_
      refine lv_icmp_ge (tgt := 27) hx hb dX2_codeAt_15 (by decide) (fun c_15_k_3 => ?_) (fun c_15_k_3 => ?_)
      · have hv := qT c_15_k_3 hv
        refine lv_iconst (v := 0) hx hb dX2_codeAt_27 (by decide) ?_
        exact q_ret C dX2_codeAt_28 hv
      · have hv := qF c_15_k_3 hv
        refine lv_aload_n hx hb dX2_codeAt_18 rfl (lv_at hl 0 rfl) ?_
        refine va_get (D := D) (ci := 1) (v := .ref a0_1) (C := RX2) (T := TX2) (N := 3) hx hb hts hiX2_codeAt_X2 hown hK hP 0 rfl rfl 0 (by decide) (hts _ lkX2_codeAt_9) (fun _ h9 => h9) rfl dX2_codeAt_19 ?_
        refine lv_iload_n hx hb dX2_codeAt_22 rfl (lv_at hl 1 rfl) ?_
        obtain ⟨x_4, hx_4, hv⟩ := qB hv
        refine q_ild hx hb hK hP 1 0 rfl rfl hx_4 dX2_codeAt_23 ?_
        refine lv_goto (tgt := 28) hx hb dX2_codeAt_24 (by decide) ?_
        exact q_ret C dX2_codeAt_28 hv

set_option maxRecDepth 100000 in
set_option maxHeartbeats 4000000 in
theorem kX2_isDigit (l : Launch) (D : va_G) (E : Nat → ClassId)  {x0 : Int32} {v : Int32} (hv : fX2_isDigit x0 = some v) : PU l yX2_isDigit wsX2_isDigit (rmN 0 0) D E zNo ([]) [.int x0] v := by
  refine PU.of (by decide) rfl (Nat.le_of_ble_eq_true rfl) ?_
  intro p e s m below meth c C hP hK hZ ls hl
  have hl : lv_has ls 1 [(0, .int x0)] := hl
  obtain ⟨hx, hb, hr, hml, hown, hlocks, hts⟩ := id C
  unfold fX2_isDigit at hv
  refine lv_iload_n hx hb dX2_isDigit_0 rfl (lv_at hl 0 rfl) ?_
  refine lv_bipush (v := 48) hx hb dX2_isDigit_1 (by decide) ?_
  refine lv_icmp_lt (tgt := 16) hx hb dX2_isDigit_3 (by decide) (fun c_3_k_1 => ?_) (fun c_3_k_1 => ?_)
  · have hv := qT c_3_k_1 hv
    refine lv_iconst (v := 0) hx hb dX2_isDigit_16 (by decide) ?_
    exact q_retz C dX2_isDigit_17 hv
  · have hv := qF c_3_k_1 hv
    refine lv_iload_n hx hb dX2_isDigit_6 rfl (lv_at hl 0 rfl) ?_
    refine lv_bipush (v := 57) hx hb dX2_isDigit_7 (by decide) ?_
    refine lv_icmp_gt (tgt := 16) hx hb dX2_isDigit_9 (by decide) (fun c_9_k_2 => ?_) (fun c_9_k_2 => ?_)
    · have hv := qT c_9_k_2 hv
      refine lv_iconst (v := 0) hx hb dX2_isDigit_16 (by decide) ?_
      exact q_retz C dX2_isDigit_17 hv
    · have hv := qF c_9_k_2 hv
      refine lv_iconst (v := 1) hx hb dX2_isDigit_12 (by decide) ?_
      refine lv_goto (tgt := 17) hx hb dX2_isDigit_13 (by decide) ?_
      exact q_retz C dX2_isDigit_17 hv

set_option maxRecDepth 100000 in
set_option maxHeartbeats 4000000 in
theorem wfX2_withDigit_L34 {p : Program} {e : Env} {s : State} {m : MethodId} {below : List Frame} {meth : Method} {c : Code} {l : Launch} {D : va_G} {E : Nat → ClassId} {x0 : Int32} {x1 : Int32} {v : Int32} (C : Ctx p s m meth c [.int x0, .int x1] wsX2_withDigit cX2_withDigit 3 (some .int) RX2) (hP : va_P D vwCl ([]) s.heap) (hK : va_K D vwCl (tyE E) s) (hZ : zNo s s.heap) : ∀ (z0 : Int32), fX2_withDigit_L34 z0 = some v → ∀ ls, lv_has ls 3 [] → WP p l e (rmN 1 20) s m [.int x0, .int x1] below meth c v 34 ls [.int z0] := by
  obtain ⟨hx, hb, hr, hml, hown, hlocks, hts⟩ := id C
  intro z0 hv ls hl
  unfold fX2_withDigit_L34 at hv
  refine lv_istore_n (lv' := [(2, .int z0)]) hx hb dX2_withDigit_34 rfl hl (by decide) rfl (fun ls hl => ?_)
  refine lv_iload_n hx hb dX2_withDigit_35 rfl (lv_at hl 0 rfl) ?_
  refine lv_bipush (v := 64) hx hb dX2_withDigit_36 (by decide) ?_
  refine lv_icmp_ge (tgt := 45) hx hb dX2_withDigit_38 (by decide) (fun c_38_k_5 => ?_) (fun c_38_k_5 => ?_)
  · have hv := qT c_38_k_5 hv
    refine lv_iconst (v := -1) hx hb dX2_withDigit_45 (by decide) ?_
    exact q_ret C dX2_withDigit_46 hv
  · have hv := qF c_38_k_5 hv
    refine lv_iload_n hx hb dX2_withDigit_41 rfl (lv_at hl 0 rfl) ?_
    refine lv_goto (tgt := 46) hx hb dX2_withDigit_42 (by decide) ?_
    exact q_ret C dX2_withDigit_46 hv

set_option maxRecDepth 100000 in
set_option maxHeartbeats 4000000 in
theorem kX2_withDigit (l : Launch) (D : va_G) (E : Nat → ClassId)  {x0 : Int32} {x1 : Int32} {v : Int32} (hv : fX2_withDigit x0 x1 = some v) : PU l yX2_withDigit wsX2_withDigit (rmN 1 20) D E zNo ([]) [.int x0, .int x1] v := by
  refine PU.of (by decide) rfl (Nat.le_of_ble_eq_true rfl) ?_
  intro p e s m below meth c C hP hK hZ ls hl
  have hl : lv_has ls 3 [(0, .int x0), (1, .int x1)] := hl
  obtain ⟨hx, hb, hr, hml, hown, hlocks, hts⟩ := id C
  unfold fX2_withDigit at hv
  refine lv_iload_n hx hb dX2_withDigit_0 rfl (lv_at hl 1 rfl) ?_
  obtain ⟨r_1, hr_1, hv⟩ := qB hv
  refine q_S (As := [.int x1]) (rest := []) hx hb hml hown hts hl.1 (kX2_isDigit l D E  hr_1) zNo_mv (va_cwS 1 hts gX2_withDigit_X2_isDigit rfl rfl rfl (by decide +kernel) ⟨Nat.le_of_ble_eq_true rfl, Nat.le_of_ble_eq_true rfl⟩) (hP.sub (ws' := []) [] rfl) hK hZ rfl rfl (Nat.le_of_ble_eq_true rfl) dX2_withDigit_1 ⟨Nat.zero_le _, Nat.zero_le _⟩ ?_
  refine lv_if_eq (tgt := 11) hx hb dX2_withDigit_4 (by decide) (fun c_4_k_2 => ?_) (fun c_4_k_2 => ?_)
  · have hv := qT c_4_k_2 hv
    refine lv_iconst (v := -1) hx hb dX2_withDigit_11 (by decide) ?_
    exact q_ret C dX2_withDigit_12 hv
  · have hv := qF c_4_k_2 hv
    refine lv_iload_n hx hb dX2_withDigit_7 rfl (lv_at hl 0 rfl) ?_
    refine lv_if_ne (tgt := 13) hx hb dX2_withDigit_8 (by decide) (fun c_8_k_3 => ?_) (fun c_8_k_3 => ?_)
    · have hv := qF c_8_k_3 hv
      refine lv_iload_n hx hb dX2_withDigit_13 rfl (lv_at hl 0 rfl) ?_
      refine lv_iconst (v := -1) hx hb dX2_withDigit_14 (by decide) ?_
      refine lv_icmp_ne (tgt := 25) hx hb dX2_withDigit_15 (by decide) (fun c_15_k_4 => ?_) (fun c_15_k_4 => ?_)
      · have hv := qF c_15_k_4 hv
        refine lv_bipush (v := 10) hx hb dX2_withDigit_25 (by decide) ?_
        refine lv_iload_n hx hb dX2_withDigit_27 rfl (lv_at hl 0 rfl) ?_
        refine lv_imul hx hb dX2_withDigit_28 ?_
        refine lv_iload_n hx hb dX2_withDigit_29 rfl (lv_at hl 1 rfl) ?_
        refine lv_iadd hx hb dX2_withDigit_30 ?_
        refine lv_bipush (v := 48) hx hb dX2_withDigit_31 (by decide) ?_
        refine lv_isub hx hb dX2_withDigit_33 ?_
        exact wfX2_withDigit_L34 C hP hK hZ  ((((10:Int32) * x0) + x1) - (48:Int32)) hv _ (lv_sub hl [] rfl)
      · have hv := qT c_15_k_4 hv
        refine lv_iload_n hx hb dX2_withDigit_18 rfl (lv_at hl 1 rfl) ?_
        refine lv_bipush (v := 48) hx hb dX2_withDigit_19 (by decide) ?_
        refine lv_isub hx hb dX2_withDigit_21 ?_
        refine lv_goto (tgt := 34) hx hb dX2_withDigit_22 (by decide) ?_
        exact wfX2_withDigit_L34 C hP hK hZ  (x1 - (48:Int32)) hv _ (lv_sub hl [] rfl)
    · have hv := qT c_8_k_3 hv
      refine lv_iconst (v := -1) hx hb dX2_withDigit_11 (by decide) ?_
      exact q_ret C dX2_withDigit_12 hv

theorem lkX2_firstFault_22 : (.fieldLink RX2 22 "QuarterTiles$Pad" "length" "I" : Cond) ∈ wsX2_firstFault := by decide +kernel
theorem hiX2_firstFault_X2 : ∀ w ∈ wsX20, w ∈ wsX2_firstFault := by decide +kernel
set_option maxRecDepth 100000 in
set_option maxHeartbeats 4000000 in
theorem wfX2_firstFault_L57 {p : Program} {e : Env} {s : State} {m : MethodId} {below : List Frame} {meth : Method} {c : Code} {l : Launch} {D : va_G} {E : Nat → ClassId} {a0_0 a0_1 a0_2 : Nat} {S0 : FS} {v : Int32} (C : Ctx p s m meth c [.ref a0_0] wsX2_firstFault cX2_firstFault 5 (some .int) RX2) (hP : va_P D vwCl ((wPad E a0_0 a0_1 a0_2 S0)) s.heap) (hK : va_K D vwCl (tyE E) s) (hZ : zNo s s.heap) {g6 : Int32 → Int32 → Int32 → Option Int32} (hg6 : ∀ (y1 : Int32) (y2 : Int32) (y3 : Int32), g6 y1 y2 y3 = some v → ∀ ls, lv_has ls 5 [(0, .ref a0_0), (1, .int y1), (2, .int y2), (3, .int y3)] → WP p l e (rmN 2 42) s m [.ref a0_0] below meth c v 6 ls []) : ∀ (y1 : Int32) (y2 : Int32) (y3 : Int32) (y4 : Int32), fX2_firstFault_L57 S0 g6 y1 y2 y3 y4 = some v → ∀ ls, lv_has ls 5 [(0, .ref a0_0), (1, .int y1), (2, .int y2), (3, .int y3), (4, .int y4)] → WP p l e (rmN 2 42) s m [.ref a0_0] below meth c v 57 ls [] := by
  obtain ⟨hx, hb, hr, hml, hown, hlocks, hts⟩ := id C
  intro y1 y2 y3 y4 hv ls hl
  unfold fX2_firstFault_L57 at hv
  refine lv_iload_n hx hb dX2_firstFault_57 rfl (lv_at hl 1 rfl) ?_
  refine lv_iload hx hb dX2_firstFault_58 (lv_at hl 4 rfl) ?_
  obtain ⟨r_6, hr_6, hv⟩ := qB hv
  refine q_S (As := [.int y1, .int y4]) (rest := []) hx hb hml hown hts hl.1 (kX2_withDigit l D E  hr_6) zNo_mv (va_cwS 2 hts gX2_firstFault_X2_withDigit rfl rfl rfl (by decide +kernel) ⟨Nat.le_of_ble_eq_true rfl, Nat.le_of_ble_eq_true rfl⟩) (hP.sub (ws' := []) [] rfl) hK hZ rfl rfl (Nat.le_of_ble_eq_true rfl) dX2_firstFault_60 ⟨Nat.zero_le _, Nat.zero_le _⟩ ?_
  refine lv_istore_n (lv' := [(1, .int r_6), (0, .ref a0_0), (2, .int y2), (3, .int y3), (4, .int y4)]) hx hb dX2_firstFault_63 rfl hl (by decide) rfl (fun ls hl => ?_)
  refine lv_iload_n hx hb dX2_firstFault_64 rfl (lv_at hl 0 rfl) ?_
  refine lv_iconst (v := -1) hx hb dX2_firstFault_65 (by decide) ?_
  refine lv_icmp_ne (tgt := 71) hx hb dX2_firstFault_66 (by decide) (fun c_66_k_7 => ?_) (fun c_66_k_7 => ?_)
  · have hv := qF c_66_k_7 hv
    refine lv_iinc (v := (y3 + 1)) (lv' := [(3, .int (y3 + 1)), (1, .int r_6), (0, .ref a0_0), (2, .int y2), (4, .int y4)]) hx hb dX2_firstFault_71 hl (k := 3) rfl (by rfl) (by decide) rfl (fun ls hl => ?_)
    refine lv_goto (tgt := 6) hx hb dX2_firstFault_74 (by decide) ?_
    exact hg6 r_6 y2 (y3 + 1) hv _ (lv_sub hl [2, 1, 3, 0] rfl)
  · have hv := qT c_66_k_7 hv
    refine lv_iload_n hx hb dX2_firstFault_69 rfl (lv_at hl 3 rfl) ?_
    exact q_ret C dX2_firstFault_70 hv

set_option maxRecDepth 100000 in
set_option maxHeartbeats 4000000 in
theorem wfX2_firstFault_L39 {p : Program} {e : Env} {s : State} {m : MethodId} {below : List Frame} {meth : Method} {c : Code} {l : Launch} {D : va_G} {E : Nat → ClassId} {a0_0 a0_1 a0_2 : Nat} {S0 : FS} {v : Int32} (C : Ctx p s m meth c [.ref a0_0] wsX2_firstFault cX2_firstFault 5 (some .int) RX2) (hP : va_P D vwCl ((wPad E a0_0 a0_1 a0_2 S0)) s.heap) (hK : va_K D vwCl (tyE E) s) (hZ : zNo s s.heap) {g6 : Int32 → Int32 → Int32 → Option Int32} (hg6 : ∀ (y1 : Int32) (y2 : Int32) (y3 : Int32), g6 y1 y2 y3 = some v → ∀ ls, lv_has ls 5 [(0, .ref a0_0), (1, .int y1), (2, .int y2), (3, .int y3)] → WP p l e (rmN 2 42) s m [.ref a0_0] below meth c v 6 ls []) : ∀ (y1 : Int32) (y2 : Int32) (y3 : Int32) (y4 : Int32) (z0 : Int32) (z1 : Int32), fX2_firstFault_L39 S0 g6 y1 y2 y3 y4 z0 z1 = some v → ∀ ls, lv_has ls 5 [(0, .ref a0_0), (1, .int y1), (2, .int y2), (3, .int y3), (4, .int y4)] → WP p l e (rmN 2 42) s m [.ref a0_0] below meth c v 39 ls [.int z0, .int z1] := by
  obtain ⟨hx, hb, hr, hml, hown, hlocks, hts⟩ := id C
  intro y1 y2 y3 y4 z0 z1 hv ls hl
  unfold fX2_firstFault_L39 at hv
  refine lv_icmp_ne (tgt := 57) hx hb dX2_firstFault_39 (by decide) (fun c_39_k_9 => ?_) (fun c_39_k_9 => ?_)
  · have hv := qF c_39_k_9 hv
    exact wfX2_firstFault_L57 C hP hK hZ (hg6 := hg6) y1 y2 y3 y4 hv _ (lv_sub hl [0, 1, 2, 3, 4] rfl)
  · have hv := qT c_39_k_9 hv
    refine lv_iconst (v := -1) hx hb dX2_firstFault_42 (by decide) ?_
    refine lv_istore_n (lv' := [(1, .int (-1:Int32)), (0, .ref a0_0), (2, .int y2), (3, .int y3), (4, .int y4)]) hx hb dX2_firstFault_43 rfl hl (by decide) rfl (fun ls hl => ?_)
    refine lv_iload_n hx hb dX2_firstFault_44 rfl (lv_at hl 2 rfl) ?_
    refine lv_if_ne (tgt := 52) hx hb dX2_firstFault_45 (by decide) (fun c_45_k_10 => ?_) (fun c_45_k_10 => ?_)
    · have hv := qF c_45_k_10 hv
      refine lv_iconst (v := 0) hx hb dX2_firstFault_52 (by decide) ?_
      refine lv_istore_n (lv' := [(2, .int (0:Int32)), (1, .int (-1:Int32)), (0, .ref a0_0), (3, .int y3), (4, .int y4)]) hx hb dX2_firstFault_53 rfl hl (by decide) rfl (fun ls hl => ?_)
      refine lv_goto (tgt := 71) hx hb dX2_firstFault_54 (by decide) ?_
      refine lv_iinc (v := (y3 + 1)) (lv' := [(3, .int (y3 + 1)), (2, .int (0:Int32)), (1, .int (-1:Int32)), (0, .ref a0_0), (4, .int y4)]) hx hb dX2_firstFault_71 hl (k := 3) rfl (by rfl) (by decide) rfl (fun ls hl => ?_)
      refine lv_goto (tgt := 6) hx hb dX2_firstFault_74 (by decide) ?_
      exact hg6 (-1:Int32) (0:Int32) (y3 + 1) hv _ (lv_sub hl [3, 2, 1, 0] rfl)
    · have hv := qT c_45_k_10 hv
      refine lv_iconst (v := 1) hx hb dX2_firstFault_48 (by decide) ?_
      refine lv_goto (tgt := 53) hx hb dX2_firstFault_49 (by decide) ?_
      refine lv_istore_n (lv' := [(2, .int (1:Int32)), (1, .int (-1:Int32)), (0, .ref a0_0), (3, .int y3), (4, .int y4)]) hx hb dX2_firstFault_53 rfl hl (by decide) rfl (fun ls hl => ?_)
      refine lv_goto (tgt := 71) hx hb dX2_firstFault_54 (by decide) ?_
      refine lv_iinc (v := (y3 + 1)) (lv' := [(3, .int (y3 + 1)), (2, .int (1:Int32)), (1, .int (-1:Int32)), (0, .ref a0_0), (4, .int y4)]) hx hb dX2_firstFault_71 hl (k := 3) rfl (by rfl) (by decide) rfl (fun ls hl => ?_)
      refine lv_goto (tgt := 6) hx hb dX2_firstFault_74 (by decide) ?_
      exact hg6 (-1:Int32) (1:Int32) (y3 + 1) hv _ (lv_sub hl [3, 2, 1, 0] rfl)

set_option maxRecDepth 100000 in
set_option maxHeartbeats 4000000 in
theorem wfX2_firstFault_L6 {p : Program} {e : Env} {s : State} {m : MethodId} {below : List Frame} {meth : Method} {c : Code} {l : Launch} {D : va_G} {E : Nat → ClassId} {a0_0 a0_1 a0_2 : Nat} {S0 : FS} {v : Int32} (C : Ctx p s m meth c [.ref a0_0] wsX2_firstFault cX2_firstFault 5 (some .int) RX2) (hP : va_P D vwCl ((wPad E a0_0 a0_1 a0_2 S0)) s.heap) (hK : va_K D vwCl (tyE E) s) (hZ : zNo s s.heap) : ∀ (q : Nat) (y1 : Int32) (y2 : Int32) (y3 : Int32), fX2_firstFault_L6 S0 q y1 y2 y3 = some v → ∀ ls, lv_has ls 5 [(0, .ref a0_0), (1, .int y1), (2, .int y2), (3, .int y3)] → WP p l e (rmN 2 42) s m [.ref a0_0] below meth c v 6 ls [] := by
  obtain ⟨hx, hb, hr, hml, hown, hlocks, hts⟩ := id C
  intro q
  induction q with
  | zero =>
    intro y1 y2 y3 hv
    cases hv
  | succ q ih =>
    intro y1 y2 y3 hv ls hl
    rw [fX2_firstFault_L6.eq_2] at hv
    refine lv_iload_n hx hb dX2_firstFault_6 rfl (lv_at hl 3 rfl) ?_
    refine lv_aload_n hx hb dX2_firstFault_7 rfl (lv_at hl 0 rfl) ?_
    refine va_get (D := D) (ci := 1) (v := .int (S0 2 0)) (C := RX2) (T := TX2) (N := 3) hx hb hts hiX2_firstFault_X2 hown hK hP 0 rfl rfl 2 (by decide) (hts _ lkX2_firstFault_22) (fun _ h9 => h9) rfl dX2_firstFault_8 ?_
    refine lv_icmp_ge (tgt := 77) hx hb dX2_firstFault_11 (by decide) (fun c_11_k_1 => ?_) (fun c_11_k_1 => ?_)
    · have hv := qT c_11_k_1 hv
      refine lv_iload_n hx hb dX2_firstFault_77 rfl (lv_at hl 2 rfl) ?_
      refine lv_if_eq (tgt := 91) hx hb dX2_firstFault_78 (by decide) (fun c_78_k_2 => ?_) (fun c_78_k_2 => ?_)
      · have hv := qT c_78_k_2 hv
        refine lv_aload_n hx hb dX2_firstFault_91 rfl (lv_at hl 0 rfl) ?_
        refine va_get (D := D) (ci := 1) (v := .int (S0 2 0)) (C := RX2) (T := TX2) (N := 3) hx hb hts hiX2_firstFault_X2 hown hK hP 0 rfl rfl 2 (by decide) (hts _ lkX2_firstFault_22) (fun _ h9 => h9) rfl dX2_firstFault_92 ?_
        exact q_ret C dX2_firstFault_95 hv
      · have hv := qF c_78_k_2 hv
        refine lv_iload_n hx hb dX2_firstFault_81 rfl (lv_at hl 1 rfl) ?_
        refine lv_iconst (v := -1) hx hb dX2_firstFault_82 (by decide) ?_
        refine lv_icmp_eq (tgt := 91) hx hb dX2_firstFault_83 (by decide) (fun c_83_k_3 => ?_) (fun c_83_k_3 => ?_)
        · have hv := qT c_83_k_3 hv
          refine lv_aload_n hx hb dX2_firstFault_91 rfl (lv_at hl 0 rfl) ?_
          refine va_get (D := D) (ci := 1) (v := .int (S0 2 0)) (C := RX2) (T := TX2) (N := 3) hx hb hts hiX2_firstFault_X2 hown hK hP 0 rfl rfl 2 (by decide) (hts _ lkX2_firstFault_22) (fun _ h9 => h9) rfl dX2_firstFault_92 ?_
          exact q_ret C dX2_firstFault_95 hv
        · have hv := qF c_83_k_3 hv
          refine lv_bipush (v := -6) hx hb dX2_firstFault_86 (by decide) ?_
          refine lv_goto (tgt := 95) hx hb dX2_firstFault_88 (by decide) ?_
          exact q_ret C dX2_firstFault_95 hv
    · have hv := qF c_11_k_1 hv
      refine lv_aload_n hx hb dX2_firstFault_14 rfl (lv_at hl 0 rfl) ?_
      refine lv_iload_n hx hb dX2_firstFault_15 rfl (lv_at hl 3 rfl) ?_
      obtain ⟨r_4, hr_4, hv⟩ := qB hv
      refine q_V (As := [.int y3]) (rest := []) (C := RX2) (T0 := TX2) (N0 := 3) (ci := 1) hx hb hml hown hts hl.1 (kX2_codeAt l D E a0_0 a0_1 a0_2 hr_4) zNo_mv (cwV 1 hts gX2_firstFault_X2_codeAt rfl rfl rfl (by decide +kernel) ⟨Nat.le_of_ble_eq_true rfl, Nat.le_of_ble_eq_true rfl⟩) 0 rfl rfl (hP.sub (ws' := (wPad E a0_0 a0_1 a0_2 S0)) [0, 1, 2] rfl) hK hZ rfl rfl (Nat.le_of_ble_eq_true rfl) dX2_firstFault_16 ⟨Nat.zero_le _, Nat.zero_le _⟩ ?_
      refine lv_istore (lv' := [(4, .int r_4), (0, .ref a0_0), (1, .int y1), (2, .int y2), (3, .int y3)]) hx hb dX2_firstFault_19 hl (by decide) rfl (fun ls hl => ?_)
      refine lv_iload_n hx hb dX2_firstFault_21 rfl (lv_at hl 2 rfl) ?_
      refine lv_iconst (v := -1) hx hb dX2_firstFault_22 (by decide) ?_
      refine lv_icmp_eq (tgt := 57) hx hb dX2_firstFault_23 (by decide) (fun c_23_k_5 => ?_) (fun c_23_k_5 => ?_)
      · have hv := qT c_23_k_5 hv
        exact wfX2_firstFault_L57 C hP hK hZ (hg6 := ih) y1 y2 y3 r_4 hv _ (lv_sub hl [1, 2, 3, 4, 0] rfl)
      · have hv := qF c_23_k_5 hv
        refine lv_iload hx hb dX2_firstFault_26 (lv_at hl 0 rfl) ?_
        refine lv_iload_n hx hb dX2_firstFault_28 rfl (lv_at hl 3 rfl) ?_
        refine lv_if_eq (tgt := 37) hx hb dX2_firstFault_29 (by decide) (fun c_29_k_8 => ?_) (fun c_29_k_8 => ?_)
        · have hv := qT c_29_k_8 hv
          refine lv_bipush (v := 44) hx hb dX2_firstFault_37 (by decide) ?_
          exact wfX2_firstFault_L39 C hP hK hZ (hg6 := ih) y1 y2 y3 r_4 (44:Int32) r_4 hv _ (lv_sub hl [1, 2, 3, 4, 0] rfl)
        · have hv := qF c_29_k_8 hv
          refine lv_bipush (v := 59) hx hb dX2_firstFault_32 (by decide) ?_
          refine lv_goto (tgt := 39) hx hb dX2_firstFault_34 (by decide) ?_
          exact wfX2_firstFault_L39 C hP hK hZ (hg6 := ih) y1 y2 y3 r_4 (59:Int32) r_4 hv _ (lv_sub hl [1, 2, 3, 4, 0] rfl)

set_option maxRecDepth 100000 in
set_option maxHeartbeats 4000000 in
theorem kX2_firstFault (l : Launch) (D : va_G) (E : Nat → ClassId) (a0_0 a0_1 a0_2 : Nat) {S0 : FS} {v : Int32} (hv : fX2_firstFault S0 = some v) : PU l yX2_firstFault wsX2_firstFault (rmN 2 42) D E zNo ((wPad E a0_0 a0_1 a0_2 S0)) [.ref a0_0] v := by
  refine PU.of (by decide) rfl (Nat.le_of_ble_eq_true rfl) ?_
  intro p e s m below meth c C hP hK hZ ls hl
  have hl : lv_has ls 5 [(0, .ref a0_0)] := hl
  obtain ⟨hx, hb, hr, hml, hown, hlocks, hts⟩ := id C
  unfold fX2_firstFault at hv
  refine lv_iconst (v := -1) hx hb dX2_firstFault_0 (by decide) ?_
  refine lv_istore_n (lv' := [(1, .int (-1:Int32)), (0, .ref a0_0)]) hx hb dX2_firstFault_1 rfl hl (by decide) rfl (fun ls hl => ?_)
  refine lv_iconst (v := 0) hx hb dX2_firstFault_2 (by decide) ?_
  refine lv_istore_n (lv' := [(2, .int (0:Int32)), (1, .int (-1:Int32)), (0, .ref a0_0)]) hx hb dX2_firstFault_3 rfl hl (by decide) rfl (fun ls hl => ?_)
  refine lv_iconst (v := 0) hx hb dX2_firstFault_4 (by decide) ?_
  refine lv_istore_n (lv' := [(3, .int (0:Int32)), (2, .int (0:Int32)), (1, .int (-1:Int32)), (0, .ref a0_0)]) hx hb dX2_firstFault_5 rfl hl (by decide) rfl (fun ls hl => ?_)
  exact wfX2_firstFault_L6 C hP hK hZ  6000 (-1:Int32) (0:Int32) (0:Int32) hv _ (lv_sub hl [3, 2, 1, 0] rfl)

theorem lkX2_placeTold_15 : (.fieldLink RX2 15 "QuarterTiles$Pad" "placesTold" "[I" : Cond) ∈ wsX2_placeTold := by decide +kernel
theorem hiX2_placeTold_X2 : ∀ w ∈ wsX20, w ∈ wsX2_placeTold := by decide +kernel
set_option maxRecDepth 100000 in
set_option maxHeartbeats 4000000 in
theorem kX2_placeTold (l : Launch) (D : va_G) (E : Nat → ClassId) (a0_0 a0_1 a0_2 : Nat) {S0 : FS} {x1 : Int32} {v : Int32} (hv : fX2_placeTold S0 x1 = some v) : PU l yX2_placeTold wsX2_placeTold (rmN 0 0) D E zNo ((wPad E a0_0 a0_1 a0_2 S0)) [.ref a0_0, .int x1] v := by
  refine PU.of (by decide) rfl (Nat.le_of_ble_eq_true rfl) ?_
  intro p e s m below meth c C hP hK hZ ls hl
  have hl : lv_has ls 2 [(0, .ref a0_0), (1, .int x1)] := hl
  obtain ⟨hx, hb, hr, hml, hown, hlocks, hts⟩ := id C
  unfold fX2_placeTold at hv
  refine lv_iload_n hx hb dX2_placeTold_0 rfl (lv_at hl 1 rfl) ?_
  refine lv_if_lt (tgt := 22) hx hb dX2_placeTold_1 (by decide) (fun c_1_k_1 => ?_) (fun c_1_k_1 => ?_)
  · have hv := qT c_1_k_1 hv
    refine lv_bipush (v := -6) hx hb dX2_placeTold_22 (by decide) ?_
    exact q_ret C dX2_placeTold_24 hv
  · have hv := qF c_1_k_1 hv
    refine lv_iload_n hx hb dX2_placeTold_4 rfl (lv_at hl 1 rfl) ?_
    refine lv_aload_n hx hb dX2_placeTold_5 rfl (lv_at hl 0 rfl) ?_
    refine va_get (D := D) (ci := 1) (v := .ref a0_2) (C := RX2) (T := TX2) (N := 3) hx hb hts hiX2_placeTold_X2 hown hK hP 0 rfl rfl 1 (by decide) (hts _ lkX2_placeTold_15) (fun _ h9 => h9) rfl dX2_placeTold_6 ?_
    refine va_alen (v := 20) hx hb hK hP 2 0 rfl rfl (by rfl) dX2_placeTold_9 ?_
    refine lv_icmp_ge (tgt := 22) hx hb dX2_placeTold_10 (by decide) (fun c_10_k_2 => ?_) (fun c_10_k_2 => ?_)
    · have hv := qT c_10_k_2 hv
      refine lv_bipush (v := -6) hx hb dX2_placeTold_22 (by decide) ?_
      exact q_ret C dX2_placeTold_24 hv
    · have hv := qF c_10_k_2 hv
      refine lv_aload_n hx hb dX2_placeTold_13 rfl (lv_at hl 0 rfl) ?_
      refine va_get (D := D) (ci := 1) (v := .ref a0_2) (C := RX2) (T := TX2) (N := 3) hx hb hts hiX2_placeTold_X2 hown hK hP 0 rfl rfl 1 (by decide) (hts _ lkX2_placeTold_15) (fun _ h9 => h9) rfl dX2_placeTold_14 ?_
      refine lv_iload_n hx hb dX2_placeTold_17 rfl (lv_at hl 1 rfl) ?_
      obtain ⟨x_3, hx_3, hv⟩ := qB hv
      refine q_ild hx hb hK hP 2 0 rfl rfl hx_3 dX2_placeTold_18 ?_
      refine lv_goto (tgt := 24) hx hb dX2_placeTold_19 (by decide) ?_
      exact q_ret C dX2_placeTold_24 hv
