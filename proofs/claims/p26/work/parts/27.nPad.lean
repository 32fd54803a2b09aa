theorem lkX2_append_22 : (.fieldLink RX2 22 "QuarterTiles$Pad" "length" "I" : Cond) ∈ wsX2_append := by decide +kernel
theorem hiX2_append_X2 : ∀ w ∈ wsX20, w ∈ wsX2_append := by decide +kernel
theorem lkX2_append_9 : (.fieldLink RX2 9 "QuarterTiles$Pad" "codes" "[I" : Cond) ∈ wsX2_append := by decide +kernel
set_option maxRecDepth 100000 in
set_option maxHeartbeats 4000000 in
theorem wfX2_append_L5 {p : Program} {e : Env} {s : State} {m : MethodId} {below : List Frame} {meth : Method} {c : Code} {l : Launch} {D : va_G} {E : Nat → ClassId} {a0_0 a0_1 a0_2 : Nat} {x1 : Int64} {x3 : Int32} {S09 : FS} {A : Nat → Prop} {y1 : Int64} (C : Ctx p s m meth c [.ref a0_0, .long x1, .int x3] wsX2_append cX2_append 5 none RX2) (hK : va_K D vwCl (tyE E) s) (hA : ∀ q : Nat, s.heap.size ≤ q → A q) : ∀ (q : Nat) (S0 : FS) (y4 : Int32), fX2_append_L5 y1 q S0 y4 = some (S09) → ∀ (H : Heap) (locs : List Loc) (ls : Array Slot), va_P D vwCl ((wPad E a0_0 a0_1 a0_2 S0)) H → va_D A ((wPad E a0_0 a0_1 a0_2 S0)) → va_S A s.heap H locs → lv_has ls 5 [(0, .ref a0_0), (1, .long y1), (4, .int y4)] → WV p l e (rmN 1 22) s m [.ref a0_0, .long x1, .int x3] below meth c D A (fun _ : Unit => (wPad E a0_0 a0_1 a0_2 S09)) 0 0 H locs 0 0 5 ls [] := by
  obtain ⟨hx, hb, hr, hml, hown, hlocks, hts⟩ := id C
  intro q
  induction q with
  | zero =>
    intro S0 y4 hv
    cases hv
  | succ q ih =>
    intro S0 y4 hv H locs ls hP hD hS hl
    rw [fX2_append_L5.eq_2] at hv
    refine lv_iload hx hb dX2_append_5 (lv_at hl 2 rfl) ?_
    refine lv_if_lt (tgt := 50) hx hb dX2_append_7 (by decide) (fun c_7_k_1 => ?_) (fun c_7_k_1 => ?_)
    · have hv := qT c_7_k_1 hv
      exact m_retv (F := (fun (Z9 : FS) => (fun _ : Unit => (wPad E a0_0 a0_1 a0_2 Z9)))) () C dX2_append_50 hv hP hD hS
    · have hv := qF c_7_k_1 hv
      refine lv_aload_n hx hb dX2_append_10 rfl (lv_at hl 0 rfl) ?_
      refine va_get (D := D) (ci := 1) (v := .int (S0 2 0)) (C := RX2) (T := TX2) (N := 3) hx hb hts hiX2_append_X2 hown hK hP 0 rfl rfl 2 (by decide) (hts _ lkX2_append_22) (fun _ h9 => h9) rfl dX2_append_11 ?_
      refine lv_bipush (v := 80) hx hb dX2_append_14 (by decide) ?_
      refine lv_icmp_ge (tgt := 50) hx hb dX2_append_16 (by decide) (fun c_16_k_2 => ?_) (fun c_16_k_2 => ?_)
      · have hv := qT c_16_k_2 hv
        exact m_retv (F := (fun (Z9 : FS) => (fun _ : Unit => (wPad E a0_0 a0_1 a0_2 Z9)))) () C dX2_append_50 hv hP hD hS
      · have hv := qF c_16_k_2 hv
        refine lv_aload_n hx hb dX2_append_19 rfl (lv_at hl 0 rfl) ?_
        refine va_get (D := D) (ci := 1) (v := .ref a0_1) (C := RX2) (T := TX2) (N := 3) hx hb hts hiX2_append_X2 hown hK hP 0 rfl rfl 0 (by decide) (hts _ lkX2_append_9) (fun _ h9 => h9) rfl dX2_append_20 ?_
        refine lv_aload_n hx hb dX2_append_23 rfl (lv_at hl 0 rfl) ?_
        refine va_get (D := D) (ci := 1) (v := .int (S0 2 0)) (C := RX2) (T := TX2) (N := 3) hx hb hts hiX2_append_X2 hown hK hP 0 rfl rfl 2 (by decide) (hts _ lkX2_append_22) (fun _ h9 => h9) rfl dX2_append_24 ?_
        refine lv_lload_n hx hb dX2_append_27 rfl (lv_at hl 1 rfl) ?_
        refine lv_iload hx hb dX2_append_28 (lv_at hl 2 rfl) ?_
        obtain ⟨r_3, hr_3, hv⟩ := qB hv
        refine q_S (As := [.long y1, .int y4]) (rest := [.int (S0 2 0), .ref a0_1]) hx hb hml hown hts hl.1 (kX2_codeIn l D E  hr_3) zNo_mv (va_cwS 2 hts gX2_append_X2_codeIn rfl rfl rfl (by decide +kernel) ⟨Nat.le_of_ble_eq_true rfl, Nat.le_of_ble_eq_true rfl⟩) (hP.sub (ws' := []) [] rfl) hK trivial rfl rfl (Nat.le_of_ble_eq_true rfl) dX2_append_30 ⟨Nat.zero_le _, Nat.zero_le _⟩ ?_
        obtain ⟨f_4, hf_4, hv⟩ := qB hv
        refine m_ist hx hb hK hP hD hS 1 0 rfl rfl hf_4 dX2_append_33 (fun H locs hP hD hS => ?_)
        obtain ⟨S0s_5, hS0s_5, hv⟩ := qB hv
        obtain ⟨hP, hD⟩ := m_st (F := fun Z9 : FS => (wPad E a0_0 a0_1 a0_2 Z9)) (Option.some.inj hS0s_5) hP hD
        refine lv_aload_n hx hb dX2_append_34 rfl (lv_at hl 0 rfl) ?_
        refine lv_dup hx hb dX2_append_35 rfl ?_
        refine va_get (D := D) (ci := 1) (v := .int (S0s_5 2 0)) (C := RX2) (T := TX2) (N := 3) hx hb hts hiX2_append_X2 hown hK hP 0 rfl rfl 2 (by decide) (hts _ lkX2_append_22) (fun _ h9 => h9) rfl dX2_append_36 ?_
        refine lv_iconst (v := 1) hx hb dX2_append_39 (by decide) ?_
        refine lv_iadd hx hb dX2_append_40 ?_
        refine va_put (D := D) (ci := 1) (v := .int ((S0s_5 2 0) + (1:Int32))) (ty := .int) (C := RX2) (T := TX2) (N := 3) hx hb hts hiX2_append_X2 tyX2 tyX2_ok nmX2 hown hK hP hD hS 0 rfl rfl 2 (by decide) (hts _ lkX2_append_22) (fun _ h9 => h9) rfl (by decide +kernel) rfl rfl (Nat.le_of_ble_eq_true rfl) dX2_append_41 (fun H locs hP hD hS => ?_)
        obtain ⟨S0s_6, hS0s_6, hv⟩ := qB hv
        obtain ⟨hP, hD⟩ := m_st (F := fun Z9 : FS => (wPad E a0_0 a0_1 a0_2 Z9)) (Option.some.inj hS0s_6) hP hD
        refine lv_iinc (v := (y4 + (-1))) (lv' := [(4, .int (y4 + (-1))), (0, .ref a0_0), (1, .long y1)]) hx hb dX2_append_44 hl (k := 2) rfl (by rfl) (by decide) rfl (fun ls hl => ?_)
        refine lv_goto (tgt := 5) hx hb dX2_append_47 (by decide) ?_
        exact ih S0s_6 (y4 + (-1)) hv _ _ _ hP hD hS (lv_sub hl [1, 2, 0] rfl)

set_option maxRecDepth 100000 in
set_option maxHeartbeats 4000000 in
theorem kX2_append (l : Launch) (D : va_G) (E : Nat → ClassId) (a0_0 a0_1 a0_2 : Nat) {S0 : FS} {x1 : Int64} {x3 : Int32} {S09 : FS} (sz : Nat) (hv : fX2_append S0 x1 x3 = some (S09)) : MV l yX2_append wsX2_append (rmN 1 22) D E ((wPad E a0_0 a0_1 a0_2 S0)) sz [.ref a0_0, .long x1, .int x3] (fun _ : Unit => (wPad E a0_0 a0_1 a0_2 S09)) 0 0 := by
  refine MV.of (by decide) rfl (Nat.le_of_ble_eq_true rfl) ?_
  intro p e s m below meth c A H locs C hP hK hD hS hA ls hl
  have hl : lv_has ls 5 [(0, .ref a0_0), (1, .long x1), (3, .int x3)] := hl
  obtain ⟨hx, hb, hr, hml, hown, hlocks, hts⟩ := id C
  unfold fX2_append at hv
  refine lv_iload_n hx hb dX2_append_0 rfl (lv_at hl 2 rfl) ?_
  refine lv_iconst (v := 1) hx hb dX2_append_1 (by decide) ?_
  refine lv_isub hx hb dX2_append_2 ?_
  refine lv_istore (lv' := [(4, .int (x3 - (1:Int32))), (0, .ref a0_0), (1, .long x1), (3, .int x3)]) hx hb dX2_append_3 hl (by decide) rfl (fun ls hl => ?_)
  exact wfX2_append_L5 C hK hA  6000 S0 (x3 - (1:Int32)) hv _ _ _ hP hD hS (lv_sub hl [1, 2, 0] rfl)

theorem lkX2_empty_22 : (.fieldLink RX2 22 "QuarterTiles$Pad" "length" "I" : Cond) ∈ wsX2_empty := by decide +kernel
theorem hiX2_empty_X2 : ∀ w ∈ wsX20, w ∈ wsX2_empty := by decide +kernel
set_option maxRecDepth 100000 in
set_option maxHeartbeats 4000000 in
theorem kX2_empty (l : Launch) (D : va_G) (E : Nat → ClassId) (a0_0 a0_1 a0_2 : Nat) {S0 : FS} {S09 : FS} (sz : Nat) (hv : fX2_empty S0 = some (S09)) : MV l yX2_empty wsX2_empty (rmN 0 0) D E ((wPad E a0_0 a0_1 a0_2 S0)) sz [.ref a0_0] (fun _ : Unit => (wPad E a0_0 a0_1 a0_2 S09)) 0 0 := by
  refine MV.of (by decide) rfl (Nat.le_of_ble_eq_true rfl) ?_
  intro p e s m below meth c A H locs C hP hK hD hS hA ls hl
  have hl : lv_has ls 1 [(0, .ref a0_0)] := hl
  obtain ⟨hx, hb, hr, hml, hown, hlocks, hts⟩ := id C
  unfold fX2_empty at hv
  refine lv_aload_n hx hb dX2_empty_0 rfl (lv_at hl 0 rfl) ?_
  refine lv_iconst (v := 0) hx hb dX2_empty_1 (by decide) ?_
  refine va_put (D := D) (ci := 1) (v := .int (0:Int32)) (ty := .int) (C := RX2) (T := TX2) (N := 3) hx hb hts hiX2_empty_X2 tyX2 tyX2_ok nmX2 hown hK hP hD hS 0 rfl rfl 2 (by decide) (hts _ lkX2_empty_22) (fun _ h9 => h9) rfl (by decide +kernel) rfl rfl (Nat.le_of_ble_eq_true rfl) dX2_empty_2 (fun H locs hP hD hS => ?_)
  obtain ⟨S0s_1, hS0s_1, hv⟩ := qB hv
  obtain ⟨hP, hD⟩ := m_st (F := fun Z9 : FS => (wPad E a0_0 a0_1 a0_2 Z9)) (Option.some.inj hS0s_1) hP hD
  exact m_retv (F := (fun (Z9 : FS) => (fun _ : Unit => (wPad E a0_0 a0_1 a0_2 Z9)))) () C dX2_empty_5 hv hP hD hS

theorem lkX2_readPlaces_22 : (.fieldLink RX2 22 "QuarterTiles$Pad" "length" "I" : Cond) ∈ wsX2_readPlaces := by decide +kernel
theorem hiX2_readPlaces_X2 : ∀ w ∈ wsX20, w ∈ wsX2_readPlaces := by decide +kernel
theorem lkX2_readPlaces_15 : (.fieldLink RX2 15 "QuarterTiles$Pad" "placesTold" "[I" : Cond) ∈ wsX2_readPlaces := by decide +kernel
set_option maxRecDepth 100000 in
set_option maxHeartbeats 4000000 in
theorem wfX2_readPlaces_L9 {p : Program} {e : Env} {s : State} {m : MethodId} {below : List Frame} {meth : Method} {c : Code} {l : Launch} {D : va_G} {E : Nat → ClassId} {a0_0 a0_1 a0_2 : Nat} {v : Int32} {S09 : FS} {A : Nat → Prop} (C : Ctx p s m meth c [.ref a0_0] wsX2_readPlaces cX2_readPlaces 6 (some .int) RX2) (hK : va_K D vwCl (tyE E) s) (hA : ∀ q : Nat, s.heap.size ≤ q → A q) : ∀ (q : Nat) (S0 : FS) (y1 : Int32) (y2 : Int32) (y3 : Int32) (y4 : Int32), fX2_readPlaces_L9 q S0 y1 y2 y3 y4 = some (v, S09) → ∀ (H : Heap) (locs : List Loc) (ls : Array Slot), va_P D vwCl ((wPad E a0_0 a0_1 a0_2 S0)) H → va_D A ((wPad E a0_0 a0_1 a0_2 S0)) → va_S A s.heap H locs → lv_has ls 6 [(0, .ref a0_0), (1, .int y1), (2, .int y2), (3, .int y3), (4, .int y4)] → WI p l e (rmN 1 23) s m [.ref a0_0] below meth c D A v (fun _ : Unit => (wPad E a0_0 a0_1 a0_2 S09)) 0 0 H locs 0 0 9 ls [] := by
  obtain ⟨hx, hb, hr, hml, hown, hlocks, hts⟩ := id C
  intro q
  induction q with
  | zero =>
    intro S0 y1 y2 y3 y4 hv
    cases hv
  | succ q ih =>
    intro S0 y1 y2 y3 y4 hv H locs ls hP hD hS hl
    rw [fX2_readPlaces_L9.eq_2] at hv
    refine lv_iload hx hb dX2_readPlaces_9 (lv_at hl 4 rfl) ?_
    refine lv_aload_n hx hb dX2_readPlaces_11 rfl (lv_at hl 0 rfl) ?_
    refine va_get (D := D) (ci := 1) (v := .int (S0 2 0)) (C := RX2) (T := TX2) (N := 3) hx hb hts hiX2_readPlaces_X2 hown hK hP 0 rfl rfl 2 (by decide) (hts _ lkX2_readPlaces_22) (fun _ h9 => h9) rfl dX2_readPlaces_12 ?_
    refine lv_icmp_gt (tgt := 93) hx hb dX2_readPlaces_15 (by decide) (fun c_15_k_1 => ?_) (fun c_15_k_1 => ?_)
    · have hv := qT c_15_k_1 hv
      refine lv_iload_n hx hb dX2_readPlaces_93 rfl (lv_at hl 1 rfl) ?_
      exact m_ret (F := (fun (Z9 : FS) => (fun _ : Unit => (wPad E a0_0 a0_1 a0_2 Z9)))) () C dX2_readPlaces_94 hv hP hD hS
    · have hv := qF c_15_k_1 hv
      refine lv_aload_n hx hb dX2_readPlaces_18 rfl (lv_at hl 0 rfl) ?_
      refine lv_iload hx hb dX2_readPlaces_19 (lv_at hl 4 rfl) ?_
      obtain ⟨r_2, hr_2, hv⟩ := qB hv
      refine q_V (As := [.int y4]) (rest := []) (C := RX2) (T0 := TX2) (N0 := 3) (ci := 1) hx hb hml hown hts hl.1 (kX2_codeAt l D E a0_0 a0_1 a0_2 hr_2) zNo_mv (cwV 1 hts gX2_readPlaces_X2_codeAt rfl rfl rfl (by decide +kernel) ⟨Nat.le_of_ble_eq_true rfl, Nat.le_of_ble_eq_true rfl⟩) 0 rfl rfl (hP.sub (ws' := (wPad E a0_0 a0_1 a0_2 S0)) [0, 1, 2] rfl) hK trivial rfl rfl (Nat.le_of_ble_eq_true rfl) dX2_readPlaces_21 ⟨Nat.zero_le _, Nat.zero_le _⟩ ?_
      refine lv_istore (lv' := [(5, .int r_2), (0, .ref a0_0), (1, .int y1), (2, .int y2), (3, .int y3), (4, .int y4)]) hx hb dX2_readPlaces_24 hl (by decide) rfl (fun ls hl => ?_)
      refine lv_iload hx hb dX2_readPlaces_26 (lv_at hl 0 rfl) ?_
      obtain ⟨r_3, hr_3, hv⟩ := qB hv
      refine q_S (As := [.int r_2]) (rest := []) hx hb hml hown hts hl.1 (kX2_isDigit l D E  hr_3) zNo_mv (va_cwS 1 hts gX2_readPlaces_X2_isDigit rfl rfl rfl (by decide +kernel) ⟨Nat.le_of_ble_eq_true rfl, Nat.le_of_ble_eq_true rfl⟩) (hP.sub (ws' := []) [] rfl) hK trivial rfl rfl (Nat.le_of_ble_eq_true rfl) dX2_readPlaces_28 ⟨Nat.zero_le _, Nat.zero_le _⟩ ?_
      refine lv_if_eq (tgt := 48) hx hb dX2_readPlaces_31 (by decide) (fun c_31_k_4 => ?_) (fun c_31_k_4 => ?_)
      · have hv := qT c_31_k_4 hv
        refine lv_iload hx hb dX2_readPlaces_48 (lv_at hl 0 rfl) ?_
        refine lv_bipush (v := 44) hx hb dX2_readPlaces_50 (by decide) ?_
        refine lv_icmp_ne (tgt := 62) hx hb dX2_readPlaces_52 (by decide) (fun c_52_k_5 => ?_) (fun c_52_k_5 => ?_)
        · have hv := qF c_52_k_5 hv
          refine lv_iload_n hx hb dX2_readPlaces_62 rfl (lv_at hl 2 rfl) ?_
          refine lv_aload_n hx hb dX2_readPlaces_63 rfl (lv_at hl 1 rfl) ?_
          refine va_get (D := D) (ci := 1) (v := .ref a0_2) (C := RX2) (T := TX2) (N := 3) hx hb hts hiX2_readPlaces_X2 hown hK hP 0 rfl rfl 1 (by decide) (hts _ lkX2_readPlaces_15) (fun _ h9 => h9) rfl dX2_readPlaces_64 ?_
          refine va_alen (v := 20) hx hb hK hP 2 0 rfl rfl (by rfl) dX2_readPlaces_67 ?_
          refine lv_icmp_ge (tgt := 87) hx hb dX2_readPlaces_68 (by decide) (fun c_68_k_6 => ?_) (fun c_68_k_6 => ?_)
          · have hv := qT c_68_k_6 hv
            refine lv_iinc (v := (y4 + 1)) (lv' := [(4, .int (y4 + 1)), (5, .int r_2), (0, .ref a0_0), (1, .int y1), (2, .int y2), (3, .int y3)]) hx hb dX2_readPlaces_87 hl (k := 5) rfl (by rfl) (by decide) rfl (fun ls hl => ?_)
            refine lv_goto (tgt := 9) hx hb dX2_readPlaces_90 (by decide) ?_
            exact ih S0 y1 y2 y3 (y4 + 1) hv _ _ _ hP hD hS (lv_sub hl [2, 3, 4, 5, 0] rfl)
          · have hv := qF c_68_k_6 hv
            refine lv_aload_n hx hb dX2_readPlaces_71 rfl (lv_at hl 1 rfl) ?_
            refine va_get (D := D) (ci := 1) (v := .ref a0_2) (C := RX2) (T := TX2) (N := 3) hx hb hts hiX2_readPlaces_X2 hown hK hP 0 rfl rfl 1 (by decide) (hts _ lkX2_readPlaces_15) (fun _ h9 => h9) rfl dX2_readPlaces_72 ?_
            refine lv_iload_n hx hb dX2_readPlaces_75 rfl (lv_at hl 2 rfl) ?_
            refine lv_iload_n hx hb dX2_readPlaces_76 rfl (lv_at hl 3 rfl) ?_
            refine lv_iload_n hx hb dX2_readPlaces_77 rfl (lv_at hl 4 rfl) ?_
            obtain ⟨r_7, hr_7, hv⟩ := qB hv
            refine q_S (As := [.int y2, .int y3]) (rest := [.int y1, .ref a0_2]) hx hb hml hown hts hl.1 (kX1_placeAt l D E  hr_7) zNo_mv (va_cwS 2 hts gX2_readPlaces_X1_placeAt rfl rfl rfl (by decide +kernel) ⟨Nat.le_of_ble_eq_true rfl, Nat.le_of_ble_eq_true rfl⟩) (hP.sub (ws' := []) [] rfl) hK trivial rfl rfl (Nat.le_of_ble_eq_true rfl) dX2_readPlaces_78 ⟨Nat.zero_le _, Nat.zero_le _⟩ ?_
            obtain ⟨f_8, hf_8, hv⟩ := qB hv
            refine m_ist hx hb hK hP hD hS 2 0 rfl rfl hf_8 dX2_readPlaces_81 (fun H locs hP hD hS => ?_)
            obtain ⟨S0s_9, hS0s_9, hv⟩ := qB hv
            obtain ⟨hP, hD⟩ := m_st (F := fun Z9 : FS => (wPad E a0_0 a0_1 a0_2 Z9)) (Option.some.inj hS0s_9) hP hD
            refine lv_iinc (v := (y1 + 1)) (lv' := [(1, .int (y1 + 1)), (5, .int r_2), (0, .ref a0_0), (2, .int y2), (3, .int y3), (4, .int y4)]) hx hb dX2_readPlaces_82 hl (k := 2) rfl (by rfl) (by decide) rfl (fun ls hl => ?_)
            refine lv_iconst (v := 0) hx hb dX2_readPlaces_85 (by decide) ?_
            refine lv_istore_n (lv' := [(3, .int (0:Int32)), (1, .int (y1 + 1)), (5, .int r_2), (0, .ref a0_0), (2, .int y2), (4, .int y4)]) hx hb dX2_readPlaces_86 rfl hl (by decide) rfl (fun ls hl => ?_)
            refine lv_iinc (v := (y4 + 1)) (lv' := [(4, .int (y4 + 1)), (3, .int (0:Int32)), (1, .int (y1 + 1)), (5, .int r_2), (0, .ref a0_0), (2, .int y2)]) hx hb dX2_readPlaces_87 hl (k := 5) rfl (by rfl) (by decide) rfl (fun ls hl => ?_)
            refine lv_goto (tgt := 9) hx hb dX2_readPlaces_90 (by decide) ?_
            exact ih S0s_9 (y1 + 1) y2 (0:Int32) (y4 + 1) hv _ _ _ hP hD hS (lv_sub hl [4, 2, 5, 1, 0] rfl)
        · have hv := qT c_52_k_5 hv
          refine lv_iload_n hx hb dX2_readPlaces_55 rfl (lv_at hl 4 rfl) ?_
          refine lv_istore_n (lv' := [(2, .int y3), (5, .int r_2), (0, .ref a0_0), (1, .int y1), (3, .int y3), (4, .int y4)]) hx hb dX2_readPlaces_56 rfl hl (by decide) rfl (fun ls hl => ?_)
          refine lv_iconst (v := 0) hx hb dX2_readPlaces_57 (by decide) ?_
          refine lv_istore_n (lv' := [(3, .int (0:Int32)), (2, .int y3), (5, .int r_2), (0, .ref a0_0), (1, .int y1), (4, .int y4)]) hx hb dX2_readPlaces_58 rfl hl (by decide) rfl (fun ls hl => ?_)
          refine lv_goto (tgt := 87) hx hb dX2_readPlaces_59 (by decide) ?_
          refine lv_iinc (v := (y4 + 1)) (lv' := [(4, .int (y4 + 1)), (3, .int (0:Int32)), (2, .int y3), (5, .int r_2), (0, .ref a0_0), (1, .int y1)]) hx hb dX2_readPlaces_87 hl (k := 5) rfl (by rfl) (by decide) rfl (fun ls hl => ?_)
          refine lv_goto (tgt := 9) hx hb dX2_readPlaces_90 (by decide) ?_
          exact ih S0 y1 y3 (0:Int32) (y4 + 1) hv _ _ _ hP hD hS (lv_sub hl [4, 5, 2, 1, 0] rfl)
      · have hv := qF c_31_k_4 hv
        refine lv_bipush (v := 10) hx hb dX2_readPlaces_34 (by decide) ?_
        refine lv_iload_n hx hb dX2_readPlaces_36 rfl (lv_at hl 4 rfl) ?_
        refine lv_imul hx hb dX2_readPlaces_37 ?_
        refine lv_iload hx hb dX2_readPlaces_38 (lv_at hl 0 rfl) ?_
        refine lv_iadd hx hb dX2_readPlaces_40 ?_
        refine lv_bipush (v := 48) hx hb dX2_readPlaces_41 (by decide) ?_
        refine lv_isub hx hb dX2_readPlaces_43 ?_
        refine lv_istore_n (lv' := [(3, .int ((((10:Int32) * y3) + r_2) - (48:Int32))), (5, .int r_2), (0, .ref a0_0), (1, .int y1), (2, .int y2), (4, .int y4)]) hx hb dX2_readPlaces_44 rfl hl (by decide) rfl (fun ls hl => ?_)
        refine lv_goto (tgt := 87) hx hb dX2_readPlaces_45 (by decide) ?_
        refine lv_iinc (v := (y4 + 1)) (lv' := [(4, .int (y4 + 1)), (3, .int ((((10:Int32) * y3) + r_2) - (48:Int32))), (5, .int r_2), (0, .ref a0_0), (1, .int y1), (2, .int y2)]) hx hb dX2_readPlaces_87 hl (k := 5) rfl (by rfl) (by decide) rfl (fun ls hl => ?_)
        refine lv_goto (tgt := 9) hx hb dX2_readPlaces_90 (by decide) ?_
        exact ih S0 y1 y2 ((((10:Int32) * y3) + r_2) - (48:Int32)) (y4 + 1) hv _ _ _ hP hD hS (lv_sub hl [3, 4, 5, 1, 0] rfl)

set_option maxRecDepth 100000 in
set_option maxHeartbeats 4000000 in
theorem kX2_readPlaces (l : Launch) (D : va_G) (E : Nat → ClassId) (a0_0 a0_1 a0_2 : Nat) {S0 : FS} {v : Int32} {S09 : FS} (sz : Nat) (hv : fX2_readPlaces S0 = some (v, S09)) : MI l yX2_readPlaces wsX2_readPlaces (rmN 1 23) D E ((wPad E a0_0 a0_1 a0_2 S0)) sz [.ref a0_0] v (fun _ : Unit => (wPad E a0_0 a0_1 a0_2 S09)) 0 0 := by
  refine MI.of (by decide) rfl (Nat.le_of_ble_eq_true rfl) ?_
  intro p e s m below meth c A H locs C hP hK hD hS hA ls hl
  have hl : lv_has ls 6 [(0, .ref a0_0)] := hl
  obtain ⟨hx, hb, hr, hml, hown, hlocks, hts⟩ := id C
  unfold fX2_readPlaces at hv
  refine lv_iconst (v := 0) hx hb dX2_readPlaces_0 (by decide) ?_
  refine lv_istore_n (lv' := [(1, .int (0:Int32)), (0, .ref a0_0)]) hx hb dX2_readPlaces_1 rfl hl (by decide) rfl (fun ls hl => ?_)
  refine lv_iconst (v := 0) hx hb dX2_readPlaces_2 (by decide) ?_
  refine lv_istore_n (lv' := [(2, .int (0:Int32)), (1, .int (0:Int32)), (0, .ref a0_0)]) hx hb dX2_readPlaces_3 rfl hl (by decide) rfl (fun ls hl => ?_)
  refine lv_iconst (v := 0) hx hb dX2_readPlaces_4 (by decide) ?_
  refine lv_istore_n (lv' := [(3, .int (0:Int32)), (2, .int (0:Int32)), (1, .int (0:Int32)), (0, .ref a0_0)]) hx hb dX2_readPlaces_5 rfl hl (by decide) rfl (fun ls hl => ?_)
  refine lv_iconst (v := 0) hx hb dX2_readPlaces_6 (by decide) ?_
  refine lv_istore (lv' := [(4, .int (0:Int32)), (3, .int (0:Int32)), (2, .int (0:Int32)), (1, .int (0:Int32)), (0, .ref a0_0)]) hx hb dX2_readPlaces_7 hl (by decide) rfl (fun ls hl => ?_)
  exact wfX2_readPlaces_L9 C hK hA  6000 S0 (0:Int32) (0:Int32) (0:Int32) (0:Int32) hv _ _ _ hP hD hS (lv_sub hl [4, 3, 2, 1, 0] rfl)
