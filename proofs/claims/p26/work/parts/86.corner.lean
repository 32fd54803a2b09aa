def zs_corner_0 : St := (([], [], 2, 6), [], none, none, [])
def zs_corner_1 : St := (([0], [], 2, 6), [([], [], 2, 6)], none, none, [])
def zs_corner_2 : St := (([0, 1], [], 2, 6), [([], [], 2, 6), ([0], [], 2, 6)], none, none, [])
def zs_corner_3 : St := (([0, 1, 4095], [], 2, 6), [([], [], 2, 6), ([0], [], 2, 6), ([0, 1], [], 2, 6)], none, none, [])
def zs_corner_4 : St := (([0, 1, 4095, 2], [], 2, 6), [([], [], 2, 6), ([0], [], 2, 6), ([0, 1], [], 2, 6), ([0, 1, 4095], [], 2, 6)], none, none, [])
def zs_corner_5 : St := (([0, 1, 4095, 2], [], 2, 3), [([], [], 2, 6), ([0], [], 2, 6), ([0, 1], [], 2, 6), ([0, 1, 4095], [], 2, 6), ([0, 1, 4095, 2], [], 2, 6)], none, none, [])
def zs_corner_6 : St := (([0, 1, 4095, 2], [], 8, 3), [([], [], 2, 6), ([0], [], 2, 6), ([0, 1], [], 2, 6), ([0, 1, 4095], [], 2, 6), ([0, 1, 4095, 2], [], 2, 6), ([0, 1, 4095, 2], [], 2, 3)], none, none, [])
def zs_corner_7 : St := (([0, 1, 4095, 2], [5], 8, 3), [([0], [], 2, 6), ([0, 1], [], 2, 6), ([0, 1, 4095], [], 2, 6), ([0, 1, 4095, 2], [], 2, 6), ([0, 1, 4095, 2], [], 2, 3), ([0, 1, 4095, 2], [], 8, 3)], none, none, [])
def zs_corner_8 : St := (([0, 1, 4095, 2], [5], 3, 3), [([0, 1], [], 2, 6), ([0, 1, 4095], [], 2, 6), ([0, 1, 4095, 2], [], 2, 6), ([0, 1, 4095, 2], [], 2, 3), ([0, 1, 4095, 2], [], 8, 3), ([0, 1, 4095, 2], [5], 8, 3)], none, none, [])
def zs_corner_9 : St := (([0, 1, 4095, 2], [], 3, 3), [([0, 1, 4095], [], 2, 6), ([0, 1, 4095, 2], [], 2, 6), ([0, 1, 4095, 2], [], 2, 3), ([0, 1, 4095, 2], [], 8, 3), ([0, 1, 4095, 2], [5], 8, 3), ([0, 1, 4095, 2], [5], 3, 3)], none, none, [])
def zs_corner_10 : St := (([0, 1, 4095], [], 3, 3), [([0, 1, 4095, 2], [], 2, 6), ([0, 1, 4095, 2], [], 2, 3), ([0, 1, 4095, 2], [], 8, 3), ([0, 1, 4095, 2], [5], 8, 3), ([0, 1, 4095, 2], [5], 3, 3), ([0, 1, 4095, 2], [], 3, 3)], none, none, [])
def zs_corner_11 : St := (([0, 1, 4095], [], 3, 3), [([0, 1, 4095, 2], [], 2, 3), ([0, 1, 4095, 2], [], 8, 3), ([0, 1, 4095, 2], [5], 8, 3), ([0, 1, 4095, 2], [5], 3, 3), ([0, 1, 4095, 2], [], 3, 3), ([0, 1, 4095], [], 3, 3)], none, none, [])
def zs_corner_12 : St := (([0, 1, 51], [], 3, 3), [([0, 1, 4095, 2], [], 8, 3), ([0, 1, 4095, 2], [5], 8, 3), ([0, 1, 4095, 2], [5], 3, 3), ([0, 1, 4095, 2], [], 3, 3), ([0, 1, 4095], [], 3, 3), ([0, 1, 4095], [], 3, 3)], none, none, [])
def zs_corner_13 : St := (([0, 1, 4095], [], 3, 3), [([0, 1, 4095, 2], [], 8, 3), ([0, 1, 4095, 2], [5], 8, 3), ([0, 1, 4095, 2], [5], 3, 3), ([0, 1, 4095, 2], [], 3, 3), ([0, 1, 4095], [], 3, 3)], none, none, [])
def zs_corner_14 : St := (([0, 1, 4095], [], 3, 3), [([0, 1, 4095, 2], [], 8, 3), ([0, 1, 4095, 2], [5], 8, 3), ([0, 1, 4095, 2], [5], 3, 3), ([0, 1, 4095, 2], [], 3, 3)], none, none, [])
def zs_corner_15 : St := (([0, 1, 4095, 2], [], 3, 3), [([0, 1, 4095, 2], [], 8, 3), ([0, 1, 4095, 2], [5], 8, 3), ([0, 1, 4095, 2], [5], 3, 3)], none, none, [])
def zs_corner_16 : St := (([0, 1, 4095, 2], [5], 3, 3), [([0, 1, 4095, 2], [], 8, 3), ([0, 1, 4095, 2], [5], 8, 3)], none, none, [])
def zs_corner_17 : St := (([0, 1, 4095, 2], [5], 3, 3), [([0, 1, 4095, 2], [], 8, 3), ([0, 1, 4095, 2], [5], 8, 3)], none, some ([0, 1, 4095, 2], [5], 3, 3), [])
def zs_corner_18 : St := (([0, 1, 4095, 2], [5], 1, 3), [([0, 1, 4095, 2], [], 8, 3), ([0, 1, 4095, 2], [5], 8, 3), ([0, 1, 4095, 2], [5], 3, 3)], none, some ([0, 1, 4095, 2], [5], 3, 3), [])
def zs_corner_19 : St := (([0, 1, 4095, 2], [5], 3, 3), [([0, 1, 4095, 2], [], 8, 3), ([0, 1, 4095, 2], [5], 8, 3), ([0, 1, 4095, 2], [5], 3, 3), ([0, 1, 4095, 2], [5], 1, 3)], none, some ([0, 1, 4095, 2], [5], 3, 3), [])
theorem hiL_corner_X7 : ∀ w ∈ wsX70, w ∈ wsL_corner := by decide +kernel
theorem lkL_corner_n0 : (.classLink RL 12 RX7 : Cond) ∈ wsL_corner := by decide +kernel
theorem lkL_corner_n1 : (.instantiable RX7 4 : Cond) ∈ wsL_corner := by decide +kernel
theorem lkL_corner_n2 : (.initialized RX7 : Cond) ∈ wsL_corner := by decide +kernel
theorem lkL_corner_n3 : (.methodLink RL 96 yX7_init : Cond) ∈ wsL_corner := by decide +kernel
theorem lkL_corner_n4 : (.instanceMethod yX7_init : Cond) ∈ wsL_corner := by decide +kernel
set_option maxRecDepth 100000 in
set_option maxHeartbeats 4000000 in
theorem cor_c13 {l : Launch} {t : Nat → Nat} {D : va_G} {E : Nat → ClassId} {p : Program} {e : Env} {s : State} {m : MethodId} {below : List Frame} {meth : Method} {c : Code} {A : Nat → Prop} {q : Nat} (C : Ctx p s m meth c [] wsL_corner cL_corner 1 (some .boolean) RL) (hK : va_K D vwCl (tyE E) s) (hA : ∀ q : Nat, s.heap.size ≤ q → A q) (hZ : zSX t A s) (u : Nat → Nat) (Z : Nat → FS) (H : Heap) (locs : List Loc) (ls : Array Slot) (hB : Bis Z zs_corner_19) (hP : va_P D vwCl (wQ E (aZ0 q u) Z) H) (hD : va_D A (wQ E (aZ0 q u) Z)) (hS : va_S A s.heap H locs) (hl : lv_has ls 1 [(0, .ref q)]) : WI p l e (rmW 17 397 58 9007) s m [] below meth c D A 1 (fun _ : Unit => ([] : va_W)) 58 9007 H locs 58 9007 1130 ls [] := by
  obtain ⟨hx, hb, hr, hml, hown, hlocks, hts⟩ := id C
  refine lv_iconst (v := 1) hx hb dL_corner_1130 (by decide) ?_
  refine lv_goto (tgt := 1135) hx hb dL_corner_1131 (by decide) ?_
  exact t_rz () C dL_corner_1135 (by decide) (by decide) va_P_nil va_D_nil hS

set_option maxRecDepth 100000 in
set_option maxHeartbeats 4000000 in
theorem cor_c12 {l : Launch} {t : Nat → Nat} {D : va_G} {E : Nat → ClassId} {p : Program} {e : Env} {s : State} {m : MethodId} {below : List Frame} {meth : Method} {c : Code} {A : Nat → Prop} {q : Nat} (C : Ctx p s m meth c [] wsL_corner cL_corner 1 (some .boolean) RL) (hK : va_K D vwCl (tyE E) s) (hA : ∀ q : Nat, s.heap.size ≤ q → A q) (hZ : zSX t A s) (u : Nat → Nat) (Z : Nat → FS) (H : Heap) (locs : List Loc) (ls : Array Slot) (hB : Bis Z zs_corner_15) (hP : va_P D vwCl (wQ E (aZ0 q u) Z) H) (hD : va_D A (wQ E (aZ0 q u) Z)) (hS : va_S A s.heap H locs) (hl : lv_has ls 1 [(0, .ref q)]) : WI p l e (rmW 17 397 58 9007) s m [] below meth c D A 1 (fun _ : Unit => ([] : va_W)) 58 9007 H locs 58 9007 1056 ls [] := by
  obtain ⟨hx, hb, hr, hml, hown, hlocks, hts⟩ := id C
  refine lv_aload_n hx hb dL_corner_1056 rfl (lv_at hl 0 rfl) ?_
  refine lv_iconst (v := 0) hx hb dL_corner_1057 (by decide) ?_
  have e137 := b_n (fun Q => fX7_count Q (0:Int32)) (fun M => fX8_count M (0:Int32)) (fun Q M h => count_c Q M (0:Int32) h) hB (r := (4:Int32)) (by decide +kernel)
  refine q_V (As := [.int (0:Int32)]) (rest := []) (C := RX7) (T0 := TX7) (N0 := 4) (ci := 6) hx hb hml hown hts hl.1 (kX7_count l D E t (aZ0 q u) e137) zSt_mv (cwV 1 hts gL_corner_X7_count rfl rfl rfl (by decide +kernel) ⟨Nat.le_of_ble_eq_true rfl, Nat.le_of_ble_eq_true rfl⟩) 0 rfl rfl hP hK (zSX_now hZ hS) rfl rfl (Nat.le_of_ble_eq_true rfl) dL_corner_1058 ⟨Nat.le_of_ble_eq_true rfl, Nat.le_of_ble_eq_true rfl⟩ ?_
  refine lv_iconst (v := 4) hx hb dL_corner_1061 (by decide) ?_
  refine lv_icmp_ne (tgt := 1134) hx hb dL_corner_1062 (by decide) (fun c9 => absurd (by decide) c9) (fun _ => ?_)
  refine lv_aload_n hx hb dL_corner_1065 rfl (lv_at hl 0 rfl) ?_
  refine lv_iconst (v := 1) hx hb dL_corner_1066 (by decide) ?_
  have e138 := b_n (fun Q => fX7_count Q (1:Int32)) (fun M => fX8_count M (1:Int32)) (fun Q M h => count_c Q M (1:Int32) h) hB (r := (4:Int32)) (by decide +kernel)
  refine q_V (As := [.int (1:Int32)]) (rest := []) (C := RX7) (T0 := TX7) (N0 := 4) (ci := 6) hx hb hml hown hts hl.1 (kX7_count l D E t (aZ0 q u) e138) zSt_mv (cwV 1 hts gL_corner_X7_count rfl rfl rfl (by decide +kernel) ⟨Nat.le_of_ble_eq_true rfl, Nat.le_of_ble_eq_true rfl⟩) 0 rfl rfl hP hK (zSX_now hZ hS) rfl rfl (Nat.le_of_ble_eq_true rfl) dL_corner_1067 ⟨Nat.le_of_ble_eq_true rfl, Nat.le_of_ble_eq_true rfl⟩ ?_
  refine lv_iconst (v := 4) hx hb dL_corner_1070 (by decide) ?_
  refine lv_icmp_ne (tgt := 1134) hx hb dL_corner_1071 (by decide) (fun c9 => absurd (by decide) c9) (fun _ => ?_)
  refine lv_aload_n hx hb dL_corner_1074 rfl (lv_at hl 0 rfl) ?_
  obtain ⟨Z139, e139, hB⟩ := b_m (fun Q => fX7_undo Q ) (fun M => fX8_undo M ) (fun Q M h => undo_c Q M h) hB (r := (2:Int32)) (z1 := zs_corner_16) (ck_e (by decide +kernel))
  refine t0_VI (As := []) (rest := []) (Z1 := Z139) hx hb hml hown hts hl.1 (kX7_undo l D E (aZ0 q u) H.size e139) (cwV 0 hts gL_corner_X7_undo rfl rfl rfl (by decide +kernel) ⟨Nat.le_of_ble_eq_true rfl, Nat.le_of_ble_eq_true rfl⟩) hP hD hS hA hK rfl rfl (Nat.le_of_ble_eq_true rfl) dL_corner_1075 ⟨Nat.le_of_ble_eq_true rfl, Nat.le_of_ble_eq_true rfl⟩ (fun u140 H locs hP hD hS => ?_)
  refine lv_iconst (v := 2) hx hb dL_corner_1078 (by decide) ?_
  refine lv_icmp_ne (tgt := 1134) hx hb dL_corner_1079 (by decide) (fun c9 => absurd (by decide) c9) (fun _ => ?_)
  refine lv_aload_n hx hb dL_corner_1082 rfl (lv_at hl 0 rfl) ?_
  refine lv_iconst (v := 1) hx hb dL_corner_1083 (by decide) ?_
  have e141 := b_n (fun Q => fX7_count Q (1:Int32)) (fun M => fX8_count M (1:Int32)) (fun Q M h => count_c Q M (1:Int32) h) hB (r := (7:Int32)) (by decide +kernel)
  refine q_V (As := [.int (1:Int32)]) (rest := []) (C := RX7) (T0 := TX7) (N0 := 4) (ci := 6) hx hb hml hown hts hl.1 (kX7_count l D E t (aZ0 q u140) e141) zSt_mv (cwV 1 hts gL_corner_X7_count rfl rfl rfl (by decide +kernel) ⟨Nat.le_of_ble_eq_true rfl, Nat.le_of_ble_eq_true rfl⟩) 0 rfl rfl hP hK (zSX_now hZ hS) rfl rfl (Nat.le_of_ble_eq_true rfl) dL_corner_1084 ⟨Nat.le_of_ble_eq_true rfl, Nat.le_of_ble_eq_true rfl⟩ ?_
  refine lv_bipush (v := 7) hx hb dL_corner_1087 (by decide) ?_
  refine lv_icmp_ne (tgt := 1134) hx hb dL_corner_1089 (by decide) (fun c9 => absurd (by decide) c9) (fun _ => ?_)
  refine lv_aload_n hx hb dL_corner_1092 rfl (lv_at hl 0 rfl) ?_
  refine lv_iconst (v := 1) hx hb dL_corner_1093 (by decide) ?_
  obtain ⟨Z142, e142, hB⟩ := b_m (fun Q => fX7_save Q (1:Int32)) (fun M => fX8_save M (1:Int32)) (fun Q M h => save_c Q M (1:Int32) h) hB (r := (4:Int32)) (z1 := zs_corner_17) (ck_e (by decide +kernel))
  refine t0_VI (As := [.int (1:Int32)]) (rest := []) (Z1 := Z142) hx hb hml hown hts hl.1 (kX7_save l D E (aZ0 q u140) H.size e142) (cwV 1 hts gL_corner_X7_save rfl rfl rfl (by decide +kernel) ⟨Nat.le_of_ble_eq_true rfl, Nat.le_of_ble_eq_true rfl⟩) hP hD hS hA hK rfl rfl (Nat.le_of_ble_eq_true rfl) dL_corner_1094 ⟨Nat.le_of_ble_eq_true rfl, Nat.le_of_ble_eq_true rfl⟩ (fun u143 H locs hP hD hS => ?_)
  refine lv_iconst (v := 4) hx hb dL_corner_1097 (by decide) ?_
  refine lv_icmp_ne (tgt := 1134) hx hb dL_corner_1098 (by decide) (fun c9 => absurd (by decide) c9) (fun _ => ?_)
  refine lv_aload_n hx hb dL_corner_1101 rfl (lv_at hl 0 rfl) ?_
  refine lv_iconst (v := 0) hx hb dL_corner_1102 (by decide) ?_
  refine lv_iconst (v := 1) hx hb dL_corner_1103 (by decide) ?_
  obtain ⟨Z144, e144, hB⟩ := b_m (fun Q => fX7_set Q (0:Int32) (1:Int32)) (fun M => fX8_set M (0:Int32) (1:Int32)) (fun Q M h => set_c Q M (0:Int32) (1:Int32) h) hB (r := (3:Int32)) (z1 := zs_corner_18) (ck_e (by decide +kernel))
  refine t0_VI (As := [.int (0:Int32), .int (1:Int32)]) (rest := []) (Z1 := Z144) hx hb hml hown hts hl.1 (kX7_set l D E (aZ0 q u143) H.size e144) (cwV 2 hts gL_corner_X7_set rfl rfl rfl (by decide +kernel) ⟨Nat.le_of_ble_eq_true rfl, Nat.le_of_ble_eq_true rfl⟩) hP hD hS hA hK rfl rfl (Nat.le_of_ble_eq_true rfl) dL_corner_1104 ⟨Nat.le_of_ble_eq_true rfl, Nat.le_of_ble_eq_true rfl⟩ (fun u145 H locs hP hD hS => ?_)
  refine lv_iconst (v := 3) hx hb dL_corner_1107 (by decide) ?_
  refine lv_icmp_ne (tgt := 1134) hx hb dL_corner_1108 (by decide) (fun c9 => absurd (by decide) c9) (fun _ => ?_)
  refine lv_aload_n hx hb dL_corner_1111 rfl (lv_at hl 0 rfl) ?_
  refine lv_iconst (v := 1) hx hb dL_corner_1112 (by decide) ?_
  obtain ⟨Z146, e146, hB⟩ := b_m (fun Q => fX7_restore Q (1:Int32)) (fun M => fX8_restore M (1:Int32)) (fun Q M h => restore_c Q M (1:Int32) h) hB (r := (4:Int32)) (z1 := zs_corner_19) (ck_e (by decide +kernel))
  refine t0_VI (As := [.int (1:Int32)]) (rest := []) (Z1 := Z146) hx hb hml hown hts hl.1 (kX7_restore l D E (aZ0 q u145) H.size e146) (cwV 1 hts gL_corner_X7_restore rfl rfl rfl (by decide +kernel) ⟨Nat.le_of_ble_eq_true rfl, Nat.le_of_ble_eq_true rfl⟩) hP hD hS hA hK rfl rfl (Nat.le_of_ble_eq_true rfl) dL_corner_1113 ⟨Nat.le_of_ble_eq_true rfl, Nat.le_of_ble_eq_true rfl⟩ (fun u147 H locs hP hD hS => ?_)
  refine lv_iconst (v := 4) hx hb dL_corner_1116 (by decide) ?_
  refine lv_icmp_ne (tgt := 1134) hx hb dL_corner_1117 (by decide) (fun c9 => absurd (by decide) c9) (fun _ => ?_)
  refine lv_aload_n hx hb dL_corner_1120 rfl (lv_at hl 0 rfl) ?_
  refine lv_bipush (v := 7) hx hb dL_corner_1121 (by decide) ?_
  have e148 := b_n (fun Q => fX7_count Q (7:Int32)) (fun M => fX8_count M (7:Int32)) (fun Q M h => count_c Q M (7:Int32) h) hB (r := (3:Int32)) (by decide +kernel)
  refine q_V (As := [.int (7:Int32)]) (rest := []) (C := RX7) (T0 := TX7) (N0 := 4) (ci := 6) hx hb hml hown hts hl.1 (kX7_count l D E t (aZ0 q u147) e148) zSt_mv (cwV 1 hts gL_corner_X7_count rfl rfl rfl (by decide +kernel) ⟨Nat.le_of_ble_eq_true rfl, Nat.le_of_ble_eq_true rfl⟩) 0 rfl rfl hP hK (zSX_now hZ hS) rfl rfl (Nat.le_of_ble_eq_true rfl) dL_corner_1123 ⟨Nat.le_of_ble_eq_true rfl, Nat.le_of_ble_eq_true rfl⟩ ?_
  refine lv_iconst (v := 3) hx hb dL_corner_1126 (by decide) ?_
  refine lv_icmp_ne (tgt := 1134) hx hb dL_corner_1127 (by decide) (fun c9 => absurd (by decide) c9) (fun _ => ?_)
  exact cor_c13 C hK hA hZ u147 Z146 H locs ls hB hP hD hS hl

set_option maxRecDepth 100000 in
set_option maxHeartbeats 4000000 in
theorem cor_c11 {l : Launch} {t : Nat → Nat} {D : va_G} {E : Nat → ClassId} {p : Program} {e : Env} {s : State} {m : MethodId} {below : List Frame} {meth : Method} {c : Code} {A : Nat → Prop} {q : Nat} (C : Ctx p s m meth c [] wsL_corner cL_corner 1 (some .boolean) RL) (hK : va_K D vwCl (tyE E) s) (hA : ∀ q : Nat, s.heap.size ≤ q → A q) (hZ : zSX t A s) (u : Nat → Nat) (Z : Nat → FS) (H : Heap) (locs : List Loc) (ls : Array Slot) (hB : Bis Z zs_corner_10) (hP : va_P D vwCl (wQ E (aZ0 q u) Z) H) (hD : va_D A (wQ E (aZ0 q u) Z)) (hS : va_S A s.heap H locs) (hl : lv_has ls 1 [(0, .ref q)]) : WI p l e (rmW 17 397 58 9007) s m [] below meth c D A 1 (fun _ : Unit => ([] : va_W)) 58 9007 H locs 58 9007 974 ls [] := by
  obtain ⟨hx, hb, hr, hml, hown, hlocks, hts⟩ := id C
  refine lv_aload_n hx hb dL_corner_974 rfl (lv_at hl 0 rfl) ?_
  refine lv_iconst (v := 2) hx hb dL_corner_975 (by decide) ?_
  refine lv_bipush (v := 63) hx hb dL_corner_976 (by decide) ?_
  refine lv_bipush (v := 63) hx hb dL_corner_978 (by decide) ?_
  obtain ⟨Z124, e124, hB⟩ := b_m (fun Q => fX7_move Q (2:Int32) (63:Int32) (63:Int32)) (fun M => fX8_move M (2:Int32) (63:Int32) (63:Int32)) (fun Q M h => move_c Q M (2:Int32) (63:Int32) (63:Int32) h) hB (r := (1:Int32)) (z1 := zs_corner_11) (ck_e (by decide +kernel))
  refine t0_VI (As := [.int (2:Int32), .int (63:Int32), .int (63:Int32)]) (rest := []) (Z1 := Z124) hx hb hml hown hts hl.1 (kX7_move l D E (aZ0 q u) H.size e124) (cwV 3 hts gL_corner_X7_move rfl rfl rfl (by decide +kernel) ⟨Nat.le_of_ble_eq_true rfl, Nat.le_of_ble_eq_true rfl⟩) hP hD hS hA hK rfl rfl (Nat.le_of_ble_eq_true rfl) dL_corner_980 ⟨Nat.le_of_ble_eq_true rfl, Nat.le_of_ble_eq_true rfl⟩ (fun u125 H locs hP hD hS => ?_)
  refine lv_iconst (v := 1) hx hb dL_corner_983 (by decide) ?_
  refine lv_icmp_ne (tgt := 1019) hx hb dL_corner_984 (by decide) (fun c9 => absurd (by decide) c9) (fun _ => ?_)
  refine lv_aload_n hx hb dL_corner_987 rfl (lv_at hl 0 rfl) ?_
  refine lv_iconst (v := 2) hx hb dL_corner_988 (by decide) ?_
  refine lv_iconst (v := 5) hx hb dL_corner_989 (by decide) ?_
  refine lv_iconst (v := 5) hx hb dL_corner_990 (by decide) ?_
  obtain ⟨Z126, e126, hB⟩ := b_m (fun Q => fX7_move Q (2:Int32) (5:Int32) (5:Int32)) (fun M => fX8_move M (2:Int32) (5:Int32) (5:Int32)) (fun Q M h => move_c Q M (2:Int32) (5:Int32) (5:Int32) h) hB (r := (1:Int32)) (z1 := zs_corner_12) (ck_e (by decide +kernel))
  refine t0_VI (As := [.int (2:Int32), .int (5:Int32), .int (5:Int32)]) (rest := []) (Z1 := Z126) hx hb hml hown hts hl.1 (kX7_move l D E (aZ0 q u125) H.size e126) (cwV 3 hts gL_corner_X7_move rfl rfl rfl (by decide +kernel) ⟨Nat.le_of_ble_eq_true rfl, Nat.le_of_ble_eq_true rfl⟩) hP hD hS hA hK rfl rfl (Nat.le_of_ble_eq_true rfl) dL_corner_991 ⟨Nat.le_of_ble_eq_true rfl, Nat.le_of_ble_eq_true rfl⟩ (fun u127 H locs hP hD hS => ?_)
  refine lv_iconst (v := 1) hx hb dL_corner_994 (by decide) ?_
  refine lv_icmp_ne (tgt := 1019) hx hb dL_corner_995 (by decide) (fun c9 => absurd (by decide) c9) (fun _ => ?_)
  refine lv_aload_n hx hb dL_corner_998 rfl (lv_at hl 0 rfl) ?_
  refine lv_iconst (v := 2) hx hb dL_corner_999 (by decide) ?_
  refine lv_iconst (v := 0) hx hb dL_corner_1000 (by decide) ?_
  have e128 := b_r (fun Q => fX7_of Q (2:Int32) (0:Int32)) (fun M => fX8_of M (2:Int32) (0:Int32)) (fun Q M h => of_c Q M (2:Int32) (0:Int32) h) hB (r := (5:Int32)) (by decide +kernel)
  refine q_V (As := [.int (2:Int32), .int (0:Int32)]) (rest := []) (C := RX7) (T0 := TX7) (N0 := 4) (ci := 6) hx hb hml hown hts hl.1 (kX7_of l D E (aZ0 q u127) e128) zNo_mv (cwV 2 hts gL_corner_X7_of rfl rfl rfl (by decide +kernel) ⟨Nat.le_of_ble_eq_true rfl, Nat.le_of_ble_eq_true rfl⟩) 0 rfl rfl hP hK trivial rfl rfl (Nat.le_of_ble_eq_true rfl) dL_corner_1001 ⟨Nat.le_of_ble_eq_true rfl, Nat.le_of_ble_eq_true rfl⟩ ?_
  refine lv_iconst (v := 5) hx hb dL_corner_1004 (by decide) ?_
  refine lv_icmp_ne (tgt := 1019) hx hb dL_corner_1005 (by decide) (fun c9 => absurd (by decide) c9) (fun _ => ?_)
  refine lv_aload_n hx hb dL_corner_1008 rfl (lv_at hl 0 rfl) ?_
  refine lv_bipush (v := 10) hx hb dL_corner_1009 (by decide) ?_
  have e129 := b_n (fun Q => fX7_count Q (10:Int32)) (fun M => fX8_count M (10:Int32)) (fun Q M h => count_c Q M (10:Int32) h) hB (r := (6:Int32)) (by decide +kernel)
  refine q_V (As := [.int (10:Int32)]) (rest := []) (C := RX7) (T0 := TX7) (N0 := 4) (ci := 6) hx hb hml hown hts hl.1 (kX7_count l D E t (aZ0 q u127) e129) zSt_mv (cwV 1 hts gL_corner_X7_count rfl rfl rfl (by decide +kernel) ⟨Nat.le_of_ble_eq_true rfl, Nat.le_of_ble_eq_true rfl⟩) 0 rfl rfl hP hK (zSX_now hZ hS) rfl rfl (Nat.le_of_ble_eq_true rfl) dL_corner_1011 ⟨Nat.le_of_ble_eq_true rfl, Nat.le_of_ble_eq_true rfl⟩ ?_
  refine lv_bipush (v := 6) hx hb dL_corner_1014 (by decide) ?_
  refine lv_icmp_eq (tgt := 1021) hx hb dL_corner_1016 (by decide) (fun _ => ?_) (fun c9 => absurd (by decide) c9)
  refine lv_aload_n hx hb dL_corner_1021 rfl (lv_at hl 0 rfl) ?_
  obtain ⟨Z130, e130, hB⟩ := b_m (fun Q => fX7_undo Q ) (fun M => fX8_undo M ) (fun Q M h => undo_c Q M h) hB (r := (5:Int32)) (z1 := zs_corner_13) (ck_e (by decide +kernel))
  refine t0_VI (As := []) (rest := []) (Z1 := Z130) hx hb hml hown hts hl.1 (kX7_undo l D E (aZ0 q u127) H.size e130) (cwV 0 hts gL_corner_X7_undo rfl rfl rfl (by decide +kernel) ⟨Nat.le_of_ble_eq_true rfl, Nat.le_of_ble_eq_true rfl⟩) hP hD hS hA hK rfl rfl (Nat.le_of_ble_eq_true rfl) dL_corner_1022 ⟨Nat.le_of_ble_eq_true rfl, Nat.le_of_ble_eq_true rfl⟩ (fun u131 H locs hP hD hS => ?_)
  refine lv_iconst (v := 5) hx hb dL_corner_1025 (by decide) ?_
  refine lv_icmp_ne (tgt := 1134) hx hb dL_corner_1026 (by decide) (fun c9 => absurd (by decide) c9) (fun _ => ?_)
  refine lv_aload_n hx hb dL_corner_1029 rfl (lv_at hl 0 rfl) ?_
  refine lv_iconst (v := 2) hx hb dL_corner_1030 (by decide) ?_
  refine lv_iconst (v := 0) hx hb dL_corner_1031 (by decide) ?_
  have e132 := b_r (fun Q => fX7_of Q (2:Int32) (0:Int32)) (fun M => fX8_of M (2:Int32) (0:Int32)) (fun Q M h => of_c Q M (2:Int32) (0:Int32) h) hB (r := (63:Int32)) (by decide +kernel)
  refine q_V (As := [.int (2:Int32), .int (0:Int32)]) (rest := []) (C := RX7) (T0 := TX7) (N0 := 4) (ci := 6) hx hb hml hown hts hl.1 (kX7_of l D E (aZ0 q u131) e132) zNo_mv (cwV 2 hts gL_corner_X7_of rfl rfl rfl (by decide +kernel) ⟨Nat.le_of_ble_eq_true rfl, Nat.le_of_ble_eq_true rfl⟩) 0 rfl rfl hP hK trivial rfl rfl (Nat.le_of_ble_eq_true rfl) dL_corner_1032 ⟨Nat.le_of_ble_eq_true rfl, Nat.le_of_ble_eq_true rfl⟩ ?_
  refine lv_bipush (v := 63) hx hb dL_corner_1035 (by decide) ?_
  refine lv_icmp_ne (tgt := 1134) hx hb dL_corner_1037 (by decide) (fun c9 => absurd (by decide) c9) (fun _ => ?_)
  refine lv_aload_n hx hb dL_corner_1040 rfl (lv_at hl 0 rfl) ?_
  obtain ⟨Z133, e133, hB⟩ := b_m (fun Q => fX7_undo Q ) (fun M => fX8_undo M ) (fun Q M h => undo_c Q M h) hB (r := (4:Int32)) (z1 := zs_corner_14) (ck_e (by decide +kernel))
  refine t0_VI (As := []) (rest := []) (Z1 := Z133) hx hb hml hown hts hl.1 (kX7_undo l D E (aZ0 q u131) H.size e133) (cwV 0 hts gL_corner_X7_undo rfl rfl rfl (by decide +kernel) ⟨Nat.le_of_ble_eq_true rfl, Nat.le_of_ble_eq_true rfl⟩) hP hD hS hA hK rfl rfl (Nat.le_of_ble_eq_true rfl) dL_corner_1041 ⟨Nat.le_of_ble_eq_true rfl, Nat.le_of_ble_eq_true rfl⟩ (fun u134 H locs hP hD hS => ?_)
  refine lv_iconst (v := 4) hx hb dL_corner_1044 (by decide) ?_
  refine lv_icmp_ne (tgt := 1134) hx hb dL_corner_1045 (by decide) (fun c9 => absurd (by decide) c9) (fun _ => ?_)
  refine lv_aload_n hx hb dL_corner_1048 rfl (lv_at hl 0 rfl) ?_
  obtain ⟨Z135, e135, hB⟩ := b_m (fun Q => fX7_undo Q ) (fun M => fX8_undo M ) (fun Q M h => undo_c Q M h) hB (r := (3:Int32)) (z1 := zs_corner_15) (ck_e (by decide +kernel))
  refine t0_VI (As := []) (rest := []) (Z1 := Z135) hx hb hml hown hts hl.1 (kX7_undo l D E (aZ0 q u134) H.size e135) (cwV 0 hts gL_corner_X7_undo rfl rfl rfl (by decide +kernel) ⟨Nat.le_of_ble_eq_true rfl, Nat.le_of_ble_eq_true rfl⟩) hP hD hS hA hK rfl rfl (Nat.le_of_ble_eq_true rfl) dL_corner_1049 ⟨Nat.le_of_ble_eq_true rfl, Nat.le_of_ble_eq_true rfl⟩ (fun u136 H locs hP hD hS => ?_)
  refine lv_iconst (v := 3) hx hb dL_corner_1052 (by decide) ?_
  refine lv_icmp_ne (tgt := 1134) hx hb dL_corner_1053 (by decide) (fun c9 => absurd (by decide) c9) (fun _ => ?_)
  exact cor_c12 C hK hA hZ u136 Z135 H locs ls hB hP hD hS hl

set_option maxRecDepth 100000 in
set_option maxHeartbeats 4000000 in
theorem cor_c10 {l : Launch} {t : Nat → Nat} {D : va_G} {E : Nat → ClassId} {p : Program} {e : Env} {s : State} {m : MethodId} {below : List Frame} {meth : Method} {c : Code} {A : Nat → Prop} {q : Nat} (C : Ctx p s m meth c [] wsL_corner cL_corner 1 (some .boolean) RL) (hK : va_K D vwCl (tyE E) s) (hA : ∀ q : Nat, s.heap.size ≤ q → A q) (hZ : zSX t A s) (u : Nat → Nat) (Z : Nat → FS) (H : Heap) (locs : List Loc) (ls : Array Slot) (hB : Bis Z zs_corner_8) (hP : va_P D vwCl (wQ E (aZ0 q u) Z) H) (hD : va_D A (wQ E (aZ0 q u) Z)) (hS : va_S A s.heap H locs) (hl : lv_has ls 1 [(0, .ref q)]) : WI p l e (rmW 17 397 58 9007) s m [] below meth c D A 1 (fun _ : Unit => ([] : va_W)) 58 9007 H locs 58 9007 891 ls [] := by
  obtain ⟨hx, hb, hr, hml, hown, hlocks, hts⟩ := id C
  refine lv_aload_n hx hb dL_corner_891 rfl (lv_at hl 0 rfl) ?_
  refine lv_iconst (v := 5) hx hb dL_corner_892 (by decide) ?_
  refine lv_bipush (v := 7) hx hb dL_corner_893 (by decide) ?_
  have e112 := b_r (fun Q => fX7_tile Q (5:Int32) (7:Int32)) (fun M => fX8_tile M (5:Int32) (7:Int32)) (fun Q M h => tile_c Q M (5:Int32) (7:Int32) h) hB (r := (4:Int32)) (by decide +kernel)
  refine q_V (As := [.int (5:Int32), .int (7:Int32)]) (rest := []) (C := RX7) (T0 := TX7) (N0 := 4) (ci := 6) hx hb hml hown hts hl.1 (kX7_tile l D E t (aZ0 q u) e112) zSt_mv (cwV 2 hts gL_corner_X7_tile rfl rfl rfl (by decide +kernel) ⟨Nat.le_of_ble_eq_true rfl, Nat.le_of_ble_eq_true rfl⟩) 0 rfl rfl hP hK (zSX_now hZ hS) rfl rfl (Nat.le_of_ble_eq_true rfl) dL_corner_895 ⟨Nat.le_of_ble_eq_true rfl, Nat.le_of_ble_eq_true rfl⟩ ?_
  refine lv_iconst (v := 4) hx hb dL_corner_898 (by decide) ?_
  refine lv_icmp_ne (tgt := 1019) hx hb dL_corner_899 (by decide) (fun c9 => absurd (by decide) c9) (fun _ => ?_)
  refine lv_aload_n hx hb dL_corner_902 rfl (lv_at hl 0 rfl) ?_
  refine lv_bipush (v := 20) hx hb dL_corner_903 (by decide) ?_
  refine lv_iconst (v := 5) hx hb dL_corner_905 (by decide) ?_
  have e113 := b_r (fun Q => fX7_tile Q (20:Int32) (5:Int32)) (fun M => fX8_tile M (20:Int32) (5:Int32)) (fun Q M h => tile_c Q M (20:Int32) (5:Int32) h) hB (r := (1:Int32)) (by decide +kernel)
  refine q_V (As := [.int (20:Int32), .int (5:Int32)]) (rest := []) (C := RX7) (T0 := TX7) (N0 := 4) (ci := 6) hx hb hml hown hts hl.1 (kX7_tile l D E t (aZ0 q u) e113) zSt_mv (cwV 2 hts gL_corner_X7_tile rfl rfl rfl (by decide +kernel) ⟨Nat.le_of_ble_eq_true rfl, Nat.le_of_ble_eq_true rfl⟩) 0 rfl rfl hP hK (zSX_now hZ hS) rfl rfl (Nat.le_of_ble_eq_true rfl) dL_corner_906 ⟨Nat.le_of_ble_eq_true rfl, Nat.le_of_ble_eq_true rfl⟩ ?_
  refine lv_iconst (v := 1) hx hb dL_corner_909 (by decide) ?_
  refine lv_icmp_ne (tgt := 1019) hx hb dL_corner_910 (by decide) (fun c9 => absurd (by decide) c9) (fun _ => ?_)
  refine lv_aload_n hx hb dL_corner_913 rfl (lv_at hl 0 rfl) ?_
  refine lv_bipush (v := 20) hx hb dL_corner_914 (by decide) ?_
  have e114 := b_n (fun Q => fX7_neighbours Q (20:Int32)) (fun M => fX8_neighbours M (20:Int32)) (fun Q M h => neighbours_c Q M (20:Int32) h) hB (r := (3:Int32)) (by decide +kernel)
  refine q_V (As := [.int (20:Int32)]) (rest := []) (C := RX7) (T0 := TX7) (N0 := 4) (ci := 6) hx hb hml hown hts hl.1 (kX7_neighbours l D E t (aZ0 q u) e114) zSt_mv (cwV 1 hts gL_corner_X7_neighbours rfl rfl rfl (by decide +kernel) ⟨Nat.le_of_ble_eq_true rfl, Nat.le_of_ble_eq_true rfl⟩) 0 rfl rfl hP hK (zSX_now hZ hS) rfl rfl (Nat.le_of_ble_eq_true rfl) dL_corner_916 ⟨Nat.le_of_ble_eq_true rfl, Nat.le_of_ble_eq_true rfl⟩ ?_
  refine lv_iconst (v := 3) hx hb dL_corner_919 (by decide) ?_
  refine lv_icmp_ne (tgt := 1019) hx hb dL_corner_920 (by decide) (fun c9 => absurd (by decide) c9) (fun _ => ?_)
  refine lv_aload_n hx hb dL_corner_923 rfl (lv_at hl 0 rfl) ?_
  refine lv_iconst (v := 4) hx hb dL_corner_924 (by decide) ?_
  have e115 := b_n (fun Q => fX7_neighbours Q (4:Int32)) (fun M => fX8_neighbours M (4:Int32)) (fun Q M h => neighbours_c Q M (4:Int32) h) hB (r := (3:Int32)) (by decide +kernel)
  refine q_V (As := [.int (4:Int32)]) (rest := []) (C := RX7) (T0 := TX7) (N0 := 4) (ci := 6) hx hb hml hown hts hl.1 (kX7_neighbours l D E t (aZ0 q u) e115) zSt_mv (cwV 1 hts gL_corner_X7_neighbours rfl rfl rfl (by decide +kernel) ⟨Nat.le_of_ble_eq_true rfl, Nat.le_of_ble_eq_true rfl⟩) 0 rfl rfl hP hK (zSX_now hZ hS) rfl rfl (Nat.le_of_ble_eq_true rfl) dL_corner_925 ⟨Nat.le_of_ble_eq_true rfl, Nat.le_of_ble_eq_true rfl⟩ ?_
  refine lv_iconst (v := 3) hx hb dL_corner_928 (by decide) ?_
  refine lv_icmp_ne (tgt := 1019) hx hb dL_corner_929 (by decide) (fun c9 => absurd (by decide) c9) (fun _ => ?_)
  refine lv_aload_n hx hb dL_corner_932 rfl (lv_at hl 0 rfl) ?_
  refine lv_iconst (v := 5) hx hb dL_corner_933 (by decide) ?_
  refine lv_iconst (v := 0) hx hb dL_corner_934 (by decide) ?_
  obtain ⟨Z116, e116, hB⟩ := b_m (fun Q => fX7_split Q (5:Int32) (0:Int32)) (fun M => fX8_split M (5:Int32) (0:Int32)) (fun Q M h => split_c Q M (5:Int32) (0:Int32) h (by decide)) hB (r := (4:Int32)) (z1 := zs_corner_9) (ck_e (by decide +kernel))
  refine t0_VI (As := [.int (5:Int32), .int (0:Int32)]) (rest := []) (Z1 := Z116) hx hb hml hown hts hl.1 (kX7_split l D E (aZ0 q u) H.size e116) (cwV 2 hts gL_corner_X7_split rfl rfl rfl (by decide +kernel) ⟨Nat.le_of_ble_eq_true rfl, Nat.le_of_ble_eq_true rfl⟩) hP hD hS hA hK rfl rfl (Nat.le_of_ble_eq_true rfl) dL_corner_935 ⟨Nat.le_of_ble_eq_true rfl, Nat.le_of_ble_eq_true rfl⟩ (fun u117 H locs hP hD hS => ?_)
  refine lv_iconst (v := 4) hx hb dL_corner_938 (by decide) ?_
  refine lv_icmp_ne (tgt := 1019) hx hb dL_corner_939 (by decide) (fun c9 => absurd (by decide) c9) (fun _ => ?_)
  refine lv_aload_n hx hb dL_corner_942 rfl (lv_at hl 0 rfl) ?_
  refine lv_iconst (v := 5) hx hb dL_corner_943 (by decide) ?_
  refine lv_iconst (v := 0) hx hb dL_corner_944 (by decide) ?_
  obtain ⟨Z118, e118, hB⟩ := b_m (fun Q => fX7_split Q (5:Int32) (0:Int32)) (fun M => fX8_split M (5:Int32) (0:Int32)) (fun Q M h => split_c Q M (5:Int32) (0:Int32) h (by decide)) hB (r := (-5:Int32)) (z1 := zs_corner_9) (ck_e (by decide +kernel))
  refine t0_VI (As := [.int (5:Int32), .int (0:Int32)]) (rest := []) (Z1 := Z118) hx hb hml hown hts hl.1 (kX7_split l D E (aZ0 q u117) H.size e118) (cwV 2 hts gL_corner_X7_split rfl rfl rfl (by decide +kernel) ⟨Nat.le_of_ble_eq_true rfl, Nat.le_of_ble_eq_true rfl⟩) hP hD hS hA hK rfl rfl (Nat.le_of_ble_eq_true rfl) dL_corner_945 ⟨Nat.le_of_ble_eq_true rfl, Nat.le_of_ble_eq_true rfl⟩ (fun u119 H locs hP hD hS => ?_)
  refine lv_bipush (v := -5) hx hb dL_corner_948 (by decide) ?_
  refine lv_icmp_ne (tgt := 1019) hx hb dL_corner_950 (by decide) (fun c9 => absurd (by decide) c9) (fun _ => ?_)
  refine lv_aload_n hx hb dL_corner_953 rfl (lv_at hl 0 rfl) ?_
  refine lv_iconst (v := 3) hx hb dL_corner_954 (by decide) ?_
  obtain ⟨Z120, e120, hB⟩ := b_m (fun Q => fX7_take Q (3:Int32)) (fun M => fX8_take M (3:Int32)) (fun Q M h => take_c Q M (3:Int32) h) hB (r := (1:Int32)) (z1 := zs_corner_10) (ck_e (by decide +kernel))
  refine t0_VI (As := [.int (3:Int32)]) (rest := []) (Z1 := Z120) hx hb hml hown hts hl.1 (kX7_take l D E (aZ0 q u119) H.size e120) (cwV 1 hts gL_corner_X7_take rfl rfl rfl (by decide +kernel) ⟨Nat.le_of_ble_eq_true rfl, Nat.le_of_ble_eq_true rfl⟩) hP hD hS hA hK rfl rfl (Nat.le_of_ble_eq_true rfl) dL_corner_955 ⟨Nat.le_of_ble_eq_true rfl, Nat.le_of_ble_eq_true rfl⟩ (fun u121 H locs hP hD hS => ?_)
  refine lv_iconst (v := 1) hx hb dL_corner_958 (by decide) ?_
  refine lv_icmp_ne (tgt := 1019) hx hb dL_corner_959 (by decide) (fun c9 => absurd (by decide) c9) (fun _ => ?_)
  refine lv_aload_n hx hb dL_corner_962 rfl (lv_at hl 0 rfl) ?_
  refine lv_iconst (v := 2) hx hb dL_corner_963 (by decide) ?_
  refine lv_iconst (v := 0) hx hb dL_corner_964 (by decide) ?_
  refine lv_iconst (v := 0) hx hb dL_corner_965 (by decide) ?_
  obtain ⟨Z122, e122, hB⟩ := b_m (fun Q => fX7_move Q (2:Int32) (0:Int32) (0:Int32)) (fun M => fX8_move M (2:Int32) (0:Int32) (0:Int32)) (fun Q M h => move_c Q M (2:Int32) (0:Int32) (0:Int32) h) hB (r := (-5:Int32)) (z1 := zs_corner_10) (ck_e (by decide +kernel))
  refine t0_VI (As := [.int (2:Int32), .int (0:Int32), .int (0:Int32)]) (rest := []) (Z1 := Z122) hx hb hml hown hts hl.1 (kX7_move l D E (aZ0 q u121) H.size e122) (cwV 3 hts gL_corner_X7_move rfl rfl rfl (by decide +kernel) ⟨Nat.le_of_ble_eq_true rfl, Nat.le_of_ble_eq_true rfl⟩) hP hD hS hA hK rfl rfl (Nat.le_of_ble_eq_true rfl) dL_corner_966 ⟨Nat.le_of_ble_eq_true rfl, Nat.le_of_ble_eq_true rfl⟩ (fun u123 H locs hP hD hS => ?_)
  refine lv_bipush (v := -5) hx hb dL_corner_969 (by decide) ?_
  refine lv_icmp_ne (tgt := 1019) hx hb dL_corner_971 (by decide) (fun c9 => absurd (by decide) c9) (fun _ => ?_)
  exact cor_c11 C hK hA hZ u123 Z122 H locs ls hB hP hD hS hl

set_option maxRecDepth 100000 in
set_option maxHeartbeats 4000000 in
theorem cor_c9 {l : Launch} {t : Nat → Nat} {D : va_G} {E : Nat → ClassId} {p : Program} {e : Env} {s : State} {m : MethodId} {below : List Frame} {meth : Method} {c : Code} {A : Nat → Prop} {q : Nat} (C : Ctx p s m meth c [] wsL_corner cL_corner 1 (some .boolean) RL) (hK : va_K D vwCl (tyE E) s) (hA : ∀ q : Nat, s.heap.size ≤ q → A q) (hZ : zSX t A s) (u : Nat → Nat) (Z : Nat → FS) (H : Heap) (locs : List Loc) (ls : Array Slot) (hB : Bis Z zs_corner_6) (hP : va_P D vwCl (wQ E (aZ0 q u) Z) H) (hD : va_D A (wQ E (aZ0 q u) Z)) (hS : va_S A s.heap H locs) (hl : lv_has ls 1 [(0, .ref q)]) : WI p l e (rmW 17 397 58 9007) s m [] below meth c D A 1 (fun _ : Unit => ([] : va_W)) 58 9007 H locs 58 9007 810 ls [] := by
  obtain ⟨hx, hb, hr, hml, hown, hlocks, hts⟩ := id C
  refine lv_aload_n hx hb dL_corner_810 rfl (lv_at hl 0 rfl) ?_
  refine lv_iconst (v := 1) hx hb dL_corner_811 (by decide) ?_
  have e101 := b_n (fun Q => fX7_count Q (1:Int32)) (fun M => fX8_count M (1:Int32)) (fun Q M h => count_c Q M (1:Int32) h) hB (r := (1:Int32)) (by decide +kernel)
  refine q_V (As := [.int (1:Int32)]) (rest := []) (C := RX7) (T0 := TX7) (N0 := 4) (ci := 6) hx hb hml hown hts hl.1 (kX7_count l D E t (aZ0 q u) e101) zSt_mv (cwV 1 hts gL_corner_X7_count rfl rfl rfl (by decide +kernel) ⟨Nat.le_of_ble_eq_true rfl, Nat.le_of_ble_eq_true rfl⟩) 0 rfl rfl hP hK (zSX_now hZ hS) rfl rfl (Nat.le_of_ble_eq_true rfl) dL_corner_812 ⟨Nat.le_of_ble_eq_true rfl, Nat.le_of_ble_eq_true rfl⟩ ?_
  refine lv_iconst (v := 1) hx hb dL_corner_815 (by decide) ?_
  refine lv_icmp_ne (tgt := 1019) hx hb dL_corner_816 (by decide) (fun c9 => absurd (by decide) c9) (fun _ => ?_)
  refine lv_aload_n hx hb dL_corner_819 rfl (lv_at hl 0 rfl) ?_
  refine lv_iconst (v := 5) hx hb dL_corner_820 (by decide) ?_
  refine lv_iconst (v := 1) hx hb dL_corner_821 (by decide) ?_
  obtain ⟨Z102, e102, hB⟩ := b_m (fun Q => fX7_split Q (5:Int32) (1:Int32)) (fun M => fX8_split M (5:Int32) (1:Int32)) (fun Q M h => split_c Q M (5:Int32) (1:Int32) h (by decide)) hB (r := (1:Int32)) (z1 := zs_corner_7) (ck_e (by decide +kernel))
  refine t0_VI (As := [.int (5:Int32), .int (1:Int32)]) (rest := []) (Z1 := Z102) hx hb hml hown hts hl.1 (kX7_split l D E (aZ0 q u) H.size e102) (cwV 2 hts gL_corner_X7_split rfl rfl rfl (by decide +kernel) ⟨Nat.le_of_ble_eq_true rfl, Nat.le_of_ble_eq_true rfl⟩) hP hD hS hA hK rfl rfl (Nat.le_of_ble_eq_true rfl) dL_corner_822 ⟨Nat.le_of_ble_eq_true rfl, Nat.le_of_ble_eq_true rfl⟩ (fun u103 H locs hP hD hS => ?_)
  refine lv_iconst (v := 1) hx hb dL_corner_825 (by decide) ?_
  refine lv_icmp_ne (tgt := 1019) hx hb dL_corner_826 (by decide) (fun c9 => absurd (by decide) c9) (fun _ => ?_)
  refine lv_aload_n hx hb dL_corner_829 rfl (lv_at hl 0 rfl) ?_
  refine lv_iconst (v := 5) hx hb dL_corner_830 (by decide) ?_
  have e104 := b_n (fun Q => fX7_count Q (5:Int32)) (fun M => fX8_count M (5:Int32)) (fun Q M h => count_c Q M (5:Int32) h) hB (r := (1:Int32)) (by decide +kernel)
  refine q_V (As := [.int (5:Int32)]) (rest := []) (C := RX7) (T0 := TX7) (N0 := 4) (ci := 6) hx hb hml hown hts hl.1 (kX7_count l D E t (aZ0 q u103) e104) zSt_mv (cwV 1 hts gL_corner_X7_count rfl rfl rfl (by decide +kernel) ⟨Nat.le_of_ble_eq_true rfl, Nat.le_of_ble_eq_true rfl⟩) 0 rfl rfl hP hK (zSX_now hZ hS) rfl rfl (Nat.le_of_ble_eq_true rfl) dL_corner_831 ⟨Nat.le_of_ble_eq_true rfl, Nat.le_of_ble_eq_true rfl⟩ ?_
  refine lv_iconst (v := 1) hx hb dL_corner_834 (by decide) ?_
  refine lv_icmp_ne (tgt := 1019) hx hb dL_corner_835 (by decide) (fun c9 => absurd (by decide) c9) (fun _ => ?_)
  refine lv_aload_n hx hb dL_corner_838 rfl (lv_at hl 0 rfl) ?_
  refine lv_iconst (v := 5) hx hb dL_corner_839 (by decide) ?_
  refine lv_iconst (v := 1) hx hb dL_corner_840 (by decide) ?_
  obtain ⟨Z105, e105, hB⟩ := b_m (fun Q => fX7_split Q (5:Int32) (1:Int32)) (fun M => fX8_split M (5:Int32) (1:Int32)) (fun Q M h => split_c Q M (5:Int32) (1:Int32) h (by decide)) hB (r := (-5:Int32)) (z1 := zs_corner_7) (ck_e (by decide +kernel))
  refine t0_VI (As := [.int (5:Int32), .int (1:Int32)]) (rest := []) (Z1 := Z105) hx hb hml hown hts hl.1 (kX7_split l D E (aZ0 q u103) H.size e105) (cwV 2 hts gL_corner_X7_split rfl rfl rfl (by decide +kernel) ⟨Nat.le_of_ble_eq_true rfl, Nat.le_of_ble_eq_true rfl⟩) hP hD hS hA hK rfl rfl (Nat.le_of_ble_eq_true rfl) dL_corner_841 ⟨Nat.le_of_ble_eq_true rfl, Nat.le_of_ble_eq_true rfl⟩ (fun u106 H locs hP hD hS => ?_)
  refine lv_bipush (v := -5) hx hb dL_corner_844 (by decide) ?_
  refine lv_icmp_ne (tgt := 1019) hx hb dL_corner_846 (by decide) (fun c9 => absurd (by decide) c9) (fun _ => ?_)
  refine lv_aload_n hx hb dL_corner_849 rfl (lv_at hl 0 rfl) ?_
  refine lv_iconst (v := 0) hx hb dL_corner_850 (by decide) ?_
  refine lv_iconst (v := 3) hx hb dL_corner_851 (by decide) ?_
  obtain ⟨Z107, e107, hB⟩ := b_m (fun Q => fX7_set Q (0:Int32) (3:Int32)) (fun M => fX8_set M (0:Int32) (3:Int32)) (fun Q M h => set_c Q M (0:Int32) (3:Int32) h) hB (r := (8:Int32)) (z1 := zs_corner_8) (ck_e (by decide +kernel))
  refine t0_VI (As := [.int (0:Int32), .int (3:Int32)]) (rest := []) (Z1 := Z107) hx hb hml hown hts hl.1 (kX7_set l D E (aZ0 q u106) H.size e107) (cwV 2 hts gL_corner_X7_set rfl rfl rfl (by decide +kernel) ⟨Nat.le_of_ble_eq_true rfl, Nat.le_of_ble_eq_true rfl⟩) hP hD hS hA hK rfl rfl (Nat.le_of_ble_eq_true rfl) dL_corner_852 ⟨Nat.le_of_ble_eq_true rfl, Nat.le_of_ble_eq_true rfl⟩ (fun u108 H locs hP hD hS => ?_)
  refine lv_bipush (v := 8) hx hb dL_corner_855 (by decide) ?_
  refine lv_icmp_ne (tgt := 1019) hx hb dL_corner_857 (by decide) (fun c9 => absurd (by decide) c9) (fun _ => ?_)
  refine lv_aload_n hx hb dL_corner_860 rfl (lv_at hl 0 rfl) ?_
  refine lv_iconst (v := 1) hx hb dL_corner_861 (by decide) ?_
  have e109 := b_n (fun Q => fX7_count Q (1:Int32)) (fun M => fX8_count M (1:Int32)) (fun Q M h => count_c Q M (1:Int32) h) hB (r := (7:Int32)) (by decide +kernel)
  refine q_V (As := [.int (1:Int32)]) (rest := []) (C := RX7) (T0 := TX7) (N0 := 4) (ci := 6) hx hb hml hown hts hl.1 (kX7_count l D E t (aZ0 q u108) e109) zSt_mv (cwV 1 hts gL_corner_X7_count rfl rfl rfl (by decide +kernel) ⟨Nat.le_of_ble_eq_true rfl, Nat.le_of_ble_eq_true rfl⟩) 0 rfl rfl hP hK (zSX_now hZ hS) rfl rfl (Nat.le_of_ble_eq_true rfl) dL_corner_862 ⟨Nat.le_of_ble_eq_true rfl, Nat.le_of_ble_eq_true rfl⟩ ?_
  refine lv_bipush (v := 7) hx hb dL_corner_865 (by decide) ?_
  refine lv_icmp_ne (tgt := 1019) hx hb dL_corner_867 (by decide) (fun c9 => absurd (by decide) c9) (fun _ => ?_)
  refine lv_aload_n hx hb dL_corner_870 rfl (lv_at hl 0 rfl) ?_
  refine lv_iconst (v := 5) hx hb dL_corner_871 (by decide) ?_
  refine lv_iconst (v := 5) hx hb dL_corner_872 (by decide) ?_
  have e110 := b_r (fun Q => fX7_tile Q (5:Int32) (5:Int32)) (fun M => fX8_tile M (5:Int32) (5:Int32)) (fun Q M h => tile_c Q M (5:Int32) (5:Int32) h) hB (r := (2:Int32)) (by decide +kernel)
  refine q_V (As := [.int (5:Int32), .int (5:Int32)]) (rest := []) (C := RX7) (T0 := TX7) (N0 := 4) (ci := 6) hx hb hml hown hts hl.1 (kX7_tile l D E t (aZ0 q u108) e110) zSt_mv (cwV 2 hts gL_corner_X7_tile rfl rfl rfl (by decide +kernel) ⟨Nat.le_of_ble_eq_true rfl, Nat.le_of_ble_eq_true rfl⟩) 0 rfl rfl hP hK (zSX_now hZ hS) rfl rfl (Nat.le_of_ble_eq_true rfl) dL_corner_873 ⟨Nat.le_of_ble_eq_true rfl, Nat.le_of_ble_eq_true rfl⟩ ?_
  refine lv_iconst (v := 2) hx hb dL_corner_876 (by decide) ?_
  refine lv_icmp_ne (tgt := 1019) hx hb dL_corner_877 (by decide) (fun c9 => absurd (by decide) c9) (fun _ => ?_)
  refine lv_aload_n hx hb dL_corner_880 rfl (lv_at hl 0 rfl) ?_
  refine lv_iconst (v := 5) hx hb dL_corner_881 (by decide) ?_
  refine lv_bipush (v := 6) hx hb dL_corner_882 (by decide) ?_
  have e111 := b_r (fun Q => fX7_tile Q (5:Int32) (6:Int32)) (fun M => fX8_tile M (5:Int32) (6:Int32)) (fun Q M h => tile_c Q M (5:Int32) (6:Int32) h) hB (r := (1:Int32)) (by decide +kernel)
  refine q_V (As := [.int (5:Int32), .int (6:Int32)]) (rest := []) (C := RX7) (T0 := TX7) (N0 := 4) (ci := 6) hx hb hml hown hts hl.1 (kX7_tile l D E t (aZ0 q u108) e111) zSt_mv (cwV 2 hts gL_corner_X7_tile rfl rfl rfl (by decide +kernel) ⟨Nat.le_of_ble_eq_true rfl, Nat.le_of_ble_eq_true rfl⟩) 0 rfl rfl hP hK (zSX_now hZ hS) rfl rfl (Nat.le_of_ble_eq_true rfl) dL_corner_884 ⟨Nat.le_of_ble_eq_true rfl, Nat.le_of_ble_eq_true rfl⟩ ?_
  refine lv_iconst (v := 1) hx hb dL_corner_887 (by decide) ?_
  refine lv_icmp_ne (tgt := 1019) hx hb dL_corner_888 (by decide) (fun c9 => absurd (by decide) c9) (fun _ => ?_)
  exact cor_c10 C hK hA hZ u108 Z107 H locs ls hB hP hD hS hl

set_option maxRecDepth 100000 in
set_option maxHeartbeats 4000000 in
theorem cor_c8 {l : Launch} {t : Nat → Nat} {D : va_G} {E : Nat → ClassId} {p : Program} {e : Env} {s : State} {m : MethodId} {below : List Frame} {meth : Method} {c : Code} {A : Nat → Prop} {q : Nat} (C : Ctx p s m meth c [] wsL_corner cL_corner 1 (some .boolean) RL) (hK : va_K D vwCl (tyE E) s) (hA : ∀ q : Nat, s.heap.size ≤ q → A q) (hZ : zSX t A s) (u : Nat → Nat) (Z : Nat → FS) (H : Heap) (locs : List Loc) (ls : Array Slot) (hB : Bis Z zs_corner_4) (hP : va_P D vwCl (wQ E (aZ0 q u) Z) H) (hD : va_D A (wQ E (aZ0 q u) Z)) (hS : va_S A s.heap H locs) (hl : lv_has ls 1 [(0, .ref q)]) : WI p l e (rmW 17 397 58 9007) s m [] below meth c D A 1 (fun _ : Unit => ([] : va_W)) 58 9007 H locs 58 9007 712 ls [] := by
  obtain ⟨hx, hb, hr, hml, hown, hlocks, hts⟩ := id C
  refine lv_aload_n hx hb dL_corner_712 rfl (lv_at hl 0 rfl) ?_
  refine lv_iconst (v := 4) hx hb dL_corner_713 (by decide) ?_
  refine lv_iconst (v := 4) hx hb dL_corner_714 (by decide) ?_
  refine lv_iconst (v := 0) hx hb dL_corner_715 (by decide) ?_
  have e91 := b_r (fun Q => fX7_beside Q (4:Int32) (4:Int32) (0:Int32)) (fun M => fX8_beside M (4:Int32) (4:Int32) (0:Int32)) (fun Q M h => beside_c Q M (4:Int32) (4:Int32) (0:Int32) h) hB (r := (-6:Int32)) (by decide +kernel)
  refine q_V (As := [.int (4:Int32), .int (4:Int32), .int (0:Int32)]) (rest := []) (C := RX7) (T0 := TX7) (N0 := 4) (ci := 6) hx hb hml hown hts hl.1 (kX7_beside l D E t (aZ0 q u) e91) zSt_mv (cwV 3 hts gL_corner_X7_beside rfl rfl rfl (by decide +kernel) ⟨Nat.le_of_ble_eq_true rfl, Nat.le_of_ble_eq_true rfl⟩) 0 rfl rfl hP hK (zSX_now hZ hS) rfl rfl (Nat.le_of_ble_eq_true rfl) dL_corner_716 ⟨Nat.le_of_ble_eq_true rfl, Nat.le_of_ble_eq_true rfl⟩ ?_
  refine lv_bipush (v := -6) hx hb dL_corner_719 (by decide) ?_
  refine lv_icmp_ne (tgt := 754) hx hb dL_corner_721 (by decide) (fun c9 => absurd (by decide) c9) (fun _ => ?_)
  refine lv_aload_n hx hb dL_corner_724 rfl (lv_at hl 0 rfl) ?_
  refine lv_sipush (v := 4096) hx hb dL_corner_725 (by decide) ?_
  refine lv_iconst (v := 0) hx hb dL_corner_728 (by decide) ?_
  refine lv_iconst (v := 0) hx hb dL_corner_729 (by decide) ?_
  have e92 := b_r (fun Q => fX7_beside Q (4096:Int32) (0:Int32) (0:Int32)) (fun M => fX8_beside M (4096:Int32) (0:Int32) (0:Int32)) (fun Q M h => beside_c Q M (4096:Int32) (0:Int32) (0:Int32) h) hB (r := (4097:Int32)) (by decide +kernel)
  refine q_V (As := [.int (4096:Int32), .int (0:Int32), .int (0:Int32)]) (rest := []) (C := RX7) (T0 := TX7) (N0 := 4) (ci := 6) hx hb hml hown hts hl.1 (kX7_beside l D E t (aZ0 q u) e92) zSt_mv (cwV 3 hts gL_corner_X7_beside rfl rfl rfl (by decide +kernel) ⟨Nat.le_of_ble_eq_true rfl, Nat.le_of_ble_eq_true rfl⟩) 0 rfl rfl hP hK (zSX_now hZ hS) rfl rfl (Nat.le_of_ble_eq_true rfl) dL_corner_730 ⟨Nat.le_of_ble_eq_true rfl, Nat.le_of_ble_eq_true rfl⟩ ?_
  refine lv_sipush (v := 4097) hx hb dL_corner_733 (by decide) ?_
  refine lv_icmp_ne (tgt := 754) hx hb dL_corner_736 (by decide) (fun c9 => absurd (by decide) c9) (fun _ => ?_)
  refine lv_aload_n hx hb dL_corner_739 rfl (lv_at hl 0 rfl) ?_
  refine lv_sipush (v := 4097) hx hb dL_corner_740 (by decide) ?_
  refine lv_iconst (v := 0) hx hb dL_corner_743 (by decide) ?_
  refine lv_iconst (v := 1) hx hb dL_corner_744 (by decide) ?_
  have e93 := b_r (fun Q => fX7_beside Q (4097:Int32) (0:Int32) (1:Int32)) (fun M => fX8_beside M (4097:Int32) (0:Int32) (1:Int32)) (fun Q M h => beside_c Q M (4097:Int32) (0:Int32) (1:Int32) h) hB (r := (1025:Int32)) (by decide +kernel)
  refine q_V (As := [.int (4097:Int32), .int (0:Int32), .int (1:Int32)]) (rest := []) (C := RX7) (T0 := TX7) (N0 := 4) (ci := 6) hx hb hml hown hts hl.1 (kX7_beside l D E t (aZ0 q u) e93) zSt_mv (cwV 3 hts gL_corner_X7_beside rfl rfl rfl (by decide +kernel) ⟨Nat.le_of_ble_eq_true rfl, Nat.le_of_ble_eq_true rfl⟩) 0 rfl rfl hP hK (zSX_now hZ hS) rfl rfl (Nat.le_of_ble_eq_true rfl) dL_corner_745 ⟨Nat.le_of_ble_eq_true rfl, Nat.le_of_ble_eq_true rfl⟩ ?_
  refine lv_sipush (v := 1025) hx hb dL_corner_748 (by decide) ?_
  refine lv_icmp_eq (tgt := 756) hx hb dL_corner_751 (by decide) (fun _ => ?_) (fun c9 => absurd (by decide) c9)
  refine lv_aload_n hx hb dL_corner_756 rfl (lv_at hl 0 rfl) ?_
  refine lv_iconst (v := 1) hx hb dL_corner_757 (by decide) ?_
  refine lv_iconst (v := 3) hx hb dL_corner_758 (by decide) ?_
  obtain ⟨Z94, e94, hB⟩ := b_m (fun Q => fX7_set Q (1:Int32) (3:Int32)) (fun M => fX8_set M (1:Int32) (3:Int32)) (fun Q M h => set_c Q M (1:Int32) (3:Int32) h) hB (r := (6:Int32)) (z1 := zs_corner_5) (ck_e (by decide +kernel))
  refine t0_VI (As := [.int (1:Int32), .int (3:Int32)]) (rest := []) (Z1 := Z94) hx hb hml hown hts hl.1 (kX7_set l D E (aZ0 q u) H.size e94) (cwV 2 hts gL_corner_X7_set rfl rfl rfl (by decide +kernel) ⟨Nat.le_of_ble_eq_true rfl, Nat.le_of_ble_eq_true rfl⟩) hP hD hS hA hK rfl rfl (Nat.le_of_ble_eq_true rfl) dL_corner_759 ⟨Nat.le_of_ble_eq_true rfl, Nat.le_of_ble_eq_true rfl⟩ (fun u95 H locs hP hD hS => ?_)
  refine lv_bipush (v := 6) hx hb dL_corner_762 (by decide) ?_
  refine lv_icmp_ne (tgt := 1019) hx hb dL_corner_764 (by decide) (fun c9 => absurd (by decide) c9) (fun _ => ?_)
  refine lv_aload_n hx hb dL_corner_767 rfl (lv_at hl 0 rfl) ?_
  refine lv_iconst (v := 1) hx hb dL_corner_768 (by decide) ?_
  have e96 := b_n (fun Q => fX7_count Q (1:Int32)) (fun M => fX8_count M (1:Int32)) (fun Q M h => count_c Q M (1:Int32) h) hB (r := (10:Int32)) (by decide +kernel)
  refine q_V (As := [.int (1:Int32)]) (rest := []) (C := RX7) (T0 := TX7) (N0 := 4) (ci := 6) hx hb hml hown hts hl.1 (kX7_count l D E t (aZ0 q u95) e96) zSt_mv (cwV 1 hts gL_corner_X7_count rfl rfl rfl (by decide +kernel) ⟨Nat.le_of_ble_eq_true rfl, Nat.le_of_ble_eq_true rfl⟩) 0 rfl rfl hP hK (zSX_now hZ hS) rfl rfl (Nat.le_of_ble_eq_true rfl) dL_corner_769 ⟨Nat.le_of_ble_eq_true rfl, Nat.le_of_ble_eq_true rfl⟩ ?_
  refine lv_bipush (v := 10) hx hb dL_corner_772 (by decide) ?_
  refine lv_icmp_ne (tgt := 1019) hx hb dL_corner_774 (by decide) (fun c9 => absurd (by decide) c9) (fun _ => ?_)
  refine lv_aload_n hx hb dL_corner_777 rfl (lv_at hl 0 rfl) ?_
  refine lv_iconst (v := 0) hx hb dL_corner_778 (by decide) ?_
  refine lv_iconst (v := 2) hx hb dL_corner_779 (by decide) ?_
  have e97 := b_r (fun Q => fX7_of Q (0:Int32) (2:Int32)) (fun M => fX8_of M (0:Int32) (2:Int32)) (fun Q M h => of_c Q M (0:Int32) (2:Int32) h) hB (r := (64:Int32)) (by decide +kernel)
  refine q_V (As := [.int (0:Int32), .int (2:Int32)]) (rest := []) (C := RX7) (T0 := TX7) (N0 := 4) (ci := 6) hx hb hml hown hts hl.1 (kX7_of l D E (aZ0 q u95) e97) zNo_mv (cwV 2 hts gL_corner_X7_of rfl rfl rfl (by decide +kernel) ⟨Nat.le_of_ble_eq_true rfl, Nat.le_of_ble_eq_true rfl⟩) 0 rfl rfl hP hK trivial rfl rfl (Nat.le_of_ble_eq_true rfl) dL_corner_780 ⟨Nat.le_of_ble_eq_true rfl, Nat.le_of_ble_eq_true rfl⟩ ?_
  refine lv_bipush (v := 64) hx hb dL_corner_783 (by decide) ?_
  refine lv_icmp_ne (tgt := 1019) hx hb dL_corner_785 (by decide) (fun c9 => absurd (by decide) c9) (fun _ => ?_)
  refine lv_aload_n hx hb dL_corner_788 rfl (lv_at hl 0 rfl) ?_
  refine lv_sipush (v := 256) hx hb dL_corner_789 (by decide) ?_
  refine lv_iconst (v := 5) hx hb dL_corner_792 (by decide) ?_
  have e98 := b_r (fun Q => fX7_tile Q (256:Int32) (5:Int32)) (fun M => fX8_tile M (256:Int32) (5:Int32)) (fun Q M h => tile_c Q M (256:Int32) (5:Int32) h) hB (r := (0:Int32)) (by decide +kernel)
  refine q_V (As := [.int (256:Int32), .int (5:Int32)]) (rest := []) (C := RX7) (T0 := TX7) (N0 := 4) (ci := 6) hx hb hml hown hts hl.1 (kX7_tile l D E t (aZ0 q u95) e98) zSt_mv (cwV 2 hts gL_corner_X7_tile rfl rfl rfl (by decide +kernel) ⟨Nat.le_of_ble_eq_true rfl, Nat.le_of_ble_eq_true rfl⟩) 0 rfl rfl hP hK (zSX_now hZ hS) rfl rfl (Nat.le_of_ble_eq_true rfl) dL_corner_793 ⟨Nat.le_of_ble_eq_true rfl, Nat.le_of_ble_eq_true rfl⟩ ?_
  refine lv_if_ne (tgt := 1019) hx hb dL_corner_796 (by decide) (fun c9 => absurd (by decide) c9) (fun _ => ?_)
  refine lv_aload_n hx hb dL_corner_799 rfl (lv_at hl 0 rfl) ?_
  refine lv_iconst (v := 0) hx hb dL_corner_800 (by decide) ?_
  refine lv_bipush (v := 8) hx hb dL_corner_801 (by decide) ?_
  obtain ⟨Z99, e99, hB⟩ := b_m (fun Q => fX7_set Q (0:Int32) (8:Int32)) (fun M => fX8_set M (0:Int32) (8:Int32)) (fun Q M h => set_c Q M (0:Int32) (8:Int32) h) hB (r := (2:Int32)) (z1 := zs_corner_6) (ck_e (by decide +kernel))
  refine t0_VI (As := [.int (0:Int32), .int (8:Int32)]) (rest := []) (Z1 := Z99) hx hb hml hown hts hl.1 (kX7_set l D E (aZ0 q u95) H.size e99) (cwV 2 hts gL_corner_X7_set rfl rfl rfl (by decide +kernel) ⟨Nat.le_of_ble_eq_true rfl, Nat.le_of_ble_eq_true rfl⟩) hP hD hS hA hK rfl rfl (Nat.le_of_ble_eq_true rfl) dL_corner_803 ⟨Nat.le_of_ble_eq_true rfl, Nat.le_of_ble_eq_true rfl⟩ (fun u100 H locs hP hD hS => ?_)
  refine lv_iconst (v := 2) hx hb dL_corner_806 (by decide) ?_
  refine lv_icmp_ne (tgt := 1019) hx hb dL_corner_807 (by decide) (fun c9 => absurd (by decide) c9) (fun _ => ?_)
  exact cor_c9 C hK hA hZ u100 Z99 H locs ls hB hP hD hS hl

set_option maxRecDepth 100000 in
set_option maxHeartbeats 4000000 in
theorem cor_c7 {l : Launch} {t : Nat → Nat} {D : va_G} {E : Nat → ClassId} {p : Program} {e : Env} {s : State} {m : MethodId} {below : List Frame} {meth : Method} {c : Code} {A : Nat → Prop} {q : Nat} (C : Ctx p s m meth c [] wsL_corner cL_corner 1 (some .boolean) RL) (hK : va_K D vwCl (tyE E) s) (hA : ∀ q : Nat, s.heap.size ≤ q → A q) (hZ : zSX t A s) (u : Nat → Nat) (Z : Nat → FS) (H : Heap) (locs : List Loc) (ls : Array Slot) (hB : Bis Z zs_corner_4) (hP : va_P D vwCl (wQ E (aZ0 q u) Z) H) (hD : va_D A (wQ E (aZ0 q u) Z)) (hS : va_S A s.heap H locs) (hl : lv_has ls 1 [(0, .ref q)]) : WI p l e (rmW 17 397 58 9007) s m [] below meth c D A 1 (fun _ : Unit => ([] : va_W)) 58 9007 H locs 55 8995 607 ls [] := by
  obtain ⟨hx, hb, hr, hml, hown, hlocks, hts⟩ := id C
  refine lv_aload_n hx hb dL_corner_607 rfl (lv_at hl 0 rfl) ?_
  refine lv_iconst (v := 0) hx hb dL_corner_608 (by decide) ?_
  refine lv_iconst (v := 0) hx hb dL_corner_609 (by decide) ?_
  refine lv_bipush (v := 63) hx hb dL_corner_610 (by decide) ?_
  refine lv_bipush (v := 63) hx hb dL_corner_612 (by decide) ?_
  refine lv_iconst (v := 2) hx hb dL_corner_614 (by decide) ?_
  obtain ⟨Z80, e80, hB⟩ := b_m (fun Q => fX7_window Q (0:Int32) (0:Int32) (63:Int32) (63:Int32) (2:Int32)) (fun M => fX8_window M (0:Int32) (0:Int32) (63:Int32) (63:Int32) (2:Int32)) (fun Q M h => window_c Q M (0:Int32) (0:Int32) (63:Int32) (63:Int32) (2:Int32) h) hB (r := (25:Int32)) (z1 := zs_corner_4) (ck_e (by decide +kernel))
  refine t0_NI (As := [.int (0:Int32), .int (0:Int32), .int (63:Int32), .int (63:Int32), .int (2:Int32)]) (rest := []) (Z1 := Z80) hx hb hml hown hts hl.1 (kX7_window l D E (aZ0 q u) H.size e80) (cwV 5 hts gL_corner_X7_window rfl rfl rfl (by decide +kernel) ⟨Nat.le_of_ble_eq_true rfl, Nat.le_of_ble_eq_true rfl⟩) hP hD hS hA hK hZ.2.2.2.2.2.2.2.2.1 rfl rfl (Nat.le_of_ble_eq_true rfl) dL_corner_615 ⟨Nat.le_of_ble_eq_true rfl, Nat.le_of_ble_eq_true rfl⟩ (fun u81 H locs hP hD hS => ?_)
  refine lv_bipush (v := 25) hx hb dL_corner_618 (by decide) ?_
  refine lv_icmp_ne (tgt := 754) hx hb dL_corner_620 (by decide) (fun c9 => absurd (by decide) c9) (fun _ => ?_)
  refine lv_aload_n hx hb dL_corner_623 rfl (lv_at hl 0 rfl) ?_
  refine lv_iconst (v := 1) hx hb dL_corner_624 (by decide) ?_
  refine lv_iconst (v := 1) hx hb dL_corner_625 (by decide) ?_
  refine lv_iconst (v := 2) hx hb dL_corner_626 (by decide) ?_
  refine lv_iconst (v := 2) hx hb dL_corner_627 (by decide) ?_
  refine lv_iconst (v := 3) hx hb dL_corner_628 (by decide) ?_
  obtain ⟨Z82, e82, hB⟩ := b_m (fun Q => fX7_window Q (1:Int32) (1:Int32) (2:Int32) (2:Int32) (3:Int32)) (fun M => fX8_window M (1:Int32) (1:Int32) (2:Int32) (2:Int32) (3:Int32)) (fun Q M h => window_c Q M (1:Int32) (1:Int32) (2:Int32) (2:Int32) (3:Int32) h) hB (r := (256:Int32)) (z1 := zs_corner_4) (ck_e (by decide +kernel))
  refine t0_NI (As := [.int (1:Int32), .int (1:Int32), .int (2:Int32), .int (2:Int32), .int (3:Int32)]) (rest := []) (Z1 := Z82) hx hb hml hown hts hl.1 (kX7_window l D E (aZ0 q u81) H.size e82) (cwV 5 hts gL_corner_X7_window rfl rfl rfl (by decide +kernel) ⟨Nat.le_of_ble_eq_true rfl, Nat.le_of_ble_eq_true rfl⟩) hP hD hS hA hK hZ.2.2.2.2.2.2.2.2.1 rfl rfl (Nat.le_of_ble_eq_true rfl) dL_corner_629 ⟨Nat.le_of_ble_eq_true rfl, Nat.le_of_ble_eq_true rfl⟩ (fun u83 H locs hP hD hS => ?_)
  refine lv_sipush (v := 256) hx hb dL_corner_632 (by decide) ?_
  refine lv_icmp_ne (tgt := 754) hx hb dL_corner_635 (by decide) (fun c9 => absurd (by decide) c9) (fun _ => ?_)
  refine lv_aload_n hx hb dL_corner_638 rfl (lv_at hl 0 rfl) ?_
  refine lv_iconst (v := 5) hx hb dL_corner_639 (by decide) ?_
  refine lv_iconst (v := 5) hx hb dL_corner_640 (by decide) ?_
  refine lv_iconst (v := 5) hx hb dL_corner_641 (by decide) ?_
  refine lv_iconst (v := 5) hx hb dL_corner_642 (by decide) ?_
  refine lv_iconst (v := 1) hx hb dL_corner_643 (by decide) ?_
  obtain ⟨Z84, e84, hB⟩ := b_m (fun Q => fX7_window Q (5:Int32) (5:Int32) (5:Int32) (5:Int32) (1:Int32)) (fun M => fX8_window M (5:Int32) (5:Int32) (5:Int32) (5:Int32) (1:Int32)) (fun Q M h => window_c Q M (5:Int32) (5:Int32) (5:Int32) (5:Int32) (1:Int32) h) hB (r := (1:Int32)) (z1 := zs_corner_4) (ck_e (by decide +kernel))
  refine t0_NI (As := [.int (5:Int32), .int (5:Int32), .int (5:Int32), .int (5:Int32), .int (1:Int32)]) (rest := []) (Z1 := Z84) hx hb hml hown hts hl.1 (kX7_window l D E (aZ0 q u83) H.size e84) (cwV 5 hts gL_corner_X7_window rfl rfl rfl (by decide +kernel) ⟨Nat.le_of_ble_eq_true rfl, Nat.le_of_ble_eq_true rfl⟩) hP hD hS hA hK hZ.2.2.2.2.2.2.2.2.1 rfl rfl (Nat.le_of_ble_eq_true rfl) dL_corner_644 ⟨Nat.le_of_ble_eq_true rfl, Nat.le_of_ble_eq_true rfl⟩ (fun u85 H locs hP hD hS => ?_)
  refine lv_iconst (v := 1) hx hb dL_corner_647 (by decide) ?_
  refine lv_icmp_ne (tgt := 754) hx hb dL_corner_648 (by decide) (fun c9 => absurd (by decide) c9) (fun _ => ?_)
  refine lv_aload_n hx hb dL_corner_651 rfl (lv_at hl 0 rfl) ?_
  refine lv_bipush (v := 63) hx hb dL_corner_652 (by decide) ?_
  refine lv_iconst (v := 0) hx hb dL_corner_654 (by decide) ?_
  refine lv_iconst (v := 0) hx hb dL_corner_655 (by decide) ?_
  have e86 := b_r (fun Q => fX7_nearest Q (63:Int32) (0:Int32) (0:Int32)) (fun M => fX8_nearest M (63:Int32) (0:Int32) (0:Int32)) (fun Q M h => nearest_c Q M (63:Int32) (0:Int32) (0:Int32) h) hB (r := (1:Int32)) (by decide +kernel)
  refine q_V (As := [.int (63:Int32), .int (0:Int32), .int (0:Int32)]) (rest := []) (C := RX7) (T0 := TX7) (N0 := 4) (ci := 6) hx hb hml hown hts hl.1 (kX7_nearest l D E (aZ0 q u85) e86) zNo_mv (cwV 3 hts gL_corner_X7_nearest rfl rfl rfl (by decide +kernel) ⟨Nat.le_of_ble_eq_true rfl, Nat.le_of_ble_eq_true rfl⟩) 0 rfl rfl hP hK trivial rfl rfl (Nat.le_of_ble_eq_true rfl) dL_corner_656 ⟨Nat.le_of_ble_eq_true rfl, Nat.le_of_ble_eq_true rfl⟩ ?_
  refine lv_iconst (v := 1) hx hb dL_corner_659 (by decide) ?_
  refine lv_icmp_ne (tgt := 754) hx hb dL_corner_660 (by decide) (fun c9 => absurd (by decide) c9) (fun _ => ?_)
  refine lv_aload_n hx hb dL_corner_663 rfl (lv_at hl 0 rfl) ?_
  refine lv_bipush (v := 63) hx hb dL_corner_664 (by decide) ?_
  refine lv_iconst (v := 0) hx hb dL_corner_666 (by decide) ?_
  refine lv_iconst (v := 1) hx hb dL_corner_667 (by decide) ?_
  have e87 := b_r (fun Q => fX7_nearest Q (63:Int32) (0:Int32) (1:Int32)) (fun M => fX8_nearest M (63:Int32) (0:Int32) (1:Int32)) (fun Q M h => nearest_c Q M (63:Int32) (0:Int32) (1:Int32) h) hB (r := (3844:Int32)) (by decide +kernel)
  refine q_V (As := [.int (63:Int32), .int (0:Int32), .int (1:Int32)]) (rest := []) (C := RX7) (T0 := TX7) (N0 := 4) (ci := 6) hx hb hml hown hts hl.1 (kX7_nearest l D E (aZ0 q u85) e87) zNo_mv (cwV 3 hts gL_corner_X7_nearest rfl rfl rfl (by decide +kernel) ⟨Nat.le_of_ble_eq_true rfl, Nat.le_of_ble_eq_true rfl⟩) 0 rfl rfl hP hK trivial rfl rfl (Nat.le_of_ble_eq_true rfl) dL_corner_668 ⟨Nat.le_of_ble_eq_true rfl, Nat.le_of_ble_eq_true rfl⟩ ?_
  refine lv_sipush (v := 3844) hx hb dL_corner_671 (by decide) ?_
  refine lv_icmp_ne (tgt := 754) hx hb dL_corner_674 (by decide) (fun c9 => absurd (by decide) c9) (fun _ => ?_)
  refine lv_aload_n hx hb dL_corner_677 rfl (lv_at hl 0 rfl) ?_
  refine lv_iconst (v := 4) hx hb dL_corner_678 (by decide) ?_
  refine lv_iconst (v := 0) hx hb dL_corner_679 (by decide) ?_
  refine lv_iconst (v := 0) hx hb dL_corner_680 (by decide) ?_
  have e88 := b_r (fun Q => fX7_beside Q (4:Int32) (0:Int32) (0:Int32)) (fun M => fX8_beside M (4:Int32) (0:Int32) (0:Int32)) (fun Q M h => beside_c Q M (4:Int32) (0:Int32) (0:Int32) h) hB (r := (5:Int32)) (by decide +kernel)
  refine q_V (As := [.int (4:Int32), .int (0:Int32), .int (0:Int32)]) (rest := []) (C := RX7) (T0 := TX7) (N0 := 4) (ci := 6) hx hb hml hown hts hl.1 (kX7_beside l D E t (aZ0 q u85) e88) zSt_mv (cwV 3 hts gL_corner_X7_beside rfl rfl rfl (by decide +kernel) ⟨Nat.le_of_ble_eq_true rfl, Nat.le_of_ble_eq_true rfl⟩) 0 rfl rfl hP hK (zSX_now hZ hS) rfl rfl (Nat.le_of_ble_eq_true rfl) dL_corner_681 ⟨Nat.le_of_ble_eq_true rfl, Nat.le_of_ble_eq_true rfl⟩ ?_
  refine lv_iconst (v := 5) hx hb dL_corner_684 (by decide) ?_
  refine lv_icmp_ne (tgt := 754) hx hb dL_corner_685 (by decide) (fun c9 => absurd (by decide) c9) (fun _ => ?_)
  refine lv_aload_n hx hb dL_corner_688 rfl (lv_at hl 0 rfl) ?_
  refine lv_iconst (v := 4) hx hb dL_corner_689 (by decide) ?_
  refine lv_iconst (v := 2) hx hb dL_corner_690 (by decide) ?_
  refine lv_iconst (v := 1) hx hb dL_corner_691 (by decide) ?_
  have e89 := b_r (fun Q => fX7_beside Q (4:Int32) (2:Int32) (1:Int32)) (fun M => fX8_beside M (4:Int32) (2:Int32) (1:Int32)) (fun Q M h => beside_c Q M (4:Int32) (2:Int32) (1:Int32) h) hB (r := (6:Int32)) (by decide +kernel)
  refine q_V (As := [.int (4:Int32), .int (2:Int32), .int (1:Int32)]) (rest := []) (C := RX7) (T0 := TX7) (N0 := 4) (ci := 6) hx hb hml hown hts hl.1 (kX7_beside l D E t (aZ0 q u85) e89) zSt_mv (cwV 3 hts gL_corner_X7_beside rfl rfl rfl (by decide +kernel) ⟨Nat.le_of_ble_eq_true rfl, Nat.le_of_ble_eq_true rfl⟩) 0 rfl rfl hP hK (zSX_now hZ hS) rfl rfl (Nat.le_of_ble_eq_true rfl) dL_corner_692 ⟨Nat.le_of_ble_eq_true rfl, Nat.le_of_ble_eq_true rfl⟩ ?_
  refine lv_bipush (v := 6) hx hb dL_corner_695 (by decide) ?_
  refine lv_icmp_ne (tgt := 754) hx hb dL_corner_697 (by decide) (fun c9 => absurd (by decide) c9) (fun _ => ?_)
  refine lv_aload_n hx hb dL_corner_700 rfl (lv_at hl 0 rfl) ?_
  refine lv_iconst (v := 4) hx hb dL_corner_701 (by decide) ?_
  refine lv_iconst (v := 1) hx hb dL_corner_702 (by decide) ?_
  refine lv_iconst (v := 0) hx hb dL_corner_703 (by decide) ?_
  have e90 := b_r (fun Q => fX7_beside Q (4:Int32) (1:Int32) (0:Int32)) (fun M => fX8_beside M (4:Int32) (1:Int32) (0:Int32)) (fun Q M h => beside_c Q M (4:Int32) (1:Int32) (0:Int32) h) hB (r := (7:Int32)) (by decide +kernel)
  refine q_V (As := [.int (4:Int32), .int (1:Int32), .int (0:Int32)]) (rest := []) (C := RX7) (T0 := TX7) (N0 := 4) (ci := 6) hx hb hml hown hts hl.1 (kX7_beside l D E t (aZ0 q u85) e90) zSt_mv (cwV 3 hts gL_corner_X7_beside rfl rfl rfl (by decide +kernel) ⟨Nat.le_of_ble_eq_true rfl, Nat.le_of_ble_eq_true rfl⟩) 0 rfl rfl hP hK (zSX_now hZ hS) rfl rfl (Nat.le_of_ble_eq_true rfl) dL_corner_704 ⟨Nat.le_of_ble_eq_true rfl, Nat.le_of_ble_eq_true rfl⟩ ?_
  refine lv_bipush (v := 7) hx hb dL_corner_707 (by decide) ?_
  refine lv_icmp_ne (tgt := 754) hx hb dL_corner_709 (by decide) (fun c9 => absurd (by decide) c9) (fun _ => ?_)
  exact cor_c8 C hK hA hZ u85 Z84 H locs ls hB hP hD hS hl

set_option maxRecDepth 100000 in
set_option maxHeartbeats 4000000 in
theorem cor_c6 {l : Launch} {t : Nat → Nat} {D : va_G} {E : Nat → ClassId} {p : Program} {e : Env} {s : State} {m : MethodId} {below : List Frame} {meth : Method} {c : Code} {A : Nat → Prop} {q : Nat} (C : Ctx p s m meth c [] wsL_corner cL_corner 1 (some .boolean) RL) (hK : va_K D vwCl (tyE E) s) (hA : ∀ q : Nat, s.heap.size ≤ q → A q) (hZ : zSX t A s) (u : Nat → Nat) (Z : Nat → FS) (H : Heap) (locs : List Loc) (ls : Array Slot) (hB : Bis Z zs_corner_4) (hP : va_P D vwCl (wQ E (aZ0 q u) Z) H) (hD : va_D A (wQ E (aZ0 q u) Z)) (hS : va_S A s.heap H locs) (hl : lv_has ls 1 [(0, .ref q)]) : WI p l e (rmW 17 397 58 9007) s m [] below meth c D A 1 (fun _ : Unit => ([] : va_W)) 58 9007 H locs 50 8975 506 ls [] := by
  obtain ⟨hx, hb, hr, hml, hown, hlocks, hts⟩ := id C
  refine lv_aload_n hx hb dL_corner_506 rfl (lv_at hl 0 rfl) ?_
  refine lv_bipush (v := 18) hx hb dL_corner_507 (by decide) ?_
  obtain ⟨Z64, e64, hB⟩ := b_m (fun Q => fX7_leastFull Q (18:Int32)) (fun M => fX8_leastFull M (18:Int32)) (fun Q M h => leastFull_c Q M (18:Int32) h) hB (r := (3:Int32)) (z1 := zs_corner_4) (ck_e (by decide +kernel))
  refine t0_UI (As := [.int (18:Int32)]) (rest := []) (Z1 := Z64) hx hb hml hown hts hl.1 (kX7_leastFull l D E (aZ0 q u) H.size e64) (cwV 1 hts gL_corner_X7_leastFull rfl rfl rfl (by decide +kernel) ⟨Nat.le_of_ble_eq_true rfl, Nat.le_of_ble_eq_true rfl⟩) hP hD hS hA hK rfl rfl (Nat.le_of_ble_eq_true rfl) dL_corner_509 ⟨Nat.le_of_ble_eq_true rfl, Nat.le_of_ble_eq_true rfl⟩ (fun u65 H locs hP hD hS => ?_)
  refine lv_iconst (v := 3) hx hb dL_corner_512 (by decide) ?_
  refine lv_icmp_ne (tgt := 754) hx hb dL_corner_513 (by decide) (fun c9 => absurd (by decide) c9) (fun _ => ?_)
  refine lv_aload_n hx hb dL_corner_516 rfl (lv_at hl 0 rfl) ?_
  refine lv_bipush (v := 19) hx hb dL_corner_517 (by decide) ?_
  obtain ⟨Z66, e66, hB⟩ := b_m (fun Q => fX7_leastFull Q (19:Int32)) (fun M => fX8_leastFull M (19:Int32)) (fun Q M h => leastFull_c Q M (19:Int32) h) hB (r := (1:Int32)) (z1 := zs_corner_4) (ck_e (by decide +kernel))
  refine t0_UI (As := [.int (19:Int32)]) (rest := []) (Z1 := Z66) hx hb hml hown hts hl.1 (kX7_leastFull l D E (aZ0 q u65) H.size e66) (cwV 1 hts gL_corner_X7_leastFull rfl rfl rfl (by decide +kernel) ⟨Nat.le_of_ble_eq_true rfl, Nat.le_of_ble_eq_true rfl⟩) hP hD hS hA hK rfl rfl (Nat.le_of_ble_eq_true rfl) dL_corner_519 ⟨Nat.le_of_ble_eq_true rfl, Nat.le_of_ble_eq_true rfl⟩ (fun u67 H locs hP hD hS => ?_)
  refine lv_iconst (v := 1) hx hb dL_corner_522 (by decide) ?_
  refine lv_icmp_ne (tgt := 754) hx hb dL_corner_523 (by decide) (fun c9 => absurd (by decide) c9) (fun _ => ?_)
  refine lv_aload_n hx hb dL_corner_526 rfl (lv_at hl 0 rfl) ?_
  refine lv_sipush (v := 4096) hx hb dL_corner_527 (by decide) ?_
  obtain ⟨Z68, e68, hB⟩ := b_m (fun Q => fX7_leastFull Q (4096:Int32)) (fun M => fX8_leastFull M (4096:Int32)) (fun Q M h => leastFull_c Q M (4096:Int32) h) hB (r := (1:Int32)) (z1 := zs_corner_4) (ck_e (by decide +kernel))
  refine t0_UI (As := [.int (4096:Int32)]) (rest := []) (Z1 := Z68) hx hb hml hown hts hl.1 (kX7_leastFull l D E (aZ0 q u67) H.size e68) (cwV 1 hts gL_corner_X7_leastFull rfl rfl rfl (by decide +kernel) ⟨Nat.le_of_ble_eq_true rfl, Nat.le_of_ble_eq_true rfl⟩) hP hD hS hA hK rfl rfl (Nat.le_of_ble_eq_true rfl) dL_corner_530 ⟨Nat.le_of_ble_eq_true rfl, Nat.le_of_ble_eq_true rfl⟩ (fun u69 H locs hP hD hS => ?_)
  refine lv_iconst (v := 1) hx hb dL_corner_533 (by decide) ?_
  refine lv_icmp_ne (tgt := 754) hx hb dL_corner_534 (by decide) (fun c9 => absurd (by decide) c9) (fun _ => ?_)
  refine lv_aload_n hx hb dL_corner_537 rfl (lv_at hl 0 rfl) ?_
  refine lv_iconst (v := 0) hx hb dL_corner_538 (by decide) ?_
  refine lv_iconst (v := 0) hx hb dL_corner_539 (by decide) ?_
  refine lv_iconst (v := 1) hx hb dL_corner_540 (by decide) ?_
  refine lv_iconst (v := 1) hx hb dL_corner_541 (by decide) ?_
  refine lv_iconst (v := 0) hx hb dL_corner_542 (by decide) ?_
  obtain ⟨Z70, e70, hB⟩ := b_m (fun Q => fX7_window Q (0:Int32) (0:Int32) (1:Int32) (1:Int32) (0:Int32)) (fun M => fX8_window M (0:Int32) (0:Int32) (1:Int32) (1:Int32) (0:Int32)) (fun Q M h => window_c Q M (0:Int32) (0:Int32) (1:Int32) (1:Int32) (0:Int32) h) hB (r := (3:Int32)) (z1 := zs_corner_4) (ck_e (by decide +kernel))
  refine t0_NI (As := [.int (0:Int32), .int (0:Int32), .int (1:Int32), .int (1:Int32), .int (0:Int32)]) (rest := []) (Z1 := Z70) hx hb hml hown hts hl.1 (kX7_window l D E (aZ0 q u69) H.size e70) (cwV 5 hts gL_corner_X7_window rfl rfl rfl (by decide +kernel) ⟨Nat.le_of_ble_eq_true rfl, Nat.le_of_ble_eq_true rfl⟩) hP hD hS hA hK hZ.2.2.2.2.2.2.2.2.1 rfl rfl (Nat.le_of_ble_eq_true rfl) dL_corner_543 ⟨Nat.le_of_ble_eq_true rfl, Nat.le_of_ble_eq_true rfl⟩ (fun u71 H locs hP hD hS => ?_)
  refine lv_iconst (v := 3) hx hb dL_corner_546 (by decide) ?_
  refine lv_icmp_ne (tgt := 754) hx hb dL_corner_547 (by decide) (fun c9 => absurd (by decide) c9) (fun _ => ?_)
  refine lv_aload_n hx hb dL_corner_550 rfl (lv_at hl 0 rfl) ?_
  refine lv_iconst (v := 0) hx hb dL_corner_551 (by decide) ?_
  refine lv_iconst (v := 0) hx hb dL_corner_552 (by decide) ?_
  refine lv_iconst (v := 1) hx hb dL_corner_553 (by decide) ?_
  refine lv_iconst (v := 1) hx hb dL_corner_554 (by decide) ?_
  refine lv_iconst (v := 1) hx hb dL_corner_555 (by decide) ?_
  obtain ⟨Z72, e72, hB⟩ := b_m (fun Q => fX7_window Q (0:Int32) (0:Int32) (1:Int32) (1:Int32) (1:Int32)) (fun M => fX8_window M (0:Int32) (0:Int32) (1:Int32) (1:Int32) (1:Int32)) (fun Q M h => window_c Q M (0:Int32) (0:Int32) (1:Int32) (1:Int32) (1:Int32) h) hB (r := (4:Int32)) (z1 := zs_corner_4) (ck_e (by decide +kernel))
  refine t0_NI (As := [.int (0:Int32), .int (0:Int32), .int (1:Int32), .int (1:Int32), .int (1:Int32)]) (rest := []) (Z1 := Z72) hx hb hml hown hts hl.1 (kX7_window l D E (aZ0 q u71) H.size e72) (cwV 5 hts gL_corner_X7_window rfl rfl rfl (by decide +kernel) ⟨Nat.le_of_ble_eq_true rfl, Nat.le_of_ble_eq_true rfl⟩) hP hD hS hA hK hZ.2.2.2.2.2.2.2.2.1 rfl rfl (Nat.le_of_ble_eq_true rfl) dL_corner_556 ⟨Nat.le_of_ble_eq_true rfl, Nat.le_of_ble_eq_true rfl⟩ (fun u73 H locs hP hD hS => ?_)
  refine lv_iconst (v := 4) hx hb dL_corner_559 (by decide) ?_
  refine lv_icmp_ne (tgt := 754) hx hb dL_corner_560 (by decide) (fun c9 => absurd (by decide) c9) (fun _ => ?_)
  refine lv_aload_n hx hb dL_corner_563 rfl (lv_at hl 0 rfl) ?_
  refine lv_iconst (v := 0) hx hb dL_corner_564 (by decide) ?_
  refine lv_iconst (v := 0) hx hb dL_corner_565 (by decide) ?_
  refine lv_iconst (v := 1) hx hb dL_corner_566 (by decide) ?_
  refine lv_iconst (v := 1) hx hb dL_corner_567 (by decide) ?_
  refine lv_iconst (v := 2) hx hb dL_corner_568 (by decide) ?_
  obtain ⟨Z74, e74, hB⟩ := b_m (fun Q => fX7_window Q (0:Int32) (0:Int32) (1:Int32) (1:Int32) (2:Int32)) (fun M => fX8_window M (0:Int32) (0:Int32) (1:Int32) (1:Int32) (2:Int32)) (fun Q M h => window_c Q M (0:Int32) (0:Int32) (1:Int32) (1:Int32) (2:Int32) h) hB (r := (10:Int32)) (z1 := zs_corner_4) (ck_e (by decide +kernel))
  refine t0_NI (As := [.int (0:Int32), .int (0:Int32), .int (1:Int32), .int (1:Int32), .int (2:Int32)]) (rest := []) (Z1 := Z74) hx hb hml hown hts hl.1 (kX7_window l D E (aZ0 q u73) H.size e74) (cwV 5 hts gL_corner_X7_window rfl rfl rfl (by decide +kernel) ⟨Nat.le_of_ble_eq_true rfl, Nat.le_of_ble_eq_true rfl⟩) hP hD hS hA hK hZ.2.2.2.2.2.2.2.2.1 rfl rfl (Nat.le_of_ble_eq_true rfl) dL_corner_569 ⟨Nat.le_of_ble_eq_true rfl, Nat.le_of_ble_eq_true rfl⟩ (fun u75 H locs hP hD hS => ?_)
  refine lv_bipush (v := 10) hx hb dL_corner_572 (by decide) ?_
  refine lv_icmp_ne (tgt := 754) hx hb dL_corner_574 (by decide) (fun c9 => absurd (by decide) c9) (fun _ => ?_)
  refine lv_aload_n hx hb dL_corner_577 rfl (lv_at hl 0 rfl) ?_
  refine lv_iconst (v := 0) hx hb dL_corner_578 (by decide) ?_
  refine lv_iconst (v := 0) hx hb dL_corner_579 (by decide) ?_
  refine lv_iconst (v := 1) hx hb dL_corner_580 (by decide) ?_
  refine lv_iconst (v := 1) hx hb dL_corner_581 (by decide) ?_
  refine lv_iconst (v := 3) hx hb dL_corner_582 (by decide) ?_
  obtain ⟨Z76, e76, hB⟩ := b_m (fun Q => fX7_window Q (0:Int32) (0:Int32) (1:Int32) (1:Int32) (3:Int32)) (fun M => fX8_window M (0:Int32) (0:Int32) (1:Int32) (1:Int32) (3:Int32)) (fun Q M h => window_c Q M (0:Int32) (0:Int32) (1:Int32) (1:Int32) (3:Int32) h) hB (r := (1024:Int32)) (z1 := zs_corner_4) (ck_e (by decide +kernel))
  refine t0_NI (As := [.int (0:Int32), .int (0:Int32), .int (1:Int32), .int (1:Int32), .int (3:Int32)]) (rest := []) (Z1 := Z76) hx hb hml hown hts hl.1 (kX7_window l D E (aZ0 q u75) H.size e76) (cwV 5 hts gL_corner_X7_window rfl rfl rfl (by decide +kernel) ⟨Nat.le_of_ble_eq_true rfl, Nat.le_of_ble_eq_true rfl⟩) hP hD hS hA hK hZ.2.2.2.2.2.2.2.2.1 rfl rfl (Nat.le_of_ble_eq_true rfl) dL_corner_583 ⟨Nat.le_of_ble_eq_true rfl, Nat.le_of_ble_eq_true rfl⟩ (fun u77 H locs hP hD hS => ?_)
  refine lv_sipush (v := 1024) hx hb dL_corner_586 (by decide) ?_
  refine lv_icmp_ne (tgt := 754) hx hb dL_corner_589 (by decide) (fun c9 => absurd (by decide) c9) (fun _ => ?_)
  refine lv_aload_n hx hb dL_corner_592 rfl (lv_at hl 0 rfl) ?_
  refine lv_iconst (v := 0) hx hb dL_corner_593 (by decide) ?_
  refine lv_iconst (v := 0) hx hb dL_corner_594 (by decide) ?_
  refine lv_bipush (v := 63) hx hb dL_corner_595 (by decide) ?_
  refine lv_bipush (v := 63) hx hb dL_corner_597 (by decide) ?_
  refine lv_iconst (v := 3) hx hb dL_corner_599 (by decide) ?_
  obtain ⟨Z78, e78, hB⟩ := b_m (fun Q => fX7_window Q (0:Int32) (0:Int32) (63:Int32) (63:Int32) (3:Int32)) (fun M => fX8_window M (0:Int32) (0:Int32) (63:Int32) (63:Int32) (3:Int32)) (fun Q M h => window_c Q M (0:Int32) (0:Int32) (63:Int32) (63:Int32) (3:Int32) h) hB (r := (1:Int32)) (z1 := zs_corner_4) (ck_e (by decide +kernel))
  refine t0_NI (As := [.int (0:Int32), .int (0:Int32), .int (63:Int32), .int (63:Int32), .int (3:Int32)]) (rest := []) (Z1 := Z78) hx hb hml hown hts hl.1 (kX7_window l D E (aZ0 q u77) H.size e78) (cwV 5 hts gL_corner_X7_window rfl rfl rfl (by decide +kernel) ⟨Nat.le_of_ble_eq_true rfl, Nat.le_of_ble_eq_true rfl⟩) hP hD hS hA hK hZ.2.2.2.2.2.2.2.2.1 rfl rfl (Nat.le_of_ble_eq_true rfl) dL_corner_600 ⟨Nat.le_of_ble_eq_true rfl, Nat.le_of_ble_eq_true rfl⟩ (fun u79 H locs hP hD hS => ?_)
  refine lv_iconst (v := 1) hx hb dL_corner_603 (by decide) ?_
  refine lv_icmp_ne (tgt := 754) hx hb dL_corner_604 (by decide) (fun c9 => absurd (by decide) c9) (fun _ => ?_)
  exact cor_c7 C hK hA hZ u79 Z78 H locs ls hB hP hD hS hl

set_option maxRecDepth 100000 in
set_option maxHeartbeats 4000000 in
theorem cor_c5 {l : Launch} {t : Nat → Nat} {D : va_G} {E : Nat → ClassId} {p : Program} {e : Env} {s : State} {m : MethodId} {below : List Frame} {meth : Method} {c : Code} {A : Nat → Prop} {q : Nat} (C : Ctx p s m meth c [] wsL_corner cL_corner 1 (some .boolean) RL) (hK : va_K D vwCl (tyE E) s) (hA : ∀ q : Nat, s.heap.size ≤ q → A q) (hZ : zSX t A s) (u : Nat → Nat) (Z : Nat → FS) (H : Heap) (locs : List Loc) (ls : Array Slot) (hB : Bis Z zs_corner_4) (hP : va_P D vwCl (wQ E (aZ0 q u) Z) H) (hD : va_D A (wQ E (aZ0 q u) Z)) (hS : va_S A s.heap H locs) (hl : lv_has ls 1 [(0, .ref q)]) : WI p l e (rmW 17 397 58 9007) s m [] below meth c D A 1 (fun _ : Unit => ([] : va_W)) 58 9007 H locs 50 8975 416 ls [] := by
  obtain ⟨hx, hb, hr, hml, hown, hlocks, hts⟩ := id C
  refine lv_aload_n hx hb dL_corner_416 rfl (lv_at hl 0 rfl) ?_
  refine lv_iconst (v := 0) hx hb dL_corner_417 (by decide) ?_
  refine lv_iconst (v := 1) hx hb dL_corner_418 (by decide) ?_
  obtain ⟨Z48, e48, hB⟩ := b_m (fun Q => fX7_point Q (0:Int32) (1:Int32)) (fun M => fX8_point M (0:Int32) (1:Int32)) (fun Q M h => point_c Q M (0:Int32) (1:Int32) h) hB (r := (-5:Int32)) (z1 := zs_corner_4) (ck_e (by decide +kernel))
  refine t0_VI (As := [.int (0:Int32), .int (1:Int32)]) (rest := []) (Z1 := Z48) hx hb hml hown hts hl.1 (kX7_point l D E (aZ0 q u) H.size e48) (cwV 2 hts gL_corner_X7_point rfl rfl rfl (by decide +kernel) ⟨Nat.le_of_ble_eq_true rfl, Nat.le_of_ble_eq_true rfl⟩) hP hD hS hA hK rfl rfl (Nat.le_of_ble_eq_true rfl) dL_corner_419 ⟨Nat.le_of_ble_eq_true rfl, Nat.le_of_ble_eq_true rfl⟩ (fun u49 H locs hP hD hS => ?_)
  refine lv_bipush (v := -5) hx hb dL_corner_422 (by decide) ?_
  refine lv_icmp_ne (tgt := 754) hx hb dL_corner_424 (by decide) (fun c9 => absurd (by decide) c9) (fun _ => ?_)
  refine lv_aload_n hx hb dL_corner_427 rfl (lv_at hl 0 rfl) ?_
  refine lv_iconst (v := 0) hx hb dL_corner_428 (by decide) ?_
  refine lv_iconst (v := 0) hx hb dL_corner_429 (by decide) ?_
  refine lv_iconst (v := 0) hx hb dL_corner_430 (by decide) ?_
  obtain ⟨Z50, e50, hB⟩ := b_m (fun Q => fX7_ifPut Q (0:Int32) (0:Int32) (0:Int32)) (fun M => fX8_ifPut M (0:Int32) (0:Int32) (0:Int32)) (fun Q M h => ifPut_c Q M (0:Int32) (0:Int32) (0:Int32) h) hB (r := (-5:Int32)) (z1 := zs_corner_4) (ck_e (by decide +kernel))
  refine t0_UI (As := [.int (0:Int32), .int (0:Int32), .int (0:Int32)]) (rest := []) (Z1 := Z50) hx hb hml hown hts hl.1 (kX7_ifPut l D E (aZ0 q u49) H.size e50) (cwV 3 hts gL_corner_X7_ifPut rfl rfl rfl (by decide +kernel) ⟨Nat.le_of_ble_eq_true rfl, Nat.le_of_ble_eq_true rfl⟩) hP hD hS hA hK rfl rfl (Nat.le_of_ble_eq_true rfl) dL_corner_431 ⟨Nat.le_of_ble_eq_true rfl, Nat.le_of_ble_eq_true rfl⟩ (fun u51 H locs hP hD hS => ?_)
  refine lv_bipush (v := -5) hx hb dL_corner_434 (by decide) ?_
  refine lv_icmp_ne (tgt := 754) hx hb dL_corner_436 (by decide) (fun c9 => absurd (by decide) c9) (fun _ => ?_)
  refine lv_aload_n hx hb dL_corner_439 rfl (lv_at hl 0 rfl) ?_
  refine lv_iconst (v := 0) hx hb dL_corner_440 (by decide) ?_
  refine lv_iconst (v := 0) hx hb dL_corner_441 (by decide) ?_
  refine lv_iconst (v := 2) hx hb dL_corner_442 (by decide) ?_
  obtain ⟨Z52, e52, hB⟩ := b_m (fun Q => fX7_ifPut Q (0:Int32) (0:Int32) (2:Int32)) (fun M => fX8_ifPut M (0:Int32) (0:Int32) (2:Int32)) (fun Q M h => ifPut_c Q M (0:Int32) (0:Int32) (2:Int32) h) hB (r := (-2:Int32)) (z1 := zs_corner_4) (ck_e (by decide +kernel))
  refine t0_UI (As := [.int (0:Int32), .int (0:Int32), .int (2:Int32)]) (rest := []) (Z1 := Z52) hx hb hml hown hts hl.1 (kX7_ifPut l D E (aZ0 q u51) H.size e52) (cwV 3 hts gL_corner_X7_ifPut rfl rfl rfl (by decide +kernel) ⟨Nat.le_of_ble_eq_true rfl, Nat.le_of_ble_eq_true rfl⟩) hP hD hS hA hK rfl rfl (Nat.le_of_ble_eq_true rfl) dL_corner_443 ⟨Nat.le_of_ble_eq_true rfl, Nat.le_of_ble_eq_true rfl⟩ (fun u53 H locs hP hD hS => ?_)
  refine lv_bipush (v := -2) hx hb dL_corner_446 (by decide) ?_
  refine lv_icmp_ne (tgt := 754) hx hb dL_corner_448 (by decide) (fun c9 => absurd (by decide) c9) (fun _ => ?_)
  refine lv_aload_n hx hb dL_corner_451 rfl (lv_at hl 0 rfl) ?_
  refine lv_iconst (v := 1) hx hb dL_corner_452 (by decide) ?_
  refine lv_iconst (v := 1) hx hb dL_corner_453 (by decide) ?_
  refine lv_iconst (v := 0) hx hb dL_corner_454 (by decide) ?_
  obtain ⟨Z54, e54, hB⟩ := b_m (fun Q => fX7_ifPut Q (1:Int32) (1:Int32) (0:Int32)) (fun M => fX8_ifPut M (1:Int32) (1:Int32) (0:Int32)) (fun Q M h => ifPut_c Q M (1:Int32) (1:Int32) (0:Int32) h) hB (r := (19:Int32)) (z1 := zs_corner_4) (ck_e (by decide +kernel))
  refine t0_UI (As := [.int (1:Int32), .int (1:Int32), .int (0:Int32)]) (rest := []) (Z1 := Z54) hx hb hml hown hts hl.1 (kX7_ifPut l D E (aZ0 q u53) H.size e54) (cwV 3 hts gL_corner_X7_ifPut rfl rfl rfl (by decide +kernel) ⟨Nat.le_of_ble_eq_true rfl, Nat.le_of_ble_eq_true rfl⟩) hP hD hS hA hK rfl rfl (Nat.le_of_ble_eq_true rfl) dL_corner_455 ⟨Nat.le_of_ble_eq_true rfl, Nat.le_of_ble_eq_true rfl⟩ (fun u55 H locs hP hD hS => ?_)
  refine lv_bipush (v := 19) hx hb dL_corner_458 (by decide) ?_
  refine lv_icmp_ne (tgt := 754) hx hb dL_corner_460 (by decide) (fun c9 => absurd (by decide) c9) (fun _ => ?_)
  refine lv_aload_n hx hb dL_corner_463 rfl (lv_at hl 0 rfl) ?_
  refine lv_iconst (v := 1) hx hb dL_corner_464 (by decide) ?_
  refine lv_iconst (v := 1) hx hb dL_corner_465 (by decide) ?_
  refine lv_iconst (v := 1) hx hb dL_corner_466 (by decide) ?_
  obtain ⟨Z56, e56, hB⟩ := b_m (fun Q => fX7_ifPut Q (1:Int32) (1:Int32) (1:Int32)) (fun M => fX8_ifPut M (1:Int32) (1:Int32) (1:Int32)) (fun Q M h => ifPut_c Q M (1:Int32) (1:Int32) (1:Int32) h) hB (r := (6:Int32)) (z1 := zs_corner_4) (ck_e (by decide +kernel))
  refine t0_UI (As := [.int (1:Int32), .int (1:Int32), .int (1:Int32)]) (rest := []) (Z1 := Z56) hx hb hml hown hts hl.1 (kX7_ifPut l D E (aZ0 q u55) H.size e56) (cwV 3 hts gL_corner_X7_ifPut rfl rfl rfl (by decide +kernel) ⟨Nat.le_of_ble_eq_true rfl, Nat.le_of_ble_eq_true rfl⟩) hP hD hS hA hK rfl rfl (Nat.le_of_ble_eq_true rfl) dL_corner_467 ⟨Nat.le_of_ble_eq_true rfl, Nat.le_of_ble_eq_true rfl⟩ (fun u57 H locs hP hD hS => ?_)
  refine lv_bipush (v := 6) hx hb dL_corner_470 (by decide) ?_
  refine lv_icmp_ne (tgt := 754) hx hb dL_corner_472 (by decide) (fun c9 => absurd (by decide) c9) (fun _ => ?_)
  refine lv_aload_n hx hb dL_corner_475 rfl (lv_at hl 0 rfl) ?_
  refine lv_bipush (v := 40) hx hb dL_corner_476 (by decide) ?_
  refine lv_bipush (v := 9) hx hb dL_corner_478 (by decide) ?_
  refine lv_iconst (v := 1) hx hb dL_corner_480 (by decide) ?_
  obtain ⟨Z58, e58, hB⟩ := b_m (fun Q => fX7_ifPut Q (40:Int32) (9:Int32) (1:Int32)) (fun M => fX8_ifPut M (40:Int32) (9:Int32) (1:Int32)) (fun Q M h => ifPut_c Q M (40:Int32) (9:Int32) (1:Int32) h) hB (r := (1:Int32)) (z1 := zs_corner_4) (ck_e (by decide +kernel))
  refine t0_UI (As := [.int (40:Int32), .int (9:Int32), .int (1:Int32)]) (rest := []) (Z1 := Z58) hx hb hml hown hts hl.1 (kX7_ifPut l D E (aZ0 q u57) H.size e58) (cwV 3 hts gL_corner_X7_ifPut rfl rfl rfl (by decide +kernel) ⟨Nat.le_of_ble_eq_true rfl, Nat.le_of_ble_eq_true rfl⟩) hP hD hS hA hK rfl rfl (Nat.le_of_ble_eq_true rfl) dL_corner_481 ⟨Nat.le_of_ble_eq_true rfl, Nat.le_of_ble_eq_true rfl⟩ (fun u59 H locs hP hD hS => ?_)
  refine lv_iconst (v := 1) hx hb dL_corner_484 (by decide) ?_
  refine lv_icmp_ne (tgt := 754) hx hb dL_corner_485 (by decide) (fun c9 => absurd (by decide) c9) (fun _ => ?_)
  refine lv_aload_n hx hb dL_corner_488 rfl (lv_at hl 0 rfl) ?_
  refine lv_iconst (v := 4) hx hb dL_corner_489 (by decide) ?_
  obtain ⟨Z60, e60, hB⟩ := b_m (fun Q => fX7_leastFull Q (4:Int32)) (fun M => fX8_leastFull M (4:Int32)) (fun Q M h => leastFull_c Q M (4:Int32) h) hB (r := (3:Int32)) (z1 := zs_corner_4) (ck_e (by decide +kernel))
  refine t0_UI (As := [.int (4:Int32)]) (rest := []) (Z1 := Z60) hx hb hml hown hts hl.1 (kX7_leastFull l D E (aZ0 q u59) H.size e60) (cwV 1 hts gL_corner_X7_leastFull rfl rfl rfl (by decide +kernel) ⟨Nat.le_of_ble_eq_true rfl, Nat.le_of_ble_eq_true rfl⟩) hP hD hS hA hK rfl rfl (Nat.le_of_ble_eq_true rfl) dL_corner_490 ⟨Nat.le_of_ble_eq_true rfl, Nat.le_of_ble_eq_true rfl⟩ (fun u61 H locs hP hD hS => ?_)
  refine lv_iconst (v := 3) hx hb dL_corner_493 (by decide) ?_
  refine lv_icmp_ne (tgt := 754) hx hb dL_corner_494 (by decide) (fun c9 => absurd (by decide) c9) (fun _ => ?_)
  refine lv_aload_n hx hb dL_corner_497 rfl (lv_at hl 0 rfl) ?_
  refine lv_iconst (v := 1) hx hb dL_corner_498 (by decide) ?_
  obtain ⟨Z62, e62, hB⟩ := b_m (fun Q => fX7_leastFull Q (1:Int32)) (fun M => fX8_leastFull M (1:Int32)) (fun Q M h => leastFull_c Q M (1:Int32) h) hB (r := (4:Int32)) (z1 := zs_corner_4) (ck_e (by decide +kernel))
  refine t0_UI (As := [.int (1:Int32)]) (rest := []) (Z1 := Z62) hx hb hml hown hts hl.1 (kX7_leastFull l D E (aZ0 q u61) H.size e62) (cwV 1 hts gL_corner_X7_leastFull rfl rfl rfl (by decide +kernel) ⟨Nat.le_of_ble_eq_true rfl, Nat.le_of_ble_eq_true rfl⟩) hP hD hS hA hK rfl rfl (Nat.le_of_ble_eq_true rfl) dL_corner_499 ⟨Nat.le_of_ble_eq_true rfl, Nat.le_of_ble_eq_true rfl⟩ (fun u63 H locs hP hD hS => ?_)
  refine lv_iconst (v := 4) hx hb dL_corner_502 (by decide) ?_
  refine lv_icmp_ne (tgt := 754) hx hb dL_corner_503 (by decide) (fun c9 => absurd (by decide) c9) (fun _ => ?_)
  exact cor_c6 C hK hA hZ u63 Z62 H locs ls hB hP hD hS hl

set_option maxRecDepth 100000 in
set_option maxHeartbeats 4000000 in
theorem cor_c4 {l : Launch} {t : Nat → Nat} {D : va_G} {E : Nat → ClassId} {p : Program} {e : Env} {s : State} {m : MethodId} {below : List Frame} {meth : Method} {c : Code} {A : Nat → Prop} {q : Nat} (C : Ctx p s m meth c [] wsL_corner cL_corner 1 (some .boolean) RL) (hK : va_K D vwCl (tyE E) s) (hA : ∀ q : Nat, s.heap.size ≤ q → A q) (hZ : zSX t A s) (u : Nat → Nat) (Z : Nat → FS) (H : Heap) (locs : List Loc) (ls : Array Slot) (hB : Bis Z zs_corner_4) (hP : va_P D vwCl (wQ E (aZ0 q u) Z) H) (hD : va_D A (wQ E (aZ0 q u) Z)) (hS : va_S A s.heap H locs) (hl : lv_has ls 1 [(0, .ref q)]) : WI p l e (rmW 17 397 58 9007) s m [] below meth c D A 1 (fun _ : Unit => ([] : va_W)) 58 9007 H locs 50 8975 330 ls [] := by
  obtain ⟨hx, hb, hr, hml, hown, hlocks, hts⟩ := id C
  refine lv_aload_n hx hb dL_corner_330 rfl (lv_at hl 0 rfl) ?_
  refine lv_iconst (v := 3) hx hb dL_corner_331 (by decide) ?_
  have e40 := b_n (fun Q => fX7_count Q (3:Int32)) (fun M => fX8_count M (3:Int32)) (fun Q M h => count_c Q M (3:Int32) h) hB (r := (6:Int32)) (by decide +kernel)
  refine q_V (As := [.int (3:Int32)]) (rest := []) (C := RX7) (T0 := TX7) (N0 := 4) (ci := 6) hx hb hml hown hts hl.1 (kX7_count l D E t (aZ0 q u) e40) zSt_mv (cwV 1 hts gL_corner_X7_count rfl rfl rfl (by decide +kernel) ⟨Nat.le_of_ble_eq_true rfl, Nat.le_of_ble_eq_true rfl⟩) 0 rfl rfl hP hK (zSX_now hZ hS) rfl rfl (Nat.le_of_ble_eq_true rfl) dL_corner_332 ⟨Nat.le_of_ble_eq_true rfl, Nat.le_of_ble_eq_true rfl⟩ ?_
  refine lv_bipush (v := 6) hx hb dL_corner_335 (by decide) ?_
  refine lv_icmp_ne (tgt := 754) hx hb dL_corner_337 (by decide) (fun c9 => absurd (by decide) c9) (fun _ => ?_)
  refine lv_aload_n hx hb dL_corner_340 rfl (lv_at hl 0 rfl) ?_
  refine lv_bipush (v := 6) hx hb dL_corner_341 (by decide) ?_
  have e41 := b_n (fun Q => fX7_count Q (6:Int32)) (fun M => fX8_count M (6:Int32)) (fun Q M h => count_c Q M (6:Int32) h) hB (r := (1:Int32)) (by decide +kernel)
  refine q_V (As := [.int (6:Int32)]) (rest := []) (C := RX7) (T0 := TX7) (N0 := 4) (ci := 6) hx hb hml hown hts hl.1 (kX7_count l D E t (aZ0 q u) e41) zSt_mv (cwV 1 hts gL_corner_X7_count rfl rfl rfl (by decide +kernel) ⟨Nat.le_of_ble_eq_true rfl, Nat.le_of_ble_eq_true rfl⟩) 0 rfl rfl hP hK (zSX_now hZ hS) rfl rfl (Nat.le_of_ble_eq_true rfl) dL_corner_343 ⟨Nat.le_of_ble_eq_true rfl, Nat.le_of_ble_eq_true rfl⟩ ?_
  refine lv_iconst (v := 1) hx hb dL_corner_346 (by decide) ?_
  refine lv_icmp_ne (tgt := 754) hx hb dL_corner_347 (by decide) (fun c9 => absurd (by decide) c9) (fun _ => ?_)
  refine lv_aload_n hx hb dL_corner_350 rfl (lv_at hl 0 rfl) ?_
  refine lv_iconst (v := 2) hx hb dL_corner_351 (by decide) ?_
  have e42 := b_n (fun Q => fX7_count Q (2:Int32)) (fun M => fX8_count M (2:Int32)) (fun Q M h => count_c Q M (2:Int32) h) hB (r := (25:Int32)) (by decide +kernel)
  refine q_V (As := [.int (2:Int32)]) (rest := []) (C := RX7) (T0 := TX7) (N0 := 4) (ci := 6) hx hb hml hown hts hl.1 (kX7_count l D E t (aZ0 q u) e42) zSt_mv (cwV 1 hts gL_corner_X7_count rfl rfl rfl (by decide +kernel) ⟨Nat.le_of_ble_eq_true rfl, Nat.le_of_ble_eq_true rfl⟩) 0 rfl rfl hP hK (zSX_now hZ hS) rfl rfl (Nat.le_of_ble_eq_true rfl) dL_corner_352 ⟨Nat.le_of_ble_eq_true rfl, Nat.le_of_ble_eq_true rfl⟩ ?_
  refine lv_bipush (v := 25) hx hb dL_corner_355 (by decide) ?_
  refine lv_icmp_ne (tgt := 754) hx hb dL_corner_357 (by decide) (fun c9 => absurd (by decide) c9) (fun _ => ?_)
  refine lv_aload_n hx hb dL_corner_360 rfl (lv_at hl 0 rfl) ?_
  refine lv_iconst (v := 3) hx hb dL_corner_361 (by decide) ?_
  refine lv_iconst (v := 3) hx hb dL_corner_362 (by decide) ?_
  have e43 := b_r (fun Q => fX7_of Q (3:Int32) (3:Int32)) (fun M => fX8_of M (3:Int32) (3:Int32)) (fun Q M h => of_c Q M (3:Int32) (3:Int32) h) hB (r := (2:Int32)) (by decide +kernel)
  refine q_V (As := [.int (3:Int32), .int (3:Int32)]) (rest := []) (C := RX7) (T0 := TX7) (N0 := 4) (ci := 6) hx hb hml hown hts hl.1 (kX7_of l D E (aZ0 q u) e43) zNo_mv (cwV 2 hts gL_corner_X7_of rfl rfl rfl (by decide +kernel) ⟨Nat.le_of_ble_eq_true rfl, Nat.le_of_ble_eq_true rfl⟩) 0 rfl rfl hP hK trivial rfl rfl (Nat.le_of_ble_eq_true rfl) dL_corner_363 ⟨Nat.le_of_ble_eq_true rfl, Nat.le_of_ble_eq_true rfl⟩ ?_
  refine lv_iconst (v := 2) hx hb dL_corner_366 (by decide) ?_
  refine lv_icmp_ne (tgt := 754) hx hb dL_corner_367 (by decide) (fun c9 => absurd (by decide) c9) (fun _ => ?_)
  refine lv_aload_n hx hb dL_corner_370 rfl (lv_at hl 0 rfl) ?_
  refine lv_iconst (v := 2) hx hb dL_corner_371 (by decide) ?_
  refine lv_iconst (v := 3) hx hb dL_corner_372 (by decide) ?_
  have e44 := b_r (fun Q => fX7_of Q (2:Int32) (3:Int32)) (fun M => fX8_of M (2:Int32) (3:Int32)) (fun Q M h => of_c Q M (2:Int32) (3:Int32) h) hB (r := (3:Int32)) (by decide +kernel)
  refine q_V (As := [.int (2:Int32), .int (3:Int32)]) (rest := []) (C := RX7) (T0 := TX7) (N0 := 4) (ci := 6) hx hb hml hown hts hl.1 (kX7_of l D E (aZ0 q u) e44) zNo_mv (cwV 2 hts gL_corner_X7_of rfl rfl rfl (by decide +kernel) ⟨Nat.le_of_ble_eq_true rfl, Nat.le_of_ble_eq_true rfl⟩) 0 rfl rfl hP hK trivial rfl rfl (Nat.le_of_ble_eq_true rfl) dL_corner_373 ⟨Nat.le_of_ble_eq_true rfl, Nat.le_of_ble_eq_true rfl⟩ ?_
  refine lv_iconst (v := 3) hx hb dL_corner_376 (by decide) ?_
  refine lv_icmp_ne (tgt := 754) hx hb dL_corner_377 (by decide) (fun c9 => absurd (by decide) c9) (fun _ => ?_)
  refine lv_aload_n hx hb dL_corner_380 rfl (lv_at hl 0 rfl) ?_
  refine lv_iconst (v := 0) hx hb dL_corner_381 (by decide) ?_
  refine lv_iconst (v := 2) hx hb dL_corner_382 (by decide) ?_
  have e45 := b_r (fun Q => fX7_of Q (0:Int32) (2:Int32)) (fun M => fX8_of M (0:Int32) (2:Int32)) (fun Q M h => of_c Q M (0:Int32) (2:Int32) h) hB (r := (4096:Int32)) (by decide +kernel)
  refine q_V (As := [.int (0:Int32), .int (2:Int32)]) (rest := []) (C := RX7) (T0 := TX7) (N0 := 4) (ci := 6) hx hb hml hown hts hl.1 (kX7_of l D E (aZ0 q u) e45) zNo_mv (cwV 2 hts gL_corner_X7_of rfl rfl rfl (by decide +kernel) ⟨Nat.le_of_ble_eq_true rfl, Nat.le_of_ble_eq_true rfl⟩) 0 rfl rfl hP hK trivial rfl rfl (Nat.le_of_ble_eq_true rfl) dL_corner_383 ⟨Nat.le_of_ble_eq_true rfl, Nat.le_of_ble_eq_true rfl⟩ ?_
  refine lv_sipush (v := 4096) hx hb dL_corner_386 (by decide) ?_
  refine lv_icmp_ne (tgt := 754) hx hb dL_corner_389 (by decide) (fun c9 => absurd (by decide) c9) (fun _ => ?_)
  refine lv_aload_n hx hb dL_corner_392 rfl (lv_at hl 0 rfl) ?_
  refine lv_iconst (v := 1) hx hb dL_corner_393 (by decide) ?_
  refine lv_iconst (v := 2) hx hb dL_corner_394 (by decide) ?_
  have e46 := b_r (fun Q => fX7_of Q (1:Int32) (2:Int32)) (fun M => fX8_of M (1:Int32) (2:Int32)) (fun Q M h => of_c Q M (1:Int32) (2:Int32) h) hB (r := (4097:Int32)) (by decide +kernel)
  refine q_V (As := [.int (1:Int32), .int (2:Int32)]) (rest := []) (C := RX7) (T0 := TX7) (N0 := 4) (ci := 6) hx hb hml hown hts hl.1 (kX7_of l D E (aZ0 q u) e46) zNo_mv (cwV 2 hts gL_corner_X7_of rfl rfl rfl (by decide +kernel) ⟨Nat.le_of_ble_eq_true rfl, Nat.le_of_ble_eq_true rfl⟩) 0 rfl rfl hP hK trivial rfl rfl (Nat.le_of_ble_eq_true rfl) dL_corner_395 ⟨Nat.le_of_ble_eq_true rfl, Nat.le_of_ble_eq_true rfl⟩ ?_
  refine lv_sipush (v := 4097) hx hb dL_corner_398 (by decide) ?_
  refine lv_icmp_ne (tgt := 754) hx hb dL_corner_401 (by decide) (fun c9 => absurd (by decide) c9) (fun _ => ?_)
  refine lv_aload_n hx hb dL_corner_404 rfl (lv_at hl 0 rfl) ?_
  refine lv_iconst (v := 3) hx hb dL_corner_405 (by decide) ?_
  refine lv_iconst (v := 2) hx hb dL_corner_406 (by decide) ?_
  have e47 := b_r (fun Q => fX7_of Q (3:Int32) (2:Int32)) (fun M => fX8_of M (3:Int32) (2:Int32)) (fun Q M h => of_c Q M (3:Int32) (2:Int32) h) hB (r := (4098:Int32)) (by decide +kernel)
  refine q_V (As := [.int (3:Int32), .int (2:Int32)]) (rest := []) (C := RX7) (T0 := TX7) (N0 := 4) (ci := 6) hx hb hml hown hts hl.1 (kX7_of l D E (aZ0 q u) e47) zNo_mv (cwV 2 hts gL_corner_X7_of rfl rfl rfl (by decide +kernel) ⟨Nat.le_of_ble_eq_true rfl, Nat.le_of_ble_eq_true rfl⟩) 0 rfl rfl hP hK trivial rfl rfl (Nat.le_of_ble_eq_true rfl) dL_corner_407 ⟨Nat.le_of_ble_eq_true rfl, Nat.le_of_ble_eq_true rfl⟩ ?_
  refine lv_sipush (v := 4098) hx hb dL_corner_410 (by decide) ?_
  refine lv_icmp_ne (tgt := 754) hx hb dL_corner_413 (by decide) (fun c9 => absurd (by decide) c9) (fun _ => ?_)
  exact cor_c5 C hK hA hZ u Z H locs ls hB hP hD hS hl

set_option maxRecDepth 100000 in
set_option maxHeartbeats 4000000 in
theorem cor_c3 {l : Launch} {t : Nat → Nat} {D : va_G} {E : Nat → ClassId} {p : Program} {e : Env} {s : State} {m : MethodId} {below : List Frame} {meth : Method} {c : Code} {A : Nat → Prop} {q : Nat} (C : Ctx p s m meth c [] wsL_corner cL_corner 1 (some .boolean) RL) (hK : va_K D vwCl (tyE E) s) (hA : ∀ q : Nat, s.heap.size ≤ q → A q) (hZ : zSX t A s) (u : Nat → Nat) (Z : Nat → FS) (H : Heap) (locs : List Loc) (ls : Array Slot) (hB : Bis Z zs_corner_3) (hP : va_P D vwCl (wQ E (aZ0 q u) Z) H) (hD : va_D A (wQ E (aZ0 q u) Z)) (hS : va_S A s.heap H locs) (hl : lv_has ls 1 [(0, .ref q)]) : WI p l e (rmW 17 397 58 9007) s m [] below meth c D A 1 (fun _ : Unit => ([] : va_W)) 58 9007 H locs 38 8927 248 ls [] := by
  obtain ⟨hx, hb, hr, hml, hown, hlocks, hts⟩ := id C
  refine lv_aload_n hx hb dL_corner_248 rfl (lv_at hl 0 rfl) ?_
  refine lv_bipush (v := 32) hx hb dL_corner_249 (by decide) ?_
  refine lv_iconst (v := 0) hx hb dL_corner_251 (by decide) ?_
  have e31 := b_r (fun Q => fX7_leafAt Q (32:Int32) (0:Int32)) (fun M => fX8_leafAt M (32:Int32) (0:Int32)) (fun Q M h => leafAt_c Q M (32:Int32) (0:Int32) h) hB (r := (5:Int32)) (by decide +kernel)
  refine q_V (As := [.int (32:Int32), .int (0:Int32)]) (rest := []) (C := RX7) (T0 := TX7) (N0 := 4) (ci := 6) hx hb hml hown hts hl.1 (kX7_leafAt l D E (aZ0 q u) e31) zNo_mv (cwV 2 hts gL_corner_X7_leafAt rfl rfl rfl (by decide +kernel) ⟨Nat.le_of_ble_eq_true rfl, Nat.le_of_ble_eq_true rfl⟩) 0 rfl rfl hP hK trivial rfl rfl (Nat.le_of_ble_eq_true rfl) dL_corner_252 ⟨Nat.le_of_ble_eq_true rfl, Nat.le_of_ble_eq_true rfl⟩ ?_
  refine lv_iconst (v := 5) hx hb dL_corner_255 (by decide) ?_
  refine lv_icmp_ne (tgt := 317) hx hb dL_corner_256 (by decide) (fun c9 => absurd (by decide) c9) (fun _ => ?_)
  refine lv_aload_n hx hb dL_corner_259 rfl (lv_at hl 0 rfl) ?_
  refine lv_iconst (v := 0) hx hb dL_corner_260 (by decide) ?_
  refine lv_bipush (v := 32) hx hb dL_corner_261 (by decide) ?_
  have e32 := b_r (fun Q => fX7_leafAt Q (0:Int32) (32:Int32)) (fun M => fX8_leafAt M (0:Int32) (32:Int32)) (fun Q M h => leafAt_c Q M (0:Int32) (32:Int32) h) hB (r := (6:Int32)) (by decide +kernel)
  refine q_V (As := [.int (0:Int32), .int (32:Int32)]) (rest := []) (C := RX7) (T0 := TX7) (N0 := 4) (ci := 6) hx hb hml hown hts hl.1 (kX7_leafAt l D E (aZ0 q u) e32) zNo_mv (cwV 2 hts gL_corner_X7_leafAt rfl rfl rfl (by decide +kernel) ⟨Nat.le_of_ble_eq_true rfl, Nat.le_of_ble_eq_true rfl⟩) 0 rfl rfl hP hK trivial rfl rfl (Nat.le_of_ble_eq_true rfl) dL_corner_263 ⟨Nat.le_of_ble_eq_true rfl, Nat.le_of_ble_eq_true rfl⟩ ?_
  refine lv_bipush (v := 6) hx hb dL_corner_266 (by decide) ?_
  refine lv_icmp_ne (tgt := 317) hx hb dL_corner_268 (by decide) (fun c9 => absurd (by decide) c9) (fun _ => ?_)
  refine lv_aload_n hx hb dL_corner_271 rfl (lv_at hl 0 rfl) ?_
  refine lv_iconst (v := 4) hx hb dL_corner_272 (by decide) ?_
  have e33 := b_n (fun Q => fX7_neighbours Q (4:Int32)) (fun M => fX8_neighbours M (4:Int32)) (fun Q M h => neighbours_c Q M (4:Int32) h) hB (r := (2:Int32)) (by decide +kernel)
  refine q_V (As := [.int (4:Int32)]) (rest := []) (C := RX7) (T0 := TX7) (N0 := 4) (ci := 6) hx hb hml hown hts hl.1 (kX7_neighbours l D E t (aZ0 q u) e33) zSt_mv (cwV 1 hts gL_corner_X7_neighbours rfl rfl rfl (by decide +kernel) ⟨Nat.le_of_ble_eq_true rfl, Nat.le_of_ble_eq_true rfl⟩) 0 rfl rfl hP hK (zSX_now hZ hS) rfl rfl (Nat.le_of_ble_eq_true rfl) dL_corner_273 ⟨Nat.le_of_ble_eq_true rfl, Nat.le_of_ble_eq_true rfl⟩ ?_
  refine lv_iconst (v := 2) hx hb dL_corner_276 (by decide) ?_
  refine lv_icmp_ne (tgt := 317) hx hb dL_corner_277 (by decide) (fun c9 => absurd (by decide) c9) (fun _ => ?_)
  refine lv_aload_n hx hb dL_corner_280 rfl (lv_at hl 0 rfl) ?_
  refine lv_iconst (v := 4) hx hb dL_corner_281 (by decide) ?_
  refine lv_iconst (v := 4) hx hb dL_corner_282 (by decide) ?_
  have e34 := b_r (fun Q => fX7_tile Q (4:Int32) (4:Int32)) (fun M => fX8_tile M (4:Int32) (4:Int32)) (fun Q M h => tile_c Q M (4:Int32) (4:Int32) h) hB (r := (2:Int32)) (by decide +kernel)
  refine q_V (As := [.int (4:Int32), .int (4:Int32)]) (rest := []) (C := RX7) (T0 := TX7) (N0 := 4) (ci := 6) hx hb hml hown hts hl.1 (kX7_tile l D E t (aZ0 q u) e34) zSt_mv (cwV 2 hts gL_corner_X7_tile rfl rfl rfl (by decide +kernel) ⟨Nat.le_of_ble_eq_true rfl, Nat.le_of_ble_eq_true rfl⟩) 0 rfl rfl hP hK (zSX_now hZ hS) rfl rfl (Nat.le_of_ble_eq_true rfl) dL_corner_283 ⟨Nat.le_of_ble_eq_true rfl, Nat.le_of_ble_eq_true rfl⟩ ?_
  refine lv_iconst (v := 2) hx hb dL_corner_286 (by decide) ?_
  refine lv_icmp_ne (tgt := 317) hx hb dL_corner_287 (by decide) (fun c9 => absurd (by decide) c9) (fun _ => ?_)
  refine lv_aload_n hx hb dL_corner_290 rfl (lv_at hl 0 rfl) ?_
  refine lv_iconst (v := 1) hx hb dL_corner_291 (by decide) ?_
  refine lv_iconst (v := 5) hx hb dL_corner_292 (by decide) ?_
  have e35 := b_r (fun Q => fX7_tile Q (1:Int32) (5:Int32)) (fun M => fX8_tile M (1:Int32) (5:Int32)) (fun Q M h => tile_c Q M (1:Int32) (5:Int32) h) hB (r := (2:Int32)) (by decide +kernel)
  refine q_V (As := [.int (1:Int32), .int (5:Int32)]) (rest := []) (C := RX7) (T0 := TX7) (N0 := 4) (ci := 6) hx hb hml hown hts hl.1 (kX7_tile l D E t (aZ0 q u) e35) zSt_mv (cwV 2 hts gL_corner_X7_tile rfl rfl rfl (by decide +kernel) ⟨Nat.le_of_ble_eq_true rfl, Nat.le_of_ble_eq_true rfl⟩) 0 rfl rfl hP hK (zSX_now hZ hS) rfl rfl (Nat.le_of_ble_eq_true rfl) dL_corner_293 ⟨Nat.le_of_ble_eq_true rfl, Nat.le_of_ble_eq_true rfl⟩ ?_
  refine lv_iconst (v := 2) hx hb dL_corner_296 (by decide) ?_
  refine lv_icmp_ne (tgt := 317) hx hb dL_corner_297 (by decide) (fun c9 => absurd (by decide) c9) (fun _ => ?_)
  refine lv_aload_n hx hb dL_corner_300 rfl (lv_at hl 0 rfl) ?_
  refine lv_iconst (v := 1) hx hb dL_corner_301 (by decide) ?_
  have e36 := b_n (fun Q => fX7_neighbours Q (1:Int32)) (fun M => fX8_neighbours M (1:Int32)) (fun Q M h => neighbours_c Q M (1:Int32) h) hB (r := (-5:Int32)) (by decide +kernel)
  refine q_V (As := [.int (1:Int32)]) (rest := []) (C := RX7) (T0 := TX7) (N0 := 4) (ci := 6) hx hb hml hown hts hl.1 (kX7_neighbours l D E t (aZ0 q u) e36) zSt_mv (cwV 1 hts gL_corner_X7_neighbours rfl rfl rfl (by decide +kernel) ⟨Nat.le_of_ble_eq_true rfl, Nat.le_of_ble_eq_true rfl⟩) 0 rfl rfl hP hK (zSX_now hZ hS) rfl rfl (Nat.le_of_ble_eq_true rfl) dL_corner_302 ⟨Nat.le_of_ble_eq_true rfl, Nat.le_of_ble_eq_true rfl⟩ ?_
  refine lv_bipush (v := -5) hx hb dL_corner_305 (by decide) ?_
  refine lv_icmp_ne (tgt := 317) hx hb dL_corner_307 (by decide) (fun c9 => absurd (by decide) c9) (fun _ => ?_)
  refine lv_aload_n hx hb dL_corner_310 rfl (lv_at hl 0 rfl) ?_
  obtain ⟨A9, w9, hr9, hs9, hc9⟩ := RH_of hB (r := (3:Int32)) (k := 3) (by decide +kernel) rfl (by decide) (by decide) (by decide +kernel) (by decide +kernel) (by decide +kernel)
  refine t0_SI (As := [.ref q]) (rest := []) hx hb hml hown hts hl.1 (kL_refused l t D E q u hr9 hs9 hc9 H.size) (va_cwS 1 hts gL_corner_L_refused rfl rfl rfl (by decide +kernel) ⟨Nat.le_of_ble_eq_true rfl, Nat.le_of_ble_eq_true rfl⟩) hP hD hS hA hK hZ rfl rfl (Nat.le_of_ble_eq_true rfl) dL_corner_311 ⟨Nat.le_of_ble_eq_true rfl, Nat.le_of_ble_eq_true rfl⟩ (fun u37 H locs hP hD hS => ?_)
  refine lv_if_ne (tgt := 319) hx hb dL_corner_314 (by decide) (fun _ => ?_) (fun c9 => absurd c9 (by decide))
  refine lv_aload_n hx hb dL_corner_319 rfl (lv_at hl 0 rfl) ?_
  refine lv_iconst (v := 0) hx hb dL_corner_320 (by decide) ?_
  refine lv_iconst (v := 1) hx hb dL_corner_321 (by decide) ?_
  obtain ⟨Z38, e38, hB⟩ := b_m (fun Q => fX7_point Q (0:Int32) (1:Int32)) (fun M => fX8_point M (0:Int32) (1:Int32)) (fun Q M h => point_c Q M (0:Int32) (1:Int32) h) hB (r := (19:Int32)) (z1 := zs_corner_4) (ck_e (by decide +kernel))
  refine t0_VI (As := [.int (0:Int32), .int (1:Int32)]) (rest := []) (Z1 := Z38) hx hb hml hown hts hl.1 (kX7_point l D E (aZ0 q u37) H.size e38) (cwV 2 hts gL_corner_X7_point rfl rfl rfl (by decide +kernel) ⟨Nat.le_of_ble_eq_true rfl, Nat.le_of_ble_eq_true rfl⟩) hP hD hS hA hK rfl rfl (Nat.le_of_ble_eq_true rfl) dL_corner_322 ⟨Nat.le_of_ble_eq_true rfl, Nat.le_of_ble_eq_true rfl⟩ (fun u39 H locs hP hD hS => ?_)
  refine lv_bipush (v := 19) hx hb dL_corner_325 (by decide) ?_
  refine lv_icmp_ne (tgt := 754) hx hb dL_corner_327 (by decide) (fun c9 => absurd (by decide) c9) (fun _ => ?_)
  exact cor_c4 C hK hA hZ u39 Z38 H locs ls hB hP hD hS hl

set_option maxRecDepth 100000 in
set_option maxHeartbeats 4000000 in
theorem cor_c2 {l : Launch} {t : Nat → Nat} {D : va_G} {E : Nat → ClassId} {p : Program} {e : Env} {s : State} {m : MethodId} {below : List Frame} {meth : Method} {c : Code} {A : Nat → Prop} {q : Nat} (C : Ctx p s m meth c [] wsL_corner cL_corner 1 (some .boolean) RL) (hK : va_K D vwCl (tyE E) s) (hA : ∀ q : Nat, s.heap.size ≤ q → A q) (hZ : zSX t A s) (u : Nat → Nat) (Z : Nat → FS) (H : Heap) (locs : List Loc) (ls : Array Slot) (hB : Bis Z zs_corner_0) (hP : va_P D vwCl (wQ E (aZ0 q u) Z) H) (hD : va_D A (wQ E (aZ0 q u) Z)) (hS : va_S A s.heap H locs) (hl : lv_has ls 1 [(0, .ref q)]) : WI p l e (rmW 17 397 58 9007) s m [] below meth c D A 1 (fun _ : Unit => ([] : va_W)) 58 9007 H locs 38 8927 165 ls [] := by
  obtain ⟨hx, hb, hr, hml, hown, hlocks, hts⟩ := id C
  refine lv_aload_n hx hb dL_corner_165 rfl (lv_at hl 0 rfl) ?_
  refine lv_iconst (v := 3) hx hb dL_corner_166 (by decide) ?_
  refine lv_iconst (v := 3) hx hb dL_corner_167 (by decide) ?_
  refine lv_iconst (v := 1) hx hb dL_corner_168 (by decide) ?_
  have e19 := b_r (fun Q => fX7_nearest Q (3:Int32) (3:Int32) (1:Int32)) (fun M => fX8_nearest M (3:Int32) (3:Int32) (1:Int32)) (fun Q M h => nearest_c Q M (3:Int32) (3:Int32) (1:Int32) h) hB (r := (-6:Int32)) (by decide +kernel)
  refine q_V (As := [.int (3:Int32), .int (3:Int32), .int (1:Int32)]) (rest := []) (C := RX7) (T0 := TX7) (N0 := 4) (ci := 6) hx hb hml hown hts hl.1 (kX7_nearest l D E (aZ0 q u) e19) zNo_mv (cwV 3 hts gL_corner_X7_nearest rfl rfl rfl (by decide +kernel) ⟨Nat.le_of_ble_eq_true rfl, Nat.le_of_ble_eq_true rfl⟩) 0 rfl rfl hP hK trivial rfl rfl (Nat.le_of_ble_eq_true rfl) dL_corner_169 ⟨Nat.le_of_ble_eq_true rfl, Nat.le_of_ble_eq_true rfl⟩ ?_
  refine lv_bipush (v := -6) hx hb dL_corner_172 (by decide) ?_
  refine lv_icmp_ne (tgt := 317) hx hb dL_corner_174 (by decide) (fun c9 => absurd (by decide) c9) (fun _ => ?_)
  refine lv_aload_n hx hb dL_corner_177 rfl (lv_at hl 0 rfl) ?_
  refine lv_iconst (v := 1) hx hb dL_corner_178 (by decide) ?_
  obtain ⟨Z20, e20, hB⟩ := b_m (fun Q => fX7_leastFull Q (1:Int32)) (fun M => fX8_leastFull M (1:Int32)) (fun Q M h => leastFull_c Q M (1:Int32) h) hB (r := (1:Int32)) (z1 := zs_corner_0) (ck_e (by decide +kernel))
  refine t0_UI (As := [.int (1:Int32)]) (rest := []) (Z1 := Z20) hx hb hml hown hts hl.1 (kX7_leastFull l D E (aZ0 q u) H.size e20) (cwV 1 hts gL_corner_X7_leastFull rfl rfl rfl (by decide +kernel) ⟨Nat.le_of_ble_eq_true rfl, Nat.le_of_ble_eq_true rfl⟩) hP hD hS hA hK rfl rfl (Nat.le_of_ble_eq_true rfl) dL_corner_179 ⟨Nat.le_of_ble_eq_true rfl, Nat.le_of_ble_eq_true rfl⟩ (fun u21 H locs hP hD hS => ?_)
  refine lv_iconst (v := 1) hx hb dL_corner_182 (by decide) ?_
  refine lv_icmp_ne (tgt := 317) hx hb dL_corner_183 (by decide) (fun c9 => absurd (by decide) c9) (fun _ => ?_)
  refine lv_aload_n hx hb dL_corner_186 rfl (lv_at hl 0 rfl) ?_
  refine lv_iconst (v := 0) hx hb dL_corner_187 (by decide) ?_
  refine lv_iconst (v := 0) hx hb dL_corner_188 (by decide) ?_
  obtain ⟨Z22, e22, hB⟩ := b_m (fun Q => fX7_point Q (0:Int32) (0:Int32)) (fun M => fX8_point M (0:Int32) (0:Int32)) (fun Q M h => point_c Q M (0:Int32) (0:Int32) h) hB (r := (1:Int32)) (z1 := zs_corner_1) (ck_e (by decide +kernel))
  refine t0_VI (As := [.int (0:Int32), .int (0:Int32)]) (rest := []) (Z1 := Z22) hx hb hml hown hts hl.1 (kX7_point l D E (aZ0 q u21) H.size e22) (cwV 2 hts gL_corner_X7_point rfl rfl rfl (by decide +kernel) ⟨Nat.le_of_ble_eq_true rfl, Nat.le_of_ble_eq_true rfl⟩) hP hD hS hA hK rfl rfl (Nat.le_of_ble_eq_true rfl) dL_corner_189 ⟨Nat.le_of_ble_eq_true rfl, Nat.le_of_ble_eq_true rfl⟩ (fun u23 H locs hP hD hS => ?_)
  refine lv_iconst (v := 1) hx hb dL_corner_192 (by decide) ?_
  refine lv_icmp_ne (tgt := 317) hx hb dL_corner_193 (by decide) (fun c9 => absurd (by decide) c9) (fun _ => ?_)
  refine lv_aload_n hx hb dL_corner_196 rfl (lv_at hl 0 rfl) ?_
  refine lv_iconst (v := 1) hx hb dL_corner_197 (by decide) ?_
  refine lv_iconst (v := 0) hx hb dL_corner_198 (by decide) ?_
  obtain ⟨Z24, e24, hB⟩ := b_m (fun Q => fX7_point Q (1:Int32) (0:Int32)) (fun M => fX8_point M (1:Int32) (0:Int32)) (fun Q M h => point_c Q M (1:Int32) (0:Int32) h) hB (r := (1:Int32)) (z1 := zs_corner_2) (ck_e (by decide +kernel))
  refine t0_VI (As := [.int (1:Int32), .int (0:Int32)]) (rest := []) (Z1 := Z24) hx hb hml hown hts hl.1 (kX7_point l D E (aZ0 q u23) H.size e24) (cwV 2 hts gL_corner_X7_point rfl rfl rfl (by decide +kernel) ⟨Nat.le_of_ble_eq_true rfl, Nat.le_of_ble_eq_true rfl⟩) hP hD hS hA hK rfl rfl (Nat.le_of_ble_eq_true rfl) dL_corner_199 ⟨Nat.le_of_ble_eq_true rfl, Nat.le_of_ble_eq_true rfl⟩ (fun u25 H locs hP hD hS => ?_)
  refine lv_iconst (v := 1) hx hb dL_corner_202 (by decide) ?_
  refine lv_icmp_ne (tgt := 317) hx hb dL_corner_203 (by decide) (fun c9 => absurd (by decide) c9) (fun _ => ?_)
  refine lv_aload_n hx hb dL_corner_206 rfl (lv_at hl 0 rfl) ?_
  refine lv_bipush (v := 63) hx hb dL_corner_207 (by decide) ?_
  refine lv_bipush (v := 63) hx hb dL_corner_209 (by decide) ?_
  obtain ⟨Z26, e26, hB⟩ := b_m (fun Q => fX7_point Q (63:Int32) (63:Int32)) (fun M => fX8_point M (63:Int32) (63:Int32)) (fun Q M h => point_c Q M (63:Int32) (63:Int32) h) hB (r := (4:Int32)) (z1 := zs_corner_3) (ck_e (by decide +kernel))
  refine t0_VI (As := [.int (63:Int32), .int (63:Int32)]) (rest := []) (Z1 := Z26) hx hb hml hown hts hl.1 (kX7_point l D E (aZ0 q u25) H.size e26) (cwV 2 hts gL_corner_X7_point rfl rfl rfl (by decide +kernel) ⟨Nat.le_of_ble_eq_true rfl, Nat.le_of_ble_eq_true rfl⟩) hP hD hS hA hK rfl rfl (Nat.le_of_ble_eq_true rfl) dL_corner_211 ⟨Nat.le_of_ble_eq_true rfl, Nat.le_of_ble_eq_true rfl⟩ (fun u27 H locs hP hD hS => ?_)
  refine lv_iconst (v := 4) hx hb dL_corner_214 (by decide) ?_
  refine lv_icmp_ne (tgt := 317) hx hb dL_corner_215 (by decide) (fun c9 => absurd (by decide) c9) (fun _ => ?_)
  refine lv_aload_n hx hb dL_corner_218 rfl (lv_at hl 0 rfl) ?_
  refine lv_iconst (v := 2) hx hb dL_corner_219 (by decide) ?_
  have e28 := b_n (fun Q => fX7_count Q (2:Int32)) (fun M => fX8_count M (2:Int32)) (fun Q M h => count_c Q M (2:Int32) h) hB (r := (5:Int32)) (by decide +kernel)
  refine q_V (As := [.int (2:Int32)]) (rest := []) (C := RX7) (T0 := TX7) (N0 := 4) (ci := 6) hx hb hml hown hts hl.1 (kX7_count l D E t (aZ0 q u27) e28) zSt_mv (cwV 1 hts gL_corner_X7_count rfl rfl rfl (by decide +kernel) ⟨Nat.le_of_ble_eq_true rfl, Nat.le_of_ble_eq_true rfl⟩) 0 rfl rfl hP hK (zSX_now hZ hS) rfl rfl (Nat.le_of_ble_eq_true rfl) dL_corner_220 ⟨Nat.le_of_ble_eq_true rfl, Nat.le_of_ble_eq_true rfl⟩ ?_
  refine lv_iconst (v := 5) hx hb dL_corner_223 (by decide) ?_
  refine lv_icmp_ne (tgt := 317) hx hb dL_corner_224 (by decide) (fun c9 => absurd (by decide) c9) (fun _ => ?_)
  refine lv_aload_n hx hb dL_corner_227 rfl (lv_at hl 0 rfl) ?_
  refine lv_iconst (v := 0) hx hb dL_corner_228 (by decide) ?_
  refine lv_iconst (v := 2) hx hb dL_corner_229 (by decide) ?_
  have e29 := b_r (fun Q => fX7_of Q (0:Int32) (2:Int32)) (fun M => fX8_of M (0:Int32) (2:Int32)) (fun Q M h => of_c Q M (0:Int32) (2:Int32) h) hB (r := (4:Int32)) (by decide +kernel)
  refine q_V (As := [.int (0:Int32), .int (2:Int32)]) (rest := []) (C := RX7) (T0 := TX7) (N0 := 4) (ci := 6) hx hb hml hown hts hl.1 (kX7_of l D E (aZ0 q u27) e29) zNo_mv (cwV 2 hts gL_corner_X7_of rfl rfl rfl (by decide +kernel) ⟨Nat.le_of_ble_eq_true rfl, Nat.le_of_ble_eq_true rfl⟩) 0 rfl rfl hP hK trivial rfl rfl (Nat.le_of_ble_eq_true rfl) dL_corner_230 ⟨Nat.le_of_ble_eq_true rfl, Nat.le_of_ble_eq_true rfl⟩ ?_
  refine lv_iconst (v := 4) hx hb dL_corner_233 (by decide) ?_
  refine lv_icmp_ne (tgt := 317) hx hb dL_corner_234 (by decide) (fun c9 => absurd (by decide) c9) (fun _ => ?_)
  refine lv_aload_n hx hb dL_corner_237 rfl (lv_at hl 0 rfl) ?_
  refine lv_iconst (v := 2) hx hb dL_corner_238 (by decide) ?_
  refine lv_iconst (v := 2) hx hb dL_corner_239 (by decide) ?_
  have e30 := b_r (fun Q => fX7_of Q (2:Int32) (2:Int32)) (fun M => fX8_of M (2:Int32) (2:Int32)) (fun Q M h => of_c Q M (2:Int32) (2:Int32) h) hB (r := (7:Int32)) (by decide +kernel)
  refine q_V (As := [.int (2:Int32), .int (2:Int32)]) (rest := []) (C := RX7) (T0 := TX7) (N0 := 4) (ci := 6) hx hb hml hown hts hl.1 (kX7_of l D E (aZ0 q u27) e30) zNo_mv (cwV 2 hts gL_corner_X7_of rfl rfl rfl (by decide +kernel) ⟨Nat.le_of_ble_eq_true rfl, Nat.le_of_ble_eq_true rfl⟩) 0 rfl rfl hP hK trivial rfl rfl (Nat.le_of_ble_eq_true rfl) dL_corner_240 ⟨Nat.le_of_ble_eq_true rfl, Nat.le_of_ble_eq_true rfl⟩ ?_
  refine lv_bipush (v := 7) hx hb dL_corner_243 (by decide) ?_
  refine lv_icmp_ne (tgt := 317) hx hb dL_corner_245 (by decide) (fun c9 => absurd (by decide) c9) (fun _ => ?_)
  exact cor_c3 C hK hA hZ u27 Z26 H locs ls hB hP hD hS hl

set_option maxRecDepth 100000 in
set_option maxHeartbeats 4000000 in
theorem cor_c1 {l : Launch} {t : Nat → Nat} {D : va_G} {E : Nat → ClassId} {p : Program} {e : Env} {s : State} {m : MethodId} {below : List Frame} {meth : Method} {c : Code} {A : Nat → Prop} {q : Nat} (C : Ctx p s m meth c [] wsL_corner cL_corner 1 (some .boolean) RL) (hK : va_K D vwCl (tyE E) s) (hA : ∀ q : Nat, s.heap.size ≤ q → A q) (hZ : zSX t A s) (u : Nat → Nat) (Z : Nat → FS) (H : Heap) (locs : List Loc) (ls : Array Slot) (hB : Bis Z zs_corner_0) (hP : va_P D vwCl (wQ E (aZ0 q u) Z) H) (hD : va_D A (wQ E (aZ0 q u) Z)) (hS : va_S A s.heap H locs) (hl : lv_has ls 1 [(0, .ref q)]) : WI p l e (rmW 17 397 58 9007) s m [] below meth c D A 1 (fun _ : Unit => ([] : va_W)) 58 9007 H locs 38 8927 82 ls [] := by
  obtain ⟨hx, hb, hr, hml, hown, hlocks, hts⟩ := id C
  refine lv_aload_n hx hb dL_corner_82 rfl (lv_at hl 0 rfl) ?_
  refine lv_iconst (v := 1) hx hb dL_corner_83 (by decide) ?_
  refine lv_iconst (v := 2) hx hb dL_corner_84 (by decide) ?_
  have e11 := b_r (fun Q => fX7_tile Q (1:Int32) (2:Int32)) (fun M => fX8_tile M (1:Int32) (2:Int32)) (fun Q M h => tile_c Q M (1:Int32) (2:Int32) h) hB (r := (64:Int32)) (by decide +kernel)
  refine q_V (As := [.int (1:Int32), .int (2:Int32)]) (rest := []) (C := RX7) (T0 := TX7) (N0 := 4) (ci := 6) hx hb hml hown hts hl.1 (kX7_tile l D E t (aZ0 q u) e11) zSt_mv (cwV 2 hts gL_corner_X7_tile rfl rfl rfl (by decide +kernel) ⟨Nat.le_of_ble_eq_true rfl, Nat.le_of_ble_eq_true rfl⟩) 0 rfl rfl hP hK (zSX_now hZ hS) rfl rfl (Nat.le_of_ble_eq_true rfl) dL_corner_85 ⟨Nat.le_of_ble_eq_true rfl, Nat.le_of_ble_eq_true rfl⟩ ?_
  refine lv_bipush (v := 64) hx hb dL_corner_88 (by decide) ?_
  refine lv_icmp_ne (tgt := 317) hx hb dL_corner_90 (by decide) (fun c9 => absurd (by decide) c9) (fun _ => ?_)
  refine lv_aload_n hx hb dL_corner_93 rfl (lv_at hl 0 rfl) ?_
  refine lv_iconst (v := 1) hx hb dL_corner_94 (by decide) ?_
  refine lv_bipush (v := 7) hx hb dL_corner_95 (by decide) ?_
  have e12 := b_r (fun Q => fX7_tile Q (1:Int32) (7:Int32)) (fun M => fX8_tile M (1:Int32) (7:Int32)) (fun Q M h => tile_c Q M (1:Int32) (7:Int32) h) hB (r := (1:Int32)) (by decide +kernel)
  refine q_V (As := [.int (1:Int32), .int (7:Int32)]) (rest := []) (C := RX7) (T0 := TX7) (N0 := 4) (ci := 6) hx hb hml hown hts hl.1 (kX7_tile l D E t (aZ0 q u) e12) zSt_mv (cwV 2 hts gL_corner_X7_tile rfl rfl rfl (by decide +kernel) ⟨Nat.le_of_ble_eq_true rfl, Nat.le_of_ble_eq_true rfl⟩) 0 rfl rfl hP hK (zSX_now hZ hS) rfl rfl (Nat.le_of_ble_eq_true rfl) dL_corner_97 ⟨Nat.le_of_ble_eq_true rfl, Nat.le_of_ble_eq_true rfl⟩ ?_
  refine lv_iconst (v := 1) hx hb dL_corner_100 (by decide) ?_
  refine lv_icmp_ne (tgt := 317) hx hb dL_corner_101 (by decide) (fun c9 => absurd (by decide) c9) (fun _ => ?_)
  refine lv_aload_n hx hb dL_corner_104 rfl (lv_at hl 0 rfl) ?_
  refine lv_iconst (v := 4) hx hb dL_corner_105 (by decide) ?_
  refine lv_iconst (v := 5) hx hb dL_corner_106 (by decide) ?_
  have e13 := b_r (fun Q => fX7_tile Q (4:Int32) (5:Int32)) (fun M => fX8_tile M (4:Int32) (5:Int32)) (fun Q M h => tile_c Q M (4:Int32) (5:Int32) h) hB (r := (0:Int32)) (by decide +kernel)
  refine q_V (As := [.int (4:Int32), .int (5:Int32)]) (rest := []) (C := RX7) (T0 := TX7) (N0 := 4) (ci := 6) hx hb hml hown hts hl.1 (kX7_tile l D E t (aZ0 q u) e13) zSt_mv (cwV 2 hts gL_corner_X7_tile rfl rfl rfl (by decide +kernel) ⟨Nat.le_of_ble_eq_true rfl, Nat.le_of_ble_eq_true rfl⟩) 0 rfl rfl hP hK (zSX_now hZ hS) rfl rfl (Nat.le_of_ble_eq_true rfl) dL_corner_107 ⟨Nat.le_of_ble_eq_true rfl, Nat.le_of_ble_eq_true rfl⟩ ?_
  refine lv_if_ne (tgt := 317) hx hb dL_corner_110 (by decide) (fun c9 => absurd (by decide) c9) (fun _ => ?_)
  refine lv_aload_n hx hb dL_corner_113 rfl (lv_at hl 0 rfl) ?_
  refine lv_iconst (v := 4) hx hb dL_corner_114 (by decide) ?_
  refine lv_bipush (v := 7) hx hb dL_corner_115 (by decide) ?_
  have e14 := b_r (fun Q => fX7_tile Q (4:Int32) (7:Int32)) (fun M => fX8_tile M (4:Int32) (7:Int32)) (fun Q M h => tile_c Q M (4:Int32) (7:Int32) h) hB (r := (0:Int32)) (by decide +kernel)
  refine q_V (As := [.int (4:Int32), .int (7:Int32)]) (rest := []) (C := RX7) (T0 := TX7) (N0 := 4) (ci := 6) hx hb hml hown hts hl.1 (kX7_tile l D E t (aZ0 q u) e14) zSt_mv (cwV 2 hts gL_corner_X7_tile rfl rfl rfl (by decide +kernel) ⟨Nat.le_of_ble_eq_true rfl, Nat.le_of_ble_eq_true rfl⟩) 0 rfl rfl hP hK (zSX_now hZ hS) rfl rfl (Nat.le_of_ble_eq_true rfl) dL_corner_117 ⟨Nat.le_of_ble_eq_true rfl, Nat.le_of_ble_eq_true rfl⟩ ?_
  refine lv_if_ne (tgt := 317) hx hb dL_corner_120 (by decide) (fun c9 => absurd (by decide) c9) (fun _ => ?_)
  refine lv_aload_n hx hb dL_corner_123 rfl (lv_at hl 0 rfl) ?_
  refine lv_iconst (v := 1) hx hb dL_corner_124 (by decide) ?_
  refine lv_iconst (v := 0) hx hb dL_corner_125 (by decide) ?_
  refine lv_iconst (v := 0) hx hb dL_corner_126 (by decide) ?_
  have e15 := b_r (fun Q => fX7_beside Q (1:Int32) (0:Int32) (0:Int32)) (fun M => fX8_beside M (1:Int32) (0:Int32) (0:Int32)) (fun Q M h => beside_c Q M (1:Int32) (0:Int32) (0:Int32) h) hB (r := (-6:Int32)) (by decide +kernel)
  refine q_V (As := [.int (1:Int32), .int (0:Int32), .int (0:Int32)]) (rest := []) (C := RX7) (T0 := TX7) (N0 := 4) (ci := 6) hx hb hml hown hts hl.1 (kX7_beside l D E t (aZ0 q u) e15) zSt_mv (cwV 3 hts gL_corner_X7_beside rfl rfl rfl (by decide +kernel) ⟨Nat.le_of_ble_eq_true rfl, Nat.le_of_ble_eq_true rfl⟩) 0 rfl rfl hP hK (zSX_now hZ hS) rfl rfl (Nat.le_of_ble_eq_true rfl) dL_corner_127 ⟨Nat.le_of_ble_eq_true rfl, Nat.le_of_ble_eq_true rfl⟩ ?_
  refine lv_bipush (v := -6) hx hb dL_corner_130 (by decide) ?_
  refine lv_icmp_ne (tgt := 317) hx hb dL_corner_132 (by decide) (fun c9 => absurd (by decide) c9) (fun _ => ?_)
  refine lv_aload_n hx hb dL_corner_135 rfl (lv_at hl 0 rfl) ?_
  refine lv_iconst (v := 1) hx hb dL_corner_136 (by decide) ?_
  have e16 := b_n (fun Q => fX7_neighbours Q (1:Int32)) (fun M => fX8_neighbours M (1:Int32)) (fun Q M h => neighbours_c Q M (1:Int32) h) hB (r := (0:Int32)) (by decide +kernel)
  refine q_V (As := [.int (1:Int32)]) (rest := []) (C := RX7) (T0 := TX7) (N0 := 4) (ci := 6) hx hb hml hown hts hl.1 (kX7_neighbours l D E t (aZ0 q u) e16) zSt_mv (cwV 1 hts gL_corner_X7_neighbours rfl rfl rfl (by decide +kernel) ⟨Nat.le_of_ble_eq_true rfl, Nat.le_of_ble_eq_true rfl⟩) 0 rfl rfl hP hK (zSX_now hZ hS) rfl rfl (Nat.le_of_ble_eq_true rfl) dL_corner_137 ⟨Nat.le_of_ble_eq_true rfl, Nat.le_of_ble_eq_true rfl⟩ ?_
  refine lv_if_ne (tgt := 317) hx hb dL_corner_140 (by decide) (fun c9 => absurd (by decide) c9) (fun _ => ?_)
  refine lv_aload_n hx hb dL_corner_143 rfl (lv_at hl 0 rfl) ?_
  refine lv_iconst (v := 4) hx hb dL_corner_144 (by decide) ?_
  have e17 := b_n (fun Q => fX7_neighbours Q (4:Int32)) (fun M => fX8_neighbours M (4:Int32)) (fun Q M h => neighbours_c Q M (4:Int32) h) hB (r := (-5:Int32)) (by decide +kernel)
  refine q_V (As := [.int (4:Int32)]) (rest := []) (C := RX7) (T0 := TX7) (N0 := 4) (ci := 6) hx hb hml hown hts hl.1 (kX7_neighbours l D E t (aZ0 q u) e17) zSt_mv (cwV 1 hts gL_corner_X7_neighbours rfl rfl rfl (by decide +kernel) ⟨Nat.le_of_ble_eq_true rfl, Nat.le_of_ble_eq_true rfl⟩) 0 rfl rfl hP hK (zSX_now hZ hS) rfl rfl (Nat.le_of_ble_eq_true rfl) dL_corner_145 ⟨Nat.le_of_ble_eq_true rfl, Nat.le_of_ble_eq_true rfl⟩ ?_
  refine lv_bipush (v := -5) hx hb dL_corner_148 (by decide) ?_
  refine lv_icmp_ne (tgt := 317) hx hb dL_corner_150 (by decide) (fun c9 => absurd (by decide) c9) (fun _ => ?_)
  refine lv_aload_n hx hb dL_corner_153 rfl (lv_at hl 0 rfl) ?_
  refine lv_iconst (v := 3) hx hb dL_corner_154 (by decide) ?_
  refine lv_iconst (v := 3) hx hb dL_corner_155 (by decide) ?_
  refine lv_iconst (v := 0) hx hb dL_corner_156 (by decide) ?_
  have e18 := b_r (fun Q => fX7_nearest Q (3:Int32) (3:Int32) (0:Int32)) (fun M => fX8_nearest M (3:Int32) (3:Int32) (0:Int32)) (fun Q M h => nearest_c Q M (3:Int32) (3:Int32) (0:Int32) h) hB (r := (-6:Int32)) (by decide +kernel)
  refine q_V (As := [.int (3:Int32), .int (3:Int32), .int (0:Int32)]) (rest := []) (C := RX7) (T0 := TX7) (N0 := 4) (ci := 6) hx hb hml hown hts hl.1 (kX7_nearest l D E (aZ0 q u) e18) zNo_mv (cwV 3 hts gL_corner_X7_nearest rfl rfl rfl (by decide +kernel) ⟨Nat.le_of_ble_eq_true rfl, Nat.le_of_ble_eq_true rfl⟩) 0 rfl rfl hP hK trivial rfl rfl (Nat.le_of_ble_eq_true rfl) dL_corner_157 ⟨Nat.le_of_ble_eq_true rfl, Nat.le_of_ble_eq_true rfl⟩ ?_
  refine lv_bipush (v := -6) hx hb dL_corner_160 (by decide) ?_
  refine lv_icmp_ne (tgt := 317) hx hb dL_corner_162 (by decide) (fun c9 => absurd (by decide) c9) (fun _ => ?_)
  exact cor_c2 C hK hA hZ u Z H locs ls hB hP hD hS hl

set_option maxRecDepth 100000 in
set_option maxHeartbeats 4000000 in
theorem cor_c0 {l : Launch} {t : Nat → Nat} {D : va_G} {E : Nat → ClassId} {p : Program} {e : Env} {s : State} {m : MethodId} {below : List Frame} {meth : Method} {c : Code} {A : Nat → Prop} {q : Nat} (C : Ctx p s m meth c [] wsL_corner cL_corner 1 (some .boolean) RL) (hK : va_K D vwCl (tyE E) s) (hA : ∀ q : Nat, s.heap.size ≤ q → A q) (hZ : zSX t A s) (u : Nat → Nat) (Z : Nat → FS) (H : Heap) (locs : List Loc) (ls : Array Slot) (hB : Bis Z zs_corner_0) (hP : va_P D vwCl (wQ E (aZ0 q u) Z) H) (hD : va_D A (wQ E (aZ0 q u) Z)) (hS : va_S A s.heap H locs) (hl : lv_has ls 1 [(0, .ref q)]) : WI p l e (rmW 17 397 58 9007) s m [] below meth c D A 1 (fun _ : Unit => ([] : va_W)) 58 9007 H locs 38 8927 8 ls [] := by
  obtain ⟨hx, hb, hr, hml, hown, hlocks, hts⟩ := id C
  refine lv_aload_n hx hb dL_corner_8 rfl (lv_at hl 0 rfl) ?_
  obtain ⟨Z1, e1, hB⟩ := b_m (fun Q => fX7_undo Q ) (fun M => fX8_undo M ) (fun Q M h => undo_c Q M h) hB (r := (-5:Int32)) (z1 := zs_corner_0) (ck_e (by decide +kernel))
  refine t0_VI (As := []) (rest := []) (Z1 := Z1) hx hb hml hown hts hl.1 (kX7_undo l D E (aZ0 q u) H.size e1) (cwV 0 hts gL_corner_X7_undo rfl rfl rfl (by decide +kernel) ⟨Nat.le_of_ble_eq_true rfl, Nat.le_of_ble_eq_true rfl⟩) hP hD hS hA hK rfl rfl (Nat.le_of_ble_eq_true rfl) dL_corner_9 ⟨Nat.le_of_ble_eq_true rfl, Nat.le_of_ble_eq_true rfl⟩ (fun u2 H locs hP hD hS => ?_)
  refine lv_bipush (v := -5) hx hb dL_corner_12 (by decide) ?_
  refine lv_icmp_ne (tgt := 317) hx hb dL_corner_14 (by decide) (fun c9 => absurd (by decide) c9) (fun _ => ?_)
  refine lv_aload_n hx hb dL_corner_17 rfl (lv_at hl 0 rfl) ?_
  refine lv_iconst (v := 1) hx hb dL_corner_18 (by decide) ?_
  obtain ⟨Z3, e3, hB⟩ := b_m (fun Q => fX7_restore Q (1:Int32)) (fun M => fX8_restore M (1:Int32)) (fun Q M h => restore_c Q M (1:Int32) h) hB (r := (-5:Int32)) (z1 := zs_corner_0) (ck_e (by decide +kernel))
  refine t0_VI (As := [.int (1:Int32)]) (rest := []) (Z1 := Z3) hx hb hml hown hts hl.1 (kX7_restore l D E (aZ0 q u2) H.size e3) (cwV 1 hts gL_corner_X7_restore rfl rfl rfl (by decide +kernel) ⟨Nat.le_of_ble_eq_true rfl, Nat.le_of_ble_eq_true rfl⟩) hP hD hS hA hK rfl rfl (Nat.le_of_ble_eq_true rfl) dL_corner_19 ⟨Nat.le_of_ble_eq_true rfl, Nat.le_of_ble_eq_true rfl⟩ (fun u4 H locs hP hD hS => ?_)
  refine lv_bipush (v := -5) hx hb dL_corner_22 (by decide) ?_
  refine lv_icmp_ne (tgt := 317) hx hb dL_corner_24 (by decide) (fun c9 => absurd (by decide) c9) (fun _ => ?_)
  refine lv_aload_n hx hb dL_corner_27 rfl (lv_at hl 0 rfl) ?_
  refine lv_iconst (v := 1) hx hb dL_corner_28 (by decide) ?_
  have e5 := b_n (fun Q => fX7_count Q (1:Int32)) (fun M => fX8_count M (1:Int32)) (fun Q M h => count_c Q M (1:Int32) h) hB (r := (1:Int32)) (by decide +kernel)
  refine q_V (As := [.int (1:Int32)]) (rest := []) (C := RX7) (T0 := TX7) (N0 := 4) (ci := 6) hx hb hml hown hts hl.1 (kX7_count l D E t (aZ0 q u4) e5) zSt_mv (cwV 1 hts gL_corner_X7_count rfl rfl rfl (by decide +kernel) ⟨Nat.le_of_ble_eq_true rfl, Nat.le_of_ble_eq_true rfl⟩) 0 rfl rfl hP hK (zSX_now hZ hS) rfl rfl (Nat.le_of_ble_eq_true rfl) dL_corner_29 ⟨Nat.le_of_ble_eq_true rfl, Nat.le_of_ble_eq_true rfl⟩ ?_
  refine lv_iconst (v := 1) hx hb dL_corner_32 (by decide) ?_
  refine lv_icmp_ne (tgt := 317) hx hb dL_corner_33 (by decide) (fun c9 => absurd (by decide) c9) (fun _ => ?_)
  refine lv_aload_n hx hb dL_corner_36 rfl (lv_at hl 0 rfl) ?_
  refine lv_iconst (v := 2) hx hb dL_corner_37 (by decide) ?_
  have e6 := b_n (fun Q => fX7_count Q (2:Int32)) (fun M => fX8_count M (2:Int32)) (fun Q M h => count_c Q M (2:Int32) h) hB (r := (1:Int32)) (by decide +kernel)
  refine q_V (As := [.int (2:Int32)]) (rest := []) (C := RX7) (T0 := TX7) (N0 := 4) (ci := 6) hx hb hml hown hts hl.1 (kX7_count l D E t (aZ0 q u4) e6) zSt_mv (cwV 1 hts gL_corner_X7_count rfl rfl rfl (by decide +kernel) ⟨Nat.le_of_ble_eq_true rfl, Nat.le_of_ble_eq_true rfl⟩) 0 rfl rfl hP hK (zSX_now hZ hS) rfl rfl (Nat.le_of_ble_eq_true rfl) dL_corner_38 ⟨Nat.le_of_ble_eq_true rfl, Nat.le_of_ble_eq_true rfl⟩ ?_
  refine lv_iconst (v := 1) hx hb dL_corner_41 (by decide) ?_
  refine lv_icmp_ne (tgt := 317) hx hb dL_corner_42 (by decide) (fun c9 => absurd (by decide) c9) (fun _ => ?_)
  refine lv_aload_n hx hb dL_corner_45 rfl (lv_at hl 0 rfl) ?_
  refine lv_iconst (v := 3) hx hb dL_corner_46 (by decide) ?_
  have e7 := b_n (fun Q => fX7_count Q (3:Int32)) (fun M => fX8_count M (3:Int32)) (fun Q M h => count_c Q M (3:Int32) h) hB (r := (0:Int32)) (by decide +kernel)
  refine q_V (As := [.int (3:Int32)]) (rest := []) (C := RX7) (T0 := TX7) (N0 := 4) (ci := 6) hx hb hml hown hts hl.1 (kX7_count l D E t (aZ0 q u4) e7) zSt_mv (cwV 1 hts gL_corner_X7_count rfl rfl rfl (by decide +kernel) ⟨Nat.le_of_ble_eq_true rfl, Nat.le_of_ble_eq_true rfl⟩) 0 rfl rfl hP hK (zSX_now hZ hS) rfl rfl (Nat.le_of_ble_eq_true rfl) dL_corner_47 ⟨Nat.le_of_ble_eq_true rfl, Nat.le_of_ble_eq_true rfl⟩ ?_
  refine lv_if_ne (tgt := 317) hx hb dL_corner_50 (by decide) (fun c9 => absurd (by decide) c9) (fun _ => ?_)
  refine lv_aload_n hx hb dL_corner_53 rfl (lv_at hl 0 rfl) ?_
  refine lv_iconst (v := 4) hx hb dL_corner_54 (by decide) ?_
  have e8 := b_n (fun Q => fX7_count Q (4:Int32)) (fun M => fX8_count M (4:Int32)) (fun Q M h => count_c Q M (4:Int32) h) hB (r := (1:Int32)) (by decide +kernel)
  refine q_V (As := [.int (4:Int32)]) (rest := []) (C := RX7) (T0 := TX7) (N0 := 4) (ci := 6) hx hb hml hown hts hl.1 (kX7_count l D E t (aZ0 q u4) e8) zSt_mv (cwV 1 hts gL_corner_X7_count rfl rfl rfl (by decide +kernel) ⟨Nat.le_of_ble_eq_true rfl, Nat.le_of_ble_eq_true rfl⟩) 0 rfl rfl hP hK (zSX_now hZ hS) rfl rfl (Nat.le_of_ble_eq_true rfl) dL_corner_55 ⟨Nat.le_of_ble_eq_true rfl, Nat.le_of_ble_eq_true rfl⟩ ?_
  refine lv_iconst (v := 1) hx hb dL_corner_58 (by decide) ?_
  refine lv_icmp_ne (tgt := 317) hx hb dL_corner_59 (by decide) (fun c9 => absurd (by decide) c9) (fun _ => ?_)
  refine lv_aload_n hx hb dL_corner_62 rfl (lv_at hl 0 rfl) ?_
  refine lv_bipush (v := 6) hx hb dL_corner_63 (by decide) ?_
  have e9 := b_n (fun Q => fX7_count Q (6:Int32)) (fun M => fX8_count M (6:Int32)) (fun Q M h => count_c Q M (6:Int32) h) hB (r := (0:Int32)) (by decide +kernel)
  refine q_V (As := [.int (6:Int32)]) (rest := []) (C := RX7) (T0 := TX7) (N0 := 4) (ci := 6) hx hb hml hown hts hl.1 (kX7_count l D E t (aZ0 q u4) e9) zSt_mv (cwV 1 hts gL_corner_X7_count rfl rfl rfl (by decide +kernel) ⟨Nat.le_of_ble_eq_true rfl, Nat.le_of_ble_eq_true rfl⟩) 0 rfl rfl hP hK (zSX_now hZ hS) rfl rfl (Nat.le_of_ble_eq_true rfl) dL_corner_65 ⟨Nat.le_of_ble_eq_true rfl, Nat.le_of_ble_eq_true rfl⟩ ?_
  refine lv_if_ne (tgt := 317) hx hb dL_corner_68 (by decide) (fun c9 => absurd (by decide) c9) (fun _ => ?_)
  refine lv_aload_n hx hb dL_corner_71 rfl (lv_at hl 0 rfl) ?_
  refine lv_bipush (v := 63) hx hb dL_corner_72 (by decide) ?_
  refine lv_iconst (v := 0) hx hb dL_corner_74 (by decide) ?_
  have e10 := b_r (fun Q => fX7_leafAt Q (63:Int32) (0:Int32)) (fun M => fX8_leafAt M (63:Int32) (0:Int32)) (fun Q M h => leafAt_c Q M (63:Int32) (0:Int32) h) hB (r := (1:Int32)) (by decide +kernel)
  refine q_V (As := [.int (63:Int32), .int (0:Int32)]) (rest := []) (C := RX7) (T0 := TX7) (N0 := 4) (ci := 6) hx hb hml hown hts hl.1 (kX7_leafAt l D E (aZ0 q u4) e10) zNo_mv (cwV 2 hts gL_corner_X7_leafAt rfl rfl rfl (by decide +kernel) ⟨Nat.le_of_ble_eq_true rfl, Nat.le_of_ble_eq_true rfl⟩) 0 rfl rfl hP hK trivial rfl rfl (Nat.le_of_ble_eq_true rfl) dL_corner_75 ⟨Nat.le_of_ble_eq_true rfl, Nat.le_of_ble_eq_true rfl⟩ ?_
  refine lv_iconst (v := 1) hx hb dL_corner_78 (by decide) ?_
  refine lv_icmp_ne (tgt := 317) hx hb dL_corner_79 (by decide) (fun c9 => absurd (by decide) c9) (fun _ => ?_)
  exact cor_c1 C hK hA hZ u4 Z3 H locs ls hB hP hD hS hl

set_option maxRecDepth 100000 in
set_option maxHeartbeats 4000000 in
theorem kL_corner (l : Launch) (t : Nat → Nat) (D : va_G) (E : Nat → ClassId) (sz : Nat) : LI l yL_corner wsL_corner (rmW 17 397 58 9007) t D E [] sz [] 1 (fun _ : Unit => ([] : va_W)) 58 9007 := by
  refine LI.of (by decide) rfl (Nat.le_of_ble_eq_true rfl) ?_
  intro p e s m below meth c A H locs C hP hK hD hS hA hZ ls hl
  have hl : lv_has ls 1 [] := hl
  obtain ⟨hx, hb, hr, hml, hown, hlocks, hts⟩ := id C
  refine va_new (D := D) (ci := 6) (fs := [.null, .null, .null, .null]) (C := RX7) (T := TX7) (N := 4) hx hb hts hiL_corner_X7 tyX7 tyX7_ok hown (hts _ lkL_corner_n0) (hts _ lkL_corner_n1) (hts _ lkL_corner_n2) hK hP hD hS hA rfl (fun j hj => by rcases (show j = 0 ∨ j = 1 ∨ j = 2 ∨ j = 3 by omega) with rfl | rfl | rfl | rfl <;> rfl) (Nat.le_of_ble_eq_true rfl) (Nat.le_of_ble_eq_true rfl) dL_corner_0 (fun q H hP hD hS => ?_)
  refine lv_dup hx hb dL_corner_3 rfl ?_
  refine m_IC (As := []) (rest := [.ref q]) (Wn := (fun u1 : Nat → Nat => (wQ E (aZ0 q u1) Q00))) (Wr := []) hx hb hml hown hts hl.1 (kX7_init l D E q H.size) (cwI 0 hts gL_corner_X7_init rfl rfl rfl (hts _ lkL_corner_n2) (hts _ lkL_corner_n3) (hts _ lkL_corner_n4) rfl (by decide +kernel) ⟨Nat.le_of_ble_eq_true rfl, Nat.le_of_ble_eq_true rfl⟩) hP hD hS hA hK hZ.2.2.2.2.2.2.2.2.2 [0] [] [0, 1, 2, 3, 4, 5, 6, 7, 8, 9, 10, 11, 12, 13, 14, 15, 16, 17, 18, 19, 20, 21, 22, 23, 24, 25, 26, 27, 28, 29, 30, 31, 32, 33, 34, 35, 36, 37] (by decide) rfl rfl (by decide) (by decide) (by decide) (fun _ => rfl) rfl rfl (Nat.le_of_ble_eq_true rfl) dL_corner_4 ⟨Nat.le_of_ble_eq_true rfl, Nat.le_of_ble_eq_true rfl⟩ (fun u1 H locs hP hD hS => ?_)
  refine lv_astore_n (lv' := [(0, .ref q)]) hx hb dL_corner_7 rfl hl (by decide) rfl (fun ls hl => ?_)
  exact cor_c0 C hK hA hZ u1 Q00 H locs ls (Bis_of init_II (eqS_e (by decide +kernel))) hP hD hS hl
