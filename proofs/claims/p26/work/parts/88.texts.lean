def zs_texts_0 : St := (([], [], 2, 6), [], none, none, [])
def zs_texts_1 : St := (([], [], 2, 6), [], none, none, [54, 52, 44, 48])
def zs_texts_2 : St := (([], [], 2, 6), [], none, none, [])
def zs_texts_3 : St := (([], [], 2, 6), [], none, none, [48, 48, 44, 49])
def zs_texts_4 : St := (([], [], 2, 6), [], none, none, [])
def zs_texts_5 : St := (([], [], 2, 6), [], none, none, [49, 44, 50, 59])
def zs_texts_6 : St := (([], [], 2, 6), [], none, none, [])
def zs_texts_7 : St := (([], [], 2, 6), [], none, none, [44])
def zs_texts_8 : St := (([], [], 2, 6), [], none, none, [])
def zs_texts_9 : St := (([], [], 2, 6), [], none, none, [53])
def zs_texts_10 : St := (([], [], 2, 6), [], none, none, [])
def zs_texts_11 : St := (([], [], 2, 6), [], none, none, [54, 51, 44, 54, 51])
def zs_texts_12 : St := (([], [], 2, 6), [], none, none, [])
def zs_texts_13 : St := (([], [], 2, 6), [], none, none, [49, 44, 50, 59, 51, 44, 52])
def zs_texts_14 : St := (([], [], 2, 6), [], none, none, [])
def zs_texts_15 : St := (([], [], 2, 6), [], none, none, [49, 44, 50, 44, 51])
def zs_texts_16 : St := (([], [], 2, 6), [], none, none, [])
def zs_texts_17 : St := (([], [], 2, 6), [], none, none, [55, 44, 54, 97])
def zs_texts_18 : St := (([], [], 2, 6), [], none, none, [])
def zs_texts_19 : St := (([], [], 2, 6), [], none, none, [49, 48, 44, 49, 48, 48])
def zs_texts_20 : St := (([], [], 2, 6), [], none, none, [])
def zs_texts_21 : St := (([], [], 2, 6), [], none, none, [48, 44, 48, 59, 120])
def zs_texts_22 : St := (([], [], 2, 6), [], none, none, [])
def zs_texts_23 : St := (([], [], 2, 6), [], none, none, [49, 44, 50, 59, 51, 44, 52, 59])
def zs_texts_24 : St := (([], [], 2, 6), [], none, none, [49, 44, 50, 59, 51, 44, 52, 59, 57, 44, 57, 59, 51, 44, 52])
def zs_texts_25 : St := (([], [], 2, 6), [], none, none, [49, 44, 50, 59, 51, 44, 52, 59, 57, 44, 57, 59, 51, 44, 52, 59, 56, 44, 56])
def zs_texts_26 : St := (([9, 37, 195], [], 2, 6), [([], [], 2, 6)], none, none, [])
def zs_texts_27 : St := (([], [], 2, 6), [], none, none, [])
def zs_texts_28 : St := (([], [], 2, 6), [], none, none, [53, 44, 53, 59, 53, 44, 53, 59])
def zs_texts_29 : St := (([], [], 2, 6), [], none, none, [53, 44, 53, 59, 53, 44, 53, 59, 53, 44, 53, 59, 53, 44, 53, 59])
def zs_texts_30 : St := (([], [], 2, 6), [], none, none, [53, 44, 53, 59, 53, 44, 53, 59, 53, 44, 53, 59, 53, 44, 53, 59, 53, 44, 53, 59, 53, 44, 53, 59])
def zs_texts_31 : St := (([], [], 2, 6), [], none, none, [53, 44, 53, 59, 53, 44, 53, 59, 53, 44, 53, 59, 53, 44, 53, 59, 53, 44, 53, 59, 53, 44, 53, 59, 53, 44, 53, 59, 53, 44, 53, 59])
def zs_texts_32 : St := (([], [], 2, 6), [], none, none, [53, 44, 53, 59, 53, 44, 53, 59, 53, 44, 53, 59, 53, 44, 53, 59, 53, 44, 53, 59, 53, 44, 53, 59, 53, 44, 53, 59, 53, 44, 53, 59, 53, 44, 53, 59, 53, 44, 53, 59])
def zs_texts_33 : St := (([], [], 2, 6), [], none, none, [53, 44, 53, 59, 53, 44, 53, 59, 53, 44, 53, 59, 53, 44, 53, 59, 53, 44, 53, 59, 53, 44, 53, 59, 53, 44, 53, 59, 53, 44, 53, 59, 53, 44, 53, 59, 53, 44, 53, 59, 53, 44, 53, 59, 53, 44, 53, 59])
def zs_texts_34 : St := (([], [], 2, 6), [], none, none, [53, 44, 53, 59, 53, 44, 53, 59, 53, 44, 53, 59, 53, 44, 53, 59, 53, 44, 53, 59, 53, 44, 53, 59, 53, 44, 53, 59, 53, 44, 53, 59, 53, 44, 53, 59, 53, 44, 53, 59, 53, 44, 53, 59, 53, 44, 53, 59, 53, 44, 53, 59, 53, 44, 53, 59])
def zs_texts_35 : St := (([], [], 2, 6), [], none, none, [53, 44, 53, 59, 53, 44, 53, 59, 53, 44, 53, 59, 53, 44, 53, 59, 53, 44, 53, 59, 53, 44, 53, 59, 53, 44, 53, 59, 53, 44, 53, 59, 53, 44, 53, 59, 53, 44, 53, 59, 53, 44, 53, 59, 53, 44, 53, 59, 53, 44, 53, 59, 53, 44, 53, 59, 53, 44, 53, 59, 53, 44, 53, 59])
def zs_texts_36 : St := (([], [], 2, 6), [], none, none, [53, 44, 53, 59, 53, 44, 53, 59, 53, 44, 53, 59, 53, 44, 53, 59, 53, 44, 53, 59, 53, 44, 53, 59, 53, 44, 53, 59, 53, 44, 53, 59, 53, 44, 53, 59, 53, 44, 53, 59, 53, 44, 53, 59, 53, 44, 53, 59, 53, 44, 53, 59, 53, 44, 53, 59, 53, 44, 53, 59, 53, 44, 53, 59, 53, 44, 53, 59, 53, 44, 53, 59])
def zs_texts_37 : St := (([], [], 2, 6), [], none, none, [53, 44, 53, 59, 53, 44, 53, 59, 53, 44, 53, 59, 53, 44, 53, 59, 53, 44, 53, 59, 53, 44, 53, 59, 53, 44, 53, 59, 53, 44, 53, 59, 53, 44, 53, 59, 53, 44, 53, 59, 53, 44, 53, 59, 53, 44, 53, 59, 53, 44, 53, 59, 53, 44, 53, 59, 53, 44, 53, 59, 53, 44, 53, 59, 53, 44, 53, 59, 53, 44, 53, 59, 53, 44, 53, 59, 53, 44, 53, 59])
def zs_texts_38 : St := (([], [], 2, 6), [], none, none, [])
theorem lkL_texts_107 : (.constantLong RL 107 909388848 : Cond) ∈ wsL_texts := by decide +kernel
theorem lkL_texts_112 : (.constantLong RL 112 808463409 : Cond) ∈ wsL_texts := by decide +kernel
theorem lkL_texts_114 : (.constantLong RL 114 824980027 : Cond) ∈ wsL_texts := by decide +kernel
theorem lkL_texts_116 : (.constantLong RL 116 44 : Cond) ∈ wsL_texts := by decide +kernel
theorem lkL_texts_118 : (.constantLong RL 118 53 : Cond) ∈ wsL_texts := by decide +kernel
theorem lkL_texts_120 : (.constantLong RL 120 232786769459 : Cond) ∈ wsL_texts := by decide +kernel
theorem lkL_texts_122 : (.constantLong RL 122 13840868112018484 : Cond) ∈ wsL_texts := by decide +kernel
theorem lkL_texts_124 : (.constantLong RL 124 211194883123 : Cond) ∈ wsL_texts := by decide +kernel
theorem lkL_texts_126 : (.constantLong RL 126 925644385 : Cond) ∈ wsL_texts := by decide +kernel
theorem lkL_texts_128 : (.constantLong RL 128 54082969612336 : Cond) ∈ wsL_texts := by decide +kernel
theorem lkL_texts_130 : (.constantLong RL 130 206899788664 : Cond) ∈ wsL_texts := by decide +kernel
theorem lkL_texts_132 : (.constantLong RL 132 3543262236676731963 : Cond) ∈ wsL_texts := by decide +kernel
theorem lkL_texts_134 : (.constantLong RL 134 16092697990474804 : Cond) ∈ wsL_texts := by decide +kernel
theorem lkL_texts_136 : (.constantLong RL 136 993537080 : Cond) ∈ wsL_texts := by decide +kernel
theorem lkL_texts_138 : (.constantLong RL 138 3831495911396881723 : Cond) ∈ wsL_texts := by decide +kernel
theorem lkL_texts_140 : (.constantLong RL 140 49 : Cond) ∈ wsL_texts := by decide +kernel
theorem lkL_texts_84 : (.constantLong RL 84 127 : Cond) ∈ wsL_texts := by decide +kernel
theorem hiL_texts_X7 : ∀ w ∈ wsX70, w ∈ wsL_texts := by decide +kernel
theorem lkL_texts_n0 : (.classLink RL 12 RX7 : Cond) ∈ wsL_texts := by decide +kernel
theorem lkL_texts_n1 : (.instantiable RX7 4 : Cond) ∈ wsL_texts := by decide +kernel
theorem lkL_texts_n2 : (.initialized RX7 : Cond) ∈ wsL_texts := by decide +kernel
theorem lkL_texts_n3 : (.methodLink RL 96 yX7_init : Cond) ∈ wsL_texts := by decide +kernel
theorem lkL_texts_n4 : (.instanceMethod yX7_init : Cond) ∈ wsL_texts := by decide +kernel
set_option maxRecDepth 100000 in
set_option maxHeartbeats 4000000 in
theorem tex_c9 {l : Launch} {t : Nat → Nat} {D : va_G} {E : Nat → ClassId} {p : Program} {e : Env} {s : State} {m : MethodId} {below : List Frame} {meth : Method} {c : Code} {A : Nat → Prop} {q : Nat} (C : Ctx p s m meth c [] wsL_texts cL_texts 2 (some .boolean) RL) (hK : va_K D vwCl (tyE E) s) (hA : ∀ q : Nat, s.heap.size ≤ q → A q) (hZ : zSX t A s) (u : Nat → Nat) (Z : Nat → FS) (H : Heap) (locs : List Loc) (ls : Array Slot) (hB : Bis Z zs_texts_38) (hP : va_P D vwCl (wQ E (aZ0 q u) Z) H) (hD : va_D A (wQ E (aZ0 q u) Z)) (hS : va_S A s.heap H locs) (hl : lv_has ls 2 [(1, .int (10:Int32)), (0, .ref q)]) : WI p l e (rmW 15 350 38 8927) s m [] below meth c D A 1 (fun _ : Unit => ([] : va_W)) 38 8927 H locs 38 8927 508 ls [] := by
  obtain ⟨hx, hb, hr, hml, hown, hlocks, hts⟩ := id C
  refine lv_iconst (v := 1) hx hb dL_texts_508 (by decide) ?_
  refine lv_goto (tgt := 513) hx hb dL_texts_509 (by decide) ?_
  exact t_rz () C dL_texts_513 (by decide) (by decide) va_P_nil va_D_nil hS

set_option maxRecDepth 100000 in
set_option maxHeartbeats 4000000 in
theorem tex_c8 {l : Launch} {t : Nat → Nat} {D : va_G} {E : Nat → ClassId} {p : Program} {e : Env} {s : State} {m : MethodId} {below : List Frame} {meth : Method} {c : Code} {A : Nat → Prop} {q : Nat} (C : Ctx p s m meth c [] wsL_texts cL_texts 2 (some .boolean) RL) (hK : va_K D vwCl (tyE E) s) (hA : ∀ q : Nat, s.heap.size ≤ q → A q) (hZ : zSX t A s) (u : Nat → Nat) (Z : Nat → FS) (H : Heap) (locs : List Loc) (ls : Array Slot) (hB : Bis Z zs_texts_36) (hP : va_P D vwCl (wQ E (aZ0 q u) Z) H) (hD : va_D A (wQ E (aZ0 q u) Z)) (hS : va_S A s.heap H locs) (hl : lv_has ls 2 [(1, .int (8:Int32)), (0, .ref q)]) : WI p l e (rmW 15 350 38 8927) s m [] below meth c D A 1 (fun _ : Unit => ([] : va_W)) 38 8927 H locs 38 8927 451 ls [] := by
  obtain ⟨hx, hb, hr, hml, hown, hlocks, hts⟩ := id C
  refine lv_iinc (v := (9:Int32)) (lv' := [(1, .int (9:Int32)), (0, .ref q)]) hx hb dL_texts_451 hl (k := 0) rfl (by decide) (by decide) rfl (fun ls hl => ?_)
  refine lv_goto (tgt := 426) hx hb dL_texts_454 (by decide) ?_
  refine lv_iload_n hx hb dL_texts_426 rfl (lv_at hl 0 rfl) ?_
  refine lv_bipush (v := 10) hx hb dL_texts_427 (by decide) ?_
  refine lv_icmp_ge (tgt := 457) hx hb dL_texts_429 (by decide) (fun c9 => absurd c9 (by decide)) (fun _ => ?_)
  refine lv_aload_n hx hb dL_texts_432 rfl (lv_at hl 1 rfl) ?_
  refine lv_ldc2 (v := 3831495911396881723) hx hb hown (hts _ lkL_texts_138) dL_texts_433 ?_
  obtain ⟨Z93, e93, hB⟩ := b_m (fun Q => fX7_put Q (3831495911396881723:Int64)) (fun M => fX8_put M (3831495911396881723:Int64)) (fun Q M h => put_c Q M (3831495911396881723:Int64) h) hB (r := (80:Int32)) (z1 := zs_texts_37) (ck_e (by decide +kernel))
  refine t0_UI (As := [.long (3831495911396881723:Int64)]) (rest := []) (Z1 := Z93) hx hb hml hown hts hl.1 (kX7_put l D E (aZ0 q u) H.size e93) (cwV 1 hts gL_texts_X7_put rfl rfl rfl (by decide +kernel) ⟨Nat.le_of_ble_eq_true rfl, Nat.le_of_ble_eq_true rfl⟩) hP hD hS hA hK rfl rfl (Nat.le_of_ble_eq_true rfl) dL_texts_436 ⟨Nat.le_of_ble_eq_true rfl, Nat.le_of_ble_eq_true rfl⟩ (fun u94 H locs hP hD hS => ?_)
  refine lv_bipush (v := 8) hx hb dL_texts_439 (by decide) ?_
  refine lv_iload_n hx hb dL_texts_441 rfl (lv_at hl 0 rfl) ?_
  refine lv_imul hx hb dL_texts_442 ?_
  refine lv_bipush (v := 8) hx hb dL_texts_443 (by decide) ?_
  refine lv_iadd hx hb dL_texts_445 ?_
  refine lv_icmp_eq (tgt := 451) hx hb dL_texts_446 (by decide) (fun _ => ?_) (fun c9 => absurd (by decide) c9)
  refine lv_iinc (v := (10:Int32)) (lv' := [(1, .int (10:Int32)), (0, .ref q)]) hx hb dL_texts_451 hl (k := 0) rfl (by decide) (by decide) rfl (fun ls hl => ?_)
  refine lv_goto (tgt := 426) hx hb dL_texts_454 (by decide) ?_
  refine lv_iload_n hx hb dL_texts_426 rfl (lv_at hl 0 rfl) ?_
  refine lv_bipush (v := 10) hx hb dL_texts_427 (by decide) ?_
  refine lv_icmp_ge (tgt := 457) hx hb dL_texts_429 (by decide) (fun _ => ?_) (fun c9 => absurd (by decide) c9)
  refine lv_aload_n hx hb dL_texts_457 rfl (lv_at hl 1 rfl) ?_
  refine lv_ldc2 (v := 49) hx hb hown (hts _ lkL_texts_140) dL_texts_458 ?_
  obtain ⟨Z95, e95, hB⟩ := b_m (fun Q => fX7_put Q (49:Int64)) (fun M => fX8_put M (49:Int64)) (fun Q M h => put_c Q M (49:Int64) h) hB (r := (-4:Int32)) (z1 := zs_texts_37) (ck_e (by decide +kernel))
  refine t0_UI (As := [.long (49:Int64)]) (rest := []) (Z1 := Z95) hx hb hml hown hts hl.1 (kX7_put l D E (aZ0 q u94) H.size e95) (cwV 1 hts gL_texts_X7_put rfl rfl rfl (by decide +kernel) ⟨Nat.le_of_ble_eq_true rfl, Nat.le_of_ble_eq_true rfl⟩) hP hD hS hA hK rfl rfl (Nat.le_of_ble_eq_true rfl) dL_texts_461 ⟨Nat.le_of_ble_eq_true rfl, Nat.le_of_ble_eq_true rfl⟩ (fun u96 H locs hP hD hS => ?_)
  refine lv_bipush (v := -4) hx hb dL_texts_464 (by decide) ?_
  refine lv_icmp_ne (tgt := 512) hx hb dL_texts_466 (by decide) (fun c9 => absurd (by decide) c9) (fun _ => ?_)
  refine lv_aload_n hx hb dL_texts_469 rfl (lv_at hl 1 rfl) ?_
  refine lv_ldc2 (v := 127) hx hb hown (hts _ lkL_texts_84) dL_texts_470 ?_
  obtain ⟨Z97, e97, hB⟩ := b_m (fun Q => fX7_put Q (127:Int64)) (fun M => fX8_put M (127:Int64)) (fun Q M h => put_c Q M (127:Int64) h) hB (r := (-2:Int32)) (z1 := zs_texts_37) (ck_e (by decide +kernel))
  refine t0_UI (As := [.long (127:Int64)]) (rest := []) (Z1 := Z97) hx hb hml hown hts hl.1 (kX7_put l D E (aZ0 q u96) H.size e97) (cwV 1 hts gL_texts_X7_put rfl rfl rfl (by decide +kernel) ⟨Nat.le_of_ble_eq_true rfl, Nat.le_of_ble_eq_true rfl⟩) hP hD hS hA hK rfl rfl (Nat.le_of_ble_eq_true rfl) dL_texts_473 ⟨Nat.le_of_ble_eq_true rfl, Nat.le_of_ble_eq_true rfl⟩ (fun u98 H locs hP hD hS => ?_)
  refine lv_bipush (v := -2) hx hb dL_texts_476 (by decide) ?_
  refine lv_icmp_ne (tgt := 512) hx hb dL_texts_478 (by decide) (fun c9 => absurd (by decide) c9) (fun _ => ?_)
  refine lv_aload_n hx hb dL_texts_481 rfl (lv_at hl 1 rfl) ?_
  have e99 := b_n (fun Q => fX7_fault Q ) (fun M => fX8_fault M ) (fun Q M h => fault_c Q M h) hB (r := (80:Int32)) (by decide +kernel)
  refine q_V (As := []) (rest := []) (C := RX7) (T0 := TX7) (N0 := 4) (ci := 6) hx hb hml hown hts hl.1 (kX7_fault l D E (aZ0 q u98) e99) zNo_mv (cwV 0 hts gL_texts_X7_fault rfl rfl rfl (by decide +kernel) ⟨Nat.le_of_ble_eq_true rfl, Nat.le_of_ble_eq_true rfl⟩) 0 rfl rfl hP hK trivial rfl rfl (Nat.le_of_ble_eq_true rfl) dL_texts_482 ⟨Nat.le_of_ble_eq_true rfl, Nat.le_of_ble_eq_true rfl⟩ ?_
  refine lv_bipush (v := 80) hx hb dL_texts_485 (by decide) ?_
  refine lv_icmp_ne (tgt := 512) hx hb dL_texts_487 (by decide) (fun c9 => absurd (by decide) c9) (fun _ => ?_)
  refine lv_aload_n hx hb dL_texts_490 rfl (lv_at hl 1 rfl) ?_
  obtain ⟨Z100, e100, hB⟩ := b_m (fun Q => fX7_putAll Q ) (fun M => fX8_putAll M ) (fun Q M h => putAll_c Q M h) hB (r := (-3:Int32)) (z1 := zs_texts_37) (ck_e (by decide +kernel))
  refine t0_VI (As := []) (rest := []) (Z1 := Z100) hx hb hml hown hts hl.1 (kX7_putAll l D E (aZ0 q u98) H.size e100) (cwV 0 hts gL_texts_X7_putAll rfl rfl rfl (by decide +kernel) ⟨Nat.le_of_ble_eq_true rfl, Nat.le_of_ble_eq_true rfl⟩) hP hD hS hA hK rfl rfl (Nat.le_of_ble_eq_true rfl) dL_texts_491 ⟨Nat.le_of_ble_eq_true rfl, Nat.le_of_ble_eq_true rfl⟩ (fun u101 H locs hP hD hS => ?_)
  refine lv_bipush (v := -3) hx hb dL_texts_494 (by decide) ?_
  refine lv_icmp_ne (tgt := 512) hx hb dL_texts_496 (by decide) (fun c9 => absurd (by decide) c9) (fun _ => ?_)
  refine lv_aload_n hx hb dL_texts_499 rfl (lv_at hl 1 rfl) ?_
  obtain ⟨Z102, e102, hB⟩ := b_m (fun Q => fX7_wipe Q ) (fun M => fX8_wipe M ) (fun Q M h => wipe_c Q M h) hB (r := (80:Int32)) (z1 := zs_texts_38) (ck_e (by decide +kernel))
  refine t0_UI (As := []) (rest := []) (Z1 := Z102) hx hb hml hown hts hl.1 (kX7_wipe l D E (aZ0 q u101) H.size e102) (cwV 0 hts gL_texts_X7_wipe rfl rfl rfl (by decide +kernel) ⟨Nat.le_of_ble_eq_true rfl, Nat.le_of_ble_eq_true rfl⟩) hP hD hS hA hK rfl rfl (Nat.le_of_ble_eq_true rfl) dL_texts_500 ⟨Nat.le_of_ble_eq_true rfl, Nat.le_of_ble_eq_true rfl⟩ (fun u103 H locs hP hD hS => ?_)
  refine lv_bipush (v := 80) hx hb dL_texts_503 (by decide) ?_
  refine lv_icmp_ne (tgt := 512) hx hb dL_texts_505 (by decide) (fun c9 => absurd (by decide) c9) (fun _ => ?_)
  exact tex_c9 C hK hA hZ u103 Z102 H locs ls hB hP hD hS hl

set_option maxRecDepth 100000 in
set_option maxHeartbeats 4000000 in
theorem tex_c7 {l : Launch} {t : Nat → Nat} {D : va_G} {E : Nat → ClassId} {p : Program} {e : Env} {s : State} {m : MethodId} {below : List Frame} {meth : Method} {c : Code} {A : Nat → Prop} {q : Nat} (C : Ctx p s m meth c [] wsL_texts cL_texts 2 (some .boolean) RL) (hK : va_K D vwCl (tyE E) s) (hA : ∀ q : Nat, s.heap.size ≤ q → A q) (hZ : zSX t A s) (u : Nat → Nat) (Z : Nat → FS) (H : Heap) (locs : List Loc) (ls : Array Slot) (hB : Bis Z zs_texts_32) (hP : va_P D vwCl (wQ E (aZ0 q u) Z) H) (hD : va_D A (wQ E (aZ0 q u) Z)) (hS : va_S A s.heap H locs) (hl : lv_has ls 2 [(1, .int (4:Int32)), (0, .ref q)]) : WI p l e (rmW 15 350 38 8927) s m [] below meth c D A 1 (fun _ : Unit => ([] : va_W)) 38 8927 H locs 38 8927 451 ls [] := by
  obtain ⟨hx, hb, hr, hml, hown, hlocks, hts⟩ := id C
  refine lv_iinc (v := (5:Int32)) (lv' := [(1, .int (5:Int32)), (0, .ref q)]) hx hb dL_texts_451 hl (k := 0) rfl (by decide) (by decide) rfl (fun ls hl => ?_)
  refine lv_goto (tgt := 426) hx hb dL_texts_454 (by decide) ?_
  refine lv_iload_n hx hb dL_texts_426 rfl (lv_at hl 0 rfl) ?_
  refine lv_bipush (v := 10) hx hb dL_texts_427 (by decide) ?_
  refine lv_icmp_ge (tgt := 457) hx hb dL_texts_429 (by decide) (fun c9 => absurd c9 (by decide)) (fun _ => ?_)
  refine lv_aload_n hx hb dL_texts_432 rfl (lv_at hl 1 rfl) ?_
  refine lv_ldc2 (v := 3831495911396881723) hx hb hown (hts _ lkL_texts_138) dL_texts_433 ?_
  obtain ⟨Z85, e85, hB⟩ := b_m (fun Q => fX7_put Q (3831495911396881723:Int64)) (fun M => fX8_put M (3831495911396881723:Int64)) (fun Q M h => put_c Q M (3831495911396881723:Int64) h) hB (r := (48:Int32)) (z1 := zs_texts_33) (ck_e (by decide +kernel))
  refine t0_UI (As := [.long (3831495911396881723:Int64)]) (rest := []) (Z1 := Z85) hx hb hml hown hts hl.1 (kX7_put l D E (aZ0 q u) H.size e85) (cwV 1 hts gL_texts_X7_put rfl rfl rfl (by decide +kernel) ⟨Nat.le_of_ble_eq_true rfl, Nat.le_of_ble_eq_true rfl⟩) hP hD hS hA hK rfl rfl (Nat.le_of_ble_eq_true rfl) dL_texts_436 ⟨Nat.le_of_ble_eq_true rfl, Nat.le_of_ble_eq_true rfl⟩ (fun u86 H locs hP hD hS => ?_)
  refine lv_bipush (v := 8) hx hb dL_texts_439 (by decide) ?_
  refine lv_iload_n hx hb dL_texts_441 rfl (lv_at hl 0 rfl) ?_
  refine lv_imul hx hb dL_texts_442 ?_
  refine lv_bipush (v := 8) hx hb dL_texts_443 (by decide) ?_
  refine lv_iadd hx hb dL_texts_445 ?_
  refine lv_icmp_eq (tgt := 451) hx hb dL_texts_446 (by decide) (fun _ => ?_) (fun c9 => absurd (by decide) c9)
  refine lv_iinc (v := (6:Int32)) (lv' := [(1, .int (6:Int32)), (0, .ref q)]) hx hb dL_texts_451 hl (k := 0) rfl (by decide) (by decide) rfl (fun ls hl => ?_)
  refine lv_goto (tgt := 426) hx hb dL_texts_454 (by decide) ?_
  refine lv_iload_n hx hb dL_texts_426 rfl (lv_at hl 0 rfl) ?_
  refine lv_bipush (v := 10) hx hb dL_texts_427 (by decide) ?_
  refine lv_icmp_ge (tgt := 457) hx hb dL_texts_429 (by decide) (fun c9 => absurd c9 (by decide)) (fun _ => ?_)
  refine lv_aload_n hx hb dL_texts_432 rfl (lv_at hl 1 rfl) ?_
  refine lv_ldc2 (v := 3831495911396881723) hx hb hown (hts _ lkL_texts_138) dL_texts_433 ?_
  obtain ⟨Z87, e87, hB⟩ := b_m (fun Q => fX7_put Q (3831495911396881723:Int64)) (fun M => fX8_put M (3831495911396881723:Int64)) (fun Q M h => put_c Q M (3831495911396881723:Int64) h) hB (r := (56:Int32)) (z1 := zs_texts_34) (ck_e (by decide +kernel))
  refine t0_UI (As := [.long (3831495911396881723:Int64)]) (rest := []) (Z1 := Z87) hx hb hml hown hts hl.1 (kX7_put l D E (aZ0 q u86) H.size e87) (cwV 1 hts gL_texts_X7_put rfl rfl rfl (by decide +kernel) ⟨Nat.le_of_ble_eq_true rfl, Nat.le_of_ble_eq_true rfl⟩) hP hD hS hA hK rfl rfl (Nat.le_of_ble_eq_true rfl) dL_texts_436 ⟨Nat.le_of_ble_eq_true rfl, Nat.le_of_ble_eq_true rfl⟩ (fun u88 H locs hP hD hS => ?_)
  refine lv_bipush (v := 8) hx hb dL_texts_439 (by decide) ?_
  refine lv_iload_n hx hb dL_texts_441 rfl (lv_at hl 0 rfl) ?_
  refine lv_imul hx hb dL_texts_442 ?_
  refine lv_bipush (v := 8) hx hb dL_texts_443 (by decide) ?_
  refine lv_iadd hx hb dL_texts_445 ?_
  refine lv_icmp_eq (tgt := 451) hx hb dL_texts_446 (by decide) (fun _ => ?_) (fun c9 => absurd (by decide) c9)
  refine lv_iinc (v := (7:Int32)) (lv' := [(1, .int (7:Int32)), (0, .ref q)]) hx hb dL_texts_451 hl (k := 0) rfl (by decide) (by decide) rfl (fun ls hl => ?_)
  refine lv_goto (tgt := 426) hx hb dL_texts_454 (by decide) ?_
  refine lv_iload_n hx hb dL_texts_426 rfl (lv_at hl 0 rfl) ?_
  refine lv_bipush (v := 10) hx hb dL_texts_427 (by decide) ?_
  refine lv_icmp_ge (tgt := 457) hx hb dL_texts_429 (by decide) (fun c9 => absurd c9 (by decide)) (fun _ => ?_)
  refine lv_aload_n hx hb dL_texts_432 rfl (lv_at hl 1 rfl) ?_
  refine lv_ldc2 (v := 3831495911396881723) hx hb hown (hts _ lkL_texts_138) dL_texts_433 ?_
  obtain ⟨Z89, e89, hB⟩ := b_m (fun Q => fX7_put Q (3831495911396881723:Int64)) (fun M => fX8_put M (3831495911396881723:Int64)) (fun Q M h => put_c Q M (3831495911396881723:Int64) h) hB (r := (64:Int32)) (z1 := zs_texts_35) (ck_e (by decide +kernel))
  refine t0_UI (As := [.long (3831495911396881723:Int64)]) (rest := []) (Z1 := Z89) hx hb hml hown hts hl.1 (kX7_put l D E (aZ0 q u88) H.size e89) (cwV 1 hts gL_texts_X7_put rfl rfl rfl (by decide +kernel) ⟨Nat.le_of_ble_eq_true rfl, Nat.le_of_ble_eq_true rfl⟩) hP hD hS hA hK rfl rfl (Nat.le_of_ble_eq_true rfl) dL_texts_436 ⟨Nat.le_of_ble_eq_true rfl, Nat.le_of_ble_eq_true rfl⟩ (fun u90 H locs hP hD hS => ?_)
  refine lv_bipush (v := 8) hx hb dL_texts_439 (by decide) ?_
  refine lv_iload_n hx hb dL_texts_441 rfl (lv_at hl 0 rfl) ?_
  refine lv_imul hx hb dL_texts_442 ?_
  refine lv_bipush (v := 8) hx hb dL_texts_443 (by decide) ?_
  refine lv_iadd hx hb dL_texts_445 ?_
  refine lv_icmp_eq (tgt := 451) hx hb dL_texts_446 (by decide) (fun _ => ?_) (fun c9 => absurd (by decide) c9)
  refine lv_iinc (v := (8:Int32)) (lv' := [(1, .int (8:Int32)), (0, .ref q)]) hx hb dL_texts_451 hl (k := 0) rfl (by decide) (by decide) rfl (fun ls hl => ?_)
  refine lv_goto (tgt := 426) hx hb dL_texts_454 (by decide) ?_
  refine lv_iload_n hx hb dL_texts_426 rfl (lv_at hl 0 rfl) ?_
  refine lv_bipush (v := 10) hx hb dL_texts_427 (by decide) ?_
  refine lv_icmp_ge (tgt := 457) hx hb dL_texts_429 (by decide) (fun c9 => absurd c9 (by decide)) (fun _ => ?_)
  refine lv_aload_n hx hb dL_texts_432 rfl (lv_at hl 1 rfl) ?_
  refine lv_ldc2 (v := 3831495911396881723) hx hb hown (hts _ lkL_texts_138) dL_texts_433 ?_
  obtain ⟨Z91, e91, hB⟩ := b_m (fun Q => fX7_put Q (3831495911396881723:Int64)) (fun M => fX8_put M (3831495911396881723:Int64)) (fun Q M h => put_c Q M (3831495911396881723:Int64) h) hB (r := (72:Int32)) (z1 := zs_texts_36) (ck_e (by decide +kernel))
  refine t0_UI (As := [.long (3831495911396881723:Int64)]) (rest := []) (Z1 := Z91) hx hb hml hown hts hl.1 (kX7_put l D E (aZ0 q u90) H.size e91) (cwV 1 hts gL_texts_X7_put rfl rfl rfl (by decide +kernel) ⟨Nat.le_of_ble_eq_true rfl, Nat.le_of_ble_eq_true rfl⟩) hP hD hS hA hK rfl rfl (Nat.le_of_ble_eq_true rfl) dL_texts_436 ⟨Nat.le_of_ble_eq_true rfl, Nat.le_of_ble_eq_true rfl⟩ (fun u92 H locs hP hD hS => ?_)
  refine lv_bipush (v := 8) hx hb dL_texts_439 (by decide) ?_
  refine lv_iload_n hx hb dL_texts_441 rfl (lv_at hl 0 rfl) ?_
  refine lv_imul hx hb dL_texts_442 ?_
  refine lv_bipush (v := 8) hx hb dL_texts_443 (by decide) ?_
  refine lv_iadd hx hb dL_texts_445 ?_
  refine lv_icmp_eq (tgt := 451) hx hb dL_texts_446 (by decide) (fun _ => ?_) (fun c9 => absurd (by decide) c9)
  exact tex_c8 C hK hA hZ u92 Z91 H locs ls hB hP hD hS hl

set_option maxRecDepth 100000 in
set_option maxHeartbeats 4000000 in
theorem tex_c6 {l : Launch} {t : Nat → Nat} {D : va_G} {E : Nat → ClassId} {p : Program} {e : Env} {s : State} {m : MethodId} {below : List Frame} {meth : Method} {c : Code} {A : Nat → Prop} {q : Nat} (C : Ctx p s m meth c [] wsL_texts cL_texts 2 (some .boolean) RL) (hK : va_K D vwCl (tyE E) s) (hA : ∀ q : Nat, s.heap.size ≤ q → A q) (hZ : zSX t A s) (u : Nat → Nat) (Z : Nat → FS) (H : Heap) (locs : List Loc) (ls : Array Slot) (hB : Bis Z zs_texts_28) (hP : va_P D vwCl (wQ E (aZ0 q u) Z) H) (hD : va_D A (wQ E (aZ0 q u) Z)) (hS : va_S A s.heap H locs) (hl : lv_has ls 2 [(1, .int (0:Int32)), (0, .ref q)]) : WI p l e (rmW 15 350 38 8927) s m [] below meth c D A 1 (fun _ : Unit => ([] : va_W)) 38 8927 H locs 38 8927 451 ls [] := by
  obtain ⟨hx, hb, hr, hml, hown, hlocks, hts⟩ := id C
  refine lv_iinc (v := (1:Int32)) (lv' := [(1, .int (1:Int32)), (0, .ref q)]) hx hb dL_texts_451 hl (k := 0) rfl (by decide) (by decide) rfl (fun ls hl => ?_)
  refine lv_goto (tgt := 426) hx hb dL_texts_454 (by decide) ?_
  refine lv_iload_n hx hb dL_texts_426 rfl (lv_at hl 0 rfl) ?_
  refine lv_bipush (v := 10) hx hb dL_texts_427 (by decide) ?_
  refine lv_icmp_ge (tgt := 457) hx hb dL_texts_429 (by decide) (fun c9 => absurd c9 (by decide)) (fun _ => ?_)
  refine lv_aload_n hx hb dL_texts_432 rfl (lv_at hl 1 rfl) ?_
  refine lv_ldc2 (v := 3831495911396881723) hx hb hown (hts _ lkL_texts_138) dL_texts_433 ?_
  obtain ⟨Z77, e77, hB⟩ := b_m (fun Q => fX7_put Q (3831495911396881723:Int64)) (fun M => fX8_put M (3831495911396881723:Int64)) (fun Q M h => put_c Q M (3831495911396881723:Int64) h) hB (r := (16:Int32)) (z1 := zs_texts_29) (ck_e (by decide +kernel))
  refine t0_UI (As := [.long (3831495911396881723:Int64)]) (rest := []) (Z1 := Z77) hx hb hml hown hts hl.1 (kX7_put l D E (aZ0 q u) H.size e77) (cwV 1 hts gL_texts_X7_put rfl rfl rfl (by decide +kernel) ⟨Nat.le_of_ble_eq_true rfl, Nat.le_of_ble_eq_true rfl⟩) hP hD hS hA hK rfl rfl (Nat.le_of_ble_eq_true rfl) dL_texts_436 ⟨Nat.le_of_ble_eq_true rfl, Nat.le_of_ble_eq_true rfl⟩ (fun u78 H locs hP hD hS => ?_)
  refine lv_bipush (v := 8) hx hb dL_texts_439 (by decide) ?_
  refine lv_iload_n hx hb dL_texts_441 rfl (lv_at hl 0 rfl) ?_
  refine lv_imul hx hb dL_texts_442 ?_
  refine lv_bipush (v := 8) hx hb dL_texts_443 (by decide) ?_
  refine lv_iadd hx hb dL_texts_445 ?_
  refine lv_icmp_eq (tgt := 451) hx hb dL_texts_446 (by decide) (fun _ => ?_) (fun c9 => absurd (by decide) c9)
  refine lv_iinc (v := (2:Int32)) (lv' := [(1, .int (2:Int32)), (0, .ref q)]) hx hb dL_texts_451 hl (k := 0) rfl (by decide) (by decide) rfl (fun ls hl => ?_)
  refine lv_goto (tgt := 426) hx hb dL_texts_454 (by decide) ?_
  refine lv_iload_n hx hb dL_texts_426 rfl (lv_at hl 0 rfl) ?_
  refine lv_bipush (v := 10) hx hb dL_texts_427 (by decide) ?_
  refine lv_icmp_ge (tgt := 457) hx hb dL_texts_429 (by decide) (fun c9 => absurd c9 (by decide)) (fun _ => ?_)
  refine lv_aload_n hx hb dL_texts_432 rfl (lv_at hl 1 rfl) ?_
  refine lv_ldc2 (v := 3831495911396881723) hx hb hown (hts _ lkL_texts_138) dL_texts_433 ?_
  obtain ⟨Z79, e79, hB⟩ := b_m (fun Q => fX7_put Q (3831495911396881723:Int64)) (fun M => fX8_put M (3831495911396881723:Int64)) (fun Q M h => put_c Q M (3831495911396881723:Int64) h) hB (r := (24:Int32)) (z1 := zs_texts_30) (ck_e (by decide +kernel))
  refine t0_UI (As := [.long (3831495911396881723:Int64)]) (rest := []) (Z1 := Z79) hx hb hml hown hts hl.1 (kX7_put l D E (aZ0 q u78) H.size e79) (cwV 1 hts gL_texts_X7_put rfl rfl rfl (by decide +kernel) ⟨Nat.le_of_ble_eq_true rfl, Nat.le_of_ble_eq_true rfl⟩) hP hD hS hA hK rfl rfl (Nat.le_of_ble_eq_true rfl) dL_texts_436 ⟨Nat.le_of_ble_eq_true rfl, Nat.le_of_ble_eq_true rfl⟩ (fun u80 H locs hP hD hS => ?_)
  refine lv_bipush (v := 8) hx hb dL_texts_439 (by decide) ?_
  refine lv_iload_n hx hb dL_texts_441 rfl (lv_at hl 0 rfl) ?_
  refine lv_imul hx hb dL_texts_442 ?_
  refine lv_bipush (v := 8) hx hb dL_texts_443 (by decide) ?_
  refine lv_iadd hx hb dL_texts_445 ?_
  refine lv_icmp_eq (tgt := 451) hx hb dL_texts_446 (by decide) (fun _ => ?_) (fun c9 => absurd (by decide) c9)
  refine lv_iinc (v := (3:Int32)) (lv' := [(1, .int (3:Int32)), (0, .ref q)]) hx hb dL_texts_451 hl (k := 0) rfl (by decide) (by decide) rfl (fun ls hl => ?_)
  refine lv_goto (tgt := 426) hx hb dL_texts_454 (by decide) ?_
  refine lv_iload_n hx hb dL_texts_426 rfl (lv_at hl 0 rfl) ?_
  refine lv_bipush (v := 10) hx hb dL_texts_427 (by decide) ?_
  refine lv_icmp_ge (tgt := 457) hx hb dL_texts_429 (by decide) (fun c9 => absurd c9 (by decide)) (fun _ => ?_)
  refine lv_aload_n hx hb dL_texts_432 rfl (lv_at hl 1 rfl) ?_
  refine lv_ldc2 (v := 3831495911396881723) hx hb hown (hts _ lkL_texts_138) dL_texts_433 ?_
  obtain ⟨Z81, e81, hB⟩ := b_m (fun Q => fX7_put Q (3831495911396881723:Int64)) (fun M => fX8_put M (3831495911396881723:Int64)) (fun Q M h => put_c Q M (3831495911396881723:Int64) h) hB (r := (32:Int32)) (z1 := zs_texts_31) (ck_e (by decide +kernel))
  refine t0_UI (As := [.long (3831495911396881723:Int64)]) (rest := []) (Z1 := Z81) hx hb hml hown hts hl.1 (kX7_put l D E (aZ0 q u80) H.size e81) (cwV 1 hts gL_texts_X7_put rfl rfl rfl (by decide +kernel) ⟨Nat.le_of_ble_eq_true rfl, Nat.le_of_ble_eq_true rfl⟩) hP hD hS hA hK rfl rfl (Nat.le_of_ble_eq_true rfl) dL_texts_436 ⟨Nat.le_of_ble_eq_true rfl, Nat.le_of_ble_eq_true rfl⟩ (fun u82 H locs hP hD hS => ?_)
  refine lv_bipush (v := 8) hx hb dL_texts_439 (by decide) ?_
  refine lv_iload_n hx hb dL_texts_441 rfl (lv_at hl 0 rfl) ?_
  refine lv_imul hx hb dL_texts_442 ?_
  refine lv_bipush (v := 8) hx hb dL_texts_443 (by decide) ?_
  refine lv_iadd hx hb dL_texts_445 ?_
  refine lv_icmp_eq (tgt := 451) hx hb dL_texts_446 (by decide) (fun _ => ?_) (fun c9 => absurd (by decide) c9)
  refine lv_iinc (v := (4:Int32)) (lv' := [(1, .int (4:Int32)), (0, .ref q)]) hx hb dL_texts_451 hl (k := 0) rfl (by decide) (by decide) rfl (fun ls hl => ?_)
  refine lv_goto (tgt := 426) hx hb dL_texts_454 (by decide) ?_
  refine lv_iload_n hx hb dL_texts_426 rfl (lv_at hl 0 rfl) ?_
  refine lv_bipush (v := 10) hx hb dL_texts_427 (by decide) ?_
  refine lv_icmp_ge (tgt := 457) hx hb dL_texts_429 (by decide) (fun c9 => absurd c9 (by decide)) (fun _ => ?_)
  refine lv_aload_n hx hb dL_texts_432 rfl (lv_at hl 1 rfl) ?_
  refine lv_ldc2 (v := 3831495911396881723) hx hb hown (hts _ lkL_texts_138) dL_texts_433 ?_
  obtain ⟨Z83, e83, hB⟩ := b_m (fun Q => fX7_put Q (3831495911396881723:Int64)) (fun M => fX8_put M (3831495911396881723:Int64)) (fun Q M h => put_c Q M (3831495911396881723:Int64) h) hB (r := (40:Int32)) (z1 := zs_texts_32) (ck_e (by decide +kernel))
  refine t0_UI (As := [.long (3831495911396881723:Int64)]) (rest := []) (Z1 := Z83) hx hb hml hown hts hl.1 (kX7_put l D E (aZ0 q u82) H.size e83) (cwV 1 hts gL_texts_X7_put rfl rfl rfl (by decide +kernel) ⟨Nat.le_of_ble_eq_true rfl, Nat.le_of_ble_eq_true rfl⟩) hP hD hS hA hK rfl rfl (Nat.le_of_ble_eq_true rfl) dL_texts_436 ⟨Nat.le_of_ble_eq_true rfl, Nat.le_of_ble_eq_true rfl⟩ (fun u84 H locs hP hD hS => ?_)
  refine lv_bipush (v := 8) hx hb dL_texts_439 (by decide) ?_
  refine lv_iload_n hx hb dL_texts_441 rfl (lv_at hl 0 rfl) ?_
  refine lv_imul hx hb dL_texts_442 ?_
  refine lv_bipush (v := 8) hx hb dL_texts_443 (by decide) ?_
  refine lv_iadd hx hb dL_texts_445 ?_
  refine lv_icmp_eq (tgt := 451) hx hb dL_texts_446 (by decide) (fun _ => ?_) (fun c9 => absurd (by decide) c9)
  exact tex_c7 C hK hA hZ u84 Z83 H locs ls hB hP hD hS hl

set_option maxRecDepth 100000 in
set_option maxHeartbeats 4000000 in
theorem tex_c5 {l : Launch} {t : Nat → Nat} {D : va_G} {E : Nat → ClassId} {p : Program} {e : Env} {s : State} {m : MethodId} {below : List Frame} {meth : Method} {c : Code} {A : Nat → Prop} {q : Nat} (C : Ctx p s m meth c [] wsL_texts cL_texts 2 (some .boolean) RL) (hK : va_K D vwCl (tyE E) s) (hA : ∀ q : Nat, s.heap.size ≤ q → A q) (hZ : zSX t A s) (u : Nat → Nat) (Z : Nat → FS) (H : Heap) (locs : List Loc) (ls : Array Slot) (hB : Bis Z zs_texts_26) (hP : va_P D vwCl (wQ E (aZ0 q u) Z) H) (hD : va_D A (wQ E (aZ0 q u) Z)) (hS : va_S A s.heap H locs) (hl : lv_has ls 2 [(0, .ref q)]) : WI p l e (rmW 15 350 38 8927) s m [] below meth c D A 1 (fun _ : Unit => ([] : va_W)) 38 8927 H locs 38 8927 368 ls [] := by
  obtain ⟨hx, hb, hr, hml, hown, hlocks, hts⟩ := id C
  refine lv_aload_n hx hb dL_texts_368 rfl (lv_at hl 0 rfl) ?_
  refine lv_iconst (v := 0) hx hb dL_texts_369 (by decide) ?_
  have e68 := b_n (fun Q => fX7_count Q (0:Int32)) (fun M => fX8_count M (0:Int32)) (fun Q M h => count_c Q M (0:Int32) h) hB (r := (3:Int32)) (by decide +kernel)
  refine q_V (As := [.int (0:Int32)]) (rest := []) (C := RX7) (T0 := TX7) (N0 := 4) (ci := 6) hx hb hml hown hts hl.1 (kX7_count l D E t (aZ0 q u) e68) zSt_mv (cwV 1 hts gL_texts_X7_count rfl rfl rfl (by decide +kernel) ⟨Nat.le_of_ble_eq_true rfl, Nat.le_of_ble_eq_true rfl⟩) 0 rfl rfl hP hK (zSX_now hZ hS) rfl rfl (Nat.le_of_ble_eq_true rfl) dL_texts_370 ⟨Nat.le_of_ble_eq_true rfl, Nat.le_of_ble_eq_true rfl⟩ ?_
  refine lv_iconst (v := 3) hx hb dL_texts_373 (by decide) ?_
  refine lv_icmp_ne (tgt := 422) hx hb dL_texts_374 (by decide) (fun c9 => absurd (by decide) c9) (fun _ => ?_)
  refine lv_aload_n hx hb dL_texts_377 rfl (lv_at hl 0 rfl) ?_
  refine lv_bipush (v := 9) hx hb dL_texts_378 (by decide) ?_
  have e69 := b_n (fun Q => fX7_count Q (9:Int32)) (fun M => fX8_count M (9:Int32)) (fun Q M h => count_c Q M (9:Int32) h) hB (r := (0:Int32)) (by decide +kernel)
  refine q_V (As := [.int (9:Int32)]) (rest := []) (C := RX7) (T0 := TX7) (N0 := 4) (ci := 6) hx hb hml hown hts hl.1 (kX7_count l D E t (aZ0 q u) e69) zSt_mv (cwV 1 hts gL_texts_X7_count rfl rfl rfl (by decide +kernel) ⟨Nat.le_of_ble_eq_true rfl, Nat.le_of_ble_eq_true rfl⟩) 0 rfl rfl hP hK (zSX_now hZ hS) rfl rfl (Nat.le_of_ble_eq_true rfl) dL_texts_380 ⟨Nat.le_of_ble_eq_true rfl, Nat.le_of_ble_eq_true rfl⟩ ?_
  refine lv_if_ne (tgt := 422) hx hb dL_texts_383 (by decide) (fun c9 => absurd (by decide) c9) (fun _ => ?_)
  refine lv_aload_n hx hb dL_texts_386 rfl (lv_at hl 0 rfl) ?_
  refine lv_bipush (v := 10) hx hb dL_texts_387 (by decide) ?_
  have e70 := b_n (fun Q => fX7_count Q (10:Int32)) (fun M => fX8_count M (10:Int32)) (fun Q M h => count_c Q M (10:Int32) h) hB (r := (1:Int32)) (by decide +kernel)
  refine q_V (As := [.int (10:Int32)]) (rest := []) (C := RX7) (T0 := TX7) (N0 := 4) (ci := 6) hx hb hml hown hts hl.1 (kX7_count l D E t (aZ0 q u) e70) zSt_mv (cwV 1 hts gL_texts_X7_count rfl rfl rfl (by decide +kernel) ⟨Nat.le_of_ble_eq_true rfl, Nat.le_of_ble_eq_true rfl⟩) 0 rfl rfl hP hK (zSX_now hZ hS) rfl rfl (Nat.le_of_ble_eq_true rfl) dL_texts_389 ⟨Nat.le_of_ble_eq_true rfl, Nat.le_of_ble_eq_true rfl⟩ ?_
  refine lv_iconst (v := 1) hx hb dL_texts_392 (by decide) ?_
  refine lv_icmp_ne (tgt := 422) hx hb dL_texts_393 (by decide) (fun c9 => absurd (by decide) c9) (fun _ => ?_)
  refine lv_aload_n hx hb dL_texts_396 rfl (lv_at hl 0 rfl) ?_
  refine lv_iconst (v := 2) hx hb dL_texts_397 (by decide) ?_
  refine lv_iconst (v := 0) hx hb dL_texts_398 (by decide) ?_
  have e71 := b_r (fun Q => fX7_of Q (2:Int32) (0:Int32)) (fun M => fX8_of M (2:Int32) (0:Int32)) (fun Q M h => of_c Q M (2:Int32) (0:Int32) h) hB (r := (9:Int32)) (by decide +kernel)
  refine q_V (As := [.int (2:Int32), .int (0:Int32)]) (rest := []) (C := RX7) (T0 := TX7) (N0 := 4) (ci := 6) hx hb hml hown hts hl.1 (kX7_of l D E (aZ0 q u) e71) zNo_mv (cwV 2 hts gL_texts_X7_of rfl rfl rfl (by decide +kernel) ⟨Nat.le_of_ble_eq_true rfl, Nat.le_of_ble_eq_true rfl⟩) 0 rfl rfl hP hK trivial rfl rfl (Nat.le_of_ble_eq_true rfl) dL_texts_399 ⟨Nat.le_of_ble_eq_true rfl, Nat.le_of_ble_eq_true rfl⟩ ?_
  refine lv_bipush (v := 9) hx hb dL_texts_402 (by decide) ?_
  refine lv_icmp_ne (tgt := 422) hx hb dL_texts_404 (by decide) (fun c9 => absurd (by decide) c9) (fun _ => ?_)
  refine lv_aload_n hx hb dL_texts_407 rfl (lv_at hl 0 rfl) ?_
  obtain ⟨Z72, e72, hB⟩ := b_m (fun Q => fX7_undo Q ) (fun M => fX8_undo M ) (fun Q M h => undo_c Q M h) hB (r := (0:Int32)) (z1 := zs_texts_27) (ck_e (by decide +kernel))
  refine t0_VI (As := []) (rest := []) (Z1 := Z72) hx hb hml hown hts hl.1 (kX7_undo l D E (aZ0 q u) H.size e72) (cwV 0 hts gL_texts_X7_undo rfl rfl rfl (by decide +kernel) ⟨Nat.le_of_ble_eq_true rfl, Nat.le_of_ble_eq_true rfl⟩) hP hD hS hA hK rfl rfl (Nat.le_of_ble_eq_true rfl) dL_texts_408 ⟨Nat.le_of_ble_eq_true rfl, Nat.le_of_ble_eq_true rfl⟩ (fun u73 H locs hP hD hS => ?_)
  refine lv_if_ne (tgt := 422) hx hb dL_texts_411 (by decide) (fun c9 => absurd (by decide) c9) (fun _ => ?_)
  refine lv_aload_n hx hb dL_texts_414 rfl (lv_at hl 0 rfl) ?_
  refine lv_iconst (v := 0) hx hb dL_texts_415 (by decide) ?_
  have e74 := b_n (fun Q => fX7_count Q (0:Int32)) (fun M => fX8_count M (0:Int32)) (fun Q M h => count_c Q M (0:Int32) h) hB (r := (0:Int32)) (by decide +kernel)
  refine q_V (As := [.int (0:Int32)]) (rest := []) (C := RX7) (T0 := TX7) (N0 := 4) (ci := 6) hx hb hml hown hts hl.1 (kX7_count l D E t (aZ0 q u73) e74) zSt_mv (cwV 1 hts gL_texts_X7_count rfl rfl rfl (by decide +kernel) ⟨Nat.le_of_ble_eq_true rfl, Nat.le_of_ble_eq_true rfl⟩) 0 rfl rfl hP hK (zSX_now hZ hS) rfl rfl (Nat.le_of_ble_eq_true rfl) dL_texts_416 ⟨Nat.le_of_ble_eq_true rfl, Nat.le_of_ble_eq_true rfl⟩ ?_
  refine lv_if_eq (tgt := 424) hx hb dL_texts_419 (by decide) (fun _ => ?_) (fun c9 => absurd (by decide) c9)
  refine lv_iconst (v := 0) hx hb dL_texts_424 (by decide) ?_
  refine lv_istore_n (lv' := [(1, .int (0:Int32)), (0, .ref q)]) hx hb dL_texts_425 rfl hl (by decide) rfl (fun ls hl => ?_)
  refine lv_iload_n hx hb dL_texts_426 rfl (lv_at hl 0 rfl) ?_
  refine lv_bipush (v := 10) hx hb dL_texts_427 (by decide) ?_
  refine lv_icmp_ge (tgt := 457) hx hb dL_texts_429 (by decide) (fun c9 => absurd c9 (by decide)) (fun _ => ?_)
  refine lv_aload_n hx hb dL_texts_432 rfl (lv_at hl 1 rfl) ?_
  refine lv_ldc2 (v := 3831495911396881723) hx hb hown (hts _ lkL_texts_138) dL_texts_433 ?_
  obtain ⟨Z75, e75, hB⟩ := b_m (fun Q => fX7_put Q (3831495911396881723:Int64)) (fun M => fX8_put M (3831495911396881723:Int64)) (fun Q M h => put_c Q M (3831495911396881723:Int64) h) hB (r := (8:Int32)) (z1 := zs_texts_28) (ck_e (by decide +kernel))
  refine t0_UI (As := [.long (3831495911396881723:Int64)]) (rest := []) (Z1 := Z75) hx hb hml hown hts hl.1 (kX7_put l D E (aZ0 q u73) H.size e75) (cwV 1 hts gL_texts_X7_put rfl rfl rfl (by decide +kernel) ⟨Nat.le_of_ble_eq_true rfl, Nat.le_of_ble_eq_true rfl⟩) hP hD hS hA hK rfl rfl (Nat.le_of_ble_eq_true rfl) dL_texts_436 ⟨Nat.le_of_ble_eq_true rfl, Nat.le_of_ble_eq_true rfl⟩ (fun u76 H locs hP hD hS => ?_)
  refine lv_bipush (v := 8) hx hb dL_texts_439 (by decide) ?_
  refine lv_iload_n hx hb dL_texts_441 rfl (lv_at hl 0 rfl) ?_
  refine lv_imul hx hb dL_texts_442 ?_
  refine lv_bipush (v := 8) hx hb dL_texts_443 (by decide) ?_
  refine lv_iadd hx hb dL_texts_445 ?_
  refine lv_icmp_eq (tgt := 451) hx hb dL_texts_446 (by decide) (fun _ => ?_) (fun c9 => absurd (by decide) c9)
  exact tex_c6 C hK hA hZ u76 Z75 H locs ls hB hP hD hS hl

set_option maxRecDepth 100000 in
set_option maxHeartbeats 4000000 in
theorem tex_c4 {l : Launch} {t : Nat → Nat} {D : va_G} {E : Nat → ClassId} {p : Program} {e : Env} {s : State} {m : MethodId} {below : List Frame} {meth : Method} {c : Code} {A : Nat → Prop} {q : Nat} (C : Ctx p s m meth c [] wsL_texts cL_texts 2 (some .boolean) RL) (hK : va_K D vwCl (tyE E) s) (hA : ∀ q : Nat, s.heap.size ≤ q → A q) (hZ : zSX t A s) (u : Nat → Nat) (Z : Nat → FS) (H : Heap) (locs : List Loc) (ls : Array Slot) (hB : Bis Z zs_texts_20) (hP : va_P D vwCl (wQ E (aZ0 q u) Z) H) (hD : va_D A (wQ E (aZ0 q u) Z)) (hS : va_S A s.heap H locs) (hl : lv_has ls 2 [(0, .ref q)]) : WI p l e (rmW 15 350 38 8927) s m [] below meth c D A 1 (fun _ : Unit => ([] : va_W)) 38 8927 H locs 38 8927 287 ls [] := by
  obtain ⟨hx, hb, hr, hml, hown, hlocks, hts⟩ := id C
  refine lv_aload_n hx hb dL_texts_287 rfl (lv_at hl 0 rfl) ?_
  refine lv_ldc2 (v := 206899788664) hx hb hown (hts _ lkL_texts_130) dL_texts_288 ?_
  obtain ⟨Z54, e54, hB⟩ := b_m (fun Q => fX7_put Q (206899788664:Int64)) (fun M => fX8_put M (206899788664:Int64)) (fun Q M h => put_c Q M (206899788664:Int64) h) hB (r := (5:Int32)) (z1 := zs_texts_21) (ck_e (by decide +kernel))
  refine t0_UI (As := [.long (206899788664:Int64)]) (rest := []) (Z1 := Z54) hx hb hml hown hts hl.1 (kX7_put l D E (aZ0 q u) H.size e54) (cwV 1 hts gL_texts_X7_put rfl rfl rfl (by decide +kernel) ⟨Nat.le_of_ble_eq_true rfl, Nat.le_of_ble_eq_true rfl⟩) hP hD hS hA hK rfl rfl (Nat.le_of_ble_eq_true rfl) dL_texts_291 ⟨Nat.le_of_ble_eq_true rfl, Nat.le_of_ble_eq_true rfl⟩ (fun u55 H locs hP hD hS => ?_)
  refine lv_if_lt (tgt := 313) hx hb dL_texts_294 (by decide) (fun c9 => absurd c9 (by decide)) (fun _ => ?_)
  refine lv_aload_n hx hb dL_texts_297 rfl (lv_at hl 0 rfl) ?_
  have e56 := b_n (fun Q => fX7_fault Q ) (fun M => fX8_fault M ) (fun Q M h => fault_c Q M h) hB (r := (4:Int32)) (by decide +kernel)
  refine q_V (As := []) (rest := []) (C := RX7) (T0 := TX7) (N0 := 4) (ci := 6) hx hb hml hown hts hl.1 (kX7_fault l D E (aZ0 q u55) e56) zNo_mv (cwV 0 hts gL_texts_X7_fault rfl rfl rfl (by decide +kernel) ⟨Nat.le_of_ble_eq_true rfl, Nat.le_of_ble_eq_true rfl⟩) 0 rfl rfl hP hK trivial rfl rfl (Nat.le_of_ble_eq_true rfl) dL_texts_298 ⟨Nat.le_of_ble_eq_true rfl, Nat.le_of_ble_eq_true rfl⟩ ?_
  refine lv_iconst (v := 4) hx hb dL_texts_301 (by decide) ?_
  refine lv_icmp_ne (tgt := 313) hx hb dL_texts_302 (by decide) (fun c9 => absurd (by decide) c9) (fun _ => ?_)
  refine lv_aload_n hx hb dL_texts_305 rfl (lv_at hl 0 rfl) ?_
  obtain ⟨Z57, e57, hB⟩ := b_m (fun Q => fX7_wipe Q ) (fun M => fX8_wipe M ) (fun Q M h => wipe_c Q M h) hB (r := (5:Int32)) (z1 := zs_texts_22) (ck_e (by decide +kernel))
  refine t0_UI (As := []) (rest := []) (Z1 := Z57) hx hb hml hown hts hl.1 (kX7_wipe l D E (aZ0 q u55) H.size e57) (cwV 0 hts gL_texts_X7_wipe rfl rfl rfl (by decide +kernel) ⟨Nat.le_of_ble_eq_true rfl, Nat.le_of_ble_eq_true rfl⟩) hP hD hS hA hK rfl rfl (Nat.le_of_ble_eq_true rfl) dL_texts_306 ⟨Nat.le_of_ble_eq_true rfl, Nat.le_of_ble_eq_true rfl⟩ (fun u58 H locs hP hD hS => ?_)
  refine lv_iconst (v := 5) hx hb dL_texts_309 (by decide) ?_
  refine lv_icmp_eq (tgt := 315) hx hb dL_texts_310 (by decide) (fun _ => ?_) (fun c9 => absurd (by decide) c9)
  refine lv_aload_n hx hb dL_texts_315 rfl (lv_at hl 0 rfl) ?_
  refine lv_ldc2 (v := 3543262236676731963) hx hb hown (hts _ lkL_texts_132) dL_texts_316 ?_
  obtain ⟨Z59, e59, hB⟩ := b_m (fun Q => fX7_put Q (3543262236676731963:Int64)) (fun M => fX8_put M (3543262236676731963:Int64)) (fun Q M h => put_c Q M (3543262236676731963:Int64) h) hB (r := (8:Int32)) (z1 := zs_texts_23) (ck_e (by decide +kernel))
  refine t0_UI (As := [.long (3543262236676731963:Int64)]) (rest := []) (Z1 := Z59) hx hb hml hown hts hl.1 (kX7_put l D E (aZ0 q u58) H.size e59) (cwV 1 hts gL_texts_X7_put rfl rfl rfl (by decide +kernel) ⟨Nat.le_of_ble_eq_true rfl, Nat.le_of_ble_eq_true rfl⟩) hP hD hS hA hK rfl rfl (Nat.le_of_ble_eq_true rfl) dL_texts_319 ⟨Nat.le_of_ble_eq_true rfl, Nat.le_of_ble_eq_true rfl⟩ (fun u60 H locs hP hD hS => ?_)
  refine lv_bipush (v := 8) hx hb dL_texts_322 (by decide) ?_
  refine lv_icmp_ne (tgt := 422) hx hb dL_texts_324 (by decide) (fun c9 => absurd (by decide) c9) (fun _ => ?_)
  refine lv_aload_n hx hb dL_texts_327 rfl (lv_at hl 0 rfl) ?_
  refine lv_ldc2 (v := 16092697990474804) hx hb hown (hts _ lkL_texts_134) dL_texts_328 ?_
  obtain ⟨Z61, e61, hB⟩ := b_m (fun Q => fX7_put Q (16092697990474804:Int64)) (fun M => fX8_put M (16092697990474804:Int64)) (fun Q M h => put_c Q M (16092697990474804:Int64) h) hB (r := (15:Int32)) (z1 := zs_texts_24) (ck_e (by decide +kernel))
  refine t0_UI (As := [.long (16092697990474804:Int64)]) (rest := []) (Z1 := Z61) hx hb hml hown hts hl.1 (kX7_put l D E (aZ0 q u60) H.size e61) (cwV 1 hts gL_texts_X7_put rfl rfl rfl (by decide +kernel) ⟨Nat.le_of_ble_eq_true rfl, Nat.le_of_ble_eq_true rfl⟩) hP hD hS hA hK rfl rfl (Nat.le_of_ble_eq_true rfl) dL_texts_331 ⟨Nat.le_of_ble_eq_true rfl, Nat.le_of_ble_eq_true rfl⟩ (fun u62 H locs hP hD hS => ?_)
  refine lv_bipush (v := 15) hx hb dL_texts_334 (by decide) ?_
  refine lv_icmp_ne (tgt := 422) hx hb dL_texts_336 (by decide) (fun c9 => absurd (by decide) c9) (fun _ => ?_)
  refine lv_aload_n hx hb dL_texts_339 rfl (lv_at hl 0 rfl) ?_
  refine lv_ldc2 (v := 993537080) hx hb hown (hts _ lkL_texts_136) dL_texts_340 ?_
  obtain ⟨Z63, e63, hB⟩ := b_m (fun Q => fX7_put Q (993537080:Int64)) (fun M => fX8_put M (993537080:Int64)) (fun Q M h => put_c Q M (993537080:Int64) h) hB (r := (19:Int32)) (z1 := zs_texts_25) (ck_e (by decide +kernel))
  refine t0_UI (As := [.long (993537080:Int64)]) (rest := []) (Z1 := Z63) hx hb hml hown hts hl.1 (kX7_put l D E (aZ0 q u62) H.size e63) (cwV 1 hts gL_texts_X7_put rfl rfl rfl (by decide +kernel) ⟨Nat.le_of_ble_eq_true rfl, Nat.le_of_ble_eq_true rfl⟩) hP hD hS hA hK rfl rfl (Nat.le_of_ble_eq_true rfl) dL_texts_343 ⟨Nat.le_of_ble_eq_true rfl, Nat.le_of_ble_eq_true rfl⟩ (fun u64 H locs hP hD hS => ?_)
  refine lv_bipush (v := 19) hx hb dL_texts_346 (by decide) ?_
  refine lv_icmp_ne (tgt := 422) hx hb dL_texts_348 (by decide) (fun c9 => absurd (by decide) c9) (fun _ => ?_)
  refine lv_aload_n hx hb dL_texts_351 rfl (lv_at hl 0 rfl) ?_
  have e65 := b_n (fun Q => fX7_fault Q ) (fun M => fX8_fault M ) (fun Q M h => fault_c Q M h) hB (r := (-6:Int32)) (by decide +kernel)
  refine q_V (As := []) (rest := []) (C := RX7) (T0 := TX7) (N0 := 4) (ci := 6) hx hb hml hown hts hl.1 (kX7_fault l D E (aZ0 q u64) e65) zNo_mv (cwV 0 hts gL_texts_X7_fault rfl rfl rfl (by decide +kernel) ⟨Nat.le_of_ble_eq_true rfl, Nat.le_of_ble_eq_true rfl⟩) 0 rfl rfl hP hK trivial rfl rfl (Nat.le_of_ble_eq_true rfl) dL_texts_352 ⟨Nat.le_of_ble_eq_true rfl, Nat.le_of_ble_eq_true rfl⟩ ?_
  refine lv_bipush (v := -6) hx hb dL_texts_355 (by decide) ?_
  refine lv_icmp_ne (tgt := 422) hx hb dL_texts_357 (by decide) (fun c9 => absurd (by decide) c9) (fun _ => ?_)
  refine lv_aload_n hx hb dL_texts_360 rfl (lv_at hl 0 rfl) ?_
  obtain ⟨Z66, e66, hB⟩ := b_m (fun Q => fX7_putAll Q ) (fun M => fX8_putAll M ) (fun Q M h => putAll_c Q M h) hB (r := (3:Int32)) (z1 := zs_texts_26) (ck_e (by decide +kernel))
  refine t0_VI (As := []) (rest := []) (Z1 := Z66) hx hb hml hown hts hl.1 (kX7_putAll l D E (aZ0 q u64) H.size e66) (cwV 0 hts gL_texts_X7_putAll rfl rfl rfl (by decide +kernel) ⟨Nat.le_of_ble_eq_true rfl, Nat.le_of_ble_eq_true rfl⟩) hP hD hS hA hK rfl rfl (Nat.le_of_ble_eq_true rfl) dL_texts_361 ⟨Nat.le_of_ble_eq_true rfl, Nat.le_of_ble_eq_true rfl⟩ (fun u67 H locs hP hD hS => ?_)
  refine lv_iconst (v := 3) hx hb dL_texts_364 (by decide) ?_
  refine lv_icmp_ne (tgt := 422) hx hb dL_texts_365 (by decide) (fun c9 => absurd (by decide) c9) (fun _ => ?_)
  exact tex_c5 C hK hA hZ u67 Z66 H locs ls hB hP hD hS hl

set_option maxRecDepth 100000 in
set_option maxHeartbeats 4000000 in
theorem tex_c3 {l : Launch} {t : Nat → Nat} {D : va_G} {E : Nat → ClassId} {p : Program} {e : Env} {s : State} {m : MethodId} {below : List Frame} {meth : Method} {c : Code} {A : Nat → Prop} {q : Nat} (C : Ctx p s m meth c [] wsL_texts cL_texts 2 (some .boolean) RL) (hK : va_K D vwCl (tyE E) s) (hA : ∀ q : Nat, s.heap.size ≤ q → A q) (hZ : zSX t A s) (u : Nat → Nat) (Z : Nat → FS) (H : Heap) (locs : List Loc) (ls : Array Slot) (hB : Bis Z zs_texts_15) (hP : va_P D vwCl (wQ E (aZ0 q u) Z) H) (hD : va_D A (wQ E (aZ0 q u) Z)) (hS : va_S A s.heap H locs) (hl : lv_has ls 2 [(0, .ref q)]) : WI p l e (rmW 15 350 38 8927) s m [] below meth c D A 1 (fun _ : Unit => ([] : va_W)) 38 8927 H locs 38 8927 218 ls [] := by
  obtain ⟨hx, hb, hr, hml, hown, hlocks, hts⟩ := id C
  refine lv_aload_n hx hb dL_texts_218 rfl (lv_at hl 0 rfl) ?_
  have e41 := b_n (fun Q => fX7_fault Q ) (fun M => fX8_fault M ) (fun Q M h => fault_c Q M h) hB (r := (3:Int32)) (by decide +kernel)
  refine q_V (As := []) (rest := []) (C := RX7) (T0 := TX7) (N0 := 4) (ci := 6) hx hb hml hown hts hl.1 (kX7_fault l D E (aZ0 q u) e41) zNo_mv (cwV 0 hts gL_texts_X7_fault rfl rfl rfl (by decide +kernel) ⟨Nat.le_of_ble_eq_true rfl, Nat.le_of_ble_eq_true rfl⟩) 0 rfl rfl hP hK trivial rfl rfl (Nat.le_of_ble_eq_true rfl) dL_texts_219 ⟨Nat.le_of_ble_eq_true rfl, Nat.le_of_ble_eq_true rfl⟩ ?_
  refine lv_iconst (v := 3) hx hb dL_texts_222 (by decide) ?_
  refine lv_icmp_ne (tgt := 313) hx hb dL_texts_223 (by decide) (fun c9 => absurd (by decide) c9) (fun _ => ?_)
  refine lv_aload_n hx hb dL_texts_226 rfl (lv_at hl 0 rfl) ?_
  obtain ⟨Z42, e42, hB⟩ := b_m (fun Q => fX7_wipe Q ) (fun M => fX8_wipe M ) (fun Q M h => wipe_c Q M h) hB (r := (5:Int32)) (z1 := zs_texts_16) (ck_e (by decide +kernel))
  refine t0_UI (As := []) (rest := []) (Z1 := Z42) hx hb hml hown hts hl.1 (kX7_wipe l D E (aZ0 q u) H.size e42) (cwV 0 hts gL_texts_X7_wipe rfl rfl rfl (by decide +kernel) ⟨Nat.le_of_ble_eq_true rfl, Nat.le_of_ble_eq_true rfl⟩) hP hD hS hA hK rfl rfl (Nat.le_of_ble_eq_true rfl) dL_texts_227 ⟨Nat.le_of_ble_eq_true rfl, Nat.le_of_ble_eq_true rfl⟩ (fun u43 H locs hP hD hS => ?_)
  refine lv_iconst (v := 5) hx hb dL_texts_230 (by decide) ?_
  refine lv_icmp_ne (tgt := 313) hx hb dL_texts_231 (by decide) (fun c9 => absurd (by decide) c9) (fun _ => ?_)
  refine lv_aload_n hx hb dL_texts_234 rfl (lv_at hl 0 rfl) ?_
  refine lv_ldc2 (v := 925644385) hx hb hown (hts _ lkL_texts_126) dL_texts_235 ?_
  obtain ⟨Z44, e44, hB⟩ := b_m (fun Q => fX7_put Q (925644385:Int64)) (fun M => fX8_put M (925644385:Int64)) (fun Q M h => put_c Q M (925644385:Int64) h) hB (r := (4:Int32)) (z1 := zs_texts_17) (ck_e (by decide +kernel))
  refine t0_UI (As := [.long (925644385:Int64)]) (rest := []) (Z1 := Z44) hx hb hml hown hts hl.1 (kX7_put l D E (aZ0 q u43) H.size e44) (cwV 1 hts gL_texts_X7_put rfl rfl rfl (by decide +kernel) ⟨Nat.le_of_ble_eq_true rfl, Nat.le_of_ble_eq_true rfl⟩) hP hD hS hA hK rfl rfl (Nat.le_of_ble_eq_true rfl) dL_texts_238 ⟨Nat.le_of_ble_eq_true rfl, Nat.le_of_ble_eq_true rfl⟩ (fun u45 H locs hP hD hS => ?_)
  refine lv_if_lt (tgt := 313) hx hb dL_texts_241 (by decide) (fun c9 => absurd c9 (by decide)) (fun _ => ?_)
  refine lv_aload_n hx hb dL_texts_244 rfl (lv_at hl 0 rfl) ?_
  have e46 := b_n (fun Q => fX7_fault Q ) (fun M => fX8_fault M ) (fun Q M h => fault_c Q M h) hB (r := (3:Int32)) (by decide +kernel)
  refine q_V (As := []) (rest := []) (C := RX7) (T0 := TX7) (N0 := 4) (ci := 6) hx hb hml hown hts hl.1 (kX7_fault l D E (aZ0 q u45) e46) zNo_mv (cwV 0 hts gL_texts_X7_fault rfl rfl rfl (by decide +kernel) ⟨Nat.le_of_ble_eq_true rfl, Nat.le_of_ble_eq_true rfl⟩) 0 rfl rfl hP hK trivial rfl rfl (Nat.le_of_ble_eq_true rfl) dL_texts_245 ⟨Nat.le_of_ble_eq_true rfl, Nat.le_of_ble_eq_true rfl⟩ ?_
  refine lv_iconst (v := 3) hx hb dL_texts_248 (by decide) ?_
  refine lv_icmp_ne (tgt := 313) hx hb dL_texts_249 (by decide) (fun c9 => absurd (by decide) c9) (fun _ => ?_)
  refine lv_aload_n hx hb dL_texts_252 rfl (lv_at hl 0 rfl) ?_
  obtain ⟨Z47, e47, hB⟩ := b_m (fun Q => fX7_wipe Q ) (fun M => fX8_wipe M ) (fun Q M h => wipe_c Q M h) hB (r := (4:Int32)) (z1 := zs_texts_18) (ck_e (by decide +kernel))
  refine t0_UI (As := []) (rest := []) (Z1 := Z47) hx hb hml hown hts hl.1 (kX7_wipe l D E (aZ0 q u45) H.size e47) (cwV 0 hts gL_texts_X7_wipe rfl rfl rfl (by decide +kernel) ⟨Nat.le_of_ble_eq_true rfl, Nat.le_of_ble_eq_true rfl⟩) hP hD hS hA hK rfl rfl (Nat.le_of_ble_eq_true rfl) dL_texts_253 ⟨Nat.le_of_ble_eq_true rfl, Nat.le_of_ble_eq_true rfl⟩ (fun u48 H locs hP hD hS => ?_)
  refine lv_iconst (v := 4) hx hb dL_texts_256 (by decide) ?_
  refine lv_icmp_ne (tgt := 313) hx hb dL_texts_257 (by decide) (fun c9 => absurd (by decide) c9) (fun _ => ?_)
  refine lv_aload_n hx hb dL_texts_260 rfl (lv_at hl 0 rfl) ?_
  refine lv_ldc2 (v := 54082969612336) hx hb hown (hts _ lkL_texts_128) dL_texts_261 ?_
  obtain ⟨Z49, e49, hB⟩ := b_m (fun Q => fX7_put Q (54082969612336:Int64)) (fun M => fX8_put M (54082969612336:Int64)) (fun Q M h => put_c Q M (54082969612336:Int64) h) hB (r := (6:Int32)) (z1 := zs_texts_19) (ck_e (by decide +kernel))
  refine t0_UI (As := [.long (54082969612336:Int64)]) (rest := []) (Z1 := Z49) hx hb hml hown hts hl.1 (kX7_put l D E (aZ0 q u48) H.size e49) (cwV 1 hts gL_texts_X7_put rfl rfl rfl (by decide +kernel) ⟨Nat.le_of_ble_eq_true rfl, Nat.le_of_ble_eq_true rfl⟩) hP hD hS hA hK rfl rfl (Nat.le_of_ble_eq_true rfl) dL_texts_264 ⟨Nat.le_of_ble_eq_true rfl, Nat.le_of_ble_eq_true rfl⟩ (fun u50 H locs hP hD hS => ?_)
  refine lv_if_lt (tgt := 313) hx hb dL_texts_267 (by decide) (fun c9 => absurd c9 (by decide)) (fun _ => ?_)
  refine lv_aload_n hx hb dL_texts_270 rfl (lv_at hl 0 rfl) ?_
  have e51 := b_n (fun Q => fX7_fault Q ) (fun M => fX8_fault M ) (fun Q M h => fault_c Q M h) hB (r := (5:Int32)) (by decide +kernel)
  refine q_V (As := []) (rest := []) (C := RX7) (T0 := TX7) (N0 := 4) (ci := 6) hx hb hml hown hts hl.1 (kX7_fault l D E (aZ0 q u50) e51) zNo_mv (cwV 0 hts gL_texts_X7_fault rfl rfl rfl (by decide +kernel) ⟨Nat.le_of_ble_eq_true rfl, Nat.le_of_ble_eq_true rfl⟩) 0 rfl rfl hP hK trivial rfl rfl (Nat.le_of_ble_eq_true rfl) dL_texts_271 ⟨Nat.le_of_ble_eq_true rfl, Nat.le_of_ble_eq_true rfl⟩ ?_
  refine lv_iconst (v := 5) hx hb dL_texts_274 (by decide) ?_
  refine lv_icmp_ne (tgt := 313) hx hb dL_texts_275 (by decide) (fun c9 => absurd (by decide) c9) (fun _ => ?_)
  refine lv_aload_n hx hb dL_texts_278 rfl (lv_at hl 0 rfl) ?_
  obtain ⟨Z52, e52, hB⟩ := b_m (fun Q => fX7_wipe Q ) (fun M => fX8_wipe M ) (fun Q M h => wipe_c Q M h) hB (r := (6:Int32)) (z1 := zs_texts_20) (ck_e (by decide +kernel))
  refine t0_UI (As := []) (rest := []) (Z1 := Z52) hx hb hml hown hts hl.1 (kX7_wipe l D E (aZ0 q u50) H.size e52) (cwV 0 hts gL_texts_X7_wipe rfl rfl rfl (by decide +kernel) ⟨Nat.le_of_ble_eq_true rfl, Nat.le_of_ble_eq_true rfl⟩) hP hD hS hA hK rfl rfl (Nat.le_of_ble_eq_true rfl) dL_texts_279 ⟨Nat.le_of_ble_eq_true rfl, Nat.le_of_ble_eq_true rfl⟩ (fun u53 H locs hP hD hS => ?_)
  refine lv_bipush (v := 6) hx hb dL_texts_282 (by decide) ?_
  refine lv_icmp_ne (tgt := 313) hx hb dL_texts_284 (by decide) (fun c9 => absurd (by decide) c9) (fun _ => ?_)
  exact tex_c4 C hK hA hZ u53 Z52 H locs ls hB hP hD hS hl

set_option maxRecDepth 100000 in
set_option maxHeartbeats 4000000 in
theorem tex_c2 {l : Launch} {t : Nat → Nat} {D : va_G} {E : Nat → ClassId} {p : Program} {e : Env} {s : State} {m : MethodId} {below : List Frame} {meth : Method} {c : Code} {A : Nat → Prop} {q : Nat} (C : Ctx p s m meth c [] wsL_texts cL_texts 2 (some .boolean) RL) (hK : va_K D vwCl (tyE E) s) (hA : ∀ q : Nat, s.heap.size ≤ q → A q) (hZ : zSX t A s) (u : Nat → Nat) (Z : Nat → FS) (H : Heap) (locs : List Loc) (ls : Array Slot) (hB : Bis Z zs_texts_9) (hP : va_P D vwCl (wQ E (aZ0 q u) Z) H) (hD : va_D A (wQ E (aZ0 q u) Z)) (hS : va_S A s.heap H locs) (hl : lv_has ls 2 [(0, .ref q)]) : WI p l e (rmW 15 350 38 8927) s m [] below meth c D A 1 (fun _ : Unit => ([] : va_W)) 38 8927 H locs 38 8927 145 ls [] := by
  obtain ⟨hx, hb, hr, hml, hown, hlocks, hts⟩ := id C
  refine lv_aload_n hx hb dL_texts_145 rfl (lv_at hl 0 rfl) ?_
  obtain ⟨Z27, e27, hB⟩ := b_m (fun Q => fX7_wipe Q ) (fun M => fX8_wipe M ) (fun Q M h => wipe_c Q M h) hB (r := (1:Int32)) (z1 := zs_texts_10) (ck_e (by decide +kernel))
  refine t0_UI (As := []) (rest := []) (Z1 := Z27) hx hb hml hown hts hl.1 (kX7_wipe l D E (aZ0 q u) H.size e27) (cwV 0 hts gL_texts_X7_wipe rfl rfl rfl (by decide +kernel) ⟨Nat.le_of_ble_eq_true rfl, Nat.le_of_ble_eq_true rfl⟩) hP hD hS hA hK rfl rfl (Nat.le_of_ble_eq_true rfl) dL_texts_146 ⟨Nat.le_of_ble_eq_true rfl, Nat.le_of_ble_eq_true rfl⟩ (fun u28 H locs hP hD hS => ?_)
  refine lv_iconst (v := 1) hx hb dL_texts_149 (by decide) ?_
  refine lv_icmp_ne (tgt := 313) hx hb dL_texts_150 (by decide) (fun c9 => absurd (by decide) c9) (fun _ => ?_)
  refine lv_aload_n hx hb dL_texts_153 rfl (lv_at hl 0 rfl) ?_
  refine lv_ldc2 (v := 232786769459) hx hb hown (hts _ lkL_texts_120) dL_texts_154 ?_
  obtain ⟨Z29, e29, hB⟩ := b_m (fun Q => fX7_put Q (232786769459:Int64)) (fun M => fX8_put M (232786769459:Int64)) (fun Q M h => put_c Q M (232786769459:Int64) h) hB (r := (5:Int32)) (z1 := zs_texts_11) (ck_e (by decide +kernel))
  refine t0_UI (As := [.long (232786769459:Int64)]) (rest := []) (Z1 := Z29) hx hb hml hown hts hl.1 (kX7_put l D E (aZ0 q u28) H.size e29) (cwV 1 hts gL_texts_X7_put rfl rfl rfl (by decide +kernel) ⟨Nat.le_of_ble_eq_true rfl, Nat.le_of_ble_eq_true rfl⟩) hP hD hS hA hK rfl rfl (Nat.le_of_ble_eq_true rfl) dL_texts_157 ⟨Nat.le_of_ble_eq_true rfl, Nat.le_of_ble_eq_true rfl⟩ (fun u30 H locs hP hD hS => ?_)
  refine lv_if_lt (tgt := 313) hx hb dL_texts_160 (by decide) (fun c9 => absurd c9 (by decide)) (fun _ => ?_)
  refine lv_aload_n hx hb dL_texts_163 rfl (lv_at hl 0 rfl) ?_
  have e31 := b_n (fun Q => fX7_fault Q ) (fun M => fX8_fault M ) (fun Q M h => fault_c Q M h) hB (r := (-6:Int32)) (by decide +kernel)
  refine q_V (As := []) (rest := []) (C := RX7) (T0 := TX7) (N0 := 4) (ci := 6) hx hb hml hown hts hl.1 (kX7_fault l D E (aZ0 q u30) e31) zNo_mv (cwV 0 hts gL_texts_X7_fault rfl rfl rfl (by decide +kernel) ⟨Nat.le_of_ble_eq_true rfl, Nat.le_of_ble_eq_true rfl⟩) 0 rfl rfl hP hK trivial rfl rfl (Nat.le_of_ble_eq_true rfl) dL_texts_164 ⟨Nat.le_of_ble_eq_true rfl, Nat.le_of_ble_eq_true rfl⟩ ?_
  refine lv_bipush (v := -6) hx hb dL_texts_167 (by decide) ?_
  refine lv_icmp_ne (tgt := 313) hx hb dL_texts_169 (by decide) (fun c9 => absurd (by decide) c9) (fun _ => ?_)
  refine lv_aload_n hx hb dL_texts_172 rfl (lv_at hl 0 rfl) ?_
  obtain ⟨Z32, e32, hB⟩ := b_m (fun Q => fX7_wipe Q ) (fun M => fX8_wipe M ) (fun Q M h => wipe_c Q M h) hB (r := (5:Int32)) (z1 := zs_texts_12) (ck_e (by decide +kernel))
  refine t0_UI (As := []) (rest := []) (Z1 := Z32) hx hb hml hown hts hl.1 (kX7_wipe l D E (aZ0 q u30) H.size e32) (cwV 0 hts gL_texts_X7_wipe rfl rfl rfl (by decide +kernel) ⟨Nat.le_of_ble_eq_true rfl, Nat.le_of_ble_eq_true rfl⟩) hP hD hS hA hK rfl rfl (Nat.le_of_ble_eq_true rfl) dL_texts_173 ⟨Nat.le_of_ble_eq_true rfl, Nat.le_of_ble_eq_true rfl⟩ (fun u33 H locs hP hD hS => ?_)
  refine lv_iconst (v := 5) hx hb dL_texts_176 (by decide) ?_
  refine lv_icmp_ne (tgt := 313) hx hb dL_texts_177 (by decide) (fun c9 => absurd (by decide) c9) (fun _ => ?_)
  refine lv_aload_n hx hb dL_texts_180 rfl (lv_at hl 0 rfl) ?_
  refine lv_ldc2 (v := 13840868112018484) hx hb hown (hts _ lkL_texts_122) dL_texts_181 ?_
  obtain ⟨Z34, e34, hB⟩ := b_m (fun Q => fX7_put Q (13840868112018484:Int64)) (fun M => fX8_put M (13840868112018484:Int64)) (fun Q M h => put_c Q M (13840868112018484:Int64) h) hB (r := (7:Int32)) (z1 := zs_texts_13) (ck_e (by decide +kernel))
  refine t0_UI (As := [.long (13840868112018484:Int64)]) (rest := []) (Z1 := Z34) hx hb hml hown hts hl.1 (kX7_put l D E (aZ0 q u33) H.size e34) (cwV 1 hts gL_texts_X7_put rfl rfl rfl (by decide +kernel) ⟨Nat.le_of_ble_eq_true rfl, Nat.le_of_ble_eq_true rfl⟩) hP hD hS hA hK rfl rfl (Nat.le_of_ble_eq_true rfl) dL_texts_184 ⟨Nat.le_of_ble_eq_true rfl, Nat.le_of_ble_eq_true rfl⟩ (fun u35 H locs hP hD hS => ?_)
  refine lv_if_lt (tgt := 313) hx hb dL_texts_187 (by decide) (fun c9 => absurd c9 (by decide)) (fun _ => ?_)
  refine lv_aload_n hx hb dL_texts_190 rfl (lv_at hl 0 rfl) ?_
  have e36 := b_n (fun Q => fX7_fault Q ) (fun M => fX8_fault M ) (fun Q M h => fault_c Q M h) hB (r := (-6:Int32)) (by decide +kernel)
  refine q_V (As := []) (rest := []) (C := RX7) (T0 := TX7) (N0 := 4) (ci := 6) hx hb hml hown hts hl.1 (kX7_fault l D E (aZ0 q u35) e36) zNo_mv (cwV 0 hts gL_texts_X7_fault rfl rfl rfl (by decide +kernel) ⟨Nat.le_of_ble_eq_true rfl, Nat.le_of_ble_eq_true rfl⟩) 0 rfl rfl hP hK trivial rfl rfl (Nat.le_of_ble_eq_true rfl) dL_texts_191 ⟨Nat.le_of_ble_eq_true rfl, Nat.le_of_ble_eq_true rfl⟩ ?_
  refine lv_bipush (v := -6) hx hb dL_texts_194 (by decide) ?_
  refine lv_icmp_ne (tgt := 313) hx hb dL_texts_196 (by decide) (fun c9 => absurd (by decide) c9) (fun _ => ?_)
  refine lv_aload_n hx hb dL_texts_199 rfl (lv_at hl 0 rfl) ?_
  obtain ⟨Z37, e37, hB⟩ := b_m (fun Q => fX7_wipe Q ) (fun M => fX8_wipe M ) (fun Q M h => wipe_c Q M h) hB (r := (7:Int32)) (z1 := zs_texts_14) (ck_e (by decide +kernel))
  refine t0_UI (As := []) (rest := []) (Z1 := Z37) hx hb hml hown hts hl.1 (kX7_wipe l D E (aZ0 q u35) H.size e37) (cwV 0 hts gL_texts_X7_wipe rfl rfl rfl (by decide +kernel) ⟨Nat.le_of_ble_eq_true rfl, Nat.le_of_ble_eq_true rfl⟩) hP hD hS hA hK rfl rfl (Nat.le_of_ble_eq_true rfl) dL_texts_200 ⟨Nat.le_of_ble_eq_true rfl, Nat.le_of_ble_eq_true rfl⟩ (fun u38 H locs hP hD hS => ?_)
  refine lv_bipush (v := 7) hx hb dL_texts_203 (by decide) ?_
  refine lv_icmp_ne (tgt := 313) hx hb dL_texts_205 (by decide) (fun c9 => absurd (by decide) c9) (fun _ => ?_)
  refine lv_aload_n hx hb dL_texts_208 rfl (lv_at hl 0 rfl) ?_
  refine lv_ldc2 (v := 211194883123) hx hb hown (hts _ lkL_texts_124) dL_texts_209 ?_
  obtain ⟨Z39, e39, hB⟩ := b_m (fun Q => fX7_put Q (211194883123:Int64)) (fun M => fX8_put M (211194883123:Int64)) (fun Q M h => put_c Q M (211194883123:Int64) h) hB (r := (5:Int32)) (z1 := zs_texts_15) (ck_e (by decide +kernel))
  refine t0_UI (As := [.long (211194883123:Int64)]) (rest := []) (Z1 := Z39) hx hb hml hown hts hl.1 (kX7_put l D E (aZ0 q u38) H.size e39) (cwV 1 hts gL_texts_X7_put rfl rfl rfl (by decide +kernel) ⟨Nat.le_of_ble_eq_true rfl, Nat.le_of_ble_eq_true rfl⟩) hP hD hS hA hK rfl rfl (Nat.le_of_ble_eq_true rfl) dL_texts_212 ⟨Nat.le_of_ble_eq_true rfl, Nat.le_of_ble_eq_true rfl⟩ (fun u40 H locs hP hD hS => ?_)
  refine lv_if_lt (tgt := 313) hx hb dL_texts_215 (by decide) (fun c9 => absurd c9 (by decide)) (fun _ => ?_)
  exact tex_c3 C hK hA hZ u40 Z39 H locs ls hB hP hD hS hl

set_option maxRecDepth 100000 in
set_option maxHeartbeats 4000000 in
theorem tex_c1 {l : Launch} {t : Nat → Nat} {D : va_G} {E : Nat → ClassId} {p : Program} {e : Env} {s : State} {m : MethodId} {below : List Frame} {meth : Method} {c : Code} {A : Nat → Prop} {q : Nat} (C : Ctx p s m meth c [] wsL_texts cL_texts 2 (some .boolean) RL) (hK : va_K D vwCl (tyE E) s) (hA : ∀ q : Nat, s.heap.size ≤ q → A q) (hZ : zSX t A s) (u : Nat → Nat) (Z : Nat → FS) (H : Heap) (locs : List Loc) (ls : Array Slot) (hB : Bis Z zs_texts_4) (hP : va_P D vwCl (wQ E (aZ0 q u) Z) H) (hD : va_D A (wQ E (aZ0 q u) Z)) (hS : va_S A s.heap H locs) (hl : lv_has ls 2 [(0, .ref q)]) : WI p l e (rmW 15 350 38 8927) s m [] below meth c D A 1 (fun _ : Unit => ([] : va_W)) 38 8927 H locs 38 8927 76 ls [] := by
  obtain ⟨hx, hb, hr, hml, hown, hlocks, hts⟩ := id C
  refine lv_aload_n hx hb dL_texts_76 rfl (lv_at hl 0 rfl) ?_
  refine lv_ldc2 (v := 824980027) hx hb hown (hts _ lkL_texts_114) dL_texts_77 ?_
  obtain ⟨Z14, e14, hB⟩ := b_m (fun Q => fX7_put Q (824980027:Int64)) (fun M => fX8_put M (824980027:Int64)) (fun Q M h => put_c Q M (824980027:Int64) h) hB (r := (4:Int32)) (z1 := zs_texts_5) (ck_e (by decide +kernel))
  refine t0_UI (As := [.long (824980027:Int64)]) (rest := []) (Z1 := Z14) hx hb hml hown hts hl.1 (kX7_put l D E (aZ0 q u) H.size e14) (cwV 1 hts gL_texts_X7_put rfl rfl rfl (by decide +kernel) ⟨Nat.le_of_ble_eq_true rfl, Nat.le_of_ble_eq_true rfl⟩) hP hD hS hA hK rfl rfl (Nat.le_of_ble_eq_true rfl) dL_texts_80 ⟨Nat.le_of_ble_eq_true rfl, Nat.le_of_ble_eq_true rfl⟩ (fun u15 H locs hP hD hS => ?_)
  refine lv_if_lt (tgt := 313) hx hb dL_texts_83 (by decide) (fun c9 => absurd c9 (by decide)) (fun _ => ?_)
  refine lv_aload_n hx hb dL_texts_86 rfl (lv_at hl 0 rfl) ?_
  have e16 := b_n (fun Q => fX7_fault Q ) (fun M => fX8_fault M ) (fun Q M h => fault_c Q M h) hB (r := (4:Int32)) (by decide +kernel)
  refine q_V (As := []) (rest := []) (C := RX7) (T0 := TX7) (N0 := 4) (ci := 6) hx hb hml hown hts hl.1 (kX7_fault l D E (aZ0 q u15) e16) zNo_mv (cwV 0 hts gL_texts_X7_fault rfl rfl rfl (by decide +kernel) ⟨Nat.le_of_ble_eq_true rfl, Nat.le_of_ble_eq_true rfl⟩) 0 rfl rfl hP hK trivial rfl rfl (Nat.le_of_ble_eq_true rfl) dL_texts_87 ⟨Nat.le_of_ble_eq_true rfl, Nat.le_of_ble_eq_true rfl⟩ ?_
  refine lv_iconst (v := 4) hx hb dL_texts_90 (by decide) ?_
  refine lv_icmp_ne (tgt := 313) hx hb dL_texts_91 (by decide) (fun c9 => absurd (by decide) c9) (fun _ => ?_)
  refine lv_aload_n hx hb dL_texts_94 rfl (lv_at hl 0 rfl) ?_
  obtain ⟨Z17, e17, hB⟩ := b_m (fun Q => fX7_wipe Q ) (fun M => fX8_wipe M ) (fun Q M h => wipe_c Q M h) hB (r := (4:Int32)) (z1 := zs_texts_6) (ck_e (by decide +kernel))
  refine t0_UI (As := []) (rest := []) (Z1 := Z17) hx hb hml hown hts hl.1 (kX7_wipe l D E (aZ0 q u15) H.size e17) (cwV 0 hts gL_texts_X7_wipe rfl rfl rfl (by decide +kernel) ⟨Nat.le_of_ble_eq_true rfl, Nat.le_of_ble_eq_true rfl⟩) hP hD hS hA hK rfl rfl (Nat.le_of_ble_eq_true rfl) dL_texts_95 ⟨Nat.le_of_ble_eq_true rfl, Nat.le_of_ble_eq_true rfl⟩ (fun u18 H locs hP hD hS => ?_)
  refine lv_iconst (v := 4) hx hb dL_texts_98 (by decide) ?_
  refine lv_icmp_ne (tgt := 313) hx hb dL_texts_99 (by decide) (fun c9 => absurd (by decide) c9) (fun _ => ?_)
  refine lv_aload_n hx hb dL_texts_102 rfl (lv_at hl 0 rfl) ?_
  refine lv_ldc2 (v := 44) hx hb hown (hts _ lkL_texts_116) dL_texts_103 ?_
  obtain ⟨Z19, e19, hB⟩ := b_m (fun Q => fX7_put Q (44:Int64)) (fun M => fX8_put M (44:Int64)) (fun Q M h => put_c Q M (44:Int64) h) hB (r := (1:Int32)) (z1 := zs_texts_7) (ck_e (by decide +kernel))
  refine t0_UI (As := [.long (44:Int64)]) (rest := []) (Z1 := Z19) hx hb hml hown hts hl.1 (kX7_put l D E (aZ0 q u18) H.size e19) (cwV 1 hts gL_texts_X7_put rfl rfl rfl (by decide +kernel) ⟨Nat.le_of_ble_eq_true rfl, Nat.le_of_ble_eq_true rfl⟩) hP hD hS hA hK rfl rfl (Nat.le_of_ble_eq_true rfl) dL_texts_106 ⟨Nat.le_of_ble_eq_true rfl, Nat.le_of_ble_eq_true rfl⟩ (fun u20 H locs hP hD hS => ?_)
  refine lv_if_lt (tgt := 313) hx hb dL_texts_109 (by decide) (fun c9 => absurd c9 (by decide)) (fun _ => ?_)
  refine lv_aload_n hx hb dL_texts_112 rfl (lv_at hl 0 rfl) ?_
  have e21 := b_n (fun Q => fX7_fault Q ) (fun M => fX8_fault M ) (fun Q M h => fault_c Q M h) hB (r := (0:Int32)) (by decide +kernel)
  refine q_V (As := []) (rest := []) (C := RX7) (T0 := TX7) (N0 := 4) (ci := 6) hx hb hml hown hts hl.1 (kX7_fault l D E (aZ0 q u20) e21) zNo_mv (cwV 0 hts gL_texts_X7_fault rfl rfl rfl (by decide +kernel) ⟨Nat.le_of_ble_eq_true rfl, Nat.le_of_ble_eq_true rfl⟩) 0 rfl rfl hP hK trivial rfl rfl (Nat.le_of_ble_eq_true rfl) dL_texts_113 ⟨Nat.le_of_ble_eq_true rfl, Nat.le_of_ble_eq_true rfl⟩ ?_
  refine lv_if_ne (tgt := 313) hx hb dL_texts_116 (by decide) (fun c9 => absurd (by decide) c9) (fun _ => ?_)
  refine lv_aload_n hx hb dL_texts_119 rfl (lv_at hl 0 rfl) ?_
  obtain ⟨Z22, e22, hB⟩ := b_m (fun Q => fX7_wipe Q ) (fun M => fX8_wipe M ) (fun Q M h => wipe_c Q M h) hB (r := (1:Int32)) (z1 := zs_texts_8) (ck_e (by decide +kernel))
  refine t0_UI (As := []) (rest := []) (Z1 := Z22) hx hb hml hown hts hl.1 (kX7_wipe l D E (aZ0 q u20) H.size e22) (cwV 0 hts gL_texts_X7_wipe rfl rfl rfl (by decide +kernel) ⟨Nat.le_of_ble_eq_true rfl, Nat.le_of_ble_eq_true rfl⟩) hP hD hS hA hK rfl rfl (Nat.le_of_ble_eq_true rfl) dL_texts_120 ⟨Nat.le_of_ble_eq_true rfl, Nat.le_of_ble_eq_true rfl⟩ (fun u23 H locs hP hD hS => ?_)
  refine lv_iconst (v := 1) hx hb dL_texts_123 (by decide) ?_
  refine lv_icmp_ne (tgt := 313) hx hb dL_texts_124 (by decide) (fun c9 => absurd (by decide) c9) (fun _ => ?_)
  refine lv_aload_n hx hb dL_texts_127 rfl (lv_at hl 0 rfl) ?_
  refine lv_ldc2 (v := 53) hx hb hown (hts _ lkL_texts_118) dL_texts_128 ?_
  obtain ⟨Z24, e24, hB⟩ := b_m (fun Q => fX7_put Q (53:Int64)) (fun M => fX8_put M (53:Int64)) (fun Q M h => put_c Q M (53:Int64) h) hB (r := (1:Int32)) (z1 := zs_texts_9) (ck_e (by decide +kernel))
  refine t0_UI (As := [.long (53:Int64)]) (rest := []) (Z1 := Z24) hx hb hml hown hts hl.1 (kX7_put l D E (aZ0 q u23) H.size e24) (cwV 1 hts gL_texts_X7_put rfl rfl rfl (by decide +kernel) ⟨Nat.le_of_ble_eq_true rfl, Nat.le_of_ble_eq_true rfl⟩) hP hD hS hA hK rfl rfl (Nat.le_of_ble_eq_true rfl) dL_texts_131 ⟨Nat.le_of_ble_eq_true rfl, Nat.le_of_ble_eq_true rfl⟩ (fun u25 H locs hP hD hS => ?_)
  refine lv_if_lt (tgt := 313) hx hb dL_texts_134 (by decide) (fun c9 => absurd c9 (by decide)) (fun _ => ?_)
  refine lv_aload_n hx hb dL_texts_137 rfl (lv_at hl 0 rfl) ?_
  have e26 := b_n (fun Q => fX7_fault Q ) (fun M => fX8_fault M ) (fun Q M h => fault_c Q M h) hB (r := (1:Int32)) (by decide +kernel)
  refine q_V (As := []) (rest := []) (C := RX7) (T0 := TX7) (N0 := 4) (ci := 6) hx hb hml hown hts hl.1 (kX7_fault l D E (aZ0 q u25) e26) zNo_mv (cwV 0 hts gL_texts_X7_fault rfl rfl rfl (by decide +kernel) ⟨Nat.le_of_ble_eq_true rfl, Nat.le_of_ble_eq_true rfl⟩) 0 rfl rfl hP hK trivial rfl rfl (Nat.le_of_ble_eq_true rfl) dL_texts_138 ⟨Nat.le_of_ble_eq_true rfl, Nat.le_of_ble_eq_true rfl⟩ ?_
  refine lv_iconst (v := 1) hx hb dL_texts_141 (by decide) ?_
  refine lv_icmp_ne (tgt := 313) hx hb dL_texts_142 (by decide) (fun c9 => absurd (by decide) c9) (fun _ => ?_)
  exact tex_c2 C hK hA hZ u25 Z24 H locs ls hB hP hD hS hl

set_option maxRecDepth 100000 in
set_option maxHeartbeats 4000000 in
theorem tex_c0 {l : Launch} {t : Nat → Nat} {D : va_G} {E : Nat → ClassId} {p : Program} {e : Env} {s : State} {m : MethodId} {below : List Frame} {meth : Method} {c : Code} {A : Nat → Prop} {q : Nat} (C : Ctx p s m meth c [] wsL_texts cL_texts 2 (some .boolean) RL) (hK : va_K D vwCl (tyE E) s) (hA : ∀ q : Nat, s.heap.size ≤ q → A q) (hZ : zSX t A s) (u : Nat → Nat) (Z : Nat → FS) (H : Heap) (locs : List Loc) (ls : Array Slot) (hB : Bis Z zs_texts_0) (hP : va_P D vwCl (wQ E (aZ0 q u) Z) H) (hD : va_D A (wQ E (aZ0 q u) Z)) (hS : va_S A s.heap H locs) (hl : lv_has ls 2 [(0, .ref q)]) : WI p l e (rmW 15 350 38 8927) s m [] below meth c D A 1 (fun _ : Unit => ([] : va_W)) 38 8927 H locs 38 8927 8 ls [] := by
  obtain ⟨hx, hb, hr, hml, hown, hlocks, hts⟩ := id C
  refine lv_aload_n hx hb dL_texts_8 rfl (lv_at hl 0 rfl) ?_
  have e1 := b_n (fun Q => fX7_fault Q ) (fun M => fX8_fault M ) (fun Q M h => fault_c Q M h) hB (r := (0:Int32)) (by decide +kernel)
  refine q_V (As := []) (rest := []) (C := RX7) (T0 := TX7) (N0 := 4) (ci := 6) hx hb hml hown hts hl.1 (kX7_fault l D E (aZ0 q u) e1) zNo_mv (cwV 0 hts gL_texts_X7_fault rfl rfl rfl (by decide +kernel) ⟨Nat.le_of_ble_eq_true rfl, Nat.le_of_ble_eq_true rfl⟩) 0 rfl rfl hP hK trivial rfl rfl (Nat.le_of_ble_eq_true rfl) dL_texts_9 ⟨Nat.le_of_ble_eq_true rfl, Nat.le_of_ble_eq_true rfl⟩ ?_
  refine lv_if_ne (tgt := 313) hx hb dL_texts_12 (by decide) (fun c9 => absurd (by decide) c9) (fun _ => ?_)
  refine lv_aload_n hx hb dL_texts_15 rfl (lv_at hl 0 rfl) ?_
  obtain ⟨Z2, e2, hB⟩ := b_m (fun Q => fX7_putAll Q ) (fun M => fX8_putAll M ) (fun Q M h => putAll_c Q M h) hB (r := (-3:Int32)) (z1 := zs_texts_0) (ck_e (by decide +kernel))
  refine t0_VI (As := []) (rest := []) (Z1 := Z2) hx hb hml hown hts hl.1 (kX7_putAll l D E (aZ0 q u) H.size e2) (cwV 0 hts gL_texts_X7_putAll rfl rfl rfl (by decide +kernel) ⟨Nat.le_of_ble_eq_true rfl, Nat.le_of_ble_eq_true rfl⟩) hP hD hS hA hK rfl rfl (Nat.le_of_ble_eq_true rfl) dL_texts_16 ⟨Nat.le_of_ble_eq_true rfl, Nat.le_of_ble_eq_true rfl⟩ (fun u3 H locs hP hD hS => ?_)
  refine lv_bipush (v := -3) hx hb dL_texts_19 (by decide) ?_
  refine lv_icmp_ne (tgt := 313) hx hb dL_texts_21 (by decide) (fun c9 => absurd (by decide) c9) (fun _ => ?_)
  refine lv_aload_n hx hb dL_texts_24 rfl (lv_at hl 0 rfl) ?_
  refine lv_ldc2 (v := 909388848) hx hb hown (hts _ lkL_texts_107) dL_texts_25 ?_
  obtain ⟨Z4, e4, hB⟩ := b_m (fun Q => fX7_put Q (909388848:Int64)) (fun M => fX8_put M (909388848:Int64)) (fun Q M h => put_c Q M (909388848:Int64) h) hB (r := (4:Int32)) (z1 := zs_texts_1) (ck_e (by decide +kernel))
  refine t0_UI (As := [.long (909388848:Int64)]) (rest := []) (Z1 := Z4) hx hb hml hown hts hl.1 (kX7_put l D E (aZ0 q u3) H.size e4) (cwV 1 hts gL_texts_X7_put rfl rfl rfl (by decide +kernel) ⟨Nat.le_of_ble_eq_true rfl, Nat.le_of_ble_eq_true rfl⟩) hP hD hS hA hK rfl rfl (Nat.le_of_ble_eq_true rfl) dL_texts_28 ⟨Nat.le_of_ble_eq_true rfl, Nat.le_of_ble_eq_true rfl⟩ (fun u5 H locs hP hD hS => ?_)
  refine lv_if_lt (tgt := 313) hx hb dL_texts_31 (by decide) (fun c9 => absurd c9 (by decide)) (fun _ => ?_)
  refine lv_aload_n hx hb dL_texts_34 rfl (lv_at hl 0 rfl) ?_
  have e6 := b_n (fun Q => fX7_fault Q ) (fun M => fX8_fault M ) (fun Q M h => fault_c Q M h) hB (r := (1:Int32)) (by decide +kernel)
  refine q_V (As := []) (rest := []) (C := RX7) (T0 := TX7) (N0 := 4) (ci := 6) hx hb hml hown hts hl.1 (kX7_fault l D E (aZ0 q u5) e6) zNo_mv (cwV 0 hts gL_texts_X7_fault rfl rfl rfl (by decide +kernel) ⟨Nat.le_of_ble_eq_true rfl, Nat.le_of_ble_eq_true rfl⟩) 0 rfl rfl hP hK trivial rfl rfl (Nat.le_of_ble_eq_true rfl) dL_texts_35 ⟨Nat.le_of_ble_eq_true rfl, Nat.le_of_ble_eq_true rfl⟩ ?_
  refine lv_iconst (v := 1) hx hb dL_texts_38 (by decide) ?_
  refine lv_icmp_ne (tgt := 313) hx hb dL_texts_39 (by decide) (fun c9 => absurd (by decide) c9) (fun _ => ?_)
  refine lv_aload_n hx hb dL_texts_42 rfl (lv_at hl 0 rfl) ?_
  obtain ⟨Z7, e7, hB⟩ := b_m (fun Q => fX7_wipe Q ) (fun M => fX8_wipe M ) (fun Q M h => wipe_c Q M h) hB (r := (4:Int32)) (z1 := zs_texts_2) (ck_e (by decide +kernel))
  refine t0_UI (As := []) (rest := []) (Z1 := Z7) hx hb hml hown hts hl.1 (kX7_wipe l D E (aZ0 q u5) H.size e7) (cwV 0 hts gL_texts_X7_wipe rfl rfl rfl (by decide +kernel) ⟨Nat.le_of_ble_eq_true rfl, Nat.le_of_ble_eq_true rfl⟩) hP hD hS hA hK rfl rfl (Nat.le_of_ble_eq_true rfl) dL_texts_43 ⟨Nat.le_of_ble_eq_true rfl, Nat.le_of_ble_eq_true rfl⟩ (fun u8 H locs hP hD hS => ?_)
  refine lv_iconst (v := 4) hx hb dL_texts_46 (by decide) ?_
  refine lv_icmp_ne (tgt := 313) hx hb dL_texts_47 (by decide) (fun c9 => absurd (by decide) c9) (fun _ => ?_)
  refine lv_aload_n hx hb dL_texts_50 rfl (lv_at hl 0 rfl) ?_
  refine lv_ldc2 (v := 808463409) hx hb hown (hts _ lkL_texts_112) dL_texts_51 ?_
  obtain ⟨Z9, e9, hB⟩ := b_m (fun Q => fX7_put Q (808463409:Int64)) (fun M => fX8_put M (808463409:Int64)) (fun Q M h => put_c Q M (808463409:Int64) h) hB (r := (4:Int32)) (z1 := zs_texts_3) (ck_e (by decide +kernel))
  refine t0_UI (As := [.long (808463409:Int64)]) (rest := []) (Z1 := Z9) hx hb hml hown hts hl.1 (kX7_put l D E (aZ0 q u8) H.size e9) (cwV 1 hts gL_texts_X7_put rfl rfl rfl (by decide +kernel) ⟨Nat.le_of_ble_eq_true rfl, Nat.le_of_ble_eq_true rfl⟩) hP hD hS hA hK rfl rfl (Nat.le_of_ble_eq_true rfl) dL_texts_54 ⟨Nat.le_of_ble_eq_true rfl, Nat.le_of_ble_eq_true rfl⟩ (fun u10 H locs hP hD hS => ?_)
  refine lv_if_lt (tgt := 313) hx hb dL_texts_57 (by decide) (fun c9 => absurd c9 (by decide)) (fun _ => ?_)
  refine lv_aload_n hx hb dL_texts_60 rfl (lv_at hl 0 rfl) ?_
  have e11 := b_n (fun Q => fX7_fault Q ) (fun M => fX8_fault M ) (fun Q M h => fault_c Q M h) hB (r := (1:Int32)) (by decide +kernel)
  refine q_V (As := []) (rest := []) (C := RX7) (T0 := TX7) (N0 := 4) (ci := 6) hx hb hml hown hts hl.1 (kX7_fault l D E (aZ0 q u10) e11) zNo_mv (cwV 0 hts gL_texts_X7_fault rfl rfl rfl (by decide +kernel) ⟨Nat.le_of_ble_eq_true rfl, Nat.le_of_ble_eq_true rfl⟩) 0 rfl rfl hP hK trivial rfl rfl (Nat.le_of_ble_eq_true rfl) dL_texts_61 ⟨Nat.le_of_ble_eq_true rfl, Nat.le_of_ble_eq_true rfl⟩ ?_
  refine lv_iconst (v := 1) hx hb dL_texts_64 (by decide) ?_
  refine lv_icmp_ne (tgt := 313) hx hb dL_texts_65 (by decide) (fun c9 => absurd (by decide) c9) (fun _ => ?_)
  refine lv_aload_n hx hb dL_texts_68 rfl (lv_at hl 0 rfl) ?_
  obtain ⟨Z12, e12, hB⟩ := b_m (fun Q => fX7_wipe Q ) (fun M => fX8_wipe M ) (fun Q M h => wipe_c Q M h) hB (r := (4:Int32)) (z1 := zs_texts_4) (ck_e (by decide +kernel))
  refine t0_UI (As := []) (rest := []) (Z1 := Z12) hx hb hml hown hts hl.1 (kX7_wipe l D E (aZ0 q u10) H.size e12) (cwV 0 hts gL_texts_X7_wipe rfl rfl rfl (by decide +kernel) ⟨Nat.le_of_ble_eq_true rfl, Nat.le_of_ble_eq_true rfl⟩) hP hD hS hA hK rfl rfl (Nat.le_of_ble_eq_true rfl) dL_texts_69 ⟨Nat.le_of_ble_eq_true rfl, Nat.le_of_ble_eq_true rfl⟩ (fun u13 H locs hP hD hS => ?_)
  refine lv_iconst (v := 4) hx hb dL_texts_72 (by decide) ?_
  refine lv_icmp_ne (tgt := 313) hx hb dL_texts_73 (by decide) (fun c9 => absurd (by decide) c9) (fun _ => ?_)
  exact tex_c1 C hK hA hZ u13 Z12 H locs ls hB hP hD hS hl

set_option maxRecDepth 100000 in
set_option maxHeartbeats 4000000 in
theorem kL_texts (l : Launch) (t : Nat → Nat) (D : va_G) (E : Nat → ClassId) (sz : Nat) : LI l yL_texts wsL_texts (rmW 15 350 38 8927) t D E [] sz [] 1 (fun _ : Unit => ([] : va_W)) 38 8927 := by
  refine LI.of (by decide) rfl (Nat.le_of_ble_eq_true rfl) ?_
  intro p e s m below meth c A H locs C hP hK hD hS hA hZ ls hl
  have hl : lv_has ls 2 [] := hl
  obtain ⟨hx, hb, hr, hml, hown, hlocks, hts⟩ := id C
  refine va_new (D := D) (ci := 6) (fs := [.null, .null, .null, .null]) (C := RX7) (T := TX7) (N := 4) hx hb hts hiL_texts_X7 tyX7 tyX7_ok hown (hts _ lkL_texts_n0) (hts _ lkL_texts_n1) (hts _ lkL_texts_n2) hK hP hD hS hA rfl (fun j hj => by rcases (show j = 0 ∨ j = 1 ∨ j = 2 ∨ j = 3 by omega) with rfl | rfl | rfl | rfl <;> rfl) (Nat.le_of_ble_eq_true rfl) (Nat.le_of_ble_eq_true rfl) dL_texts_0 (fun q H hP hD hS => ?_)
  refine lv_dup hx hb dL_texts_3 rfl ?_
  refine m_IC (As := []) (rest := [.ref q]) (Wn := (fun u1 : Nat → Nat => (wQ E (aZ0 q u1) Q00))) (Wr := []) hx hb hml hown hts hl.1 (kX7_init l D E q H.size) (cwI 0 hts gL_texts_X7_init rfl rfl rfl (hts _ lkL_texts_n2) (hts _ lkL_texts_n3) (hts _ lkL_texts_n4) rfl (by decide +kernel) ⟨Nat.le_of_ble_eq_true rfl, Nat.le_of_ble_eq_true rfl⟩) hP hD hS hA hK hZ.2.2.2.2.2.2.2.2.2 [0] [] [0, 1, 2, 3, 4, 5, 6, 7, 8, 9, 10, 11, 12, 13, 14, 15, 16, 17, 18, 19, 20, 21, 22, 23, 24, 25, 26, 27, 28, 29, 30, 31, 32, 33, 34, 35, 36, 37] (by decide) rfl rfl (by decide) (by decide) (by decide) (fun _ => rfl) rfl rfl (Nat.le_of_ble_eq_true rfl) dL_texts_4 ⟨Nat.le_of_ble_eq_true rfl, Nat.le_of_ble_eq_true rfl⟩ (fun u1 H locs hP hD hS => ?_)
  refine lv_astore_n (lv' := [(0, .ref q)]) hx hb dL_texts_7 rfl hl (by decide) rfl (fun ls hl => ?_)
  exact tex_c0 C hK hA hZ u1 Q00 H locs ls (Bis_of init_II (eqS_e (by decide +kernel))) hP hD hS hl
