theorem cn0 {Z : Nat → FS} {A0 : AS} (h : RH Z A0) : fX7_count Z 0 = some (nI (A0 2 0)) := by
  rw [fX7_count, if_pos rfl, h.2.1.1.1 0 (by decide)]
theorem lkL_refusesAny_84 : (.constantLong RL 84 127 : Cond) ∈ wsL_refusesAny := by decide +kernel
theorem lkL_refusesAny_78 : (.constantLong RL 78 32 : Cond) ∈ wsL_refusesAny := by decide +kernel
theorem lkL_refusesAny_86 : (.constantLong RL 86 12544 : Cond) ∈ wsL_refusesAny := by decide +kernel
set_option maxRecDepth 100000 in
set_option maxHeartbeats 4000000 in
theorem ra0_c6 {l : Launch} {t : Nat → Nat} {D : va_G} {E : Nat → ClassId} {p : Program} {e : Env} {s : State} {m : MethodId} {below : List Frame} {meth : Method} {c : Code} {A : Nat → Prop} {q : Nat} {Z : Nat → FS} {A0 : AS} (h : RH Z A0) (C : Ctx p s m meth c [.ref q, .int (0:Int32)] wsL_refusesAny cL_refusesAny 5 (some .boolean) RL) (hK : va_K D vwCl (tyE E) s) (hA : ∀ q : Nat, s.heap.size ≤ q → A q) (hZ : zSX t A s) (u : Nat → Nat) (H : Heap) (locs : List Loc) (ls : Array Slot) (hP : va_P D vwCl (wQ E (aZ0 q u) Z) H) (hD : va_D A (wQ E (aZ0 q u) Z)) (hS : va_S A s.heap H locs) (hl : lv_has ls 5 [(4, .int (0:Int32)), (3, .int (-1:Int32)), (2, .int (-1:Int32)), (0, .ref q), (1, .int (0:Int32))]) : WI p l e (rmW 15 350 6 24) s m [.ref q, .int (0:Int32)] below meth c D A 1 (fun u1 : Nat → Nat => wQ E (aZ0 q u1) Z) 6 24 H locs 6 24 740 ls [] := by
  obtain ⟨hx, hb, hr, hml, hown, hlocks, hts⟩ := id C
  refine lv_iconst (v := 1) hx hb dL_refusesAny_740 (by decide) ?_
  refine lv_goto (tgt := 745) hx hb dL_refusesAny_741 (by decide) ?_
  exact t_rz u C dL_refusesAny_745 (by decide) (by decide) hP hD hS

set_option maxRecDepth 100000 in
set_option maxHeartbeats 4000000 in
theorem ra0_c5 {l : Launch} {t : Nat → Nat} {D : va_G} {E : Nat → ClassId} {p : Program} {e : Env} {s : State} {m : MethodId} {below : List Frame} {meth : Method} {c : Code} {A : Nat → Prop} {q : Nat} {Z : Nat → FS} {A0 : AS} (h : RH Z A0) (C : Ctx p s m meth c [.ref q, .int (0:Int32)] wsL_refusesAny cL_refusesAny 5 (some .boolean) RL) (hK : va_K D vwCl (tyE E) s) (hA : ∀ q : Nat, s.heap.size ≤ q → A q) (hZ : zSX t A s) (u : Nat → Nat) (H : Heap) (locs : List Loc) (ls : Array Slot) (hP : va_P D vwCl (wQ E (aZ0 q u) Z) H) (hD : va_D A (wQ E (aZ0 q u) Z)) (hS : va_S A s.heap H locs) (hl : lv_has ls 5 [(4, .int (0:Int32)), (3, .int (-1:Int32)), (2, .int (-1:Int32)), (0, .ref q), (1, .int (0:Int32))]) : WI p l e (rmW 15 350 6 24) s m [.ref q, .int (0:Int32)] below meth c D A 1 (fun u1 : Nat → Nat => wQ E (aZ0 q u1) Z) 6 24 H locs 6 24 586 ls [] := by
  obtain ⟨hx, hb, hr, hml, hown, hlocks, hts⟩ := id C
  refine lv_aload_n hx hb dL_refusesAny_586 rfl (lv_at hl 3 rfl) ?_
  refine lv_iconst (v := 0) hx hb dL_refusesAny_587 (by decide) ?_
  refine lv_iconst (v := 0) hx hb dL_refusesAny_588 (by decide) ?_
  refine lv_iload_n hx hb dL_refusesAny_589 rfl (lv_at hl 4 rfl) ?_
  refine lv_if_ne (tgt := 597) hx hb dL_refusesAny_590 (by decide) (fun c9 => absurd (by decide) c9) (fun _ => ?_)
  refine lv_iconst (v := -1) hx hb dL_refusesAny_593 (by decide) ?_
  refine lv_goto (tgt := 598) hx hb dL_refusesAny_594 (by decide) ?_
  refine q_V (As := [.int (0:Int32), .int (0:Int32), .int (-1:Int32)]) (rest := []) (C := RX7) (T0 := TX7) (N0 := 4) (ci := 6) hx hb hml hown hts hl.1 (kX7_nearest l D E (aZ0 q u) (rf0_37 h)) zNo_mv (cwV 3 hts gL_refusesAny_X7_nearest rfl rfl rfl (by decide +kernel) ⟨Nat.le_of_ble_eq_true rfl, Nat.le_of_ble_eq_true rfl⟩) 0 rfl rfl hP hK trivial rfl rfl (Nat.le_of_ble_eq_true rfl) dL_refusesAny_598 ⟨Nat.le_of_ble_eq_true rfl, Nat.le_of_ble_eq_true rfl⟩ ?_
  refine lv_bipush (v := -2) hx hb dL_refusesAny_601 (by decide) ?_
  refine lv_icmp_ne (tgt := 640) hx hb dL_refusesAny_603 (by decide) (fun c9 => absurd (by decide) c9) (fun _ => ?_)
  refine lv_aload_n hx hb dL_refusesAny_606 rfl (lv_at hl 3 rfl) ?_
  refine lv_iload_n hx hb dL_refusesAny_607 rfl (lv_at hl 2 rfl) ?_
  refine lv_iconst (v := 0) hx hb dL_refusesAny_608 (by decide) ?_
  refine lv_bipush (v := 9) hx hb dL_refusesAny_609 (by decide) ?_
  refine t0_UI (As := [.int (-1:Int32), .int (0:Int32), .int (9:Int32)]) (rest := []) (Z1 := Z) hx hb hml hown hts hl.1 (kX7_ifPut l D E (aZ0 q u) H.size (rf0_38 h)) (cwV 3 hts gL_refusesAny_X7_ifPut rfl rfl rfl (by decide +kernel) ⟨Nat.le_of_ble_eq_true rfl, Nat.le_of_ble_eq_true rfl⟩) hP hD hS hA hK rfl rfl (Nat.le_of_ble_eq_true rfl) dL_refusesAny_611 ⟨Nat.le_of_ble_eq_true rfl, Nat.le_of_ble_eq_true rfl⟩ (fun u22 H locs hP hD hS => ?_)
  refine lv_iconst (v := -1) hx hb dL_refusesAny_614 (by decide) ?_
  refine lv_icmp_ne (tgt := 640) hx hb dL_refusesAny_615 (by decide) (fun c9 => absurd (by decide) c9) (fun _ => ?_)
  refine lv_aload_n hx hb dL_refusesAny_618 rfl (lv_at hl 3 rfl) ?_
  refine lv_bipush (v := 9) hx hb dL_refusesAny_619 (by decide) ?_
  refine lv_bipush (v := 9) hx hb dL_refusesAny_621 (by decide) ?_
  refine lv_iload_n hx hb dL_refusesAny_623 rfl (lv_at hl 4 rfl) ?_
  refine lv_if_ne (tgt := 631) hx hb dL_refusesAny_624 (by decide) (fun c9 => absurd (by decide) c9) (fun _ => ?_)
  refine lv_iconst (v := -1) hx hb dL_refusesAny_627 (by decide) ?_
  refine lv_goto (tgt := 632) hx hb dL_refusesAny_628 (by decide) ?_
  refine t0_UI (As := [.int (9:Int32), .int (9:Int32), .int (-1:Int32)]) (rest := []) (Z1 := Z) hx hb hml hown hts hl.1 (kX7_ifPut l D E (aZ0 q u22) H.size (rf0_39 h)) (cwV 3 hts gL_refusesAny_X7_ifPut rfl rfl rfl (by decide +kernel) ⟨Nat.le_of_ble_eq_true rfl, Nat.le_of_ble_eq_true rfl⟩) hP hD hS hA hK rfl rfl (Nat.le_of_ble_eq_true rfl) dL_refusesAny_632 ⟨Nat.le_of_ble_eq_true rfl, Nat.le_of_ble_eq_true rfl⟩ (fun u23 H locs hP hD hS => ?_)
  refine lv_bipush (v := -2) hx hb dL_refusesAny_635 (by decide) ?_
  refine lv_icmp_eq (tgt := 642) hx hb dL_refusesAny_637 (by decide) (fun _ => ?_) (fun c9 => absurd (by decide) c9)
  refine lv_aload_n hx hb dL_refusesAny_642 rfl (lv_at hl 3 rfl) ?_
  refine lv_iload_n hx hb dL_refusesAny_643 rfl (lv_at hl 4 rfl) ?_
  refine lv_if_ne (tgt := 651) hx hb dL_refusesAny_644 (by decide) (fun c9 => absurd (by decide) c9) (fun _ => ?_)
  refine lv_iconst (v := 0) hx hb dL_refusesAny_647 (by decide) ?_
  refine lv_goto (tgt := 654) hx hb dL_refusesAny_648 (by decide) ?_
  refine t0_UI (As := [.int (0:Int32)]) (rest := []) (Z1 := Z) hx hb hml hown hts hl.1 (kX7_leastFull l D E (aZ0 q u23) H.size (rf0_40 h)) (cwV 1 hts gL_refusesAny_X7_leastFull rfl rfl rfl (by decide +kernel) ⟨Nat.le_of_ble_eq_true rfl, Nat.le_of_ble_eq_true rfl⟩) hP hD hS hA hK rfl rfl (Nat.le_of_ble_eq_true rfl) dL_refusesAny_654 ⟨Nat.le_of_ble_eq_true rfl, Nat.le_of_ble_eq_true rfl⟩ (fun u24 H locs hP hD hS => ?_)
  refine lv_bipush (v := -2) hx hb dL_refusesAny_657 (by decide) ?_
  refine lv_icmp_ne (tgt := 744) hx hb dL_refusesAny_659 (by decide) (fun c9 => absurd (by decide) c9) (fun _ => ?_)
  refine lv_aload_n hx hb dL_refusesAny_662 rfl (lv_at hl 3 rfl) ?_
  refine lv_iload_n hx hb dL_refusesAny_663 rfl (lv_at hl 4 rfl) ?_
  refine lv_if_ne (tgt := 671) hx hb dL_refusesAny_664 (by decide) (fun c9 => absurd (by decide) c9) (fun _ => ?_)
  refine lv_iconst (v := -1) hx hb dL_refusesAny_667 (by decide) ?_
  refine lv_goto (tgt := 672) hx hb dL_refusesAny_668 (by decide) ?_
  refine t0_VI (As := [.int (-1:Int32)]) (rest := []) (Z1 := Z) hx hb hml hown hts hl.1 (kX7_save l D E (aZ0 q u24) H.size (rf0_41 h)) (cwV 1 hts gL_refusesAny_X7_save rfl rfl rfl (by decide +kernel) ⟨Nat.le_of_ble_eq_true rfl, Nat.le_of_ble_eq_true rfl⟩) hP hD hS hA hK rfl rfl (Nat.le_of_ble_eq_true rfl) dL_refusesAny_672 ⟨Nat.le_of_ble_eq_true rfl, Nat.le_of_ble_eq_true rfl⟩ (fun u25 H locs hP hD hS => ?_)
  refine lv_bipush (v := -2) hx hb dL_refusesAny_675 (by decide) ?_
  refine lv_icmp_ne (tgt := 744) hx hb dL_refusesAny_677 (by decide) (fun c9 => absurd (by decide) c9) (fun _ => ?_)
  refine lv_aload_n hx hb dL_refusesAny_680 rfl (lv_at hl 3 rfl) ?_
  refine lv_iload_n hx hb dL_refusesAny_681 rfl (lv_at hl 4 rfl) ?_
  refine lv_if_ne (tgt := 689) hx hb dL_refusesAny_682 (by decide) (fun c9 => absurd (by decide) c9) (fun _ => ?_)
  refine lv_iconst (v := -1) hx hb dL_refusesAny_685 (by decide) ?_
  refine lv_goto (tgt := 690) hx hb dL_refusesAny_686 (by decide) ?_
  refine t0_VI (As := [.int (-1:Int32)]) (rest := []) (Z1 := Z) hx hb hml hown hts hl.1 (kX7_restore l D E (aZ0 q u25) H.size (rf0_42 h)) (cwV 1 hts gL_refusesAny_X7_restore rfl rfl rfl (by decide +kernel) ⟨Nat.le_of_ble_eq_true rfl, Nat.le_of_ble_eq_true rfl⟩) hP hD hS hA hK rfl rfl (Nat.le_of_ble_eq_true rfl) dL_refusesAny_690 ⟨Nat.le_of_ble_eq_true rfl, Nat.le_of_ble_eq_true rfl⟩ (fun u26 H locs hP hD hS => ?_)
  refine lv_bipush (v := -2) hx hb dL_refusesAny_693 (by decide) ?_
  refine lv_icmp_ne (tgt := 744) hx hb dL_refusesAny_695 (by decide) (fun c9 => absurd (by decide) c9) (fun _ => ?_)
  refine lv_aload_n hx hb dL_refusesAny_698 rfl (lv_at hl 3 rfl) ?_
  refine lv_iload_n hx hb dL_refusesAny_699 rfl (lv_at hl 4 rfl) ?_
  refine lv_if_ne (tgt := 707) hx hb dL_refusesAny_700 (by decide) (fun c9 => absurd (by decide) c9) (fun _ => ?_)
  refine lv_lconst (v := 0) hx hb dL_refusesAny_703 (by decide) ?_
  refine lv_goto (tgt := 710) hx hb dL_refusesAny_704 (by decide) ?_
  refine t0_UI (As := [.long (0:Int64)]) (rest := []) (Z1 := Z) hx hb hml hown hts hl.1 (kX7_put l D E (aZ0 q u26) H.size (rf0_43 h)) (cwV 1 hts gL_refusesAny_X7_put rfl rfl rfl (by decide +kernel) ⟨Nat.le_of_ble_eq_true rfl, Nat.le_of_ble_eq_true rfl⟩) hP hD hS hA hK rfl rfl (Nat.le_of_ble_eq_true rfl) dL_refusesAny_710 ⟨Nat.le_of_ble_eq_true rfl, Nat.le_of_ble_eq_true rfl⟩ (fun u27 H locs hP hD hS => ?_)
  refine lv_bipush (v := -2) hx hb dL_refusesAny_713 (by decide) ?_
  refine lv_icmp_ne (tgt := 744) hx hb dL_refusesAny_715 (by decide) (fun c9 => absurd (by decide) c9) (fun _ => ?_)
  refine lv_aload_n hx hb dL_refusesAny_718 rfl (lv_at hl 3 rfl) ?_
  refine lv_iload_n hx hb dL_refusesAny_719 rfl (lv_at hl 4 rfl) ?_
  refine lv_if_ne (tgt := 729) hx hb dL_refusesAny_720 (by decide) (fun c9 => absurd (by decide) c9) (fun _ => ?_)
  refine lv_ldc2 (v := 127) hx hb hown (hts _ lkL_refusesAny_84) dL_refusesAny_723 ?_
  refine lv_goto (tgt := 732) hx hb dL_refusesAny_726 (by decide) ?_
  refine t0_UI (As := [.long (127:Int64)]) (rest := []) (Z1 := Z) hx hb hml hown hts hl.1 (kX7_put l D E (aZ0 q u27) H.size (rf0_44 h)) (cwV 1 hts gL_refusesAny_X7_put rfl rfl rfl (by decide +kernel) ⟨Nat.le_of_ble_eq_true rfl, Nat.le_of_ble_eq_true rfl⟩) hP hD hS hA hK rfl rfl (Nat.le_of_ble_eq_true rfl) dL_refusesAny_732 ⟨Nat.le_of_ble_eq_true rfl, Nat.le_of_ble_eq_true rfl⟩ (fun u28 H locs hP hD hS => ?_)
  refine lv_bipush (v := -2) hx hb dL_refusesAny_735 (by decide) ?_
  refine lv_icmp_ne (tgt := 744) hx hb dL_refusesAny_737 (by decide) (fun c9 => absurd (by decide) c9) (fun _ => ?_)
  exact ra0_c6 h C hK hA hZ u28 H locs ls hP hD hS hl

set_option maxRecDepth 100000 in
set_option maxHeartbeats 4000000 in
theorem ra0_c4 {l : Launch} {t : Nat → Nat} {D : va_G} {E : Nat → ClassId} {p : Program} {e : Env} {s : State} {m : MethodId} {below : List Frame} {meth : Method} {c : Code} {A : Nat → Prop} {q : Nat} {Z : Nat → FS} {A0 : AS} (h : RH Z A0) (C : Ctx p s m meth c [.ref q, .int (0:Int32)] wsL_refusesAny cL_refusesAny 5 (some .boolean) RL) (hK : va_K D vwCl (tyE E) s) (hA : ∀ q : Nat, s.heap.size ≤ q → A q) (hZ : zSX t A s) (u : Nat → Nat) (H : Heap) (locs : List Loc) (ls : Array Slot) (hP : va_P D vwCl (wQ E (aZ0 q u) Z) H) (hD : va_D A (wQ E (aZ0 q u) Z)) (hS : va_S A s.heap H locs) (hl : lv_has ls 5 [(4, .int (0:Int32)), (3, .int (-1:Int32)), (2, .int (-1:Int32)), (0, .ref q), (1, .int (0:Int32))]) : WI p l e (rmW 15 350 6 24) s m [.ref q, .int (0:Int32)] below meth c D A 1 (fun u1 : Nat → Nat => wQ E (aZ0 q u1) Z) 6 24 H locs 0 0 461 ls [] := by
  obtain ⟨hx, hb, hr, hml, hown, hlocks, hts⟩ := id C
  refine lv_aload_n hx hb dL_refusesAny_461 rfl (lv_at hl 3 rfl) ?_
  refine lv_iload_n hx hb dL_refusesAny_462 rfl (lv_at hl 4 rfl) ?_
  refine lv_if_ne (tgt := 470) hx hb dL_refusesAny_463 (by decide) (fun c9 => absurd (by decide) c9) (fun _ => ?_)
  refine lv_iconst (v := -1) hx hb dL_refusesAny_466 (by decide) ?_
  refine lv_goto (tgt := 472) hx hb dL_refusesAny_467 (by decide) ?_
  refine q_V (As := [.int (-1:Int32)]) (rest := []) (C := RX7) (T0 := TX7) (N0 := 4) (ci := 6) hx hb hml hown hts hl.1 (kX7_count l D E t (aZ0 q u) (rf0_29 h)) zSt_mv (cwV 1 hts gL_refusesAny_X7_count rfl rfl rfl (by decide +kernel) ⟨Nat.le_of_ble_eq_true rfl, Nat.le_of_ble_eq_true rfl⟩) 0 rfl rfl hP hK (zSX_now hZ hS) rfl rfl (Nat.le_of_ble_eq_true rfl) dL_refusesAny_472 ⟨Nat.le_of_ble_eq_true rfl, Nat.le_of_ble_eq_true rfl⟩ ?_
  refine lv_bipush (v := -2) hx hb dL_refusesAny_475 (by decide) ?_
  refine lv_icmp_eq (tgt := 482) hx hb dL_refusesAny_477 (by decide) (fun _ => ?_) (fun c9 => absurd (by decide) c9)
  refine lv_aload_n hx hb dL_refusesAny_482 rfl (lv_at hl 3 rfl) ?_
  refine lv_iload_n hx hb dL_refusesAny_483 rfl (lv_at hl 2 rfl) ?_
  refine lv_iconst (v := 0) hx hb dL_refusesAny_484 (by decide) ?_
  refine lv_iconst (v := 0) hx hb dL_refusesAny_485 (by decide) ?_
  refine lv_iconst (v := 0) hx hb dL_refusesAny_486 (by decide) ?_
  refine lv_bipush (v := 9) hx hb dL_refusesAny_487 (by decide) ?_
  refine t0_NI (As := [.int (-1:Int32), .int (0:Int32), .int (0:Int32), .int (0:Int32), .int (9:Int32)]) (rest := []) (Z1 := Z) hx hb hml hown hts hl.1 (kX7_window l D E (aZ0 q u) H.size (rf0_30 h)) (cwV 5 hts gL_refusesAny_X7_window rfl rfl rfl (by decide +kernel) ⟨Nat.le_of_ble_eq_true rfl, Nat.le_of_ble_eq_true rfl⟩) hP hD hS hA hK hZ.2.2.2.2.2.2.2.2.1 rfl rfl (Nat.le_of_ble_eq_true rfl) dL_refusesAny_489 ⟨Nat.le_of_ble_eq_true rfl, Nat.le_of_ble_eq_true rfl⟩ (fun u16 H locs hP hD hS => ?_)
  refine lv_iconst (v := -1) hx hb dL_refusesAny_492 (by decide) ?_
  refine lv_icmp_ne (tgt := 640) hx hb dL_refusesAny_493 (by decide) (fun c9 => absurd (by decide) c9) (fun _ => ?_)
  refine lv_aload_n hx hb dL_refusesAny_496 rfl (lv_at hl 3 rfl) ?_
  refine lv_iconst (v := 0) hx hb dL_refusesAny_497 (by decide) ?_
  refine lv_iconst (v := 0) hx hb dL_refusesAny_498 (by decide) ?_
  refine lv_iload_n hx hb dL_refusesAny_499 rfl (lv_at hl 2 rfl) ?_
  refine lv_iconst (v := 0) hx hb dL_refusesAny_500 (by decide) ?_
  refine lv_bipush (v := 9) hx hb dL_refusesAny_501 (by decide) ?_
  refine t0_NI (As := [.int (0:Int32), .int (0:Int32), .int (-1:Int32), .int (0:Int32), .int (9:Int32)]) (rest := []) (Z1 := Z) hx hb hml hown hts hl.1 (kX7_window l D E (aZ0 q u16) H.size (rf0_31 h)) (cwV 5 hts gL_refusesAny_X7_window rfl rfl rfl (by decide +kernel) ⟨Nat.le_of_ble_eq_true rfl, Nat.le_of_ble_eq_true rfl⟩) hP hD hS hA hK hZ.2.2.2.2.2.2.2.2.1 rfl rfl (Nat.le_of_ble_eq_true rfl) dL_refusesAny_503 ⟨Nat.le_of_ble_eq_true rfl, Nat.le_of_ble_eq_true rfl⟩ (fun u17 H locs hP hD hS => ?_)
  refine lv_iconst (v := -1) hx hb dL_refusesAny_506 (by decide) ?_
  refine lv_icmp_ne (tgt := 640) hx hb dL_refusesAny_507 (by decide) (fun c9 => absurd (by decide) c9) (fun _ => ?_)
  refine lv_aload_n hx hb dL_refusesAny_510 rfl (lv_at hl 3 rfl) ?_
  refine lv_iconst (v := 0) hx hb dL_refusesAny_511 (by decide) ?_
  refine lv_iconst (v := 0) hx hb dL_refusesAny_512 (by decide) ?_
  refine lv_iconst (v := 0) hx hb dL_refusesAny_513 (by decide) ?_
  refine lv_iload_n hx hb dL_refusesAny_514 rfl (lv_at hl 2 rfl) ?_
  refine lv_bipush (v := 9) hx hb dL_refusesAny_515 (by decide) ?_
  refine t0_NI (As := [.int (0:Int32), .int (0:Int32), .int (0:Int32), .int (-1:Int32), .int (9:Int32)]) (rest := []) (Z1 := Z) hx hb hml hown hts hl.1 (kX7_window l D E (aZ0 q u17) H.size (rf0_32 h)) (cwV 5 hts gL_refusesAny_X7_window rfl rfl rfl (by decide +kernel) ⟨Nat.le_of_ble_eq_true rfl, Nat.le_of_ble_eq_true rfl⟩) hP hD hS hA hK hZ.2.2.2.2.2.2.2.2.1 rfl rfl (Nat.le_of_ble_eq_true rfl) dL_refusesAny_517 ⟨Nat.le_of_ble_eq_true rfl, Nat.le_of_ble_eq_true rfl⟩ (fun u18 H locs hP hD hS => ?_)
  refine lv_iconst (v := -1) hx hb dL_refusesAny_520 (by decide) ?_
  refine lv_icmp_ne (tgt := 640) hx hb dL_refusesAny_521 (by decide) (fun c9 => absurd (by decide) c9) (fun _ => ?_)
  refine lv_aload_n hx hb dL_refusesAny_524 rfl (lv_at hl 3 rfl) ?_
  refine lv_iconst (v := 1) hx hb dL_refusesAny_525 (by decide) ?_
  refine lv_iconst (v := 0) hx hb dL_refusesAny_526 (by decide) ?_
  refine lv_iconst (v := 0) hx hb dL_refusesAny_527 (by decide) ?_
  refine lv_iconst (v := 0) hx hb dL_refusesAny_528 (by decide) ?_
  refine lv_iconst (v := 0) hx hb dL_refusesAny_529 (by decide) ?_
  refine t0_NI (As := [.int (1:Int32), .int (0:Int32), .int (0:Int32), .int (0:Int32), .int (0:Int32)]) (rest := []) (Z1 := Z) hx hb hml hown hts hl.1 (kX7_window l D E (aZ0 q u18) H.size (rf0_33 h)) (cwV 5 hts gL_refusesAny_X7_window rfl rfl rfl (by decide +kernel) ⟨Nat.le_of_ble_eq_true rfl, Nat.le_of_ble_eq_true rfl⟩) hP hD hS hA hK hZ.2.2.2.2.2.2.2.2.1 rfl rfl (Nat.le_of_ble_eq_true rfl) dL_refusesAny_530 ⟨Nat.le_of_ble_eq_true rfl, Nat.le_of_ble_eq_true rfl⟩ (fun u19 H locs hP hD hS => ?_)
  refine lv_bipush (v := -2) hx hb dL_refusesAny_533 (by decide) ?_
  refine lv_icmp_ne (tgt := 640) hx hb dL_refusesAny_535 (by decide) (fun c9 => absurd (by decide) c9) (fun _ => ?_)
  refine lv_aload_n hx hb dL_refusesAny_538 rfl (lv_at hl 3 rfl) ?_
  refine lv_iconst (v := 0) hx hb dL_refusesAny_539 (by decide) ?_
  refine lv_iconst (v := 1) hx hb dL_refusesAny_540 (by decide) ?_
  refine lv_iconst (v := 0) hx hb dL_refusesAny_541 (by decide) ?_
  refine lv_iconst (v := 0) hx hb dL_refusesAny_542 (by decide) ?_
  refine lv_iconst (v := 0) hx hb dL_refusesAny_543 (by decide) ?_
  refine t0_NI (As := [.int (0:Int32), .int (1:Int32), .int (0:Int32), .int (0:Int32), .int (0:Int32)]) (rest := []) (Z1 := Z) hx hb hml hown hts hl.1 (kX7_window l D E (aZ0 q u19) H.size (rf0_34 h)) (cwV 5 hts gL_refusesAny_X7_window rfl rfl rfl (by decide +kernel) ⟨Nat.le_of_ble_eq_true rfl, Nat.le_of_ble_eq_true rfl⟩) hP hD hS hA hK hZ.2.2.2.2.2.2.2.2.1 rfl rfl (Nat.le_of_ble_eq_true rfl) dL_refusesAny_544 ⟨Nat.le_of_ble_eq_true rfl, Nat.le_of_ble_eq_true rfl⟩ (fun u20 H locs hP hD hS => ?_)
  refine lv_bipush (v := -2) hx hb dL_refusesAny_547 (by decide) ?_
  refine lv_icmp_ne (tgt := 640) hx hb dL_refusesAny_549 (by decide) (fun c9 => absurd (by decide) c9) (fun _ => ?_)
  refine lv_aload_n hx hb dL_refusesAny_552 rfl (lv_at hl 3 rfl) ?_
  refine lv_iconst (v := 0) hx hb dL_refusesAny_553 (by decide) ?_
  refine lv_iconst (v := 0) hx hb dL_refusesAny_554 (by decide) ?_
  refine lv_iconst (v := 0) hx hb dL_refusesAny_555 (by decide) ?_
  refine lv_iconst (v := 0) hx hb dL_refusesAny_556 (by decide) ?_
  refine lv_iload_n hx hb dL_refusesAny_557 rfl (lv_at hl 4 rfl) ?_
  refine lv_if_ne (tgt := 565) hx hb dL_refusesAny_558 (by decide) (fun c9 => absurd (by decide) c9) (fun _ => ?_)
  refine lv_iconst (v := -1) hx hb dL_refusesAny_561 (by decide) ?_
  refine lv_goto (tgt := 566) hx hb dL_refusesAny_562 (by decide) ?_
  refine t0_NI (As := [.int (0:Int32), .int (0:Int32), .int (0:Int32), .int (0:Int32), .int (-1:Int32)]) (rest := []) (Z1 := Z) hx hb hml hown hts hl.1 (kX7_window l D E (aZ0 q u20) H.size (rf0_35 h)) (cwV 5 hts gL_refusesAny_X7_window rfl rfl rfl (by decide +kernel) ⟨Nat.le_of_ble_eq_true rfl, Nat.le_of_ble_eq_true rfl⟩) hP hD hS hA hK hZ.2.2.2.2.2.2.2.2.1 rfl rfl (Nat.le_of_ble_eq_true rfl) dL_refusesAny_566 ⟨Nat.le_of_ble_eq_true rfl, Nat.le_of_ble_eq_true rfl⟩ (fun u21 H locs hP hD hS => ?_)
  refine lv_bipush (v := -2) hx hb dL_refusesAny_569 (by decide) ?_
  refine lv_icmp_ne (tgt := 640) hx hb dL_refusesAny_571 (by decide) (fun c9 => absurd (by decide) c9) (fun _ => ?_)
  refine lv_aload_n hx hb dL_refusesAny_574 rfl (lv_at hl 3 rfl) ?_
  refine lv_iload_n hx hb dL_refusesAny_575 rfl (lv_at hl 2 rfl) ?_
  refine lv_iconst (v := 0) hx hb dL_refusesAny_576 (by decide) ?_
  refine lv_bipush (v := 9) hx hb dL_refusesAny_577 (by decide) ?_
  refine q_V (As := [.int (-1:Int32), .int (0:Int32), .int (9:Int32)]) (rest := []) (C := RX7) (T0 := TX7) (N0 := 4) (ci := 6) hx hb hml hown hts hl.1 (kX7_nearest l D E (aZ0 q u21) (rf0_36 h)) zNo_mv (cwV 3 hts gL_refusesAny_X7_nearest rfl rfl rfl (by decide +kernel) ⟨Nat.le_of_ble_eq_true rfl, Nat.le_of_ble_eq_true rfl⟩) 0 rfl rfl hP hK trivial rfl rfl (Nat.le_of_ble_eq_true rfl) dL_refusesAny_579 ⟨Nat.le_of_ble_eq_true rfl, Nat.le_of_ble_eq_true rfl⟩ ?_
  refine lv_iconst (v := -1) hx hb dL_refusesAny_582 (by decide) ?_
  refine lv_icmp_ne (tgt := 640) hx hb dL_refusesAny_583 (by decide) (fun c9 => absurd (by decide) c9) (fun _ => ?_)
  exact ra0_c5 h C hK hA hZ u21 H locs ls hP hD hS hl

set_option maxRecDepth 100000 in
set_option maxHeartbeats 4000000 in
theorem ra0_c3 {l : Launch} {t : Nat → Nat} {D : va_G} {E : Nat → ClassId} {p : Program} {e : Env} {s : State} {m : MethodId} {below : List Frame} {meth : Method} {c : Code} {A : Nat → Prop} {q : Nat} {Z : Nat → FS} {A0 : AS} (h : RH Z A0) (C : Ctx p s m meth c [.ref q, .int (0:Int32)] wsL_refusesAny cL_refusesAny 5 (some .boolean) RL) (hK : va_K D vwCl (tyE E) s) (hA : ∀ q : Nat, s.heap.size ≤ q → A q) (hZ : zSX t A s) (u : Nat → Nat) (H : Heap) (locs : List Loc) (ls : Array Slot) (hP : va_P D vwCl (wQ E (aZ0 q u) Z) H) (hD : va_D A (wQ E (aZ0 q u) Z)) (hS : va_S A s.heap H locs) (hl : lv_has ls 5 [(4, .int (0:Int32)), (3, .int (-1:Int32)), (2, .int (-1:Int32)), (0, .ref q), (1, .int (0:Int32))]) : WI p l e (rmW 15 350 6 24) s m [.ref q, .int (0:Int32)] below meth c D A 1 (fun u1 : Nat → Nat => wQ E (aZ0 q u1) Z) 6 24 H locs 0 0 336 ls [] := by
  obtain ⟨hx, hb, hr, hml, hown, hlocks, hts⟩ := id C
  refine lv_aload_n hx hb dL_refusesAny_336 rfl (lv_at hl 3 rfl) ?_
  refine lv_iconst (v := 1) hx hb dL_refusesAny_337 (by decide) ?_
  refine lv_iload_n hx hb dL_refusesAny_338 rfl (lv_at hl 4 rfl) ?_
  refine lv_if_ne (tgt := 346) hx hb dL_refusesAny_339 (by decide) (fun c9 => absurd (by decide) c9) (fun _ => ?_)
  refine lv_iconst (v := -1) hx hb dL_refusesAny_342 (by decide) ?_
  refine lv_goto (tgt := 348) hx hb dL_refusesAny_343 (by decide) ?_
  refine q_V (As := [.int (1:Int32), .int (-1:Int32)]) (rest := []) (C := RX7) (T0 := TX7) (N0 := 4) (ci := 6) hx hb hml hown hts hl.1 (kX7_tile l D E t (aZ0 q u) (rf0_21 h)) zSt_mv (cwV 2 hts gL_refusesAny_X7_tile rfl rfl rfl (by decide +kernel) ⟨Nat.le_of_ble_eq_true rfl, Nat.le_of_ble_eq_true rfl⟩) 0 rfl rfl hP hK (zSX_now hZ hS) rfl rfl (Nat.le_of_ble_eq_true rfl) dL_refusesAny_348 ⟨Nat.le_of_ble_eq_true rfl, Nat.le_of_ble_eq_true rfl⟩ ?_
  refine lv_bipush (v := -2) hx hb dL_refusesAny_351 (by decide) ?_
  refine lv_icmp_ne (tgt := 480) hx hb dL_refusesAny_353 (by decide) (fun c9 => absurd (by decide) c9) (fun _ => ?_)
  refine lv_aload_n hx hb dL_refusesAny_356 rfl (lv_at hl 3 rfl) ?_
  refine lv_iload hx hb dL_refusesAny_357 (lv_at hl 0 rfl) ?_
  refine lv_iconst (v := 0) hx hb dL_refusesAny_359 (by decide) ?_
  refine q_V (As := [.int (0:Int32), .int (0:Int32)]) (rest := []) (C := RX7) (T0 := TX7) (N0 := 4) (ci := 6) hx hb hml hown hts hl.1 (kX7_letter l D E (aZ0 q u) (rf0_22 h)) zNo_mv (cwV 2 hts gL_refusesAny_X7_letter rfl rfl rfl (by decide +kernel) ⟨Nat.le_of_ble_eq_true rfl, Nat.le_of_ble_eq_true rfl⟩) 0 rfl rfl hP hK trivial rfl rfl (Nat.le_of_ble_eq_true rfl) dL_refusesAny_360 ⟨Nat.le_of_ble_eq_true rfl, Nat.le_of_ble_eq_true rfl⟩ ?_
  refine lv_iconst (v := -1) hx hb dL_refusesAny_363 (by decide) ?_
  refine lv_icmp_ne (tgt := 480) hx hb dL_refusesAny_364 (by decide) (fun c9 => absurd (by decide) c9) (fun _ => ?_)
  refine lv_aload_n hx hb dL_refusesAny_367 rfl (lv_at hl 3 rfl) ?_
  refine lv_iconst (v := 1) hx hb dL_refusesAny_368 (by decide) ?_
  refine lv_iconst (v := 0) hx hb dL_refusesAny_369 (by decide) ?_
  refine q_V (As := [.int (1:Int32), .int (0:Int32)]) (rest := []) (C := RX7) (T0 := TX7) (N0 := 4) (ci := 6) hx hb hml hown hts hl.1 (kX7_letter l D E (aZ0 q u) (rf0_23 h)) zNo_mv (cwV 2 hts gL_refusesAny_X7_letter rfl rfl rfl (by decide +kernel) ⟨Nat.le_of_ble_eq_true rfl, Nat.le_of_ble_eq_true rfl⟩) 0 rfl rfl hP hK trivial rfl rfl (Nat.le_of_ble_eq_true rfl) dL_refusesAny_370 ⟨Nat.le_of_ble_eq_true rfl, Nat.le_of_ble_eq_true rfl⟩ ?_
  refine lv_iconst (v := -1) hx hb dL_refusesAny_373 (by decide) ?_
  refine lv_icmp_ne (tgt := 480) hx hb dL_refusesAny_374 (by decide) (fun c9 => absurd (by decide) c9) (fun _ => ?_)
  refine lv_aload_n hx hb dL_refusesAny_377 rfl (lv_at hl 3 rfl) ?_
  refine lv_bipush (v := 7) hx hb dL_refusesAny_378 (by decide) ?_
  refine lv_iload_n hx hb dL_refusesAny_380 rfl (lv_at hl 4 rfl) ?_
  refine lv_if_ne (tgt := 388) hx hb dL_refusesAny_381 (by decide) (fun c9 => absurd (by decide) c9) (fun _ => ?_)
  refine lv_iconst (v := -1) hx hb dL_refusesAny_384 (by decide) ?_
  refine lv_goto (tgt := 389) hx hb dL_refusesAny_385 (by decide) ?_
  refine q_V (As := [.int (7:Int32), .int (-1:Int32)]) (rest := []) (C := RX7) (T0 := TX7) (N0 := 4) (ci := 6) hx hb hml hown hts hl.1 (kX7_letter l D E (aZ0 q u) (rf0_24 h)) zNo_mv (cwV 2 hts gL_refusesAny_X7_letter rfl rfl rfl (by decide +kernel) ⟨Nat.le_of_ble_eq_true rfl, Nat.le_of_ble_eq_true rfl⟩) 0 rfl rfl hP hK trivial rfl rfl (Nat.le_of_ble_eq_true rfl) dL_refusesAny_389 ⟨Nat.le_of_ble_eq_true rfl, Nat.le_of_ble_eq_true rfl⟩ ?_
  refine lv_iconst (v := -1) hx hb dL_refusesAny_392 (by decide) ?_
  refine lv_icmp_ne (tgt := 480) hx hb dL_refusesAny_393 (by decide) (fun c9 => absurd (by decide) c9) (fun _ => ?_)
  refine lv_aload_n hx hb dL_refusesAny_396 rfl (lv_at hl 3 rfl) ?_
  refine lv_iload hx hb dL_refusesAny_397 (lv_at hl 0 rfl) ?_
  refine lv_bipush (v := 9) hx hb dL_refusesAny_399 (by decide) ?_
  refine lv_bipush (v := 9) hx hb dL_refusesAny_401 (by decide) ?_
  refine q_V (As := [.int (0:Int32), .int (9:Int32), .int (9:Int32)]) (rest := []) (C := RX7) (T0 := TX7) (N0 := 4) (ci := 6) hx hb hml hown hts hl.1 (kX7_beside l D E t (aZ0 q u) (rf0_25 h)) zSt_mv (cwV 3 hts gL_refusesAny_X7_beside rfl rfl rfl (by decide +kernel) ⟨Nat.le_of_ble_eq_true rfl, Nat.le_of_ble_eq_true rfl⟩) 0 rfl rfl hP hK (zSX_now hZ hS) rfl rfl (Nat.le_of_ble_eq_true rfl) dL_refusesAny_403 ⟨Nat.le_of_ble_eq_true rfl, Nat.le_of_ble_eq_true rfl⟩ ?_
  refine lv_iconst (v := -1) hx hb dL_refusesAny_406 (by decide) ?_
  refine lv_icmp_ne (tgt := 480) hx hb dL_refusesAny_407 (by decide) (fun c9 => absurd (by decide) c9) (fun _ => ?_)
  refine lv_aload_n hx hb dL_refusesAny_410 rfl (lv_at hl 3 rfl) ?_
  refine lv_iconst (v := 1) hx hb dL_refusesAny_411 (by decide) ?_
  refine lv_iload_n hx hb dL_refusesAny_412 rfl (lv_at hl 4 rfl) ?_
  refine lv_if_ne (tgt := 420) hx hb dL_refusesAny_413 (by decide) (fun c9 => absurd (by decide) c9) (fun _ => ?_)
  refine lv_iconst (v := -1) hx hb dL_refusesAny_416 (by decide) ?_
  refine lv_goto (tgt := 422) hx hb dL_refusesAny_417 (by decide) ?_
  refine lv_iconst (v := 0) hx hb dL_refusesAny_422 (by decide) ?_
  refine q_V (As := [.int (1:Int32), .int (-1:Int32), .int (0:Int32)]) (rest := []) (C := RX7) (T0 := TX7) (N0 := 4) (ci := 6) hx hb hml hown hts hl.1 (kX7_beside l D E t (aZ0 q u) (rf0_26 h)) zSt_mv (cwV 3 hts gL_refusesAny_X7_beside rfl rfl rfl (by decide +kernel) ⟨Nat.le_of_ble_eq_true rfl, Nat.le_of_ble_eq_true rfl⟩) 0 rfl rfl hP hK (zSX_now hZ hS) rfl rfl (Nat.le_of_ble_eq_true rfl) dL_refusesAny_423 ⟨Nat.le_of_ble_eq_true rfl, Nat.le_of_ble_eq_true rfl⟩ ?_
  refine lv_bipush (v := -2) hx hb dL_refusesAny_426 (by decide) ?_
  refine lv_icmp_ne (tgt := 480) hx hb dL_refusesAny_428 (by decide) (fun c9 => absurd (by decide) c9) (fun _ => ?_)
  refine lv_aload_n hx hb dL_refusesAny_431 rfl (lv_at hl 3 rfl) ?_
  refine lv_iconst (v := 1) hx hb dL_refusesAny_432 (by decide) ?_
  refine lv_iconst (v := 0) hx hb dL_refusesAny_433 (by decide) ?_
  refine lv_iload_n hx hb dL_refusesAny_434 rfl (lv_at hl 4 rfl) ?_
  refine lv_if_ne (tgt := 442) hx hb dL_refusesAny_435 (by decide) (fun c9 => absurd (by decide) c9) (fun _ => ?_)
  refine lv_iconst (v := -1) hx hb dL_refusesAny_438 (by decide) ?_
  refine lv_goto (tgt := 443) hx hb dL_refusesAny_439 (by decide) ?_
  refine q_V (As := [.int (1:Int32), .int (0:Int32), .int (-1:Int32)]) (rest := []) (C := RX7) (T0 := TX7) (N0 := 4) (ci := 6) hx hb hml hown hts hl.1 (kX7_beside l D E t (aZ0 q u) (rf0_27 h)) zSt_mv (cwV 3 hts gL_refusesAny_X7_beside rfl rfl rfl (by decide +kernel) ⟨Nat.le_of_ble_eq_true rfl, Nat.le_of_ble_eq_true rfl⟩) 0 rfl rfl hP hK (zSX_now hZ hS) rfl rfl (Nat.le_of_ble_eq_true rfl) dL_refusesAny_443 ⟨Nat.le_of_ble_eq_true rfl, Nat.le_of_ble_eq_true rfl⟩ ?_
  refine lv_bipush (v := -2) hx hb dL_refusesAny_446 (by decide) ?_
  refine lv_icmp_ne (tgt := 480) hx hb dL_refusesAny_448 (by decide) (fun c9 => absurd (by decide) c9) (fun _ => ?_)
  refine lv_aload_n hx hb dL_refusesAny_451 rfl (lv_at hl 3 rfl) ?_
  refine lv_iload hx hb dL_refusesAny_452 (lv_at hl 0 rfl) ?_
  refine q_V (As := [.int (0:Int32)]) (rest := []) (C := RX7) (T0 := TX7) (N0 := 4) (ci := 6) hx hb hml hown hts hl.1 (kX7_neighbours l D E t (aZ0 q u) (rf0_28 h)) zSt_mv (cwV 1 hts gL_refusesAny_X7_neighbours rfl rfl rfl (by decide +kernel) ⟨Nat.le_of_ble_eq_true rfl, Nat.le_of_ble_eq_true rfl⟩) 0 rfl rfl hP hK (zSX_now hZ hS) rfl rfl (Nat.le_of_ble_eq_true rfl) dL_refusesAny_454 ⟨Nat.le_of_ble_eq_true rfl, Nat.le_of_ble_eq_true rfl⟩ ?_
  refine lv_iconst (v := -1) hx hb dL_refusesAny_457 (by decide) ?_
  refine lv_icmp_ne (tgt := 480) hx hb dL_refusesAny_458 (by decide) (fun c9 => absurd (by decide) c9) (fun _ => ?_)
  exact ra0_c4 h C hK hA hZ u H locs ls hP hD hS hl

set_option maxRecDepth 100000 in
set_option maxHeartbeats 4000000 in
theorem ra0_c2 {l : Launch} {t : Nat → Nat} {D : va_G} {E : Nat → ClassId} {p : Program} {e : Env} {s : State} {m : MethodId} {below : List Frame} {meth : Method} {c : Code} {A : Nat → Prop} {q : Nat} {Z : Nat → FS} {A0 : AS} (h : RH Z A0) (C : Ctx p s m meth c [.ref q, .int (0:Int32)] wsL_refusesAny cL_refusesAny 5 (some .boolean) RL) (hK : va_K D vwCl (tyE E) s) (hA : ∀ q : Nat, s.heap.size ≤ q → A q) (hZ : zSX t A s) (u : Nat → Nat) (H : Heap) (locs : List Loc) (ls : Array Slot) (hP : va_P D vwCl (wQ E (aZ0 q u) Z) H) (hD : va_D A (wQ E (aZ0 q u) Z)) (hS : va_S A s.heap H locs) (hl : lv_has ls 5 [(4, .int (0:Int32)), (3, .int (-1:Int32)), (2, .int (-1:Int32)), (0, .ref q), (1, .int (0:Int32))]) : WI p l e (rmW 15 350 6 24) s m [.ref q, .int (0:Int32)] below meth c D A 1 (fun u1 : Nat → Nat => wQ E (aZ0 q u1) Z) 6 24 H locs 0 0 221 ls [] := by
  obtain ⟨hx, hb, hr, hml, hown, hlocks, hts⟩ := id C
  refine lv_aload_n hx hb dL_refusesAny_221 rfl (lv_at hl 3 rfl) ?_
  refine lv_iload_n hx hb dL_refusesAny_222 rfl (lv_at hl 4 rfl) ?_
  refine lv_if_ne (tgt := 232) hx hb dL_refusesAny_223 (by decide) (fun c9 => absurd (by decide) c9) (fun _ => ?_)
  refine lv_sipush (v := 2000) hx hb dL_refusesAny_226 (by decide) ?_
  refine lv_goto (tgt := 235) hx hb dL_refusesAny_229 (by decide) ?_
  refine lv_iconst (v := 0) hx hb dL_refusesAny_235 (by decide) ?_
  refine t0_VI (As := [.int (2000:Int32), .int (0:Int32)]) (rest := []) (Z1 := Z) hx hb hml hown hts hl.1 (kX7_split l D E (aZ0 q u) H.size (rf0_13 h)) (cwV 2 hts gL_refusesAny_X7_split rfl rfl rfl (by decide +kernel) ⟨Nat.le_of_ble_eq_true rfl, Nat.le_of_ble_eq_true rfl⟩) hP hD hS hA hK rfl rfl (Nat.le_of_ble_eq_true rfl) dL_refusesAny_236 ⟨Nat.le_of_ble_eq_true rfl, Nat.le_of_ble_eq_true rfl⟩ (fun u14 H locs hP hD hS => ?_)
  refine lv_bipush (v := -5) hx hb dL_refusesAny_239 (by decide) ?_
  refine lv_icmp_ne (tgt := 253) hx hb dL_refusesAny_241 (by decide) (fun c9 => absurd (by decide) c9) (fun _ => ?_)
  refine lv_aload_n hx hb dL_refusesAny_244 rfl (lv_at hl 3 rfl) ?_
  refine t0_VI (As := []) (rest := []) (Z1 := Z) hx hb hml hown hts hl.1 (kX7_putAll l D E (aZ0 q u14) H.size (rf0_14 h)) (cwV 0 hts gL_refusesAny_X7_putAll rfl rfl rfl (by decide +kernel) ⟨Nat.le_of_ble_eq_true rfl, Nat.le_of_ble_eq_true rfl⟩) hP hD hS hA hK rfl rfl (Nat.le_of_ble_eq_true rfl) dL_refusesAny_245 ⟨Nat.le_of_ble_eq_true rfl, Nat.le_of_ble_eq_true rfl⟩ (fun u15 H locs hP hD hS => ?_)
  refine lv_bipush (v := -3) hx hb dL_refusesAny_248 (by decide) ?_
  refine lv_icmp_eq (tgt := 255) hx hb dL_refusesAny_250 (by decide) (fun _ => ?_) (fun c9 => absurd (by decide) c9)
  refine lv_aload_n hx hb dL_refusesAny_255 rfl (lv_at hl 3 rfl) ?_
  refine lv_iload_n hx hb dL_refusesAny_256 rfl (lv_at hl 1 rfl) ?_
  refine lv_bipush (v := 9) hx hb dL_refusesAny_257 (by decide) ?_
  refine q_V (As := [.int (-1:Int32), .int (9:Int32)]) (rest := []) (C := RX7) (T0 := TX7) (N0 := 4) (ci := 6) hx hb hml hown hts hl.1 (kX7_of l D E (aZ0 q u15) (rf0_15 h)) zNo_mv (cwV 2 hts gL_refusesAny_X7_of rfl rfl rfl (by decide +kernel) ⟨Nat.le_of_ble_eq_true rfl, Nat.le_of_ble_eq_true rfl⟩) 0 rfl rfl hP hK trivial rfl rfl (Nat.le_of_ble_eq_true rfl) dL_refusesAny_259 ⟨Nat.le_of_ble_eq_true rfl, Nat.le_of_ble_eq_true rfl⟩ ?_
  refine lv_iconst (v := -1) hx hb dL_refusesAny_262 (by decide) ?_
  refine lv_icmp_ne (tgt := 480) hx hb dL_refusesAny_263 (by decide) (fun c9 => absurd (by decide) c9) (fun _ => ?_)
  refine lv_aload_n hx hb dL_refusesAny_266 rfl (lv_at hl 3 rfl) ?_
  refine lv_iconst (v := 0) hx hb dL_refusesAny_267 (by decide) ?_
  refine lv_iload_n hx hb dL_refusesAny_268 rfl (lv_at hl 4 rfl) ?_
  refine lv_if_ne (tgt := 276) hx hb dL_refusesAny_269 (by decide) (fun c9 => absurd (by decide) c9) (fun _ => ?_)
  refine lv_iconst (v := -1) hx hb dL_refusesAny_272 (by decide) ?_
  refine lv_goto (tgt := 277) hx hb dL_refusesAny_273 (by decide) ?_
  refine q_V (As := [.int (0:Int32), .int (-1:Int32)]) (rest := []) (C := RX7) (T0 := TX7) (N0 := 4) (ci := 6) hx hb hml hown hts hl.1 (kX7_of l D E (aZ0 q u15) (rf0_16 h)) zNo_mv (cwV 2 hts gL_refusesAny_X7_of rfl rfl rfl (by decide +kernel) ⟨Nat.le_of_ble_eq_true rfl, Nat.le_of_ble_eq_true rfl⟩) 0 rfl rfl hP hK trivial rfl rfl (Nat.le_of_ble_eq_true rfl) dL_refusesAny_277 ⟨Nat.le_of_ble_eq_true rfl, Nat.le_of_ble_eq_true rfl⟩ ?_
  refine lv_bipush (v := -2) hx hb dL_refusesAny_280 (by decide) ?_
  refine lv_icmp_ne (tgt := 480) hx hb dL_refusesAny_282 (by decide) (fun c9 => absurd (by decide) c9) (fun _ => ?_)
  refine lv_aload_n hx hb dL_refusesAny_285 rfl (lv_at hl 3 rfl) ?_
  refine lv_iload_n hx hb dL_refusesAny_286 rfl (lv_at hl 2 rfl) ?_
  refine lv_iconst (v := 0) hx hb dL_refusesAny_287 (by decide) ?_
  refine q_V (As := [.int (-1:Int32), .int (0:Int32)]) (rest := []) (C := RX7) (T0 := TX7) (N0 := 4) (ci := 6) hx hb hml hown hts hl.1 (kX7_leafAt l D E (aZ0 q u15) (rf0_17 h)) zNo_mv (cwV 2 hts gL_refusesAny_X7_leafAt rfl rfl rfl (by decide +kernel) ⟨Nat.le_of_ble_eq_true rfl, Nat.le_of_ble_eq_true rfl⟩) 0 rfl rfl hP hK trivial rfl rfl (Nat.le_of_ble_eq_true rfl) dL_refusesAny_288 ⟨Nat.le_of_ble_eq_true rfl, Nat.le_of_ble_eq_true rfl⟩ ?_
  refine lv_iconst (v := -1) hx hb dL_refusesAny_291 (by decide) ?_
  refine lv_icmp_ne (tgt := 480) hx hb dL_refusesAny_292 (by decide) (fun c9 => absurd (by decide) c9) (fun _ => ?_)
  refine lv_aload_n hx hb dL_refusesAny_295 rfl (lv_at hl 3 rfl) ?_
  refine lv_iconst (v := 0) hx hb dL_refusesAny_296 (by decide) ?_
  refine lv_iload_n hx hb dL_refusesAny_297 rfl (lv_at hl 2 rfl) ?_
  refine q_V (As := [.int (0:Int32), .int (-1:Int32)]) (rest := []) (C := RX7) (T0 := TX7) (N0 := 4) (ci := 6) hx hb hml hown hts hl.1 (kX7_leafAt l D E (aZ0 q u15) (rf0_18 h)) zNo_mv (cwV 2 hts gL_refusesAny_X7_leafAt rfl rfl rfl (by decide +kernel) ⟨Nat.le_of_ble_eq_true rfl, Nat.le_of_ble_eq_true rfl⟩) 0 rfl rfl hP hK trivial rfl rfl (Nat.le_of_ble_eq_true rfl) dL_refusesAny_298 ⟨Nat.le_of_ble_eq_true rfl, Nat.le_of_ble_eq_true rfl⟩ ?_
  refine lv_iconst (v := -1) hx hb dL_refusesAny_301 (by decide) ?_
  refine lv_icmp_ne (tgt := 480) hx hb dL_refusesAny_302 (by decide) (fun c9 => absurd (by decide) c9) (fun _ => ?_)
  refine lv_aload_n hx hb dL_refusesAny_305 rfl (lv_at hl 3 rfl) ?_
  refine lv_iload hx hb dL_refusesAny_306 (lv_at hl 0 rfl) ?_
  refine lv_bipush (v := 9) hx hb dL_refusesAny_308 (by decide) ?_
  refine q_V (As := [.int (0:Int32), .int (9:Int32)]) (rest := []) (C := RX7) (T0 := TX7) (N0 := 4) (ci := 6) hx hb hml hown hts hl.1 (kX7_tile l D E t (aZ0 q u15) (rf0_19 h)) zSt_mv (cwV 2 hts gL_refusesAny_X7_tile rfl rfl rfl (by decide +kernel) ⟨Nat.le_of_ble_eq_true rfl, Nat.le_of_ble_eq_true rfl⟩) 0 rfl rfl hP hK (zSX_now hZ hS) rfl rfl (Nat.le_of_ble_eq_true rfl) dL_refusesAny_310 ⟨Nat.le_of_ble_eq_true rfl, Nat.le_of_ble_eq_true rfl⟩ ?_
  refine lv_iconst (v := -1) hx hb dL_refusesAny_313 (by decide) ?_
  refine lv_icmp_ne (tgt := 480) hx hb dL_refusesAny_314 (by decide) (fun c9 => absurd (by decide) c9) (fun _ => ?_)
  refine lv_aload_n hx hb dL_refusesAny_317 rfl (lv_at hl 3 rfl) ?_
  refine lv_iload_n hx hb dL_refusesAny_318 rfl (lv_at hl 4 rfl) ?_
  refine lv_if_ne (tgt := 326) hx hb dL_refusesAny_319 (by decide) (fun c9 => absurd (by decide) c9) (fun _ => ?_)
  refine lv_iconst (v := 3) hx hb dL_refusesAny_322 (by decide) ?_
  refine lv_goto (tgt := 328) hx hb dL_refusesAny_323 (by decide) ?_
  refine lv_iconst (v := 0) hx hb dL_refusesAny_328 (by decide) ?_
  refine q_V (As := [.int (3:Int32), .int (0:Int32)]) (rest := []) (C := RX7) (T0 := TX7) (N0 := 4) (ci := 6) hx hb hml hown hts hl.1 (kX7_tile l D E t (aZ0 q u15) (rf0_20 h)) zSt_mv (cwV 2 hts gL_refusesAny_X7_tile rfl rfl rfl (by decide +kernel) ⟨Nat.le_of_ble_eq_true rfl, Nat.le_of_ble_eq_true rfl⟩) 0 rfl rfl hP hK (zSX_now hZ hS) rfl rfl (Nat.le_of_ble_eq_true rfl) dL_refusesAny_329 ⟨Nat.le_of_ble_eq_true rfl, Nat.le_of_ble_eq_true rfl⟩ ?_
  refine lv_iconst (v := -1) hx hb dL_refusesAny_332 (by decide) ?_
  refine lv_icmp_ne (tgt := 480) hx hb dL_refusesAny_333 (by decide) (fun c9 => absurd (by decide) c9) (fun _ => ?_)
  exact ra0_c3 h C hK hA hZ u15 H locs ls hP hD hS hl

set_option maxRecDepth 100000 in
set_option maxHeartbeats 4000000 in
theorem ra0_c1 {l : Launch} {t : Nat → Nat} {D : va_G} {E : Nat → ClassId} {p : Program} {e : Env} {s : State} {m : MethodId} {below : List Frame} {meth : Method} {c : Code} {A : Nat → Prop} {q : Nat} {Z : Nat → FS} {A0 : AS} (h : RH Z A0) (C : Ctx p s m meth c [.ref q, .int (0:Int32)] wsL_refusesAny cL_refusesAny 5 (some .boolean) RL) (hK : va_K D vwCl (tyE E) s) (hA : ∀ q : Nat, s.heap.size ≤ q → A q) (hZ : zSX t A s) (u : Nat → Nat) (H : Heap) (locs : List Loc) (ls : Array Slot) (hP : va_P D vwCl (wQ E (aZ0 q u) Z) H) (hD : va_D A (wQ E (aZ0 q u) Z)) (hS : va_S A s.heap H locs) (hl : lv_has ls 5 [(4, .int (0:Int32)), (3, .int (-1:Int32)), (2, .int (-1:Int32)), (0, .ref q), (1, .int (0:Int32))]) : WI p l e (rmW 15 350 6 24) s m [.ref q, .int (0:Int32)] below meth c D A 1 (fun u1 : Nat → Nat => wQ E (aZ0 q u1) Z) 6 24 H locs 0 0 117 ls [] := by
  obtain ⟨hx, hb, hr, hml, hown, hlocks, hts⟩ := id C
  refine lv_aload_n hx hb dL_refusesAny_117 rfl (lv_at hl 3 rfl) ?_
  refine lv_iload_n hx hb dL_refusesAny_118 rfl (lv_at hl 1 rfl) ?_
  refine t0_VI (As := [.int (-1:Int32)]) (rest := []) (Z1 := Z) hx hb hml hown hts hl.1 (kX7_take l D E (aZ0 q u) H.size (rf0_5 h)) (cwV 1 hts gL_refusesAny_X7_take rfl rfl rfl (by decide +kernel) ⟨Nat.le_of_ble_eq_true rfl, Nat.le_of_ble_eq_true rfl⟩) hP hD hS hA hK rfl rfl (Nat.le_of_ble_eq_true rfl) dL_refusesAny_119 ⟨Nat.le_of_ble_eq_true rfl, Nat.le_of_ble_eq_true rfl⟩ (fun u6 H locs hP hD hS => ?_)
  refine lv_iconst (v := -1) hx hb dL_refusesAny_122 (by decide) ?_
  refine lv_icmp_ne (tgt := 253) hx hb dL_refusesAny_123 (by decide) (fun c9 => absurd (by decide) c9) (fun _ => ?_)
  refine lv_aload_n hx hb dL_refusesAny_126 rfl (lv_at hl 3 rfl) ?_
  refine lv_iload_n hx hb dL_refusesAny_127 rfl (lv_at hl 1 rfl) ?_
  refine lv_iconst (v := 0) hx hb dL_refusesAny_128 (by decide) ?_
  refine lv_iconst (v := 0) hx hb dL_refusesAny_129 (by decide) ?_
  refine t0_VI (As := [.int (-1:Int32), .int (0:Int32), .int (0:Int32)]) (rest := []) (Z1 := Z) hx hb hml hown hts hl.1 (kX7_move l D E (aZ0 q u6) H.size (rf0_6 h)) (cwV 3 hts gL_refusesAny_X7_move rfl rfl rfl (by decide +kernel) ⟨Nat.le_of_ble_eq_true rfl, Nat.le_of_ble_eq_true rfl⟩) hP hD hS hA hK rfl rfl (Nat.le_of_ble_eq_true rfl) dL_refusesAny_130 ⟨Nat.le_of_ble_eq_true rfl, Nat.le_of_ble_eq_true rfl⟩ (fun u7 H locs hP hD hS => ?_)
  refine lv_iconst (v := -1) hx hb dL_refusesAny_133 (by decide) ?_
  refine lv_icmp_ne (tgt := 253) hx hb dL_refusesAny_134 (by decide) (fun c9 => absurd (by decide) c9) (fun _ => ?_)
  refine lv_aload_n hx hb dL_refusesAny_137 rfl (lv_at hl 3 rfl) ?_
  refine lv_iconst (v := 0) hx hb dL_refusesAny_138 (by decide) ?_
  refine lv_iload_n hx hb dL_refusesAny_139 rfl (lv_at hl 2 rfl) ?_
  refine lv_iconst (v := 0) hx hb dL_refusesAny_140 (by decide) ?_
  refine t0_VI (As := [.int (0:Int32), .int (-1:Int32), .int (0:Int32)]) (rest := []) (Z1 := Z) hx hb hml hown hts hl.1 (kX7_move l D E (aZ0 q u7) H.size (rf0_7 h)) (cwV 3 hts gL_refusesAny_X7_move rfl rfl rfl (by decide +kernel) ⟨Nat.le_of_ble_eq_true rfl, Nat.le_of_ble_eq_true rfl⟩) hP hD hS hA hK rfl rfl (Nat.le_of_ble_eq_true rfl) dL_refusesAny_141 ⟨Nat.le_of_ble_eq_true rfl, Nat.le_of_ble_eq_true rfl⟩ (fun u8 H locs hP hD hS => ?_)
  refine lv_iconst (v := -1) hx hb dL_refusesAny_144 (by decide) ?_
  refine lv_icmp_ne (tgt := 253) hx hb dL_refusesAny_145 (by decide) (fun c9 => absurd (by decide) c9) (fun _ => ?_)
  refine lv_aload_n hx hb dL_refusesAny_148 rfl (lv_at hl 3 rfl) ?_
  refine lv_iconst (v := 0) hx hb dL_refusesAny_149 (by decide) ?_
  refine lv_iconst (v := 0) hx hb dL_refusesAny_150 (by decide) ?_
  refine lv_iload_n hx hb dL_refusesAny_151 rfl (lv_at hl 2 rfl) ?_
  refine t0_VI (As := [.int (0:Int32), .int (0:Int32), .int (-1:Int32)]) (rest := []) (Z1 := Z) hx hb hml hown hts hl.1 (kX7_move l D E (aZ0 q u8) H.size (rf0_8 h)) (cwV 3 hts gL_refusesAny_X7_move rfl rfl rfl (by decide +kernel) ⟨Nat.le_of_ble_eq_true rfl, Nat.le_of_ble_eq_true rfl⟩) hP hD hS hA hK rfl rfl (Nat.le_of_ble_eq_true rfl) dL_refusesAny_152 ⟨Nat.le_of_ble_eq_true rfl, Nat.le_of_ble_eq_true rfl⟩ (fun u9 H locs hP hD hS => ?_)
  refine lv_iconst (v := -1) hx hb dL_refusesAny_155 (by decide) ?_
  refine lv_icmp_ne (tgt := 253) hx hb dL_refusesAny_156 (by decide) (fun c9 => absurd (by decide) c9) (fun _ => ?_)
  refine lv_aload_n hx hb dL_refusesAny_159 rfl (lv_at hl 3 rfl) ?_
  refine lv_iload hx hb dL_refusesAny_160 (lv_at hl 0 rfl) ?_
  refine lv_iconst (v := 1) hx hb dL_refusesAny_162 (by decide) ?_
  refine t0_VI (As := [.int (0:Int32), .int (1:Int32)]) (rest := []) (Z1 := Z) hx hb hml hown hts hl.1 (kX7_split l D E (aZ0 q u9) H.size (rf0_9 h)) (cwV 2 hts gL_refusesAny_X7_split rfl rfl rfl (by decide +kernel) ⟨Nat.le_of_ble_eq_true rfl, Nat.le_of_ble_eq_true rfl⟩) hP hD hS hA hK rfl rfl (Nat.le_of_ble_eq_true rfl) dL_refusesAny_163 ⟨Nat.le_of_ble_eq_true rfl, Nat.le_of_ble_eq_true rfl⟩ (fun u10 H locs hP hD hS => ?_)
  refine lv_iconst (v := -1) hx hb dL_refusesAny_166 (by decide) ?_
  refine lv_icmp_ne (tgt := 253) hx hb dL_refusesAny_167 (by decide) (fun c9 => absurd (by decide) c9) (fun _ => ?_)
  refine lv_aload_n hx hb dL_refusesAny_170 rfl (lv_at hl 3 rfl) ?_
  refine lv_iload_n hx hb dL_refusesAny_171 rfl (lv_at hl 4 rfl) ?_
  refine lv_if_ne (tgt := 179) hx hb dL_refusesAny_172 (by decide) (fun c9 => absurd (by decide) c9) (fun _ => ?_)
  refine lv_iconst (v := 2) hx hb dL_refusesAny_175 (by decide) ?_
  refine lv_goto (tgt := 181) hx hb dL_refusesAny_176 (by decide) ?_
  refine lv_iconst (v := 1) hx hb dL_refusesAny_181 (by decide) ?_
  refine t0_VI (As := [.int (2:Int32), .int (1:Int32)]) (rest := []) (Z1 := Z) hx hb hml hown hts hl.1 (kX7_split l D E (aZ0 q u10) H.size (rf0_10 h)) (cwV 2 hts gL_refusesAny_X7_split rfl rfl rfl (by decide +kernel) ⟨Nat.le_of_ble_eq_true rfl, Nat.le_of_ble_eq_true rfl⟩) hP hD hS hA hK rfl rfl (Nat.le_of_ble_eq_true rfl) dL_refusesAny_182 ⟨Nat.le_of_ble_eq_true rfl, Nat.le_of_ble_eq_true rfl⟩ (fun u11 H locs hP hD hS => ?_)
  refine lv_iconst (v := -1) hx hb dL_refusesAny_185 (by decide) ?_
  refine lv_icmp_ne (tgt := 253) hx hb dL_refusesAny_186 (by decide) (fun c9 => absurd (by decide) c9) (fun _ => ?_)
  refine lv_aload_n hx hb dL_refusesAny_189 rfl (lv_at hl 3 rfl) ?_
  refine lv_iload_n hx hb dL_refusesAny_190 rfl (lv_at hl 4 rfl) ?_
  refine lv_if_ne (tgt := 200) hx hb dL_refusesAny_191 (by decide) (fun c9 => absurd (by decide) c9) (fun _ => ?_)
  refine lv_sipush (v := 4096) hx hb dL_refusesAny_194 (by decide) ?_
  refine lv_goto (tgt := 203) hx hb dL_refusesAny_197 (by decide) ?_
  refine lv_iconst (v := 1) hx hb dL_refusesAny_203 (by decide) ?_
  refine t0_VI (As := [.int (4096:Int32), .int (1:Int32)]) (rest := []) (Z1 := Z) hx hb hml hown hts hl.1 (kX7_split l D E (aZ0 q u11) H.size (rf0_11 h)) (cwV 2 hts gL_refusesAny_X7_split rfl rfl rfl (by decide +kernel) ⟨Nat.le_of_ble_eq_true rfl, Nat.le_of_ble_eq_true rfl⟩) hP hD hS hA hK rfl rfl (Nat.le_of_ble_eq_true rfl) dL_refusesAny_204 ⟨Nat.le_of_ble_eq_true rfl, Nat.le_of_ble_eq_true rfl⟩ (fun u12 H locs hP hD hS => ?_)
  refine lv_iconst (v := -1) hx hb dL_refusesAny_207 (by decide) ?_
  refine lv_icmp_ne (tgt := 253) hx hb dL_refusesAny_208 (by decide) (fun c9 => absurd (by decide) c9) (fun _ => ?_)
  refine lv_aload_n hx hb dL_refusesAny_211 rfl (lv_at hl 3 rfl) ?_
  refine lv_iconst (v := -1) hx hb dL_refusesAny_212 (by decide) ?_
  refine lv_iconst (v := 0) hx hb dL_refusesAny_213 (by decide) ?_
  refine t0_VI (As := [.int (-1:Int32), .int (0:Int32)]) (rest := []) (Z1 := Z) hx hb hml hown hts hl.1 (kX7_split l D E (aZ0 q u12) H.size (rf0_12 h)) (cwV 2 hts gL_refusesAny_X7_split rfl rfl rfl (by decide +kernel) ⟨Nat.le_of_ble_eq_true rfl, Nat.le_of_ble_eq_true rfl⟩) hP hD hS hA hK rfl rfl (Nat.le_of_ble_eq_true rfl) dL_refusesAny_214 ⟨Nat.le_of_ble_eq_true rfl, Nat.le_of_ble_eq_true rfl⟩ (fun u13 H locs hP hD hS => ?_)
  refine lv_iconst (v := -1) hx hb dL_refusesAny_217 (by decide) ?_
  refine lv_icmp_ne (tgt := 253) hx hb dL_refusesAny_218 (by decide) (fun c9 => absurd (by decide) c9) (fun _ => ?_)
  exact ra0_c2 h C hK hA hZ u13 H locs ls hP hD hS hl

set_option maxRecDepth 100000 in
set_option maxHeartbeats 4000000 in
theorem ra0_c0 {l : Launch} {t : Nat → Nat} {D : va_G} {E : Nat → ClassId} {p : Program} {e : Env} {s : State} {m : MethodId} {below : List Frame} {meth : Method} {c : Code} {A : Nat → Prop} {q : Nat} {Z : Nat → FS} {A0 : AS} (h : RH Z A0) (C : Ctx p s m meth c [.ref q, .int (0:Int32)] wsL_refusesAny cL_refusesAny 5 (some .boolean) RL) (hK : va_K D vwCl (tyE E) s) (hA : ∀ q : Nat, s.heap.size ≤ q → A q) (hZ : zSX t A s) (u : Nat → Nat) (H : Heap) (locs : List Loc) (ls : Array Slot) (hP : va_P D vwCl (wQ E (aZ0 q u) Z) H) (hD : va_D A (wQ E (aZ0 q u) Z)) (hS : va_S A s.heap H locs) (hl : lv_has ls 5 [(0, .ref q), (1, .int (0:Int32))]) : WI p l e (rmW 15 350 6 24) s m [.ref q, .int (0:Int32)] below meth c D A 1 (fun u1 : Nat → Nat => wQ E (aZ0 q u1) Z) 6 24 H locs 0 0 0 ls [] := by
  obtain ⟨hx, hb, hr, hml, hown, hlocks, hts⟩ := id C
  refine lv_iload_n hx hb dL_refusesAny_0 rfl (lv_at hl 1 rfl) ?_
  refine lv_if_ne (tgt := 8) hx hb dL_refusesAny_1 (by decide) (fun c9 => absurd (by decide) c9) (fun _ => ?_)
  refine lv_iconst (v := -1) hx hb dL_refusesAny_4 (by decide) ?_
  refine lv_goto (tgt := 10) hx hb dL_refusesAny_5 (by decide) ?_
  refine lv_istore_n (lv' := [(2, .int (-1:Int32)), (0, .ref q), (1, .int (0:Int32))]) hx hb dL_refusesAny_10 rfl hl (by decide) rfl (fun ls hl => ?_)
  refine lv_iload_n hx hb dL_refusesAny_11 rfl (lv_at hl 2 rfl) ?_
  refine lv_if_ne (tgt := 19) hx hb dL_refusesAny_12 (by decide) (fun c9 => absurd (by decide) c9) (fun _ => ?_)
  refine lv_iconst (v := -1) hx hb dL_refusesAny_15 (by decide) ?_
  refine lv_goto (tgt := 24) hx hb dL_refusesAny_16 (by decide) ?_
  refine lv_istore_n (lv' := [(3, .int (-1:Int32)), (2, .int (-1:Int32)), (0, .ref q), (1, .int (0:Int32))]) hx hb dL_refusesAny_24 rfl hl (by decide) rfl (fun ls hl => ?_)
  refine lv_iload_n hx hb dL_refusesAny_25 rfl (lv_at hl 3 rfl) ?_
  refine lv_if_ne (tgt := 33) hx hb dL_refusesAny_26 (by decide) (fun c9 => absurd (by decide) c9) (fun _ => ?_)
  refine lv_iconst (v := 0) hx hb dL_refusesAny_29 (by decide) ?_
  refine lv_goto (tgt := 36) hx hb dL_refusesAny_30 (by decide) ?_
  refine lv_istore (lv' := [(4, .int (0:Int32)), (3, .int (-1:Int32)), (2, .int (-1:Int32)), (0, .ref q), (1, .int (0:Int32))]) hx hb dL_refusesAny_36 hl (by decide) rfl (fun ls hl => ?_)
  refine lv_aload_n hx hb dL_refusesAny_38 rfl (lv_at hl 3 rfl) ?_
  refine lv_iload_n hx hb dL_refusesAny_39 rfl (lv_at hl 4 rfl) ?_
  refine lv_if_ne (tgt := 47) hx hb dL_refusesAny_40 (by decide) (fun c9 => absurd (by decide) c9) (fun _ => ?_)
  refine lv_iconst (v := -1) hx hb dL_refusesAny_43 (by decide) ?_
  refine lv_goto (tgt := 48) hx hb dL_refusesAny_44 (by decide) ?_
  refine lv_iconst (v := 1) hx hb dL_refusesAny_48 (by decide) ?_
  refine t0_VI (As := [.int (-1:Int32), .int (1:Int32)]) (rest := []) (Z1 := Z) hx hb hml hown hts hl.1 (kX7_set l D E (aZ0 q u) H.size (rf0_0 h)) (cwV 2 hts gL_refusesAny_X7_set rfl rfl rfl (by decide +kernel) ⟨Nat.le_of_ble_eq_true rfl, Nat.le_of_ble_eq_true rfl⟩) hP hD hS hA hK rfl rfl (Nat.le_of_ble_eq_true rfl) dL_refusesAny_49 ⟨Nat.le_of_ble_eq_true rfl, Nat.le_of_ble_eq_true rfl⟩ (fun u1 H locs hP hD hS => ?_)
  refine lv_bipush (v := -2) hx hb dL_refusesAny_52 (by decide) ?_
  refine lv_icmp_ne (tgt := 253) hx hb dL_refusesAny_54 (by decide) (fun c9 => absurd (by decide) c9) (fun _ => ?_)
  refine lv_aload_n hx hb dL_refusesAny_57 rfl (lv_at hl 3 rfl) ?_
  refine lv_iconst (v := 0) hx hb dL_refusesAny_58 (by decide) ?_
  refine lv_iload_n hx hb dL_refusesAny_59 rfl (lv_at hl 4 rfl) ?_
  refine lv_if_ne (tgt := 67) hx hb dL_refusesAny_60 (by decide) (fun c9 => absurd (by decide) c9) (fun _ => ?_)
  refine lv_iconst (v := 0) hx hb dL_refusesAny_63 (by decide) ?_
  refine lv_goto (tgt := 69) hx hb dL_refusesAny_64 (by decide) ?_
  refine t0_VI (As := [.int (0:Int32), .int (0:Int32)]) (rest := []) (Z1 := Z) hx hb hml hown hts hl.1 (kX7_set l D E (aZ0 q u1) H.size (rf0_1 h)) (cwV 2 hts gL_refusesAny_X7_set rfl rfl rfl (by decide +kernel) ⟨Nat.le_of_ble_eq_true rfl, Nat.le_of_ble_eq_true rfl⟩) hP hD hS hA hK rfl rfl (Nat.le_of_ble_eq_true rfl) dL_refusesAny_69 ⟨Nat.le_of_ble_eq_true rfl, Nat.le_of_ble_eq_true rfl⟩ (fun u2 H locs hP hD hS => ?_)
  refine lv_bipush (v := -2) hx hb dL_refusesAny_72 (by decide) ?_
  refine lv_icmp_ne (tgt := 253) hx hb dL_refusesAny_74 (by decide) (fun c9 => absurd (by decide) c9) (fun _ => ?_)
  refine lv_aload_n hx hb dL_refusesAny_77 rfl (lv_at hl 3 rfl) ?_
  refine lv_iconst (v := 1) hx hb dL_refusesAny_78 (by decide) ?_
  refine lv_iload_n hx hb dL_refusesAny_79 rfl (lv_at hl 4 rfl) ?_
  refine lv_if_ne (tgt := 87) hx hb dL_refusesAny_80 (by decide) (fun c9 => absurd (by decide) c9) (fun _ => ?_)
  refine lv_iconst (v := 0) hx hb dL_refusesAny_83 (by decide) ?_
  refine lv_goto (tgt := 89) hx hb dL_refusesAny_84 (by decide) ?_
  refine t0_VI (As := [.int (1:Int32), .int (0:Int32)]) (rest := []) (Z1 := Z) hx hb hml hown hts hl.1 (kX7_set l D E (aZ0 q u2) H.size (rf0_2 h)) (cwV 2 hts gL_refusesAny_X7_set rfl rfl rfl (by decide +kernel) ⟨Nat.le_of_ble_eq_true rfl, Nat.le_of_ble_eq_true rfl⟩) hP hD hS hA hK rfl rfl (Nat.le_of_ble_eq_true rfl) dL_refusesAny_89 ⟨Nat.le_of_ble_eq_true rfl, Nat.le_of_ble_eq_true rfl⟩ (fun u3 H locs hP hD hS => ?_)
  refine lv_bipush (v := -2) hx hb dL_refusesAny_92 (by decide) ?_
  refine lv_icmp_ne (tgt := 253) hx hb dL_refusesAny_94 (by decide) (fun c9 => absurd (by decide) c9) (fun _ => ?_)
  refine lv_aload_n hx hb dL_refusesAny_97 rfl (lv_at hl 3 rfl) ?_
  refine lv_iload_n hx hb dL_refusesAny_98 rfl (lv_at hl 2 rfl) ?_
  refine lv_iconst (v := 0) hx hb dL_refusesAny_99 (by decide) ?_
  refine t0_VI (As := [.int (-1:Int32), .int (0:Int32)]) (rest := []) (Z1 := Z) hx hb hml hown hts hl.1 (kX7_point l D E (aZ0 q u3) H.size (rf0_3 h)) (cwV 2 hts gL_refusesAny_X7_point rfl rfl rfl (by decide +kernel) ⟨Nat.le_of_ble_eq_true rfl, Nat.le_of_ble_eq_true rfl⟩) hP hD hS hA hK rfl rfl (Nat.le_of_ble_eq_true rfl) dL_refusesAny_100 ⟨Nat.le_of_ble_eq_true rfl, Nat.le_of_ble_eq_true rfl⟩ (fun u4 H locs hP hD hS => ?_)
  refine lv_iconst (v := -1) hx hb dL_refusesAny_103 (by decide) ?_
  refine lv_icmp_ne (tgt := 253) hx hb dL_refusesAny_104 (by decide) (fun c9 => absurd (by decide) c9) (fun _ => ?_)
  refine lv_aload_n hx hb dL_refusesAny_107 rfl (lv_at hl 3 rfl) ?_
  refine lv_iconst (v := 0) hx hb dL_refusesAny_108 (by decide) ?_
  refine lv_iload_n hx hb dL_refusesAny_109 rfl (lv_at hl 2 rfl) ?_
  refine t0_VI (As := [.int (0:Int32), .int (-1:Int32)]) (rest := []) (Z1 := Z) hx hb hml hown hts hl.1 (kX7_point l D E (aZ0 q u4) H.size (rf0_4 h)) (cwV 2 hts gL_refusesAny_X7_point rfl rfl rfl (by decide +kernel) ⟨Nat.le_of_ble_eq_true rfl, Nat.le_of_ble_eq_true rfl⟩) hP hD hS hA hK rfl rfl (Nat.le_of_ble_eq_true rfl) dL_refusesAny_110 ⟨Nat.le_of_ble_eq_true rfl, Nat.le_of_ble_eq_true rfl⟩ (fun u5 H locs hP hD hS => ?_)
  refine lv_iconst (v := -1) hx hb dL_refusesAny_113 (by decide) ?_
  refine lv_icmp_ne (tgt := 253) hx hb dL_refusesAny_114 (by decide) (fun c9 => absurd (by decide) c9) (fun _ => ?_)
  exact ra0_c1 h C hK hA hZ u5 H locs ls hP hD hS hl

theorem kL_refusesAny0 (l : Launch) (t : Nat → Nat) (D : va_G) (E : Nat → ClassId) (q : Nat) (u : Nat → Nat) {Z : Nat → FS} {A0 : AS} (h : RH Z A0) (sz : Nat) : LI l yL_refusesAny wsL_refusesAny (rmW 15 350 6 24) t D E (wQ E (aZ0 q u) Z) sz [.ref q, .int (0:Int32)] 1 (fun u1 : Nat → Nat => wQ E (aZ0 q u1) Z) 6 24 := by
  refine LI.of (by decide) rfl (Nat.le_of_ble_eq_true rfl) ?_
  intro p e s m below meth c A H locs C hP hK hD hS hA hZ ls hl
  exact ra0_c0 h C hK hA hZ u H locs ls hP hD hS hl

set_option maxRecDepth 100000 in
set_option maxHeartbeats 4000000 in
theorem ra1_c6 {l : Launch} {t : Nat → Nat} {D : va_G} {E : Nat → ClassId} {p : Program} {e : Env} {s : State} {m : MethodId} {below : List Frame} {meth : Method} {c : Code} {A : Nat → Prop} {q : Nat} {Z : Nat → FS} {A0 : AS} (h : RH Z A0) (C : Ctx p s m meth c [.ref q, .int (1:Int32)] wsL_refusesAny cL_refusesAny 5 (some .boolean) RL) (hK : va_K D vwCl (tyE E) s) (hA : ∀ q : Nat, s.heap.size ≤ q → A q) (hZ : zSX t A s) (u : Nat → Nat) (H : Heap) (locs : List Loc) (ls : Array Slot) (hP : va_P D vwCl (wQ E (aZ0 q u) Z) H) (hD : va_D A (wQ E (aZ0 q u) Z)) (hS : va_S A s.heap H locs) (hl : lv_has ls 5 [(4, .int (8192:Int32)), (3, .int (nI (A0 2 0))), (2, .int (64:Int32)), (0, .ref q), (1, .int (1:Int32))]) : WI p l e (rmW 15 350 6 24) s m [.ref q, .int (1:Int32)] below meth c D A 1 (fun u1 : Nat → Nat => wQ E (aZ0 q u1) Z) 6 24 H locs 6 24 740 ls [] := by
  obtain ⟨hx, hb, hr, hml, hown, hlocks, hts⟩ := id C
  refine lv_iconst (v := 1) hx hb dL_refusesAny_740 (by decide) ?_
  refine lv_goto (tgt := 745) hx hb dL_refusesAny_741 (by decide) ?_
  exact t_rz u C dL_refusesAny_745 (by decide) (by decide) hP hD hS

set_option maxRecDepth 100000 in
set_option maxHeartbeats 4000000 in
theorem ra1_c5 {l : Launch} {t : Nat → Nat} {D : va_G} {E : Nat → ClassId} {p : Program} {e : Env} {s : State} {m : MethodId} {below : List Frame} {meth : Method} {c : Code} {A : Nat → Prop} {q : Nat} {Z : Nat → FS} {A0 : AS} (h : RH Z A0) (C : Ctx p s m meth c [.ref q, .int (1:Int32)] wsL_refusesAny cL_refusesAny 5 (some .boolean) RL) (hK : va_K D vwCl (tyE E) s) (hA : ∀ q : Nat, s.heap.size ≤ q → A q) (hZ : zSX t A s) (u : Nat → Nat) (H : Heap) (locs : List Loc) (ls : Array Slot) (hP : va_P D vwCl (wQ E (aZ0 q u) Z) H) (hD : va_D A (wQ E (aZ0 q u) Z)) (hS : va_S A s.heap H locs) (hl : lv_has ls 5 [(4, .int (8192:Int32)), (3, .int (nI (A0 2 0))), (2, .int (64:Int32)), (0, .ref q), (1, .int (1:Int32))]) : WI p l e (rmW 15 350 6 24) s m [.ref q, .int (1:Int32)] below meth c D A 1 (fun u1 : Nat → Nat => wQ E (aZ0 q u1) Z) 6 24 H locs 6 24 586 ls [] := by
  obtain ⟨hx, hb, hr, hml, hown, hlocks, hts⟩ := id C
  refine lv_aload_n hx hb dL_refusesAny_586 rfl (lv_at hl 3 rfl) ?_
  refine lv_iconst (v := 0) hx hb dL_refusesAny_587 (by decide) ?_
  refine lv_iconst (v := 0) hx hb dL_refusesAny_588 (by decide) ?_
  refine lv_iload_n hx hb dL_refusesAny_589 rfl (lv_at hl 4 rfl) ?_
  refine lv_if_ne (tgt := 597) hx hb dL_refusesAny_590 (by decide) (fun _ => ?_) (fun c9 => absurd c9 (by decide))
  refine lv_iconst (v := 2) hx hb dL_refusesAny_597 (by decide) ?_
  refine q_V (As := [.int (0:Int32), .int (0:Int32), .int (2:Int32)]) (rest := []) (C := RX7) (T0 := TX7) (N0 := 4) (ci := 6) hx hb hml hown hts hl.1 (kX7_nearest l D E (aZ0 q u) (rf1_37 h)) zNo_mv (cwV 3 hts gL_refusesAny_X7_nearest rfl rfl rfl (by decide +kernel) ⟨Nat.le_of_ble_eq_true rfl, Nat.le_of_ble_eq_true rfl⟩) 0 rfl rfl hP hK trivial rfl rfl (Nat.le_of_ble_eq_true rfl) dL_refusesAny_598 ⟨Nat.le_of_ble_eq_true rfl, Nat.le_of_ble_eq_true rfl⟩ ?_
  refine lv_bipush (v := -2) hx hb dL_refusesAny_601 (by decide) ?_
  refine lv_icmp_ne (tgt := 640) hx hb dL_refusesAny_603 (by decide) (fun c9 => absurd (by decide) c9) (fun _ => ?_)
  refine lv_aload_n hx hb dL_refusesAny_606 rfl (lv_at hl 3 rfl) ?_
  refine lv_iload_n hx hb dL_refusesAny_607 rfl (lv_at hl 2 rfl) ?_
  refine lv_iconst (v := 0) hx hb dL_refusesAny_608 (by decide) ?_
  refine lv_bipush (v := 9) hx hb dL_refusesAny_609 (by decide) ?_
  refine t0_UI (As := [.int (64:Int32), .int (0:Int32), .int (9:Int32)]) (rest := []) (Z1 := Z) hx hb hml hown hts hl.1 (kX7_ifPut l D E (aZ0 q u) H.size (rf1_38 h)) (cwV 3 hts gL_refusesAny_X7_ifPut rfl rfl rfl (by decide +kernel) ⟨Nat.le_of_ble_eq_true rfl, Nat.le_of_ble_eq_true rfl⟩) hP hD hS hA hK rfl rfl (Nat.le_of_ble_eq_true rfl) dL_refusesAny_611 ⟨Nat.le_of_ble_eq_true rfl, Nat.le_of_ble_eq_true rfl⟩ (fun u22 H locs hP hD hS => ?_)
  refine lv_iconst (v := -1) hx hb dL_refusesAny_614 (by decide) ?_
  refine lv_icmp_ne (tgt := 640) hx hb dL_refusesAny_615 (by decide) (fun c9 => absurd (by decide) c9) (fun _ => ?_)
  refine lv_aload_n hx hb dL_refusesAny_618 rfl (lv_at hl 3 rfl) ?_
  refine lv_bipush (v := 9) hx hb dL_refusesAny_619 (by decide) ?_
  refine lv_bipush (v := 9) hx hb dL_refusesAny_621 (by decide) ?_
  refine lv_iload_n hx hb dL_refusesAny_623 rfl (lv_at hl 4 rfl) ?_
  refine lv_if_ne (tgt := 631) hx hb dL_refusesAny_624 (by decide) (fun _ => ?_) (fun c9 => absurd c9 (by decide))
  refine lv_iconst (v := 2) hx hb dL_refusesAny_631 (by decide) ?_
  refine t0_UI (As := [.int (9:Int32), .int (9:Int32), .int (2:Int32)]) (rest := []) (Z1 := Z) hx hb hml hown hts hl.1 (kX7_ifPut l D E (aZ0 q u22) H.size (rf1_39 h)) (cwV 3 hts gL_refusesAny_X7_ifPut rfl rfl rfl (by decide +kernel) ⟨Nat.le_of_ble_eq_true rfl, Nat.le_of_ble_eq_true rfl⟩) hP hD hS hA hK rfl rfl (Nat.le_of_ble_eq_true rfl) dL_refusesAny_632 ⟨Nat.le_of_ble_eq_true rfl, Nat.le_of_ble_eq_true rfl⟩ (fun u23 H locs hP hD hS => ?_)
  refine lv_bipush (v := -2) hx hb dL_refusesAny_635 (by decide) ?_
  refine lv_icmp_eq (tgt := 642) hx hb dL_refusesAny_637 (by decide) (fun _ => ?_) (fun c9 => absurd (by decide) c9)
  refine lv_aload_n hx hb dL_refusesAny_642 rfl (lv_at hl 3 rfl) ?_
  refine lv_iload_n hx hb dL_refusesAny_643 rfl (lv_at hl 4 rfl) ?_
  refine lv_if_ne (tgt := 651) hx hb dL_refusesAny_644 (by decide) (fun _ => ?_) (fun c9 => absurd c9 (by decide))
  refine lv_sipush (v := 4097) hx hb dL_refusesAny_651 (by decide) ?_
  refine t0_UI (As := [.int (4097:Int32)]) (rest := []) (Z1 := Z) hx hb hml hown hts hl.1 (kX7_leastFull l D E (aZ0 q u23) H.size (rf1_40 h)) (cwV 1 hts gL_refusesAny_X7_leastFull rfl rfl rfl (by decide +kernel) ⟨Nat.le_of_ble_eq_true rfl, Nat.le_of_ble_eq_true rfl⟩) hP hD hS hA hK rfl rfl (Nat.le_of_ble_eq_true rfl) dL_refusesAny_654 ⟨Nat.le_of_ble_eq_true rfl, Nat.le_of_ble_eq_true rfl⟩ (fun u24 H locs hP hD hS => ?_)
  refine lv_bipush (v := -2) hx hb dL_refusesAny_657 (by decide) ?_
  refine lv_icmp_ne (tgt := 744) hx hb dL_refusesAny_659 (by decide) (fun c9 => absurd (by decide) c9) (fun _ => ?_)
  refine lv_aload_n hx hb dL_refusesAny_662 rfl (lv_at hl 3 rfl) ?_
  refine lv_iload_n hx hb dL_refusesAny_663 rfl (lv_at hl 4 rfl) ?_
  refine lv_if_ne (tgt := 671) hx hb dL_refusesAny_664 (by decide) (fun _ => ?_) (fun c9 => absurd c9 (by decide))
  refine lv_iconst (v := 2) hx hb dL_refusesAny_671 (by decide) ?_
  refine t0_VI (As := [.int (2:Int32)]) (rest := []) (Z1 := Z) hx hb hml hown hts hl.1 (kX7_save l D E (aZ0 q u24) H.size (rf1_41 h)) (cwV 1 hts gL_refusesAny_X7_save rfl rfl rfl (by decide +kernel) ⟨Nat.le_of_ble_eq_true rfl, Nat.le_of_ble_eq_true rfl⟩) hP hD hS hA hK rfl rfl (Nat.le_of_ble_eq_true rfl) dL_refusesAny_672 ⟨Nat.le_of_ble_eq_true rfl, Nat.le_of_ble_eq_true rfl⟩ (fun u25 H locs hP hD hS => ?_)
  refine lv_bipush (v := -2) hx hb dL_refusesAny_675 (by decide) ?_
  refine lv_icmp_ne (tgt := 744) hx hb dL_refusesAny_677 (by decide) (fun c9 => absurd (by decide) c9) (fun _ => ?_)
  refine lv_aload_n hx hb dL_refusesAny_680 rfl (lv_at hl 3 rfl) ?_
  refine lv_iload_n hx hb dL_refusesAny_681 rfl (lv_at hl 4 rfl) ?_
  refine lv_if_ne (tgt := 689) hx hb dL_refusesAny_682 (by decide) (fun _ => ?_) (fun c9 => absurd c9 (by decide))
  refine lv_iconst (v := 2) hx hb dL_refusesAny_689 (by decide) ?_
  refine t0_VI (As := [.int (2:Int32)]) (rest := []) (Z1 := Z) hx hb hml hown hts hl.1 (kX7_restore l D E (aZ0 q u25) H.size (rf1_42 h)) (cwV 1 hts gL_refusesAny_X7_restore rfl rfl rfl (by decide +kernel) ⟨Nat.le_of_ble_eq_true rfl, Nat.le_of_ble_eq_true rfl⟩) hP hD hS hA hK rfl rfl (Nat.le_of_ble_eq_true rfl) dL_refusesAny_690 ⟨Nat.le_of_ble_eq_true rfl, Nat.le_of_ble_eq_true rfl⟩ (fun u26 H locs hP hD hS => ?_)
  refine lv_bipush (v := -2) hx hb dL_refusesAny_693 (by decide) ?_
  refine lv_icmp_ne (tgt := 744) hx hb dL_refusesAny_695 (by decide) (fun c9 => absurd (by decide) c9) (fun _ => ?_)
  refine lv_aload_n hx hb dL_refusesAny_698 rfl (lv_at hl 3 rfl) ?_
  refine lv_iload_n hx hb dL_refusesAny_699 rfl (lv_at hl 4 rfl) ?_
  refine lv_if_ne (tgt := 707) hx hb dL_refusesAny_700 (by decide) (fun _ => ?_) (fun c9 => absurd c9 (by decide))
  refine lv_ldc2 (v := 32) hx hb hown (hts _ lkL_refusesAny_78) dL_refusesAny_707 ?_
  refine t0_UI (As := [.long (32:Int64)]) (rest := []) (Z1 := Z) hx hb hml hown hts hl.1 (kX7_put l D E (aZ0 q u26) H.size (rf1_43 h)) (cwV 1 hts gL_refusesAny_X7_put rfl rfl rfl (by decide +kernel) ⟨Nat.le_of_ble_eq_true rfl, Nat.le_of_ble_eq_true rfl⟩) hP hD hS hA hK rfl rfl (Nat.le_of_ble_eq_true rfl) dL_refusesAny_710 ⟨Nat.le_of_ble_eq_true rfl, Nat.le_of_ble_eq_true rfl⟩ (fun u27 H locs hP hD hS => ?_)
  refine lv_bipush (v := -2) hx hb dL_refusesAny_713 (by decide) ?_
  refine lv_icmp_ne (tgt := 744) hx hb dL_refusesAny_715 (by decide) (fun c9 => absurd (by decide) c9) (fun _ => ?_)
  refine lv_aload_n hx hb dL_refusesAny_718 rfl (lv_at hl 3 rfl) ?_
  refine lv_iload_n hx hb dL_refusesAny_719 rfl (lv_at hl 4 rfl) ?_
  refine lv_if_ne (tgt := 729) hx hb dL_refusesAny_720 (by decide) (fun _ => ?_) (fun c9 => absurd c9 (by decide))
  refine lv_ldc2 (v := 12544) hx hb hown (hts _ lkL_refusesAny_86) dL_refusesAny_729 ?_
  refine t0_UI (As := [.long (12544:Int64)]) (rest := []) (Z1 := Z) hx hb hml hown hts hl.1 (kX7_put l D E (aZ0 q u27) H.size (rf1_44 h)) (cwV 1 hts gL_refusesAny_X7_put rfl rfl rfl (by decide +kernel) ⟨Nat.le_of_ble_eq_true rfl, Nat.le_of_ble_eq_true rfl⟩) hP hD hS hA hK rfl rfl (Nat.le_of_ble_eq_true rfl) dL_refusesAny_732 ⟨Nat.le_of_ble_eq_true rfl, Nat.le_of_ble_eq_true rfl⟩ (fun u28 H locs hP hD hS => ?_)
  refine lv_bipush (v := -2) hx hb dL_refusesAny_735 (by decide) ?_
  refine lv_icmp_ne (tgt := 744) hx hb dL_refusesAny_737 (by decide) (fun c9 => absurd (by decide) c9) (fun _ => ?_)
  exact ra1_c6 h C hK hA hZ u28 H locs ls hP hD hS hl

set_option maxRecDepth 100000 in
set_option maxHeartbeats 4000000 in
theorem ra1_c4 {l : Launch} {t : Nat → Nat} {D : va_G} {E : Nat → ClassId} {p : Program} {e : Env} {s : State} {m : MethodId} {below : List Frame} {meth : Method} {c : Code} {A : Nat → Prop} {q : Nat} {Z : Nat → FS} {A0 : AS} (h : RH Z A0) (C : Ctx p s m meth c [.ref q, .int (1:Int32)] wsL_refusesAny cL_refusesAny 5 (some .boolean) RL) (hK : va_K D vwCl (tyE E) s) (hA : ∀ q : Nat, s.heap.size ≤ q → A q) (hZ : zSX t A s) (u : Nat → Nat) (H : Heap) (locs : List Loc) (ls : Array Slot) (hP : va_P D vwCl (wQ E (aZ0 q u) Z) H) (hD : va_D A (wQ E (aZ0 q u) Z)) (hS : va_S A s.heap H locs) (hl : lv_has ls 5 [(4, .int (8192:Int32)), (3, .int (nI (A0 2 0))), (2, .int (64:Int32)), (0, .ref q), (1, .int (1:Int32))]) : WI p l e (rmW 15 350 6 24) s m [.ref q, .int (1:Int32)] below meth c D A 1 (fun u1 : Nat → Nat => wQ E (aZ0 q u1) Z) 6 24 H locs 0 0 461 ls [] := by
  obtain ⟨hx, hb, hr, hml, hown, hlocks, hts⟩ := id C
  refine lv_aload_n hx hb dL_refusesAny_461 rfl (lv_at hl 3 rfl) ?_
  refine lv_iload_n hx hb dL_refusesAny_462 rfl (lv_at hl 4 rfl) ?_
  refine lv_if_ne (tgt := 470) hx hb dL_refusesAny_463 (by decide) (fun _ => ?_) (fun c9 => absurd c9 (by decide))
  refine lv_bipush (v := 11) hx hb dL_refusesAny_470 (by decide) ?_
  refine q_V (As := [.int (11:Int32)]) (rest := []) (C := RX7) (T0 := TX7) (N0 := 4) (ci := 6) hx hb hml hown hts hl.1 (kX7_count l D E t (aZ0 q u) (rf1_29 h)) zSt_mv (cwV 1 hts gL_refusesAny_X7_count rfl rfl rfl (by decide +kernel) ⟨Nat.le_of_ble_eq_true rfl, Nat.le_of_ble_eq_true rfl⟩) 0 rfl rfl hP hK (zSX_now hZ hS) rfl rfl (Nat.le_of_ble_eq_true rfl) dL_refusesAny_472 ⟨Nat.le_of_ble_eq_true rfl, Nat.le_of_ble_eq_true rfl⟩ ?_
  refine lv_bipush (v := -2) hx hb dL_refusesAny_475 (by decide) ?_
  refine lv_icmp_eq (tgt := 482) hx hb dL_refusesAny_477 (by decide) (fun _ => ?_) (fun c9 => absurd (by decide) c9)
  refine lv_aload_n hx hb dL_refusesAny_482 rfl (lv_at hl 3 rfl) ?_
  refine lv_iload_n hx hb dL_refusesAny_483 rfl (lv_at hl 2 rfl) ?_
  refine lv_iconst (v := 0) hx hb dL_refusesAny_484 (by decide) ?_
  refine lv_iconst (v := 0) hx hb dL_refusesAny_485 (by decide) ?_
  refine lv_iconst (v := 0) hx hb dL_refusesAny_486 (by decide) ?_
  refine lv_bipush (v := 9) hx hb dL_refusesAny_487 (by decide) ?_
  refine t0_NI (As := [.int (64:Int32), .int (0:Int32), .int (0:Int32), .int (0:Int32), .int (9:Int32)]) (rest := []) (Z1 := Z) hx hb hml hown hts hl.1 (kX7_window l D E (aZ0 q u) H.size (rf1_30 h)) (cwV 5 hts gL_refusesAny_X7_window rfl rfl rfl (by decide +kernel) ⟨Nat.le_of_ble_eq_true rfl, Nat.le_of_ble_eq_true rfl⟩) hP hD hS hA hK hZ.2.2.2.2.2.2.2.2.1 rfl rfl (Nat.le_of_ble_eq_true rfl) dL_refusesAny_489 ⟨Nat.le_of_ble_eq_true rfl, Nat.le_of_ble_eq_true rfl⟩ (fun u16 H locs hP hD hS => ?_)
  refine lv_iconst (v := -1) hx hb dL_refusesAny_492 (by decide) ?_
  refine lv_icmp_ne (tgt := 640) hx hb dL_refusesAny_493 (by decide) (fun c9 => absurd (by decide) c9) (fun _ => ?_)
  refine lv_aload_n hx hb dL_refusesAny_496 rfl (lv_at hl 3 rfl) ?_
  refine lv_iconst (v := 0) hx hb dL_refusesAny_497 (by decide) ?_
  refine lv_iconst (v := 0) hx hb dL_refusesAny_498 (by decide) ?_
  refine lv_iload_n hx hb dL_refusesAny_499 rfl (lv_at hl 2 rfl) ?_
  refine lv_iconst (v := 0) hx hb dL_refusesAny_500 (by decide) ?_
  refine lv_bipush (v := 9) hx hb dL_refusesAny_501 (by decide) ?_
  refine t0_NI (As := [.int (0:Int32), .int (0:Int32), .int (64:Int32), .int (0:Int32), .int (9:Int32)]) (rest := []) (Z1 := Z) hx hb hml hown hts hl.1 (kX7_window l D E (aZ0 q u16) H.size (rf1_31 h)) (cwV 5 hts gL_refusesAny_X7_window rfl rfl rfl (by decide +kernel) ⟨Nat.le_of_ble_eq_true rfl, Nat.le_of_ble_eq_true rfl⟩) hP hD hS hA hK hZ.2.2.2.2.2.2.2.2.1 rfl rfl (Nat.le_of_ble_eq_true rfl) dL_refusesAny_503 ⟨Nat.le_of_ble_eq_true rfl, Nat.le_of_ble_eq_true rfl⟩ (fun u17 H locs hP hD hS => ?_)
  refine lv_iconst (v := -1) hx hb dL_refusesAny_506 (by decide) ?_
  refine lv_icmp_ne (tgt := 640) hx hb dL_refusesAny_507 (by decide) (fun c9 => absurd (by decide) c9) (fun _ => ?_)
  refine lv_aload_n hx hb dL_refusesAny_510 rfl (lv_at hl 3 rfl) ?_
  refine lv_iconst (v := 0) hx hb dL_refusesAny_511 (by decide) ?_
  refine lv_iconst (v := 0) hx hb dL_refusesAny_512 (by decide) ?_
  refine lv_iconst (v := 0) hx hb dL_refusesAny_513 (by decide) ?_
  refine lv_iload_n hx hb dL_refusesAny_514 rfl (lv_at hl 2 rfl) ?_
  refine lv_bipush (v := 9) hx hb dL_refusesAny_515 (by decide) ?_
  refine t0_NI (As := [.int (0:Int32), .int (0:Int32), .int (0:Int32), .int (64:Int32), .int (9:Int32)]) (rest := []) (Z1 := Z) hx hb hml hown hts hl.1 (kX7_window l D E (aZ0 q u17) H.size (rf1_32 h)) (cwV 5 hts gL_refusesAny_X7_window rfl rfl rfl (by decide +kernel) ⟨Nat.le_of_ble_eq_true rfl, Nat.le_of_ble_eq_true rfl⟩) hP hD hS hA hK hZ.2.2.2.2.2.2.2.2.1 rfl rfl (Nat.le_of_ble_eq_true rfl) dL_refusesAny_517 ⟨Nat.le_of_ble_eq_true rfl, Nat.le_of_ble_eq_true rfl⟩ (fun u18 H locs hP hD hS => ?_)
  refine lv_iconst (v := -1) hx hb dL_refusesAny_520 (by decide) ?_
  refine lv_icmp_ne (tgt := 640) hx hb dL_refusesAny_521 (by decide) (fun c9 => absurd (by decide) c9) (fun _ => ?_)
  refine lv_aload_n hx hb dL_refusesAny_524 rfl (lv_at hl 3 rfl) ?_
  refine lv_iconst (v := 1) hx hb dL_refusesAny_525 (by decide) ?_
  refine lv_iconst (v := 0) hx hb dL_refusesAny_526 (by decide) ?_
  refine lv_iconst (v := 0) hx hb dL_refusesAny_527 (by decide) ?_
  refine lv_iconst (v := 0) hx hb dL_refusesAny_528 (by decide) ?_
  refine lv_iconst (v := 0) hx hb dL_refusesAny_529 (by decide) ?_
  refine t0_NI (As := [.int (1:Int32), .int (0:Int32), .int (0:Int32), .int (0:Int32), .int (0:Int32)]) (rest := []) (Z1 := Z) hx hb hml hown hts hl.1 (kX7_window l D E (aZ0 q u18) H.size (rf1_33 h)) (cwV 5 hts gL_refusesAny_X7_window rfl rfl rfl (by decide +kernel) ⟨Nat.le_of_ble_eq_true rfl, Nat.le_of_ble_eq_true rfl⟩) hP hD hS hA hK hZ.2.2.2.2.2.2.2.2.1 rfl rfl (Nat.le_of_ble_eq_true rfl) dL_refusesAny_530 ⟨Nat.le_of_ble_eq_true rfl, Nat.le_of_ble_eq_true rfl⟩ (fun u19 H locs hP hD hS => ?_)
  refine lv_bipush (v := -2) hx hb dL_refusesAny_533 (by decide) ?_
  refine lv_icmp_ne (tgt := 640) hx hb dL_refusesAny_535 (by decide) (fun c9 => absurd (by decide) c9) (fun _ => ?_)
  refine lv_aload_n hx hb dL_refusesAny_538 rfl (lv_at hl 3 rfl) ?_
  refine lv_iconst (v := 0) hx hb dL_refusesAny_539 (by decide) ?_
  refine lv_iconst (v := 1) hx hb dL_refusesAny_540 (by decide) ?_
  refine lv_iconst (v := 0) hx hb dL_refusesAny_541 (by decide) ?_
  refine lv_iconst (v := 0) hx hb dL_refusesAny_542 (by decide) ?_
  refine lv_iconst (v := 0) hx hb dL_refusesAny_543 (by decide) ?_
  refine t0_NI (As := [.int (0:Int32), .int (1:Int32), .int (0:Int32), .int (0:Int32), .int (0:Int32)]) (rest := []) (Z1 := Z) hx hb hml hown hts hl.1 (kX7_window l D E (aZ0 q u19) H.size (rf1_34 h)) (cwV 5 hts gL_refusesAny_X7_window rfl rfl rfl (by decide +kernel) ⟨Nat.le_of_ble_eq_true rfl, Nat.le_of_ble_eq_true rfl⟩) hP hD hS hA hK hZ.2.2.2.2.2.2.2.2.1 rfl rfl (Nat.le_of_ble_eq_true rfl) dL_refusesAny_544 ⟨Nat.le_of_ble_eq_true rfl, Nat.le_of_ble_eq_true rfl⟩ (fun u20 H locs hP hD hS => ?_)
  refine lv_bipush (v := -2) hx hb dL_refusesAny_547 (by decide) ?_
  refine lv_icmp_ne (tgt := 640) hx hb dL_refusesAny_549 (by decide) (fun c9 => absurd (by decide) c9) (fun _ => ?_)
  refine lv_aload_n hx hb dL_refusesAny_552 rfl (lv_at hl 3 rfl) ?_
  refine lv_iconst (v := 0) hx hb dL_refusesAny_553 (by decide) ?_
  refine lv_iconst (v := 0) hx hb dL_refusesAny_554 (by decide) ?_
  refine lv_iconst (v := 0) hx hb dL_refusesAny_555 (by decide) ?_
  refine lv_iconst (v := 0) hx hb dL_refusesAny_556 (by decide) ?_
  refine lv_iload_n hx hb dL_refusesAny_557 rfl (lv_at hl 4 rfl) ?_
  refine lv_if_ne (tgt := 565) hx hb dL_refusesAny_558 (by decide) (fun _ => ?_) (fun c9 => absurd c9 (by decide))
  refine lv_iconst (v := 4) hx hb dL_refusesAny_565 (by decide) ?_
  refine t0_NI (As := [.int (0:Int32), .int (0:Int32), .int (0:Int32), .int (0:Int32), .int (4:Int32)]) (rest := []) (Z1 := Z) hx hb hml hown hts hl.1 (kX7_window l D E (aZ0 q u20) H.size (rf1_35 h)) (cwV 5 hts gL_refusesAny_X7_window rfl rfl rfl (by decide +kernel) ⟨Nat.le_of_ble_eq_true rfl, Nat.le_of_ble_eq_true rfl⟩) hP hD hS hA hK hZ.2.2.2.2.2.2.2.2.1 rfl rfl (Nat.le_of_ble_eq_true rfl) dL_refusesAny_566 ⟨Nat.le_of_ble_eq_true rfl, Nat.le_of_ble_eq_true rfl⟩ (fun u21 H locs hP hD hS => ?_)
  refine lv_bipush (v := -2) hx hb dL_refusesAny_569 (by decide) ?_
  refine lv_icmp_ne (tgt := 640) hx hb dL_refusesAny_571 (by decide) (fun c9 => absurd (by decide) c9) (fun _ => ?_)
  refine lv_aload_n hx hb dL_refusesAny_574 rfl (lv_at hl 3 rfl) ?_
  refine lv_iload_n hx hb dL_refusesAny_575 rfl (lv_at hl 2 rfl) ?_
  refine lv_iconst (v := 0) hx hb dL_refusesAny_576 (by decide) ?_
  refine lv_bipush (v := 9) hx hb dL_refusesAny_577 (by decide) ?_
  refine q_V (As := [.int (64:Int32), .int (0:Int32), .int (9:Int32)]) (rest := []) (C := RX7) (T0 := TX7) (N0 := 4) (ci := 6) hx hb hml hown hts hl.1 (kX7_nearest l D E (aZ0 q u21) (rf1_36 h)) zNo_mv (cwV 3 hts gL_refusesAny_X7_nearest rfl rfl rfl (by decide +kernel) ⟨Nat.le_of_ble_eq_true rfl, Nat.le_of_ble_eq_true rfl⟩) 0 rfl rfl hP hK trivial rfl rfl (Nat.le_of_ble_eq_true rfl) dL_refusesAny_579 ⟨Nat.le_of_ble_eq_true rfl, Nat.le_of_ble_eq_true rfl⟩ ?_
  refine lv_iconst (v := -1) hx hb dL_refusesAny_582 (by decide) ?_
  refine lv_icmp_ne (tgt := 640) hx hb dL_refusesAny_583 (by decide) (fun c9 => absurd (by decide) c9) (fun _ => ?_)
  exact ra1_c5 h C hK hA hZ u21 H locs ls hP hD hS hl

set_option maxRecDepth 100000 in
set_option maxHeartbeats 4000000 in
theorem ra1_c3 {l : Launch} {t : Nat → Nat} {D : va_G} {E : Nat → ClassId} {p : Program} {e : Env} {s : State} {m : MethodId} {below : List Frame} {meth : Method} {c : Code} {A : Nat → Prop} {q : Nat} {Z : Nat → FS} {A0 : AS} (h : RH Z A0) (C : Ctx p s m meth c [.ref q, .int (1:Int32)] wsL_refusesAny cL_refusesAny 5 (some .boolean) RL) (hK : va_K D vwCl (tyE E) s) (hA : ∀ q : Nat, s.heap.size ≤ q → A q) (hZ : zSX t A s) (u : Nat → Nat) (H : Heap) (locs : List Loc) (ls : Array Slot) (hP : va_P D vwCl (wQ E (aZ0 q u) Z) H) (hD : va_D A (wQ E (aZ0 q u) Z)) (hS : va_S A s.heap H locs) (hl : lv_has ls 5 [(4, .int (8192:Int32)), (3, .int (nI (A0 2 0))), (2, .int (64:Int32)), (0, .ref q), (1, .int (1:Int32))]) : WI p l e (rmW 15 350 6 24) s m [.ref q, .int (1:Int32)] below meth c D A 1 (fun u1 : Nat → Nat => wQ E (aZ0 q u1) Z) 6 24 H locs 0 0 336 ls [] := by
  obtain ⟨hx, hb, hr, hml, hown, hlocks, hts⟩ := id C
  refine lv_aload_n hx hb dL_refusesAny_336 rfl (lv_at hl 3 rfl) ?_
  refine lv_iconst (v := 1) hx hb dL_refusesAny_337 (by decide) ?_
  refine lv_iload_n hx hb dL_refusesAny_338 rfl (lv_at hl 4 rfl) ?_
  refine lv_if_ne (tgt := 346) hx hb dL_refusesAny_339 (by decide) (fun _ => ?_) (fun c9 => absurd c9 (by decide))
  refine lv_bipush (v := 8) hx hb dL_refusesAny_346 (by decide) ?_
  refine q_V (As := [.int (1:Int32), .int (8:Int32)]) (rest := []) (C := RX7) (T0 := TX7) (N0 := 4) (ci := 6) hx hb hml hown hts hl.1 (kX7_tile l D E t (aZ0 q u) (rf1_21 h)) zSt_mv (cwV 2 hts gL_refusesAny_X7_tile rfl rfl rfl (by decide +kernel) ⟨Nat.le_of_ble_eq_true rfl, Nat.le_of_ble_eq_true rfl⟩) 0 rfl rfl hP hK (zSX_now hZ hS) rfl rfl (Nat.le_of_ble_eq_true rfl) dL_refusesAny_348 ⟨Nat.le_of_ble_eq_true rfl, Nat.le_of_ble_eq_true rfl⟩ ?_
  refine lv_bipush (v := -2) hx hb dL_refusesAny_351 (by decide) ?_
  refine lv_icmp_ne (tgt := 480) hx hb dL_refusesAny_353 (by decide) (fun c9 => absurd (by decide) c9) (fun _ => ?_)
  refine lv_aload_n hx hb dL_refusesAny_356 rfl (lv_at hl 3 rfl) ?_
  refine lv_iload hx hb dL_refusesAny_357 (lv_at hl 0 rfl) ?_
  refine lv_iconst (v := 0) hx hb dL_refusesAny_359 (by decide) ?_
  refine q_V (As := [.int (8192:Int32), .int (0:Int32)]) (rest := []) (C := RX7) (T0 := TX7) (N0 := 4) (ci := 6) hx hb hml hown hts hl.1 (kX7_letter l D E (aZ0 q u) (rf1_22 h)) zNo_mv (cwV 2 hts gL_refusesAny_X7_letter rfl rfl rfl (by decide +kernel) ⟨Nat.le_of_ble_eq_true rfl, Nat.le_of_ble_eq_true rfl⟩) 0 rfl rfl hP hK trivial rfl rfl (Nat.le_of_ble_eq_true rfl) dL_refusesAny_360 ⟨Nat.le_of_ble_eq_true rfl, Nat.le_of_ble_eq_true rfl⟩ ?_
  refine lv_iconst (v := -1) hx hb dL_refusesAny_363 (by decide) ?_
  refine lv_icmp_ne (tgt := 480) hx hb dL_refusesAny_364 (by decide) (fun c9 => absurd (by decide) c9) (fun _ => ?_)
  refine lv_aload_n hx hb dL_refusesAny_367 rfl (lv_at hl 3 rfl) ?_
  refine lv_iconst (v := 1) hx hb dL_refusesAny_368 (by decide) ?_
  refine lv_iconst (v := 0) hx hb dL_refusesAny_369 (by decide) ?_
  refine q_V (As := [.int (1:Int32), .int (0:Int32)]) (rest := []) (C := RX7) (T0 := TX7) (N0 := 4) (ci := 6) hx hb hml hown hts hl.1 (kX7_letter l D E (aZ0 q u) (rf1_23 h)) zNo_mv (cwV 2 hts gL_refusesAny_X7_letter rfl rfl rfl (by decide +kernel) ⟨Nat.le_of_ble_eq_true rfl, Nat.le_of_ble_eq_true rfl⟩) 0 rfl rfl hP hK trivial rfl rfl (Nat.le_of_ble_eq_true rfl) dL_refusesAny_370 ⟨Nat.le_of_ble_eq_true rfl, Nat.le_of_ble_eq_true rfl⟩ ?_
  refine lv_iconst (v := -1) hx hb dL_refusesAny_373 (by decide) ?_
  refine lv_icmp_ne (tgt := 480) hx hb dL_refusesAny_374 (by decide) (fun c9 => absurd (by decide) c9) (fun _ => ?_)
  refine lv_aload_n hx hb dL_refusesAny_377 rfl (lv_at hl 3 rfl) ?_
  refine lv_bipush (v := 7) hx hb dL_refusesAny_378 (by decide) ?_
  refine lv_iload_n hx hb dL_refusesAny_380 rfl (lv_at hl 4 rfl) ?_
  refine lv_if_ne (tgt := 388) hx hb dL_refusesAny_381 (by decide) (fun _ => ?_) (fun c9 => absurd c9 (by decide))
  refine lv_iconst (v := 1) hx hb dL_refusesAny_388 (by decide) ?_
  refine q_V (As := [.int (7:Int32), .int (1:Int32)]) (rest := []) (C := RX7) (T0 := TX7) (N0 := 4) (ci := 6) hx hb hml hown hts hl.1 (kX7_letter l D E (aZ0 q u) (rf1_24 h)) zNo_mv (cwV 2 hts gL_refusesAny_X7_letter rfl rfl rfl (by decide +kernel) ⟨Nat.le_of_ble_eq_true rfl, Nat.le_of_ble_eq_true rfl⟩) 0 rfl rfl hP hK trivial rfl rfl (Nat.le_of_ble_eq_true rfl) dL_refusesAny_389 ⟨Nat.le_of_ble_eq_true rfl, Nat.le_of_ble_eq_true rfl⟩ ?_
  refine lv_iconst (v := -1) hx hb dL_refusesAny_392 (by decide) ?_
  refine lv_icmp_ne (tgt := 480) hx hb dL_refusesAny_393 (by decide) (fun c9 => absurd (by decide) c9) (fun _ => ?_)
  refine lv_aload_n hx hb dL_refusesAny_396 rfl (lv_at hl 3 rfl) ?_
  refine lv_iload hx hb dL_refusesAny_397 (lv_at hl 0 rfl) ?_
  refine lv_bipush (v := 9) hx hb dL_refusesAny_399 (by decide) ?_
  refine lv_bipush (v := 9) hx hb dL_refusesAny_401 (by decide) ?_
  refine q_V (As := [.int (8192:Int32), .int (9:Int32), .int (9:Int32)]) (rest := []) (C := RX7) (T0 := TX7) (N0 := 4) (ci := 6) hx hb hml hown hts hl.1 (kX7_beside l D E t (aZ0 q u) (rf1_25 h)) zSt_mv (cwV 3 hts gL_refusesAny_X7_beside rfl rfl rfl (by decide +kernel) ⟨Nat.le_of_ble_eq_true rfl, Nat.le_of_ble_eq_true rfl⟩) 0 rfl rfl hP hK (zSX_now hZ hS) rfl rfl (Nat.le_of_ble_eq_true rfl) dL_refusesAny_403 ⟨Nat.le_of_ble_eq_true rfl, Nat.le_of_ble_eq_true rfl⟩ ?_
  refine lv_iconst (v := -1) hx hb dL_refusesAny_406 (by decide) ?_
  refine lv_icmp_ne (tgt := 480) hx hb dL_refusesAny_407 (by decide) (fun c9 => absurd (by decide) c9) (fun _ => ?_)
  refine lv_aload_n hx hb dL_refusesAny_410 rfl (lv_at hl 3 rfl) ?_
  refine lv_iconst (v := 1) hx hb dL_refusesAny_411 (by decide) ?_
  refine lv_iload_n hx hb dL_refusesAny_412 rfl (lv_at hl 4 rfl) ?_
  refine lv_if_ne (tgt := 420) hx hb dL_refusesAny_413 (by decide) (fun _ => ?_) (fun c9 => absurd c9 (by decide))
  refine lv_bipush (v := 8) hx hb dL_refusesAny_420 (by decide) ?_
  refine lv_iconst (v := 0) hx hb dL_refusesAny_422 (by decide) ?_
  refine q_V (As := [.int (1:Int32), .int (8:Int32), .int (0:Int32)]) (rest := []) (C := RX7) (T0 := TX7) (N0 := 4) (ci := 6) hx hb hml hown hts hl.1 (kX7_beside l D E t (aZ0 q u) (rf1_26 h)) zSt_mv (cwV 3 hts gL_refusesAny_X7_beside rfl rfl rfl (by decide +kernel) ⟨Nat.le_of_ble_eq_true rfl, Nat.le_of_ble_eq_true rfl⟩) 0 rfl rfl hP hK (zSX_now hZ hS) rfl rfl (Nat.le_of_ble_eq_true rfl) dL_refusesAny_423 ⟨Nat.le_of_ble_eq_true rfl, Nat.le_of_ble_eq_true rfl⟩ ?_
  refine lv_bipush (v := -2) hx hb dL_refusesAny_426 (by decide) ?_
  refine lv_icmp_ne (tgt := 480) hx hb dL_refusesAny_428 (by decide) (fun c9 => absurd (by decide) c9) (fun _ => ?_)
  refine lv_aload_n hx hb dL_refusesAny_431 rfl (lv_at hl 3 rfl) ?_
  refine lv_iconst (v := 1) hx hb dL_refusesAny_432 (by decide) ?_
  refine lv_iconst (v := 0) hx hb dL_refusesAny_433 (by decide) ?_
  refine lv_iload_n hx hb dL_refusesAny_434 rfl (lv_at hl 4 rfl) ?_
  refine lv_if_ne (tgt := 442) hx hb dL_refusesAny_435 (by decide) (fun _ => ?_) (fun c9 => absurd c9 (by decide))
  refine lv_iconst (v := 2) hx hb dL_refusesAny_442 (by decide) ?_
  refine q_V (As := [.int (1:Int32), .int (0:Int32), .int (2:Int32)]) (rest := []) (C := RX7) (T0 := TX7) (N0 := 4) (ci := 6) hx hb hml hown hts hl.1 (kX7_beside l D E t (aZ0 q u) (rf1_27 h)) zSt_mv (cwV 3 hts gL_refusesAny_X7_beside rfl rfl rfl (by decide +kernel) ⟨Nat.le_of_ble_eq_true rfl, Nat.le_of_ble_eq_true rfl⟩) 0 rfl rfl hP hK (zSX_now hZ hS) rfl rfl (Nat.le_of_ble_eq_true rfl) dL_refusesAny_443 ⟨Nat.le_of_ble_eq_true rfl, Nat.le_of_ble_eq_true rfl⟩ ?_
  refine lv_bipush (v := -2) hx hb dL_refusesAny_446 (by decide) ?_
  refine lv_icmp_ne (tgt := 480) hx hb dL_refusesAny_448 (by decide) (fun c9 => absurd (by decide) c9) (fun _ => ?_)
  refine lv_aload_n hx hb dL_refusesAny_451 rfl (lv_at hl 3 rfl) ?_
  refine lv_iload hx hb dL_refusesAny_452 (lv_at hl 0 rfl) ?_
  refine q_V (As := [.int (8192:Int32)]) (rest := []) (C := RX7) (T0 := TX7) (N0 := 4) (ci := 6) hx hb hml hown hts hl.1 (kX7_neighbours l D E t (aZ0 q u) (rf1_28 h)) zSt_mv (cwV 1 hts gL_refusesAny_X7_neighbours rfl rfl rfl (by decide +kernel) ⟨Nat.le_of_ble_eq_true rfl, Nat.le_of_ble_eq_true rfl⟩) 0 rfl rfl hP hK (zSX_now hZ hS) rfl rfl (Nat.le_of_ble_eq_true rfl) dL_refusesAny_454 ⟨Nat.le_of_ble_eq_true rfl, Nat.le_of_ble_eq_true rfl⟩ ?_
  refine lv_iconst (v := -1) hx hb dL_refusesAny_457 (by decide) ?_
  refine lv_icmp_ne (tgt := 480) hx hb dL_refusesAny_458 (by decide) (fun c9 => absurd (by decide) c9) (fun _ => ?_)
  exact ra1_c4 h C hK hA hZ u H locs ls hP hD hS hl

set_option maxRecDepth 100000 in
set_option maxHeartbeats 4000000 in
theorem ra1_c2 {l : Launch} {t : Nat → Nat} {D : va_G} {E : Nat → ClassId} {p : Program} {e : Env} {s : State} {m : MethodId} {below : List Frame} {meth : Method} {c : Code} {A : Nat → Prop} {q : Nat} {Z : Nat → FS} {A0 : AS} (h : RH Z A0) (C : Ctx p s m meth c [.ref q, .int (1:Int32)] wsL_refusesAny cL_refusesAny 5 (some .boolean) RL) (hK : va_K D vwCl (tyE E) s) (hA : ∀ q : Nat, s.heap.size ≤ q → A q) (hZ : zSX t A s) (u : Nat → Nat) (H : Heap) (locs : List Loc) (ls : Array Slot) (hP : va_P D vwCl (wQ E (aZ0 q u) Z) H) (hD : va_D A (wQ E (aZ0 q u) Z)) (hS : va_S A s.heap H locs) (hl : lv_has ls 5 [(4, .int (8192:Int32)), (3, .int (nI (A0 2 0))), (2, .int (64:Int32)), (0, .ref q), (1, .int (1:Int32))]) : WI p l e (rmW 15 350 6 24) s m [.ref q, .int (1:Int32)] below meth c D A 1 (fun u1 : Nat → Nat => wQ E (aZ0 q u1) Z) 6 24 H locs 0 0 221 ls [] := by
  obtain ⟨hx, hb, hr, hml, hown, hlocks, hts⟩ := id C
  refine lv_aload_n hx hb dL_refusesAny_221 rfl (lv_at hl 3 rfl) ?_
  refine lv_iload_n hx hb dL_refusesAny_222 rfl (lv_at hl 4 rfl) ?_
  refine lv_if_ne (tgt := 232) hx hb dL_refusesAny_223 (by decide) (fun _ => ?_) (fun c9 => absurd c9 (by decide))
  refine lv_sipush (v := 2047) hx hb dL_refusesAny_232 (by decide) ?_
  refine lv_iconst (v := 0) hx hb dL_refusesAny_235 (by decide) ?_
  refine t0_VI (As := [.int (2047:Int32), .int (0:Int32)]) (rest := []) (Z1 := Z) hx hb hml hown hts hl.1 (kX7_split l D E (aZ0 q u) H.size (rf1_13 h)) (cwV 2 hts gL_refusesAny_X7_split rfl rfl rfl (by decide +kernel) ⟨Nat.le_of_ble_eq_true rfl, Nat.le_of_ble_eq_true rfl⟩) hP hD hS hA hK rfl rfl (Nat.le_of_ble_eq_true rfl) dL_refusesAny_236 ⟨Nat.le_of_ble_eq_true rfl, Nat.le_of_ble_eq_true rfl⟩ (fun u14 H locs hP hD hS => ?_)
  refine lv_bipush (v := -5) hx hb dL_refusesAny_239 (by decide) ?_
  refine lv_icmp_ne (tgt := 253) hx hb dL_refusesAny_241 (by decide) (fun c9 => absurd (by decide) c9) (fun _ => ?_)
  refine lv_aload_n hx hb dL_refusesAny_244 rfl (lv_at hl 3 rfl) ?_
  refine t0_VI (As := []) (rest := []) (Z1 := Z) hx hb hml hown hts hl.1 (kX7_putAll l D E (aZ0 q u14) H.size (rf1_14 h)) (cwV 0 hts gL_refusesAny_X7_putAll rfl rfl rfl (by decide +kernel) ⟨Nat.le_of_ble_eq_true rfl, Nat.le_of_ble_eq_true rfl⟩) hP hD hS hA hK rfl rfl (Nat.le_of_ble_eq_true rfl) dL_refusesAny_245 ⟨Nat.le_of_ble_eq_true rfl, Nat.le_of_ble_eq_true rfl⟩ (fun u15 H locs hP hD hS => ?_)
  refine lv_bipush (v := -3) hx hb dL_refusesAny_248 (by decide) ?_
  refine lv_icmp_eq (tgt := 255) hx hb dL_refusesAny_250 (by decide) (fun _ => ?_) (fun c9 => absurd (by decide) c9)
  refine lv_aload_n hx hb dL_refusesAny_255 rfl (lv_at hl 3 rfl) ?_
  refine lv_iload_n hx hb dL_refusesAny_256 rfl (lv_at hl 1 rfl) ?_
  refine lv_bipush (v := 9) hx hb dL_refusesAny_257 (by decide) ?_
  refine q_V (As := [.int (nI (A0 2 0)), .int (9:Int32)]) (rest := []) (C := RX7) (T0 := TX7) (N0 := 4) (ci := 6) hx hb hml hown hts hl.1 (kX7_of l D E (aZ0 q u15) (rf1_15 h)) zNo_mv (cwV 2 hts gL_refusesAny_X7_of rfl rfl rfl (by decide +kernel) ⟨Nat.le_of_ble_eq_true rfl, Nat.le_of_ble_eq_true rfl⟩) 0 rfl rfl hP hK trivial rfl rfl (Nat.le_of_ble_eq_true rfl) dL_refusesAny_259 ⟨Nat.le_of_ble_eq_true rfl, Nat.le_of_ble_eq_true rfl⟩ ?_
  refine lv_iconst (v := -1) hx hb dL_refusesAny_262 (by decide) ?_
  refine lv_icmp_ne (tgt := 480) hx hb dL_refusesAny_263 (by decide) (fun c9 => absurd (by decide) c9) (fun _ => ?_)
  refine lv_aload_n hx hb dL_refusesAny_266 rfl (lv_at hl 3 rfl) ?_
  refine lv_iconst (v := 0) hx hb dL_refusesAny_267 (by decide) ?_
  refine lv_iload_n hx hb dL_refusesAny_268 rfl (lv_at hl 4 rfl) ?_
  refine lv_if_ne (tgt := 276) hx hb dL_refusesAny_269 (by decide) (fun _ => ?_) (fun c9 => absurd c9 (by decide))
  refine lv_iconst (v := 4) hx hb dL_refusesAny_276 (by decide) ?_
  refine q_V (As := [.int (0:Int32), .int (4:Int32)]) (rest := []) (C := RX7) (T0 := TX7) (N0 := 4) (ci := 6) hx hb hml hown hts hl.1 (kX7_of l D E (aZ0 q u15) (rf1_16 h)) zNo_mv (cwV 2 hts gL_refusesAny_X7_of rfl rfl rfl (by decide +kernel) ⟨Nat.le_of_ble_eq_true rfl, Nat.le_of_ble_eq_true rfl⟩) 0 rfl rfl hP hK trivial rfl rfl (Nat.le_of_ble_eq_true rfl) dL_refusesAny_277 ⟨Nat.le_of_ble_eq_true rfl, Nat.le_of_ble_eq_true rfl⟩ ?_
  refine lv_bipush (v := -2) hx hb dL_refusesAny_280 (by decide) ?_
  refine lv_icmp_ne (tgt := 480) hx hb dL_refusesAny_282 (by decide) (fun c9 => absurd (by decide) c9) (fun _ => ?_)
  refine lv_aload_n hx hb dL_refusesAny_285 rfl (lv_at hl 3 rfl) ?_
  refine lv_iload_n hx hb dL_refusesAny_286 rfl (lv_at hl 2 rfl) ?_
  refine lv_iconst (v := 0) hx hb dL_refusesAny_287 (by decide) ?_
  refine q_V (As := [.int (64:Int32), .int (0:Int32)]) (rest := []) (C := RX7) (T0 := TX7) (N0 := 4) (ci := 6) hx hb hml hown hts hl.1 (kX7_leafAt l D E (aZ0 q u15) (rf1_17 h)) zNo_mv (cwV 2 hts gL_refusesAny_X7_leafAt rfl rfl rfl (by decide +kernel) ⟨Nat.le_of_ble_eq_true rfl, Nat.le_of_ble_eq_true rfl⟩) 0 rfl rfl hP hK trivial rfl rfl (Nat.le_of_ble_eq_true rfl) dL_refusesAny_288 ⟨Nat.le_of_ble_eq_true rfl, Nat.le_of_ble_eq_true rfl⟩ ?_
  refine lv_iconst (v := -1) hx hb dL_refusesAny_291 (by decide) ?_
  refine lv_icmp_ne (tgt := 480) hx hb dL_refusesAny_292 (by decide) (fun c9 => absurd (by decide) c9) (fun _ => ?_)
  refine lv_aload_n hx hb dL_refusesAny_295 rfl (lv_at hl 3 rfl) ?_
  refine lv_iconst (v := 0) hx hb dL_refusesAny_296 (by decide) ?_
  refine lv_iload_n hx hb dL_refusesAny_297 rfl (lv_at hl 2 rfl) ?_
  refine q_V (As := [.int (0:Int32), .int (64:Int32)]) (rest := []) (C := RX7) (T0 := TX7) (N0 := 4) (ci := 6) hx hb hml hown hts hl.1 (kX7_leafAt l D E (aZ0 q u15) (rf1_18 h)) zNo_mv (cwV 2 hts gL_refusesAny_X7_leafAt rfl rfl rfl (by decide +kernel) ⟨Nat.le_of_ble_eq_true rfl, Nat.le_of_ble_eq_true rfl⟩) 0 rfl rfl hP hK trivial rfl rfl (Nat.le_of_ble_eq_true rfl) dL_refusesAny_298 ⟨Nat.le_of_ble_eq_true rfl, Nat.le_of_ble_eq_true rfl⟩ ?_
  refine lv_iconst (v := -1) hx hb dL_refusesAny_301 (by decide) ?_
  refine lv_icmp_ne (tgt := 480) hx hb dL_refusesAny_302 (by decide) (fun c9 => absurd (by decide) c9) (fun _ => ?_)
  refine lv_aload_n hx hb dL_refusesAny_305 rfl (lv_at hl 3 rfl) ?_
  refine lv_iload hx hb dL_refusesAny_306 (lv_at hl 0 rfl) ?_
  refine lv_bipush (v := 9) hx hb dL_refusesAny_308 (by decide) ?_
  refine q_V (As := [.int (8192:Int32), .int (9:Int32)]) (rest := []) (C := RX7) (T0 := TX7) (N0 := 4) (ci := 6) hx hb hml hown hts hl.1 (kX7_tile l D E t (aZ0 q u15) (rf1_19 h)) zSt_mv (cwV 2 hts gL_refusesAny_X7_tile rfl rfl rfl (by decide +kernel) ⟨Nat.le_of_ble_eq_true rfl, Nat.le_of_ble_eq_true rfl⟩) 0 rfl rfl hP hK (zSX_now hZ hS) rfl rfl (Nat.le_of_ble_eq_true rfl) dL_refusesAny_310 ⟨Nat.le_of_ble_eq_true rfl, Nat.le_of_ble_eq_true rfl⟩ ?_
  refine lv_iconst (v := -1) hx hb dL_refusesAny_313 (by decide) ?_
  refine lv_icmp_ne (tgt := 480) hx hb dL_refusesAny_314 (by decide) (fun c9 => absurd (by decide) c9) (fun _ => ?_)
  refine lv_aload_n hx hb dL_refusesAny_317 rfl (lv_at hl 3 rfl) ?_
  refine lv_iload_n hx hb dL_refusesAny_318 rfl (lv_at hl 4 rfl) ?_
  refine lv_if_ne (tgt := 326) hx hb dL_refusesAny_319 (by decide) (fun _ => ?_) (fun c9 => absurd c9 (by decide))
  refine lv_bipush (v := 32) hx hb dL_refusesAny_326 (by decide) ?_
  refine lv_iconst (v := 0) hx hb dL_refusesAny_328 (by decide) ?_
  refine q_V (As := [.int (32:Int32), .int (0:Int32)]) (rest := []) (C := RX7) (T0 := TX7) (N0 := 4) (ci := 6) hx hb hml hown hts hl.1 (kX7_tile l D E t (aZ0 q u15) (rf1_20 h)) zSt_mv (cwV 2 hts gL_refusesAny_X7_tile rfl rfl rfl (by decide +kernel) ⟨Nat.le_of_ble_eq_true rfl, Nat.le_of_ble_eq_true rfl⟩) 0 rfl rfl hP hK (zSX_now hZ hS) rfl rfl (Nat.le_of_ble_eq_true rfl) dL_refusesAny_329 ⟨Nat.le_of_ble_eq_true rfl, Nat.le_of_ble_eq_true rfl⟩ ?_
  refine lv_iconst (v := -1) hx hb dL_refusesAny_332 (by decide) ?_
  refine lv_icmp_ne (tgt := 480) hx hb dL_refusesAny_333 (by decide) (fun c9 => absurd (by decide) c9) (fun _ => ?_)
  exact ra1_c3 h C hK hA hZ u15 H locs ls hP hD hS hl

set_option maxRecDepth 100000 in
set_option maxHeartbeats 4000000 in
theorem ra1_c1 {l : Launch} {t : Nat → Nat} {D : va_G} {E : Nat → ClassId} {p : Program} {e : Env} {s : State} {m : MethodId} {below : List Frame} {meth : Method} {c : Code} {A : Nat → Prop} {q : Nat} {Z : Nat → FS} {A0 : AS} (h : RH Z A0) (C : Ctx p s m meth c [.ref q, .int (1:Int32)] wsL_refusesAny cL_refusesAny 5 (some .boolean) RL) (hK : va_K D vwCl (tyE E) s) (hA : ∀ q : Nat, s.heap.size ≤ q → A q) (hZ : zSX t A s) (u : Nat → Nat) (H : Heap) (locs : List Loc) (ls : Array Slot) (hP : va_P D vwCl (wQ E (aZ0 q u) Z) H) (hD : va_D A (wQ E (aZ0 q u) Z)) (hS : va_S A s.heap H locs) (hl : lv_has ls 5 [(4, .int (8192:Int32)), (3, .int (nI (A0 2 0))), (2, .int (64:Int32)), (0, .ref q), (1, .int (1:Int32))]) : WI p l e (rmW 15 350 6 24) s m [.ref q, .int (1:Int32)] below meth c D A 1 (fun u1 : Nat → Nat => wQ E (aZ0 q u1) Z) 6 24 H locs 0 0 117 ls [] := by
  obtain ⟨hx, hb, hr, hml, hown, hlocks, hts⟩ := id C
  refine lv_aload_n hx hb dL_refusesAny_117 rfl (lv_at hl 3 rfl) ?_
  refine lv_iload_n hx hb dL_refusesAny_118 rfl (lv_at hl 1 rfl) ?_
  refine t0_VI (As := [.int (nI (A0 2 0))]) (rest := []) (Z1 := Z) hx hb hml hown hts hl.1 (kX7_take l D E (aZ0 q u) H.size (rf1_5 h)) (cwV 1 hts gL_refusesAny_X7_take rfl rfl rfl (by decide +kernel) ⟨Nat.le_of_ble_eq_true rfl, Nat.le_of_ble_eq_true rfl⟩) hP hD hS hA hK rfl rfl (Nat.le_of_ble_eq_true rfl) dL_refusesAny_119 ⟨Nat.le_of_ble_eq_true rfl, Nat.le_of_ble_eq_true rfl⟩ (fun u6 H locs hP hD hS => ?_)
  refine lv_iconst (v := -1) hx hb dL_refusesAny_122 (by decide) ?_
  refine lv_icmp_ne (tgt := 253) hx hb dL_refusesAny_123 (by decide) (fun c9 => absurd (by decide) c9) (fun _ => ?_)
  refine lv_aload_n hx hb dL_refusesAny_126 rfl (lv_at hl 3 rfl) ?_
  refine lv_iload_n hx hb dL_refusesAny_127 rfl (lv_at hl 1 rfl) ?_
  refine lv_iconst (v := 0) hx hb dL_refusesAny_128 (by decide) ?_
  refine lv_iconst (v := 0) hx hb dL_refusesAny_129 (by decide) ?_
  refine t0_VI (As := [.int (nI (A0 2 0)), .int (0:Int32), .int (0:Int32)]) (rest := []) (Z1 := Z) hx hb hml hown hts hl.1 (kX7_move l D E (aZ0 q u6) H.size (rf1_6 h)) (cwV 3 hts gL_refusesAny_X7_move rfl rfl rfl (by decide +kernel) ⟨Nat.le_of_ble_eq_true rfl, Nat.le_of_ble_eq_true rfl⟩) hP hD hS hA hK rfl rfl (Nat.le_of_ble_eq_true rfl) dL_refusesAny_130 ⟨Nat.le_of_ble_eq_true rfl, Nat.le_of_ble_eq_true rfl⟩ (fun u7 H locs hP hD hS => ?_)
  refine lv_iconst (v := -1) hx hb dL_refusesAny_133 (by decide) ?_
  refine lv_icmp_ne (tgt := 253) hx hb dL_refusesAny_134 (by decide) (fun c9 => absurd (by decide) c9) (fun _ => ?_)
  refine lv_aload_n hx hb dL_refusesAny_137 rfl (lv_at hl 3 rfl) ?_
  refine lv_iconst (v := 0) hx hb dL_refusesAny_138 (by decide) ?_
  refine lv_iload_n hx hb dL_refusesAny_139 rfl (lv_at hl 2 rfl) ?_
  refine lv_iconst (v := 0) hx hb dL_refusesAny_140 (by decide) ?_
  refine t0_VI (As := [.int (0:Int32), .int (64:Int32), .int (0:Int32)]) (rest := []) (Z1 := Z) hx hb hml hown hts hl.1 (kX7_move l D E (aZ0 q u7) H.size (rf1_7 h)) (cwV 3 hts gL_refusesAny_X7_move rfl rfl rfl (by decide +kernel) ⟨Nat.le_of_ble_eq_true rfl, Nat.le_of_ble_eq_true rfl⟩) hP hD hS hA hK rfl rfl (Nat.le_of_ble_eq_true rfl) dL_refusesAny_141 ⟨Nat.le_of_ble_eq_true rfl, Nat.le_of_ble_eq_true rfl⟩ (fun u8 H locs hP hD hS => ?_)
  refine lv_iconst (v := -1) hx hb dL_refusesAny_144 (by decide) ?_
  refine lv_icmp_ne (tgt := 253) hx hb dL_refusesAny_145 (by decide) (fun c9 => absurd (by decide) c9) (fun _ => ?_)
  refine lv_aload_n hx hb dL_refusesAny_148 rfl (lv_at hl 3 rfl) ?_
  refine lv_iconst (v := 0) hx hb dL_refusesAny_149 (by decide) ?_
  refine lv_iconst (v := 0) hx hb dL_refusesAny_150 (by decide) ?_
  refine lv_iload_n hx hb dL_refusesAny_151 rfl (lv_at hl 2 rfl) ?_
  refine t0_VI (As := [.int (0:Int32), .int (0:Int32), .int (64:Int32)]) (rest := []) (Z1 := Z) hx hb hml hown hts hl.1 (kX7_move l D E (aZ0 q u8) H.size (rf1_8 h)) (cwV 3 hts gL_refusesAny_X7_move rfl rfl rfl (by decide +kernel) ⟨Nat.le_of_ble_eq_true rfl, Nat.le_of_ble_eq_true rfl⟩) hP hD hS hA hK rfl rfl (Nat.le_of_ble_eq_true rfl) dL_refusesAny_152 ⟨Nat.le_of_ble_eq_true rfl, Nat.le_of_ble_eq_true rfl⟩ (fun u9 H locs hP hD hS => ?_)
  refine lv_iconst (v := -1) hx hb dL_refusesAny_155 (by decide) ?_
  refine lv_icmp_ne (tgt := 253) hx hb dL_refusesAny_156 (by decide) (fun c9 => absurd (by decide) c9) (fun _ => ?_)
  refine lv_aload_n hx hb dL_refusesAny_159 rfl (lv_at hl 3 rfl) ?_
  refine lv_iload hx hb dL_refusesAny_160 (lv_at hl 0 rfl) ?_
  refine lv_iconst (v := 1) hx hb dL_refusesAny_162 (by decide) ?_
  refine t0_VI (As := [.int (8192:Int32), .int (1:Int32)]) (rest := []) (Z1 := Z) hx hb hml hown hts hl.1 (kX7_split l D E (aZ0 q u9) H.size (rf1_9 h)) (cwV 2 hts gL_refusesAny_X7_split rfl rfl rfl (by decide +kernel) ⟨Nat.le_of_ble_eq_true rfl, Nat.le_of_ble_eq_true rfl⟩) hP hD hS hA hK rfl rfl (Nat.le_of_ble_eq_true rfl) dL_refusesAny_163 ⟨Nat.le_of_ble_eq_true rfl, Nat.le_of_ble_eq_true rfl⟩ (fun u10 H locs hP hD hS => ?_)
  refine lv_iconst (v := -1) hx hb dL_refusesAny_166 (by decide) ?_
  refine lv_icmp_ne (tgt := 253) hx hb dL_refusesAny_167 (by decide) (fun c9 => absurd (by decide) c9) (fun _ => ?_)
  refine lv_aload_n hx hb dL_refusesAny_170 rfl (lv_at hl 3 rfl) ?_
  refine lv_iload_n hx hb dL_refusesAny_171 rfl (lv_at hl 4 rfl) ?_
  refine lv_if_ne (tgt := 179) hx hb dL_refusesAny_172 (by decide) (fun _ => ?_) (fun c9 => absurd c9 (by decide))
  refine lv_bipush (v := 15) hx hb dL_refusesAny_179 (by decide) ?_
  refine lv_iconst (v := 1) hx hb dL_refusesAny_181 (by decide) ?_
  refine t0_VI (As := [.int (15:Int32), .int (1:Int32)]) (rest := []) (Z1 := Z) hx hb hml hown hts hl.1 (kX7_split l D E (aZ0 q u10) H.size (rf1_10 h)) (cwV 2 hts gL_refusesAny_X7_split rfl rfl rfl (by decide +kernel) ⟨Nat.le_of_ble_eq_true rfl, Nat.le_of_ble_eq_true rfl⟩) hP hD hS hA hK rfl rfl (Nat.le_of_ble_eq_true rfl) dL_refusesAny_182 ⟨Nat.le_of_ble_eq_true rfl, Nat.le_of_ble_eq_true rfl⟩ (fun u11 H locs hP hD hS => ?_)
  refine lv_iconst (v := -1) hx hb dL_refusesAny_185 (by decide) ?_
  refine lv_icmp_ne (tgt := 253) hx hb dL_refusesAny_186 (by decide) (fun c9 => absurd (by decide) c9) (fun _ => ?_)
  refine lv_aload_n hx hb dL_refusesAny_189 rfl (lv_at hl 3 rfl) ?_
  refine lv_iload_n hx hb dL_refusesAny_190 rfl (lv_at hl 4 rfl) ?_
  refine lv_if_ne (tgt := 200) hx hb dL_refusesAny_191 (by decide) (fun _ => ?_) (fun c9 => absurd c9 (by decide))
  refine lv_sipush (v := 8191) hx hb dL_refusesAny_200 (by decide) ?_
  refine lv_iconst (v := 1) hx hb dL_refusesAny_203 (by decide) ?_
  refine t0_VI (As := [.int (8191:Int32), .int (1:Int32)]) (rest := []) (Z1 := Z) hx hb hml hown hts hl.1 (kX7_split l D E (aZ0 q u11) H.size (rf1_11 h)) (cwV 2 hts gL_refusesAny_X7_split rfl rfl rfl (by decide +kernel) ⟨Nat.le_of_ble_eq_true rfl, Nat.le_of_ble_eq_true rfl⟩) hP hD hS hA hK rfl rfl (Nat.le_of_ble_eq_true rfl) dL_refusesAny_204 ⟨Nat.le_of_ble_eq_true rfl, Nat.le_of_ble_eq_true rfl⟩ (fun u12 H locs hP hD hS => ?_)
  refine lv_iconst (v := -1) hx hb dL_refusesAny_207 (by decide) ?_
  refine lv_icmp_ne (tgt := 253) hx hb dL_refusesAny_208 (by decide) (fun c9 => absurd (by decide) c9) (fun _ => ?_)
  refine lv_aload_n hx hb dL_refusesAny_211 rfl (lv_at hl 3 rfl) ?_
  refine lv_iconst (v := -1) hx hb dL_refusesAny_212 (by decide) ?_
  refine lv_iconst (v := 0) hx hb dL_refusesAny_213 (by decide) ?_
  refine t0_VI (As := [.int (-1:Int32), .int (0:Int32)]) (rest := []) (Z1 := Z) hx hb hml hown hts hl.1 (kX7_split l D E (aZ0 q u12) H.size (rf1_12 h)) (cwV 2 hts gL_refusesAny_X7_split rfl rfl rfl (by decide +kernel) ⟨Nat.le_of_ble_eq_true rfl, Nat.le_of_ble_eq_true rfl⟩) hP hD hS hA hK rfl rfl (Nat.le_of_ble_eq_true rfl) dL_refusesAny_214 ⟨Nat.le_of_ble_eq_true rfl, Nat.le_of_ble_eq_true rfl⟩ (fun u13 H locs hP hD hS => ?_)
  refine lv_iconst (v := -1) hx hb dL_refusesAny_217 (by decide) ?_
  refine lv_icmp_ne (tgt := 253) hx hb dL_refusesAny_218 (by decide) (fun c9 => absurd (by decide) c9) (fun _ => ?_)
  exact ra1_c2 h C hK hA hZ u13 H locs ls hP hD hS hl

set_option maxRecDepth 100000 in
set_option maxHeartbeats 4000000 in
theorem ra1_c0 {l : Launch} {t : Nat → Nat} {D : va_G} {E : Nat → ClassId} {p : Program} {e : Env} {s : State} {m : MethodId} {below : List Frame} {meth : Method} {c : Code} {A : Nat → Prop} {q : Nat} {Z : Nat → FS} {A0 : AS} (h : RH Z A0) (C : Ctx p s m meth c [.ref q, .int (1:Int32)] wsL_refusesAny cL_refusesAny 5 (some .boolean) RL) (hK : va_K D vwCl (tyE E) s) (hA : ∀ q : Nat, s.heap.size ≤ q → A q) (hZ : zSX t A s) (u : Nat → Nat) (H : Heap) (locs : List Loc) (ls : Array Slot) (hP : va_P D vwCl (wQ E (aZ0 q u) Z) H) (hD : va_D A (wQ E (aZ0 q u) Z)) (hS : va_S A s.heap H locs) (hl : lv_has ls 5 [(0, .ref q), (1, .int (1:Int32))]) : WI p l e (rmW 15 350 6 24) s m [.ref q, .int (1:Int32)] below meth c D A 1 (fun u1 : Nat → Nat => wQ E (aZ0 q u1) Z) 6 24 H locs 0 0 0 ls [] := by
  obtain ⟨hx, hb, hr, hml, hown, hlocks, hts⟩ := id C
  refine lv_iload_n hx hb dL_refusesAny_0 rfl (lv_at hl 1 rfl) ?_
  refine lv_if_ne (tgt := 8) hx hb dL_refusesAny_1 (by decide) (fun _ => ?_) (fun c9 => absurd c9 (by decide))
  refine lv_bipush (v := 64) hx hb dL_refusesAny_8 (by decide) ?_
  refine lv_istore_n (lv' := [(2, .int (64:Int32)), (0, .ref q), (1, .int (1:Int32))]) hx hb dL_refusesAny_10 rfl hl (by decide) rfl (fun ls hl => ?_)
  refine lv_iload_n hx hb dL_refusesAny_11 rfl (lv_at hl 2 rfl) ?_
  refine lv_if_ne (tgt := 19) hx hb dL_refusesAny_12 (by decide) (fun _ => ?_) (fun c9 => absurd c9 (by decide))
  refine lv_aload_n hx hb dL_refusesAny_19 rfl (lv_at hl 1 rfl) ?_
  refine lv_iconst (v := 0) hx hb dL_refusesAny_20 (by decide) ?_
  refine q_V (As := [.int (0:Int32)]) (rest := []) (C := RX7) (T0 := TX7) (N0 := 4) (ci := 6) hx hb hml hown hts hl.1 (kX7_count l D E t (aZ0 q u) (cn0 h)) zSt_mv (cwV 1 hts gL_refusesAny_X7_count rfl rfl rfl (by decide +kernel) ⟨Nat.le_of_ble_eq_true rfl, Nat.le_of_ble_eq_true rfl⟩) 0 rfl rfl hP hK (zSX_now hZ hS) rfl rfl (Nat.le_of_ble_eq_true rfl) dL_refusesAny_21 ⟨Nat.le_of_ble_eq_true rfl, Nat.le_of_ble_eq_true rfl⟩ ?_
  refine lv_istore_n (lv' := [(3, .int (nI (A0 2 0))), (2, .int (64:Int32)), (0, .ref q), (1, .int (1:Int32))]) hx hb dL_refusesAny_24 rfl hl (by decide) rfl (fun ls hl => ?_)
  refine lv_iload_n hx hb dL_refusesAny_25 rfl (lv_at hl 3 rfl) ?_
  refine lv_if_ne (tgt := 33) hx hb dL_refusesAny_26 (by decide) (fun _ => ?_) (fun c9 => absurd c9 (by decide))
  refine lv_sipush (v := 8192) hx hb dL_refusesAny_33 (by decide) ?_
  refine lv_istore (lv' := [(4, .int (8192:Int32)), (3, .int (nI (A0 2 0))), (2, .int (64:Int32)), (0, .ref q), (1, .int (1:Int32))]) hx hb dL_refusesAny_36 hl (by decide) rfl (fun ls hl => ?_)
  refine lv_aload_n hx hb dL_refusesAny_38 rfl (lv_at hl 3 rfl) ?_
  refine lv_iload_n hx hb dL_refusesAny_39 rfl (lv_at hl 4 rfl) ?_
  refine lv_if_ne (tgt := 47) hx hb dL_refusesAny_40 (by decide) (fun _ => ?_) (fun c9 => absurd c9 (by decide))
  refine lv_iconst (v := 2) hx hb dL_refusesAny_47 (by decide) ?_
  refine lv_iconst (v := 1) hx hb dL_refusesAny_48 (by decide) ?_
  refine t0_VI (As := [.int (2:Int32), .int (1:Int32)]) (rest := []) (Z1 := Z) hx hb hml hown hts hl.1 (kX7_set l D E (aZ0 q u) H.size (rf1_0 h)) (cwV 2 hts gL_refusesAny_X7_set rfl rfl rfl (by decide +kernel) ⟨Nat.le_of_ble_eq_true rfl, Nat.le_of_ble_eq_true rfl⟩) hP hD hS hA hK rfl rfl (Nat.le_of_ble_eq_true rfl) dL_refusesAny_49 ⟨Nat.le_of_ble_eq_true rfl, Nat.le_of_ble_eq_true rfl⟩ (fun u1 H locs hP hD hS => ?_)
  refine lv_bipush (v := -2) hx hb dL_refusesAny_52 (by decide) ?_
  refine lv_icmp_ne (tgt := 253) hx hb dL_refusesAny_54 (by decide) (fun c9 => absurd (by decide) c9) (fun _ => ?_)
  refine lv_aload_n hx hb dL_refusesAny_57 rfl (lv_at hl 3 rfl) ?_
  refine lv_iconst (v := 0) hx hb dL_refusesAny_58 (by decide) ?_
  refine lv_iload_n hx hb dL_refusesAny_59 rfl (lv_at hl 4 rfl) ?_
  refine lv_if_ne (tgt := 67) hx hb dL_refusesAny_60 (by decide) (fun _ => ?_) (fun c9 => absurd c9 (by decide))
  refine lv_bipush (v := 9) hx hb dL_refusesAny_67 (by decide) ?_
  refine t0_VI (As := [.int (0:Int32), .int (9:Int32)]) (rest := []) (Z1 := Z) hx hb hml hown hts hl.1 (kX7_set l D E (aZ0 q u1) H.size (rf1_1 h)) (cwV 2 hts gL_refusesAny_X7_set rfl rfl rfl (by decide +kernel) ⟨Nat.le_of_ble_eq_true rfl, Nat.le_of_ble_eq_true rfl⟩) hP hD hS hA hK rfl rfl (Nat.le_of_ble_eq_true rfl) dL_refusesAny_69 ⟨Nat.le_of_ble_eq_true rfl, Nat.le_of_ble_eq_true rfl⟩ (fun u2 H locs hP hD hS => ?_)
  refine lv_bipush (v := -2) hx hb dL_refusesAny_72 (by decide) ?_
  refine lv_icmp_ne (tgt := 253) hx hb dL_refusesAny_74 (by decide) (fun c9 => absurd (by decide) c9) (fun _ => ?_)
  refine lv_aload_n hx hb dL_refusesAny_77 rfl (lv_at hl 3 rfl) ?_
  refine lv_iconst (v := 1) hx hb dL_refusesAny_78 (by decide) ?_
  refine lv_iload_n hx hb dL_refusesAny_79 rfl (lv_at hl 4 rfl) ?_
  refine lv_if_ne (tgt := 87) hx hb dL_refusesAny_80 (by decide) (fun _ => ?_) (fun c9 => absurd c9 (by decide))
  refine lv_bipush (v := 7) hx hb dL_refusesAny_87 (by decide) ?_
  refine t0_VI (As := [.int (1:Int32), .int (7:Int32)]) (rest := []) (Z1 := Z) hx hb hml hown hts hl.1 (kX7_set l D E (aZ0 q u2) H.size (rf1_2 h)) (cwV 2 hts gL_refusesAny_X7_set rfl rfl rfl (by decide +kernel) ⟨Nat.le_of_ble_eq_true rfl, Nat.le_of_ble_eq_true rfl⟩) hP hD hS hA hK rfl rfl (Nat.le_of_ble_eq_true rfl) dL_refusesAny_89 ⟨Nat.le_of_ble_eq_true rfl, Nat.le_of_ble_eq_true rfl⟩ (fun u3 H locs hP hD hS => ?_)
  refine lv_bipush (v := -2) hx hb dL_refusesAny_92 (by decide) ?_
  refine lv_icmp_ne (tgt := 253) hx hb dL_refusesAny_94 (by decide) (fun c9 => absurd (by decide) c9) (fun _ => ?_)
  refine lv_aload_n hx hb dL_refusesAny_97 rfl (lv_at hl 3 rfl) ?_
  refine lv_iload_n hx hb dL_refusesAny_98 rfl (lv_at hl 2 rfl) ?_
  refine lv_iconst (v := 0) hx hb dL_refusesAny_99 (by decide) ?_
  refine t0_VI (As := [.int (64:Int32), .int (0:Int32)]) (rest := []) (Z1 := Z) hx hb hml hown hts hl.1 (kX7_point l D E (aZ0 q u3) H.size (rf1_3 h)) (cwV 2 hts gL_refusesAny_X7_point rfl rfl rfl (by decide +kernel) ⟨Nat.le_of_ble_eq_true rfl, Nat.le_of_ble_eq_true rfl⟩) hP hD hS hA hK rfl rfl (Nat.le_of_ble_eq_true rfl) dL_refusesAny_100 ⟨Nat.le_of_ble_eq_true rfl, Nat.le_of_ble_eq_true rfl⟩ (fun u4 H locs hP hD hS => ?_)
  refine lv_iconst (v := -1) hx hb dL_refusesAny_103 (by decide) ?_
  refine lv_icmp_ne (tgt := 253) hx hb dL_refusesAny_104 (by decide) (fun c9 => absurd (by decide) c9) (fun _ => ?_)
  refine lv_aload_n hx hb dL_refusesAny_107 rfl (lv_at hl 3 rfl) ?_
  refine lv_iconst (v := 0) hx hb dL_refusesAny_108 (by decide) ?_
  refine lv_iload_n hx hb dL_refusesAny_109 rfl (lv_at hl 2 rfl) ?_
  refine t0_VI (As := [.int (0:Int32), .int (64:Int32)]) (rest := []) (Z1 := Z) hx hb hml hown hts hl.1 (kX7_point l D E (aZ0 q u4) H.size (rf1_4 h)) (cwV 2 hts gL_refusesAny_X7_point rfl rfl rfl (by decide +kernel) ⟨Nat.le_of_ble_eq_true rfl, Nat.le_of_ble_eq_true rfl⟩) hP hD hS hA hK rfl rfl (Nat.le_of_ble_eq_true rfl) dL_refusesAny_110 ⟨Nat.le_of_ble_eq_true rfl, Nat.le_of_ble_eq_true rfl⟩ (fun u5 H locs hP hD hS => ?_)
  refine lv_iconst (v := -1) hx hb dL_refusesAny_113 (by decide) ?_
  refine lv_icmp_ne (tgt := 253) hx hb dL_refusesAny_114 (by decide) (fun c9 => absurd (by decide) c9) (fun _ => ?_)
  exact ra1_c1 h C hK hA hZ u5 H locs ls hP hD hS hl

theorem kL_refusesAny1 (l : Launch) (t : Nat → Nat) (D : va_G) (E : Nat → ClassId) (q : Nat) (u : Nat → Nat) {Z : Nat → FS} {A0 : AS} (h : RH Z A0) (sz : Nat) : LI l yL_refusesAny wsL_refusesAny (rmW 15 350 6 24) t D E (wQ E (aZ0 q u) Z) sz [.ref q, .int (1:Int32)] 1 (fun u1 : Nat → Nat => wQ E (aZ0 q u1) Z) 6 24 := by
  refine LI.of (by decide) rfl (Nat.le_of_ble_eq_true rfl) ?_
  intro p e s m below meth c A H locs C hP hK hD hS hA hZ ls hl
  exact ra1_c0 h C hK hA hZ u H locs ls hP hD hS hl
