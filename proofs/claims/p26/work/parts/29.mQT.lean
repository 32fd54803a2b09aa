theorem lkX7_set_10 : (.fieldLink RX7 10 "QuarterTiles" "tree" "LQuarterTiles$Tree;" : Cond) ∈ wsX7_set := by decide +kernel
theorem hiX7_set_X7 : ∀ w ∈ wsX70, w ∈ wsX7_set := by decide +kernel
theorem lkX7_set_37 : (.fieldLink RX7 37 "QuarterTiles$Tree" "plan" "LQuarterTiles$Plan;" : Cond) ∈ wsX7_set := by decide +kernel
theorem hiX7_set_X5 : ∀ w ∈ wsX50, w ∈ wsX7_set := by decide +kernel
theorem lkX7_set_19 : (.fieldLink RX7 19 "QuarterTiles" "history" "LQuarterTiles$History;" : Cond) ∈ wsX7_set := by decide +kernel
theorem lkX7_set_51 : (.fieldLink RX7 51 "QuarterTiles$Plan" "deep" "I" : Cond) ∈ wsX7_set := by decide +kernel
theorem hiX7_set_X3 : ∀ w ∈ wsX30, w ∈ wsX7_set := by decide +kernel
theorem lkX7_set_45 : (.fieldLink RX7 45 "QuarterTiles$Plan" "full" "I" : Cond) ∈ wsX7_set := by decide +kernel
set_option maxRecDepth 100000 in
set_option maxHeartbeats 4000000 in
theorem wfX7_set_L72 {p : Program} {e : Env} {s : State} {m : MethodId} {below : List Frame} {meth : Method} {c : Code} {l : Launch} {D : va_G} {E : Nat → ClassId} {a0 : Nat → Nat} {x1 : Int32} {x2 : Int32} {v : Int32} {Q09 : Nat → FS} {A : Nat → Prop} (C : Ctx p s m meth c [.ref (a0 0), .int x1, .int x2] wsX7_set cX7_set 6 (some .int) RX7) (hK : va_K D vwCl (tyE E) s) (hA : ∀ q : Nat, s.heap.size ≤ q → A q) : ∀ (Q0 : Nat → FS) (y1 : Int32) (y2 : Int32) (z0 : Int32), fX7_set_L72 Q0 y1 y2 z0 = some (v, Q09) → ∀ (b0 : Nat → Nat) (H : Heap) (locs : List Loc) (ls : Array Slot), va_P D vwCl ((wQ E (aZ0 (a0 0) b0) Q0)) H → va_D A ((wQ E (aZ0 (a0 0) b0) Q0)) → va_S A s.heap H locs → lv_has ls 6 [(1, .int y1), (2, .int y2), (4, .ref ((aZ0 (a0 0) b0) 3))] → WI p l e (rmN 3 72) s m [.ref (a0 0), .int x1, .int x2] below meth c D A v (fun u : Nat → Nat => (wQ E (aZ0 (a0 0) u) Q09)) 0 0 H locs 0 0 72 ls [.int z0] := by
  obtain ⟨hx, hb, hr, hml, hown, hlocks, hts⟩ := id C
  intro Q0 y1 y2 z0 hv b0 H locs ls hP hD hS hl
  unfold fX7_set_L72 at hv
  refine lv_istore (lv' := [(5, .int z0), (1, .int y1), (2, .int y2), (4, .ref ((aZ0 (a0 0) b0) 3))]) hx hb dX7_set_72 hl (by decide) rfl (fun ls hl => ?_)
  refine lv_iload_n hx hb dX7_set_74 rfl (lv_at hl 1 rfl) ?_
  refine lv_if_ne (tgt := 87) hx hb dX7_set_75 (by decide) (fun c_75_k_9 => ?_) (fun c_75_k_9 => ?_)
  · have hv := qF c_75_k_9 hv
    refine lv_aload hx hb dX7_set_87 (lv_at hl 3 rfl) ?_
    refine lv_iload_n hx hb dX7_set_89 rfl (lv_at hl 2 rfl) ?_
    refine va_put (D := D) (ci := 2) (v := .int y2) (ty := .int) (C := RX3) (T := TX3) (N := 6) hx hb hts hiX7_set_X3 tyX3 tyX3_ok nmX3 hown hK hP hD hS 3 rfl rfl 5 (by decide) (hts _ lkX7_set_51) (fun _ h9 => h9) rfl (by decide +kernel) rfl rfl (Nat.le_of_ble_eq_true rfl) dX7_set_90 (fun H locs hP hD hS => ?_)
    obtain ⟨Q0s_10, hQ0s_10, hv⟩ := qB hv
    obtain ⟨hP, hD⟩ := m_st (F := fun Z9 : Nat → FS => (wQ E (aZ0 (a0 0) b0) Z9)) (Option.some.inj hQ0s_10) hP hD
    refine lv_iload hx hb dX7_set_93 (lv_at hl 0 rfl) ?_
    exact m_ret (F := (fun (Z9 : Nat → FS) => (fun u : Nat → Nat => (wQ E (aZ0 (a0 0) u) Z9)))) (fun i => (aZ0 (a0 0) b0) (i + 1)) C dX7_set_95 hv hP hD hS
  · have hv := qT c_75_k_9 hv
    refine lv_aload hx hb dX7_set_78 (lv_at hl 3 rfl) ?_
    refine lv_iload_n hx hb dX7_set_80 rfl (lv_at hl 2 rfl) ?_
    refine va_put (D := D) (ci := 2) (v := .int y2) (ty := .int) (C := RX3) (T := TX3) (N := 6) hx hb hts hiX7_set_X3 tyX3 tyX3_ok nmX3 hown hK hP hD hS 3 rfl rfl 4 (by decide) (hts _ lkX7_set_45) (fun _ h9 => h9) rfl (by decide +kernel) rfl rfl (Nat.le_of_ble_eq_true rfl) dX7_set_81 (fun H locs hP hD hS => ?_)
    obtain ⟨Q0s_11, hQ0s_11, hv⟩ := qB hv
    obtain ⟨hP, hD⟩ := m_st (F := fun Z9 : Nat → FS => (wQ E (aZ0 (a0 0) b0) Z9)) (Option.some.inj hQ0s_11) hP hD
    refine lv_goto (tgt := 93) hx hb dX7_set_84 (by decide) ?_
    refine lv_iload hx hb dX7_set_93 (lv_at hl 0 rfl) ?_
    exact m_ret (F := (fun (Z9 : Nat → FS) => (fun u : Nat → Nat => (wQ E (aZ0 (a0 0) u) Z9)))) (fun i => (aZ0 (a0 0) b0) (i + 1)) C dX7_set_95 hv hP hD hS

set_option maxRecDepth 100000 in
set_option maxHeartbeats 4000000 in
theorem wfX7_set_L23 {p : Program} {e : Env} {s : State} {m : MethodId} {below : List Frame} {meth : Method} {c : Code} {l : Launch} {D : va_G} {E : Nat → ClassId} {a0 : Nat → Nat} {x1 : Int32} {x2 : Int32} {v : Int32} {Q09 : Nat → FS} {A : Nat → Prop} (C : Ctx p s m meth c [.ref (a0 0), .int x1, .int x2] wsX7_set cX7_set 6 (some .int) RX7) (hK : va_K D vwCl (tyE E) s) (hA : ∀ q : Nat, s.heap.size ≤ q → A q) : ∀ (Q0 : Nat → FS) (y1 : Int32) (y2 : Int32) (z0 : Int32), fX7_set_L23 Q0 y1 y2 z0 = some (v, Q09) → ∀ (b0 : Nat → Nat) (H : Heap) (locs : List Loc) (ls : Array Slot), va_P D vwCl ((wQ E (aZ0 (a0 0) b0) Q0)) H → va_D A ((wQ E (aZ0 (a0 0) b0) Q0)) → va_S A s.heap H locs → lv_has ls 6 [(0, .ref ((aZ0 (a0 0) b0) 0)), (1, .int y1), (2, .int y2)] → WI p l e (rmN 3 72) s m [.ref (a0 0), .int x1, .int x2] below meth c D A v (fun u : Nat → Nat => (wQ E (aZ0 (a0 0) u) Q09)) 0 0 H locs 0 0 23 ls [.int z0] := by
  obtain ⟨hx, hb, hr, hml, hown, hlocks, hts⟩ := id C
  intro Q0 y1 y2 z0 hv b0 H locs ls hP hD hS hl
  unfold fX7_set_L23 at hv
  refine lv_istore_n (lv' := [(3, .int z0), (0, .ref ((aZ0 (a0 0) b0) 0)), (1, .int y1), (2, .int y2)]) hx hb dX7_set_23 rfl hl (by decide) rfl (fun ls hl => ?_)
  refine lv_iload_n hx hb dX7_set_24 rfl (lv_at hl 3 rfl) ?_
  refine lv_iconst (v := 1) hx hb dX7_set_25 (by decide) ?_
  refine lv_icmp_lt (tgt := 34) hx hb dX7_set_26 (by decide) (fun c_26_k_3 => ?_) (fun c_26_k_3 => ?_)
  · have hv := qT c_26_k_3 hv
    refine lv_bipush (v := -2) hx hb dX7_set_34 (by decide) ?_
    exact m_ret (F := (fun (Z9 : Nat → FS) => (fun u : Nat → Nat => (wQ E (aZ0 (a0 0) u) Z9)))) (fun i => (aZ0 (a0 0) b0) (i + 1)) C dX7_set_36 hv hP hD hS
  · have hv := qF c_26_k_3 hv
    refine lv_iload_n hx hb dX7_set_29 rfl (lv_at hl 3 rfl) ?_
    refine lv_iload_n hx hb dX7_set_30 rfl (lv_at hl 0 rfl) ?_
    refine lv_icmp_le (tgt := 37) hx hb dX7_set_31 (by decide) (fun c_31_k_4 => ?_) (fun c_31_k_4 => ?_)
    · have hv := qT c_31_k_4 hv
      refine lv_aload_n hx hb dX7_set_37 rfl (lv_at hl 1 rfl) ?_
      refine va_get (D := D) (ci := 6) (v := .ref ((aZ0 (a0 0) b0) 1)) (C := RX7) (T := TX7) (N := 4) hx hb hts hiX7_set_X7 hown hK hP 0 rfl rfl 0 (by decide) (hts _ lkX7_set_10) (fun _ h9 => h9) rfl dX7_set_38 ?_
      refine va_get (D := D) (ci := 4) (v := .ref ((aZ0 (a0 0) b0) 3)) (C := RX5) (T := TX5) (N := 2) hx hb hts hiX7_set_X5 hown hK hP 1 rfl rfl 0 (by decide) (hts _ lkX7_set_37) (fun _ h9 => h9) rfl dX7_set_41 ?_
      refine lv_astore (lv' := [(4, .ref ((aZ0 (a0 0) b0) 3)), (3, .int z0), (0, .ref ((aZ0 (a0 0) b0) 0)), (1, .int y1), (2, .int y2)]) hx hb dX7_set_44 hl (by decide) rfl (fun ls hl => ?_)
      refine lv_aload_n hx hb dX7_set_46 rfl (lv_at hl 2 rfl) ?_
      refine va_get (D := D) (ci := 6) (v := .ref ((aZ0 (a0 0) b0) 6)) (C := RX7) (T := TX7) (N := 4) hx hb hts hiX7_set_X7 hown hK hP 0 rfl rfl 1 (by decide) (hts _ lkX7_set_19) (fun _ h9 => h9) rfl dX7_set_47 ?_
      refine lv_aload hx hb dX7_set_50 (lv_at hl 0 rfl) ?_
      obtain ⟨S_5, hS_5, hv⟩ := qB hv
      refine m_VV (As := [.ref ((aZ0 (a0 0) b0) 3)]) (rest := []) (C := RX0) (T0 := TX0) (N0 := 2) (ci := 0) (Wn := (fun u9 : Nat → Nat => (wQ E (aH (aZ0 (a0 0) b0) u9) (mgH Q0 S_5)))) (Wr := [(((aZ0 (a0 0) b0) 0), .inr (6, [.ref ((aZ0 (a0 0) b0) 1), .ref ((aZ0 (a0 0) b0) 6), .ref ((aZ0 (a0 0) b0) 26), .ref ((aZ0 (a0 0) b0) 35)])), (((aZ0 (a0 0) b0) 1), .inr (4, [.ref ((aZ0 (a0 0) b0) 3), .ref ((aZ0 (a0 0) b0) 2)])), aI E ((aZ0 (a0 0) b0) 2) 8192 ((Q0 0) 3), (((aZ0 (a0 0) b0) 26), .inr (3, [.ref ((aZ0 (a0 0) b0) 27), .ref ((aZ0 (a0 0) b0) 28)])), aP E ((aZ0 (a0 0) b0) 27) 2 (fS ((aZ0 (a0 0) b0) 29) ((aZ0 (a0 0) b0) 32)), aZ E ((aZ0 (a0 0) b0) 28) 2 (Q0 2 1), (((aZ0 (a0 0) b0) 29), .inr (2, [.ref ((aZ0 (a0 0) b0) 30), .ref ((aZ0 (a0 0) b0) 31), .int ((Q0 9) 2 0), .int ((Q0 9) 2 1), .int ((Q0 9) 2 2), .int ((Q0 9) 2 3)])), aI E ((aZ0 (a0 0) b0) 30) 50 ((Q0 9) 0), aI E ((aZ0 (a0 0) b0) 31) 12 ((Q0 9) 1), (((aZ0 (a0 0) b0) 32), .inr (2, [.ref ((aZ0 (a0 0) b0) 33), .ref ((aZ0 (a0 0) b0) 34), .int ((Q0 10) 2 0), .int ((Q0 10) 2 1), .int ((Q0 10) 2 2), .int ((Q0 10) 2 3)])), aI E ((aZ0 (a0 0) b0) 33) 50 ((Q0 10) 0), aI E ((aZ0 (a0 0) b0) 34) 12 ((Q0 10) 1), (((aZ0 (a0 0) b0) 35), .inr (1, [.ref ((aZ0 (a0 0) b0) 36), .ref ((aZ0 (a0 0) b0) 37), .int ((Q0 1) 2 0)])), aI E ((aZ0 (a0 0) b0) 36) 80 ((Q0 1) 0), aI E ((aZ0 (a0 0) b0) 37) 20 ((Q0 1) 1)]) hx hb hml hown hts hl.1 (kX0_remember l D E ((aZ0 (a0 0) b0) 6) ((aZ0 (a0 0) b0) 7) ((aZ0 (a0 0) b0) 8) ((aZ0 (a0 0) b0) 9) ((aZ0 (a0 0) b0) 10) ((aZ0 (a0 0) b0) 11) ((aZ0 (a0 0) b0) 12) ((aZ0 (a0 0) b0) 13) ((aZ0 (a0 0) b0) 14) ((aZ0 (a0 0) b0) 15) ((aZ0 (a0 0) b0) 16) ((aZ0 (a0 0) b0) 17) ((aZ0 (a0 0) b0) 18) ((aZ0 (a0 0) b0) 19) ((aZ0 (a0 0) b0) 20) ((aZ0 (a0 0) b0) 21) ((aZ0 (a0 0) b0) 22) ((aZ0 (a0 0) b0) 23) ((aZ0 (a0 0) b0) 24) ((aZ0 (a0 0) b0) 25) ((aZ0 (a0 0) b0) 3) ((aZ0 (a0 0) b0) 4) ((aZ0 (a0 0) b0) 5) H.size hS_5) (cwV 1 hts gX7_set_X0_remember rfl rfl rfl (by decide +kernel) ⟨Nat.le_of_ble_eq_true rfl, Nat.le_of_ble_eq_true rfl⟩) 0 rfl rfl hP hD hS hA hK [6, 7, 8, 9, 10, 11, 12, 13, 14, 15, 16, 17, 18, 19, 20, 21, 22, 23, 24, 25, 3, 4, 5] [0, 1, 2, 26, 27, 28, 29, 30, 31, 32, 33, 34, 35, 36, 37] [0, 1, 2, 35, 36, 37, 15, 16, 17, 18, 19, 20, 21, 22, 23, 24, 25, 26, 27, 28, 29, 30, 31, 32, 33, 34, 3, 4, 5, 6, 7, 8, 9, 10, 11, 12, 13, 14] (by decide) rfl rfl (by decide) (by decide) (by decide) (fun _ => rfl) rfl rfl (Nat.le_of_ble_eq_true rfl) dX7_set_52 ⟨Nat.le_of_ble_eq_true rfl, Nat.le_of_ble_eq_true rfl⟩ (fun u9 H locs hP hD hS => ?_)
      obtain ⟨u_6, hu⟩ : ∃ x, x = u9 := ⟨_, rfl⟩
      rw [← hu] at hP hD
      clear hu
      obtain ⟨Q0s_7, hQ0s_7, hv⟩ := qB hv
      obtain ⟨hP, hD⟩ := m_st (F := fun Z9 : Nat → FS => (wQ E (aH (aZ0 (a0 0) b0) u_6) Z9)) (Option.some.inj hQ0s_7) hP hD
      refine lv_iload_n hx hb dX7_set_55 rfl (lv_at hl 3 rfl) ?_
      refine lv_if_ne (tgt := 67) hx hb dX7_set_56 (by decide) (fun c_56_k_8 => ?_) (fun c_56_k_8 => ?_)
      · have hv := qF c_56_k_8 hv
        refine lv_aload hx hb dX7_set_67 (lv_at hl 0 rfl) ?_
        refine va_get (D := D) (ci := 2) (v := .int ((Q0s_7 0) 2 3)) (C := RX3) (T := TX3) (N := 6) hx hb hts hiX7_set_X3 hown hK hP 3 rfl rfl 5 (by decide) (hts _ lkX7_set_51) (fun _ h9 => h9) rfl dX7_set_69 ?_
        exact wfX7_set_L72 C hK hA  Q0s_7 y1 y2 ((Q0s_7 0) 2 3) hv (fun i => (aH (aZ0 (a0 0) b0) u_6) (i + 1)) _ _ _ hP hD hS (lv_sub hl [3, 4, 0] rfl)
      · have hv := qT c_56_k_8 hv
        refine lv_aload hx hb dX7_set_59 (lv_at hl 0 rfl) ?_
        refine va_get (D := D) (ci := 2) (v := .int ((Q0s_7 0) 2 2)) (C := RX3) (T := TX3) (N := 6) hx hb hts hiX7_set_X3 hown hK hP 3 rfl rfl 4 (by decide) (hts _ lkX7_set_45) (fun _ h9 => h9) rfl dX7_set_61 ?_
        refine lv_goto (tgt := 72) hx hb dX7_set_64 (by decide) ?_
        exact wfX7_set_L72 C hK hA  Q0s_7 y1 y2 ((Q0s_7 0) 2 2) hv (fun i => (aH (aZ0 (a0 0) b0) u_6) (i + 1)) _ _ _ hP hD hS (lv_sub hl [3, 4, 0] rfl)
    · have hv := qF c_31_k_4 hv
      refine lv_bipush (v := -2) hx hb dX7_set_34 (by decide) ?_
      exact m_ret (F := (fun (Z9 : Nat → FS) => (fun u : Nat → Nat => (wQ E (aZ0 (a0 0) u) Z9)))) (fun i => (aZ0 (a0 0) b0) (i + 1)) C dX7_set_36 hv hP hD hS

set_option maxRecDepth 100000 in
set_option maxHeartbeats 4000000 in
theorem wfX7_set_L12 {p : Program} {e : Env} {s : State} {m : MethodId} {below : List Frame} {meth : Method} {c : Code} {l : Launch} {D : va_G} {E : Nat → ClassId} {a0 : Nat → Nat} {x1 : Int32} {x2 : Int32} {v : Int32} {Q09 : Nat → FS} {A : Nat → Prop} (C : Ctx p s m meth c [.ref (a0 0), .int x1, .int x2] wsX7_set cX7_set 6 (some .int) RX7) (hK : va_K D vwCl (tyE E) s) (hA : ∀ q : Nat, s.heap.size ≤ q → A q) : ∀ (Q0 : Nat → FS) (y1 : Int32) (y2 : Int32), fX7_set_L12 Q0 y1 y2 = some (v, Q09) → ∀ (b0 : Nat → Nat) (H : Heap) (locs : List Loc) (ls : Array Slot), va_P D vwCl ((wQ E (aZ0 (a0 0) b0) Q0)) H → va_D A ((wQ E (aZ0 (a0 0) b0) Q0)) → va_S A s.heap H locs → lv_has ls 6 [(0, .ref ((aZ0 (a0 0) b0) 0)), (1, .int y1), (2, .int y2)] → WI p l e (rmN 3 72) s m [.ref (a0 0), .int x1, .int x2] below meth c D A v (fun u : Nat → Nat => (wQ E (aZ0 (a0 0) u) Q09)) 0 0 H locs 0 0 12 ls [] := by
  obtain ⟨hx, hb, hr, hml, hown, hlocks, hts⟩ := id C
  intro Q0 y1 y2 hv b0 H locs ls hP hD hS hl
  unfold fX7_set_L12 at hv
  refine lv_iload_n hx hb dX7_set_12 rfl (lv_at hl 1 rfl) ?_
  refine lv_if_ne (tgt := 21) hx hb dX7_set_13 (by decide) (fun c_13_k_2 => ?_) (fun c_13_k_2 => ?_)
  · have hv := qF c_13_k_2 hv
    refine lv_bipush (v := 6) hx hb dX7_set_21 (by decide) ?_
    exact wfX7_set_L23 C hK hA  Q0 y1 y2 (6:Int32) hv (fun i => (aZ0 (a0 0) b0) (i + 1)) _ _ _ hP hD hS (lv_sub hl [0, 1, 2] rfl)
  · have hv := qT c_13_k_2 hv
    refine lv_bipush (v := 8) hx hb dX7_set_16 (by decide) ?_
    refine lv_goto (tgt := 23) hx hb dX7_set_18 (by decide) ?_
    exact wfX7_set_L23 C hK hA  Q0 y1 y2 (8:Int32) hv (fun i => (aZ0 (a0 0) b0) (i + 1)) _ _ _ hP hD hS (lv_sub hl [0, 1, 2] rfl)

set_option maxRecDepth 100000 in
set_option maxHeartbeats 4000000 in
theorem kX7_set (l : Launch) (D : va_G) (E : Nat → ClassId) (a0 : Nat → Nat) {Q0 : Nat → FS} {x1 : Int32} {x2 : Int32} {v : Int32} {Q09 : Nat → FS} (sz : Nat) (hv : fX7_set Q0 x1 x2 = some (v, Q09)) : MI l yX7_set wsX7_set (rmN 3 72) D E ((wQ E a0 Q0)) sz [.ref (a0 0), .int x1, .int x2] v (fun u : Nat → Nat => (wQ E (aZ0 (a0 0) u) Q09)) 0 0 := by
  refine MI.of (by decide) rfl (Nat.le_of_ble_eq_true rfl) ?_
  intro p e s m below meth c A H locs C hP hK hD hS hA ls hl
  have hl : lv_has ls 6 [(0, .ref (a0 0)), (1, .int x1), (2, .int x2)] := hl
  obtain ⟨hx, hb, hr, hml, hown, hlocks, hts⟩ := id C
  unfold fX7_set at hv
  refine lv_iload_n hx hb dX7_set_0 rfl (lv_at hl 1 rfl) ?_
  refine lv_if_eq (tgt := 12) hx hb dX7_set_1 (by decide) (fun c_1_k_1 => ?_) (fun c_1_k_1 => ?_)
  · have hv := qT c_1_k_1 hv
    exact wfX7_set_L12 C hK hA  Q0 x1 x2 hv (fun i => a0 (i + 1)) _ _ _ hP hD hS (lv_sub hl [0, 1, 2] rfl)
  · have hv := qF c_1_k_1 hv
    refine lv_iload_n hx hb dX7_set_4 rfl (lv_at hl 1 rfl) ?_
    refine lv_iconst (v := 1) hx hb dX7_set_5 (by decide) ?_
    refine lv_icmp_eq (tgt := 12) hx hb dX7_set_6 (by decide) (fun c_6_k_12 => ?_) (fun c_6_k_12 => ?_)
    · have hv := qT c_6_k_12 hv
      exact wfX7_set_L12 C hK hA  Q0 x1 x2 hv (fun i => a0 (i + 1)) _ _ _ hP hD hS (lv_sub hl [0, 1, 2] rfl)
    · have hv := qF c_6_k_12 hv
      refine lv_bipush (v := -2) hx hb dX7_set_9 (by decide) ?_
      exact m_ret (F := (fun (Z9 : Nat → FS) => (fun u : Nat → Nat => (wQ E (aZ0 (a0 0) u) Z9)))) (fun i => a0 (i + 1)) C dX7_set_11 hv hP hD hS

theorem lkX7_point_10 : (.fieldLink RX7 10 "QuarterTiles" "tree" "LQuarterTiles$Tree;" : Cond) ∈ wsX7_point := by decide +kernel
theorem hiX7_point_X7 : ∀ w ∈ wsX70, w ∈ wsX7_point := by decide +kernel
theorem lkX7_point_37 : (.fieldLink RX7 37 "QuarterTiles$Tree" "plan" "LQuarterTiles$Plan;" : Cond) ∈ wsX7_point := by decide +kernel
theorem hiX7_point_X5 : ∀ w ∈ wsX50, w ∈ wsX7_point := by decide +kernel
theorem lkX7_point_19 : (.fieldLink RX7 19 "QuarterTiles" "history" "LQuarterTiles$History;" : Cond) ∈ wsX7_point := by decide +kernel
set_option maxRecDepth 100000 in
set_option maxHeartbeats 4000000 in
theorem kX7_point (l : Launch) (D : va_G) (E : Nat → ClassId) (a0 : Nat → Nat) {Q0 : Nat → FS} {x1 : Int32} {x2 : Int32} {v : Int32} {Q09 : Nat → FS} (sz : Nat) (hv : fX7_point Q0 x1 x2 = some (v, Q09)) : MI l yX7_point wsX7_point (rmN 13 301) D E ((wQ E a0 Q0)) sz [.ref (a0 0), .int x1, .int x2] v (fun u : Nat → Nat => (wQ E (aZ0 (a0 0) u) Q09)) 0 0 := by
  refine MI.of (by decide) rfl (Nat.le_of_ble_eq_true rfl) ?_
  intro p e s m below meth c A H locs C hP hK hD hS hA ls hl
  have hl : lv_has ls 5 [(0, .ref (a0 0)), (1, .int x1), (2, .int x2)] := hl
  obtain ⟨hx, hb, hr, hml, hown, hlocks, hts⟩ := id C
  unfold fX7_point at hv
  refine lv_iload_n hx hb dX7_point_0 rfl (lv_at hl 1 rfl) ?_
  refine lv_iload_n hx hb dX7_point_1 rfl (lv_at hl 2 rfl) ?_
  obtain ⟨r_1, hr_1, hv⟩ := qB hv
  refine q_S (As := [.int x1, .int x2]) (rest := []) hx hb hml hown hts hl.1 (kX1_isPlace l D E  hr_1) zNo_mv (va_cwS 2 hts gX7_point_X1_isPlace rfl rfl rfl (by decide +kernel) ⟨Nat.le_of_ble_eq_true rfl, Nat.le_of_ble_eq_true rfl⟩) (hP.sub (ws' := []) [] rfl) hK trivial rfl rfl (Nat.le_of_ble_eq_true rfl) dX7_point_2 ⟨Nat.zero_le _, Nat.zero_le _⟩ ?_
  refine lv_if_ne (tgt := 10) hx hb dX7_point_5 (by decide) (fun c_5_k_2 => ?_) (fun c_5_k_2 => ?_)
  · have hv := qF c_5_k_2 hv
    refine lv_iload_n hx hb dX7_point_10 rfl (lv_at hl 1 rfl) ?_
    refine lv_iload_n hx hb dX7_point_11 rfl (lv_at hl 2 rfl) ?_
    obtain ⟨r_3, hr_3, hv⟩ := qB hv
    refine q_S (As := [.int x1, .int x2]) (rest := []) hx hb hml hown hts hl.1 (kX1_placeAt l D E  hr_3) zNo_mv (va_cwS 2 hts gX7_point_X1_placeAt rfl rfl rfl (by decide +kernel) ⟨Nat.le_of_ble_eq_true rfl, Nat.le_of_ble_eq_true rfl⟩) (hP.sub (ws' := []) [] rfl) hK trivial rfl rfl (Nat.le_of_ble_eq_true rfl) dX7_point_12 ⟨Nat.zero_le _, Nat.zero_le _⟩ ?_
    refine lv_istore_n (lv' := [(3, .int r_3), (0, .ref (a0 0)), (1, .int x1), (2, .int x2)]) hx hb dX7_point_15 rfl hl (by decide) rfl (fun ls hl => ?_)
    refine lv_aload_n hx hb dX7_point_16 rfl (lv_at hl 1 rfl) ?_
    refine va_get (D := D) (ci := 6) (v := .ref (a0 1)) (C := RX7) (T := TX7) (N := 4) hx hb hts hiX7_point_X7 hown hK hP 0 rfl rfl 0 (by decide) (hts _ lkX7_point_10) (fun _ h9 => h9) rfl dX7_point_17 ?_
    refine va_get (D := D) (ci := 4) (v := .ref (a0 3)) (C := RX5) (T := TX5) (N := 2) hx hb hts hiX7_point_X5 hown hK hP 1 rfl rfl 0 (by decide) (hts _ lkX7_point_37) (fun _ h9 => h9) rfl dX7_point_20 ?_
    refine lv_iload_n hx hb dX7_point_23 rfl (lv_at hl 0 rfl) ?_
    obtain ⟨r_4, hr_4, hv⟩ := qB hv
    refine q_V (As := [.int r_3]) (rest := []) (C := RX3) (T0 := TX3) (N0 := 6) (ci := 2) hx hb hml hown hts hl.1 (kX3_errorOfPointAt l D E (a0 3) (a0 4) (a0 5) hr_4) zNo_mv (cwV 1 hts gX7_point_X3_errorOfPointAt rfl rfl rfl (by decide +kernel) ⟨Nat.le_of_ble_eq_true rfl, Nat.le_of_ble_eq_true rfl⟩) 0 rfl rfl (hP.sub (ws' := (wPlan E (a0 3) (a0 4) (a0 5) (Q0 0))) [3, 4, 5] rfl) hK trivial rfl rfl (Nat.le_of_ble_eq_true rfl) dX7_point_24 ⟨Nat.zero_le _, Nat.zero_le _⟩ ?_
    refine lv_istore (lv' := [(4, .int r_4), (3, .int r_3), (0, .ref (a0 0)), (1, .int x1), (2, .int x2)]) hx hb dX7_point_27 hl (by decide) rfl (fun ls hl => ?_)
    refine lv_iload hx hb dX7_point_29 (lv_at hl 0 rfl) ?_
    refine lv_if_eq (tgt := 37) hx hb dX7_point_31 (by decide) (fun c_31_k_5 => ?_) (fun c_31_k_5 => ?_)
    · have hv := qT c_31_k_5 hv
      refine lv_aload_n hx hb dX7_point_37 rfl (lv_at hl 2 rfl) ?_
      refine va_get (D := D) (ci := 6) (v := .ref (a0 6)) (C := RX7) (T := TX7) (N := 4) hx hb hts hiX7_point_X7 hown hK hP 0 rfl rfl 1 (by decide) (hts _ lkX7_point_19) (fun _ h9 => h9) rfl dX7_point_38 ?_
      refine lv_aload_n hx hb dX7_point_41 rfl (lv_at hl 2 rfl) ?_
      refine va_get (D := D) (ci := 6) (v := .ref (a0 1)) (C := RX7) (T := TX7) (N := 4) hx hb hts hiX7_point_X7 hown hK hP 0 rfl rfl 0 (by decide) (hts _ lkX7_point_10) (fun _ h9 => h9) rfl dX7_point_42 ?_
      refine va_get (D := D) (ci := 4) (v := .ref (a0 3)) (C := RX5) (T := TX5) (N := 2) hx hb hts hiX7_point_X5 hown hK hP 1 rfl rfl 0 (by decide) (hts _ lkX7_point_37) (fun _ h9 => h9) rfl dX7_point_45 ?_
      obtain ⟨S_6, hS_6, hv⟩ := qB hv
      refine m_VV (As := [.ref (a0 3)]) (rest := []) (C := RX0) (T0 := TX0) (N0 := 2) (ci := 0) (Wn := (fun u9 : Nat → Nat => (wQ E (aH a0 u9) (mgH Q0 S_6)))) (Wr := [((a0 0), .inr (6, [.ref (a0 1), .ref (a0 6), .ref (a0 26), .ref (a0 35)])), ((a0 1), .inr (4, [.ref (a0 3), .ref (a0 2)])), aI E (a0 2) 8192 ((Q0 0) 3), ((a0 26), .inr (3, [.ref (a0 27), .ref (a0 28)])), aP E (a0 27) 2 (fS (a0 29) (a0 32)), aZ E (a0 28) 2 (Q0 2 1), ((a0 29), .inr (2, [.ref (a0 30), .ref (a0 31), .int ((Q0 9) 2 0), .int ((Q0 9) 2 1), .int ((Q0 9) 2 2), .int ((Q0 9) 2 3)])), aI E (a0 30) 50 ((Q0 9) 0), aI E (a0 31) 12 ((Q0 9) 1), ((a0 32), .inr (2, [.ref (a0 33), .ref (a0 34), .int ((Q0 10) 2 0), .int ((Q0 10) 2 1), .int ((Q0 10) 2 2), .int ((Q0 10) 2 3)])), aI E (a0 33) 50 ((Q0 10) 0), aI E (a0 34) 12 ((Q0 10) 1), ((a0 35), .inr (1, [.ref (a0 36), .ref (a0 37), .int ((Q0 1) 2 0)])), aI E (a0 36) 80 ((Q0 1) 0), aI E (a0 37) 20 ((Q0 1) 1)]) hx hb hml hown hts hl.1 (kX0_remember l D E (a0 6) (a0 7) (a0 8) (a0 9) (a0 10) (a0 11) (a0 12) (a0 13) (a0 14) (a0 15) (a0 16) (a0 17) (a0 18) (a0 19) (a0 20) (a0 21) (a0 22) (a0 23) (a0 24) (a0 25) (a0 3) (a0 4) (a0 5) H.size hS_6) (cwV 1 hts gX7_point_X0_remember rfl rfl rfl (by decide +kernel) ⟨Nat.le_of_ble_eq_true rfl, Nat.le_of_ble_eq_true rfl⟩) 0 rfl rfl hP hD hS hA hK [6, 7, 8, 9, 10, 11, 12, 13, 14, 15, 16, 17, 18, 19, 20, 21, 22, 23, 24, 25, 3, 4, 5] [0, 1, 2, 26, 27, 28, 29, 30, 31, 32, 33, 34, 35, 36, 37] [0, 1, 2, 35, 36, 37, 15, 16, 17, 18, 19, 20, 21, 22, 23, 24, 25, 26, 27, 28, 29, 30, 31, 32, 33, 34, 3, 4, 5, 6, 7, 8, 9, 10, 11, 12, 13, 14] (by decide) rfl rfl (by decide) (by decide) (by decide) (fun _ => rfl) rfl rfl (Nat.le_of_ble_eq_true rfl) dX7_point_48 ⟨Nat.le_of_ble_eq_true rfl, Nat.le_of_ble_eq_true rfl⟩ (fun u9 H locs hP hD hS => ?_)
      obtain ⟨u_7, hu⟩ : ∃ x, x = u9 := ⟨_, rfl⟩
      rw [← hu] at hP hD
      clear hu
      obtain ⟨Q0s_8, hQ0s_8, hv⟩ := qB hv
      obtain ⟨hP, hD⟩ := m_st (F := fun Z9 : Nat → FS => (wQ E (aH a0 u_7) Z9)) (Option.some.inj hQ0s_8) hP hD
      refine lv_aload_n hx hb dX7_point_51 rfl (lv_at hl 2 rfl) ?_
      refine va_get (D := D) (ci := 6) (v := .ref ((aH a0 u_7) 1)) (C := RX7) (T := TX7) (N := 4) hx hb hts hiX7_point_X7 hown hK hP 0 rfl rfl 0 (by decide) (hts _ lkX7_point_10) (fun _ h9 => h9) rfl dX7_point_52 ?_
      refine lv_iload_n hx hb dX7_point_55 rfl (lv_at hl 1 rfl) ?_
      obtain ⟨S_9, hS_9, hv⟩ := qB hv
      refine m_VV (As := [.int r_3]) (rest := []) (C := RX5) (T0 := TX5) (N0 := 2) (ci := 4) (Wn := (fun _ : Unit => (wQ E (aH a0 u_7) (sq Q0s_8 0 S_9)))) (Wr := [(((aH a0 u_7) 0), .inr (6, [.ref ((aH a0 u_7) 1), .ref ((aH a0 u_7) 6), .ref ((aH a0 u_7) 26), .ref ((aH a0 u_7) 35)])), (((aH a0 u_7) 6), .inr (0, [.ref ((aH a0 u_7) 7), .int (Q0s_8 2 0 0)])), aP E ((aH a0 u_7) 7) 6 (fH ((aH a0 u_7) 8) ((aH a0 u_7) 11) ((aH a0 u_7) 14) ((aH a0 u_7) 17) ((aH a0 u_7) 20) ((aH a0 u_7) 23)), (((aH a0 u_7) 8), .inr (2, [.ref ((aH a0 u_7) 9), .ref ((aH a0 u_7) 10), .int ((Q0s_8 3) 2 0), .int ((Q0s_8 3) 2 1), .int ((Q0s_8 3) 2 2), .int ((Q0s_8 3) 2 3)])), aI E ((aH a0 u_7) 9) 50 ((Q0s_8 3) 0), aI E ((aH a0 u_7) 10) 12 ((Q0s_8 3) 1), (((aH a0 u_7) 11), .inr (2, [.ref ((aH a0 u_7) 12), .ref ((aH a0 u_7) 13), .int ((Q0s_8 4) 2 0), .int ((Q0s_8 4) 2 1), .int ((Q0s_8 4) 2 2), .int ((Q0s_8 4) 2 3)])), aI E ((aH a0 u_7) 12) 50 ((Q0s_8 4) 0), aI E ((aH a0 u_7) 13) 12 ((Q0s_8 4) 1), (((aH a0 u_7) 14), .inr (2, [.ref ((aH a0 u_7) 15), .ref ((aH a0 u_7) 16), .int ((Q0s_8 5) 2 0), .int ((Q0s_8 5) 2 1), .int ((Q0s_8 5) 2 2), .int ((Q0s_8 5) 2 3)])), aI E ((aH a0 u_7) 15) 50 ((Q0s_8 5) 0), aI E ((aH a0 u_7) 16) 12 ((Q0s_8 5) 1), (((aH a0 u_7) 17), .inr (2, [.ref ((aH a0 u_7) 18), .ref ((aH a0 u_7) 19), .int ((Q0s_8 6) 2 0), .int ((Q0s_8 6) 2 1), .int ((Q0s_8 6) 2 2), .int ((Q0s_8 6) 2 3)])), aI E ((aH a0 u_7) 18) 50 ((Q0s_8 6) 0), aI E ((aH a0 u_7) 19) 12 ((Q0s_8 6) 1), (((aH a0 u_7) 20), .inr (2, [.ref ((aH a0 u_7) 21), .ref ((aH a0 u_7) 22), .int ((Q0s_8 7) 2 0), .int ((Q0s_8 7) 2 1), .int ((Q0s_8 7) 2 2), .int ((Q0s_8 7) 2 3)])), aI E ((aH a0 u_7) 21) 50 ((Q0s_8 7) 0), aI E ((aH a0 u_7) 22) 12 ((Q0s_8 7) 1), (((aH a0 u_7) 23), .inr (2, [.ref ((aH a0 u_7) 24), .ref ((aH a0 u_7) 25), .int ((Q0s_8 8) 2 0), .int ((Q0s_8 8) 2 1), .int ((Q0s_8 8) 2 2), .int ((Q0s_8 8) 2 3)])), aI E ((aH a0 u_7) 24) 50 ((Q0s_8 8) 0), aI E ((aH a0 u_7) 25) 12 ((Q0s_8 8) 1), (((aH a0 u_7) 26), .inr (3, [.ref ((aH a0 u_7) 27), .ref ((aH a0 u_7) 28)])), aP E ((aH a0 u_7) 27) 2 (fS ((aH a0 u_7) 29) ((aH a0 u_7) 32)), aZ E ((aH a0 u_7) 28) 2 (Q0s_8 2 1), (((aH a0 u_7) 29), .inr (2, [.ref ((aH a0 u_7) 30), .ref ((aH a0 u_7) 31), .int ((Q0s_8 9) 2 0), .int ((Q0s_8 9) 2 1), .int ((Q0s_8 9) 2 2), .int ((Q0s_8 9) 2 3)])), aI E ((aH a0 u_7) 30) 50 ((Q0s_8 9) 0), aI E ((aH a0 u_7) 31) 12 ((Q0s_8 9) 1), (((aH a0 u_7) 32), .inr (2, [.ref ((aH a0 u_7) 33), .ref ((aH a0 u_7) 34), .int ((Q0s_8 10) 2 0), .int ((Q0s_8 10) 2 1), .int ((Q0s_8 10) 2 2), .int ((Q0s_8 10) 2 3)])), aI E ((aH a0 u_7) 33) 50 ((Q0s_8 10) 0), aI E ((aH a0 u_7) 34) 12 ((Q0s_8 10) 1), (((aH a0 u_7) 35), .inr (1, [.ref ((aH a0 u_7) 36), .ref ((aH a0 u_7) 37), .int ((Q0s_8 1) 2 0)])), aI E ((aH a0 u_7) 36) 80 ((Q0s_8 1) 0), aI E ((aH a0 u_7) 37) 20 ((Q0s_8 1) 1)]) hx hb hml hown hts hl.1 (kX5_addPoint l D E ((aH a0 u_7) 1) ((aH a0 u_7) 2) ((aH a0 u_7) 3) ((aH a0 u_7) 4) ((aH a0 u_7) 5) H.size hS_9) (cwV 1 hts gX7_point_X5_addPoint rfl rfl rfl (by decide +kernel) ⟨Nat.le_of_ble_eq_true rfl, Nat.le_of_ble_eq_true rfl⟩) 0 rfl rfl hP hD hS hA hK [1, 2, 3, 4, 5] [0, 6, 7, 8, 9, 10, 11, 12, 13, 14, 15, 16, 17, 18, 19, 20, 21, 22, 23, 24, 25, 26, 27, 28, 29, 30, 31, 32, 33, 34, 35, 36, 37] [0, 33, 34, 35, 36, 37, 1, 2, 3, 4, 5, 6, 7, 8, 9, 10, 11, 12, 13, 14, 15, 16, 17, 18, 19, 20, 21, 22, 23, 24, 25, 26, 27, 28, 29, 30, 31, 32] (by decide) rfl rfl (by decide) (by decide) (by decide) (fun _ => rfl) rfl rfl (Nat.le_of_ble_eq_true rfl) dX7_point_56 ⟨Nat.le_of_ble_eq_true rfl, Nat.le_of_ble_eq_true rfl⟩ (fun _ H locs hP hD hS => ?_)
      obtain ⟨Q0s_10, hQ0s_10, hv⟩ := qB hv
      obtain ⟨hP, hD⟩ := m_st (F := fun Z9 : Nat → FS => (wQ E (aH a0 u_7) Z9)) (Option.some.inj hQ0s_10) hP hD
      refine lv_aload_n hx hb dX7_point_59 rfl (lv_at hl 2 rfl) ?_
      refine va_get (D := D) (ci := 6) (v := .ref ((aH a0 u_7) 1)) (C := RX7) (T := TX7) (N := 4) hx hb hts hiX7_point_X7 hown hK hP 0 rfl rfl 0 (by decide) (hts _ lkX7_point_10) (fun _ h9 => h9) rfl dX7_point_60 ?_
      obtain ⟨r_11, hr_11, hv⟩ := qB hv
      refine q_V (As := []) (rest := []) (C := RX5) (T0 := TX5) (N0 := 2) (ci := 4) hx hb hml hown hts hl.1 (kX5_leaves l D E ((aH a0 u_7) 1) ((aH a0 u_7) 2) ((aH a0 u_7) 3) ((aH a0 u_7) 4) ((aH a0 u_7) 5) hr_11) zNo_mv (cwV 0 hts gX7_point_X5_leaves rfl rfl rfl (by decide +kernel) ⟨Nat.le_of_ble_eq_true rfl, Nat.le_of_ble_eq_true rfl⟩) 0 rfl rfl (hP.sub (ws' := (wTree E ((aH a0 u_7) 1) ((aH a0 u_7) 2) ((aH a0 u_7) 3) ((aH a0 u_7) 4) ((aH a0 u_7) 5) (Q0s_10 0))) [1, 2, 3, 4, 5] rfl) hK trivial rfl rfl (Nat.le_of_ble_eq_true rfl) dX7_point_63 ⟨Nat.zero_le _, Nat.zero_le _⟩ ?_
      exact m_ret (F := (fun (Z9 : Nat → FS) => (fun u : Nat → Nat => (wQ E (aZ0 (a0 0) u) Z9)))) (fun i => (aH a0 u_7) (i + 1)) C dX7_point_66 hv hP hD hS
    · have hv := qF c_31_k_5 hv
      refine lv_iload hx hb dX7_point_34 (lv_at hl 0 rfl) ?_
      exact m_ret (F := (fun (Z9 : Nat → FS) => (fun u : Nat → Nat => (wQ E (aZ0 (a0 0) u) Z9)))) (fun i => a0 (i + 1)) C dX7_point_36 hv hP hD hS
  · have hv := qT c_5_k_2 hv
    refine lv_iconst (v := -1) hx hb dX7_point_8 (by decide) ?_
    exact m_ret (F := (fun (Z9 : Nat → FS) => (fun u : Nat → Nat => (wQ E (aZ0 (a0 0) u) Z9)))) (fun i => a0 (i + 1)) C dX7_point_9 hv hP hD hS

theorem lkX7_take_10 : (.fieldLink RX7 10 "QuarterTiles" "tree" "LQuarterTiles$Tree;" : Cond) ∈ wsX7_take := by decide +kernel
theorem hiX7_take_X7 : ∀ w ∈ wsX70, w ∈ wsX7_take := by decide +kernel
theorem lkX7_take_37 : (.fieldLink RX7 37 "QuarterTiles$Tree" "plan" "LQuarterTiles$Plan;" : Cond) ∈ wsX7_take := by decide +kernel
theorem hiX7_take_X5 : ∀ w ∈ wsX50, w ∈ wsX7_take := by decide +kernel
theorem lkX7_take_19 : (.fieldLink RX7 19 "QuarterTiles" "history" "LQuarterTiles$History;" : Cond) ∈ wsX7_take := by decide +kernel
set_option maxRecDepth 100000 in
set_option maxHeartbeats 4000000 in
theorem kX7_take (l : Launch) (D : va_G) (E : Nat → ClassId) (a0 : Nat → Nat) {Q0 : Nat → FS} {x1 : Int32} {v : Int32} {Q09 : Nat → FS} (sz : Nat) (hv : fX7_take Q0 x1 = some (v, Q09)) : MI l yX7_take wsX7_take (rmN 13 301) D E ((wQ E a0 Q0)) sz [.ref (a0 0), .int x1] v (fun u : Nat → Nat => (wQ E (aZ0 (a0 0) u) Q09)) 0 0 := by
  refine MI.of (by decide) rfl (Nat.le_of_ble_eq_true rfl) ?_
  intro p e s m below meth c A H locs C hP hK hD hS hA ls hl
  have hl : lv_has ls 2 [(0, .ref (a0 0)), (1, .int x1)] := hl
  obtain ⟨hx, hb, hr, hml, hown, hlocks, hts⟩ := id C
  unfold fX7_take at hv
  refine lv_aload_n hx hb dX7_take_0 rfl (lv_at hl 0 rfl) ?_
  refine va_get (D := D) (ci := 6) (v := .ref (a0 1)) (C := RX7) (T := TX7) (N := 4) hx hb hts hiX7_take_X7 hown hK hP 0 rfl rfl 0 (by decide) (hts _ lkX7_take_10) (fun _ h9 => h9) rfl dX7_take_1 ?_
  refine va_get (D := D) (ci := 4) (v := .ref (a0 3)) (C := RX5) (T := TX5) (N := 2) hx hb hts hiX7_take_X5 hown hK hP 1 rfl rfl 0 (by decide) (hts _ lkX7_take_37) (fun _ h9 => h9) rfl dX7_take_4 ?_
  refine lv_iload_n hx hb dX7_take_7 rfl (lv_at hl 1 rfl) ?_
  obtain ⟨r_1, hr_1, hv⟩ := qB hv
  refine q_V (As := [.int x1]) (rest := []) (C := RX3) (T0 := TX3) (N0 := 6) (ci := 2) hx hb hml hown hts hl.1 (kX3_isPoint l D E (a0 3) (a0 4) (a0 5) hr_1) zNo_mv (cwV 1 hts gX7_take_X3_isPoint rfl rfl rfl (by decide +kernel) ⟨Nat.le_of_ble_eq_true rfl, Nat.le_of_ble_eq_true rfl⟩) 0 rfl rfl (hP.sub (ws' := (wPlan E (a0 3) (a0 4) (a0 5) (Q0 0))) [3, 4, 5] rfl) hK trivial rfl rfl (Nat.le_of_ble_eq_true rfl) dX7_take_8 ⟨Nat.zero_le _, Nat.zero_le _⟩ ?_
  refine lv_if_ne (tgt := 16) hx hb dX7_take_11 (by decide) (fun c_11_k_2 => ?_) (fun c_11_k_2 => ?_)
  · have hv := qF c_11_k_2 hv
    refine lv_aload_n hx hb dX7_take_16 rfl (lv_at hl 0 rfl) ?_
    refine va_get (D := D) (ci := 6) (v := .ref (a0 6)) (C := RX7) (T := TX7) (N := 4) hx hb hts hiX7_take_X7 hown hK hP 0 rfl rfl 1 (by decide) (hts _ lkX7_take_19) (fun _ h9 => h9) rfl dX7_take_17 ?_
    refine lv_aload_n hx hb dX7_take_20 rfl (lv_at hl 0 rfl) ?_
    refine va_get (D := D) (ci := 6) (v := .ref (a0 1)) (C := RX7) (T := TX7) (N := 4) hx hb hts hiX7_take_X7 hown hK hP 0 rfl rfl 0 (by decide) (hts _ lkX7_take_10) (fun _ h9 => h9) rfl dX7_take_21 ?_
    refine va_get (D := D) (ci := 4) (v := .ref (a0 3)) (C := RX5) (T := TX5) (N := 2) hx hb hts hiX7_take_X5 hown hK hP 1 rfl rfl 0 (by decide) (hts _ lkX7_take_37) (fun _ h9 => h9) rfl dX7_take_24 ?_
    obtain ⟨S_3, hS_3, hv⟩ := qB hv
    refine m_VV (As := [.ref (a0 3)]) (rest := []) (C := RX0) (T0 := TX0) (N0 := 2) (ci := 0) (Wn := (fun u9 : Nat → Nat => (wQ E (aH a0 u9) (mgH Q0 S_3)))) (Wr := [((a0 0), .inr (6, [.ref (a0 1), .ref (a0 6), .ref (a0 26), .ref (a0 35)])), ((a0 1), .inr (4, [.ref (a0 3), .ref (a0 2)])), aI E (a0 2) 8192 ((Q0 0) 3), ((a0 26), .inr (3, [.ref (a0 27), .ref (a0 28)])), aP E (a0 27) 2 (fS (a0 29) (a0 32)), aZ E (a0 28) 2 (Q0 2 1), ((a0 29), .inr (2, [.ref (a0 30), .ref (a0 31), .int ((Q0 9) 2 0), .int ((Q0 9) 2 1), .int ((Q0 9) 2 2), .int ((Q0 9) 2 3)])), aI E (a0 30) 50 ((Q0 9) 0), aI E (a0 31) 12 ((Q0 9) 1), ((a0 32), .inr (2, [.ref (a0 33), .ref (a0 34), .int ((Q0 10) 2 0), .int ((Q0 10) 2 1), .int ((Q0 10) 2 2), .int ((Q0 10) 2 3)])), aI E (a0 33) 50 ((Q0 10) 0), aI E (a0 34) 12 ((Q0 10) 1), ((a0 35), .inr (1, [.ref (a0 36), .ref (a0 37), .int ((Q0 1) 2 0)])), aI E (a0 36) 80 ((Q0 1) 0), aI E (a0 37) 20 ((Q0 1) 1)]) hx hb hml hown hts hl.1 (kX0_remember l D E (a0 6) (a0 7) (a0 8) (a0 9) (a0 10) (a0 11) (a0 12) (a0 13) (a0 14) (a0 15) (a0 16) (a0 17) (a0 18) (a0 19) (a0 20) (a0 21) (a0 22) (a0 23) (a0 24) (a0 25) (a0 3) (a0 4) (a0 5) H.size hS_3) (cwV 1 hts gX7_take_X0_remember rfl rfl rfl (by decide +kernel) ⟨Nat.le_of_ble_eq_true rfl, Nat.le_of_ble_eq_true rfl⟩) 0 rfl rfl hP hD hS hA hK [6, 7, 8, 9, 10, 11, 12, 13, 14, 15, 16, 17, 18, 19, 20, 21, 22, 23, 24, 25, 3, 4, 5] [0, 1, 2, 26, 27, 28, 29, 30, 31, 32, 33, 34, 35, 36, 37] [0, 1, 2, 35, 36, 37, 15, 16, 17, 18, 19, 20, 21, 22, 23, 24, 25, 26, 27, 28, 29, 30, 31, 32, 33, 34, 3, 4, 5, 6, 7, 8, 9, 10, 11, 12, 13, 14] (by decide) rfl rfl (by decide) (by decide) (by decide) (fun _ => rfl) rfl rfl (Nat.le_of_ble_eq_true rfl) dX7_take_27 ⟨Nat.le_of_ble_eq_true rfl, Nat.le_of_ble_eq_true rfl⟩ (fun u9 H locs hP hD hS => ?_)
    obtain ⟨u_4, hu⟩ : ∃ x, x = u9 := ⟨_, rfl⟩
    rw [← hu] at hP hD
    clear hu
    obtain ⟨Q0s_5, hQ0s_5, hv⟩ := qB hv
    obtain ⟨hP, hD⟩ := m_st (F := fun Z9 : Nat → FS => (wQ E (aH a0 u_4) Z9)) (Option.some.inj hQ0s_5) hP hD
    refine lv_aload_n hx hb dX7_take_30 rfl (lv_at hl 0 rfl) ?_
    refine va_get (D := D) (ci := 6) (v := .ref ((aH a0 u_4) 1)) (C := RX7) (T := TX7) (N := 4) hx hb hts hiX7_take_X7 hown hK hP 0 rfl rfl 0 (by decide) (hts _ lkX7_take_10) (fun _ h9 => h9) rfl dX7_take_31 ?_
    refine lv_iload_n hx hb dX7_take_34 rfl (lv_at hl 1 rfl) ?_
    obtain ⟨S_6, hS_6, hv⟩ := qB hv
    refine m_VV (As := [.int x1]) (rest := []) (C := RX5) (T0 := TX5) (N0 := 2) (ci := 4) (Wn := (fun _ : Unit => (wQ E (aH a0 u_4) (sq Q0s_5 0 S_6)))) (Wr := [(((aH a0 u_4) 0), .inr (6, [.ref ((aH a0 u_4) 1), .ref ((aH a0 u_4) 6), .ref ((aH a0 u_4) 26), .ref ((aH a0 u_4) 35)])), (((aH a0 u_4) 6), .inr (0, [.ref ((aH a0 u_4) 7), .int (Q0s_5 2 0 0)])), aP E ((aH a0 u_4) 7) 6 (fH ((aH a0 u_4) 8) ((aH a0 u_4) 11) ((aH a0 u_4) 14) ((aH a0 u_4) 17) ((aH a0 u_4) 20) ((aH a0 u_4) 23)), (((aH a0 u_4) 8), .inr (2, [.ref ((aH a0 u_4) 9), .ref ((aH a0 u_4) 10), .int ((Q0s_5 3) 2 0), .int ((Q0s_5 3) 2 1), .int ((Q0s_5 3) 2 2), .int ((Q0s_5 3) 2 3)])), aI E ((aH a0 u_4) 9) 50 ((Q0s_5 3) 0), aI E ((aH a0 u_4) 10) 12 ((Q0s_5 3) 1), (((aH a0 u_4) 11), .inr (2, [.ref ((aH a0 u_4) 12), .ref ((aH a0 u_4) 13), .int ((Q0s_5 4) 2 0), .int ((Q0s_5 4) 2 1), .int ((Q0s_5 4) 2 2), .int ((Q0s_5 4) 2 3)])), aI E ((aH a0 u_4) 12) 50 ((Q0s_5 4) 0), aI E ((aH a0 u_4) 13) 12 ((Q0s_5 4) 1), (((aH a0 u_4) 14), .inr (2, [.ref ((aH a0 u_4) 15), .ref ((aH a0 u_4) 16), .int ((Q0s_5 5) 2 0), .int ((Q0s_5 5) 2 1), .int ((Q0s_5 5) 2 2), .int ((Q0s_5 5) 2 3)])), aI E ((aH a0 u_4) 15) 50 ((Q0s_5 5) 0), aI E ((aH a0 u_4) 16) 12 ((Q0s_5 5) 1), (((aH a0 u_4) 17), .inr (2, [.ref ((aH a0 u_4) 18), .ref ((aH a0 u_4) 19), .int ((Q0s_5 6) 2 0), .int ((Q0s_5 6) 2 1), .int ((Q0s_5 6) 2 2), .int ((Q0s_5 6) 2 3)])), aI E ((aH a0 u_4) 18) 50 ((Q0s_5 6) 0), aI E ((aH a0 u_4) 19) 12 ((Q0s_5 6) 1), (((aH a0 u_4) 20), .inr (2, [.ref ((aH a0 u_4) 21), .ref ((aH a0 u_4) 22), .int ((Q0s_5 7) 2 0), .int ((Q0s_5 7) 2 1), .int ((Q0s_5 7) 2 2), .int ((Q0s_5 7) 2 3)])), aI E ((aH a0 u_4) 21) 50 ((Q0s_5 7) 0), aI E ((aH a0 u_4) 22) 12 ((Q0s_5 7) 1), (((aH a0 u_4) 23), .inr (2, [.ref ((aH a0 u_4) 24), .ref ((aH a0 u_4) 25), .int ((Q0s_5 8) 2 0), .int ((Q0s_5 8) 2 1), .int ((Q0s_5 8) 2 2), .int ((Q0s_5 8) 2 3)])), aI E ((aH a0 u_4) 24) 50 ((Q0s_5 8) 0), aI E ((aH a0 u_4) 25) 12 ((Q0s_5 8) 1), (((aH a0 u_4) 26), .inr (3, [.ref ((aH a0 u_4) 27), .ref ((aH a0 u_4) 28)])), aP E ((aH a0 u_4) 27) 2 (fS ((aH a0 u_4) 29) ((aH a0 u_4) 32)), aZ E ((aH a0 u_4) 28) 2 (Q0s_5 2 1), (((aH a0 u_4) 29), .inr (2, [.ref ((aH a0 u_4) 30), .ref ((aH a0 u_4) 31), .int ((Q0s_5 9) 2 0), .int ((Q0s_5 9) 2 1), .int ((Q0s_5 9) 2 2), .int ((Q0s_5 9) 2 3)])), aI E ((aH a0 u_4) 30) 50 ((Q0s_5 9) 0), aI E ((aH a0 u_4) 31) 12 ((Q0s_5 9) 1), (((aH a0 u_4) 32), .inr (2, [.ref ((aH a0 u_4) 33), .ref ((aH a0 u_4) 34), .int ((Q0s_5 10) 2 0), .int ((Q0s_5 10) 2 1), .int ((Q0s_5 10) 2 2), .int ((Q0s_5 10) 2 3)])), aI E ((aH a0 u_4) 33) 50 ((Q0s_5 10) 0), aI E ((aH a0 u_4) 34) 12 ((Q0s_5 10) 1), (((aH a0 u_4) 35), .inr (1, [.ref ((aH a0 u_4) 36), .ref ((aH a0 u_4) 37), .int ((Q0s_5 1) 2 0)])), aI E ((aH a0 u_4) 36) 80 ((Q0s_5 1) 0), aI E ((aH a0 u_4) 37) 20 ((Q0s_5 1) 1)]) hx hb hml hown hts hl.1 (kX5_removePoint l D E ((aH a0 u_4) 1) ((aH a0 u_4) 2) ((aH a0 u_4) 3) ((aH a0 u_4) 4) ((aH a0 u_4) 5) H.size hS_6) (cwV 1 hts gX7_take_X5_removePoint rfl rfl rfl (by decide +kernel) ⟨Nat.le_of_ble_eq_true rfl, Nat.le_of_ble_eq_true rfl⟩) 0 rfl rfl hP hD hS hA hK [1, 2, 3, 4, 5] [0, 6, 7, 8, 9, 10, 11, 12, 13, 14, 15, 16, 17, 18, 19, 20, 21, 22, 23, 24, 25, 26, 27, 28, 29, 30, 31, 32, 33, 34, 35, 36, 37] [0, 33, 34, 35, 36, 37, 1, 2, 3, 4, 5, 6, 7, 8, 9, 10, 11, 12, 13, 14, 15, 16, 17, 18, 19, 20, 21, 22, 23, 24, 25, 26, 27, 28, 29, 30, 31, 32] (by decide) rfl rfl (by decide) (by decide) (by decide) (fun _ => rfl) rfl rfl (Nat.le_of_ble_eq_true rfl) dX7_take_35 ⟨Nat.le_of_ble_eq_true rfl, Nat.le_of_ble_eq_true rfl⟩ (fun _ H locs hP hD hS => ?_)
    obtain ⟨Q0s_7, hQ0s_7, hv⟩ := qB hv
    obtain ⟨hP, hD⟩ := m_st (F := fun Z9 : Nat → FS => (wQ E (aH a0 u_4) Z9)) (Option.some.inj hQ0s_7) hP hD
    refine lv_aload_n hx hb dX7_take_38 rfl (lv_at hl 0 rfl) ?_
    refine va_get (D := D) (ci := 6) (v := .ref ((aH a0 u_4) 1)) (C := RX7) (T := TX7) (N := 4) hx hb hts hiX7_take_X7 hown hK hP 0 rfl rfl 0 (by decide) (hts _ lkX7_take_10) (fun _ h9 => h9) rfl dX7_take_39 ?_
    obtain ⟨r_8, hr_8, hv⟩ := qB hv
    refine q_V (As := []) (rest := []) (C := RX5) (T0 := TX5) (N0 := 2) (ci := 4) hx hb hml hown hts hl.1 (kX5_leaves l D E ((aH a0 u_4) 1) ((aH a0 u_4) 2) ((aH a0 u_4) 3) ((aH a0 u_4) 4) ((aH a0 u_4) 5) hr_8) zNo_mv (cwV 0 hts gX7_take_X5_leaves rfl rfl rfl (by decide +kernel) ⟨Nat.le_of_ble_eq_true rfl, Nat.le_of_ble_eq_true rfl⟩) 0 rfl rfl (hP.sub (ws' := (wTree E ((aH a0 u_4) 1) ((aH a0 u_4) 2) ((aH a0 u_4) 3) ((aH a0 u_4) 4) ((aH a0 u_4) 5) (Q0s_7 0))) [1, 2, 3, 4, 5] rfl) hK trivial rfl rfl (Nat.le_of_ble_eq_true rfl) dX7_take_42 ⟨Nat.zero_le _, Nat.zero_le _⟩ ?_
    exact m_ret (F := (fun (Z9 : Nat → FS) => (fun u : Nat → Nat => (wQ E (aZ0 (a0 0) u) Z9)))) (fun i => (aH a0 u_4) (i + 1)) C dX7_take_45 hv hP hD hS
  · have hv := qT c_11_k_2 hv
    refine lv_iconst (v := -1) hx hb dX7_take_14 (by decide) ?_
    exact m_ret (F := (fun (Z9 : Nat → FS) => (fun u : Nat → Nat => (wQ E (aZ0 (a0 0) u) Z9)))) (fun i => a0 (i + 1)) C dX7_take_15 hv hP hD hS

theorem lkX7_move_10 : (.fieldLink RX7 10 "QuarterTiles" "tree" "LQuarterTiles$Tree;" : Cond) ∈ wsX7_move := by decide +kernel
theorem hiX7_move_X7 : ∀ w ∈ wsX70, w ∈ wsX7_move := by decide +kernel
theorem lkX7_move_37 : (.fieldLink RX7 37 "QuarterTiles$Tree" "plan" "LQuarterTiles$Plan;" : Cond) ∈ wsX7_move := by decide +kernel
theorem hiX7_move_X5 : ∀ w ∈ wsX50, w ∈ wsX7_move := by decide +kernel
theorem lkX7_move_19 : (.fieldLink RX7 19 "QuarterTiles" "history" "LQuarterTiles$History;" : Cond) ∈ wsX7_move := by decide +kernel
set_option maxRecDepth 100000 in
set_option maxHeartbeats 4000000 in
theorem wfX7_move_L61 {p : Program} {e : Env} {s : State} {m : MethodId} {below : List Frame} {meth : Method} {c : Code} {l : Launch} {D : va_G} {E : Nat → ClassId} {a0 : Nat → Nat} {x1 : Int32} {x2 : Int32} {x3 : Int32} {v : Int32} {Q09 : Nat → FS} {A : Nat → Prop} (C : Ctx p s m meth c [.ref (a0 0), .int x1, .int x2, .int x3] wsX7_move cX7_move 6 (some .int) RX7) (hK : va_K D vwCl (tyE E) s) (hA : ∀ q : Nat, s.heap.size ≤ q → A q) : ∀ (Q0 : Nat → FS) (y1 : Int32) (y4 : Int32), fX7_move_L61 Q0 y1 y4 = some (v, Q09) → ∀ (b0 : Nat → Nat) (H : Heap) (locs : List Loc) (ls : Array Slot), va_P D vwCl ((wQ E (aZ0 (a0 0) b0) Q0)) H → va_D A ((wQ E (aZ0 (a0 0) b0) Q0)) → va_S A s.heap H locs → lv_has ls 6 [(0, .ref ((aZ0 (a0 0) b0) 0)), (1, .int y1), (4, .int y4)] → WI p l e (rmN 13 301) s m [.ref (a0 0), .int x1, .int x2, .int x3] below meth c D A v (fun u : Nat → Nat => (wQ E (aZ0 (a0 0) u) Q09)) 0 0 H locs 0 0 61 ls [] := by
  obtain ⟨hx, hb, hr, hml, hown, hlocks, hts⟩ := id C
  intro Q0 y1 y4 hv b0 H locs ls hP hD hS hl
  unfold fX7_move_L61 at hv
  refine lv_aload_n hx hb dX7_move_61 rfl (lv_at hl 0 rfl) ?_
  refine va_get (D := D) (ci := 6) (v := .ref ((aZ0 (a0 0) b0) 6)) (C := RX7) (T := TX7) (N := 4) hx hb hts hiX7_move_X7 hown hK hP 0 rfl rfl 1 (by decide) (hts _ lkX7_move_19) (fun _ h9 => h9) rfl dX7_move_62 ?_
  refine lv_aload_n hx hb dX7_move_65 rfl (lv_at hl 0 rfl) ?_
  refine va_get (D := D) (ci := 6) (v := .ref ((aZ0 (a0 0) b0) 1)) (C := RX7) (T := TX7) (N := 4) hx hb hts hiX7_move_X7 hown hK hP 0 rfl rfl 0 (by decide) (hts _ lkX7_move_10) (fun _ h9 => h9) rfl dX7_move_66 ?_
  refine va_get (D := D) (ci := 4) (v := .ref ((aZ0 (a0 0) b0) 3)) (C := RX5) (T := TX5) (N := 2) hx hb hts hiX7_move_X5 hown hK hP 1 rfl rfl 0 (by decide) (hts _ lkX7_move_37) (fun _ h9 => h9) rfl dX7_move_69 ?_
  obtain ⟨S_8, hS_8, hv⟩ := qB hv
  refine m_VV (As := [.ref ((aZ0 (a0 0) b0) 3)]) (rest := []) (C := RX0) (T0 := TX0) (N0 := 2) (ci := 0) (Wn := (fun u9 : Nat → Nat => (wQ E (aH (aZ0 (a0 0) b0) u9) (mgH Q0 S_8)))) (Wr := [(((aZ0 (a0 0) b0) 0), .inr (6, [.ref ((aZ0 (a0 0) b0) 1), .ref ((aZ0 (a0 0) b0) 6), .ref ((aZ0 (a0 0) b0) 26), .ref ((aZ0 (a0 0) b0) 35)])), (((aZ0 (a0 0) b0) 1), .inr (4, [.ref ((aZ0 (a0 0) b0) 3), .ref ((aZ0 (a0 0) b0) 2)])), aI E ((aZ0 (a0 0) b0) 2) 8192 ((Q0 0) 3), (((aZ0 (a0 0) b0) 26), .inr (3, [.ref ((aZ0 (a0 0) b0) 27), .ref ((aZ0 (a0 0) b0) 28)])), aP E ((aZ0 (a0 0) b0) 27) 2 (fS ((aZ0 (a0 0) b0) 29) ((aZ0 (a0 0) b0) 32)), aZ E ((aZ0 (a0 0) b0) 28) 2 (Q0 2 1), (((aZ0 (a0 0) b0) 29), .inr (2, [.ref ((aZ0 (a0 0) b0) 30), .ref ((aZ0 (a0 0) b0) 31), .int ((Q0 9) 2 0), .int ((Q0 9) 2 1), .int ((Q0 9) 2 2), .int ((Q0 9) 2 3)])), aI E ((aZ0 (a0 0) b0) 30) 50 ((Q0 9) 0), aI E ((aZ0 (a0 0) b0) 31) 12 ((Q0 9) 1), (((aZ0 (a0 0) b0) 32), .inr (2, [.ref ((aZ0 (a0 0) b0) 33), .ref ((aZ0 (a0 0) b0) 34), .int ((Q0 10) 2 0), .int ((Q0 10) 2 1), .int ((Q0 10) 2 2), .int ((Q0 10) 2 3)])), aI E ((aZ0 (a0 0) b0) 33) 50 ((Q0 10) 0), aI E ((aZ0 (a0 0) b0) 34) 12 ((Q0 10) 1), (((aZ0 (a0 0) b0) 35), .inr (1, [.ref ((aZ0 (a0 0) b0) 36), .ref ((aZ0 (a0 0) b0) 37), .int ((Q0 1) 2 0)])), aI E ((aZ0 (a0 0) b0) 36) 80 ((Q0 1) 0), aI E ((aZ0 (a0 0) b0) 37) 20 ((Q0 1) 1)]) hx hb hml hown hts hl.1 (kX0_remember l D E ((aZ0 (a0 0) b0) 6) ((aZ0 (a0 0) b0) 7) ((aZ0 (a0 0) b0) 8) ((aZ0 (a0 0) b0) 9) ((aZ0 (a0 0) b0) 10) ((aZ0 (a0 0) b0) 11) ((aZ0 (a0 0) b0) 12) ((aZ0 (a0 0) b0) 13) ((aZ0 (a0 0) b0) 14) ((aZ0 (a0 0) b0) 15) ((aZ0 (a0 0) b0) 16) ((aZ0 (a0 0) b0) 17) ((aZ0 (a0 0) b0) 18) ((aZ0 (a0 0) b0) 19) ((aZ0 (a0 0) b0) 20) ((aZ0 (a0 0) b0) 21) ((aZ0 (a0 0) b0) 22) ((aZ0 (a0 0) b0) 23) ((aZ0 (a0 0) b0) 24) ((aZ0 (a0 0) b0) 25) ((aZ0 (a0 0) b0) 3) ((aZ0 (a0 0) b0) 4) ((aZ0 (a0 0) b0) 5) H.size hS_8) (cwV 1 hts gX7_move_X0_remember rfl rfl rfl (by decide +kernel) ⟨Nat.le_of_ble_eq_true rfl, Nat.le_of_ble_eq_true rfl⟩) 0 rfl rfl hP hD hS hA hK [6, 7, 8, 9, 10, 11, 12, 13, 14, 15, 16, 17, 18, 19, 20, 21, 22, 23, 24, 25, 3, 4, 5] [0, 1, 2, 26, 27, 28, 29, 30, 31, 32, 33, 34, 35, 36, 37] [0, 1, 2, 35, 36, 37, 15, 16, 17, 18, 19, 20, 21, 22, 23, 24, 25, 26, 27, 28, 29, 30, 31, 32, 33, 34, 3, 4, 5, 6, 7, 8, 9, 10, 11, 12, 13, 14] (by decide) rfl rfl (by decide) (by decide) (by decide) (fun _ => rfl) rfl rfl (Nat.le_of_ble_eq_true rfl) dX7_move_72 ⟨Nat.le_of_ble_eq_true rfl, Nat.le_of_ble_eq_true rfl⟩ (fun u9 H locs hP hD hS => ?_)
  obtain ⟨u_9, hu⟩ : ∃ x, x = u9 := ⟨_, rfl⟩
  rw [← hu] at hP hD
  clear hu
  obtain ⟨Q0s_10, hQ0s_10, hv⟩ := qB hv
  obtain ⟨hP, hD⟩ := m_st (F := fun Z9 : Nat → FS => (wQ E (aH (aZ0 (a0 0) b0) u_9) Z9)) (Option.some.inj hQ0s_10) hP hD
  refine lv_aload_n hx hb dX7_move_75 rfl (lv_at hl 0 rfl) ?_
  refine va_get (D := D) (ci := 6) (v := .ref ((aH (aZ0 (a0 0) b0) u_9) 1)) (C := RX7) (T := TX7) (N := 4) hx hb hts hiX7_move_X7 hown hK hP 0 rfl rfl 0 (by decide) (hts _ lkX7_move_10) (fun _ h9 => h9) rfl dX7_move_76 ?_
  refine lv_iload_n hx hb dX7_move_79 rfl (lv_at hl 1 rfl) ?_
  refine lv_iload hx hb dX7_move_80 (lv_at hl 2 rfl) ?_
  obtain ⟨S_11, hS_11, hv⟩ := qB hv
  refine m_VV (As := [.int y1, .int y4]) (rest := []) (C := RX5) (T0 := TX5) (N0 := 2) (ci := 4) (Wn := (fun _ : Unit => (wQ E (aH (aZ0 (a0 0) b0) u_9) (sq Q0s_10 0 S_11)))) (Wr := [(((aH (aZ0 (a0 0) b0) u_9) 0), .inr (6, [.ref ((aH (aZ0 (a0 0) b0) u_9) 1), .ref ((aH (aZ0 (a0 0) b0) u_9) 6), .ref ((aH (aZ0 (a0 0) b0) u_9) 26), .ref ((aH (aZ0 (a0 0) b0) u_9) 35)])), (((aH (aZ0 (a0 0) b0) u_9) 6), .inr (0, [.ref ((aH (aZ0 (a0 0) b0) u_9) 7), .int (Q0s_10 2 0 0)])), aP E ((aH (aZ0 (a0 0) b0) u_9) 7) 6 (fH ((aH (aZ0 (a0 0) b0) u_9) 8) ((aH (aZ0 (a0 0) b0) u_9) 11) ((aH (aZ0 (a0 0) b0) u_9) 14) ((aH (aZ0 (a0 0) b0) u_9) 17) ((aH (aZ0 (a0 0) b0) u_9) 20) ((aH (aZ0 (a0 0) b0) u_9) 23)), (((aH (aZ0 (a0 0) b0) u_9) 8), .inr (2, [.ref ((aH (aZ0 (a0 0) b0) u_9) 9), .ref ((aH (aZ0 (a0 0) b0) u_9) 10), .int ((Q0s_10 3) 2 0), .int ((Q0s_10 3) 2 1), .int ((Q0s_10 3) 2 2), .int ((Q0s_10 3) 2 3)])), aI E ((aH (aZ0 (a0 0) b0) u_9) 9) 50 ((Q0s_10 3) 0), aI E ((aH (aZ0 (a0 0) b0) u_9) 10) 12 ((Q0s_10 3) 1), (((aH (aZ0 (a0 0) b0) u_9) 11), .inr (2, [.ref ((aH (aZ0 (a0 0) b0) u_9) 12), .ref ((aH (aZ0 (a0 0) b0) u_9) 13), .int ((Q0s_10 4) 2 0), .int ((Q0s_10 4) 2 1), .int ((Q0s_10 4) 2 2), .int ((Q0s_10 4) 2 3)])), aI E ((aH (aZ0 (a0 0) b0) u_9) 12) 50 ((Q0s_10 4) 0), aI E ((aH (aZ0 (a0 0) b0) u_9) 13) 12 ((Q0s_10 4) 1), (((aH (aZ0 (a0 0) b0) u_9) 14), .inr (2, [.ref ((aH (aZ0 (a0 0) b0) u_9) 15), .ref ((aH (aZ0 (a0 0) b0) u_9) 16), .int ((Q0s_10 5) 2 0), .int ((Q0s_10 5) 2 1), .int ((Q0s_10 5) 2 2), .int ((Q0s_10 5) 2 3)])), aI E ((aH (aZ0 (a0 0) b0) u_9) 15) 50 ((Q0s_10 5) 0), aI E ((aH (aZ0 (a0 0) b0) u_9) 16) 12 ((Q0s_10 5) 1), (((aH (aZ0 (a0 0) b0) u_9) 17), .inr (2, [.ref ((aH (aZ0 (a0 0) b0) u_9) 18), .ref ((aH (aZ0 (a0 0) b0) u_9) 19), .int ((Q0s_10 6) 2 0), .int ((Q0s_10 6) 2 1), .int ((Q0s_10 6) 2 2), .int ((Q0s_10 6) 2 3)])), aI E ((aH (aZ0 (a0 0) b0) u_9) 18) 50 ((Q0s_10 6) 0), aI E ((aH (aZ0 (a0 0) b0) u_9) 19) 12 ((Q0s_10 6) 1), (((aH (aZ0 (a0 0) b0) u_9) 20), .inr (2, [.ref ((aH (aZ0 (a0 0) b0) u_9) 21), .ref ((aH (aZ0 (a0 0) b0) u_9) 22), .int ((Q0s_10 7) 2 0), .int ((Q0s_10 7) 2 1), .int ((Q0s_10 7) 2 2), .int ((Q0s_10 7) 2 3)])), aI E ((aH (aZ0 (a0 0) b0) u_9) 21) 50 ((Q0s_10 7) 0), aI E ((aH (aZ0 (a0 0) b0) u_9) 22) 12 ((Q0s_10 7) 1), (((aH (aZ0 (a0 0) b0) u_9) 23), .inr (2, [.ref ((aH (aZ0 (a0 0) b0) u_9) 24), .ref ((aH (aZ0 (a0 0) b0) u_9) 25), .int ((Q0s_10 8) 2 0), .int ((Q0s_10 8) 2 1), .int ((Q0s_10 8) 2 2), .int ((Q0s_10 8) 2 3)])), aI E ((aH (aZ0 (a0 0) b0) u_9) 24) 50 ((Q0s_10 8) 0), aI E ((aH (aZ0 (a0 0) b0) u_9) 25) 12 ((Q0s_10 8) 1), (((aH (aZ0 (a0 0) b0) u_9) 26), .inr (3, [.ref ((aH (aZ0 (a0 0) b0) u_9) 27), .ref ((aH (aZ0 (a0 0) b0) u_9) 28)])), aP E ((aH (aZ0 (a0 0) b0) u_9) 27) 2 (fS ((aH (aZ0 (a0 0) b0) u_9) 29) ((aH (aZ0 (a0 0) b0) u_9) 32)), aZ E ((aH (aZ0 (a0 0) b0) u_9) 28) 2 (Q0s_10 2 1), (((aH (aZ0 (a0 0) b0) u_9) 29), .inr (2, [.ref ((aH (aZ0 (a0 0) b0) u_9) 30), .ref ((aH (aZ0 (a0 0) b0) u_9) 31), .int ((Q0s_10 9) 2 0), .int ((Q0s_10 9) 2 1), .int ((Q0s_10 9) 2 2), .int ((Q0s_10 9) 2 3)])), aI E ((aH (aZ0 (a0 0) b0) u_9) 30) 50 ((Q0s_10 9) 0), aI E ((aH (aZ0 (a0 0) b0) u_9) 31) 12 ((Q0s_10 9) 1), (((aH (aZ0 (a0 0) b0) u_9) 32), .inr (2, [.ref ((aH (aZ0 (a0 0) b0) u_9) 33), .ref ((aH (aZ0 (a0 0) b0) u_9) 34), .int ((Q0s_10 10) 2 0), .int ((Q0s_10 10) 2 1), .int ((Q0s_10 10) 2 2), .int ((Q0s_10 10) 2 3)])), aI E ((aH (aZ0 (a0 0) b0) u_9) 33) 50 ((Q0s_10 10) 0), aI E ((aH (aZ0 (a0 0) b0) u_9) 34) 12 ((Q0s_10 10) 1), (((aH (aZ0 (a0 0) b0) u_9) 35), .inr (1, [.ref ((aH (aZ0 (a0 0) b0) u_9) 36), .ref ((aH (aZ0 (a0 0) b0) u_9) 37), .int ((Q0s_10 1) 2 0)])), aI E ((aH (aZ0 (a0 0) b0) u_9) 36) 80 ((Q0s_10 1) 0), aI E ((aH (aZ0 (a0 0) b0) u_9) 37) 20 ((Q0s_10 1) 1)]) hx hb hml hown hts hl.1 (kX5_shiftPoint l D E ((aH (aZ0 (a0 0) b0) u_9) 1) ((aH (aZ0 (a0 0) b0) u_9) 2) ((aH (aZ0 (a0 0) b0) u_9) 3) ((aH (aZ0 (a0 0) b0) u_9) 4) ((aH (aZ0 (a0 0) b0) u_9) 5) H.size hS_11) (cwV 2 hts gX7_move_X5_shiftPoint rfl rfl rfl (by decide +kernel) ⟨Nat.le_of_ble_eq_true rfl, Nat.le_of_ble_eq_true rfl⟩) 0 rfl rfl hP hD hS hA hK [1, 2, 3, 4, 5] [0, 6, 7, 8, 9, 10, 11, 12, 13, 14, 15, 16, 17, 18, 19, 20, 21, 22, 23, 24, 25, 26, 27, 28, 29, 30, 31, 32, 33, 34, 35, 36, 37] [0, 33, 34, 35, 36, 37, 1, 2, 3, 4, 5, 6, 7, 8, 9, 10, 11, 12, 13, 14, 15, 16, 17, 18, 19, 20, 21, 22, 23, 24, 25, 26, 27, 28, 29, 30, 31, 32] (by decide) rfl rfl (by decide) (by decide) (by decide) (fun _ => rfl) rfl rfl (Nat.le_of_ble_eq_true rfl) dX7_move_82 ⟨Nat.le_of_ble_eq_true rfl, Nat.le_of_ble_eq_true rfl⟩ (fun _ H locs hP hD hS => ?_)
  obtain ⟨Q0s_12, hQ0s_12, hv⟩ := qB hv
  obtain ⟨hP, hD⟩ := m_st (F := fun Z9 : Nat → FS => (wQ E (aH (aZ0 (a0 0) b0) u_9) Z9)) (Option.some.inj hQ0s_12) hP hD
  refine lv_aload_n hx hb dX7_move_85 rfl (lv_at hl 0 rfl) ?_
  refine va_get (D := D) (ci := 6) (v := .ref ((aH (aZ0 (a0 0) b0) u_9) 1)) (C := RX7) (T := TX7) (N := 4) hx hb hts hiX7_move_X7 hown hK hP 0 rfl rfl 0 (by decide) (hts _ lkX7_move_10) (fun _ h9 => h9) rfl dX7_move_86 ?_
  obtain ⟨r_13, hr_13, hv⟩ := qB hv
  refine q_V (As := []) (rest := []) (C := RX5) (T0 := TX5) (N0 := 2) (ci := 4) hx hb hml hown hts hl.1 (kX5_leaves l D E ((aH (aZ0 (a0 0) b0) u_9) 1) ((aH (aZ0 (a0 0) b0) u_9) 2) ((aH (aZ0 (a0 0) b0) u_9) 3) ((aH (aZ0 (a0 0) b0) u_9) 4) ((aH (aZ0 (a0 0) b0) u_9) 5) hr_13) zNo_mv (cwV 0 hts gX7_move_X5_leaves rfl rfl rfl (by decide +kernel) ⟨Nat.le_of_ble_eq_true rfl, Nat.le_of_ble_eq_true rfl⟩) 0 rfl rfl (hP.sub (ws' := (wTree E ((aH (aZ0 (a0 0) b0) u_9) 1) ((aH (aZ0 (a0 0) b0) u_9) 2) ((aH (aZ0 (a0 0) b0) u_9) 3) ((aH (aZ0 (a0 0) b0) u_9) 4) ((aH (aZ0 (a0 0) b0) u_9) 5) (Q0s_12 0))) [1, 2, 3, 4, 5] rfl) hK trivial rfl rfl (Nat.le_of_ble_eq_true rfl) dX7_move_89 ⟨Nat.zero_le _, Nat.zero_le _⟩ ?_
  exact m_ret (F := (fun (Z9 : Nat → FS) => (fun u : Nat → Nat => (wQ E (aZ0 (a0 0) u) Z9)))) (fun i => (aH (aZ0 (a0 0) b0) u_9) (i + 1)) C dX7_move_92 hv hP hD hS

set_option maxRecDepth 100000 in
set_option maxHeartbeats 4000000 in
theorem kX7_move (l : Launch) (D : va_G) (E : Nat → ClassId) (a0 : Nat → Nat) {Q0 : Nat → FS} {x1 : Int32} {x2 : Int32} {x3 : Int32} {v : Int32} {Q09 : Nat → FS} (sz : Nat) (hv : fX7_move Q0 x1 x2 x3 = some (v, Q09)) : MI l yX7_move wsX7_move (rmN 13 301) D E ((wQ E a0 Q0)) sz [.ref (a0 0), .int x1, .int x2, .int x3] v (fun u : Nat → Nat => (wQ E (aZ0 (a0 0) u) Q09)) 0 0 := by
  refine MI.of (by decide) rfl (Nat.le_of_ble_eq_true rfl) ?_
  intro p e s m below meth c A H locs C hP hK hD hS hA ls hl
  have hl : lv_has ls 6 [(0, .ref (a0 0)), (1, .int x1), (2, .int x2), (3, .int x3)] := hl
  obtain ⟨hx, hb, hr, hml, hown, hlocks, hts⟩ := id C
  unfold fX7_move at hv
  refine lv_aload_n hx hb dX7_move_0 rfl (lv_at hl 0 rfl) ?_
  refine va_get (D := D) (ci := 6) (v := .ref (a0 1)) (C := RX7) (T := TX7) (N := 4) hx hb hts hiX7_move_X7 hown hK hP 0 rfl rfl 0 (by decide) (hts _ lkX7_move_10) (fun _ h9 => h9) rfl dX7_move_1 ?_
  refine va_get (D := D) (ci := 4) (v := .ref (a0 3)) (C := RX5) (T := TX5) (N := 2) hx hb hts hiX7_move_X5 hown hK hP 1 rfl rfl 0 (by decide) (hts _ lkX7_move_37) (fun _ h9 => h9) rfl dX7_move_4 ?_
  refine lv_iload_n hx hb dX7_move_7 rfl (lv_at hl 1 rfl) ?_
  obtain ⟨r_1, hr_1, hv⟩ := qB hv
  refine q_V (As := [.int x1]) (rest := []) (C := RX3) (T0 := TX3) (N0 := 6) (ci := 2) hx hb hml hown hts hl.1 (kX3_isPoint l D E (a0 3) (a0 4) (a0 5) hr_1) zNo_mv (cwV 1 hts gX7_move_X3_isPoint rfl rfl rfl (by decide +kernel) ⟨Nat.le_of_ble_eq_true rfl, Nat.le_of_ble_eq_true rfl⟩) 0 rfl rfl (hP.sub (ws' := (wPlan E (a0 3) (a0 4) (a0 5) (Q0 0))) [3, 4, 5] rfl) hK trivial rfl rfl (Nat.le_of_ble_eq_true rfl) dX7_move_8 ⟨Nat.zero_le _, Nat.zero_le _⟩ ?_
  refine lv_if_eq (tgt := 22) hx hb dX7_move_11 (by decide) (fun c_11_k_2 => ?_) (fun c_11_k_2 => ?_)
  · have hv := qT c_11_k_2 hv
    refine lv_iconst (v := -1) hx hb dX7_move_22 (by decide) ?_
    exact m_ret (F := (fun (Z9 : Nat → FS) => (fun u : Nat → Nat => (wQ E (aZ0 (a0 0) u) Z9)))) (fun i => a0 (i + 1)) C dX7_move_23 hv hP hD hS
  · have hv := qF c_11_k_2 hv
    refine lv_iload_n hx hb dX7_move_14 rfl (lv_at hl 2 rfl) ?_
    refine lv_iload_n hx hb dX7_move_15 rfl (lv_at hl 3 rfl) ?_
    obtain ⟨r_3, hr_3, hv⟩ := qB hv
    refine q_S (As := [.int x2, .int x3]) (rest := []) hx hb hml hown hts hl.1 (kX1_isPlace l D E  hr_3) zNo_mv (va_cwS 2 hts gX7_move_X1_isPlace rfl rfl rfl (by decide +kernel) ⟨Nat.le_of_ble_eq_true rfl, Nat.le_of_ble_eq_true rfl⟩) (hP.sub (ws' := []) [] rfl) hK trivial rfl rfl (Nat.le_of_ble_eq_true rfl) dX7_move_16 ⟨Nat.zero_le _, Nat.zero_le _⟩ ?_
    refine lv_if_ne (tgt := 24) hx hb dX7_move_19 (by decide) (fun c_19_k_4 => ?_) (fun c_19_k_4 => ?_)
    · have hv := qF c_19_k_4 hv
      refine lv_iload_n hx hb dX7_move_24 rfl (lv_at hl 2 rfl) ?_
      refine lv_iload_n hx hb dX7_move_25 rfl (lv_at hl 3 rfl) ?_
      obtain ⟨r_5, hr_5, hv⟩ := qB hv
      refine q_S (As := [.int x2, .int x3]) (rest := []) hx hb hml hown hts hl.1 (kX1_placeAt l D E  hr_5) zNo_mv (va_cwS 2 hts gX7_move_X1_placeAt rfl rfl rfl (by decide +kernel) ⟨Nat.le_of_ble_eq_true rfl, Nat.le_of_ble_eq_true rfl⟩) (hP.sub (ws' := []) [] rfl) hK trivial rfl rfl (Nat.le_of_ble_eq_true rfl) dX7_move_26 ⟨Nat.zero_le _, Nat.zero_le _⟩ ?_
      refine lv_istore (lv' := [(4, .int r_5), (0, .ref (a0 0)), (1, .int x1), (2, .int x2), (3, .int x3)]) hx hb dX7_move_29 hl (by decide) rfl (fun ls hl => ?_)
      refine lv_aload_n hx hb dX7_move_31 rfl (lv_at hl 1 rfl) ?_
      refine va_get (D := D) (ci := 6) (v := .ref (a0 1)) (C := RX7) (T := TX7) (N := 4) hx hb hts hiX7_move_X7 hown hK hP 0 rfl rfl 0 (by decide) (hts _ lkX7_move_10) (fun _ h9 => h9) rfl dX7_move_32 ?_
      refine va_get (D := D) (ci := 4) (v := .ref (a0 3)) (C := RX5) (T := TX5) (N := 2) hx hb hts hiX7_move_X5 hown hK hP 1 rfl rfl 0 (by decide) (hts _ lkX7_move_37) (fun _ h9 => h9) rfl dX7_move_35 ?_
      refine lv_iload hx hb dX7_move_38 (lv_at hl 0 rfl) ?_
      obtain ⟨r_6, hr_6, hv⟩ := qB hv
      refine q_V (As := [.int r_5]) (rest := []) (C := RX3) (T0 := TX3) (N0 := 6) (ci := 2) hx hb hml hown hts hl.1 (kX3_pointAt l D E (a0 3) (a0 4) (a0 5) hr_6) zNo_mv (cwV 1 hts gX7_move_X3_pointAt rfl rfl rfl (by decide +kernel) ⟨Nat.le_of_ble_eq_true rfl, Nat.le_of_ble_eq_true rfl⟩) 0 rfl rfl (hP.sub (ws' := (wPlan E (a0 3) (a0 4) (a0 5) (Q0 0))) [3, 4, 5] rfl) hK trivial rfl rfl (Nat.le_of_ble_eq_true rfl) dX7_move_40 ⟨Nat.zero_le _, Nat.zero_le _⟩ ?_
      refine lv_istore (lv' := [(5, .int r_6), (4, .int r_5), (0, .ref (a0 0)), (1, .int x1), (2, .int x2), (3, .int x3)]) hx hb dX7_move_43 hl (by decide) rfl (fun ls hl => ?_)
      refine lv_iload hx hb dX7_move_45 (lv_at hl 0 rfl) ?_
      refine lv_bipush (v := -6) hx hb dX7_move_47 (by decide) ?_
      refine lv_icmp_eq (tgt := 61) hx hb dX7_move_49 (by decide) (fun c_49_k_7 => ?_) (fun c_49_k_7 => ?_)
      · have hv := qT c_49_k_7 hv
        exact wfX7_move_L61 C hK hA  Q0 x1 r_5 hv (fun i => a0 (i + 1)) _ _ _ hP hD hS (lv_sub hl [2, 3, 1] rfl)
      · have hv := qF c_49_k_7 hv
        refine lv_iload hx hb dX7_move_52 (lv_at hl 0 rfl) ?_
        refine lv_iload_n hx hb dX7_move_54 rfl (lv_at hl 3 rfl) ?_
        refine lv_icmp_eq (tgt := 61) hx hb dX7_move_55 (by decide) (fun c_55_k_14 => ?_) (fun c_55_k_14 => ?_)
        · have hv := qT c_55_k_14 hv
          exact wfX7_move_L61 C hK hA  Q0 x1 r_5 hv (fun i => a0 (i + 1)) _ _ _ hP hD hS (lv_sub hl [2, 3, 1] rfl)
        · have hv := qF c_55_k_14 hv
          refine lv_bipush (v := -5) hx hb dX7_move_58 (by decide) ?_
          exact m_ret (F := (fun (Z9 : Nat → FS) => (fun u : Nat → Nat => (wQ E (aZ0 (a0 0) u) Z9)))) (fun i => a0 (i + 1)) C dX7_move_60 hv hP hD hS
    · have hv := qT c_19_k_4 hv
      refine lv_iconst (v := -1) hx hb dX7_move_22 (by decide) ?_
      exact m_ret (F := (fun (Z9 : Nat → FS) => (fun u : Nat → Nat => (wQ E (aZ0 (a0 0) u) Z9)))) (fun i => a0 (i + 1)) C dX7_move_23 hv hP hD hS

theorem lkX7_split_10 : (.fieldLink RX7 10 "QuarterTiles" "tree" "LQuarterTiles$Tree;" : Cond) ∈ wsX7_split := by decide +kernel
theorem hiX7_split_X7 : ∀ w ∈ wsX70, w ∈ wsX7_split := by decide +kernel
theorem lkX7_split_37 : (.fieldLink RX7 37 "QuarterTiles$Tree" "plan" "LQuarterTiles$Plan;" : Cond) ∈ wsX7_split := by decide +kernel
theorem hiX7_split_X5 : ∀ w ∈ wsX50, w ∈ wsX7_split := by decide +kernel
theorem lkX7_split_19 : (.fieldLink RX7 19 "QuarterTiles" "history" "LQuarterTiles$History;" : Cond) ∈ wsX7_split := by decide +kernel
theorem lkX7_split_96 : (.fieldLink RX7 96 "QuarterTiles$Plan" "orders" "I" : Cond) ∈ wsX7_split := by decide +kernel
theorem hiX7_split_X3 : ∀ w ∈ wsX30, w ∈ wsX7_split := by decide +kernel
set_option maxRecDepth 100000 in
set_option maxHeartbeats 4000000 in
theorem wfX7_split_L58 {p : Program} {e : Env} {s : State} {m : MethodId} {below : List Frame} {meth : Method} {c : Code} {l : Launch} {D : va_G} {E : Nat → ClassId} {a0 : Nat → Nat} {x1 : Int32} {x2 : Int32} {v : Int32} {Q09 : Nat → FS} {A : Nat → Prop} (C : Ctx p s m meth c [.ref (a0 0), .int x1, .int x2] wsX7_split cX7_split 5 (some .int) RX7) (hK : va_K D vwCl (tyE E) s) (hA : ∀ q : Nat, s.heap.size ≤ q → A q) : ∀ (Q0 : Nat → FS) (y1 : Int32) (y2 : Int32), fX7_split_L58 Q0 y1 y2 = some (v, Q09) → ∀ (b0 : Nat → Nat) (H : Heap) (locs : List Loc) (ls : Array Slot), va_P D vwCl ((wQ E (aZ0 (a0 0) b0) Q0)) H → va_D A ((wQ E (aZ0 (a0 0) b0) Q0)) → va_S A s.heap H locs → lv_has ls 5 [(0, .ref ((aZ0 (a0 0) b0) 0)), (1, .int y1), (2, .int y2), (4, .ref ((aZ0 (a0 0) b0) 3))] → WI p l e (rmN 13 301) s m [.ref (a0 0), .int x1, .int x2] below meth c D A v (fun u : Nat → Nat => (wQ E (aZ0 (a0 0) u) Q09)) 0 0 H locs 0 0 58 ls [] := by
  obtain ⟨hx, hb, hr, hml, hown, hlocks, hts⟩ := id C
  intro Q0 y1 y2 hv b0 H locs ls hP hD hS hl
  unfold fX7_split_L58 at hv
  refine lv_aload_n hx hb dX7_split_58 rfl (lv_at hl 0 rfl) ?_
  refine va_get (D := D) (ci := 6) (v := .ref ((aZ0 (a0 0) b0) 6)) (C := RX7) (T := TX7) (N := 4) hx hb hts hiX7_split_X7 hown hK hP 0 rfl rfl 1 (by decide) (hts _ lkX7_split_19) (fun _ h9 => h9) rfl dX7_split_59 ?_
  refine lv_aload hx hb dX7_split_62 (lv_at hl 3 rfl) ?_
  obtain ⟨S_7, hS_7, hv⟩ := qB hv
  refine m_VV (As := [.ref ((aZ0 (a0 0) b0) 3)]) (rest := []) (C := RX0) (T0 := TX0) (N0 := 2) (ci := 0) (Wn := (fun u9 : Nat → Nat => (wQ E (aH (aZ0 (a0 0) b0) u9) (mgH Q0 S_7)))) (Wr := [(((aZ0 (a0 0) b0) 0), .inr (6, [.ref ((aZ0 (a0 0) b0) 1), .ref ((aZ0 (a0 0) b0) 6), .ref ((aZ0 (a0 0) b0) 26), .ref ((aZ0 (a0 0) b0) 35)])), (((aZ0 (a0 0) b0) 1), .inr (4, [.ref ((aZ0 (a0 0) b0) 3), .ref ((aZ0 (a0 0) b0) 2)])), aI E ((aZ0 (a0 0) b0) 2) 8192 ((Q0 0) 3), (((aZ0 (a0 0) b0) 26), .inr (3, [.ref ((aZ0 (a0 0) b0) 27), .ref ((aZ0 (a0 0) b0) 28)])), aP E ((aZ0 (a0 0) b0) 27) 2 (fS ((aZ0 (a0 0) b0) 29) ((aZ0 (a0 0) b0) 32)), aZ E ((aZ0 (a0 0) b0) 28) 2 (Q0 2 1), (((aZ0 (a0 0) b0) 29), .inr (2, [.ref ((aZ0 (a0 0) b0) 30), .ref ((aZ0 (a0 0) b0) 31), .int ((Q0 9) 2 0), .int ((Q0 9) 2 1), .int ((Q0 9) 2 2), .int ((Q0 9) 2 3)])), aI E ((aZ0 (a0 0) b0) 30) 50 ((Q0 9) 0), aI E ((aZ0 (a0 0) b0) 31) 12 ((Q0 9) 1), (((aZ0 (a0 0) b0) 32), .inr (2, [.ref ((aZ0 (a0 0) b0) 33), .ref ((aZ0 (a0 0) b0) 34), .int ((Q0 10) 2 0), .int ((Q0 10) 2 1), .int ((Q0 10) 2 2), .int ((Q0 10) 2 3)])), aI E ((aZ0 (a0 0) b0) 33) 50 ((Q0 10) 0), aI E ((aZ0 (a0 0) b0) 34) 12 ((Q0 10) 1), (((aZ0 (a0 0) b0) 35), .inr (1, [.ref ((aZ0 (a0 0) b0) 36), .ref ((aZ0 (a0 0) b0) 37), .int ((Q0 1) 2 0)])), aI E ((aZ0 (a0 0) b0) 36) 80 ((Q0 1) 0), aI E ((aZ0 (a0 0) b0) 37) 20 ((Q0 1) 1)]) hx hb hml hown hts hl.1 (kX0_remember l D E ((aZ0 (a0 0) b0) 6) ((aZ0 (a0 0) b0) 7) ((aZ0 (a0 0) b0) 8) ((aZ0 (a0 0) b0) 9) ((aZ0 (a0 0) b0) 10) ((aZ0 (a0 0) b0) 11) ((aZ0 (a0 0) b0) 12) ((aZ0 (a0 0) b0) 13) ((aZ0 (a0 0) b0) 14) ((aZ0 (a0 0) b0) 15) ((aZ0 (a0 0) b0) 16) ((aZ0 (a0 0) b0) 17) ((aZ0 (a0 0) b0) 18) ((aZ0 (a0 0) b0) 19) ((aZ0 (a0 0) b0) 20) ((aZ0 (a0 0) b0) 21) ((aZ0 (a0 0) b0) 22) ((aZ0 (a0 0) b0) 23) ((aZ0 (a0 0) b0) 24) ((aZ0 (a0 0) b0) 25) ((aZ0 (a0 0) b0) 3) ((aZ0 (a0 0) b0) 4) ((aZ0 (a0 0) b0) 5) H.size hS_7) (cwV 1 hts gX7_split_X0_remember rfl rfl rfl (by decide +kernel) ⟨Nat.le_of_ble_eq_true rfl, Nat.le_of_ble_eq_true rfl⟩) 0 rfl rfl hP hD hS hA hK [6, 7, 8, 9, 10, 11, 12, 13, 14, 15, 16, 17, 18, 19, 20, 21, 22, 23, 24, 25, 3, 4, 5] [0, 1, 2, 26, 27, 28, 29, 30, 31, 32, 33, 34, 35, 36, 37] [0, 1, 2, 35, 36, 37, 15, 16, 17, 18, 19, 20, 21, 22, 23, 24, 25, 26, 27, 28, 29, 30, 31, 32, 33, 34, 3, 4, 5, 6, 7, 8, 9, 10, 11, 12, 13, 14] (by decide) rfl rfl (by decide) (by decide) (by decide) (fun _ => rfl) rfl rfl (Nat.le_of_ble_eq_true rfl) dX7_split_64 ⟨Nat.le_of_ble_eq_true rfl, Nat.le_of_ble_eq_true rfl⟩ (fun u9 H locs hP hD hS => ?_)
  obtain ⟨u_8, hu⟩ : ∃ x, x = u9 := ⟨_, rfl⟩
  rw [← hu] at hP hD
  clear hu
  obtain ⟨Q0s_9, hQ0s_9, hv⟩ := qB hv
  obtain ⟨hP, hD⟩ := m_st (F := fun Z9 : Nat → FS => (wQ E (aH (aZ0 (a0 0) b0) u_8) Z9)) (Option.some.inj hQ0s_9) hP hD
  refine lv_iload_n hx hb dX7_split_67 rfl (lv_at hl 2 rfl) ?_
  refine lv_if_eq (tgt := 80) hx hb dX7_split_68 (by decide) (fun c_68_k_10 => ?_) (fun c_68_k_10 => ?_)
  · have hv := qT c_68_k_10 hv
    refine lv_aload hx hb dX7_split_80 (lv_at hl 3 rfl) ?_
    refine lv_iload_n hx hb dX7_split_82 rfl (lv_at hl 1 rfl) ?_
    obtain ⟨S_11, hS_11, hv⟩ := qB hv
    refine m_VV (As := [.int y1]) (rest := []) (C := RX3) (T0 := TX3) (N0 := 6) (ci := 2) (Wn := (fun _ : Unit => (wQ E (aH (aZ0 (a0 0) b0) u_8) (sq Q0s_9 0 (sr S_11 3 (Q0s_9 0 3)))))) (Wr := [(((aH (aZ0 (a0 0) b0) u_8) 0), .inr (6, [.ref ((aH (aZ0 (a0 0) b0) u_8) 1), .ref ((aH (aZ0 (a0 0) b0) u_8) 6), .ref ((aH (aZ0 (a0 0) b0) u_8) 26), .ref ((aH (aZ0 (a0 0) b0) u_8) 35)])), (((aH (aZ0 (a0 0) b0) u_8) 1), .inr (4, [.ref ((aH (aZ0 (a0 0) b0) u_8) 3), .ref ((aH (aZ0 (a0 0) b0) u_8) 2)])), aI E ((aH (aZ0 (a0 0) b0) u_8) 2) 8192 ((Q0s_9 0) 3), (((aH (aZ0 (a0 0) b0) u_8) 6), .inr (0, [.ref ((aH (aZ0 (a0 0) b0) u_8) 7), .int (Q0s_9 2 0 0)])), aP E ((aH (aZ0 (a0 0) b0) u_8) 7) 6 (fH ((aH (aZ0 (a0 0) b0) u_8) 8) ((aH (aZ0 (a0 0) b0) u_8) 11) ((aH (aZ0 (a0 0) b0) u_8) 14) ((aH (aZ0 (a0 0) b0) u_8) 17) ((aH (aZ0 (a0 0) b0) u_8) 20) ((aH (aZ0 (a0 0) b0) u_8) 23)), (((aH (aZ0 (a0 0) b0) u_8) 8), .inr (2, [.ref ((aH (aZ0 (a0 0) b0) u_8) 9), .ref ((aH (aZ0 (a0 0) b0) u_8) 10), .int ((Q0s_9 3) 2 0), .int ((Q0s_9 3) 2 1), .int ((Q0s_9 3) 2 2), .int ((Q0s_9 3) 2 3)])), aI E ((aH (aZ0 (a0 0) b0) u_8) 9) 50 ((Q0s_9 3) 0), aI E ((aH (aZ0 (a0 0) b0) u_8) 10) 12 ((Q0s_9 3) 1), (((aH (aZ0 (a0 0) b0) u_8) 11), .inr (2, [.ref ((aH (aZ0 (a0 0) b0) u_8) 12), .ref ((aH (aZ0 (a0 0) b0) u_8) 13), .int ((Q0s_9 4) 2 0), .int ((Q0s_9 4) 2 1), .int ((Q0s_9 4) 2 2), .int ((Q0s_9 4) 2 3)])), aI E ((aH (aZ0 (a0 0) b0) u_8) 12) 50 ((Q0s_9 4) 0), aI E ((aH (aZ0 (a0 0) b0) u_8) 13) 12 ((Q0s_9 4) 1), (((aH (aZ0 (a0 0) b0) u_8) 14), .inr (2, [.ref ((aH (aZ0 (a0 0) b0) u_8) 15), .ref ((aH (aZ0 (a0 0) b0) u_8) 16), .int ((Q0s_9 5) 2 0), .int ((Q0s_9 5) 2 1), .int ((Q0s_9 5) 2 2), .int ((Q0s_9 5) 2 3)])), aI E ((aH (aZ0 (a0 0) b0) u_8) 15) 50 ((Q0s_9 5) 0), aI E ((aH (aZ0 (a0 0) b0) u_8) 16) 12 ((Q0s_9 5) 1), (((aH (aZ0 (a0 0) b0) u_8) 17), .inr (2, [.ref ((aH (aZ0 (a0 0) b0) u_8) 18), .ref ((aH (aZ0 (a0 0) b0) u_8) 19), .int ((Q0s_9 6) 2 0), .int ((Q0s_9 6) 2 1), .int ((Q0s_9 6) 2 2), .int ((Q0s_9 6) 2 3)])), aI E ((aH (aZ0 (a0 0) b0) u_8) 18) 50 ((Q0s_9 6) 0), aI E ((aH (aZ0 (a0 0) b0) u_8) 19) 12 ((Q0s_9 6) 1), (((aH (aZ0 (a0 0) b0) u_8) 20), .inr (2, [.ref ((aH (aZ0 (a0 0) b0) u_8) 21), .ref ((aH (aZ0 (a0 0) b0) u_8) 22), .int ((Q0s_9 7) 2 0), .int ((Q0s_9 7) 2 1), .int ((Q0s_9 7) 2 2), .int ((Q0s_9 7) 2 3)])), aI E ((aH (aZ0 (a0 0) b0) u_8) 21) 50 ((Q0s_9 7) 0), aI E ((aH (aZ0 (a0 0) b0) u_8) 22) 12 ((Q0s_9 7) 1), (((aH (aZ0 (a0 0) b0) u_8) 23), .inr (2, [.ref ((aH (aZ0 (a0 0) b0) u_8) 24), .ref ((aH (aZ0 (a0 0) b0) u_8) 25), .int ((Q0s_9 8) 2 0), .int ((Q0s_9 8) 2 1), .int ((Q0s_9 8) 2 2), .int ((Q0s_9 8) 2 3)])), aI E ((aH (aZ0 (a0 0) b0) u_8) 24) 50 ((Q0s_9 8) 0), aI E ((aH (aZ0 (a0 0) b0) u_8) 25) 12 ((Q0s_9 8) 1), (((aH (aZ0 (a0 0) b0) u_8) 26), .inr (3, [.ref ((aH (aZ0 (a0 0) b0) u_8) 27), .ref ((aH (aZ0 (a0 0) b0) u_8) 28)])), aP E ((aH (aZ0 (a0 0) b0) u_8) 27) 2 (fS ((aH (aZ0 (a0 0) b0) u_8) 29) ((aH (aZ0 (a0 0) b0) u_8) 32)), aZ E ((aH (aZ0 (a0 0) b0) u_8) 28) 2 (Q0s_9 2 1), (((aH (aZ0 (a0 0) b0) u_8) 29), .inr (2, [.ref ((aH (aZ0 (a0 0) b0) u_8) 30), .ref ((aH (aZ0 (a0 0) b0) u_8) 31), .int ((Q0s_9 9) 2 0), .int ((Q0s_9 9) 2 1), .int ((Q0s_9 9) 2 2), .int ((Q0s_9 9) 2 3)])), aI E ((aH (aZ0 (a0 0) b0) u_8) 30) 50 ((Q0s_9 9) 0), aI E ((aH (aZ0 (a0 0) b0) u_8) 31) 12 ((Q0s_9 9) 1), (((aH (aZ0 (a0 0) b0) u_8) 32), .inr (2, [.ref ((aH (aZ0 (a0 0) b0) u_8) 33), .ref ((aH (aZ0 (a0 0) b0) u_8) 34), .int ((Q0s_9 10) 2 0), .int ((Q0s_9 10) 2 1), .int ((Q0s_9 10) 2 2), .int ((Q0s_9 10) 2 3)])), aI E ((aH (aZ0 (a0 0) b0) u_8) 33) 50 ((Q0s_9 10) 0), aI E ((aH (aZ0 (a0 0) b0) u_8) 34) 12 ((Q0s_9 10) 1), (((aH (aZ0 (a0 0) b0) u_8) 35), .inr (1, [.ref ((aH (aZ0 (a0 0) b0) u_8) 36), .ref ((aH (aZ0 (a0 0) b0) u_8) 37), .int ((Q0s_9 1) 2 0)])), aI E ((aH (aZ0 (a0 0) b0) u_8) 36) 80 ((Q0s_9 1) 0), aI E ((aH (aZ0 (a0 0) b0) u_8) 37) 20 ((Q0s_9 1) 1)]) hx hb hml hown hts hl.1 (kX3_removeOrder l D E ((aH (aZ0 (a0 0) b0) u_8) 3) ((aH (aZ0 (a0 0) b0) u_8) 4) ((aH (aZ0 (a0 0) b0) u_8) 5) H.size hS_11) (cwV 1 hts gX7_split_X3_removeOrder rfl rfl rfl (by decide +kernel) ⟨Nat.le_of_ble_eq_true rfl, Nat.le_of_ble_eq_true rfl⟩) 0 rfl rfl hP hD hS hA hK [3, 4, 5] [0, 1, 2, 6, 7, 8, 9, 10, 11, 12, 13, 14, 15, 16, 17, 18, 19, 20, 21, 22, 23, 24, 25, 26, 27, 28, 29, 30, 31, 32, 33, 34, 35, 36, 37] [0, 1, 2, 35, 36, 37, 3, 4, 5, 6, 7, 8, 9, 10, 11, 12, 13, 14, 15, 16, 17, 18, 19, 20, 21, 22, 23, 24, 25, 26, 27, 28, 29, 30, 31, 32, 33, 34] (by decide) rfl rfl (by decide) (by decide) (by decide) (fun _ => rfl) rfl rfl (Nat.le_of_ble_eq_true rfl) dX7_split_83 ⟨Nat.le_of_ble_eq_true rfl, Nat.le_of_ble_eq_true rfl⟩ (fun _ H locs hP hD hS => ?_)
    obtain ⟨Q0s_12, hQ0s_12, hv⟩ := qB hv
    obtain ⟨hP, hD⟩ := m_st (F := fun Z9 : Nat → FS => (wQ E (aH (aZ0 (a0 0) b0) u_8) Z9)) (Option.some.inj hQ0s_12) hP hD
    refine lv_aload_n hx hb dX7_split_86 rfl (lv_at hl 0 rfl) ?_
    refine va_get (D := D) (ci := 6) (v := .ref ((aH (aZ0 (a0 0) b0) u_8) 1)) (C := RX7) (T := TX7) (N := 4) hx hb hts hiX7_split_X7 hown hK hP 0 rfl rfl 0 (by decide) (hts _ lkX7_split_10) (fun _ h9 => h9) rfl dX7_split_87 ?_
    obtain ⟨r_13, hr_13, hv⟩ := qB hv
    refine q_V (As := []) (rest := []) (C := RX5) (T0 := TX5) (N0 := 2) (ci := 4) hx hb hml hown hts hl.1 (kX5_leaves l D E ((aH (aZ0 (a0 0) b0) u_8) 1) ((aH (aZ0 (a0 0) b0) u_8) 2) ((aH (aZ0 (a0 0) b0) u_8) 3) ((aH (aZ0 (a0 0) b0) u_8) 4) ((aH (aZ0 (a0 0) b0) u_8) 5) hr_13) zNo_mv (cwV 0 hts gX7_split_X5_leaves rfl rfl rfl (by decide +kernel) ⟨Nat.le_of_ble_eq_true rfl, Nat.le_of_ble_eq_true rfl⟩) 0 rfl rfl (hP.sub (ws' := (wTree E ((aH (aZ0 (a0 0) b0) u_8) 1) ((aH (aZ0 (a0 0) b0) u_8) 2) ((aH (aZ0 (a0 0) b0) u_8) 3) ((aH (aZ0 (a0 0) b0) u_8) 4) ((aH (aZ0 (a0 0) b0) u_8) 5) (Q0s_12 0))) [1, 2, 3, 4, 5] rfl) hK trivial rfl rfl (Nat.le_of_ble_eq_true rfl) dX7_split_90 ⟨Nat.zero_le _, Nat.zero_le _⟩ ?_
    exact m_ret (F := (fun (Z9 : Nat → FS) => (fun u : Nat → Nat => (wQ E (aZ0 (a0 0) u) Z9)))) (fun i => (aH (aZ0 (a0 0) b0) u_8) (i + 1)) C dX7_split_93 hv hP hD hS
  · have hv := qF c_68_k_10 hv
    refine lv_aload hx hb dX7_split_71 (lv_at hl 3 rfl) ?_
    refine lv_iload_n hx hb dX7_split_73 rfl (lv_at hl 1 rfl) ?_
    obtain ⟨S_14, hS_14, hv⟩ := qB hv
    refine m_VV (As := [.int y1]) (rest := []) (C := RX3) (T0 := TX3) (N0 := 6) (ci := 2) (Wn := (fun _ : Unit => (wQ E (aH (aZ0 (a0 0) b0) u_8) (sq Q0s_9 0 (sr S_14 3 (Q0s_9 0 3)))))) (Wr := [(((aH (aZ0 (a0 0) b0) u_8) 0), .inr (6, [.ref ((aH (aZ0 (a0 0) b0) u_8) 1), .ref ((aH (aZ0 (a0 0) b0) u_8) 6), .ref ((aH (aZ0 (a0 0) b0) u_8) 26), .ref ((aH (aZ0 (a0 0) b0) u_8) 35)])), (((aH (aZ0 (a0 0) b0) u_8) 1), .inr (4, [.ref ((aH (aZ0 (a0 0) b0) u_8) 3), .ref ((aH (aZ0 (a0 0) b0) u_8) 2)])), aI E ((aH (aZ0 (a0 0) b0) u_8) 2) 8192 ((Q0s_9 0) 3), (((aH (aZ0 (a0 0) b0) u_8) 6), .inr (0, [.ref ((aH (aZ0 (a0 0) b0) u_8) 7), .int (Q0s_9 2 0 0)])), aP E ((aH (aZ0 (a0 0) b0) u_8) 7) 6 (fH ((aH (aZ0 (a0 0) b0) u_8) 8) ((aH (aZ0 (a0 0) b0) u_8) 11) ((aH (aZ0 (a0 0) b0) u_8) 14) ((aH (aZ0 (a0 0) b0) u_8) 17) ((aH (aZ0 (a0 0) b0) u_8) 20) ((aH (aZ0 (a0 0) b0) u_8) 23)), (((aH (aZ0 (a0 0) b0) u_8) 8), .inr (2, [.ref ((aH (aZ0 (a0 0) b0) u_8) 9), .ref ((aH (aZ0 (a0 0) b0) u_8) 10), .int ((Q0s_9 3) 2 0), .int ((Q0s_9 3) 2 1), .int ((Q0s_9 3) 2 2), .int ((Q0s_9 3) 2 3)])), aI E ((aH (aZ0 (a0 0) b0) u_8) 9) 50 ((Q0s_9 3) 0), aI E ((aH (aZ0 (a0 0) b0) u_8) 10) 12 ((Q0s_9 3) 1), (((aH (aZ0 (a0 0) b0) u_8) 11), .inr (2, [.ref ((aH (aZ0 (a0 0) b0) u_8) 12), .ref ((aH (aZ0 (a0 0) b0) u_8) 13), .int ((Q0s_9 4) 2 0), .int ((Q0s_9 4) 2 1), .int ((Q0s_9 4) 2 2), .int ((Q0s_9 4) 2 3)])), aI E ((aH (aZ0 (a0 0) b0) u_8) 12) 50 ((Q0s_9 4) 0), aI E ((aH (aZ0 (a0 0) b0) u_8) 13) 12 ((Q0s_9 4) 1), (((aH (aZ0 (a0 0) b0) u_8) 14), .inr (2, [.ref ((aH (aZ0 (a0 0) b0) u_8) 15), .ref ((aH (aZ0 (a0 0) b0) u_8) 16), .int ((Q0s_9 5) 2 0), .int ((Q0s_9 5) 2 1), .int ((Q0s_9 5) 2 2), .int ((Q0s_9 5) 2 3)])), aI E ((aH (aZ0 (a0 0) b0) u_8) 15) 50 ((Q0s_9 5) 0), aI E ((aH (aZ0 (a0 0) b0) u_8) 16) 12 ((Q0s_9 5) 1), (((aH (aZ0 (a0 0) b0) u_8) 17), .inr (2, [.ref ((aH (aZ0 (a0 0) b0) u_8) 18), .ref ((aH (aZ0 (a0 0) b0) u_8) 19), .int ((Q0s_9 6) 2 0), .int ((Q0s_9 6) 2 1), .int ((Q0s_9 6) 2 2), .int ((Q0s_9 6) 2 3)])), aI E ((aH (aZ0 (a0 0) b0) u_8) 18) 50 ((Q0s_9 6) 0), aI E ((aH (aZ0 (a0 0) b0) u_8) 19) 12 ((Q0s_9 6) 1), (((aH (aZ0 (a0 0) b0) u_8) 20), .inr (2, [.ref ((aH (aZ0 (a0 0) b0) u_8) 21), .ref ((aH (aZ0 (a0 0) b0) u_8) 22), .int ((Q0s_9 7) 2 0), .int ((Q0s_9 7) 2 1), .int ((Q0s_9 7) 2 2), .int ((Q0s_9 7) 2 3)])), aI E ((aH (aZ0 (a0 0) b0) u_8) 21) 50 ((Q0s_9 7) 0), aI E ((aH (aZ0 (a0 0) b0) u_8) 22) 12 ((Q0s_9 7) 1), (((aH (aZ0 (a0 0) b0) u_8) 23), .inr (2, [.ref ((aH (aZ0 (a0 0) b0) u_8) 24), .ref ((aH (aZ0 (a0 0) b0) u_8) 25), .int ((Q0s_9 8) 2 0), .int ((Q0s_9 8) 2 1), .int ((Q0s_9 8) 2 2), .int ((Q0s_9 8) 2 3)])), aI E ((aH (aZ0 (a0 0) b0) u_8) 24) 50 ((Q0s_9 8) 0), aI E ((aH (aZ0 (a0 0) b0) u_8) 25) 12 ((Q0s_9 8) 1), (((aH (aZ0 (a0 0) b0) u_8) 26), .inr (3, [.ref ((aH (aZ0 (a0 0) b0) u_8) 27), .ref ((aH (aZ0 (a0 0) b0) u_8) 28)])), aP E ((aH (aZ0 (a0 0) b0) u_8) 27) 2 (fS ((aH (aZ0 (a0 0) b0) u_8) 29) ((aH (aZ0 (a0 0) b0) u_8) 32)), aZ E ((aH (aZ0 (a0 0) b0) u_8) 28) 2 (Q0s_9 2 1), (((aH (aZ0 (a0 0) b0) u_8) 29), .inr (2, [.ref ((aH (aZ0 (a0 0) b0) u_8) 30), .ref ((aH (aZ0 (a0 0) b0) u_8) 31), .int ((Q0s_9 9) 2 0), .int ((Q0s_9 9) 2 1), .int ((Q0s_9 9) 2 2), .int ((Q0s_9 9) 2 3)])), aI E ((aH (aZ0 (a0 0) b0) u_8) 30) 50 ((Q0s_9 9) 0), aI E ((aH (aZ0 (a0 0) b0) u_8) 31) 12 ((Q0s_9 9) 1), (((aH (aZ0 (a0 0) b0) u_8) 32), .inr (2, [.ref ((aH (aZ0 (a0 0) b0) u_8) 33), .ref ((aH (aZ0 (a0 0) b0) u_8) 34), .int ((Q0s_9 10) 2 0), .int ((Q0s_9 10) 2 1), .int ((Q0s_9 10) 2 2), .int ((Q0s_9 10) 2 3)])), aI E ((aH (aZ0 (a0 0) b0) u_8) 33) 50 ((Q0s_9 10) 0), aI E ((aH (aZ0 (a0 0) b0) u_8) 34) 12 ((Q0s_9 10) 1), (((aH (aZ0 (a0 0) b0) u_8) 35), .inr (1, [.ref ((aH (aZ0 (a0 0) b0) u_8) 36), .ref ((aH (aZ0 (a0 0) b0) u_8) 37), .int ((Q0s_9 1) 2 0)])), aI E ((aH (aZ0 (a0 0) b0) u_8) 36) 80 ((Q0s_9 1) 0), aI E ((aH (aZ0 (a0 0) b0) u_8) 37) 20 ((Q0s_9 1) 1)]) hx hb hml hown hts hl.1 (kX3_addOrder l D E ((aH (aZ0 (a0 0) b0) u_8) 3) ((aH (aZ0 (a0 0) b0) u_8) 4) ((aH (aZ0 (a0 0) b0) u_8) 5) H.size hS_14) (cwV 1 hts gX7_split_X3_addOrder rfl rfl rfl (by decide +kernel) ⟨Nat.le_of_ble_eq_true rfl, Nat.le_of_ble_eq_true rfl⟩) 0 rfl rfl hP hD hS hA hK [3, 4, 5] [0, 1, 2, 6, 7, 8, 9, 10, 11, 12, 13, 14, 15, 16, 17, 18, 19, 20, 21, 22, 23, 24, 25, 26, 27, 28, 29, 30, 31, 32, 33, 34, 35, 36, 37] [0, 1, 2, 35, 36, 37, 3, 4, 5, 6, 7, 8, 9, 10, 11, 12, 13, 14, 15, 16, 17, 18, 19, 20, 21, 22, 23, 24, 25, 26, 27, 28, 29, 30, 31, 32, 33, 34] (by decide) rfl rfl (by decide) (by decide) (by decide) (fun _ => rfl) rfl rfl (Nat.le_of_ble_eq_true rfl) dX7_split_74 ⟨Nat.le_of_ble_eq_true rfl, Nat.le_of_ble_eq_true rfl⟩ (fun _ H locs hP hD hS => ?_)
    obtain ⟨Q0s_15, hQ0s_15, hv⟩ := qB hv
    obtain ⟨hP, hD⟩ := m_st (F := fun Z9 : Nat → FS => (wQ E (aH (aZ0 (a0 0) b0) u_8) Z9)) (Option.some.inj hQ0s_15) hP hD
    refine lv_goto (tgt := 86) hx hb dX7_split_77 (by decide) ?_
    refine lv_aload_n hx hb dX7_split_86 rfl (lv_at hl 0 rfl) ?_
    refine va_get (D := D) (ci := 6) (v := .ref ((aH (aZ0 (a0 0) b0) u_8) 1)) (C := RX7) (T := TX7) (N := 4) hx hb hts hiX7_split_X7 hown hK hP 0 rfl rfl 0 (by decide) (hts _ lkX7_split_10) (fun _ h9 => h9) rfl dX7_split_87 ?_
    obtain ⟨r_16, hr_16, hv⟩ := qB hv
    refine q_V (As := []) (rest := []) (C := RX5) (T0 := TX5) (N0 := 2) (ci := 4) hx hb hml hown hts hl.1 (kX5_leaves l D E ((aH (aZ0 (a0 0) b0) u_8) 1) ((aH (aZ0 (a0 0) b0) u_8) 2) ((aH (aZ0 (a0 0) b0) u_8) 3) ((aH (aZ0 (a0 0) b0) u_8) 4) ((aH (aZ0 (a0 0) b0) u_8) 5) hr_16) zNo_mv (cwV 0 hts gX7_split_X5_leaves rfl rfl rfl (by decide +kernel) ⟨Nat.le_of_ble_eq_true rfl, Nat.le_of_ble_eq_true rfl⟩) 0 rfl rfl (hP.sub (ws' := (wTree E ((aH (aZ0 (a0 0) b0) u_8) 1) ((aH (aZ0 (a0 0) b0) u_8) 2) ((aH (aZ0 (a0 0) b0) u_8) 3) ((aH (aZ0 (a0 0) b0) u_8) 4) ((aH (aZ0 (a0 0) b0) u_8) 5) (Q0s_15 0))) [1, 2, 3, 4, 5] rfl) hK trivial rfl rfl (Nat.le_of_ble_eq_true rfl) dX7_split_90 ⟨Nat.zero_le _, Nat.zero_le _⟩ ?_
    exact m_ret (F := (fun (Z9 : Nat → FS) => (fun u : Nat → Nat => (wQ E (aZ0 (a0 0) u) Z9)))) (fun i => (aH (aZ0 (a0 0) b0) u_8) (i + 1)) C dX7_split_93 hv hP hD hS

set_option maxRecDepth 100000 in
set_option maxHeartbeats 4000000 in
theorem kX7_split (l : Launch) (D : va_G) (E : Nat → ClassId) (a0 : Nat → Nat) {Q0 : Nat → FS} {x1 : Int32} {x2 : Int32} {v : Int32} {Q09 : Nat → FS} (sz : Nat) (hv : fX7_split Q0 x1 x2 = some (v, Q09)) : MI l yX7_split wsX7_split (rmN 13 301) D E ((wQ E a0 Q0)) sz [.ref (a0 0), .int x1, .int x2] v (fun u : Nat → Nat => (wQ E (aZ0 (a0 0) u) Q09)) 0 0 := by
  refine MI.of (by decide) rfl (Nat.le_of_ble_eq_true rfl) ?_
  intro p e s m below meth c A H locs C hP hK hD hS hA ls hl
  have hl : lv_has ls 5 [(0, .ref (a0 0)), (1, .int x1), (2, .int x2)] := hl
  obtain ⟨hx, hb, hr, hml, hown, hlocks, hts⟩ := id C
  unfold fX7_split at hv
  refine lv_iload_n hx hb dX7_split_0 rfl (lv_at hl 1 rfl) ?_
  obtain ⟨r_1, hr_1, hv⟩ := qB hv
  refine q_S (As := [.int x1]) (rest := []) hx hb hml hown hts hl.1 (kX1_depthOf l D E  hr_1) zNo_mv (va_cwS 1 hts gX7_split_X1_depthOf rfl rfl rfl (by decide +kernel) ⟨Nat.le_of_ble_eq_true rfl, Nat.le_of_ble_eq_true rfl⟩) (hP.sub (ws' := []) [] rfl) hK trivial rfl rfl (Nat.le_of_ble_eq_true rfl) dX7_split_1 ⟨Nat.zero_le _, Nat.zero_le _⟩ ?_
  refine lv_istore_n (lv' := [(3, .int r_1), (0, .ref (a0 0)), (1, .int x1), (2, .int x2)]) hx hb dX7_split_4 rfl hl (by decide) rfl (fun ls hl => ?_)
  refine lv_iload_n hx hb dX7_split_5 rfl (lv_at hl 0 rfl) ?_
  refine lv_bipush (v := -6) hx hb dX7_split_6 (by decide) ?_
  refine lv_icmp_eq (tgt := 17) hx hb dX7_split_8 (by decide) (fun c_8_k_2 => ?_) (fun c_8_k_2 => ?_)
  · have hv := qT c_8_k_2 hv
    refine lv_iconst (v := -1) hx hb dX7_split_17 (by decide) ?_
    exact m_ret (F := (fun (Z9 : Nat → FS) => (fun u : Nat → Nat => (wQ E (aZ0 (a0 0) u) Z9)))) (fun i => a0 (i + 1)) C dX7_split_18 hv hP hD hS
  · have hv := qF c_8_k_2 hv
    refine lv_iload_n hx hb dX7_split_11 rfl (lv_at hl 0 rfl) ?_
    refine lv_bipush (v := 6) hx hb dX7_split_12 (by decide) ?_
    refine lv_icmp_ne (tgt := 19) hx hb dX7_split_14 (by decide) (fun c_14_k_3 => ?_) (fun c_14_k_3 => ?_)
    · have hv := qF c_14_k_3 hv
      refine lv_aload_n hx hb dX7_split_19 rfl (lv_at hl 1 rfl) ?_
      refine va_get (D := D) (ci := 6) (v := .ref (a0 1)) (C := RX7) (T := TX7) (N := 4) hx hb hts hiX7_split_X7 hown hK hP 0 rfl rfl 0 (by decide) (hts _ lkX7_split_10) (fun _ h9 => h9) rfl dX7_split_20 ?_
      refine va_get (D := D) (ci := 4) (v := .ref (a0 3)) (C := RX5) (T := TX5) (N := 2) hx hb hts hiX7_split_X5 hown hK hP 1 rfl rfl 0 (by decide) (hts _ lkX7_split_37) (fun _ h9 => h9) rfl dX7_split_23 ?_
      refine lv_astore (lv' := [(4, .ref (a0 3)), (3, .int r_1), (0, .ref (a0 0)), (1, .int x1), (2, .int x2)]) hx hb dX7_split_26 hl (by decide) rfl (fun ls hl => ?_)
      refine lv_aload hx hb dX7_split_28 (lv_at hl 0 rfl) ?_
      refine lv_iload_n hx hb dX7_split_30 rfl (lv_at hl 3 rfl) ?_
      obtain ⟨r_4, hr_4, hv⟩ := qB hv
      refine q_V (As := [.int x1]) (rest := []) (C := RX3) (T0 := TX3) (N0 := 6) (ci := 2) hx hb hml hown hts hl.1 (kX3_isOrdered l D E (a0 3) (a0 4) (a0 5) hr_4) zNo_mv (cwV 1 hts gX7_split_X3_isOrdered rfl rfl rfl (by decide +kernel) ⟨Nat.le_of_ble_eq_true rfl, Nat.le_of_ble_eq_true rfl⟩) 0 rfl rfl (hP.sub (ws' := (wPlan E (a0 3) (a0 4) (a0 5) (Q0 0))) [3, 4, 5] rfl) hK trivial rfl rfl (Nat.le_of_ble_eq_true rfl) dX7_split_31 ⟨Nat.zero_le _, Nat.zero_le _⟩ ?_
      refine lv_iload_n hx hb dX7_split_34 rfl (lv_at hl 4 rfl) ?_
      refine lv_icmp_ne (tgt := 41) hx hb dX7_split_35 (by decide) (fun c_35_k_5 => ?_) (fun c_35_k_5 => ?_)
      · have hv := qF c_35_k_5 hv
        refine lv_iload_n hx hb dX7_split_41 rfl (lv_at hl 4 rfl) ?_
        refine lv_if_eq (tgt := 58) hx hb dX7_split_42 (by decide) (fun c_42_k_6 => ?_) (fun c_42_k_6 => ?_)
        · have hv := qT c_42_k_6 hv
          exact wfX7_split_L58 C hK hA  Q0 x1 x2 hv (fun i => a0 (i + 1)) _ _ _ hP hD hS (lv_sub hl [2, 3, 4, 0] rfl)
        · have hv := qF c_42_k_6 hv
          refine lv_aload hx hb dX7_split_45 (lv_at hl 0 rfl) ?_
          refine va_get (D := D) (ci := 2) (v := .int ((Q0 0) 2 1)) (C := RX3) (T := TX3) (N := 6) hx hb hts hiX7_split_X3 hown hK hP 3 rfl rfl 3 (by decide) (hts _ lkX7_split_96) (fun _ h9 => h9) rfl dX7_split_47 ?_
          refine lv_bipush (v := 12) hx hb dX7_split_50 (by decide) ?_
          refine lv_icmp_lt (tgt := 58) hx hb dX7_split_52 (by decide) (fun c_52_k_17 => ?_) (fun c_52_k_17 => ?_)
          · have hv := qT c_52_k_17 hv
            exact wfX7_split_L58 C hK hA  Q0 x1 x2 hv (fun i => a0 (i + 1)) _ _ _ hP hD hS (lv_sub hl [2, 3, 4, 0] rfl)
          · have hv := qF c_52_k_17 hv
            refine lv_bipush (v := -4) hx hb dX7_split_55 (by decide) ?_
            exact m_ret (F := (fun (Z9 : Nat → FS) => (fun u : Nat → Nat => (wQ E (aZ0 (a0 0) u) Z9)))) (fun i => a0 (i + 1)) C dX7_split_57 hv hP hD hS
      · have hv := qT c_35_k_5 hv
        refine lv_bipush (v := -5) hx hb dX7_split_38 (by decide) ?_
        exact m_ret (F := (fun (Z9 : Nat → FS) => (fun u : Nat → Nat => (wQ E (aZ0 (a0 0) u) Z9)))) (fun i => a0 (i + 1)) C dX7_split_40 hv hP hD hS
    · have hv := qT c_14_k_3 hv
      refine lv_iconst (v := -1) hx hb dX7_split_17 (by decide) ?_
      exact m_ret (F := (fun (Z9 : Nat → FS) => (fun u : Nat → Nat => (wQ E (aZ0 (a0 0) u) Z9)))) (fun i => a0 (i + 1)) C dX7_split_18 hv hP hD hS

theorem lkX7_putAll_33 : (.fieldLink RX7 33 "QuarterTiles" "pad" "LQuarterTiles$Pad;" : Cond) ∈ wsX7_putAll := by decide +kernel
theorem hiX7_putAll_X7 : ∀ w ∈ wsX70, w ∈ wsX7_putAll := by decide +kernel
theorem lkX7_putAll_19 : (.fieldLink RX7 19 "QuarterTiles" "history" "LQuarterTiles$History;" : Cond) ∈ wsX7_putAll := by decide +kernel
theorem lkX7_putAll_10 : (.fieldLink RX7 10 "QuarterTiles" "tree" "LQuarterTiles$Tree;" : Cond) ∈ wsX7_putAll := by decide +kernel
theorem lkX7_putAll_37 : (.fieldLink RX7 37 "QuarterTiles$Tree" "plan" "LQuarterTiles$Plan;" : Cond) ∈ wsX7_putAll := by decide +kernel
theorem hiX7_putAll_X5 : ∀ w ∈ wsX50, w ∈ wsX7_putAll := by decide +kernel
set_option maxRecDepth 100000 in
set_option maxHeartbeats 4000000 in
theorem wfX7_putAll_L39 {p : Program} {e : Env} {s : State} {m : MethodId} {below : List Frame} {meth : Method} {c : Code} {l : Launch} {D : va_G} {E : Nat → ClassId} {a0 : Nat → Nat} {v : Int32} {Q09 : Nat → FS} {A : Nat → Prop} {y1 : Int32} (C : Ctx p s m meth c [.ref (a0 0)] wsX7_putAll cX7_putAll 3 (some .int) RX7) (hK : va_K D vwCl (tyE E) s) (hA : ∀ q : Nat, s.heap.size ≤ q → A q) : ∀ (q : Nat) (Q0 : Nat → FS) (y2 : Int32), fX7_putAll_L39 y1 q Q0 y2 = some (v, Q09) → ∀ (b0 : Nat → Nat) (H : Heap) (locs : List Loc) (ls : Array Slot), va_P D vwCl ((wQ E (aZ0 (a0 0) b0) Q0)) H → va_D A ((wQ E (aZ0 (a0 0) b0) Q0)) → va_S A s.heap H locs → lv_has ls 3 [(0, .ref ((aZ0 (a0 0) b0) 0)), (1, .int y1), (2, .int y2)] → WI p l e (rmN 4 85) s m [.ref (a0 0)] below meth c D A v (fun u : Nat → Nat => (wQ E (aZ0 (a0 0) u) Q09)) 0 0 H locs 0 0 39 ls [] := by
  obtain ⟨hx, hb, hr, hml, hown, hlocks, hts⟩ := id C
  intro q
  induction q with
  | zero =>
    intro Q0 y2 hv
    cases hv
  | succ q ih =>
    intro Q0 y2 hv b0 H locs ls hP hD hS hl
    rw [fX7_putAll_L39.eq_2] at hv
    refine lv_iload_n hx hb dX7_putAll_39 rfl (lv_at hl 2 rfl) ?_
    refine lv_iload_n hx hb dX7_putAll_40 rfl (lv_at hl 1 rfl) ?_
    refine lv_icmp_ge (tgt := 86) hx hb dX7_putAll_41 (by decide) (fun c_41_k_8 => ?_) (fun c_41_k_8 => ?_)
    · have hv := qT c_41_k_8 hv
      refine lv_aload_n hx hb dX7_putAll_86 rfl (lv_at hl 0 rfl) ?_
      refine va_get (D := D) (ci := 6) (v := .ref ((aZ0 (a0 0) b0) 35)) (C := RX7) (T := TX7) (N := 4) hx hb hts hiX7_putAll_X7 hown hK hP 0 rfl rfl 3 (by decide) (hts _ lkX7_putAll_33) (fun _ h9 => h9) rfl dX7_putAll_87 ?_
      obtain ⟨S_9, hS_9, hv⟩ := qB hv
      refine m_VV (As := []) (rest := []) (C := RX2) (T0 := TX2) (N0 := 3) (ci := 1) (Wn := (fun _ : Unit => (wQ E (aZ0 (a0 0) b0) (sq Q0 1 S_9)))) (Wr := [(((aZ0 (a0 0) b0) 0), .inr (6, [.ref ((aZ0 (a0 0) b0) 1), .ref ((aZ0 (a0 0) b0) 6), .ref ((aZ0 (a0 0) b0) 26), .ref ((aZ0 (a0 0) b0) 35)])), (((aZ0 (a0 0) b0) 1), .inr (4, [.ref ((aZ0 (a0 0) b0) 3), .ref ((aZ0 (a0 0) b0) 2)])), aI E ((aZ0 (a0 0) b0) 2) 8192 ((Q0 0) 3), (((aZ0 (a0 0) b0) 3), .inr (2, [.ref ((aZ0 (a0 0) b0) 4), .ref ((aZ0 (a0 0) b0) 5), .int ((Q0 0) 2 0), .int ((Q0 0) 2 1), .int ((Q0 0) 2 2), .int ((Q0 0) 2 3)])), aI E ((aZ0 (a0 0) b0) 4) 50 ((Q0 0) 0), aI E ((aZ0 (a0 0) b0) 5) 12 ((Q0 0) 1), (((aZ0 (a0 0) b0) 6), .inr (0, [.ref ((aZ0 (a0 0) b0) 7), .int (Q0 2 0 0)])), aP E ((aZ0 (a0 0) b0) 7) 6 (fH ((aZ0 (a0 0) b0) 8) ((aZ0 (a0 0) b0) 11) ((aZ0 (a0 0) b0) 14) ((aZ0 (a0 0) b0) 17) ((aZ0 (a0 0) b0) 20) ((aZ0 (a0 0) b0) 23)), (((aZ0 (a0 0) b0) 8), .inr (2, [.ref ((aZ0 (a0 0) b0) 9), .ref ((aZ0 (a0 0) b0) 10), .int ((Q0 3) 2 0), .int ((Q0 3) 2 1), .int ((Q0 3) 2 2), .int ((Q0 3) 2 3)])), aI E ((aZ0 (a0 0) b0) 9) 50 ((Q0 3) 0), aI E ((aZ0 (a0 0) b0) 10) 12 ((Q0 3) 1), (((aZ0 (a0 0) b0) 11), .inr (2, [.ref ((aZ0 (a0 0) b0) 12), .ref ((aZ0 (a0 0) b0) 13), .int ((Q0 4) 2 0), .int ((Q0 4) 2 1), .int ((Q0 4) 2 2), .int ((Q0 4) 2 3)])), aI E ((aZ0 (a0 0) b0) 12) 50 ((Q0 4) 0), aI E ((aZ0 (a0 0) b0) 13) 12 ((Q0 4) 1), (((aZ0 (a0 0) b0) 14), .inr (2, [.ref ((aZ0 (a0 0) b0) 15), .ref ((aZ0 (a0 0) b0) 16), .int ((Q0 5) 2 0), .int ((Q0 5) 2 1), .int ((Q0 5) 2 2), .int ((Q0 5) 2 3)])), aI E ((aZ0 (a0 0) b0) 15) 50 ((Q0 5) 0), aI E ((aZ0 (a0 0) b0) 16) 12 ((Q0 5) 1), (((aZ0 (a0 0) b0) 17), .inr (2, [.ref ((aZ0 (a0 0) b0) 18), .ref ((aZ0 (a0 0) b0) 19), .int ((Q0 6) 2 0), .int ((Q0 6) 2 1), .int ((Q0 6) 2 2), .int ((Q0 6) 2 3)])), aI E ((aZ0 (a0 0) b0) 18) 50 ((Q0 6) 0), aI E ((aZ0 (a0 0) b0) 19) 12 ((Q0 6) 1), (((aZ0 (a0 0) b0) 20), .inr (2, [.ref ((aZ0 (a0 0) b0) 21), .ref ((aZ0 (a0 0) b0) 22), .int ((Q0 7) 2 0), .int ((Q0 7) 2 1), .int ((Q0 7) 2 2), .int ((Q0 7) 2 3)])), aI E ((aZ0 (a0 0) b0) 21) 50 ((Q0 7) 0), aI E ((aZ0 (a0 0) b0) 22) 12 ((Q0 7) 1), (((aZ0 (a0 0) b0) 23), .inr (2, [.ref ((aZ0 (a0 0) b0) 24), .ref ((aZ0 (a0 0) b0) 25), .int ((Q0 8) 2 0), .int ((Q0 8) 2 1), .int ((Q0 8) 2 2), .int ((Q0 8) 2 3)])), aI E ((aZ0 (a0 0) b0) 24) 50 ((Q0 8) 0), aI E ((aZ0 (a0 0) b0) 25) 12 ((Q0 8) 1), (((aZ0 (a0 0) b0) 26), .inr (3, [.ref ((aZ0 (a0 0) b0) 27), .ref ((aZ0 (a0 0) b0) 28)])), aP E ((aZ0 (a0 0) b0) 27) 2 (fS ((aZ0 (a0 0) b0) 29) ((aZ0 (a0 0) b0) 32)), aZ E ((aZ0 (a0 0) b0) 28) 2 (Q0 2 1), (((aZ0 (a0 0) b0) 29), .inr (2, [.ref ((aZ0 (a0 0) b0) 30), .ref ((aZ0 (a0 0) b0) 31), .int ((Q0 9) 2 0), .int ((Q0 9) 2 1), .int ((Q0 9) 2 2), .int ((Q0 9) 2 3)])), aI E ((aZ0 (a0 0) b0) 30) 50 ((Q0 9) 0), aI E ((aZ0 (a0 0) b0) 31) 12 ((Q0 9) 1), (((aZ0 (a0 0) b0) 32), .inr (2, [.ref ((aZ0 (a0 0) b0) 33), .ref ((aZ0 (a0 0) b0) 34), .int ((Q0 10) 2 0), .int ((Q0 10) 2 1), .int ((Q0 10) 2 2), .int ((Q0 10) 2 3)])), aI E ((aZ0 (a0 0) b0) 33) 50 ((Q0 10) 0), aI E ((aZ0 (a0 0) b0) 34) 12 ((Q0 10) 1)]) hx hb hml hown hts hl.1 (kX2_empty l D E ((aZ0 (a0 0) b0) 35) ((aZ0 (a0 0) b0) 36) ((aZ0 (a0 0) b0) 37) H.size hS_9) (cwV 0 hts gX7_putAll_X2_empty rfl rfl rfl (by decide +kernel) ⟨Nat.le_of_ble_eq_true rfl, Nat.le_of_ble_eq_true rfl⟩) 0 rfl rfl hP hD hS hA hK [35, 36, 37] [0, 1, 2, 3, 4, 5, 6, 7, 8, 9, 10, 11, 12, 13, 14, 15, 16, 17, 18, 19, 20, 21, 22, 23, 24, 25, 26, 27, 28, 29, 30, 31, 32, 33, 34] [0, 1, 2, 3, 4, 5, 6, 7, 8, 9, 10, 11, 12, 13, 14, 15, 16, 17, 18, 19, 20, 21, 22, 23, 24, 25, 26, 27, 28, 29, 30, 31, 32, 33, 34, 35, 36, 37] (by decide) rfl rfl (by decide) (by decide) (by decide) (fun _ => rfl) rfl rfl (Nat.le_of_ble_eq_true rfl) dX7_putAll_90 ⟨Nat.le_of_ble_eq_true rfl, Nat.le_of_ble_eq_true rfl⟩ (fun _ H locs hP hD hS => ?_)
      obtain ⟨Q0s_10, hQ0s_10, hv⟩ := qB hv
      obtain ⟨hP, hD⟩ := m_st (F := fun Z9 : Nat → FS => (wQ E (aZ0 (a0 0) b0) Z9)) (Option.some.inj hQ0s_10) hP hD
      refine lv_iload_n hx hb dX7_putAll_93 rfl (lv_at hl 2 rfl) ?_
      exact m_ret (F := (fun (Z9 : Nat → FS) => (fun u : Nat → Nat => (wQ E (aZ0 (a0 0) u) Z9)))) (fun i => (aZ0 (a0 0) b0) (i + 1)) C dX7_putAll_94 hv hP hD hS
    · have hv := qF c_41_k_8 hv
      refine lv_aload_n hx hb dX7_putAll_44 rfl (lv_at hl 0 rfl) ?_
      refine va_get (D := D) (ci := 6) (v := .ref ((aZ0 (a0 0) b0) 1)) (C := RX7) (T := TX7) (N := 4) hx hb hts hiX7_putAll_X7 hown hK hP 0 rfl rfl 0 (by decide) (hts _ lkX7_putAll_10) (fun _ h9 => h9) rfl dX7_putAll_45 ?_
      refine va_get (D := D) (ci := 4) (v := .ref ((aZ0 (a0 0) b0) 3)) (C := RX5) (T := TX5) (N := 2) hx hb hts hiX7_putAll_X5 hown hK hP 1 rfl rfl 0 (by decide) (hts _ lkX7_putAll_37) (fun _ h9 => h9) rfl dX7_putAll_48 ?_
      refine lv_aload_n hx hb dX7_putAll_51 rfl (lv_at hl 0 rfl) ?_
      refine va_get (D := D) (ci := 6) (v := .ref ((aZ0 (a0 0) b0) 35)) (C := RX7) (T := TX7) (N := 4) hx hb hts hiX7_putAll_X7 hown hK hP 0 rfl rfl 3 (by decide) (hts _ lkX7_putAll_33) (fun _ h9 => h9) rfl dX7_putAll_52 ?_
      refine lv_iload_n hx hb dX7_putAll_55 rfl (lv_at hl 2 rfl) ?_
      obtain ⟨r_11, hr_11, hv⟩ := qB hv
      refine q_V (As := [.int y2]) (rest := [.ref ((aZ0 (a0 0) b0) 3)]) (C := RX2) (T0 := TX2) (N0 := 3) (ci := 1) hx hb hml hown hts hl.1 (kX2_placeTold l D E ((aZ0 (a0 0) b0) 35) ((aZ0 (a0 0) b0) 36) ((aZ0 (a0 0) b0) 37) hr_11) zNo_mv (cwV 1 hts gX7_putAll_X2_placeTold rfl rfl rfl (by decide +kernel) ⟨Nat.le_of_ble_eq_true rfl, Nat.le_of_ble_eq_true rfl⟩) 0 rfl rfl (hP.sub (ws' := (wPad E ((aZ0 (a0 0) b0) 35) ((aZ0 (a0 0) b0) 36) ((aZ0 (a0 0) b0) 37) (Q0 1))) [35, 36, 37] rfl) hK trivial rfl rfl (Nat.le_of_ble_eq_true rfl) dX7_putAll_56 ⟨Nat.zero_le _, Nat.zero_le _⟩ ?_
      obtain ⟨r_12, hr_12, hv⟩ := qB hv
      refine q_V (As := [.int r_11]) (rest := []) (C := RX3) (T0 := TX3) (N0 := 6) (ci := 2) hx hb hml hown hts hl.1 (kX3_errorOfPointAt l D E ((aZ0 (a0 0) b0) 3) ((aZ0 (a0 0) b0) 4) ((aZ0 (a0 0) b0) 5) hr_12) zNo_mv (cwV 1 hts gX7_putAll_X3_errorOfPointAt rfl rfl rfl (by decide +kernel) ⟨Nat.le_of_ble_eq_true rfl, Nat.le_of_ble_eq_true rfl⟩) 0 rfl rfl (hP.sub (ws' := (wPlan E ((aZ0 (a0 0) b0) 3) ((aZ0 (a0 0) b0) 4) ((aZ0 (a0 0) b0) 5) (Q0 0))) [3, 4, 5] rfl) hK trivial rfl rfl (Nat.le_of_ble_eq_true rfl) dX7_putAll_59 ⟨Nat.zero_le _, Nat.zero_le _⟩ ?_
      refine lv_if_ne (tgt := 86) hx hb dX7_putAll_62 (by decide) (fun c_62_k_13 => ?_) (fun c_62_k_13 => ?_)
      · have hv := qF c_62_k_13 hv
        refine lv_aload_n hx hb dX7_putAll_86 rfl (lv_at hl 0 rfl) ?_
        refine va_get (D := D) (ci := 6) (v := .ref ((aZ0 (a0 0) b0) 35)) (C := RX7) (T := TX7) (N := 4) hx hb hts hiX7_putAll_X7 hown hK hP 0 rfl rfl 3 (by decide) (hts _ lkX7_putAll_33) (fun _ h9 => h9) rfl dX7_putAll_87 ?_
        obtain ⟨S_14, hS_14, hv⟩ := qB hv
        refine m_VV (As := []) (rest := []) (C := RX2) (T0 := TX2) (N0 := 3) (ci := 1) (Wn := (fun _ : Unit => (wQ E (aZ0 (a0 0) b0) (sq Q0 1 S_14)))) (Wr := [(((aZ0 (a0 0) b0) 0), .inr (6, [.ref ((aZ0 (a0 0) b0) 1), .ref ((aZ0 (a0 0) b0) 6), .ref ((aZ0 (a0 0) b0) 26), .ref ((aZ0 (a0 0) b0) 35)])), (((aZ0 (a0 0) b0) 1), .inr (4, [.ref ((aZ0 (a0 0) b0) 3), .ref ((aZ0 (a0 0) b0) 2)])), aI E ((aZ0 (a0 0) b0) 2) 8192 ((Q0 0) 3), (((aZ0 (a0 0) b0) 3), .inr (2, [.ref ((aZ0 (a0 0) b0) 4), .ref ((aZ0 (a0 0) b0) 5), .int ((Q0 0) 2 0), .int ((Q0 0) 2 1), .int ((Q0 0) 2 2), .int ((Q0 0) 2 3)])), aI E ((aZ0 (a0 0) b0) 4) 50 ((Q0 0) 0), aI E ((aZ0 (a0 0) b0) 5) 12 ((Q0 0) 1), (((aZ0 (a0 0) b0) 6), .inr (0, [.ref ((aZ0 (a0 0) b0) 7), .int (Q0 2 0 0)])), aP E ((aZ0 (a0 0) b0) 7) 6 (fH ((aZ0 (a0 0) b0) 8) ((aZ0 (a0 0) b0) 11) ((aZ0 (a0 0) b0) 14) ((aZ0 (a0 0) b0) 17) ((aZ0 (a0 0) b0) 20) ((aZ0 (a0 0) b0) 23)), (((aZ0 (a0 0) b0) 8), .inr (2, [.ref ((aZ0 (a0 0) b0) 9), .ref ((aZ0 (a0 0) b0) 10), .int ((Q0 3) 2 0), .int ((Q0 3) 2 1), .int ((Q0 3) 2 2), .int ((Q0 3) 2 3)])), aI E ((aZ0 (a0 0) b0) 9) 50 ((Q0 3) 0), aI E ((aZ0 (a0 0) b0) 10) 12 ((Q0 3) 1), (((aZ0 (a0 0) b0) 11), .inr (2, [.ref ((aZ0 (a0 0) b0) 12), .ref ((aZ0 (a0 0) b0) 13), .int ((Q0 4) 2 0), .int ((Q0 4) 2 1), .int ((Q0 4) 2 2), .int ((Q0 4) 2 3)])), aI E ((aZ0 (a0 0) b0) 12) 50 ((Q0 4) 0), aI E ((aZ0 (a0 0) b0) 13) 12 ((Q0 4) 1), (((aZ0 (a0 0) b0) 14), .inr (2, [.ref ((aZ0 (a0 0) b0) 15), .ref ((aZ0 (a0 0) b0) 16), .int ((Q0 5) 2 0), .int ((Q0 5) 2 1), .int ((Q0 5) 2 2), .int ((Q0 5) 2 3)])), aI E ((aZ0 (a0 0) b0) 15) 50 ((Q0 5) 0), aI E ((aZ0 (a0 0) b0) 16) 12 ((Q0 5) 1), (((aZ0 (a0 0) b0) 17), .inr (2, [.ref ((aZ0 (a0 0) b0) 18), .ref ((aZ0 (a0 0) b0) 19), .int ((Q0 6) 2 0), .int ((Q0 6) 2 1), .int ((Q0 6) 2 2), .int ((Q0 6) 2 3)])), aI E ((aZ0 (a0 0) b0) 18) 50 ((Q0 6) 0), aI E ((aZ0 (a0 0) b0) 19) 12 ((Q0 6) 1), (((aZ0 (a0 0) b0) 20), .inr (2, [.ref ((aZ0 (a0 0) b0) 21), .ref ((aZ0 (a0 0) b0) 22), .int ((Q0 7) 2 0), .int ((Q0 7) 2 1), .int ((Q0 7) 2 2), .int ((Q0 7) 2 3)])), aI E ((aZ0 (a0 0) b0) 21) 50 ((Q0 7) 0), aI E ((aZ0 (a0 0) b0) 22) 12 ((Q0 7) 1), (((aZ0 (a0 0) b0) 23), .inr (2, [.ref ((aZ0 (a0 0) b0) 24), .ref ((aZ0 (a0 0) b0) 25), .int ((Q0 8) 2 0), .int ((Q0 8) 2 1), .int ((Q0 8) 2 2), .int ((Q0 8) 2 3)])), aI E ((aZ0 (a0 0) b0) 24) 50 ((Q0 8) 0), aI E ((aZ0 (a0 0) b0) 25) 12 ((Q0 8) 1), (((aZ0 (a0 0) b0) 26), .inr (3, [.ref ((aZ0 (a0 0) b0) 27), .ref ((aZ0 (a0 0) b0) 28)])), aP E ((aZ0 (a0 0) b0) 27) 2 (fS ((aZ0 (a0 0) b0) 29) ((aZ0 (a0 0) b0) 32)), aZ E ((aZ0 (a0 0) b0) 28) 2 (Q0 2 1), (((aZ0 (a0 0) b0) 29), .inr (2, [.ref ((aZ0 (a0 0) b0) 30), .ref ((aZ0 (a0 0) b0) 31), .int ((Q0 9) 2 0), .int ((Q0 9) 2 1), .int ((Q0 9) 2 2), .int ((Q0 9) 2 3)])), aI E ((aZ0 (a0 0) b0) 30) 50 ((Q0 9) 0), aI E ((aZ0 (a0 0) b0) 31) 12 ((Q0 9) 1), (((aZ0 (a0 0) b0) 32), .inr (2, [.ref ((aZ0 (a0 0) b0) 33), .ref ((aZ0 (a0 0) b0) 34), .int ((Q0 10) 2 0), .int ((Q0 10) 2 1), .int ((Q0 10) 2 2), .int ((Q0 10) 2 3)])), aI E ((aZ0 (a0 0) b0) 33) 50 ((Q0 10) 0), aI E ((aZ0 (a0 0) b0) 34) 12 ((Q0 10) 1)]) hx hb hml hown hts hl.1 (kX2_empty l D E ((aZ0 (a0 0) b0) 35) ((aZ0 (a0 0) b0) 36) ((aZ0 (a0 0) b0) 37) H.size hS_14) (cwV 0 hts gX7_putAll_X2_empty rfl rfl rfl (by decide +kernel) ⟨Nat.le_of_ble_eq_true rfl, Nat.le_of_ble_eq_true rfl⟩) 0 rfl rfl hP hD hS hA hK [35, 36, 37] [0, 1, 2, 3, 4, 5, 6, 7, 8, 9, 10, 11, 12, 13, 14, 15, 16, 17, 18, 19, 20, 21, 22, 23, 24, 25, 26, 27, 28, 29, 30, 31, 32, 33, 34] [0, 1, 2, 3, 4, 5, 6, 7, 8, 9, 10, 11, 12, 13, 14, 15, 16, 17, 18, 19, 20, 21, 22, 23, 24, 25, 26, 27, 28, 29, 30, 31, 32, 33, 34, 35, 36, 37] (by decide) rfl rfl (by decide) (by decide) (by decide) (fun _ => rfl) rfl rfl (Nat.le_of_ble_eq_true rfl) dX7_putAll_90 ⟨Nat.le_of_ble_eq_true rfl, Nat.le_of_ble_eq_true rfl⟩ (fun _ H locs hP hD hS => ?_)
        obtain ⟨Q0s_15, hQ0s_15, hv⟩ := qB hv
        obtain ⟨hP, hD⟩ := m_st (F := fun Z9 : Nat → FS => (wQ E (aZ0 (a0 0) b0) Z9)) (Option.some.inj hQ0s_15) hP hD
        refine lv_iload_n hx hb dX7_putAll_93 rfl (lv_at hl 2 rfl) ?_
        exact m_ret (F := (fun (Z9 : Nat → FS) => (fun u : Nat → Nat => (wQ E (aZ0 (a0 0) u) Z9)))) (fun i => (aZ0 (a0 0) b0) (i + 1)) C dX7_putAll_94 hv hP hD hS
      · have hv := qT c_62_k_13 hv
        refine lv_aload_n hx hb dX7_putAll_65 rfl (lv_at hl 0 rfl) ?_
        refine va_get (D := D) (ci := 6) (v := .ref ((aZ0 (a0 0) b0) 1)) (C := RX7) (T := TX7) (N := 4) hx hb hts hiX7_putAll_X7 hown hK hP 0 rfl rfl 0 (by decide) (hts _ lkX7_putAll_10) (fun _ h9 => h9) rfl dX7_putAll_66 ?_
        refine lv_aload_n hx hb dX7_putAll_69 rfl (lv_at hl 0 rfl) ?_
        refine va_get (D := D) (ci := 6) (v := .ref ((aZ0 (a0 0) b0) 35)) (C := RX7) (T := TX7) (N := 4) hx hb hts hiX7_putAll_X7 hown hK hP 0 rfl rfl 3 (by decide) (hts _ lkX7_putAll_33) (fun _ h9 => h9) rfl dX7_putAll_70 ?_
        refine lv_iload_n hx hb dX7_putAll_73 rfl (lv_at hl 2 rfl) ?_
        obtain ⟨r_16, hr_16, hv⟩ := qB hv
        refine q_V (As := [.int y2]) (rest := [.ref ((aZ0 (a0 0) b0) 1)]) (C := RX2) (T0 := TX2) (N0 := 3) (ci := 1) hx hb hml hown hts hl.1 (kX2_placeTold l D E ((aZ0 (a0 0) b0) 35) ((aZ0 (a0 0) b0) 36) ((aZ0 (a0 0) b0) 37) hr_16) zNo_mv (cwV 1 hts gX7_putAll_X2_placeTold rfl rfl rfl (by decide +kernel) ⟨Nat.le_of_ble_eq_true rfl, Nat.le_of_ble_eq_true rfl⟩) 0 rfl rfl (hP.sub (ws' := (wPad E ((aZ0 (a0 0) b0) 35) ((aZ0 (a0 0) b0) 36) ((aZ0 (a0 0) b0) 37) (Q0 1))) [35, 36, 37] rfl) hK trivial rfl rfl (Nat.le_of_ble_eq_true rfl) dX7_putAll_74 ⟨Nat.zero_le _, Nat.zero_le _⟩ ?_
        obtain ⟨S_17, hS_17, hv⟩ := qB hv
        refine m_VV (As := [.int r_16]) (rest := []) (C := RX5) (T0 := TX5) (N0 := 2) (ci := 4) (Wn := (fun _ : Unit => (wQ E (aZ0 (a0 0) b0) (sq Q0 0 S_17)))) (Wr := [(((aZ0 (a0 0) b0) 0), .inr (6, [.ref ((aZ0 (a0 0) b0) 1), .ref ((aZ0 (a0 0) b0) 6), .ref ((aZ0 (a0 0) b0) 26), .ref ((aZ0 (a0 0) b0) 35)])), (((aZ0 (a0 0) b0) 6), .inr (0, [.ref ((aZ0 (a0 0) b0) 7), .int (Q0 2 0 0)])), aP E ((aZ0 (a0 0) b0) 7) 6 (fH ((aZ0 (a0 0) b0) 8) ((aZ0 (a0 0) b0) 11) ((aZ0 (a0 0) b0) 14) ((aZ0 (a0 0) b0) 17) ((aZ0 (a0 0) b0) 20) ((aZ0 (a0 0) b0) 23)), (((aZ0 (a0 0) b0) 8), .inr (2, [.ref ((aZ0 (a0 0) b0) 9), .ref ((aZ0 (a0 0) b0) 10), .int ((Q0 3) 2 0), .int ((Q0 3) 2 1), .int ((Q0 3) 2 2), .int ((Q0 3) 2 3)])), aI E ((aZ0 (a0 0) b0) 9) 50 ((Q0 3) 0), aI E ((aZ0 (a0 0) b0) 10) 12 ((Q0 3) 1), (((aZ0 (a0 0) b0) 11), .inr (2, [.ref ((aZ0 (a0 0) b0) 12), .ref ((aZ0 (a0 0) b0) 13), .int ((Q0 4) 2 0), .int ((Q0 4) 2 1), .int ((Q0 4) 2 2), .int ((Q0 4) 2 3)])), aI E ((aZ0 (a0 0) b0) 12) 50 ((Q0 4) 0), aI E ((aZ0 (a0 0) b0) 13) 12 ((Q0 4) 1), (((aZ0 (a0 0) b0) 14), .inr (2, [.ref ((aZ0 (a0 0) b0) 15), .ref ((aZ0 (a0 0) b0) 16), .int ((Q0 5) 2 0), .int ((Q0 5) 2 1), .int ((Q0 5) 2 2), .int ((Q0 5) 2 3)])), aI E ((aZ0 (a0 0) b0) 15) 50 ((Q0 5) 0), aI E ((aZ0 (a0 0) b0) 16) 12 ((Q0 5) 1), (((aZ0 (a0 0) b0) 17), .inr (2, [.ref ((aZ0 (a0 0) b0) 18), .ref ((aZ0 (a0 0) b0) 19), .int ((Q0 6) 2 0), .int ((Q0 6) 2 1), .int ((Q0 6) 2 2), .int ((Q0 6) 2 3)])), aI E ((aZ0 (a0 0) b0) 18) 50 ((Q0 6) 0), aI E ((aZ0 (a0 0) b0) 19) 12 ((Q0 6) 1), (((aZ0 (a0 0) b0) 20), .inr (2, [.ref ((aZ0 (a0 0) b0) 21), .ref ((aZ0 (a0 0) b0) 22), .int ((Q0 7) 2 0), .int ((Q0 7) 2 1), .int ((Q0 7) 2 2), .int ((Q0 7) 2 3)])), aI E ((aZ0 (a0 0) b0) 21) 50 ((Q0 7) 0), aI E ((aZ0 (a0 0) b0) 22) 12 ((Q0 7) 1), (((aZ0 (a0 0) b0) 23), .inr (2, [.ref ((aZ0 (a0 0) b0) 24), .ref ((aZ0 (a0 0) b0) 25), .int ((Q0 8) 2 0), .int ((Q0 8) 2 1), .int ((Q0 8) 2 2), .int ((Q0 8) 2 3)])), aI E ((aZ0 (a0 0) b0) 24) 50 ((Q0 8) 0), aI E ((aZ0 (a0 0) b0) 25) 12 ((Q0 8) 1), (((aZ0 (a0 0) b0) 26), .inr (3, [.ref ((aZ0 (a0 0) b0) 27), .ref ((aZ0 (a0 0) b0) 28)])), aP E ((aZ0 (a0 0) b0) 27) 2 (fS ((aZ0 (a0 0) b0) 29) ((aZ0 (a0 0) b0) 32)), aZ E ((aZ0 (a0 0) b0) 28) 2 (Q0 2 1), (((aZ0 (a0 0) b0) 29), .inr (2, [.ref ((aZ0 (a0 0) b0) 30), .ref ((aZ0 (a0 0) b0) 31), .int ((Q0 9) 2 0), .int ((Q0 9) 2 1), .int ((Q0 9) 2 2), .int ((Q0 9) 2 3)])), aI E ((aZ0 (a0 0) b0) 30) 50 ((Q0 9) 0), aI E ((aZ0 (a0 0) b0) 31) 12 ((Q0 9) 1), (((aZ0 (a0 0) b0) 32), .inr (2, [.ref ((aZ0 (a0 0) b0) 33), .ref ((aZ0 (a0 0) b0) 34), .int ((Q0 10) 2 0), .int ((Q0 10) 2 1), .int ((Q0 10) 2 2), .int ((Q0 10) 2 3)])), aI E ((aZ0 (a0 0) b0) 33) 50 ((Q0 10) 0), aI E ((aZ0 (a0 0) b0) 34) 12 ((Q0 10) 1), (((aZ0 (a0 0) b0) 35), .inr (1, [.ref ((aZ0 (a0 0) b0) 36), .ref ((aZ0 (a0 0) b0) 37), .int ((Q0 1) 2 0)])), aI E ((aZ0 (a0 0) b0) 36) 80 ((Q0 1) 0), aI E ((aZ0 (a0 0) b0) 37) 20 ((Q0 1) 1)]) hx hb hml hown hts hl.1 (kX5_addPoint l D E ((aZ0 (a0 0) b0) 1) ((aZ0 (a0 0) b0) 2) ((aZ0 (a0 0) b0) 3) ((aZ0 (a0 0) b0) 4) ((aZ0 (a0 0) b0) 5) H.size hS_17) (cwV 1 hts gX7_putAll_X5_addPoint rfl rfl rfl (by decide +kernel) ⟨Nat.le_of_ble_eq_true rfl, Nat.le_of_ble_eq_true rfl⟩) 0 rfl rfl hP hD hS hA hK [1, 2, 3, 4, 5] [0, 6, 7, 8, 9, 10, 11, 12, 13, 14, 15, 16, 17, 18, 19, 20, 21, 22, 23, 24, 25, 26, 27, 28, 29, 30, 31, 32, 33, 34, 35, 36, 37] [0, 33, 34, 35, 36, 37, 1, 2, 3, 4, 5, 6, 7, 8, 9, 10, 11, 12, 13, 14, 15, 16, 17, 18, 19, 20, 21, 22, 23, 24, 25, 26, 27, 28, 29, 30, 31, 32] (by decide) rfl rfl (by decide) (by decide) (by decide) (fun _ => rfl) rfl rfl (Nat.le_of_ble_eq_true rfl) dX7_putAll_77 ⟨Nat.le_of_ble_eq_true rfl, Nat.le_of_ble_eq_true rfl⟩ (fun _ H locs hP hD hS => ?_)
        obtain ⟨Q0s_18, hQ0s_18, hv⟩ := qB hv
        obtain ⟨hP, hD⟩ := m_st (F := fun Z9 : Nat → FS => (wQ E (aZ0 (a0 0) b0) Z9)) (Option.some.inj hQ0s_18) hP hD
        refine lv_iinc (v := (y2 + 1)) (lv' := [(2, .int (y2 + 1)), (0, .ref ((aZ0 (a0 0) b0) 0)), (1, .int y1)]) hx hb dX7_putAll_80 hl (k := 2) rfl (by rfl) (by decide) rfl (fun ls hl => ?_)
        refine lv_goto (tgt := 39) hx hb dX7_putAll_83 (by decide) ?_
        exact ih Q0s_18 (y2 + 1) hv (fun i => (aZ0 (a0 0) b0) (i + 1)) _ _ _ hP hD hS (lv_sub hl [1, 2, 0] rfl)

set_option maxRecDepth 100000 in
set_option maxHeartbeats 4000000 in
theorem kX7_putAll (l : Launch) (D : va_G) (E : Nat → ClassId) (a0 : Nat → Nat) {Q0 : Nat → FS} {v : Int32} {Q09 : Nat → FS} (sz : Nat) (hv : fX7_putAll Q0 = some (v, Q09)) : MI l yX7_putAll wsX7_putAll (rmN 4 85) D E ((wQ E a0 Q0)) sz [.ref (a0 0)] v (fun u : Nat → Nat => (wQ E (aZ0 (a0 0) u) Q09)) 0 0 := by
  refine MI.of (by decide) rfl (Nat.le_of_ble_eq_true rfl) ?_
  intro p e s m below meth c A H locs C hP hK hD hS hA ls hl
  have hl : lv_has ls 3 [(0, .ref (a0 0))] := hl
  obtain ⟨hx, hb, hr, hml, hown, hlocks, hts⟩ := id C
  unfold fX7_putAll at hv
  refine lv_aload_n hx hb dX7_putAll_0 rfl (lv_at hl 0 rfl) ?_
  refine va_get (D := D) (ci := 6) (v := .ref (a0 35)) (C := RX7) (T := TX7) (N := 4) hx hb hts hiX7_putAll_X7 hown hK hP 0 rfl rfl 3 (by decide) (hts _ lkX7_putAll_33) (fun _ h9 => h9) rfl dX7_putAll_1 ?_
  obtain ⟨r_1, hr_1, hv⟩ := qB hv
  refine q_V (As := []) (rest := []) (C := RX2) (T0 := TX2) (N0 := 3) (ci := 1) hx hb hml hown hts hl.1 (kX2_firstFault l D E (a0 35) (a0 36) (a0 37) hr_1) zNo_mv (cwV 0 hts gX7_putAll_X2_firstFault rfl rfl rfl (by decide +kernel) ⟨Nat.le_of_ble_eq_true rfl, Nat.le_of_ble_eq_true rfl⟩) 0 rfl rfl (hP.sub (ws' := (wPad E (a0 35) (a0 36) (a0 37) (Q0 1))) [35, 36, 37] rfl) hK trivial rfl rfl (Nat.le_of_ble_eq_true rfl) dX7_putAll_4 ⟨Nat.zero_le _, Nat.zero_le _⟩ ?_
  refine lv_bipush (v := -6) hx hb dX7_putAll_7 (by decide) ?_
  refine lv_icmp_eq (tgt := 15) hx hb dX7_putAll_9 (by decide) (fun c_9_k_2 => ?_) (fun c_9_k_2 => ?_)
  · have hv := qT c_9_k_2 hv
    refine lv_aload_n hx hb dX7_putAll_15 rfl (lv_at hl 0 rfl) ?_
    refine va_get (D := D) (ci := 6) (v := .ref (a0 6)) (C := RX7) (T := TX7) (N := 4) hx hb hts hiX7_putAll_X7 hown hK hP 0 rfl rfl 1 (by decide) (hts _ lkX7_putAll_19) (fun _ h9 => h9) rfl dX7_putAll_16 ?_
    refine lv_aload_n hx hb dX7_putAll_19 rfl (lv_at hl 0 rfl) ?_
    refine va_get (D := D) (ci := 6) (v := .ref (a0 1)) (C := RX7) (T := TX7) (N := 4) hx hb hts hiX7_putAll_X7 hown hK hP 0 rfl rfl 0 (by decide) (hts _ lkX7_putAll_10) (fun _ h9 => h9) rfl dX7_putAll_20 ?_
    refine va_get (D := D) (ci := 4) (v := .ref (a0 3)) (C := RX5) (T := TX5) (N := 2) hx hb hts hiX7_putAll_X5 hown hK hP 1 rfl rfl 0 (by decide) (hts _ lkX7_putAll_37) (fun _ h9 => h9) rfl dX7_putAll_23 ?_
    obtain ⟨S_3, hS_3, hv⟩ := qB hv
    refine m_VV (As := [.ref (a0 3)]) (rest := []) (C := RX0) (T0 := TX0) (N0 := 2) (ci := 0) (Wn := (fun u9 : Nat → Nat => (wQ E (aH a0 u9) (mgH Q0 S_3)))) (Wr := [((a0 0), .inr (6, [.ref (a0 1), .ref (a0 6), .ref (a0 26), .ref (a0 35)])), ((a0 1), .inr (4, [.ref (a0 3), .ref (a0 2)])), aI E (a0 2) 8192 ((Q0 0) 3), ((a0 26), .inr (3, [.ref (a0 27), .ref (a0 28)])), aP E (a0 27) 2 (fS (a0 29) (a0 32)), aZ E (a0 28) 2 (Q0 2 1), ((a0 29), .inr (2, [.ref (a0 30), .ref (a0 31), .int ((Q0 9) 2 0), .int ((Q0 9) 2 1), .int ((Q0 9) 2 2), .int ((Q0 9) 2 3)])), aI E (a0 30) 50 ((Q0 9) 0), aI E (a0 31) 12 ((Q0 9) 1), ((a0 32), .inr (2, [.ref (a0 33), .ref (a0 34), .int ((Q0 10) 2 0), .int ((Q0 10) 2 1), .int ((Q0 10) 2 2), .int ((Q0 10) 2 3)])), aI E (a0 33) 50 ((Q0 10) 0), aI E (a0 34) 12 ((Q0 10) 1), ((a0 35), .inr (1, [.ref (a0 36), .ref (a0 37), .int ((Q0 1) 2 0)])), aI E (a0 36) 80 ((Q0 1) 0), aI E (a0 37) 20 ((Q0 1) 1)]) hx hb hml hown hts hl.1 (kX0_remember l D E (a0 6) (a0 7) (a0 8) (a0 9) (a0 10) (a0 11) (a0 12) (a0 13) (a0 14) (a0 15) (a0 16) (a0 17) (a0 18) (a0 19) (a0 20) (a0 21) (a0 22) (a0 23) (a0 24) (a0 25) (a0 3) (a0 4) (a0 5) H.size hS_3) (cwV 1 hts gX7_putAll_X0_remember rfl rfl rfl (by decide +kernel) ⟨Nat.le_of_ble_eq_true rfl, Nat.le_of_ble_eq_true rfl⟩) 0 rfl rfl hP hD hS hA hK [6, 7, 8, 9, 10, 11, 12, 13, 14, 15, 16, 17, 18, 19, 20, 21, 22, 23, 24, 25, 3, 4, 5] [0, 1, 2, 26, 27, 28, 29, 30, 31, 32, 33, 34, 35, 36, 37] [0, 1, 2, 35, 36, 37, 15, 16, 17, 18, 19, 20, 21, 22, 23, 24, 25, 26, 27, 28, 29, 30, 31, 32, 33, 34, 3, 4, 5, 6, 7, 8, 9, 10, 11, 12, 13, 14] (by decide) rfl rfl (by decide) (by decide) (by decide) (fun _ => rfl) rfl rfl (Nat.le_of_ble_eq_true rfl) dX7_putAll_26 ⟨Nat.le_of_ble_eq_true rfl, Nat.le_of_ble_eq_true rfl⟩ (fun u9 H locs hP hD hS => ?_)
    obtain ⟨u_4, hu⟩ : ∃ x, x = u9 := ⟨_, rfl⟩
    rw [← hu] at hP hD
    clear hu
    obtain ⟨Q0s_5, hQ0s_5, hv⟩ := qB hv
    obtain ⟨hP, hD⟩ := m_st (F := fun Z9 : Nat → FS => (wQ E (aH a0 u_4) Z9)) (Option.some.inj hQ0s_5) hP hD
    refine lv_aload_n hx hb dX7_putAll_29 rfl (lv_at hl 0 rfl) ?_
    refine va_get (D := D) (ci := 6) (v := .ref ((aH a0 u_4) 35)) (C := RX7) (T := TX7) (N := 4) hx hb hts hiX7_putAll_X7 hown hK hP 0 rfl rfl 3 (by decide) (hts _ lkX7_putAll_33) (fun _ h9 => h9) rfl dX7_putAll_30 ?_
    obtain ⟨⟨rS_6, S_6⟩, hS_6, hv⟩ := qB hv
    try dsimp only at hv
    refine m_VI (As := []) (rest := []) (C := RX2) (T0 := TX2) (N0 := 3) (ci := 1) (Wn := (fun _ : Unit => (wQ E (aH a0 u_4) (sq Q0s_5 1 S_6)))) (Wr := [(((aH a0 u_4) 0), .inr (6, [.ref ((aH a0 u_4) 1), .ref ((aH a0 u_4) 6), .ref ((aH a0 u_4) 26), .ref ((aH a0 u_4) 35)])), (((aH a0 u_4) 1), .inr (4, [.ref ((aH a0 u_4) 3), .ref ((aH a0 u_4) 2)])), aI E ((aH a0 u_4) 2) 8192 ((Q0s_5 0) 3), (((aH a0 u_4) 3), .inr (2, [.ref ((aH a0 u_4) 4), .ref ((aH a0 u_4) 5), .int ((Q0s_5 0) 2 0), .int ((Q0s_5 0) 2 1), .int ((Q0s_5 0) 2 2), .int ((Q0s_5 0) 2 3)])), aI E ((aH a0 u_4) 4) 50 ((Q0s_5 0) 0), aI E ((aH a0 u_4) 5) 12 ((Q0s_5 0) 1), (((aH a0 u_4) 6), .inr (0, [.ref ((aH a0 u_4) 7), .int (Q0s_5 2 0 0)])), aP E ((aH a0 u_4) 7) 6 (fH ((aH a0 u_4) 8) ((aH a0 u_4) 11) ((aH a0 u_4) 14) ((aH a0 u_4) 17) ((aH a0 u_4) 20) ((aH a0 u_4) 23)), (((aH a0 u_4) 8), .inr (2, [.ref ((aH a0 u_4) 9), .ref ((aH a0 u_4) 10), .int ((Q0s_5 3) 2 0), .int ((Q0s_5 3) 2 1), .int ((Q0s_5 3) 2 2), .int ((Q0s_5 3) 2 3)])), aI E ((aH a0 u_4) 9) 50 ((Q0s_5 3) 0), aI E ((aH a0 u_4) 10) 12 ((Q0s_5 3) 1), (((aH a0 u_4) 11), .inr (2, [.ref ((aH a0 u_4) 12), .ref ((aH a0 u_4) 13), .int ((Q0s_5 4) 2 0), .int ((Q0s_5 4) 2 1), .int ((Q0s_5 4) 2 2), .int ((Q0s_5 4) 2 3)])), aI E ((aH a0 u_4) 12) 50 ((Q0s_5 4) 0), aI E ((aH a0 u_4) 13) 12 ((Q0s_5 4) 1), (((aH a0 u_4) 14), .inr (2, [.ref ((aH a0 u_4) 15), .ref ((aH a0 u_4) 16), .int ((Q0s_5 5) 2 0), .int ((Q0s_5 5) 2 1), .int ((Q0s_5 5) 2 2), .int ((Q0s_5 5) 2 3)])), aI E ((aH a0 u_4) 15) 50 ((Q0s_5 5) 0), aI E ((aH a0 u_4) 16) 12 ((Q0s_5 5) 1), (((aH a0 u_4) 17), .inr (2, [.ref ((aH a0 u_4) 18), .ref ((aH a0 u_4) 19), .int ((Q0s_5 6) 2 0), .int ((Q0s_5 6) 2 1), .int ((Q0s_5 6) 2 2), .int ((Q0s_5 6) 2 3)])), aI E ((aH a0 u_4) 18) 50 ((Q0s_5 6) 0), aI E ((aH a0 u_4) 19) 12 ((Q0s_5 6) 1), (((aH a0 u_4) 20), .inr (2, [.ref ((aH a0 u_4) 21), .ref ((aH a0 u_4) 22), .int ((Q0s_5 7) 2 0), .int ((Q0s_5 7) 2 1), .int ((Q0s_5 7) 2 2), .int ((Q0s_5 7) 2 3)])), aI E ((aH a0 u_4) 21) 50 ((Q0s_5 7) 0), aI E ((aH a0 u_4) 22) 12 ((Q0s_5 7) 1), (((aH a0 u_4) 23), .inr (2, [.ref ((aH a0 u_4) 24), .ref ((aH a0 u_4) 25), .int ((Q0s_5 8) 2 0), .int ((Q0s_5 8) 2 1), .int ((Q0s_5 8) 2 2), .int ((Q0s_5 8) 2 3)])), aI E ((aH a0 u_4) 24) 50 ((Q0s_5 8) 0), aI E ((aH a0 u_4) 25) 12 ((Q0s_5 8) 1), (((aH a0 u_4) 26), .inr (3, [.ref ((aH a0 u_4) 27), .ref ((aH a0 u_4) 28)])), aP E ((aH a0 u_4) 27) 2 (fS ((aH a0 u_4) 29) ((aH a0 u_4) 32)), aZ E ((aH a0 u_4) 28) 2 (Q0s_5 2 1), (((aH a0 u_4) 29), .inr (2, [.ref ((aH a0 u_4) 30), .ref ((aH a0 u_4) 31), .int ((Q0s_5 9) 2 0), .int ((Q0s_5 9) 2 1), .int ((Q0s_5 9) 2 2), .int ((Q0s_5 9) 2 3)])), aI E ((aH a0 u_4) 30) 50 ((Q0s_5 9) 0), aI E ((aH a0 u_4) 31) 12 ((Q0s_5 9) 1), (((aH a0 u_4) 32), .inr (2, [.ref ((aH a0 u_4) 33), .ref ((aH a0 u_4) 34), .int ((Q0s_5 10) 2 0), .int ((Q0s_5 10) 2 1), .int ((Q0s_5 10) 2 2), .int ((Q0s_5 10) 2 3)])), aI E ((aH a0 u_4) 33) 50 ((Q0s_5 10) 0), aI E ((aH a0 u_4) 34) 12 ((Q0s_5 10) 1)]) hx hb hml hown hts hl.1 (kX2_readPlaces l D E ((aH a0 u_4) 35) ((aH a0 u_4) 36) ((aH a0 u_4) 37) H.size hS_6) (cwV 0 hts gX7_putAll_X2_readPlaces rfl rfl rfl (by decide +kernel) ⟨Nat.le_of_ble_eq_true rfl, Nat.le_of_ble_eq_true rfl⟩) 0 rfl rfl hP hD hS hA hK [35, 36, 37] [0, 1, 2, 3, 4, 5, 6, 7, 8, 9, 10, 11, 12, 13, 14, 15, 16, 17, 18, 19, 20, 21, 22, 23, 24, 25, 26, 27, 28, 29, 30, 31, 32, 33, 34] [0, 1, 2, 3, 4, 5, 6, 7, 8, 9, 10, 11, 12, 13, 14, 15, 16, 17, 18, 19, 20, 21, 22, 23, 24, 25, 26, 27, 28, 29, 30, 31, 32, 33, 34, 35, 36, 37] (by decide) rfl rfl (by decide) (by decide) (by decide) (fun _ => rfl) rfl rfl (Nat.le_of_ble_eq_true rfl) dX7_putAll_33 ⟨Nat.le_of_ble_eq_true rfl, Nat.le_of_ble_eq_true rfl⟩ (fun _ H locs hP hD hS => ?_)
    obtain ⟨Q0s_7, hQ0s_7, hv⟩ := qB hv
    obtain ⟨hP, hD⟩ := m_st (F := fun Z9 : Nat → FS => (wQ E (aH a0 u_4) Z9)) (Option.some.inj hQ0s_7) hP hD
    refine lv_istore_n (lv' := [(1, .int rS_6), (0, .ref (a0 0))]) hx hb dX7_putAll_36 rfl hl (by decide) rfl (fun ls hl => ?_)
    refine lv_iconst (v := 0) hx hb dX7_putAll_37 (by decide) ?_
    refine lv_istore_n (lv' := [(2, .int (0:Int32)), (1, .int rS_6), (0, .ref (a0 0))]) hx hb dX7_putAll_38 rfl hl (by decide) rfl (fun ls hl => ?_)
    exact wfX7_putAll_L39 C hK hA  6000 Q0s_7 (0:Int32) hv (fun i => (aH a0 u_4) (i + 1)) _ _ _ hP hD hS (lv_sub hl [2, 1, 0] rfl)
  · have hv := qF c_9_k_2 hv
    refine lv_bipush (v := -3) hx hb dX7_putAll_12 (by decide) ?_
    exact m_ret (F := (fun (Z9 : Nat → FS) => (fun u : Nat → Nat => (wQ E (aZ0 (a0 0) u) Z9)))) (fun i => a0 (i + 1)) C dX7_putAll_14 hv hP hD hS

theorem lkX7_ifPut_10 : (.fieldLink RX7 10 "QuarterTiles" "tree" "LQuarterTiles$Tree;" : Cond) ∈ wsX7_ifPut := by decide +kernel
theorem hiX7_ifPut_X7 : ∀ w ∈ wsX70, w ∈ wsX7_ifPut := by decide +kernel
theorem lkX7_ifPut_37 : (.fieldLink RX7 37 "QuarterTiles$Tree" "plan" "LQuarterTiles$Plan;" : Cond) ∈ wsX7_ifPut := by decide +kernel
theorem hiX7_ifPut_X5 : ∀ w ∈ wsX50, w ∈ wsX7_ifPut := by decide +kernel
set_option maxRecDepth 100000 in
set_option maxHeartbeats 4000000 in
theorem wfX7_ifPut_L22 {p : Program} {e : Env} {s : State} {m : MethodId} {below : List Frame} {meth : Method} {c : Code} {l : Launch} {D : va_G} {E : Nat → ClassId} {a0 : Nat → Nat} {x1 : Int32} {x2 : Int32} {x3 : Int32} {v : Int32} {Q09 : Nat → FS} {A : Nat → Prop} (C : Ctx p s m meth c [.ref (a0 0), .int x1, .int x2, .int x3] wsX7_ifPut cX7_ifPut 6 (some .int) RX7) (hK : va_K D vwCl (tyE E) s) (hA : ∀ q : Nat, s.heap.size ≤ q → A q) : ∀ (Q0 : Nat → FS) (y1 : Int32) (y2 : Int32) (y3 : Int32), fX7_ifPut_L22 Q0 y1 y2 y3 = some (v, Q09) → ∀ (H : Heap) (locs : List Loc) (ls : Array Slot), va_P D vwCl ((wQ E a0 Q0)) H → va_D A ((wQ E a0 Q0)) → va_S A s.heap H locs → lv_has ls 6 [(0, .ref (a0 0)), (1, .int y1), (2, .int y2), (3, .int y3)] → WI p l e (rmN 14 323) s m [.ref (a0 0), .int x1, .int x2, .int x3] below meth c D A v (fun _ : Unit => (wQ E a0 Q09)) 0 0 H locs 0 0 22 ls [] := by
  obtain ⟨hx, hb, hr, hml, hown, hlocks, hts⟩ := id C
  intro Q0 y1 y2 y3 hv H locs ls hP hD hS hl
  unfold fX7_ifPut_L22 at hv
  refine lv_iload_n hx hb dX7_ifPut_22 rfl (lv_at hl 1 rfl) ?_
  refine lv_iload_n hx hb dX7_ifPut_23 rfl (lv_at hl 2 rfl) ?_
  obtain ⟨r_4, hr_4, hv⟩ := qB hv
  refine q_S (As := [.int y1, .int y2]) (rest := []) hx hb hml hown hts hl.1 (kX1_placeAt l D E  hr_4) zNo_mv (va_cwS 2 hts gX7_ifPut_X1_placeAt rfl rfl rfl (by decide +kernel) ⟨Nat.le_of_ble_eq_true rfl, Nat.le_of_ble_eq_true rfl⟩) (hP.sub (ws' := []) [] rfl) hK trivial rfl rfl (Nat.le_of_ble_eq_true rfl) dX7_ifPut_24 ⟨Nat.zero_le _, Nat.zero_le _⟩ ?_
  refine lv_istore (lv' := [(4, .int r_4), (0, .ref (a0 0)), (1, .int y1), (2, .int y2), (3, .int y3)]) hx hb dX7_ifPut_27 hl (by decide) rfl (fun ls hl => ?_)
  refine lv_aload_n hx hb dX7_ifPut_29 rfl (lv_at hl 1 rfl) ?_
  refine va_get (D := D) (ci := 6) (v := .ref (a0 1)) (C := RX7) (T := TX7) (N := 4) hx hb hts hiX7_ifPut_X7 hown hK hP 0 rfl rfl 0 (by decide) (hts _ lkX7_ifPut_10) (fun _ h9 => h9) rfl dX7_ifPut_30 ?_
  refine va_get (D := D) (ci := 4) (v := .ref (a0 3)) (C := RX5) (T := TX5) (N := 2) hx hb hts hiX7_ifPut_X5 hown hK hP 1 rfl rfl 0 (by decide) (hts _ lkX7_ifPut_37) (fun _ h9 => h9) rfl dX7_ifPut_33 ?_
  refine lv_iload hx hb dX7_ifPut_36 (lv_at hl 0 rfl) ?_
  obtain ⟨r_5, hr_5, hv⟩ := qB hv
  refine q_V (As := [.int r_4]) (rest := []) (C := RX3) (T0 := TX3) (N0 := 6) (ci := 2) hx hb hml hown hts hl.1 (kX3_errorOfPointAt l D E (a0 3) (a0 4) (a0 5) hr_5) zNo_mv (cwV 1 hts gX7_ifPut_X3_errorOfPointAt rfl rfl rfl (by decide +kernel) ⟨Nat.le_of_ble_eq_true rfl, Nat.le_of_ble_eq_true rfl⟩) 0 rfl rfl (hP.sub (ws' := (wPlan E (a0 3) (a0 4) (a0 5) (Q0 0))) [3, 4, 5] rfl) hK trivial rfl rfl (Nat.le_of_ble_eq_true rfl) dX7_ifPut_38 ⟨Nat.zero_le _, Nat.zero_le _⟩ ?_
  refine lv_istore (lv' := [(5, .int r_5), (4, .int r_4), (0, .ref (a0 0)), (1, .int y1), (2, .int y2), (3, .int y3)]) hx hb dX7_ifPut_41 hl (by decide) rfl (fun ls hl => ?_)
  refine lv_iload hx hb dX7_ifPut_43 (lv_at hl 0 rfl) ?_
  refine lv_if_eq (tgt := 51) hx hb dX7_ifPut_45 (by decide) (fun c_45_k_6 => ?_) (fun c_45_k_6 => ?_)
  · have hv := qT c_45_k_6 hv
    refine lv_iload_n hx hb dX7_ifPut_51 rfl (lv_at hl 5 rfl) ?_
    refine lv_if_ne (tgt := 67) hx hb dX7_ifPut_52 (by decide) (fun c_52_k_7 => ?_) (fun c_52_k_7 => ?_)
    · have hv := qF c_52_k_7 hv
      refine lv_aload_n hx hb dX7_ifPut_67 rfl (lv_at hl 2 rfl) ?_
      refine va_get (D := D) (ci := 6) (v := .ref (a0 1)) (C := RX7) (T := TX7) (N := 4) hx hb hts hiX7_ifPut_X7 hown hK hP 0 rfl rfl 0 (by decide) (hts _ lkX7_ifPut_10) (fun _ h9 => h9) rfl dX7_ifPut_68 ?_
      refine lv_iload hx hb dX7_ifPut_71 (lv_at hl 1 rfl) ?_
      obtain ⟨⟨rS_8, S_8⟩, hS_8, hv⟩ := qB hv
      try dsimp only at hv
      refine m_VI (As := [.int r_4]) (rest := []) (C := RX5) (T0 := TX5) (N0 := 2) (ci := 4) (Wn := (fun _ : Unit => (wQ E a0 (sq Q0 0 S_8)))) (Wr := [((a0 0), .inr (6, [.ref (a0 1), .ref (a0 6), .ref (a0 26), .ref (a0 35)])), ((a0 6), .inr (0, [.ref (a0 7), .int (Q0 2 0 0)])), aP E (a0 7) 6 (fH (a0 8) (a0 11) (a0 14) (a0 17) (a0 20) (a0 23)), ((a0 8), .inr (2, [.ref (a0 9), .ref (a0 10), .int ((Q0 3) 2 0), .int ((Q0 3) 2 1), .int ((Q0 3) 2 2), .int ((Q0 3) 2 3)])), aI E (a0 9) 50 ((Q0 3) 0), aI E (a0 10) 12 ((Q0 3) 1), ((a0 11), .inr (2, [.ref (a0 12), .ref (a0 13), .int ((Q0 4) 2 0), .int ((Q0 4) 2 1), .int ((Q0 4) 2 2), .int ((Q0 4) 2 3)])), aI E (a0 12) 50 ((Q0 4) 0), aI E (a0 13) 12 ((Q0 4) 1), ((a0 14), .inr (2, [.ref (a0 15), .ref (a0 16), .int ((Q0 5) 2 0), .int ((Q0 5) 2 1), .int ((Q0 5) 2 2), .int ((Q0 5) 2 3)])), aI E (a0 15) 50 ((Q0 5) 0), aI E (a0 16) 12 ((Q0 5) 1), ((a0 17), .inr (2, [.ref (a0 18), .ref (a0 19), .int ((Q0 6) 2 0), .int ((Q0 6) 2 1), .int ((Q0 6) 2 2), .int ((Q0 6) 2 3)])), aI E (a0 18) 50 ((Q0 6) 0), aI E (a0 19) 12 ((Q0 6) 1), ((a0 20), .inr (2, [.ref (a0 21), .ref (a0 22), .int ((Q0 7) 2 0), .int ((Q0 7) 2 1), .int ((Q0 7) 2 2), .int ((Q0 7) 2 3)])), aI E (a0 21) 50 ((Q0 7) 0), aI E (a0 22) 12 ((Q0 7) 1), ((a0 23), .inr (2, [.ref (a0 24), .ref (a0 25), .int ((Q0 8) 2 0), .int ((Q0 8) 2 1), .int ((Q0 8) 2 2), .int ((Q0 8) 2 3)])), aI E (a0 24) 50 ((Q0 8) 0), aI E (a0 25) 12 ((Q0 8) 1), ((a0 26), .inr (3, [.ref (a0 27), .ref (a0 28)])), aP E (a0 27) 2 (fS (a0 29) (a0 32)), aZ E (a0 28) 2 (Q0 2 1), ((a0 29), .inr (2, [.ref (a0 30), .ref (a0 31), .int ((Q0 9) 2 0), .int ((Q0 9) 2 1), .int ((Q0 9) 2 2), .int ((Q0 9) 2 3)])), aI E (a0 30) 50 ((Q0 9) 0), aI E (a0 31) 12 ((Q0 9) 1), ((a0 32), .inr (2, [.ref (a0 33), .ref (a0 34), .int ((Q0 10) 2 0), .int ((Q0 10) 2 1), .int ((Q0 10) 2 2), .int ((Q0 10) 2 3)])), aI E (a0 33) 50 ((Q0 10) 0), aI E (a0 34) 12 ((Q0 10) 1), ((a0 35), .inr (1, [.ref (a0 36), .ref (a0 37), .int ((Q0 1) 2 0)])), aI E (a0 36) 80 ((Q0 1) 0), aI E (a0 37) 20 ((Q0 1) 1)]) hx hb hml hown hts hl.1 (kX5_depthIfPut l D E (a0 1) (a0 2) (a0 3) (a0 4) (a0 5) H.size hS_8) (cwV 1 hts gX7_ifPut_X5_depthIfPut rfl rfl rfl (by decide +kernel) ⟨Nat.le_of_ble_eq_true rfl, Nat.le_of_ble_eq_true rfl⟩) 0 rfl rfl hP hD hS hA hK [1, 2, 3, 4, 5] [0, 6, 7, 8, 9, 10, 11, 12, 13, 14, 15, 16, 17, 18, 19, 20, 21, 22, 23, 24, 25, 26, 27, 28, 29, 30, 31, 32, 33, 34, 35, 36, 37] [0, 33, 34, 35, 36, 37, 1, 2, 3, 4, 5, 6, 7, 8, 9, 10, 11, 12, 13, 14, 15, 16, 17, 18, 19, 20, 21, 22, 23, 24, 25, 26, 27, 28, 29, 30, 31, 32] (by decide) rfl rfl (by decide) (by decide) (by decide) (fun _ => rfl) rfl rfl (Nat.le_of_ble_eq_true rfl) dX7_ifPut_73 ⟨Nat.le_of_ble_eq_true rfl, Nat.le_of_ble_eq_true rfl⟩ (fun _ H locs hP hD hS => ?_)
      obtain ⟨Q0s_9, hQ0s_9, hv⟩ := qB hv
      obtain ⟨hP, hD⟩ := m_st (F := fun Z9 : Nat → FS => (wQ E a0 Z9)) (Option.some.inj hQ0s_9) hP hD
      exact m_ret (F := (fun (Z9 : Nat → FS) => (fun _ : Unit => (wQ E a0 Z9)))) () C dX7_ifPut_76 hv hP hD hS
    · have hv := qT c_52_k_7 hv
      refine lv_aload_n hx hb dX7_ifPut_55 rfl (lv_at hl 2 rfl) ?_
      refine va_get (D := D) (ci := 6) (v := .ref (a0 1)) (C := RX7) (T := TX7) (N := 4) hx hb hts hiX7_ifPut_X7 hown hK hP 0 rfl rfl 0 (by decide) (hts _ lkX7_ifPut_10) (fun _ h9 => h9) rfl dX7_ifPut_56 ?_
      refine lv_iload hx hb dX7_ifPut_59 (lv_at hl 1 rfl) ?_
      obtain ⟨⟨rS_10, S_10⟩, hS_10, hv⟩ := qB hv
      try dsimp only at hv
      refine m_VI (As := [.int r_4]) (rest := []) (C := RX5) (T0 := TX5) (N0 := 2) (ci := 4) (Wn := (fun _ : Unit => (wQ E a0 (sq Q0 0 S_10)))) (Wr := [((a0 0), .inr (6, [.ref (a0 1), .ref (a0 6), .ref (a0 26), .ref (a0 35)])), ((a0 6), .inr (0, [.ref (a0 7), .int (Q0 2 0 0)])), aP E (a0 7) 6 (fH (a0 8) (a0 11) (a0 14) (a0 17) (a0 20) (a0 23)), ((a0 8), .inr (2, [.ref (a0 9), .ref (a0 10), .int ((Q0 3) 2 0), .int ((Q0 3) 2 1), .int ((Q0 3) 2 2), .int ((Q0 3) 2 3)])), aI E (a0 9) 50 ((Q0 3) 0), aI E (a0 10) 12 ((Q0 3) 1), ((a0 11), .inr (2, [.ref (a0 12), .ref (a0 13), .int ((Q0 4) 2 0), .int ((Q0 4) 2 1), .int ((Q0 4) 2 2), .int ((Q0 4) 2 3)])), aI E (a0 12) 50 ((Q0 4) 0), aI E (a0 13) 12 ((Q0 4) 1), ((a0 14), .inr (2, [.ref (a0 15), .ref (a0 16), .int ((Q0 5) 2 0), .int ((Q0 5) 2 1), .int ((Q0 5) 2 2), .int ((Q0 5) 2 3)])), aI E (a0 15) 50 ((Q0 5) 0), aI E (a0 16) 12 ((Q0 5) 1), ((a0 17), .inr (2, [.ref (a0 18), .ref (a0 19), .int ((Q0 6) 2 0), .int ((Q0 6) 2 1), .int ((Q0 6) 2 2), .int ((Q0 6) 2 3)])), aI E (a0 18) 50 ((Q0 6) 0), aI E (a0 19) 12 ((Q0 6) 1), ((a0 20), .inr (2, [.ref (a0 21), .ref (a0 22), .int ((Q0 7) 2 0), .int ((Q0 7) 2 1), .int ((Q0 7) 2 2), .int ((Q0 7) 2 3)])), aI E (a0 21) 50 ((Q0 7) 0), aI E (a0 22) 12 ((Q0 7) 1), ((a0 23), .inr (2, [.ref (a0 24), .ref (a0 25), .int ((Q0 8) 2 0), .int ((Q0 8) 2 1), .int ((Q0 8) 2 2), .int ((Q0 8) 2 3)])), aI E (a0 24) 50 ((Q0 8) 0), aI E (a0 25) 12 ((Q0 8) 1), ((a0 26), .inr (3, [.ref (a0 27), .ref (a0 28)])), aP E (a0 27) 2 (fS (a0 29) (a0 32)), aZ E (a0 28) 2 (Q0 2 1), ((a0 29), .inr (2, [.ref (a0 30), .ref (a0 31), .int ((Q0 9) 2 0), .int ((Q0 9) 2 1), .int ((Q0 9) 2 2), .int ((Q0 9) 2 3)])), aI E (a0 30) 50 ((Q0 9) 0), aI E (a0 31) 12 ((Q0 9) 1), ((a0 32), .inr (2, [.ref (a0 33), .ref (a0 34), .int ((Q0 10) 2 0), .int ((Q0 10) 2 1), .int ((Q0 10) 2 2), .int ((Q0 10) 2 3)])), aI E (a0 33) 50 ((Q0 10) 0), aI E (a0 34) 12 ((Q0 10) 1), ((a0 35), .inr (1, [.ref (a0 36), .ref (a0 37), .int ((Q0 1) 2 0)])), aI E (a0 36) 80 ((Q0 1) 0), aI E (a0 37) 20 ((Q0 1) 1)]) hx hb hml hown hts hl.1 (kX5_leavesIfPut l D E (a0 1) (a0 2) (a0 3) (a0 4) (a0 5) H.size hS_10) (cwV 1 hts gX7_ifPut_X5_leavesIfPut rfl rfl rfl (by decide +kernel) ⟨Nat.le_of_ble_eq_true rfl, Nat.le_of_ble_eq_true rfl⟩) 0 rfl rfl hP hD hS hA hK [1, 2, 3, 4, 5] [0, 6, 7, 8, 9, 10, 11, 12, 13, 14, 15, 16, 17, 18, 19, 20, 21, 22, 23, 24, 25, 26, 27, 28, 29, 30, 31, 32, 33, 34, 35, 36, 37] [0, 33, 34, 35, 36, 37, 1, 2, 3, 4, 5, 6, 7, 8, 9, 10, 11, 12, 13, 14, 15, 16, 17, 18, 19, 20, 21, 22, 23, 24, 25, 26, 27, 28, 29, 30, 31, 32] (by decide) rfl rfl (by decide) (by decide) (by decide) (fun _ => rfl) rfl rfl (Nat.le_of_ble_eq_true rfl) dX7_ifPut_61 ⟨Nat.le_of_ble_eq_true rfl, Nat.le_of_ble_eq_true rfl⟩ (fun _ H locs hP hD hS => ?_)
      obtain ⟨Q0s_11, hQ0s_11, hv⟩ := qB hv
      obtain ⟨hP, hD⟩ := m_st (F := fun Z9 : Nat → FS => (wQ E a0 Z9)) (Option.some.inj hQ0s_11) hP hD
      refine lv_goto (tgt := 76) hx hb dX7_ifPut_64 (by decide) ?_
      exact m_ret (F := (fun (Z9 : Nat → FS) => (fun _ : Unit => (wQ E a0 Z9)))) () C dX7_ifPut_76 hv hP hD hS
  · have hv := qF c_45_k_6 hv
    refine lv_iload hx hb dX7_ifPut_48 (lv_at hl 0 rfl) ?_
    exact m_ret (F := (fun (Z9 : Nat → FS) => (fun _ : Unit => (wQ E a0 Z9)))) () C dX7_ifPut_50 hv hP hD hS

set_option maxRecDepth 100000 in
set_option maxHeartbeats 4000000 in
theorem kX7_ifPut (l : Launch) (D : va_G) (E : Nat → ClassId) (a0 : Nat → Nat) {Q0 : Nat → FS} {x1 : Int32} {x2 : Int32} {x3 : Int32} {v : Int32} {Q09 : Nat → FS} (sz : Nat) (hv : fX7_ifPut Q0 x1 x2 x3 = some (v, Q09)) : MI l yX7_ifPut wsX7_ifPut (rmN 14 323) D E ((wQ E a0 Q0)) sz [.ref (a0 0), .int x1, .int x2, .int x3] v (fun _ : Unit => (wQ E a0 Q09)) 0 0 := by
  refine MI.of (by decide) rfl (Nat.le_of_ble_eq_true rfl) ?_
  intro p e s m below meth c A H locs C hP hK hD hS hA ls hl
  have hl : lv_has ls 6 [(0, .ref (a0 0)), (1, .int x1), (2, .int x2), (3, .int x3)] := hl
  obtain ⟨hx, hb, hr, hml, hown, hlocks, hts⟩ := id C
  unfold fX7_ifPut at hv
  refine lv_iload_n hx hb dX7_ifPut_0 rfl (lv_at hl 1 rfl) ?_
  refine lv_iload_n hx hb dX7_ifPut_1 rfl (lv_at hl 2 rfl) ?_
  obtain ⟨r_1, hr_1, hv⟩ := qB hv
  refine q_S (As := [.int x1, .int x2]) (rest := []) hx hb hml hown hts hl.1 (kX1_isPlace l D E  hr_1) zNo_mv (va_cwS 2 hts gX7_ifPut_X1_isPlace rfl rfl rfl (by decide +kernel) ⟨Nat.le_of_ble_eq_true rfl, Nat.le_of_ble_eq_true rfl⟩) (hP.sub (ws' := []) [] rfl) hK trivial rfl rfl (Nat.le_of_ble_eq_true rfl) dX7_ifPut_2 ⟨Nat.zero_le _, Nat.zero_le _⟩ ?_
  refine lv_if_ne (tgt := 10) hx hb dX7_ifPut_5 (by decide) (fun c_5_k_2 => ?_) (fun c_5_k_2 => ?_)
  · have hv := qF c_5_k_2 hv
    refine lv_iload_n hx hb dX7_ifPut_10 rfl (lv_at hl 3 rfl) ?_
    refine lv_if_eq (tgt := 22) hx hb dX7_ifPut_11 (by decide) (fun c_11_k_3 => ?_) (fun c_11_k_3 => ?_)
    · have hv := qT c_11_k_3 hv
      exact wfX7_ifPut_L22 C hK hA  Q0 x1 x2 x3 hv _ _ _ hP hD hS (lv_sub hl [0, 1, 2, 3] rfl)
    · have hv := qF c_11_k_3 hv
      refine lv_iload_n hx hb dX7_ifPut_14 rfl (lv_at hl 3 rfl) ?_
      refine lv_iconst (v := 1) hx hb dX7_ifPut_15 (by decide) ?_
      refine lv_icmp_eq (tgt := 22) hx hb dX7_ifPut_16 (by decide) (fun c_16_k_12 => ?_) (fun c_16_k_12 => ?_)
      · have hv := qT c_16_k_12 hv
        exact wfX7_ifPut_L22 C hK hA  Q0 x1 x2 x3 hv _ _ _ hP hD hS (lv_sub hl [0, 1, 2, 3] rfl)
      · have hv := qF c_16_k_12 hv
        refine lv_bipush (v := -2) hx hb dX7_ifPut_19 (by decide) ?_
        exact m_ret (F := (fun (Z9 : Nat → FS) => (fun _ : Unit => (wQ E a0 Z9)))) () C dX7_ifPut_21 hv hP hD hS
  · have hv := qT c_5_k_2 hv
    refine lv_iconst (v := -1) hx hb dX7_ifPut_8 (by decide) ?_
    exact m_ret (F := (fun (Z9 : Nat → FS) => (fun _ : Unit => (wQ E a0 Z9)))) () C dX7_ifPut_9 hv hP hD hS

theorem lkX7_leastFull_10 : (.fieldLink RX7 10 "QuarterTiles" "tree" "LQuarterTiles$Tree;" : Cond) ∈ wsX7_leastFull := by decide +kernel
theorem hiX7_leastFull_X7 : ∀ w ∈ wsX70, w ∈ wsX7_leastFull := by decide +kernel
set_option maxRecDepth 100000 in
set_option maxHeartbeats 4000000 in
theorem kX7_leastFull (l : Launch) (D : va_G) (E : Nat → ClassId) (a0 : Nat → Nat) {Q0 : Nat → FS} {x1 : Int32} {v : Int32} {Q09 : Nat → FS} (sz : Nat) (hv : fX7_leastFull Q0 x1 = some (v, Q09)) : MI l yX7_leastFull wsX7_leastFull (rmN 14 325) D E ((wQ E a0 Q0)) sz [.ref (a0 0), .int x1] v (fun _ : Unit => (wQ E a0 Q09)) 0 0 := by
  refine MI.of (by decide) rfl (Nat.le_of_ble_eq_true rfl) ?_
  intro p e s m below meth c A H locs C hP hK hD hS hA ls hl
  have hl : lv_has ls 2 [(0, .ref (a0 0)), (1, .int x1)] := hl
  obtain ⟨hx, hb, hr, hml, hown, hlocks, hts⟩ := id C
  unfold fX7_leastFull at hv
  refine lv_iload_n hx hb dX7_leastFull_0 rfl (lv_at hl 1 rfl) ?_
  refine lv_iconst (v := 1) hx hb dX7_leastFull_1 (by decide) ?_
  refine lv_icmp_lt (tgt := 12) hx hb dX7_leastFull_2 (by decide) (fun c_2_k_1 => ?_) (fun c_2_k_1 => ?_)
  · have hv := qT c_2_k_1 hv
    refine lv_bipush (v := -2) hx hb dX7_leastFull_12 (by decide) ?_
    exact m_ret (F := (fun (Z9 : Nat → FS) => (fun _ : Unit => (wQ E a0 Z9)))) () C dX7_leastFull_14 hv hP hD hS
  · have hv := qF c_2_k_1 hv
    refine lv_iload_n hx hb dX7_leastFull_5 rfl (lv_at hl 1 rfl) ?_
    refine lv_sipush (v := 4096) hx hb dX7_leastFull_6 (by decide) ?_
    refine lv_icmp_le (tgt := 15) hx hb dX7_leastFull_9 (by decide) (fun c_9_k_2 => ?_) (fun c_9_k_2 => ?_)
    · have hv := qT c_9_k_2 hv
      refine lv_aload_n hx hb dX7_leastFull_15 rfl (lv_at hl 0 rfl) ?_
      refine va_get (D := D) (ci := 6) (v := .ref (a0 1)) (C := RX7) (T := TX7) (N := 4) hx hb hts hiX7_leastFull_X7 hown hK hP 0 rfl rfl 0 (by decide) (hts _ lkX7_leastFull_10) (fun _ h9 => h9) rfl dX7_leastFull_16 ?_
      refine lv_iload_n hx hb dX7_leastFull_19 rfl (lv_at hl 1 rfl) ?_
      obtain ⟨⟨rS_3, S_3⟩, hS_3, hv⟩ := qB hv
      try dsimp only at hv
      refine m_VI (As := [.int x1]) (rest := []) (C := RX5) (T0 := TX5) (N0 := 2) (ci := 4) (Wn := (fun _ : Unit => (wQ E a0 (sq Q0 0 S_3)))) (Wr := [((a0 0), .inr (6, [.ref (a0 1), .ref (a0 6), .ref (a0 26), .ref (a0 35)])), ((a0 6), .inr (0, [.ref (a0 7), .int (Q0 2 0 0)])), aP E (a0 7) 6 (fH (a0 8) (a0 11) (a0 14) (a0 17) (a0 20) (a0 23)), ((a0 8), .inr (2, [.ref (a0 9), .ref (a0 10), .int ((Q0 3) 2 0), .int ((Q0 3) 2 1), .int ((Q0 3) 2 2), .int ((Q0 3) 2 3)])), aI E (a0 9) 50 ((Q0 3) 0), aI E (a0 10) 12 ((Q0 3) 1), ((a0 11), .inr (2, [.ref (a0 12), .ref (a0 13), .int ((Q0 4) 2 0), .int ((Q0 4) 2 1), .int ((Q0 4) 2 2), .int ((Q0 4) 2 3)])), aI E (a0 12) 50 ((Q0 4) 0), aI E (a0 13) 12 ((Q0 4) 1), ((a0 14), .inr (2, [.ref (a0 15), .ref (a0 16), .int ((Q0 5) 2 0), .int ((Q0 5) 2 1), .int ((Q0 5) 2 2), .int ((Q0 5) 2 3)])), aI E (a0 15) 50 ((Q0 5) 0), aI E (a0 16) 12 ((Q0 5) 1), ((a0 17), .inr (2, [.ref (a0 18), .ref (a0 19), .int ((Q0 6) 2 0), .int ((Q0 6) 2 1), .int ((Q0 6) 2 2), .int ((Q0 6) 2 3)])), aI E (a0 18) 50 ((Q0 6) 0), aI E (a0 19) 12 ((Q0 6) 1), ((a0 20), .inr (2, [.ref (a0 21), .ref (a0 22), .int ((Q0 7) 2 0), .int ((Q0 7) 2 1), .int ((Q0 7) 2 2), .int ((Q0 7) 2 3)])), aI E (a0 21) 50 ((Q0 7) 0), aI E (a0 22) 12 ((Q0 7) 1), ((a0 23), .inr (2, [.ref (a0 24), .ref (a0 25), .int ((Q0 8) 2 0), .int ((Q0 8) 2 1), .int ((Q0 8) 2 2), .int ((Q0 8) 2 3)])), aI E (a0 24) 50 ((Q0 8) 0), aI E (a0 25) 12 ((Q0 8) 1), ((a0 26), .inr (3, [.ref (a0 27), .ref (a0 28)])), aP E (a0 27) 2 (fS (a0 29) (a0 32)), aZ E (a0 28) 2 (Q0 2 1), ((a0 29), .inr (2, [.ref (a0 30), .ref (a0 31), .int ((Q0 9) 2 0), .int ((Q0 9) 2 1), .int ((Q0 9) 2 2), .int ((Q0 9) 2 3)])), aI E (a0 30) 50 ((Q0 9) 0), aI E (a0 31) 12 ((Q0 9) 1), ((a0 32), .inr (2, [.ref (a0 33), .ref (a0 34), .int ((Q0 10) 2 0), .int ((Q0 10) 2 1), .int ((Q0 10) 2 2), .int ((Q0 10) 2 3)])), aI E (a0 33) 50 ((Q0 10) 0), aI E (a0 34) 12 ((Q0 10) 1), ((a0 35), .inr (1, [.ref (a0 36), .ref (a0 37), .int ((Q0 1) 2 0)])), aI E (a0 36) 80 ((Q0 1) 0), aI E (a0 37) 20 ((Q0 1) 1)]) hx hb hml hown hts hl.1 (kX5_leastFullFor l D E (a0 1) (a0 2) (a0 3) (a0 4) (a0 5) H.size hS_3) (cwV 1 hts gX7_leastFull_X5_leastFullFor rfl rfl rfl (by decide +kernel) ⟨Nat.le_of_ble_eq_true rfl, Nat.le_of_ble_eq_true rfl⟩) 0 rfl rfl hP hD hS hA hK [1, 2, 3, 4, 5] [0, 6, 7, 8, 9, 10, 11, 12, 13, 14, 15, 16, 17, 18, 19, 20, 21, 22, 23, 24, 25, 26, 27, 28, 29, 30, 31, 32, 33, 34, 35, 36, 37] [0, 33, 34, 35, 36, 37, 1, 2, 3, 4, 5, 6, 7, 8, 9, 10, 11, 12, 13, 14, 15, 16, 17, 18, 19, 20, 21, 22, 23, 24, 25, 26, 27, 28, 29, 30, 31, 32] (by decide) rfl rfl (by decide) (by decide) (by decide) (fun _ => rfl) rfl rfl (Nat.le_of_ble_eq_true rfl) dX7_leastFull_20 ⟨Nat.le_of_ble_eq_true rfl, Nat.le_of_ble_eq_true rfl⟩ (fun _ H locs hP hD hS => ?_)
      obtain ⟨Q0s_4, hQ0s_4, hv⟩ := qB hv
      obtain ⟨hP, hD⟩ := m_st (F := fun Z9 : Nat → FS => (wQ E a0 Z9)) (Option.some.inj hQ0s_4) hP hD
      exact m_ret (F := (fun (Z9 : Nat → FS) => (fun _ : Unit => (wQ E a0 Z9)))) () C dX7_leastFull_23 hv hP hD hS
    · have hv := qF c_9_k_2 hv
      refine lv_bipush (v := -2) hx hb dX7_leastFull_12 (by decide) ?_
      exact m_ret (F := (fun (Z9 : Nat → FS) => (fun _ : Unit => (wQ E a0 Z9)))) () C dX7_leastFull_14 hv hP hD hS

theorem lkX7_put_33 : (.fieldLink RX7 33 "QuarterTiles" "pad" "LQuarterTiles$Pad;" : Cond) ∈ wsX7_put := by decide +kernel
theorem hiX7_put_X7 : ∀ w ∈ wsX70, w ∈ wsX7_put := by decide +kernel
theorem lkX7_put_176 : (.fieldLink RX7 176 "QuarterTiles$Pad" "length" "I" : Cond) ∈ wsX7_put := by decide +kernel
theorem hiX7_put_X2 : ∀ w ∈ wsX20, w ∈ wsX7_put := by decide +kernel
set_option maxRecDepth 100000 in
set_option maxHeartbeats 4000000 in
theorem kX7_put (l : Launch) (D : va_G) (E : Nat → ClassId) (a0 : Nat → Nat) {Q0 : Nat → FS} {x1 : Int64} {v : Int32} {Q09 : Nat → FS} (sz : Nat) (hv : fX7_put Q0 x1 = some (v, Q09)) : MI l yX7_put wsX7_put (rmN 2 46) D E ((wQ E a0 Q0)) sz [.ref (a0 0), .long x1] v (fun _ : Unit => (wQ E a0 Q09)) 0 0 := by
  refine MI.of (by decide) rfl (Nat.le_of_ble_eq_true rfl) ?_
  intro p e s m below meth c A H locs C hP hK hD hS hA ls hl
  have hl : lv_has ls 4 [(0, .ref (a0 0)), (1, .long x1)] := hl
  obtain ⟨hx, hb, hr, hml, hown, hlocks, hts⟩ := id C
  unfold fX7_put at hv
  refine lv_lload_n hx hb dX7_put_0 rfl (lv_at hl 1 rfl) ?_
  obtain ⟨r_1, hr_1, hv⟩ := qB hv
  refine q_S (As := [.long x1]) (rest := []) hx hb hml hown hts hl.1 (kX2_charactersIn l D E  hr_1) zNo_mv (va_cwS 1 hts gX7_put_X2_charactersIn rfl rfl rfl (by decide +kernel) ⟨Nat.le_of_ble_eq_true rfl, Nat.le_of_ble_eq_true rfl⟩) (hP.sub (ws' := []) [] rfl) hK trivial rfl rfl (Nat.le_of_ble_eq_true rfl) dX7_put_1 ⟨Nat.zero_le _, Nat.zero_le _⟩ ?_
  refine lv_istore_n (lv' := [(3, .int r_1), (0, .ref (a0 0)), (1, .long x1)]) hx hb dX7_put_4 rfl hl (by decide) rfl (fun ls hl => ?_)
  refine lv_iload_n hx hb dX7_put_5 rfl (lv_at hl 0 rfl) ?_
  refine lv_bipush (v := -6) hx hb dX7_put_6 (by decide) ?_
  refine lv_icmp_ne (tgt := 14) hx hb dX7_put_8 (by decide) (fun c_8_k_2 => ?_) (fun c_8_k_2 => ?_)
  · have hv := qF c_8_k_2 hv
    refine lv_aload_n hx hb dX7_put_14 rfl (lv_at hl 1 rfl) ?_
    refine va_get (D := D) (ci := 6) (v := .ref (a0 35)) (C := RX7) (T := TX7) (N := 4) hx hb hts hiX7_put_X7 hown hK hP 0 rfl rfl 3 (by decide) (hts _ lkX7_put_33) (fun _ h9 => h9) rfl dX7_put_15 ?_
    refine va_get (D := D) (ci := 1) (v := .int ((Q0 1) 2 0)) (C := RX2) (T := TX2) (N := 3) hx hb hts hiX7_put_X2 hown hK hP 35 rfl rfl 2 (by decide) (hts _ lkX7_put_176) (fun _ h9 => h9) rfl dX7_put_18 ?_
    refine lv_iload_n hx hb dX7_put_21 rfl (lv_at hl 0 rfl) ?_
    refine lv_iadd hx hb dX7_put_22 ?_
    refine lv_bipush (v := 80) hx hb dX7_put_23 (by decide) ?_
    refine lv_icmp_le (tgt := 31) hx hb dX7_put_25 (by decide) (fun c_25_k_3 => ?_) (fun c_25_k_3 => ?_)
    · have hv := qT c_25_k_3 hv
      refine lv_aload_n hx hb dX7_put_31 rfl (lv_at hl 1 rfl) ?_
      refine va_get (D := D) (ci := 6) (v := .ref (a0 35)) (C := RX7) (T := TX7) (N := 4) hx hb hts hiX7_put_X7 hown hK hP 0 rfl rfl 3 (by decide) (hts _ lkX7_put_33) (fun _ h9 => h9) rfl dX7_put_32 ?_
      refine lv_lload_n hx hb dX7_put_35 rfl (lv_at hl 2 rfl) ?_
      refine lv_iload_n hx hb dX7_put_36 rfl (lv_at hl 0 rfl) ?_
      obtain ⟨S_4, hS_4, hv⟩ := qB hv
      refine m_VV (As := [.long x1, .int r_1]) (rest := []) (C := RX2) (T0 := TX2) (N0 := 3) (ci := 1) (Wn := (fun _ : Unit => (wQ E a0 (sq Q0 1 S_4)))) (Wr := [((a0 0), .inr (6, [.ref (a0 1), .ref (a0 6), .ref (a0 26), .ref (a0 35)])), ((a0 1), .inr (4, [.ref (a0 3), .ref (a0 2)])), aI E (a0 2) 8192 ((Q0 0) 3), ((a0 3), .inr (2, [.ref (a0 4), .ref (a0 5), .int ((Q0 0) 2 0), .int ((Q0 0) 2 1), .int ((Q0 0) 2 2), .int ((Q0 0) 2 3)])), aI E (a0 4) 50 ((Q0 0) 0), aI E (a0 5) 12 ((Q0 0) 1), ((a0 6), .inr (0, [.ref (a0 7), .int (Q0 2 0 0)])), aP E (a0 7) 6 (fH (a0 8) (a0 11) (a0 14) (a0 17) (a0 20) (a0 23)), ((a0 8), .inr (2, [.ref (a0 9), .ref (a0 10), .int ((Q0 3) 2 0), .int ((Q0 3) 2 1), .int ((Q0 3) 2 2), .int ((Q0 3) 2 3)])), aI E (a0 9) 50 ((Q0 3) 0), aI E (a0 10) 12 ((Q0 3) 1), ((a0 11), .inr (2, [.ref (a0 12), .ref (a0 13), .int ((Q0 4) 2 0), .int ((Q0 4) 2 1), .int ((Q0 4) 2 2), .int ((Q0 4) 2 3)])), aI E (a0 12) 50 ((Q0 4) 0), aI E (a0 13) 12 ((Q0 4) 1), ((a0 14), .inr (2, [.ref (a0 15), .ref (a0 16), .int ((Q0 5) 2 0), .int ((Q0 5) 2 1), .int ((Q0 5) 2 2), .int ((Q0 5) 2 3)])), aI E (a0 15) 50 ((Q0 5) 0), aI E (a0 16) 12 ((Q0 5) 1), ((a0 17), .inr (2, [.ref (a0 18), .ref (a0 19), .int ((Q0 6) 2 0), .int ((Q0 6) 2 1), .int ((Q0 6) 2 2), .int ((Q0 6) 2 3)])), aI E (a0 18) 50 ((Q0 6) 0), aI E (a0 19) 12 ((Q0 6) 1), ((a0 20), .inr (2, [.ref (a0 21), .ref (a0 22), .int ((Q0 7) 2 0), .int ((Q0 7) 2 1), .int ((Q0 7) 2 2), .int ((Q0 7) 2 3)])), aI E (a0 21) 50 ((Q0 7) 0), aI E (a0 22) 12 ((Q0 7) 1), ((a0 23), .inr (2, [.ref (a0 24), .ref (a0 25), .int ((Q0 8) 2 0), .int ((Q0 8) 2 1), .int ((Q0 8) 2 2), .int ((Q0 8) 2 3)])), aI E (a0 24) 50 ((Q0 8) 0), aI E (a0 25) 12 ((Q0 8) 1), ((a0 26), .inr (3, [.ref (a0 27), .ref (a0 28)])), aP E (a0 27) 2 (fS (a0 29) (a0 32)), aZ E (a0 28) 2 (Q0 2 1), ((a0 29), .inr (2, [.ref (a0 30), .ref (a0 31), .int ((Q0 9) 2 0), .int ((Q0 9) 2 1), .int ((Q0 9) 2 2), .int ((Q0 9) 2 3)])), aI E (a0 30) 50 ((Q0 9) 0), aI E (a0 31) 12 ((Q0 9) 1), ((a0 32), .inr (2, [.ref (a0 33), .ref (a0 34), .int ((Q0 10) 2 0), .int ((Q0 10) 2 1), .int ((Q0 10) 2 2), .int ((Q0 10) 2 3)])), aI E (a0 33) 50 ((Q0 10) 0), aI E (a0 34) 12 ((Q0 10) 1)]) hx hb hml hown hts hl.1 (kX2_append l D E (a0 35) (a0 36) (a0 37) H.size hS_4) (cwV 2 hts gX7_put_X2_append rfl rfl rfl (by decide +kernel) ⟨Nat.le_of_ble_eq_true rfl, Nat.le_of_ble_eq_true rfl⟩) 0 rfl rfl hP hD hS hA hK [35, 36, 37] [0, 1, 2, 3, 4, 5, 6, 7, 8, 9, 10, 11, 12, 13, 14, 15, 16, 17, 18, 19, 20, 21, 22, 23, 24, 25, 26, 27, 28, 29, 30, 31, 32, 33, 34] [0, 1, 2, 3, 4, 5, 6, 7, 8, 9, 10, 11, 12, 13, 14, 15, 16, 17, 18, 19, 20, 21, 22, 23, 24, 25, 26, 27, 28, 29, 30, 31, 32, 33, 34, 35, 36, 37] (by decide) rfl rfl (by decide) (by decide) (by decide) (fun _ => rfl) rfl rfl (Nat.le_of_ble_eq_true rfl) dX7_put_37 ⟨Nat.le_of_ble_eq_true rfl, Nat.le_of_ble_eq_true rfl⟩ (fun _ H locs hP hD hS => ?_)
      obtain ⟨Q0s_5, hQ0s_5, hv⟩ := qB hv
      obtain ⟨hP, hD⟩ := m_st (F := fun Z9 : Nat → FS => (wQ E a0 Z9)) (Option.some.inj hQ0s_5) hP hD
      refine lv_aload_n hx hb dX7_put_40 rfl (lv_at hl 1 rfl) ?_
      refine va_get (D := D) (ci := 6) (v := .ref (a0 35)) (C := RX7) (T := TX7) (N := 4) hx hb hts hiX7_put_X7 hown hK hP 0 rfl rfl 3 (by decide) (hts _ lkX7_put_33) (fun _ h9 => h9) rfl dX7_put_41 ?_
      refine va_get (D := D) (ci := 1) (v := .int ((Q0s_5 1) 2 0)) (C := RX2) (T := TX2) (N := 3) hx hb hts hiX7_put_X2 hown hK hP 35 rfl rfl 2 (by decide) (hts _ lkX7_put_176) (fun _ h9 => h9) rfl dX7_put_44 ?_
      exact m_ret (F := (fun (Z9 : Nat → FS) => (fun _ : Unit => (wQ E a0 Z9)))) () C dX7_put_47 hv hP hD hS
    · have hv := qF c_25_k_3 hv
      refine lv_bipush (v := -4) hx hb dX7_put_28 (by decide) ?_
      exact m_ret (F := (fun (Z9 : Nat → FS) => (fun _ : Unit => (wQ E a0 Z9)))) () C dX7_put_30 hv hP hD hS
  · have hv := qT c_8_k_2 hv
    refine lv_bipush (v := -2) hx hb dX7_put_11 (by decide) ?_
    exact m_ret (F := (fun (Z9 : Nat → FS) => (fun _ : Unit => (wQ E a0 Z9)))) () C dX7_put_13 hv hP hD hS

theorem lkX7_wipe_33 : (.fieldLink RX7 33 "QuarterTiles" "pad" "LQuarterTiles$Pad;" : Cond) ∈ wsX7_wipe := by decide +kernel
theorem hiX7_wipe_X7 : ∀ w ∈ wsX70, w ∈ wsX7_wipe := by decide +kernel
theorem lkX7_wipe_176 : (.fieldLink RX7 176 "QuarterTiles$Pad" "length" "I" : Cond) ∈ wsX7_wipe := by decide +kernel
theorem hiX7_wipe_X2 : ∀ w ∈ wsX20, w ∈ wsX7_wipe := by decide +kernel
set_option maxRecDepth 100000 in
set_option maxHeartbeats 4000000 in
theorem kX7_wipe (l : Launch) (D : va_G) (E : Nat → ClassId) (a0 : Nat → Nat) {Q0 : Nat → FS} {v : Int32} {Q09 : Nat → FS} (sz : Nat) (hv : fX7_wipe Q0 = some (v, Q09)) : MI l yX7_wipe wsX7_wipe (rmN 1 20) D E ((wQ E a0 Q0)) sz [.ref (a0 0)] v (fun _ : Unit => (wQ E a0 Q09)) 0 0 := by
  refine MI.of (by decide) rfl (Nat.le_of_ble_eq_true rfl) ?_
  intro p e s m below meth c A H locs C hP hK hD hS hA ls hl
  have hl : lv_has ls 2 [(0, .ref (a0 0))] := hl
  obtain ⟨hx, hb, hr, hml, hown, hlocks, hts⟩ := id C
  unfold fX7_wipe at hv
  refine lv_aload_n hx hb dX7_wipe_0 rfl (lv_at hl 0 rfl) ?_
  refine va_get (D := D) (ci := 6) (v := .ref (a0 35)) (C := RX7) (T := TX7) (N := 4) hx hb hts hiX7_wipe_X7 hown hK hP 0 rfl rfl 3 (by decide) (hts _ lkX7_wipe_33) (fun _ h9 => h9) rfl dX7_wipe_1 ?_
  refine va_get (D := D) (ci := 1) (v := .int ((Q0 1) 2 0)) (C := RX2) (T := TX2) (N := 3) hx hb hts hiX7_wipe_X2 hown hK hP 35 rfl rfl 2 (by decide) (hts _ lkX7_wipe_176) (fun _ h9 => h9) rfl dX7_wipe_4 ?_
  refine lv_istore_n (lv' := [(1, .int ((Q0 1) 2 0)), (0, .ref (a0 0))]) hx hb dX7_wipe_7 rfl hl (by decide) rfl (fun ls hl => ?_)
  refine lv_aload_n hx hb dX7_wipe_8 rfl (lv_at hl 1 rfl) ?_
  refine va_get (D := D) (ci := 6) (v := .ref (a0 35)) (C := RX7) (T := TX7) (N := 4) hx hb hts hiX7_wipe_X7 hown hK hP 0 rfl rfl 3 (by decide) (hts _ lkX7_wipe_33) (fun _ h9 => h9) rfl dX7_wipe_9 ?_
  obtain ⟨S_1, hS_1, hv⟩ := qB hv
  refine m_VV (As := []) (rest := []) (C := RX2) (T0 := TX2) (N0 := 3) (ci := 1) (Wn := (fun _ : Unit => (wQ E a0 (sq Q0 1 S_1)))) (Wr := [((a0 0), .inr (6, [.ref (a0 1), .ref (a0 6), .ref (a0 26), .ref (a0 35)])), ((a0 1), .inr (4, [.ref (a0 3), .ref (a0 2)])), aI E (a0 2) 8192 ((Q0 0) 3), ((a0 3), .inr (2, [.ref (a0 4), .ref (a0 5), .int ((Q0 0) 2 0), .int ((Q0 0) 2 1), .int ((Q0 0) 2 2), .int ((Q0 0) 2 3)])), aI E (a0 4) 50 ((Q0 0) 0), aI E (a0 5) 12 ((Q0 0) 1), ((a0 6), .inr (0, [.ref (a0 7), .int (Q0 2 0 0)])), aP E (a0 7) 6 (fH (a0 8) (a0 11) (a0 14) (a0 17) (a0 20) (a0 23)), ((a0 8), .inr (2, [.ref (a0 9), .ref (a0 10), .int ((Q0 3) 2 0), .int ((Q0 3) 2 1), .int ((Q0 3) 2 2), .int ((Q0 3) 2 3)])), aI E (a0 9) 50 ((Q0 3) 0), aI E (a0 10) 12 ((Q0 3) 1), ((a0 11), .inr (2, [.ref (a0 12), .ref (a0 13), .int ((Q0 4) 2 0), .int ((Q0 4) 2 1), .int ((Q0 4) 2 2), .int ((Q0 4) 2 3)])), aI E (a0 12) 50 ((Q0 4) 0), aI E (a0 13) 12 ((Q0 4) 1), ((a0 14), .inr (2, [.ref (a0 15), .ref (a0 16), .int ((Q0 5) 2 0), .int ((Q0 5) 2 1), .int ((Q0 5) 2 2), .int ((Q0 5) 2 3)])), aI E (a0 15) 50 ((Q0 5) 0), aI E (a0 16) 12 ((Q0 5) 1), ((a0 17), .inr (2, [.ref (a0 18), .ref (a0 19), .int ((Q0 6) 2 0), .int ((Q0 6) 2 1), .int ((Q0 6) 2 2), .int ((Q0 6) 2 3)])), aI E (a0 18) 50 ((Q0 6) 0), aI E (a0 19) 12 ((Q0 6) 1), ((a0 20), .inr (2, [.ref (a0 21), .ref (a0 22), .int ((Q0 7) 2 0), .int ((Q0 7) 2 1), .int ((Q0 7) 2 2), .int ((Q0 7) 2 3)])), aI E (a0 21) 50 ((Q0 7) 0), aI E (a0 22) 12 ((Q0 7) 1), ((a0 23), .inr (2, [.ref (a0 24), .ref (a0 25), .int ((Q0 8) 2 0), .int ((Q0 8) 2 1), .int ((Q0 8) 2 2), .int ((Q0 8) 2 3)])), aI E (a0 24) 50 ((Q0 8) 0), aI E (a0 25) 12 ((Q0 8) 1), ((a0 26), .inr (3, [.ref (a0 27), .ref (a0 28)])), aP E (a0 27) 2 (fS (a0 29) (a0 32)), aZ E (a0 28) 2 (Q0 2 1), ((a0 29), .inr (2, [.ref (a0 30), .ref (a0 31), .int ((Q0 9) 2 0), .int ((Q0 9) 2 1), .int ((Q0 9) 2 2), .int ((Q0 9) 2 3)])), aI E (a0 30) 50 ((Q0 9) 0), aI E (a0 31) 12 ((Q0 9) 1), ((a0 32), .inr (2, [.ref (a0 33), .ref (a0 34), .int ((Q0 10) 2 0), .int ((Q0 10) 2 1), .int ((Q0 10) 2 2), .int ((Q0 10) 2 3)])), aI E (a0 33) 50 ((Q0 10) 0), aI E (a0 34) 12 ((Q0 10) 1)]) hx hb hml hown hts hl.1 (kX2_empty l D E (a0 35) (a0 36) (a0 37) H.size hS_1) (cwV 0 hts gX7_wipe_X2_empty rfl rfl rfl (by decide +kernel) ⟨Nat.le_of_ble_eq_true rfl, Nat.le_of_ble_eq_true rfl⟩) 0 rfl rfl hP hD hS hA hK [35, 36, 37] [0, 1, 2, 3, 4, 5, 6, 7, 8, 9, 10, 11, 12, 13, 14, 15, 16, 17, 18, 19, 20, 21, 22, 23, 24, 25, 26, 27, 28, 29, 30, 31, 32, 33, 34] [0, 1, 2, 3, 4, 5, 6, 7, 8, 9, 10, 11, 12, 13, 14, 15, 16, 17, 18, 19, 20, 21, 22, 23, 24, 25, 26, 27, 28, 29, 30, 31, 32, 33, 34, 35, 36, 37] (by decide) rfl rfl (by decide) (by decide) (by decide) (fun _ => rfl) rfl rfl (Nat.le_of_ble_eq_true rfl) dX7_wipe_12 ⟨Nat.le_of_ble_eq_true rfl, Nat.le_of_ble_eq_true rfl⟩ (fun _ H locs hP hD hS => ?_)
  obtain ⟨Q0s_2, hQ0s_2, hv⟩ := qB hv
  obtain ⟨hP, hD⟩ := m_st (F := fun Z9 : Nat → FS => (wQ E a0 Z9)) (Option.some.inj hQ0s_2) hP hD
  refine lv_iload_n hx hb dX7_wipe_15 rfl (lv_at hl 0 rfl) ?_
  exact m_ret (F := (fun (Z9 : Nat → FS) => (fun _ : Unit => (wQ E a0 Z9)))) () C dX7_wipe_16 hv hP hD hS

theorem lkX7_save_26 : (.fieldLink RX7 26 "QuarterTiles" "slots" "LQuarterTiles$Slots;" : Cond) ∈ wsX7_save := by decide +kernel
theorem hiX7_save_X7 : ∀ w ∈ wsX70, w ∈ wsX7_save := by decide +kernel
theorem lkX7_save_10 : (.fieldLink RX7 10 "QuarterTiles" "tree" "LQuarterTiles$Tree;" : Cond) ∈ wsX7_save := by decide +kernel
theorem lkX7_save_37 : (.fieldLink RX7 37 "QuarterTiles$Tree" "plan" "LQuarterTiles$Plan;" : Cond) ∈ wsX7_save := by decide +kernel
theorem hiX7_save_X5 : ∀ w ∈ wsX50, w ∈ wsX7_save := by decide +kernel
theorem lkX7_save_161 : (.fieldLink RX7 161 "QuarterTiles$Plan" "points" "I" : Cond) ∈ wsX7_save := by decide +kernel
theorem hiX7_save_X3 : ∀ w ∈ wsX30, w ∈ wsX7_save := by decide +kernel
set_option maxRecDepth 100000 in
set_option maxHeartbeats 4000000 in
theorem kX7_save (l : Launch) (D : va_G) (E : Nat → ClassId) (a0 : Nat → Nat) {Q0 : Nat → FS} {x1 : Int32} {v : Int32} {Q09 : Nat → FS} (sz : Nat) (hv : fX7_save Q0 x1 = some (v, Q09)) : MI l yX7_save wsX7_save (rmN 3 73) D E ((wQ E a0 Q0)) sz [.ref (a0 0), .int x1] v (fun u : Nat → Nat => (wQ E (aZ0 (a0 0) u) Q09)) 0 0 := by
  refine MI.of (by decide) rfl (Nat.le_of_ble_eq_true rfl) ?_
  intro p e s m below meth c A H locs C hP hK hD hS hA ls hl
  have hl : lv_has ls 2 [(0, .ref (a0 0)), (1, .int x1)] := hl
  obtain ⟨hx, hb, hr, hml, hown, hlocks, hts⟩ := id C
  unfold fX7_save at hv
  refine lv_iload_n hx hb dX7_save_0 rfl (lv_at hl 1 rfl) ?_
  obtain ⟨r_1, hr_1, hv⟩ := qB hv
  refine q_S (As := [.int x1]) (rest := []) hx hb hml hown hts hl.1 (kX4_isSlot l D E  hr_1) zNo_mv (va_cwS 1 hts gX7_save_X4_isSlot rfl rfl rfl (by decide +kernel) ⟨Nat.le_of_ble_eq_true rfl, Nat.le_of_ble_eq_true rfl⟩) (hP.sub (ws' := []) [] rfl) hK trivial rfl rfl (Nat.le_of_ble_eq_true rfl) dX7_save_1 ⟨Nat.zero_le _, Nat.zero_le _⟩ ?_
  refine lv_if_ne (tgt := 10) hx hb dX7_save_4 (by decide) (fun c_4_k_2 => ?_) (fun c_4_k_2 => ?_)
  · have hv := qF c_4_k_2 hv
    refine lv_aload_n hx hb dX7_save_10 rfl (lv_at hl 0 rfl) ?_
    refine va_get (D := D) (ci := 6) (v := .ref (a0 26)) (C := RX7) (T := TX7) (N := 4) hx hb hts hiX7_save_X7 hown hK hP 0 rfl rfl 2 (by decide) (hts _ lkX7_save_26) (fun _ h9 => h9) rfl dX7_save_11 ?_
    refine lv_iload_n hx hb dX7_save_14 rfl (lv_at hl 1 rfl) ?_
    refine lv_aload_n hx hb dX7_save_15 rfl (lv_at hl 0 rfl) ?_
    refine va_get (D := D) (ci := 6) (v := .ref (a0 1)) (C := RX7) (T := TX7) (N := 4) hx hb hts hiX7_save_X7 hown hK hP 0 rfl rfl 0 (by decide) (hts _ lkX7_save_10) (fun _ h9 => h9) rfl dX7_save_16 ?_
    refine va_get (D := D) (ci := 4) (v := .ref (a0 3)) (C := RX5) (T := TX5) (N := 2) hx hb hts hiX7_save_X5 hown hK hP 1 rfl rfl 0 (by decide) (hts _ lkX7_save_37) (fun _ h9 => h9) rfl dX7_save_19 ?_
    obtain ⟨S_3, hS_3, hv⟩ := qB hv
    refine m_VV (As := [.int x1, .ref (a0 3)]) (rest := []) (C := RX4) (T0 := TX4) (N0 := 2) (ci := 3) (Wn := (fun _ : Unit => (wQ E a0 (mgS Q0 S_3)))) (Wr := [((a0 0), .inr (6, [.ref (a0 1), .ref (a0 6), .ref (a0 26), .ref (a0 35)])), ((a0 1), .inr (4, [.ref (a0 3), .ref (a0 2)])), aI E (a0 2) 8192 ((Q0 0) 3), ((a0 6), .inr (0, [.ref (a0 7), .int (Q0 2 0 0)])), aP E (a0 7) 6 (fH (a0 8) (a0 11) (a0 14) (a0 17) (a0 20) (a0 23)), ((a0 8), .inr (2, [.ref (a0 9), .ref (a0 10), .int ((Q0 3) 2 0), .int ((Q0 3) 2 1), .int ((Q0 3) 2 2), .int ((Q0 3) 2 3)])), aI E (a0 9) 50 ((Q0 3) 0), aI E (a0 10) 12 ((Q0 3) 1), ((a0 11), .inr (2, [.ref (a0 12), .ref (a0 13), .int ((Q0 4) 2 0), .int ((Q0 4) 2 1), .int ((Q0 4) 2 2), .int ((Q0 4) 2 3)])), aI E (a0 12) 50 ((Q0 4) 0), aI E (a0 13) 12 ((Q0 4) 1), ((a0 14), .inr (2, [.ref (a0 15), .ref (a0 16), .int ((Q0 5) 2 0), .int ((Q0 5) 2 1), .int ((Q0 5) 2 2), .int ((Q0 5) 2 3)])), aI E (a0 15) 50 ((Q0 5) 0), aI E (a0 16) 12 ((Q0 5) 1), ((a0 17), .inr (2, [.ref (a0 18), .ref (a0 19), .int ((Q0 6) 2 0), .int ((Q0 6) 2 1), .int ((Q0 6) 2 2), .int ((Q0 6) 2 3)])), aI E (a0 18) 50 ((Q0 6) 0), aI E (a0 19) 12 ((Q0 6) 1), ((a0 20), .inr (2, [.ref (a0 21), .ref (a0 22), .int ((Q0 7) 2 0), .int ((Q0 7) 2 1), .int ((Q0 7) 2 2), .int ((Q0 7) 2 3)])), aI E (a0 21) 50 ((Q0 7) 0), aI E (a0 22) 12 ((Q0 7) 1), ((a0 23), .inr (2, [.ref (a0 24), .ref (a0 25), .int ((Q0 8) 2 0), .int ((Q0 8) 2 1), .int ((Q0 8) 2 2), .int ((Q0 8) 2 3)])), aI E (a0 24) 50 ((Q0 8) 0), aI E (a0 25) 12 ((Q0 8) 1), ((a0 35), .inr (1, [.ref (a0 36), .ref (a0 37), .int ((Q0 1) 2 0)])), aI E (a0 36) 80 ((Q0 1) 0), aI E (a0 37) 20 ((Q0 1) 1)]) hx hb hml hown hts hl.1 (kX4_fill l D E (a0 26) (a0 27) (a0 28) (a0 29) (a0 30) (a0 31) (a0 32) (a0 33) (a0 34) (a0 3) (a0 4) (a0 5) H.size hS_3) (cwV 2 hts gX7_save_X4_fill rfl rfl rfl (by decide +kernel) ⟨Nat.le_of_ble_eq_true rfl, Nat.le_of_ble_eq_true rfl⟩) 0 rfl rfl hP hD hS hA hK [26, 27, 28, 29, 30, 31, 32, 33, 34, 3, 4, 5] [0, 1, 2, 6, 7, 8, 9, 10, 11, 12, 13, 14, 15, 16, 17, 18, 19, 20, 21, 22, 23, 24, 25, 35, 36, 37] [0, 1, 2, 35, 36, 37, 3, 4, 5, 6, 7, 8, 9, 10, 11, 12, 13, 14, 15, 16, 17, 18, 19, 20, 21, 22, 26, 27, 28, 29, 30, 31, 32, 33, 34, 23, 24, 25] (by decide) rfl rfl (by decide) (by decide) (by decide) (fun _ => rfl) rfl rfl (Nat.le_of_ble_eq_true rfl) dX7_save_22 ⟨Nat.le_of_ble_eq_true rfl, Nat.le_of_ble_eq_true rfl⟩ (fun _ H locs hP hD hS => ?_)
    obtain ⟨Q0s_4, hQ0s_4, hv⟩ := qB hv
    obtain ⟨hP, hD⟩ := m_st (F := fun Z9 : Nat → FS => (wQ E a0 Z9)) (Option.some.inj hQ0s_4) hP hD
    refine lv_aload_n hx hb dX7_save_25 rfl (lv_at hl 0 rfl) ?_
    refine va_get (D := D) (ci := 6) (v := .ref (a0 1)) (C := RX7) (T := TX7) (N := 4) hx hb hts hiX7_save_X7 hown hK hP 0 rfl rfl 0 (by decide) (hts _ lkX7_save_10) (fun _ h9 => h9) rfl dX7_save_26 ?_
    refine va_get (D := D) (ci := 4) (v := .ref (a0 3)) (C := RX5) (T := TX5) (N := 2) hx hb hts hiX7_save_X5 hown hK hP 1 rfl rfl 0 (by decide) (hts _ lkX7_save_37) (fun _ h9 => h9) rfl dX7_save_29 ?_
    refine va_get (D := D) (ci := 2) (v := .int ((Q0s_4 0) 2 0)) (C := RX3) (T := TX3) (N := 6) hx hb hts hiX7_save_X3 hown hK hP 3 rfl rfl 2 (by decide) (hts _ lkX7_save_161) (fun _ h9 => h9) rfl dX7_save_32 ?_
    exact m_ret (F := (fun (Z9 : Nat → FS) => (fun u : Nat → Nat => (wQ E (aZ0 (a0 0) u) Z9)))) (fun i => a0 (i + 1)) C dX7_save_35 hv hP hD hS
  · have hv := qT c_4_k_2 hv
    refine lv_bipush (v := -2) hx hb dX7_save_7 (by decide) ?_
    exact m_ret (F := (fun (Z9 : Nat → FS) => (fun u : Nat → Nat => (wQ E (aZ0 (a0 0) u) Z9)))) (fun i => a0 (i + 1)) C dX7_save_9 hv hP hD hS
