theorem vp_cellq {cA : ClassId} {n : Nat} {f g : Nat → Option Nat} (h : ∀ j, j < n → f j = g j) : vp_cell cA (n, .inr (.inr (.inr (.inr f)))) = vp_cell cA (n, .inr (.inr (.inr (.inr g)))) := by
  rw [vp_cell_q, vp_cell_q, arrV, arrV]
  have : (fun j : Fin n => va_rf (f j.val)) = fun j : Fin n => va_rf (g j.val) := funext fun j => by rw [h j.val j.isLt]
  rw [this]
theorem va_Pcell {D : va_G} {cl : List vw_C} {A : Nat → Prop} {W9 : va_W} {H : Heap} {q0 a : Nat} {x y : ClassId × vp_A} (hP : va_P D cl W9 H) (hD : va_D A W9) (hq : W9[q0]? = some (a, .inl x)) (hxy : vp_cell x.1 x.2 = vp_cell y.1 y.2) : va_P D cl (W9.set q0 (a, .inl y)) H ∧ va_D A (W9.set q0 (a, .inl y)) := by
  refine ⟨hP.set hD hq ?_ (fun _ _ => rfl), hD.set hq⟩
  show H[a]? = some (vp_cell y.1 y.2)
  rw [← hxy]
  exact hP q0 _ hq
theorem hiX0_dropOldest_X0 : ∀ w ∈ wsX00, w ∈ wsX0_dropOldest := by decide +kernel
theorem lkX0_dropOldest_11 : (.fieldLink RX0 11 "QuarterTiles$History" "plans" "[LQuarterTiles$Plan;" : Cond) ∈ wsX0_dropOldest := by decide +kernel
theorem lkX0_dropOldest_18 : (.fieldLink RX0 18 "QuarterTiles$History" "states" "I" : Cond) ∈ wsX0_dropOldest := by decide +kernel
section DR
variable {p : Program} {l : Launch} {e : Env} {R : Room} {s : State} {m : MethodId} {args : Array Value} {below : List Frame} {meth : Method} {c : Code} {H : Heap} {locs : List Loc} {cells slots : Nat} {Q : State → Prop}
variable {cc : ByteArray} {pc : Nat} {ls : Array Slot} {rest st : List Value} {D : va_G} {cl : List vw_C} {A : Nat → Prop} {a : Nat} {tys : List (ClassId × FieldType)} {W9 : va_W}
theorem m_ast (hexec : p.tables.exec = Jvm.exec) (hb : c.code = cc) (hK : va_K D cl tys s) (hP : va_P D cl W9 H) (hD : va_D A W9) (hS : va_S A s.heap H locs) (q0 t0 qk ci : Nat) {cA : ClassId} {r : vw_C} {n v : Nat} {vs : List Value} {f : Nat → Option Nat} (ha : W9[q0]? = some (a, .inl (cA, n, .inr (.inr (.inr (.inr f)))))) (ht : tys[t0]? = some (cA, .object r.1)) (hv : W9[qk]? = some (v, .inr (ci, vs))) (hc : cl[ci]? = some r) {i : Int32} (k : Nat) (hk : i.toNatClampNeg = k) (hin : vp_in i n) (hdg : decode cc pc = .ok (.aastore, 1))
    (kk : ∀ (H1 : Heap) (locs1 : List Loc), va_P D cl (W9.set q0 (a, .inl (cA, n, .inr (.inr (.inr (.inr (va_up f k (some v)))))))) H1 → va_D A (W9.set q0 (a, .inl (cA, n, .inr (.inr (.inr (.inr (va_up f k (some v)))))))) → va_S A s.heap H1 locs1 → W p l e R s m args below meth c H1 locs1 cells slots Q (F0 m (pc + 1) ls rest)) : W p l e R s m args below meth c H locs cells slots Q (F0 m pc ls (.ref v :: .int i :: .ref a :: rest)) := by
  subst hk
  exact va_astq hexec hb hK hP hD hS q0 t0 qk ci ha ht hv hc hin hdg kk
end DR
set_option maxRecDepth 100000 in
set_option maxHeartbeats 4000000 in
theorem kX0_dropOldest (l : Launch) (D : va_G) (E : Nat → ClassId) (a0_0 a0_1 a0_2 a0_3 a0_4 a0_5 a0_6 a0_7 a0_8 a0_9 a0_10 a0_11 a0_12 a0_13 a0_14 a0_15 a0_16 a0_17 a0_18 a0_19 : Nat) {Q0 : Nat → FS} {Q9 : Nat → FS} (sz : Nat) (hv : fX0_dropOldest Q0 = some (Q9)) : MV l yX0_dropOldest wsX0_dropOldest (rmN 0 0) D E ((wHist E a0_0 a0_1 a0_2 a0_3 a0_4 a0_5 a0_6 a0_7 a0_8 a0_9 a0_10 a0_11 a0_12 a0_13 a0_14 a0_15 a0_16 a0_17 a0_18 a0_19 Q0)) sz [.ref a0_0] (fun u : Nat → Nat => (wHist E a0_0 a0_1 (u 0) (u 1) (u 2) (u 3) (u 4) (u 5) (u 6) (u 7) (u 8) (u 9) (u 10) (u 11) (u 12) (u 13) (u 14) (u 15) (u 16) (u 17) Q9)) 0 0 := by
  refine MV.of (by decide) rfl (Nat.le_of_ble_eq_true rfl) ?_
  intro p e s m below meth c A H locs C hP hK hD hS hA ls hl
  have hl : lv_has ls 3 [(0, .ref a0_0)] := hl
  obtain ⟨hx, hb, hr, hml, hown, hlocks, hts⟩ := id C
  unfold fX0_dropOldest at hv
  refine lv_aload_n hx hb dX0_dropOldest_0 rfl (lv_at hl 0 rfl) ?_
  refine va_get (D := D) (ci := 0) (v := .ref a0_1) (C := RX0) (T := TX0) (N := 2) hx hb hts hiX0_dropOldest_X0 hown hK hP 0 rfl rfl 0 (by decide) (hts _ lkX0_dropOldest_11) (fun _ h9 => h9) rfl dX0_dropOldest_1 ?_
  refine lv_iconst (v := 0) hx hb dX0_dropOldest_4 (by decide) ?_
  refine m_ald (v := a0_2) hx hb hK hP 1 2 rfl rfl (rfl : (0:Int32) = 0) (by unfold vp_in; decide) rfl dX0_dropOldest_5 ?_
  refine lv_astore_n (lv' := [(1, .ref a0_2), (0, .ref a0_0)]) hx hb dX0_dropOldest_6 rfl hl (by decide) rfl (fun ls hl => ?_)
  refine lv_iconst (v := 1) hx hb dX0_dropOldest_7 (by decide) ?_
  refine lv_istore_n (lv' := [(2, .int 1), (1, .ref a0_2), (0, .ref a0_0)]) hx hb dX0_dropOldest_8 rfl hl (by decide) rfl (fun ls hl => ?_)
  refine lv_iload_n hx hb dX0_dropOldest_9 rfl (lv_at hl 0 rfl) ?_
  refine lv_bipush (v := 6) hx hb dX0_dropOldest_10 (by decide) ?_
  refine lv_icmp_ge (tgt := 35) hx hb dX0_dropOldest_12 (by decide) (fun c9 => absurd c9 (by decide)) (fun _ => ?_)
  refine lv_aload_n hx hb dX0_dropOldest_15 rfl (lv_at hl 2 rfl) ?_
  refine va_get (D := D) (ci := 0) (v := .ref a0_1) (C := RX0) (T := TX0) (N := 2) hx hb hts hiX0_dropOldest_X0 hown hK hP 0 rfl rfl 0 (by decide) (hts _ lkX0_dropOldest_11) (fun _ h9 => h9) rfl dX0_dropOldest_16 ?_
  refine lv_iload_n hx hb dX0_dropOldest_19 rfl (lv_at hl 0 rfl) ?_
  refine lv_iconst (v := 1) hx hb dX0_dropOldest_20 (by decide) ?_
  refine lv_isub hx hb dX0_dropOldest_21 ?_
  refine lv_aload_n hx hb dX0_dropOldest_22 rfl (lv_at hl 2 rfl) ?_
  refine va_get (D := D) (ci := 0) (v := .ref a0_1) (C := RX0) (T := TX0) (N := 2) hx hb hts hiX0_dropOldest_X0 hown hK hP 0 rfl rfl 0 (by decide) (hts _ lkX0_dropOldest_11) (fun _ h9 => h9) rfl dX0_dropOldest_23 ?_
  refine lv_iload_n hx hb dX0_dropOldest_26 rfl (lv_at hl 0 rfl) ?_
  refine m_ald (v := a0_5) hx hb hK hP 1 2 rfl rfl (rfl : (1:Int32) = 1) (by unfold vp_in; decide) rfl dX0_dropOldest_27 ?_
  refine m_ast hx hb hK hP hD hS 1 2 5 2 (r := (RX3, TX3, 6)) rfl rfl rfl rfl 0 (by decide) (by unfold vp_in; decide) dX0_dropOldest_28 (fun H locs hP hD hS => ?_)
  refine lv_iinc (v := 2) (lv' := [(2, .int 2), (1, .ref a0_2), (0, .ref a0_0)]) hx hb dX0_dropOldest_29 hl (k := 0) rfl (by decide) (by decide) rfl (fun ls hl => ?_)
  refine lv_goto (tgt := 9) hx hb dX0_dropOldest_32 (by decide) ?_
  refine lv_iload_n hx hb dX0_dropOldest_9 rfl (lv_at hl 0 rfl) ?_
  refine lv_bipush (v := 6) hx hb dX0_dropOldest_10 (by decide) ?_
  refine lv_icmp_ge (tgt := 35) hx hb dX0_dropOldest_12 (by decide) (fun c9 => absurd c9 (by decide)) (fun _ => ?_)
  refine lv_aload_n hx hb dX0_dropOldest_15 rfl (lv_at hl 2 rfl) ?_
  refine va_get (D := D) (ci := 0) (v := .ref a0_1) (C := RX0) (T := TX0) (N := 2) hx hb hts hiX0_dropOldest_X0 hown hK hP 0 rfl rfl 0 (by decide) (hts _ lkX0_dropOldest_11) (fun _ h9 => h9) rfl dX0_dropOldest_16 ?_
  refine lv_iload_n hx hb dX0_dropOldest_19 rfl (lv_at hl 0 rfl) ?_
  refine lv_iconst (v := 1) hx hb dX0_dropOldest_20 (by decide) ?_
  refine lv_isub hx hb dX0_dropOldest_21 ?_
  refine lv_aload_n hx hb dX0_dropOldest_22 rfl (lv_at hl 2 rfl) ?_
  refine va_get (D := D) (ci := 0) (v := .ref a0_1) (C := RX0) (T := TX0) (N := 2) hx hb hts hiX0_dropOldest_X0 hown hK hP 0 rfl rfl 0 (by decide) (hts _ lkX0_dropOldest_11) (fun _ h9 => h9) rfl dX0_dropOldest_23 ?_
  refine lv_iload_n hx hb dX0_dropOldest_26 rfl (lv_at hl 0 rfl) ?_
  refine m_ald (v := a0_8) hx hb hK hP 1 2 rfl rfl (rfl : (2:Int32) = 2) (by unfold vp_in; decide) rfl dX0_dropOldest_27 ?_
  refine m_ast hx hb hK hP hD hS 1 2 8 2 (r := (RX3, TX3, 6)) rfl rfl rfl rfl 1 (by decide) (by unfold vp_in; decide) dX0_dropOldest_28 (fun H locs hP hD hS => ?_)
  refine lv_iinc (v := 3) (lv' := [(2, .int 3), (1, .ref a0_2), (0, .ref a0_0)]) hx hb dX0_dropOldest_29 hl (k := 0) rfl (by decide) (by decide) rfl (fun ls hl => ?_)
  refine lv_goto (tgt := 9) hx hb dX0_dropOldest_32 (by decide) ?_
  refine lv_iload_n hx hb dX0_dropOldest_9 rfl (lv_at hl 0 rfl) ?_
  refine lv_bipush (v := 6) hx hb dX0_dropOldest_10 (by decide) ?_
  refine lv_icmp_ge (tgt := 35) hx hb dX0_dropOldest_12 (by decide) (fun c9 => absurd c9 (by decide)) (fun _ => ?_)
  refine lv_aload_n hx hb dX0_dropOldest_15 rfl (lv_at hl 2 rfl) ?_
  refine va_get (D := D) (ci := 0) (v := .ref a0_1) (C := RX0) (T := TX0) (N := 2) hx hb hts hiX0_dropOldest_X0 hown hK hP 0 rfl rfl 0 (by decide) (hts _ lkX0_dropOldest_11) (fun _ h9 => h9) rfl dX0_dropOldest_16 ?_
  refine lv_iload_n hx hb dX0_dropOldest_19 rfl (lv_at hl 0 rfl) ?_
  refine lv_iconst (v := 1) hx hb dX0_dropOldest_20 (by decide) ?_
  refine lv_isub hx hb dX0_dropOldest_21 ?_
  refine lv_aload_n hx hb dX0_dropOldest_22 rfl (lv_at hl 2 rfl) ?_
  refine va_get (D := D) (ci := 0) (v := .ref a0_1) (C := RX0) (T := TX0) (N := 2) hx hb hts hiX0_dropOldest_X0 hown hK hP 0 rfl rfl 0 (by decide) (hts _ lkX0_dropOldest_11) (fun _ h9 => h9) rfl dX0_dropOldest_23 ?_
  refine lv_iload_n hx hb dX0_dropOldest_26 rfl (lv_at hl 0 rfl) ?_
  refine m_ald (v := a0_11) hx hb hK hP 1 2 rfl rfl (rfl : (3:Int32) = 3) (by unfold vp_in; decide) rfl dX0_dropOldest_27 ?_
  refine m_ast hx hb hK hP hD hS 1 2 11 2 (r := (RX3, TX3, 6)) rfl rfl rfl rfl 2 (by decide) (by unfold vp_in; decide) dX0_dropOldest_28 (fun H locs hP hD hS => ?_)
  refine lv_iinc (v := 4) (lv' := [(2, .int 4), (1, .ref a0_2), (0, .ref a0_0)]) hx hb dX0_dropOldest_29 hl (k := 0) rfl (by decide) (by decide) rfl (fun ls hl => ?_)
  refine lv_goto (tgt := 9) hx hb dX0_dropOldest_32 (by decide) ?_
  refine lv_iload_n hx hb dX0_dropOldest_9 rfl (lv_at hl 0 rfl) ?_
  refine lv_bipush (v := 6) hx hb dX0_dropOldest_10 (by decide) ?_
  refine lv_icmp_ge (tgt := 35) hx hb dX0_dropOldest_12 (by decide) (fun c9 => absurd c9 (by decide)) (fun _ => ?_)
  refine lv_aload_n hx hb dX0_dropOldest_15 rfl (lv_at hl 2 rfl) ?_
  refine va_get (D := D) (ci := 0) (v := .ref a0_1) (C := RX0) (T := TX0) (N := 2) hx hb hts hiX0_dropOldest_X0 hown hK hP 0 rfl rfl 0 (by decide) (hts _ lkX0_dropOldest_11) (fun _ h9 => h9) rfl dX0_dropOldest_16 ?_
  refine lv_iload_n hx hb dX0_dropOldest_19 rfl (lv_at hl 0 rfl) ?_
  refine lv_iconst (v := 1) hx hb dX0_dropOldest_20 (by decide) ?_
  refine lv_isub hx hb dX0_dropOldest_21 ?_
  refine lv_aload_n hx hb dX0_dropOldest_22 rfl (lv_at hl 2 rfl) ?_
  refine va_get (D := D) (ci := 0) (v := .ref a0_1) (C := RX0) (T := TX0) (N := 2) hx hb hts hiX0_dropOldest_X0 hown hK hP 0 rfl rfl 0 (by decide) (hts _ lkX0_dropOldest_11) (fun _ h9 => h9) rfl dX0_dropOldest_23 ?_
  refine lv_iload_n hx hb dX0_dropOldest_26 rfl (lv_at hl 0 rfl) ?_
  refine m_ald (v := a0_14) hx hb hK hP 1 2 rfl rfl (rfl : (4:Int32) = 4) (by unfold vp_in; decide) rfl dX0_dropOldest_27 ?_
  refine m_ast hx hb hK hP hD hS 1 2 14 2 (r := (RX3, TX3, 6)) rfl rfl rfl rfl 3 (by decide) (by unfold vp_in; decide) dX0_dropOldest_28 (fun H locs hP hD hS => ?_)
  refine lv_iinc (v := 5) (lv' := [(2, .int 5), (1, .ref a0_2), (0, .ref a0_0)]) hx hb dX0_dropOldest_29 hl (k := 0) rfl (by decide) (by decide) rfl (fun ls hl => ?_)
  refine lv_goto (tgt := 9) hx hb dX0_dropOldest_32 (by decide) ?_
  refine lv_iload_n hx hb dX0_dropOldest_9 rfl (lv_at hl 0 rfl) ?_
  refine lv_bipush (v := 6) hx hb dX0_dropOldest_10 (by decide) ?_
  refine lv_icmp_ge (tgt := 35) hx hb dX0_dropOldest_12 (by decide) (fun c9 => absurd c9 (by decide)) (fun _ => ?_)
  refine lv_aload_n hx hb dX0_dropOldest_15 rfl (lv_at hl 2 rfl) ?_
  refine va_get (D := D) (ci := 0) (v := .ref a0_1) (C := RX0) (T := TX0) (N := 2) hx hb hts hiX0_dropOldest_X0 hown hK hP 0 rfl rfl 0 (by decide) (hts _ lkX0_dropOldest_11) (fun _ h9 => h9) rfl dX0_dropOldest_16 ?_
  refine lv_iload_n hx hb dX0_dropOldest_19 rfl (lv_at hl 0 rfl) ?_
  refine lv_iconst (v := 1) hx hb dX0_dropOldest_20 (by decide) ?_
  refine lv_isub hx hb dX0_dropOldest_21 ?_
  refine lv_aload_n hx hb dX0_dropOldest_22 rfl (lv_at hl 2 rfl) ?_
  refine va_get (D := D) (ci := 0) (v := .ref a0_1) (C := RX0) (T := TX0) (N := 2) hx hb hts hiX0_dropOldest_X0 hown hK hP 0 rfl rfl 0 (by decide) (hts _ lkX0_dropOldest_11) (fun _ h9 => h9) rfl dX0_dropOldest_23 ?_
  refine lv_iload_n hx hb dX0_dropOldest_26 rfl (lv_at hl 0 rfl) ?_
  refine m_ald (v := a0_17) hx hb hK hP 1 2 rfl rfl (rfl : (5:Int32) = 5) (by unfold vp_in; decide) rfl dX0_dropOldest_27 ?_
  refine m_ast hx hb hK hP hD hS 1 2 17 2 (r := (RX3, TX3, 6)) rfl rfl rfl rfl 4 (by decide) (by unfold vp_in; decide) dX0_dropOldest_28 (fun H locs hP hD hS => ?_)
  refine lv_iinc (v := 6) (lv' := [(2, .int 6), (1, .ref a0_2), (0, .ref a0_0)]) hx hb dX0_dropOldest_29 hl (k := 0) rfl (by decide) (by decide) rfl (fun ls hl => ?_)
  refine lv_goto (tgt := 9) hx hb dX0_dropOldest_32 (by decide) ?_
  refine lv_iload_n hx hb dX0_dropOldest_9 rfl (lv_at hl 0 rfl) ?_
  refine lv_bipush (v := 6) hx hb dX0_dropOldest_10 (by decide) ?_
  refine lv_icmp_ge (tgt := 35) hx hb dX0_dropOldest_12 (by decide) (fun _ => ?_) (fun c9 => absurd (by decide) c9)
  refine lv_aload_n hx hb dX0_dropOldest_35 rfl (lv_at hl 2 rfl) ?_
  refine va_get (D := D) (ci := 0) (v := .ref a0_1) (C := RX0) (T := TX0) (N := 2) hx hb hts hiX0_dropOldest_X0 hown hK hP 0 rfl rfl 0 (by decide) (hts _ lkX0_dropOldest_11) (fun _ h9 => h9) rfl dX0_dropOldest_36 ?_
  refine lv_iconst (v := 5) hx hb dX0_dropOldest_39 (by decide) ?_
  refine lv_aload_n hx hb dX0_dropOldest_40 rfl (lv_at hl 1 rfl) ?_
  refine m_ast hx hb hK hP hD hS 1 2 2 2 (r := (RX3, TX3, 6)) rfl rfl rfl rfl 5 (by decide) (by unfold vp_in; decide) dX0_dropOldest_41 (fun H locs hP hD hS => ?_)
  refine lv_aload_n hx hb dX0_dropOldest_42 rfl (lv_at hl 2 rfl) ?_
  refine lv_iconst (v := 5) hx hb dX0_dropOldest_43 (by decide) ?_
  refine va_put (D := D) (ci := 0) (v := .int 5) (ty := .int) (C := RX0) (T := TX0) (N := 2) hx hb hts hiX0_dropOldest_X0 tyX0 tyX0_ok nmX0 hown hK hP hD hS 0 rfl rfl 1 (by decide) (hts _ lkX0_dropOldest_18) (fun _ h9 => h9) rfl (by decide +kernel) rfl rfl (Nat.le_of_ble_eq_true rfl) dX0_dropOldest_44 (fun H locs hP hD hS => ?_)
  obtain ⟨hP, hD⟩ := va_Pcell (q0 := 1) (y := (E 2, 6, .inr (.inr (.inr (.inr (fH a0_5 a0_8 a0_11 a0_14 a0_17 a0_2)))))) hP hD rfl (vp_cellq (fun j hj => by rcases (show j = 0 ∨ j = 1 ∨ j = 2 ∨ j = 3 ∨ j = 4 ∨ j = 5 by omega) with rfl | rfl | rfl | rfl | rfl | rfl <;> rfl))
  have hP := hP.sub (ws' := wHist E a0_0 a0_1 a0_5 a0_6 a0_7 a0_8 a0_9 a0_10 a0_11 a0_12 a0_13 a0_14 a0_15 a0_16 a0_17 a0_18 a0_19 a0_2 a0_3 a0_4 (sq (rotH Q0) 2 (sf (Q0 2) 0 0 5))) [0, 1, 5, 6, 7, 8, 9, 10, 11, 12, 13, 14, 15, 16, 17, 18, 19, 2, 3, 4] rfl
  have hD := hD.sub (ws' := wHist E a0_0 a0_1 a0_5 a0_6 a0_7 a0_8 a0_9 a0_10 a0_11 a0_12 a0_13 a0_14 a0_15 a0_16 a0_17 a0_18 a0_19 a0_2 a0_3 a0_4 (sq (rotH Q0) 2 (sf (Q0 2) 0 0 5))) [0, 1, 5, 6, 7, 8, 9, 10, 11, 12, 13, 14, 15, 16, 17, 18, 19, 2, 3, 4] (by decide) rfl
  exact m_retv (F := (fun (Z9 : Nat → FS) => (fun u : Nat → Nat => (wHist E a0_0 a0_1 (u 0) (u 1) (u 2) (u 3) (u 4) (u 5) (u 6) (u 7) (u 8) (u 9) (u 10) (u 11) (u 12) (u 13) (u 14) (u 15) (u 16) (u 17) Z9)))) (uL [a0_5, a0_6, a0_7, a0_8, a0_9, a0_10, a0_11, a0_12, a0_13, a0_14, a0_15, a0_16, a0_17, a0_18, a0_19, a0_2, a0_3, a0_4]) C dX0_dropOldest_47 hv hP hD hS
