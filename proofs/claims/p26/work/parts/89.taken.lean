/-! isTakenBack: the latest states, one behind the other -/
set_option maxRecDepth 100000 in
set_option maxHeartbeats 4000000 in
theorem tk_2 {l : Launch} {t : Nat → Nat} {D : va_G} {E : Nat → ClassId} {p : Program} {e : Env} {s : State} {m : MethodId} {below : List Frame} {meth : Method} {c : Code} {A : Nat → Prop} {q w ac : Nat} {f : Nat → Int64} {n : Nat} {Y : Nat → (Nat → FS)} (hn : n ≤ 6) (hc : ∀ i, i ≤ n → fX7_count (Y i) 10 = some (nI (n - i))) (hu : ∀ i, i < n → fX7_undo (Y i) = some (nI (n - i - 1), Y (i + 1))) (C : Ctx p s m meth c [.ref q, .ref w, .int (nI ac)] wsL_isTakenBack cL_isTakenBack 5 (some .boolean) RL) (hK : va_K D vwCl (tyE E) s) (hA : ∀ q : Nat, s.heap.size ≤ q → A q) (hZ : zSX t A s) : ∀ (j k : Nat) (u : Nat → Nat) (H : Heap) (locs : List Loc) (ls : Array Slot), k + j = n → va_P D vwCl (wQ E (aZ0 q u) (Y k) ++ [aL E w f]) H → va_D A (wQ E (aZ0 q u) (Y k) ++ [aL E w f]) → va_S A s.heap H locs → lv_has ls 5 [(0, .ref q)] → WI p l e (rmW 16 373 0 0) s m [.ref q, .ref w, .int (nI ac)] below meth c D A 1 (fun u1 : Nat → Nat => wQ E (aZ0 q u1) (Y n) ++ [aL E w f]) 0 0 H locs 0 0 61 ls [] := by
  obtain ⟨hx, hb, hr, hml, hown, hlocks, hts⟩ := id C
  intro j
  induction j with
  | zero =>
    intro k u H locs ls hk hP hD hS hl
    have hk : k = n := hk
    subst hk
    have e1 := hc k (Nat.le_refl k)
    rw [Nat.sub_self] at e1
    refine lv_aload_n hx hb dL_isTakenBack_61 rfl (lv_at hl 0 rfl) ?_
    refine lv_bipush (v := 10) hx hb dL_isTakenBack_62 (by decide) ?_
    refine q_V (As := [.int (10:Int32)]) (rest := []) (C := RX7) (T0 := TX7) (N0 := 4) (ci := 6) hx hb hml hown hts hl.1 (kX7_count l D E t (aZ0 q u) e1) zSt_mv (cwV 1 hts gL_isTakenBack_X7_count rfl rfl rfl (by decide +kernel) ⟨Nat.le_of_ble_eq_true rfl, Nat.le_of_ble_eq_true rfl⟩) 0 rfl rfl (hP.sub (ws' := wQ E (aZ0 q u) (Y k)) n38 rfl) hK (zSX_now hZ hS) rfl rfl (Nat.le_of_ble_eq_true rfl) dL_isTakenBack_64 ⟨Nat.le_of_ble_eq_true rfl, Nat.le_of_ble_eq_true rfl⟩ ?_
    refine lv_if_le (tgt := 79) hx hb dL_isTakenBack_67 (by decide) (fun _ => ?_) (fun c9 => absurd (show nI 0 ≤ 0 by decide) c9)
    refine lv_iconst (v := 1) hx hb dL_isTakenBack_79 (by decide) ?_
    exact t_rz u C dL_isTakenBack_80 (by decide) (by decide) hP hD hS
  | succ j ih =>
    intro k u H locs ls hk hP hD hS hl
    have e1 := hc k (by omega)
    have e2 := hu k (by omega)
    refine lv_aload_n hx hb dL_isTakenBack_61 rfl (lv_at hl 0 rfl) ?_
    refine lv_bipush (v := 10) hx hb dL_isTakenBack_62 (by decide) ?_
    refine q_V (As := [.int (10:Int32)]) (rest := []) (C := RX7) (T0 := TX7) (N0 := 4) (ci := 6) hx hb hml hown hts hl.1 (kX7_count l D E t (aZ0 q u) e1) zSt_mv (cwV 1 hts gL_isTakenBack_X7_count rfl rfl rfl (by decide +kernel) ⟨Nat.le_of_ble_eq_true rfl, Nat.le_of_ble_eq_true rfl⟩) 0 rfl rfl (hP.sub (ws' := wQ E (aZ0 q u) (Y k)) n38 rfl) hK (zSX_now hZ hS) rfl rfl (Nat.le_of_ble_eq_true rfl) dL_isTakenBack_64 ⟨Nat.le_of_ble_eq_true rfl, Nat.le_of_ble_eq_true rfl⟩ ?_
    refine lv_if_le (tgt := 79) hx hb dL_isTakenBack_67 (by decide) (fun c9 => absurd c9 (nI_nle (by omega) (by omega))) (fun _ => ?_)
    refine lv_aload_n hx hb dL_isTakenBack_70 rfl (lv_at hl 0 rfl) ?_
    refine t1_VI (As := []) (rest := []) (Z1 := Y (k + 1)) hx hb hml hown hts hl.1 (kX7_undo l D E (aZ0 q u) H.size e2) (cwV 0 hts gL_isTakenBack_X7_undo rfl rfl rfl (by decide +kernel) ⟨Nat.le_of_ble_eq_true rfl, Nat.le_of_ble_eq_true rfl⟩) hP hD hS hA hK rfl rfl (Nat.le_of_ble_eq_true rfl) dL_isTakenBack_71 ⟨Nat.le_of_ble_eq_true rfl, Nat.le_of_ble_eq_true rfl⟩ (fun u1 H locs hP hD hS => ?_)
    refine lv_if_ge (tgt := 61) hx hb dL_isTakenBack_74 (by decide) (fun _ => ?_) (fun c9 => absurd (nI_pos' (by omega)) c9)
    exact ih (k + 1) u1 H locs ls (by omega) hP hD hS hl
set_option maxRecDepth 100000 in
set_option maxHeartbeats 4000000 in
theorem tk_1 {l : Launch} {t : Nat → Nat} {D : va_G} {E : Nat → ClassId} {p : Program} {e : Env} {s : State} {m : MethodId} {below : List Frame} {meth : Method} {c : Code} {A : Nat → Prop} {q w ac : Nat} {f : Nat → Int64} {n : Nat} {Y : Nat → (Nat → FS)} {G : Nat → AS} (hac : ac ≤ 22) (hn : n ≤ 6) (hc : ∀ i, i ≤ n → fX7_count (Y i) 10 = some (nI (n - i))) (hu : ∀ i, i < n → fX7_undo (Y i) = some (nI (n - i - 1), Y (i + 1))) (hs : ∀ i, i < n → SeenH (Y i) (G i)) (hf : ∀ i, i < n → i < ac → f (ac - i) = sv (G i)) (C : Ctx p s m meth c [.ref q, .ref w, .int (nI ac)] wsL_isTakenBack cL_isTakenBack 5 (some .boolean) RL) (hK : va_K D vwCl (tyE E) s) (hA : ∀ q : Nat, s.heap.size ≤ q → A q) (hZ : zSX t A s) : ∀ (j k : Nat) (u : Nat → Nat) (H : Heap) (locs : List Loc) (ls : Array Slot), k + j = n → va_P D vwCl (wQ E (aZ0 q u) (Y k) ++ [aL E w f]) H → va_D A (wQ E (aZ0 q u) (Y k) ++ [aL E w f]) → va_S A s.heap H locs → lv_has ls 5 [(3, .int (nI k)), (0, .ref q), (1, .ref w), (2, .int (nI ac))] → WI p l e (rmW 16 373 0 0) s m [.ref q, .ref w, .int (nI ac)] below meth c D A 1 (fun u1 : Nat → Nat => wQ E (aZ0 q u1) (Y n) ++ [aL E w f]) 0 0 H locs 0 0 2 ls [] := by
  obtain ⟨hx, hb, hr, hml, hown, hlocks, hts⟩ := id C
  intro j
  induction j with
  | zero =>
    intro k u H locs ls hk hP hD hS hl
    have hk : k = n := hk
    subst hk
    have e1 := hc k (Nat.le_refl k)
    rw [Nat.sub_self] at e1
    refine lv_aload_n hx hb dL_isTakenBack_2 rfl (lv_at hl 1 rfl) ?_
    refine lv_bipush (v := 10) hx hb dL_isTakenBack_3 (by decide) ?_
    refine q_V (As := [.int (10:Int32)]) (rest := []) (C := RX7) (T0 := TX7) (N0 := 4) (ci := 6) hx hb hml hown hts hl.1 (kX7_count l D E t (aZ0 q u) e1) zSt_mv (cwV 1 hts gL_isTakenBack_X7_count rfl rfl rfl (by decide +kernel) ⟨Nat.le_of_ble_eq_true rfl, Nat.le_of_ble_eq_true rfl⟩) 0 rfl rfl (hP.sub (ws' := wQ E (aZ0 q u) (Y k)) n38 rfl) hK (zSX_now hZ hS) rfl rfl (Nat.le_of_ble_eq_true rfl) dL_isTakenBack_5 ⟨Nat.le_of_ble_eq_true rfl, Nat.le_of_ble_eq_true rfl⟩ ?_
    refine lv_if_le (tgt := 61) hx hb dL_isTakenBack_8 (by decide) (fun _ => ?_) (fun c9 => absurd (show nI 0 ≤ 0 by decide) c9)
    exact tk_2 hn hc hu C hK hA hZ 0 k u H locs ls rfl hP hD hS (lv_sub hl [1] rfl)
  | succ j ih =>
    intro k u H locs ls hk hP hD hS hl
    have e1 := hc k (by omega)
    have e2 := hu k (by omega)
    refine lv_aload_n hx hb dL_isTakenBack_2 rfl (lv_at hl 1 rfl) ?_
    refine lv_bipush (v := 10) hx hb dL_isTakenBack_3 (by decide) ?_
    refine q_V (As := [.int (10:Int32)]) (rest := []) (C := RX7) (T0 := TX7) (N0 := 4) (ci := 6) hx hb hml hown hts hl.1 (kX7_count l D E t (aZ0 q u) e1) zSt_mv (cwV 1 hts gL_isTakenBack_X7_count rfl rfl rfl (by decide +kernel) ⟨Nat.le_of_ble_eq_true rfl, Nat.le_of_ble_eq_true rfl⟩) 0 rfl rfl (hP.sub (ws' := wQ E (aZ0 q u) (Y k)) n38 rfl) hK (zSX_now hZ hS) rfl rfl (Nat.le_of_ble_eq_true rfl) dL_isTakenBack_5 ⟨Nat.le_of_ble_eq_true rfl, Nat.le_of_ble_eq_true rfl⟩ ?_
    refine lv_if_le (tgt := 61) hx hb dL_isTakenBack_8 (by decide) (fun c9 => absurd c9 (nI_nle (by omega) (by omega))) (fun _ => ?_)
    refine lv_iload_n hx hb dL_isTakenBack_11 rfl (lv_at hl 0 rfl) ?_
    refine lv_iload_n hx hb dL_isTakenBack_12 rfl (lv_at hl 3 rfl) ?_
    refine lv_icmp_ge (tgt := 61) hx hb dL_isTakenBack_13 (by decide) (fun c9 => ?_) (fun c9 => ?_)
    · exact tk_2 hn hc hu C hK hA hZ (j + 1) k u H locs ls hk hP hD hS (lv_sub hl [1] rfl)
    · have hlt : k < ac := by
        rcases Nat.lt_or_ge k ac with h | h
        · exact h
        · exact absurd (nI_le h (by omega)) c9
      have ef := hf k (by omega) hlt
      have es : nI ac - nI k = nI (ac - k) := pk_sub (by omega)
      refine lv_aload_n hx hb dL_isTakenBack_16 rfl (lv_at hl 1 rfl) ?_
      refine lv_bipush (v := 10) hx hb dL_isTakenBack_17 (by decide) ?_
      refine q_V (As := [.int (10:Int32)]) (rest := []) (C := RX7) (T0 := TX7) (N0 := 4) (ci := 6) hx hb hml hown hts hl.1 (kX7_count l D E t (aZ0 q u) e1) zSt_mv (cwV 1 hts gL_isTakenBack_X7_count rfl rfl rfl (by decide +kernel) ⟨Nat.le_of_ble_eq_true rfl, Nat.le_of_ble_eq_true rfl⟩) 0 rfl rfl (hP.sub (ws' := wQ E (aZ0 q u) (Y k)) n38 rfl) hK (zSX_now hZ hS) rfl rfl (Nat.le_of_ble_eq_true rfl) dL_isTakenBack_19 ⟨Nat.le_of_ble_eq_true rfl, Nat.le_of_ble_eq_true rfl⟩ ?_
      refine lv_istore (lv' := [(4, .int (nI (n - k))), (3, .int (nI k)), (0, .ref q), (1, .ref w), (2, .int (nI ac))]) hx hb dL_isTakenBack_22 hl (by decide) rfl (fun ls hl => ?_)
      refine lv_iload_n hx hb dL_isTakenBack_24 rfl (lv_at hl 1 rfl) ?_
      refine lv_iconst (v := 5) hx hb dL_isTakenBack_25 (by decide) ?_
      refine lv_icmp_gt (tgt := 53) hx hb dL_isTakenBack_26 (by decide) (fun c9 => absurd c9 (show ¬ (5:Int32) < nI k from nI_nlt (a := 5) (by omega) (by decide))) (fun _ => ?_)
      refine lv_aload_n hx hb dL_isTakenBack_29 rfl (lv_at hl 2 rfl) ?_
      refine q_SL (As := [.ref q]) (rest := []) hx hb hml hown hts hl.1 (kL_seen l t D E q u (hs k (by omega))) zSt_mv (va_cwS 1 hts gL_isTakenBack_L_seen rfl rfl rfl (by decide +kernel) ⟨Nat.le_of_ble_eq_true rfl, Nat.le_of_ble_eq_true rfl⟩) (hP.sub (ws' := wQ E (aZ0 q u) (Y k)) n38 rfl) hK (zSX_now hZ hS) rfl rfl (Nat.le_of_ble_eq_true rfl) dL_isTakenBack_30 ⟨Nat.le_of_ble_eq_true rfl, Nat.le_of_ble_eq_true rfl⟩ ?_
      refine lv_aload_n hx hb dL_isTakenBack_33 rfl (lv_at hl 3 rfl) ?_
      refine lv_iload_n hx hb dL_isTakenBack_34 rfl (lv_at hl 4 rfl) ?_
      refine lv_iload_n hx hb dL_isTakenBack_35 rfl (lv_at hl 1 rfl) ?_
      refine lv_isub hx hb dL_isTakenBack_36 ?_
      refine va_lald hx hb hK hP 38 3 rfl rfl (by rw [es]; exact vp_in_nI (by omega) (by omega)) dL_isTakenBack_37 ?_
      refine W.lcmp hx hb dL_isTakenBack_38 ?_
      refine lv_if_ne (tgt := 53) hx hb dL_isTakenBack_39 (by decide) (fun c9 => absurd ((lg_cmp_eq _ _).mpr (by rw [es, nI_clamp (by omega), ef])) c9) (fun _ => ?_)
      refine lv_aload_n hx hb dL_isTakenBack_42 rfl (lv_at hl 2 rfl) ?_
      refine t1_VI (As := []) (rest := []) (Z1 := Y (k + 1)) hx hb hml hown hts hl.1 (kX7_undo l D E (aZ0 q u) H.size e2) (cwV 0 hts gL_isTakenBack_X7_undo rfl rfl rfl (by decide +kernel) ⟨Nat.le_of_ble_eq_true rfl, Nat.le_of_ble_eq_true rfl⟩) hP hD hS hA hK rfl rfl (Nat.le_of_ble_eq_true rfl) dL_isTakenBack_43 ⟨Nat.le_of_ble_eq_true rfl, Nat.le_of_ble_eq_true rfl⟩ (fun u1 H locs hP hD hS => ?_)
      refine lv_iload hx hb dL_isTakenBack_46 (lv_at hl 0 rfl) ?_
      refine lv_iconst (v := 1) hx hb dL_isTakenBack_48 (by decide) ?_
      refine lv_isub hx hb dL_isTakenBack_49 ?_
      refine lv_icmp_eq (tgt := 55) hx hb dL_isTakenBack_50 (by decide) (fun _ => ?_) (fun c9 => absurd (show nI (n - k - 1) = nI (n - k) - 1 from (nI_sub (a := n - k) (b := 1) (by omega)).symm) c9)
      refine lv_iinc (v := nI (k + 1)) (lv' := [(3, .int (nI (k + 1))), (4, .int (nI (n - k))), (0, .ref q), (1, .ref w), (2, .int (nI ac))]) hx hb dL_isTakenBack_55 hl (k := 1) rfl (nI_1 k) (by decide) rfl (fun ls hl => ?_)
      refine lv_goto (tgt := 2) hx hb dL_isTakenBack_58 (by decide) ?_
      exact ih (k + 1) u1 H locs ls (by omega) hP hD hS (lv_sub hl [0, 2, 3, 4] rfl)
set_option maxRecDepth 100000 in
set_option maxHeartbeats 4000000 in
theorem kL_isTakenBack (l : Launch) (t : Nat → Nat) (D : va_G) (E : Nat → ClassId) (q w : Nat) (u : Nat → Nat) {ac : Nat} {f : Nat → Int64} {n : Nat} {Y : Nat → (Nat → FS)} {G : Nat → AS} (hac : ac ≤ 22) (hn : n ≤ 6) (hc : ∀ i, i ≤ n → fX7_count (Y i) 10 = some (nI (n - i))) (hu : ∀ i, i < n → fX7_undo (Y i) = some (nI (n - i - 1), Y (i + 1))) (hs : ∀ i, i < n → SeenH (Y i) (G i)) (hf : ∀ i, i < n → i < ac → f (ac - i) = sv (G i)) (sz : Nat) : LI l yL_isTakenBack wsL_isTakenBack (rmW 16 373 0 0) t D E (wQ E (aZ0 q u) (Y 0) ++ [aL E w f]) sz [.ref q, .ref w, .int (nI ac)] 1 (fun u1 : Nat → Nat => wQ E (aZ0 q u1) (Y n) ++ [aL E w f]) 0 0 := by
  refine LI.of (by decide) rfl (Nat.le_of_ble_eq_true rfl) ?_
  intro p e s m below meth c A H locs C hP hK hD hS hA hZ ls hl
  have hl : lv_has ls 5 [(0, .ref q), (1, .ref w), (2, .int (nI ac))] := hl
  obtain ⟨hx, hb, hr, hml, hown, hlocks, hts⟩ := id C
  refine lv_iconst (v := 0) hx hb dL_isTakenBack_0 (by decide) ?_
  refine lv_istore_n (lv' := [(3, .int 0), (0, .ref q), (1, .ref w), (2, .int (nI ac))]) hx hb dL_isTakenBack_1 rfl hl (by decide) rfl (fun ls hl => ?_)
  exact tk_1 hac hn hc hu hs hf C hK hA hZ n 0 u H locs ls (Nat.zero_add n) hP hD hS hl
