/-! part, drawn, seen -/
def pa (v n : Int32) : Int32 := (v &&& 2147483647) - (v &&& 2147483647) / n * n
theorem pa_lt (v : Int32) {k : Nat} (h0 : 0 < k) (hk : k < 2 ^ 31) : ∃ j, j < k ∧ pa v (nI k) = nI j := by
  have e : v &&& (2147483647:Int32) = nI (v.toBitVec.toNat % 2 ^ 31) := pk_and v 31 (by decide)
  have hl : v.toBitVec.toNat % 2 ^ 31 < 2 ^ 31 := Nat.mod_lt _ (by decide)
  refine ⟨v.toBitVec.toNat % 2 ^ 31 % k, Nat.mod_lt _ h0, ?_⟩
  unfold pa
  rw [e]
  exact pk_rem hl h0 hk
theorem kL_part (l : Launch) (D : va_G) (E : Nat → ClassId) {v n : Int32} (hn : ¬ n = 0) : PU l yL_part wsL_part (rmN 0 0) D E zNo [] [.int v, .int n] (pa v n) := by
  refine PU.of (by decide) rfl (Nat.le_of_ble_eq_true rfl) ?_
  intro p e s m below meth c C hP hK hZ ls hl
  have hl : lv_has ls 2 [(0, .int v), (1, .int n)] := hl
  obtain ⟨hx, hb, hr, hml, hown, hlocks, hts⟩ := id C
  refine lv_iload_n hx hb dL_part_0 rfl (lv_at hl 0 rfl) ?_
  refine lv_ldc (v := 2147483647) hx hb hown (hts (.constant RL 7 2147483647) (by decide +kernel)) dL_part_1 ?_
  refine lv_iand hx hb dL_part_3 ?_
  refine lv_iload_n hx hb dL_part_4 rfl (lv_at hl 1 rfl) ?_
  refine lv_irem hx hb dL_part_5 hn ?_
  exact q_ret C dL_part_6 rfl
/-- the script, an old cell -/
def zX (b L : Nat) (xs : Nat → Int32) : zT := fun U H => va_X b L xs U H ∧ b < H.size
theorem zX_mv {b L : Nat} {xs : Nat → Int32} : zmv (zX b L xs) := ⟨fun u U H e h => ⟨h.1.moved (e ▸ Vm.Alike.refl u.vm), h.2⟩, fun u U H hW h => ⟨h.1.moved hW.alike, h.2⟩⟩
def dv (L : Nat) (xs : Nat → Int32) (k : Int32) : Int32 := if L = 0 then 7919 * k + 3 else ((xs (k - k / nI L * nI L).toNatClampNeg >>> ((k - k / 7 * 7) &&& 31)) ^^^ (k / nI L * 31)) ^^^ (k * 2654435)
set_option maxRecDepth 100000 in
set_option maxHeartbeats 4000000 in
theorem kL_drawn (l : Launch) (D : va_G) (E : Nat → ClassId) {b L : Nat} {xs : Nat → Int32} (hL : L ≤ 260) {k : Nat} (hk : k < 2 ^ 31) : PU l yL_drawn wsL_drawn (rmN 0 0) D E (zX b L xs) [] [.ref b, .int (nI k)] (dv L xs (nI k)) := by
  refine PU.of (by decide) rfl (Nat.le_of_ble_eq_true rfl) ?_
  intro p e s m below meth c C hP hK hZ ls hl
  have hl : lv_has ls 2 [(0, .ref b), (1, .int (nI k))] := hl
  obtain ⟨hx, hb, hr, hml, hown, hlocks, hts⟩ := id C
  obtain ⟨hX, hbl⟩ := hZ
  have hbA : ¬ nA b := fun h => h
  refine lv_aload_n hx hb dL_drawn_0 rfl (lv_at hl 0 rfl) ?_
  refine va_slen (A := nA) hx hb hX hbl hbA va_S.rf dL_drawn_1 ?_
  refine lv_if_ne (tgt := 15) hx hb dL_drawn_2 (by decide) (fun c9 => ?_) (fun c9 => ?_)
  · have c9 : ¬ nI L = 0 := c9
    have h0 : 0 < L := by
      rcases Nat.eq_zero_or_pos L with h | h
      · exact absurd (by rw [h]; rfl) c9
      · exact h
    have hin : vp_in (nI k - nI k / nI L * nI L) L := by
      rw [pk_rem hk h0 (by omega)]
      exact vp_in_nI (Nat.mod_lt _ h0) (by omega)
    refine lv_aload_n hx hb dL_drawn_15 rfl (lv_at hl 0 rfl) ?_
    refine lv_iload_n hx hb dL_drawn_16 rfl (lv_at hl 1 rfl) ?_
    refine lv_aload_n hx hb dL_drawn_17 rfl (lv_at hl 0 rfl) ?_
    refine va_slen (A := nA) hx hb hX hbl hbA va_S.rf dL_drawn_18 ?_
    refine lv_irem hx hb dL_drawn_19 c9 ?_
    refine va_sld (A := nA) hx hb hX hbl hbA va_S.rf hin dL_drawn_20 ?_
    refine lv_iload_n hx hb dL_drawn_21 rfl (lv_at hl 1 rfl) ?_
    refine lv_bipush (v := 7) hx hb dL_drawn_22 (by decide) ?_
    refine lv_irem hx hb dL_drawn_24 (by decide) ?_
    refine lv_ishr hx hb dL_drawn_25 ?_
    refine lv_iload_n hx hb dL_drawn_26 rfl (lv_at hl 1 rfl) ?_
    refine lv_aload_n hx hb dL_drawn_27 rfl (lv_at hl 0 rfl) ?_
    refine va_slen (A := nA) hx hb hX hbl hbA va_S.rf dL_drawn_28 ?_
    refine lv_idiv hx hb dL_drawn_29 c9 ?_
    refine lv_bipush (v := 31) hx hb dL_drawn_30 (by decide) ?_
    refine lv_imul hx hb dL_drawn_32 ?_
    refine lv_ixor hx hb dL_drawn_33 ?_
    refine lv_iload_n hx hb dL_drawn_34 rfl (lv_at hl 1 rfl) ?_
    refine lv_ldc (v := 2654435) hx hb hown (hts (.constant RL 8 2654435) (by decide +kernel)) dL_drawn_35 ?_
    refine lv_imul hx hb dL_drawn_37 ?_
    refine lv_ixor hx hb dL_drawn_38 ?_
    exact q_ret C dL_drawn_39 (congrArg some (by rw [dv, if_neg (by omega)]; rfl))
  · have c9 : nI L = 0 := c9
    have h0 : L = 0 := (nI_eq (b := 0) (by omega) (by decide)).mp c9
    refine lv_sipush (v := 7919) hx hb dL_drawn_5 (by decide) ?_
    refine lv_iload_n hx hb dL_drawn_8 rfl (lv_at hl 1 rfl) ?_
    refine lv_imul hx hb dL_drawn_9 ?_
    refine lv_iconst (v := 3) hx hb dL_drawn_10 (by decide) ?_
    refine lv_iadd hx hb dL_drawn_11 ?_
    refine lv_goto (tgt := 39) hx hb dL_drawn_12 (by decide) ?_
    exact q_ret C dL_drawn_39 (congrArg some (by rw [dv, if_pos h0]))
theorem lkL_seen_9 : (.constantLong RL 9 31 : Cond) ∈ wsL_seen := by decide +kernel
set_option maxRecDepth 100000 in
set_option maxHeartbeats 4000000 in
theorem seen_3 {p : Program} {l : Launch} {e : Env} {s : State} {m : MethodId} {below : List Frame} {meth : Method} {c : Code} {D : va_G} {E : Nat → ClassId} {t : Nat → Nat} {q : Nat} {u : Nat → Nat} {Z : Nat → FS} {A : AS} (h : SeenH Z A) (C : Ctx p s m meth c [.ref q] wsL_seen cL_seen 4 (some .long) RL) (hP : va_P D vwCl (wQ E (aZ0 q u) Z) s.heap) (hK : va_K D vwCl (tyE E) s) (hZ : zSt t s s.heap) (h0 : Int64) : ∀ (n k : Nat) (ls : Array Slot), k + n = 31 → lv_has ls 4 [(3, .int (nI (k + 1))), (1, .long (sC (tlA A 6) (tlA A 7) h0 k)), (0, .ref q)] → WPL p l e (rmN 15 350) s m [.ref q] below meth c (sC (tlA A 6) (tlA A 7) h0 31) 70 ls [] := by
  obtain ⟨hx, hb, hr, hml, hown, hlocks, hts⟩ := id C
  intro n
  induction n with
  | zero =>
    intro k ls hk hl
    have hk : k = 31 := hk
    subst hk
    refine lv_iload_n hx hb dL_seen_70 rfl (lv_at hl 0 rfl) ?_
    refine lv_bipush (v := 32) hx hb dL_seen_71 (by decide) ?_
    refine lv_icmp_ge (tgt := 110) hx hb dL_seen_73 (by decide) (fun _ => ?_) (fun c9 => absurd (by decide) c9)
    refine lv_lload_n hx hb dL_seen_110 rfl (lv_at hl 1 rfl) ?_
    exact q_retl C dL_seen_111 rfl
  | succ n ih =>
    intro k ls hk hl
    have e6 := h.2.2.2.1 (k + 1)
    have e7 := h.2.2.2.2 (k + 1)
    refine lv_iload_n hx hb dL_seen_70 rfl (lv_at hl 0 rfl) ?_
    refine lv_bipush (v := 32) hx hb dL_seen_71 (by decide) ?_
    refine lv_icmp_ge (tgt := 110) hx hb dL_seen_73 (by decide) (fun c9 => absurd c9 (show ¬ (32:Int32) ≤ nI (k + 1) from nI_ge (b := 32) (by omega) (by decide))) (fun _ => ?_)
    refine lv_ldc2 (v := 31) hx hb hown (hts _ lkL_seen_9) dL_seen_76 ?_
    refine lv_ldc2 (v := 31) hx hb hown (hts _ lkL_seen_9) dL_seen_79 ?_
    refine lv_lload_n hx hb dL_seen_82 rfl (lv_at hl 1 rfl) ?_
    refine lv_lmul hx hb dL_seen_83 ?_
    refine lv_aload_n hx hb dL_seen_84 rfl (lv_at hl 2 rfl) ?_
    refine lv_iload_n hx hb dL_seen_85 rfl (lv_at hl 0 rfl) ?_
    refine lv_bipush (v := 6) hx hb dL_seen_86 (by decide) ?_
    refine q_V (As := [.int (nI (k + 1)), .int (6:Int32)]) (rest := [.long (31 * sC (tlA A 6) (tlA A 7) h0 k), .long 31]) (C := RX7) (T0 := TX7) (N0 := 4) (ci := 6) hx hb hml hown hts hl.1 (kX7_tile l D E t (aZ0 q u) e6) zSt_mv (cwV 2 hts gL_seen_X7_tile rfl rfl rfl (by decide +kernel) ⟨Nat.le_of_ble_eq_true rfl, Nat.le_of_ble_eq_true rfl⟩) 0 rfl rfl hP hK hZ rfl rfl (Nat.le_of_ble_eq_true rfl) dL_seen_88 ⟨Nat.zero_le _, Nat.zero_le _⟩ ?_
    refine lv_i2l (v := (tlA A 6 (k + 1)).toInt64) hx hb dL_seen_91 rfl ?_
    refine lv_ladd hx hb dL_seen_92 ?_
    refine lv_lmul hx hb dL_seen_93 ?_
    refine lv_aload_n hx hb dL_seen_94 rfl (lv_at hl 2 rfl) ?_
    refine lv_iload_n hx hb dL_seen_95 rfl (lv_at hl 0 rfl) ?_
    refine lv_bipush (v := 7) hx hb dL_seen_96 (by decide) ?_
    refine q_V (As := [.int (nI (k + 1)), .int (7:Int32)]) (rest := [.long (31 * (31 * sC (tlA A 6) (tlA A 7) h0 k + (tlA A 6 (k + 1)).toInt64))]) (C := RX7) (T0 := TX7) (N0 := 4) (ci := 6) hx hb hml hown hts hl.1 (kX7_tile l D E t (aZ0 q u) e7) zSt_mv (cwV 2 hts gL_seen_X7_tile rfl rfl rfl (by decide +kernel) ⟨Nat.le_of_ble_eq_true rfl, Nat.le_of_ble_eq_true rfl⟩) 0 rfl rfl hP hK hZ rfl rfl (Nat.le_of_ble_eq_true rfl) dL_seen_98 ⟨Nat.zero_le _, Nat.zero_le _⟩ ?_
    refine lv_i2l (v := (tlA A 7 (k + 1)).toInt64) hx hb dL_seen_101 rfl ?_
    refine lv_ladd hx hb dL_seen_102 ?_
    refine lv_lstore_n (lv' := [(1, .long (sC (tlA A 6) (tlA A 7) h0 (k + 1))), (3, .int (nI (k + 1))), (0, .ref q)]) hx hb dL_seen_103 rfl hl (by decide) rfl (fun ls hl => ?_)
    refine lv_iinc (v := nI (k + 1 + 1)) (lv' := [(3, .int (nI (k + 1 + 1))), (1, .long (sC (tlA A 6) (tlA A 7) h0 (k + 1))), (0, .ref q)]) hx hb dL_seen_104 hl (k := 1) rfl (nI_1 (k + 1)) (by decide) rfl (fun ls hl => ?_)
    refine lv_goto (tgt := 70) hx hb dL_seen_107 (by decide) ?_
    exact ih (k + 1) ls (by omega) hl
set_option maxRecDepth 100000 in
set_option maxHeartbeats 4000000 in
theorem seen_2 {p : Program} {l : Launch} {e : Env} {s : State} {m : MethodId} {below : List Frame} {meth : Method} {c : Code} {D : va_G} {E : Nat → ClassId} {t : Nat → Nat} {q : Nat} {u : Nat → Nat} {Z : Nat → FS} {A : AS} (h : SeenH Z A) (C : Ctx p s m meth c [.ref q] wsL_seen cL_seen 4 (some .long) RL) (hP : va_P D vwCl (wQ E (aZ0 q u) Z) s.heap) (hK : va_K D vwCl (tyE E) s) (hZ : zSt t s s.heap) (h0 : Int64) : ∀ (n k : Nat) (ls : Array Slot), k + n = 4 * A 2 0 → lv_has ls 4 [(3, .int (nI k)), (1, .long (sB (ofA A) h0 k)), (0, .ref q)] → WPL p l e (rmN 15 350) s m [.ref q] below meth c (sC (tlA A 6) (tlA A 7) (sB (ofA A) h0 (4 * A 2 0)) 31) 33 ls [] := by
  obtain ⟨hx, hb, hr, hml, hown, hlocks, hts⟩ := id C
  have hn := h.1
  have e0 : fX7_count Z (0:Int32) = some (nI (A 2 0)) := h.2.1 0 (by decide)
  have e4 : (4:Int32) * nI (A 2 0) = nI (4 * A 2 0) := pk_mul 4 (A 2 0)
  intro n
  induction n with
  | zero =>
    intro k ls hk hl
    have hk : k = 4 * A 2 0 := hk
    refine lv_iload_n hx hb dL_seen_33 rfl (lv_at hl 0 rfl) ?_
    refine lv_iconst (v := 4) hx hb dL_seen_34 (by decide) ?_
    refine lv_aload_n hx hb dL_seen_35 rfl (lv_at hl 2 rfl) ?_
    refine lv_iconst (v := 0) hx hb dL_seen_36 (by decide) ?_
    refine q_V (As := [.int (0:Int32)]) (rest := [.int 4, .int (nI k)]) (C := RX7) (T0 := TX7) (N0 := 4) (ci := 6) hx hb hml hown hts hl.1 (kX7_count l D E t (aZ0 q u) e0) zSt_mv (cwV 1 hts gL_seen_X7_count rfl rfl rfl (by decide +kernel) ⟨Nat.le_of_ble_eq_true rfl, Nat.le_of_ble_eq_true rfl⟩) 0 rfl rfl hP hK hZ rfl rfl (Nat.le_of_ble_eq_true rfl) dL_seen_37 ⟨Nat.zero_le _, Nat.zero_le _⟩ ?_
    refine lv_imul hx hb dL_seen_40 ?_
    refine lv_icmp_ge (tgt := 68) hx hb dL_seen_41 (by decide) (fun _ => ?_) (fun c9 => absurd (show (4:Int32) * nI (A 2 0) ≤ nI k from by rw [e4]; exact nI_le (by omega) (by omega)) c9)
    refine lv_iconst (v := 1) hx hb dL_seen_68 (by decide) ?_
    refine lv_istore_n (lv' := [(3, .int 1), (1, .long (sB (ofA A) h0 k)), (0, .ref q)]) hx hb dL_seen_69 rfl hl (by decide) rfl (fun ls hl => ?_)
    subst hk
    exact seen_3 h C hP hK hZ _ 31 0 ls rfl hl
  | succ n ih =>
    intro k ls hk hl
    have e1 : nI k / (4:Int32) = nI (k / 4) := pk_div (d := 4) (by omega) (by decide) (by decide)
    have e2 : nI k - nI k / (4:Int32) * (4:Int32) = nI (k % 4) := pk_rem (d := 4) (by omega) (by decide) (by decide)
    have e3 : fX7_of Z (nI k / (4:Int32)) (nI k - nI k / (4:Int32) * (4:Int32)) = some (ofA A k) := by
      rw [e2, e1]
      exact h.2.2.1 k
    refine lv_iload_n hx hb dL_seen_33 rfl (lv_at hl 0 rfl) ?_
    refine lv_iconst (v := 4) hx hb dL_seen_34 (by decide) ?_
    refine lv_aload_n hx hb dL_seen_35 rfl (lv_at hl 2 rfl) ?_
    refine lv_iconst (v := 0) hx hb dL_seen_36 (by decide) ?_
    refine q_V (As := [.int (0:Int32)]) (rest := [.int 4, .int (nI k)]) (C := RX7) (T0 := TX7) (N0 := 4) (ci := 6) hx hb hml hown hts hl.1 (kX7_count l D E t (aZ0 q u) e0) zSt_mv (cwV 1 hts gL_seen_X7_count rfl rfl rfl (by decide +kernel) ⟨Nat.le_of_ble_eq_true rfl, Nat.le_of_ble_eq_true rfl⟩) 0 rfl rfl hP hK hZ rfl rfl (Nat.le_of_ble_eq_true rfl) dL_seen_37 ⟨Nat.zero_le _, Nat.zero_le _⟩ ?_
    refine lv_imul hx hb dL_seen_40 ?_
    refine lv_icmp_ge (tgt := 68) hx hb dL_seen_41 (by decide) (fun c9 => absurd c9 (show ¬ (4:Int32) * nI (A 2 0) ≤ nI k from by rw [e4]; exact nI_ge (by omega) (by omega))) (fun _ => ?_)
    refine lv_ldc2 (v := 31) hx hb hown (hts _ lkL_seen_9) dL_seen_44 ?_
    refine lv_lload_n hx hb dL_seen_47 rfl (lv_at hl 1 rfl) ?_
    refine lv_lmul hx hb dL_seen_48 ?_
    refine lv_aload_n hx hb dL_seen_49 rfl (lv_at hl 2 rfl) ?_
    refine lv_iload_n hx hb dL_seen_50 rfl (lv_at hl 0 rfl) ?_
    refine lv_iconst (v := 4) hx hb dL_seen_51 (by decide) ?_
    refine lv_idiv hx hb dL_seen_52 (by decide) ?_
    refine lv_iload_n hx hb dL_seen_53 rfl (lv_at hl 0 rfl) ?_
    refine lv_iconst (v := 4) hx hb dL_seen_54 (by decide) ?_
    refine lv_irem hx hb dL_seen_55 (by decide) ?_
    refine q_V (As := [.int (nI k / (4:Int32)), .int (nI k - nI k / (4:Int32) * (4:Int32))]) (rest := [.long (31 * sB (ofA A) h0 k)]) (C := RX7) (T0 := TX7) (N0 := 4) (ci := 6) hx hb hml hown hts hl.1 (kX7_of l D E (aZ0 q u) e3) zNo_mv (cwV 2 hts gL_seen_X7_of rfl rfl rfl (by decide +kernel) ⟨Nat.le_of_ble_eq_true rfl, Nat.le_of_ble_eq_true rfl⟩) 0 rfl rfl hP hK trivial rfl rfl (Nat.le_of_ble_eq_true rfl) dL_seen_56 ⟨Nat.zero_le _, Nat.zero_le _⟩ ?_
    refine lv_i2l (v := (ofA A k).toInt64) hx hb dL_seen_59 rfl ?_
    refine lv_ladd hx hb dL_seen_60 ?_
    refine lv_lstore_n (lv' := [(1, .long (sB (ofA A) h0 (k + 1))), (3, .int (nI k)), (0, .ref q)]) hx hb dL_seen_61 rfl hl (by decide) rfl (fun ls hl => ?_)
    refine lv_iinc (v := nI (k + 1)) (lv' := [(3, .int (nI (k + 1))), (1, .long (sB (ofA A) h0 (k + 1))), (0, .ref q)]) hx hb dL_seen_62 hl (k := 1) rfl (nI_1 k) (by decide) rfl (fun ls hl => ?_)
    refine lv_goto (tgt := 33) hx hb dL_seen_65 (by decide) ?_
    exact ih (k + 1) ls (by omega) hl
set_option maxRecDepth 100000 in
set_option maxHeartbeats 4000000 in
theorem seen_1 {p : Program} {l : Launch} {e : Env} {s : State} {m : MethodId} {below : List Frame} {meth : Method} {c : Code} {D : va_G} {E : Nat → ClassId} {t : Nat → Nat} {q : Nat} {u : Nat → Nat} {Z : Nat → FS} {A : AS} (h : SeenH Z A) (C : Ctx p s m meth c [.ref q] wsL_seen cL_seen 4 (some .long) RL) (hP : va_P D vwCl (wQ E (aZ0 q u) Z) s.heap) (hK : va_K D vwCl (tyE E) s) (hZ : zSt t s s.heap) : ∀ (n k : Nat) (ls : Array Slot), k + n = 9 → lv_has ls 4 [(3, .int (nI k)), (1, .long (sA (cvA A) k)), (0, .ref q)] → WPL p l e (rmN 15 350) s m [.ref q] below meth c (sv A) 6 ls [] := by
  obtain ⟨hx, hb, hr, hml, hown, hlocks, hts⟩ := id C
  intro n
  induction n with
  | zero =>
    intro k ls hk hl
    have hk : k = 9 := hk
    subst hk
    refine lv_iload_n hx hb dL_seen_6 rfl (lv_at hl 0 rfl) ?_
    refine lv_bipush (v := 9) hx hb dL_seen_7 (by decide) ?_
    refine lv_icmp_ge (tgt := 31) hx hb dL_seen_9 (by decide) (fun _ => ?_) (fun c9 => absurd (by decide) c9)
    refine lv_iconst (v := 0) hx hb dL_seen_31 (by decide) ?_
    refine lv_istore_n (lv' := [(3, .int 0), (1, .long (sA (cvA A) 9)), (0, .ref q)]) hx hb dL_seen_32 rfl hl (by decide) rfl (fun ls hl => ?_)
    exact seen_2 h C hP hK hZ _ (4 * A 2 0) 0 ls (Nat.zero_add _) hl
  | succ n ih =>
    intro k ls hk hl
    have e6 := h.2.1 k (by omega)
    refine lv_iload_n hx hb dL_seen_6 rfl (lv_at hl 0 rfl) ?_
    refine lv_bipush (v := 9) hx hb dL_seen_7 (by decide) ?_
    refine lv_icmp_ge (tgt := 31) hx hb dL_seen_9 (by decide) (fun c9 => absurd c9 (show ¬ (9:Int32) ≤ nI k from nI_ge (b := 9) (by omega) (by decide))) (fun _ => ?_)
    refine lv_ldc2 (v := 31) hx hb hown (hts _ lkL_seen_9) dL_seen_12 ?_
    refine lv_lload_n hx hb dL_seen_15 rfl (lv_at hl 1 rfl) ?_
    refine lv_lmul hx hb dL_seen_16 ?_
    refine lv_aload_n hx hb dL_seen_17 rfl (lv_at hl 2 rfl) ?_
    refine lv_iload_n hx hb dL_seen_18 rfl (lv_at hl 0 rfl) ?_
    refine q_V (As := [.int (nI k)]) (rest := [.long (31 * sA (cvA A) k)]) (C := RX7) (T0 := TX7) (N0 := 4) (ci := 6) hx hb hml hown hts hl.1 (kX7_count l D E t (aZ0 q u) e6) zSt_mv (cwV 1 hts gL_seen_X7_count rfl rfl rfl (by decide +kernel) ⟨Nat.le_of_ble_eq_true rfl, Nat.le_of_ble_eq_true rfl⟩) 0 rfl rfl hP hK hZ rfl rfl (Nat.le_of_ble_eq_true rfl) dL_seen_19 ⟨Nat.zero_le _, Nat.zero_le _⟩ ?_
    refine lv_i2l (v := (cvA A k).toInt64) hx hb dL_seen_22 rfl ?_
    refine lv_ladd hx hb dL_seen_23 ?_
    refine lv_lstore_n (lv' := [(1, .long (sA (cvA A) (k + 1))), (3, .int (nI k)), (0, .ref q)]) hx hb dL_seen_24 rfl hl (by decide) rfl (fun ls hl => ?_)
    refine lv_iinc (v := nI (k + 1)) (lv' := [(3, .int (nI (k + 1))), (1, .long (sA (cvA A) (k + 1))), (0, .ref q)]) hx hb dL_seen_25 hl (k := 1) rfl (nI_1 k) (by decide) rfl (fun ls hl => ?_)
    refine lv_goto (tgt := 6) hx hb dL_seen_28 (by decide) ?_
    exact ih (k + 1) ls (by omega) hl
set_option maxRecDepth 100000 in
set_option maxHeartbeats 4000000 in
theorem kL_seen (l : Launch) (t : Nat → Nat) (D : va_G) (E : Nat → ClassId) (q : Nat) (u : Nat → Nat) {Z : Nat → FS} {A : AS} (h : SeenH Z A) : PUL l yL_seen wsL_seen (rmN 15 350) D E (zSt t) (wQ E (aZ0 q u) Z) [.ref q] (sv A) := by
  refine PUL.of (by decide) rfl (Nat.le_of_ble_eq_true rfl) ?_
  intro p e s m below meth c C hP hK hZ ls hl
  have hl : lv_has ls 4 [(0, .ref q)] := hl
  obtain ⟨hx, hb, hr, hml, hown, hlocks, hts⟩ := id C
  refine lv_ldc2 (v := 31) hx hb hown (hts _ lkL_seen_9) dL_seen_0 ?_
  refine lv_lstore_n (lv' := [(1, .long 31), (0, .ref q)]) hx hb dL_seen_3 rfl hl (by decide) rfl (fun ls hl => ?_)
  refine lv_iconst (v := 0) hx hb dL_seen_4 (by decide) ?_
  refine lv_istore_n (lv' := [(3, .int 0), (1, .long 31), (0, .ref q)]) hx hb dL_seen_5 rfl hl (by decide) rfl (fun ls hl => ?_)
  exact seen_1 h C hP hK hZ 9 0 ls rfl hl
