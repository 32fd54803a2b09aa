/-! the law, from its entry to its end -/
abbrev WLp (p : Program) (l : Launch) (e : Env) (s : State) (m : MethodId) (below : List Frame) (meth : Method) (c : Code) (b : Nat) (H : Heap) (locs : List Loc) (cells slots pc : Nat) (ls : Array Slot) (st : List Value) : Prop :=
  W p l e room_1 s m #[Value.ref b] below meth c H locs cells slots (lw_Z below #[Value.ref b] s) (F0 m pc ls st)
def CLq (p : Program) (s : State) (m : MethodId) (meth : Method) (c : Code) (b L : Nat) (xs : Nat → Int32) : Prop :=
  p.tables.exec = Jvm.exec ∧ c.code = cL_law ∧ meth.sig.returnType = ret ∧ c.maxLocals = 13 ∧ s.vm.findClass RL = some m.cls ∧ (∀ w ∈ wsL_law, w.before #[Value.ref b] s = true) ∧ va_X b L xs s s.heap ∧ b < s.heap.size ∧ L ≤ 260 ∧ meth.locks = false

set_option maxRecDepth 100000 in
set_option maxHeartbeats 4000000 in
theorem lp_284 {p : Program} {e : Env} {s : State} {m : MethodId} {below : List Frame} {meth : Method} {c : Code} {l : Launch} {b L : Nat} {xs : Nat → Int32} (CC : CLq p s m meth c b L xs) {D : va_G} {E : Nat → ClassId} (hK : va_K D vwCl (tyE E) s) {t : Nat → Nat} (hZ : zSX t (fun q : Nat => s.heap.size ≤ q) s) {q w : Nat} {kept : Int64} {k ac : Nat} (hk : k < 22) (hac : ac ≤ k) {f : Nat → Int64} {Z : Nat → FS} {M : FS} {A0 : AS} {s0 : Nat} {H0 : Nat → AS} {fl : Nat → Bool} {SL : Nat → AS} {C0 : Nat → Nat} {a0 : Nat} (hJ : JJ Z M A0 s0 H0 fl SL 0 C0 a0) {r : Int32} {Z1 : Nat → FS} (hst : StpQ Z A0 s0 H0 fl SL 0 C0 a0 r Z1) (hfa : f ac = sv A0) (i1 : LInv kept ac Z f) (i2 : ∀ (Z1 : Nat → FS) (M1 : FS) (A1 : AS), JJ Z1 M1 A1 (nxS s0) (nxH H0 s0 A0) fl SL 0 C0 a0 → (GO A0 → GO A1) → (1 ≤ A0 2 0 → 1 ≤ A1 2 0) → LInv kept (ac + 1) Z1 f) (cont : ∀ (ac1 : Nat) (Z2 : Nat → FS), ac1 ≤ k + 1 → LInv kept ac1 Z2 f → ∀ (u : Nat → Nat) (H : Heap) (locs : List Loc) (ls : Array Slot) (_ : va_P D vwCl (wQ E (aZ0 q u) Z2 ++ [aL E w f]) H) (_ : va_D (fun q : Nat => s.heap.size ≤ q) (wQ E (aZ0 q u) Z2 ++ [aL E w f])) (_ : va_S (fun q : Nat => s.heap.size ≤ q) s.heap H locs), lv_has ls 13 [(6, .int (nI (k + 1))), (3, .int (nI ac1)), (4, .long kept), (2, .ref w), (1, .ref q), (0, .ref b)] → WLp p l e s m below meth c b H locs 187 35908 67 ls []) (u : Nat → Nat) (H : Heap) (locs : List Loc) (ls : Array Slot) (hP : va_P D vwCl (wQ E (aZ0 q u) Z1 ++ [aL E w f]) H) (hD : va_D (fun q : Nat => s.heap.size ≤ q) (wQ E (aZ0 q u) Z1 ++ [aL E w f])) (hS : va_S (fun q : Nat => s.heap.size ≤ q) s.heap H locs) (hl : lv_has ls 13 [(9, .int (nI s0)), (6, .int (nI k)), (3, .int (nI ac)), (4, .long kept), (2, .ref w), (1, .ref q), (0, .ref b)]) : WLp p l e s m below meth c b H locs 187 35908 284 ls [.int r] := by
  obtain ⟨hx, hb, hr, hml, hown, hts, hX, hbl, hL, hlocks⟩ := id CC
  have hA : ∀ q : Nat, s.heap.size ≤ q → (fun q : Nat => s.heap.size ≤ q) q := fun _ h => h
  rcases hst with ⟨hr0, hz⟩ | ⟨hr0, M1, A1, j1, g1, g2⟩
  · subst hz
    refine lv_istore (lv' := [(12, .int r), (9, .int (nI s0)), (6, .int (nI k)), (3, .int (nI ac)), (4, .long kept), (2, .ref w), (1, .ref q), (0, .ref b)]) hx hb dL_law_284 hl (by decide) rfl (fun ls hl => ?_)
    refine lv_iload hx hb dL_law_286 (lv_at hl 0 rfl) ?_
    refine lv_if_ge (tgt := 315) hx hb dL_law_288 (by decide) (fun c9 => absurd hr0 (Int32.not_lt.mpr c9)) (fun _ => ?_)
    refine lv_aload_n hx hb dL_law_291 rfl (lv_at hl 6 rfl) ?_
    refine lv_bipush (v := 10) hx hb dL_law_292 (by decide) ?_
    refine q_V (As := [.int (10:Int32)]) (rest := []) (C := RX7) (T0 := TX7) (N0 := 4) (ci := 6) hx hb hml hown hts hl.1 (kX7_count l D E t (aZ0 q u) (count10_J hJ)) zSt_mv (cwV 1 hts gL_law_X7_count rfl rfl rfl (by decide +kernel) ⟨Nat.le_of_ble_eq_true rfl, Nat.le_of_ble_eq_true rfl⟩) 0 rfl rfl (hP.sub (ws' := wQ E (aZ0 q u) Z1) n38 rfl) hK (zSX_now hZ hS) rfl rfl (Nat.le_of_ble_eq_true rfl) dL_law_294 ⟨Nat.le_of_ble_eq_true rfl, Nat.le_of_ble_eq_true rfl⟩ ?_
    refine lv_iload hx hb dL_law_297 (lv_at hl 1 rfl) ?_
    refine lv_icmp_ne (tgt := 313) hx hb dL_law_299 (by decide) (fun c9 => absurd rfl c9) (fun _ => ?_)
    refine lv_aload_n hx hb dL_law_302 rfl (lv_at hl 6 rfl) ?_
    refine q_SL (As := [.ref q]) (rest := []) hx hb hml hown hts hl.1 (kL_seen l t D E q u (SeenJ hJ)) zSt_mv (va_cwS 1 hts gL_law_L_seen rfl rfl rfl (by decide +kernel) ⟨Nat.le_of_ble_eq_true rfl, Nat.le_of_ble_eq_true rfl⟩) (hP.sub (ws' := wQ E (aZ0 q u) Z1) n38 rfl) hK (zSX_now hZ hS) rfl rfl (Nat.le_of_ble_eq_true rfl) dL_law_303 ⟨Nat.le_of_ble_eq_true rfl, Nat.le_of_ble_eq_true rfl⟩ ?_
    refine lv_aload_n hx hb dL_law_306 rfl (lv_at hl 5 rfl) ?_
    refine lv_iload_n hx hb dL_law_307 rfl (lv_at hl 3 rfl) ?_
    refine va_lald hx hb hK hP 38 3 rfl rfl (vp_in_nI (by omega) (by omega)) dL_law_308 ?_
    refine W.lcmp hx hb dL_law_309 ?_
    refine lv_if_eq (tgt := 315) hx hb dL_law_310 (by decide) (fun _ => ?_) (fun c9 => absurd ((lg_cmp_eq _ _).mpr (by rw [nI_clamp (by omega), hfa])) c9)
    refine lv_iload_n hx hb dL_law_315 rfl (lv_at hl 3 rfl) ?_
    refine lv_iload hx hb dL_law_316 (lv_at hl 0 rfl) ?_
    refine lv_if_ge (tgt := 325) hx hb dL_law_318 (by decide) (fun c9 => absurd hr0 (Int32.not_lt.mpr c9)) (fun _ => ?_)
    refine lv_iconst (v := 0) hx hb dL_law_321 (by decide) ?_
    refine lv_goto (tgt := 326) hx hb dL_law_322 (by decide) ?_
    refine lv_iadd hx hb dL_law_326 ?_
    refine lv_istore_n (lv' := [(3, .int ((nI ac) + (0:Int32))), (12, .int r), (9, .int (nI s0)), (6, .int (nI k)), (4, .long kept), (2, .ref w), (1, .ref q), (0, .ref b)]) hx hb dL_law_327 rfl hl (by decide) rfl (fun ls hl => ?_)
    rw [show ((nI ac) + (0:Int32)) = nI ac from nI_add ac 0] at hl
    refine lv_iinc (v := nI (k + 1)) (lv' := [(6, .int (nI (k + 1))), (3, .int (nI ac)), (12, .int r), (9, .int (nI s0)), (4, .long kept), (2, .ref w), (1, .ref q), (0, .ref b)]) hx hb dL_law_328 hl (k := 3) rfl (nI_1 k) (by decide) rfl (fun ls hl => ?_)
    refine lv_goto (tgt := 67) hx hb dL_law_331 (by decide) ?_
    exact cont ac Z1 (by omega) i1 u H locs ls hP hD hS (lv_sub hl [0, 1, 4, 5, 6, 7] rfl)
  · refine lv_istore (lv' := [(12, .int r), (9, .int (nI s0)), (6, .int (nI k)), (3, .int (nI ac)), (4, .long kept), (2, .ref w), (1, .ref q), (0, .ref b)]) hx hb dL_law_284 hl (by decide) rfl (fun ls hl => ?_)
    refine lv_iload hx hb dL_law_286 (lv_at hl 0 rfl) ?_
    refine lv_if_ge (tgt := 315) hx hb dL_law_288 (by decide) (fun _ => ?_) (fun c9 => absurd (Int32.not_le.mp c9) hr0)
    refine lv_iload_n hx hb dL_law_315 rfl (lv_at hl 3 rfl) ?_
    refine lv_iload hx hb dL_law_316 (lv_at hl 0 rfl) ?_
    refine lv_if_ge (tgt := 325) hx hb dL_law_318 (by decide) (fun _ => ?_) (fun c9 => absurd (Int32.not_le.mp c9) hr0)
    refine lv_iconst (v := 1) hx hb dL_law_325 (by decide) ?_
    refine lv_iadd hx hb dL_law_326 ?_
    refine lv_istore_n (lv' := [(3, .int ((nI ac) + (1:Int32))), (12, .int r), (9, .int (nI s0)), (6, .int (nI k)), (4, .long kept), (2, .ref w), (1, .ref q), (0, .ref b)]) hx hb dL_law_327 rfl hl (by decide) rfl (fun ls hl => ?_)
    rw [show ((nI ac) + (1:Int32)) = nI (ac + 1) from nI_1 ac] at hl
    refine lv_iinc (v := nI (k + 1)) (lv' := [(6, .int (nI (k + 1))), (3, .int (nI (ac + 1))), (12, .int r), (9, .int (nI s0)), (4, .long kept), (2, .ref w), (1, .ref q), (0, .ref b)]) hx hb dL_law_328 hl (k := 3) rfl (nI_1 k) (by decide) rfl (fun ls hl => ?_)
    refine lv_goto (tgt := 67) hx hb dL_law_331 (by decide) ?_
    exact cont (ac + 1) Z1 (by omega) (i2 Z1 M1 A1 j1 g1 g2) u H locs ls hP hD hS (lv_sub hl [0, 1, 4, 5, 6, 7] rfl)

set_option maxRecDepth 100000 in
set_option maxHeartbeats 4000000 in
theorem lp_272 {p : Program} {e : Env} {s : State} {m : MethodId} {below : List Frame} {meth : Method} {c : Code} {l : Launch} {b L : Nat} {xs : Nat → Int32} (CC : CLq p s m meth c b L xs) {D : va_G} {E : Nat → ClassId} (hK : va_K D vwCl (tyE E) s) {t : Nat → Nat} (hZ : zSX t (fun q : Nat => s.heap.size ≤ q) s) {q w : Nat} {kept : Int64} {k ac : Nat} (hk : k < 22) (hac : ac ≤ k) {f : Nat → Int64} {Z : Nat → FS} {M : FS} {A0 : AS} {s0 : Nat} {H0 : Nat → AS} {fl : Nat → Bool} {SL : Nat → AS} {C0 : Nat → Nat} {a0 : Nat} (hJ : JJ Z M A0 s0 H0 fl SL 0 C0 a0) (hf0 : fl 0 = true) (hf1 : fl 1 = false) (hg : GO (SL 0)) (hn1 : SL 0 2 0 = 1) (hfa : f ac = sv A0) (i1 : LInv kept ac Z f) (i2 : ∀ (Z1 : Nat → FS) (M1 : FS) (A1 : AS), JJ Z1 M1 A1 (nxS s0) (nxH H0 s0 A0) fl SL 0 C0 a0 → (GO A0 → GO A1) → (1 ≤ A0 2 0 → 1 ≤ A1 2 0) → LInv kept (ac + 1) Z1 f) {x kd aa bb : Int32} (cont : ∀ (ac1 : Nat) (Z2 : Nat → FS), ac1 ≤ k + 1 → LInv kept ac1 Z2 f → ∀ (u : Nat → Nat) (H : Heap) (locs : List Loc) (ls : Array Slot) (_ : va_P D vwCl (wQ E (aZ0 q u) Z2 ++ [aL E w f]) H) (_ : va_D (fun q : Nat => s.heap.size ≤ q) (wQ E (aZ0 q u) Z2 ++ [aL E w f])) (_ : va_S (fun q : Nat => s.heap.size ≤ q) s.heap H locs), lv_has ls 13 [(6, .int (nI (k + 1))), (3, .int (nI ac1)), (4, .long kept), (2, .ref w), (1, .ref q), (0, .ref b)] → WLp p l e s m below meth c b H locs 187 35908 67 ls []) (u : Nat → Nat) (H : Heap) (locs : List Loc) (ls : Array Slot) (hP : va_P D vwCl (wQ E (aZ0 q u) Z ++ [aL E w f]) H) (hD : va_D (fun q : Nat => s.heap.size ≤ q) (wQ E (aZ0 q u) Z ++ [aL E w f])) (hS : va_S (fun q : Nat => s.heap.size ≤ q) s.heap H locs) (hl : lv_has ls 13 [(11, .int bb), (10, .int aa), (9, .int (nI s0)), (8, .int kd), (7, .int x), (6, .int (nI k)), (3, .int (nI ac)), (4, .long kept), (2, .ref w), (1, .ref q), (0, .ref b)]) : WLp p l e s m below meth c b H locs 187 35908 272 ls [] := by
  obtain ⟨hx, hb, hr, hml, hown, hts, hX, hbl, hL, hlocks⟩ := id CC
  have hA : ∀ q : Nat, s.heap.size ≤ q → (fun q : Nat => s.heap.size ≤ q) q := fun _ h => h
  obtain ⟨r1, Z1, e1, st1⟩ := restore_s hJ hf0 hf1 hg hn1 (pa (x >>> ((4:Int32) &&& 31)) (2:Int32))
  refine lv_aload_n hx hb dL_law_272 rfl (lv_at hl 9 rfl) ?_
  refine lv_iload hx hb dL_law_273 (lv_at hl 4 rfl) ?_
  refine lv_iconst (v := 4) hx hb dL_law_275 (by decide) ?_
  refine lv_ishr hx hb dL_law_276 ?_
  refine lv_iconst (v := 2) hx hb dL_law_277 (by decide) ?_
  refine q_S (W9 := []) (As := [.int (x >>> ((4:Int32) &&& 31)), .int (2:Int32)]) (rest := [.ref q]) hx hb hml hown hts hl.1 (kL_part l D E (by decide)) zNo_mv (va_cwS 2 hts gL_law_L_part rfl rfl rfl (by decide +kernel) ⟨Nat.le_of_ble_eq_true rfl, Nat.le_of_ble_eq_true rfl⟩) va_P_nil hK trivial rfl rfl (Nat.le_of_ble_eq_true rfl) dL_law_278 ⟨Nat.le_of_ble_eq_true rfl, Nat.le_of_ble_eq_true rfl⟩ ?_
  refine t1_VI (As := [.int (pa (x >>> ((4:Int32) &&& 31)) (2:Int32))]) (rest := []) (Z1 := Z1) hx hb hml hown hts hl.1 (kX7_restore l D E (aZ0 q u) H.size e1) (cwV 1 hts gL_law_X7_restore rfl rfl rfl (by decide +kernel) ⟨Nat.le_of_ble_eq_true rfl, Nat.le_of_ble_eq_true rfl⟩) hP hD hS hA hK rfl rfl (Nat.le_of_ble_eq_true rfl) dL_law_281 ⟨Nat.le_of_ble_eq_true rfl, Nat.le_of_ble_eq_true rfl⟩ (fun u101 H locs hP hD hS => ?_)
  exact lp_284 CC hK hZ hk hac hJ st1 hfa i1 i2 cont u101 H locs ls hP hD hS (lv_sub hl [2, 5, 6, 7, 8, 9, 10] rfl)

set_option maxRecDepth 100000 in
set_option maxHeartbeats 4000000 in
theorem lp_240 {p : Program} {e : Env} {s : State} {m : MethodId} {below : List Frame} {meth : Method} {c : Code} {l : Launch} {b L : Nat} {xs : Nat → Int32} (CC : CLq p s m meth c b L xs) {D : va_G} {E : Nat → ClassId} (hK : va_K D vwCl (tyE E) s) {t : Nat → Nat} (hZ : zSX t (fun q : Nat => s.heap.size ≤ q) s) {q w : Nat} {kept : Int64} {k ac : Nat} (hk : k < 22) (hac : ac ≤ k) {f : Nat → Int64} {Z : Nat → FS} {M : FS} {A0 : AS} {s0 : Nat} {H0 : Nat → AS} {fl : Nat → Bool} {SL : Nat → AS} {C0 : Nat → Nat} {a0 : Nat} (hJ : JJ Z M A0 s0 H0 fl SL 0 C0 a0) (hf0 : fl 0 = true) (hf1 : fl 1 = false) (hg : GO (SL 0)) (hn1 : SL 0 2 0 = 1) (hfa : f ac = sv A0) (i1 : LInv kept ac Z f) (i2 : ∀ (Z1 : Nat → FS) (M1 : FS) (A1 : AS), JJ Z1 M1 A1 (nxS s0) (nxH H0 s0 A0) fl SL 0 C0 a0 → (GO A0 → GO A1) → (1 ≤ A0 2 0 → 1 ≤ A1 2 0) → LInv kept (ac + 1) Z1 f) {x kd aa bb : Int32} (cont : ∀ (ac1 : Nat) (Z2 : Nat → FS), ac1 ≤ k + 1 → LInv kept ac1 Z2 f → ∀ (u : Nat → Nat) (H : Heap) (locs : List Loc) (ls : Array Slot) (_ : va_P D vwCl (wQ E (aZ0 q u) Z2 ++ [aL E w f]) H) (_ : va_D (fun q : Nat => s.heap.size ≤ q) (wQ E (aZ0 q u) Z2 ++ [aL E w f])) (_ : va_S (fun q : Nat => s.heap.size ≤ q) s.heap H locs), lv_has ls 13 [(6, .int (nI (k + 1))), (3, .int (nI ac1)), (4, .long kept), (2, .ref w), (1, .ref q), (0, .ref b)] → WLp p l e s m below meth c b H locs 187 35908 67 ls []) (u : Nat → Nat) (H : Heap) (locs : List Loc) (ls : Array Slot) (hP : va_P D vwCl (wQ E (aZ0 q u) Z ++ [aL E w f]) H) (hD : va_D (fun q : Nat => s.heap.size ≤ q) (wQ E (aZ0 q u) Z ++ [aL E w f])) (hS : va_S (fun q : Nat => s.heap.size ≤ q) s.heap H locs) (hl : lv_has ls 13 [(11, .int bb), (10, .int aa), (9, .int (nI s0)), (8, .int kd), (7, .int x), (6, .int (nI k)), (3, .int (nI ac)), (4, .long kept), (2, .ref w), (1, .ref q), (0, .ref b)]) : WLp p l e s m below meth c b H locs 187 35908 240 ls [] := by
  obtain ⟨hx, hb, hr, hml, hown, hts, hX, hbl, hL, hlocks⟩ := id CC
  have hA : ∀ q : Nat, s.heap.size ≤ q → (fun q : Nat => s.heap.size ≤ q) q := fun _ h => h
  refine lv_iload hx hb dL_law_240 (lv_at hl 3 rfl) ?_
  refine lv_bipush (v := 7) hx hb dL_law_242 (by decide) ?_
  refine lv_icmp_ne (tgt := 272) hx hb dL_law_244 (by decide) (fun _ => ?_) (fun _ => ?_)
  · exact lp_272 CC hK hZ hk hac hJ hf0 hf1 hg hn1 hfa i1 i2 cont u H locs ls hP hD hS hl
  · obtain ⟨r1, Z1, e1, st1⟩ := set_s hJ (pa (x >>> ((4:Int32) &&& 31)) (3:Int32)) (pa (x >>> ((6:Int32) &&& 31)) (7:Int32))
    refine lv_aload_n hx hb dL_law_247 rfl (lv_at hl 9 rfl) ?_
    refine lv_iload hx hb dL_law_248 (lv_at hl 4 rfl) ?_
    refine lv_iconst (v := 4) hx hb dL_law_250 (by decide) ?_
    refine lv_ishr hx hb dL_law_251 ?_
    refine lv_iconst (v := 3) hx hb dL_law_252 (by decide) ?_
    refine q_S (W9 := []) (As := [.int (x >>> ((4:Int32) &&& 31)), .int (3:Int32)]) (rest := [.ref q]) hx hb hml hown hts hl.1 (kL_part l D E (by decide)) zNo_mv (va_cwS 2 hts gL_law_L_part rfl rfl rfl (by decide +kernel) ⟨Nat.le_of_ble_eq_true rfl, Nat.le_of_ble_eq_true rfl⟩) va_P_nil hK trivial rfl rfl (Nat.le_of_ble_eq_true rfl) dL_law_253 ⟨Nat.le_of_ble_eq_true rfl, Nat.le_of_ble_eq_true rfl⟩ ?_
    refine lv_iload hx hb dL_law_256 (lv_at hl 4 rfl) ?_
    refine lv_bipush (v := 6) hx hb dL_law_258 (by decide) ?_
    refine lv_ishr hx hb dL_law_260 ?_
    refine lv_bipush (v := 7) hx hb dL_law_261 (by decide) ?_
    refine q_S (W9 := []) (As := [.int (x >>> ((6:Int32) &&& 31)), .int (7:Int32)]) (rest := [.int (pa (x >>> ((4:Int32) &&& 31)) (3:Int32)), .ref q]) hx hb hml hown hts hl.1 (kL_part l D E (by decide)) zNo_mv (va_cwS 2 hts gL_law_L_part rfl rfl rfl (by decide +kernel) ⟨Nat.le_of_ble_eq_true rfl, Nat.le_of_ble_eq_true rfl⟩) va_P_nil hK trivial rfl rfl (Nat.le_of_ble_eq_true rfl) dL_law_263 ⟨Nat.le_of_ble_eq_true rfl, Nat.le_of_ble_eq_true rfl⟩ ?_
    refine t1_VI (As := [.int (pa (x >>> ((4:Int32) &&& 31)) (3:Int32)), .int (pa (x >>> ((6:Int32) &&& 31)) (7:Int32))]) (rest := []) (Z1 := Z1) hx hb hml hown hts hl.1 (kX7_set l D E (aZ0 q u) H.size e1) (cwV 2 hts gL_law_X7_set rfl rfl rfl (by decide +kernel) ⟨Nat.le_of_ble_eq_true rfl, Nat.le_of_ble_eq_true rfl⟩) hP hD hS hA hK rfl rfl (Nat.le_of_ble_eq_true rfl) dL_law_266 ⟨Nat.le_of_ble_eq_true rfl, Nat.le_of_ble_eq_true rfl⟩ (fun u102 H locs hP hD hS => ?_)
    refine lv_goto (tgt := 284) hx hb dL_law_269 (by decide) ?_
    exact lp_284 CC hK hZ hk hac hJ st1 hfa i1 i2 cont u102 H locs ls hP hD hS (lv_sub hl [2, 5, 6, 7, 8, 9, 10] rfl)

set_option maxRecDepth 100000 in
set_option maxHeartbeats 4000000 in
theorem lp_200 {p : Program} {e : Env} {s : State} {m : MethodId} {below : List Frame} {meth : Method} {c : Code} {l : Launch} {b L : Nat} {xs : Nat → Int32} (CC : CLq p s m meth c b L xs) {D : va_G} {E : Nat → ClassId} (hK : va_K D vwCl (tyE E) s) {t : Nat → Nat} (hZ : zSX t (fun q : Nat => s.heap.size ≤ q) s) {q w : Nat} {kept : Int64} {k ac : Nat} (hk : k < 22) (hac : ac ≤ k) {f : Nat → Int64} {Z : Nat → FS} {M : FS} {A0 : AS} {s0 : Nat} {H0 : Nat → AS} {fl : Nat → Bool} {SL : Nat → AS} {C0 : Nat → Nat} {a0 : Nat} (hJ : JJ Z M A0 s0 H0 fl SL 0 C0 a0) (hf0 : fl 0 = true) (hf1 : fl 1 = false) (hg : GO (SL 0)) (hn1 : SL 0 2 0 = 1) (hfa : f ac = sv A0) (i1 : LInv kept ac Z f) (i2 : ∀ (Z1 : Nat → FS) (M1 : FS) (A1 : AS), JJ Z1 M1 A1 (nxS s0) (nxH H0 s0 A0) fl SL 0 C0 a0 → (GO A0 → GO A1) → (1 ≤ A0 2 0 → 1 ≤ A1 2 0) → LInv kept (ac + 1) Z1 f) {x kd aa bb : Int32} (cont : ∀ (ac1 : Nat) (Z2 : Nat → FS), ac1 ≤ k + 1 → LInv kept ac1 Z2 f → ∀ (u : Nat → Nat) (H : Heap) (locs : List Loc) (ls : Array Slot) (_ : va_P D vwCl (wQ E (aZ0 q u) Z2 ++ [aL E w f]) H) (_ : va_D (fun q : Nat => s.heap.size ≤ q) (wQ E (aZ0 q u) Z2 ++ [aL E w f])) (_ : va_S (fun q : Nat => s.heap.size ≤ q) s.heap H locs), lv_has ls 13 [(6, .int (nI (k + 1))), (3, .int (nI ac1)), (4, .long kept), (2, .ref w), (1, .ref q), (0, .ref b)] → WLp p l e s m below meth c b H locs 187 35908 67 ls []) (u : Nat → Nat) (H : Heap) (locs : List Loc) (ls : Array Slot) (hP : va_P D vwCl (wQ E (aZ0 q u) Z ++ [aL E w f]) H) (hD : va_D (fun q : Nat => s.heap.size ≤ q) (wQ E (aZ0 q u) Z ++ [aL E w f])) (hS : va_S (fun q : Nat => s.heap.size ≤ q) s.heap H locs) (hl : lv_has ls 13 [(11, .int bb), (10, .int aa), (9, .int (nI s0)), (8, .int kd), (7, .int x), (6, .int (nI k)), (3, .int (nI ac)), (4, .long kept), (2, .ref w), (1, .ref q), (0, .ref b)]) : WLp p l e s m below meth c b H locs 187 35908 200 ls [] := by
  obtain ⟨hx, hb, hr, hml, hown, hts, hX, hbl, hL, hlocks⟩ := id CC
  have hA : ∀ q : Nat, s.heap.size ≤ q → (fun q : Nat => s.heap.size ≤ q) q := fun _ h => h
  refine lv_iload hx hb dL_law_200 (lv_at hl 3 rfl) ?_
  refine lv_bipush (v := 6) hx hb dL_law_202 (by decide) ?_
  refine lv_icmp_ne (tgt := 240) hx hb dL_law_204 (by decide) (fun _ => ?_) (fun _ => ?_)
  · exact lp_240 CC hK hZ hk hac hJ hf0 hf1 hg hn1 hfa i1 i2 cont u H locs ls hP hD hS hl
  · refine lv_aload_n hx hb dL_law_207 rfl (lv_at hl 9 rfl) ?_
    refine lv_iload hx hb dL_law_208 (lv_at hl 4 rfl) ?_
    refine lv_iconst (v := 4) hx hb dL_law_210 (by decide) ?_
    refine lv_ishr hx hb dL_law_211 ?_
    refine lv_bipush (v := 24) hx hb dL_law_212 (by decide) ?_
    refine q_S (W9 := []) (As := [.int (x >>> ((4:Int32) &&& 31)), .int (24:Int32)]) (rest := [.ref q]) hx hb hml hown hts hl.1 (kL_part l D E (by decide)) zNo_mv (va_cwS 2 hts gL_law_L_part rfl rfl rfl (by decide +kernel) ⟨Nat.le_of_ble_eq_true rfl, Nat.le_of_ble_eq_true rfl⟩) va_P_nil hK trivial rfl rfl (Nat.le_of_ble_eq_true rfl) dL_law_214 ⟨Nat.le_of_ble_eq_true rfl, Nat.le_of_ble_eq_true rfl⟩ ?_
    obtain ⟨j9, hj9, ej9⟩ := pa_lt (x >>> ((4:Int32) &&& 31)) (k := 24) (by decide) (by decide)
    rw [show pa (x >>> ((4:Int32) &&& 31)) (24:Int32) = nI j9 from ej9]
    refine lv_iload hx hb dL_law_217 (lv_at hl 4 rfl) ?_
    refine lv_bipush (v := 10) hx hb dL_law_219 (by decide) ?_
    refine lv_ishr hx hb dL_law_221 ?_
    refine lv_iconst (v := 2) hx hb dL_law_222 (by decide) ?_
    refine q_S (W9 := []) (As := [.int (x >>> ((10:Int32) &&& 31)), .int (2:Int32)]) (rest := [.int (nI j9), .ref q]) hx hb hml hown hts hl.1 (kL_part l D E (by decide)) zNo_mv (va_cwS 2 hts gL_law_L_part rfl rfl rfl (by decide +kernel) ⟨Nat.le_of_ble_eq_true rfl, Nat.le_of_ble_eq_true rfl⟩) va_P_nil hK trivial rfl rfl (Nat.le_of_ble_eq_true rfl) dL_law_223 ⟨Nat.le_of_ble_eq_true rfl, Nat.le_of_ble_eq_true rfl⟩ ?_
    refine lv_if_ne (tgt := 233) hx hb dL_law_226 (by decide) (fun _ => ?_) (fun _ => ?_)
    · obtain ⟨r1, Z1, e1, st1⟩ := split_s hJ hj9 (x2 := (0:Int32)) (by decide)
      refine lv_iconst (v := 0) hx hb dL_law_233 (by decide) ?_
      refine t1_VI (As := [.int (nI j9), .int (0:Int32)]) (rest := []) (Z1 := Z1) hx hb hml hown hts hl.1 (kX7_split l D E (aZ0 q u) H.size e1) (cwV 2 hts gL_law_X7_split rfl rfl rfl (by decide +kernel) ⟨Nat.le_of_ble_eq_true rfl, Nat.le_of_ble_eq_true rfl⟩) hP hD hS hA hK rfl rfl (Nat.le_of_ble_eq_true rfl) dL_law_234 ⟨Nat.le_of_ble_eq_true rfl, Nat.le_of_ble_eq_true rfl⟩ (fun u103 H locs hP hD hS => ?_)
      refine lv_goto (tgt := 284) hx hb dL_law_237 (by decide) ?_
      exact lp_284 CC hK hZ hk hac hJ st1 hfa i1 i2 cont u103 H locs ls hP hD hS (lv_sub hl [2, 5, 6, 7, 8, 9, 10] rfl)
    · obtain ⟨r1, Z1, e1, st1⟩ := split_s hJ hj9 (x2 := (1:Int32)) (by decide)
      refine lv_iconst (v := 1) hx hb dL_law_229 (by decide) ?_
      refine lv_goto (tgt := 234) hx hb dL_law_230 (by decide) ?_
      refine t1_VI (As := [.int (nI j9), .int (1:Int32)]) (rest := []) (Z1 := Z1) hx hb hml hown hts hl.1 (kX7_split l D E (aZ0 q u) H.size e1) (cwV 2 hts gL_law_X7_split rfl rfl rfl (by decide +kernel) ⟨Nat.le_of_ble_eq_true rfl, Nat.le_of_ble_eq_true rfl⟩) hP hD hS hA hK rfl rfl (Nat.le_of_ble_eq_true rfl) dL_law_234 ⟨Nat.le_of_ble_eq_true rfl, Nat.le_of_ble_eq_true rfl⟩ (fun u104 H locs hP hD hS => ?_)
      refine lv_goto (tgt := 284) hx hb dL_law_237 (by decide) ?_
      exact lp_284 CC hK hZ hk hac hJ st1 hfa i1 i2 cont u104 H locs ls hP hD hS (lv_sub hl [2, 5, 6, 7, 8, 9, 10] rfl)

set_option maxRecDepth 100000 in
set_option maxHeartbeats 4000000 in
theorem lp_180 {p : Program} {e : Env} {s : State} {m : MethodId} {below : List Frame} {meth : Method} {c : Code} {l : Launch} {b L : Nat} {xs : Nat → Int32} (CC : CLq p s m meth c b L xs) {D : va_G} {E : Nat → ClassId} (hK : va_K D vwCl (tyE E) s) {t : Nat → Nat} (hZ : zSX t (fun q : Nat => s.heap.size ≤ q) s) {q w : Nat} {kept : Int64} {k ac : Nat} (hk : k < 22) (hac : ac ≤ k) {f : Nat → Int64} {Z : Nat → FS} {M : FS} {A0 : AS} {s0 : Nat} {H0 : Nat → AS} {fl : Nat → Bool} {SL : Nat → AS} {C0 : Nat → Nat} {a0 : Nat} (hJ : JJ Z M A0 s0 H0 fl SL 0 C0 a0) (hf0 : fl 0 = true) (hf1 : fl 1 = false) (hg : GO (SL 0)) (hn1 : SL 0 2 0 = 1) (hfa : f ac = sv A0) (i1 : LInv kept ac Z f) (i2 : ∀ (Z1 : Nat → FS) (M1 : FS) (A1 : AS), JJ Z1 M1 A1 (nxS s0) (nxH H0 s0 A0) fl SL 0 C0 a0 → (GO A0 → GO A1) → (1 ≤ A0 2 0 → 1 ≤ A1 2 0) → LInv kept (ac + 1) Z1 f) {x kd aa bb : Int32} (cont : ∀ (ac1 : Nat) (Z2 : Nat → FS), ac1 ≤ k + 1 → LInv kept ac1 Z2 f → ∀ (u : Nat → Nat) (H : Heap) (locs : List Loc) (ls : Array Slot) (_ : va_P D vwCl (wQ E (aZ0 q u) Z2 ++ [aL E w f]) H) (_ : va_D (fun q : Nat => s.heap.size ≤ q) (wQ E (aZ0 q u) Z2 ++ [aL E w f])) (_ : va_S (fun q : Nat => s.heap.size ≤ q) s.heap H locs), lv_has ls 13 [(6, .int (nI (k + 1))), (3, .int (nI ac1)), (4, .long kept), (2, .ref w), (1, .ref q), (0, .ref b)] → WLp p l e s m below meth c b H locs 187 35908 67 ls []) (u : Nat → Nat) (H : Heap) (locs : List Loc) (ls : Array Slot) (hP : va_P D vwCl (wQ E (aZ0 q u) Z ++ [aL E w f]) H) (hD : va_D (fun q : Nat => s.heap.size ≤ q) (wQ E (aZ0 q u) Z ++ [aL E w f])) (hS : va_S (fun q : Nat => s.heap.size ≤ q) s.heap H locs) (hl : lv_has ls 13 [(11, .int bb), (10, .int aa), (9, .int (nI s0)), (8, .int kd), (7, .int x), (6, .int (nI k)), (3, .int (nI ac)), (4, .long kept), (2, .ref w), (1, .ref q), (0, .ref b)]) : WLp p l e s m below meth c b H locs 187 35908 180 ls [] := by
  obtain ⟨hx, hb, hr, hml, hown, hts, hX, hbl, hL, hlocks⟩ := id CC
  have hA : ∀ q : Nat, s.heap.size ≤ q → (fun q : Nat => s.heap.size ≤ q) q := fun _ h => h
  refine lv_iload hx hb dL_law_180 (lv_at hl 3 rfl) ?_
  refine lv_bipush (v := 6) hx hb dL_law_182 (by decide) ?_
  refine lv_icmp_ge (tgt := 200) hx hb dL_law_184 (by decide) (fun _ => ?_) (fun _ => ?_)
  · exact lp_200 CC hK hZ hk hac hJ hf0 hf1 hg hn1 hfa i1 i2 cont u H locs ls hP hD hS hl
  · obtain ⟨r1, Z1, e1, st1⟩ := move_s hJ aa bb bb
    refine lv_aload_n hx hb dL_law_187 rfl (lv_at hl 9 rfl) ?_
    refine lv_iload hx hb dL_law_188 (lv_at hl 1 rfl) ?_
    refine lv_iload hx hb dL_law_190 (lv_at hl 0 rfl) ?_
    refine lv_iload hx hb dL_law_192 (lv_at hl 0 rfl) ?_
    refine t1_VI (As := [.int aa, .int bb, .int bb]) (rest := []) (Z1 := Z1) hx hb hml hown hts hl.1 (kX7_move l D E (aZ0 q u) H.size e1) (cwV 3 hts gL_law_X7_move rfl rfl rfl (by decide +kernel) ⟨Nat.le_of_ble_eq_true rfl, Nat.le_of_ble_eq_true rfl⟩) hP hD hS hA hK rfl rfl (Nat.le_of_ble_eq_true rfl) dL_law_194 ⟨Nat.le_of_ble_eq_true rfl, Nat.le_of_ble_eq_true rfl⟩ (fun u105 H locs hP hD hS => ?_)
    refine lv_goto (tgt := 284) hx hb dL_law_197 (by decide) ?_
    exact lp_284 CC hK hZ hk hac hJ st1 hfa i1 i2 cont u105 H locs ls hP hD hS (lv_sub hl [2, 5, 6, 7, 8, 9, 10] rfl)

set_option maxRecDepth 100000 in
set_option maxHeartbeats 4000000 in
theorem lp_156 {p : Program} {e : Env} {s : State} {m : MethodId} {below : List Frame} {meth : Method} {c : Code} {l : Launch} {b L : Nat} {xs : Nat → Int32} (CC : CLq p s m meth c b L xs) {D : va_G} {E : Nat → ClassId} (hK : va_K D vwCl (tyE E) s) {t : Nat → Nat} (hZ : zSX t (fun q : Nat => s.heap.size ≤ q) s) {q w : Nat} {kept : Int64} {k ac : Nat} (hk : k < 22) (hac : ac ≤ k) {f : Nat → Int64} {Z : Nat → FS} {M : FS} {A0 : AS} {s0 : Nat} {H0 : Nat → AS} {fl : Nat → Bool} {SL : Nat → AS} {C0 : Nat → Nat} {a0 : Nat} (hJ : JJ Z M A0 s0 H0 fl SL 0 C0 a0) (hf0 : fl 0 = true) (hf1 : fl 1 = false) (hg : GO (SL 0)) (hn1 : SL 0 2 0 = 1) (hfa : f ac = sv A0) (i1 : LInv kept ac Z f) (i2 : ∀ (Z1 : Nat → FS) (M1 : FS) (A1 : AS), JJ Z1 M1 A1 (nxS s0) (nxH H0 s0 A0) fl SL 0 C0 a0 → (GO A0 → GO A1) → (1 ≤ A0 2 0 → 1 ≤ A1 2 0) → LInv kept (ac + 1) Z1 f) {x kd aa bb : Int32} (cont : ∀ (ac1 : Nat) (Z2 : Nat → FS), ac1 ≤ k + 1 → LInv kept ac1 Z2 f → ∀ (u : Nat → Nat) (H : Heap) (locs : List Loc) (ls : Array Slot) (_ : va_P D vwCl (wQ E (aZ0 q u) Z2 ++ [aL E w f]) H) (_ : va_D (fun q : Nat => s.heap.size ≤ q) (wQ E (aZ0 q u) Z2 ++ [aL E w f])) (_ : va_S (fun q : Nat => s.heap.size ≤ q) s.heap H locs), lv_has ls 13 [(6, .int (nI (k + 1))), (3, .int (nI ac1)), (4, .long kept), (2, .ref w), (1, .ref q), (0, .ref b)] → WLp p l e s m below meth c b H locs 187 35908 67 ls []) (u : Nat → Nat) (H : Heap) (locs : List Loc) (ls : Array Slot) (hP : va_P D vwCl (wQ E (aZ0 q u) Z ++ [aL E w f]) H) (hD : va_D (fun q : Nat => s.heap.size ≤ q) (wQ E (aZ0 q u) Z ++ [aL E w f])) (hS : va_S (fun q : Nat => s.heap.size ≤ q) s.heap H locs) (hl : lv_has ls 13 [(11, .int bb), (10, .int aa), (9, .int (nI s0)), (8, .int kd), (7, .int x), (6, .int (nI k)), (3, .int (nI ac)), (4, .long kept), (2, .ref w), (1, .ref q), (0, .ref b)]) : WLp p l e s m below meth c b H locs 187 35908 156 ls [] := by
  obtain ⟨hx, hb, hr, hml, hown, hts, hX, hbl, hL, hlocks⟩ := id CC
  have hA : ∀ q : Nat, s.heap.size ≤ q → (fun q : Nat => s.heap.size ≤ q) q := fun _ h => h
  refine lv_iload hx hb dL_law_156 (lv_at hl 3 rfl) ?_
  refine lv_iconst (v := 4) hx hb dL_law_158 (by decide) ?_
  refine lv_icmp_ne (tgt := 180) hx hb dL_law_159 (by decide) (fun _ => ?_) (fun _ => ?_)
  · exact lp_180 CC hK hZ hk hac hJ hf0 hf1 hg hn1 hfa i1 i2 cont u H locs ls hP hD hS hl
  · refine lv_aload_n hx hb dL_law_162 rfl (lv_at hl 9 rfl) ?_
    refine lv_iconst (v := 0) hx hb dL_law_163 (by decide) ?_
    refine q_V (As := [.int (0:Int32)]) (rest := []) (C := RX7) (T0 := TX7) (N0 := 4) (ci := 6) hx hb hml hown hts hl.1 (kX7_count l D E t (aZ0 q u) (count0_J hJ)) zSt_mv (cwV 1 hts gL_law_X7_count rfl rfl rfl (by decide +kernel) ⟨Nat.le_of_ble_eq_true rfl, Nat.le_of_ble_eq_true rfl⟩) 0 rfl rfl (hP.sub (ws' := wQ E (aZ0 q u) Z) n38 rfl) hK (zSX_now hZ hS) rfl rfl (Nat.le_of_ble_eq_true rfl) dL_law_164 ⟨Nat.le_of_ble_eq_true rfl, Nat.le_of_ble_eq_true rfl⟩ ?_
    refine lv_iconst (v := 1) hx hb dL_law_167 (by decide) ?_
    refine lv_icmp_le (tgt := 180) hx hb dL_law_168 (by decide) (fun _ => ?_) (fun c9 => ?_)
    · exact lp_180 CC hK hZ hk hac hJ hf0 hf1 hg hn1 hfa i1 i2 cont u H locs ls hP hD hS hl
    · have hn := hJ.1.1
      have h2 : 2 ≤ A0 2 0 := by
        rcases Nat.lt_or_ge 1 (A0 2 0) with h9 | h9
        · exact h9
        · exact absurd (show nI (A0 2 0) ≤ 1 from nI_le (b := 1) h9 (by decide)) c9
      obtain ⟨r1, Z1, e1, st1⟩ := take_s hJ h2 aa
      refine lv_aload_n hx hb dL_law_171 rfl (lv_at hl 9 rfl) ?_
      refine lv_iload hx hb dL_law_172 (lv_at hl 1 rfl) ?_
      refine t1_VI (As := [.int aa]) (rest := []) (Z1 := Z1) hx hb hml hown hts hl.1 (kX7_take l D E (aZ0 q u) H.size e1) (cwV 1 hts gL_law_X7_take rfl rfl rfl (by decide +kernel) ⟨Nat.le_of_ble_eq_true rfl, Nat.le_of_ble_eq_true rfl⟩) hP hD hS hA hK rfl rfl (Nat.le_of_ble_eq_true rfl) dL_law_174 ⟨Nat.le_of_ble_eq_true rfl, Nat.le_of_ble_eq_true rfl⟩ (fun u106 H locs hP hD hS => ?_)
      refine lv_goto (tgt := 284) hx hb dL_law_177 (by decide) ?_
      exact lp_284 CC hK hZ hk hac hJ st1 hfa i1 i2 cont u106 H locs ls hP hD hS (lv_sub hl [2, 5, 6, 7, 8, 9, 10] rfl)

set_option maxRecDepth 100000 in
set_option maxHeartbeats 4000000 in
theorem lp_139 {p : Program} {e : Env} {s : State} {m : MethodId} {below : List Frame} {meth : Method} {c : Code} {l : Launch} {b L : Nat} {xs : Nat → Int32} (CC : CLq p s m meth c b L xs) {D : va_G} {E : Nat → ClassId} (hK : va_K D vwCl (tyE E) s) {t : Nat → Nat} (hZ : zSX t (fun q : Nat => s.heap.size ≤ q) s) {q w : Nat} {kept : Int64} {k ac : Nat} (hk : k < 22) (hac : ac ≤ k) {f : Nat → Int64} {Z : Nat → FS} {M : FS} {A0 : AS} {s0 : Nat} {H0 : Nat → AS} {fl : Nat → Bool} {SL : Nat → AS} {C0 : Nat → Nat} {a0 : Nat} (hJ : JJ Z M A0 s0 H0 fl SL 0 C0 a0) (hf0 : fl 0 = true) (hf1 : fl 1 = false) (hg : GO (SL 0)) (hn1 : SL 0 2 0 = 1) (hfa : f ac = sv A0) (i1 : LInv kept ac Z f) (i2 : ∀ (Z1 : Nat → FS) (M1 : FS) (A1 : AS), JJ Z1 M1 A1 (nxS s0) (nxH H0 s0 A0) fl SL 0 C0 a0 → (GO A0 → GO A1) → (1 ≤ A0 2 0 → 1 ≤ A1 2 0) → LInv kept (ac + 1) Z1 f) {x kd aa bb : Int32} (cont : ∀ (ac1 : Nat) (Z2 : Nat → FS), ac1 ≤ k + 1 → LInv kept ac1 Z2 f → ∀ (u : Nat → Nat) (H : Heap) (locs : List Loc) (ls : Array Slot) (_ : va_P D vwCl (wQ E (aZ0 q u) Z2 ++ [aL E w f]) H) (_ : va_D (fun q : Nat => s.heap.size ≤ q) (wQ E (aZ0 q u) Z2 ++ [aL E w f])) (_ : va_S (fun q : Nat => s.heap.size ≤ q) s.heap H locs), lv_has ls 13 [(6, .int (nI (k + 1))), (3, .int (nI ac1)), (4, .long kept), (2, .ref w), (1, .ref q), (0, .ref b)] → WLp p l e s m below meth c b H locs 187 35908 67 ls []) (u : Nat → Nat) (H : Heap) (locs : List Loc) (ls : Array Slot) (hP : va_P D vwCl (wQ E (aZ0 q u) Z ++ [aL E w f]) H) (hD : va_D (fun q : Nat => s.heap.size ≤ q) (wQ E (aZ0 q u) Z ++ [aL E w f])) (hS : va_S (fun q : Nat => s.heap.size ≤ q) s.heap H locs) (hl : lv_has ls 13 [(11, .int bb), (10, .int aa), (9, .int (nI s0)), (8, .int kd), (7, .int x), (6, .int (nI k)), (3, .int (nI ac)), (4, .long kept), (2, .ref w), (1, .ref q), (0, .ref b)]) : WLp p l e s m below meth c b H locs 187 35908 139 ls [] := by
  obtain ⟨hx, hb, hr, hml, hown, hts, hX, hbl, hL, hlocks⟩ := id CC
  have hA : ∀ q : Nat, s.heap.size ≤ q → (fun q : Nat => s.heap.size ≤ q) q := fun _ h => h
  refine lv_iload hx hb dL_law_139 (lv_at hl 3 rfl) ?_
  refine lv_iconst (v := 4) hx hb dL_law_141 (by decide) ?_
  refine lv_icmp_ge (tgt := 156) hx hb dL_law_142 (by decide) (fun _ => ?_) (fun _ => ?_)
  · exact lp_156 CC hK hZ hk hac hJ hf0 hf1 hg hn1 hfa i1 i2 cont u H locs ls hP hD hS hl
  · obtain ⟨r1, Z1, e1, st1⟩ := point_s hJ aa bb
    refine lv_aload_n hx hb dL_law_145 rfl (lv_at hl 9 rfl) ?_
    refine lv_iload hx hb dL_law_146 (lv_at hl 1 rfl) ?_
    refine lv_iload hx hb dL_law_148 (lv_at hl 0 rfl) ?_
    refine t1_VI (As := [.int aa, .int bb]) (rest := []) (Z1 := Z1) hx hb hml hown hts hl.1 (kX7_point l D E (aZ0 q u) H.size e1) (cwV 2 hts gL_law_X7_point rfl rfl rfl (by decide +kernel) ⟨Nat.le_of_ble_eq_true rfl, Nat.le_of_ble_eq_true rfl⟩) hP hD hS hA hK rfl rfl (Nat.le_of_ble_eq_true rfl) dL_law_150 ⟨Nat.le_of_ble_eq_true rfl, Nat.le_of_ble_eq_true rfl⟩ (fun u107 H locs hP hD hS => ?_)
    refine lv_goto (tgt := 284) hx hb dL_law_153 (by decide) ?_
    exact lp_284 CC hK hZ hk hac hJ st1 hfa i1 i2 cont u107 H locs ls hP hD hS (lv_sub hl [2, 5, 6, 7, 8, 9, 10] rfl)

set_option maxRecDepth 100000 in
set_option maxHeartbeats 4000000 in
theorem lp_99 {p : Program} {e : Env} {s : State} {m : MethodId} {below : List Frame} {meth : Method} {c : Code} {l : Launch} {b L : Nat} {xs : Nat → Int32} (CC : CLq p s m meth c b L xs) {D : va_G} {E : Nat → ClassId} (hK : va_K D vwCl (tyE E) s) {t : Nat → Nat} (hZ : zSX t (fun q : Nat => s.heap.size ≤ q) s) {q w : Nat} {kept : Int64} {k ac : Nat} (hk : k < 22) (hac : ac ≤ k) {f : Nat → Int64} {Z : Nat → FS} (hI : LInv kept ac Z f) {x kd : Int32} (cont : ∀ (f1 : Nat → Int64) (ac1 : Nat) (Z2 : Nat → FS), ac1 ≤ k + 1 → LInv kept ac1 Z2 f1 → ∀ (u : Nat → Nat) (H : Heap) (locs : List Loc) (ls : Array Slot) (_ : va_P D vwCl (wQ E (aZ0 q u) Z2 ++ [aL E w f1]) H) (_ : va_D (fun q : Nat => s.heap.size ≤ q) (wQ E (aZ0 q u) Z2 ++ [aL E w f1])) (_ : va_S (fun q : Nat => s.heap.size ≤ q) s.heap H locs), lv_has ls 13 [(6, .int (nI (k + 1))), (3, .int (nI ac1)), (4, .long kept), (2, .ref w), (1, .ref q), (0, .ref b)] → WLp p l e s m below meth c b H locs 187 35908 67 ls []) (u : Nat → Nat) (H : Heap) (locs : List Loc) (ls : Array Slot) (hP : va_P D vwCl (wQ E (aZ0 q u) Z ++ [aL E w f]) H) (hD : va_D (fun q : Nat => s.heap.size ≤ q) (wQ E (aZ0 q u) Z ++ [aL E w f])) (hS : va_S (fun q : Nat => s.heap.size ≤ q) s.heap H locs) (hl : lv_has ls 13 [(7, .int x), (6, .int (nI k)), (3, .int (nI ac)), (4, .long kept), (2, .ref w), (1, .ref q), (0, .ref b)]) : WLp p l e s m below meth c b H locs 187 35908 99 ls [.int kd] := by
  obtain ⟨hx, hb, hr, hml, hown, hts, hX, hbl, hL, hlocks⟩ := id CC
  have hA : ∀ q : Nat, s.heap.size ≤ q → (fun q : Nat => s.heap.size ≤ q) q := fun _ h => h
  have hII := hI
  obtain ⟨M, A0, s0, H0, fl, SL, C0, a0, B0, hJ, hf0, hf1, hg, hn1, hkp, hgA, h1A, hs0, hBa, hfB, hHB⟩ := hI
  refine lv_istore (lv' := [(8, .int kd), (7, .int x), (6, .int (nI k)), (3, .int (nI ac)), (4, .long kept), (2, .ref w), (1, .ref q), (0, .ref b)]) hx hb dL_law_99 hl (by decide) rfl (fun ls hl => ?_)
  refine lv_aload_n hx hb dL_law_101 rfl (lv_at hl 5 rfl) ?_
  refine lv_iload_n hx hb dL_law_102 rfl (lv_at hl 3 rfl) ?_
  refine lv_aload_n hx hb dL_law_103 rfl (lv_at hl 6 rfl) ?_
  refine q_SL (As := [.ref q]) (rest := [.int (nI ac), .ref w]) hx hb hml hown hts hl.1 (kL_seen l t D E q u (SeenJ hJ)) zSt_mv (va_cwS 1 hts gL_law_L_seen rfl rfl rfl (by decide +kernel) ⟨Nat.le_of_ble_eq_true rfl, Nat.le_of_ble_eq_true rfl⟩) (hP.sub (ws' := wQ E (aZ0 q u) Z) n38 rfl) hK (zSX_now hZ hS) rfl rfl (Nat.le_of_ble_eq_true rfl) dL_law_104 ⟨Nat.le_of_ble_eq_true rfl, Nat.le_of_ble_eq_true rfl⟩ ?_
  refine va_last hx hb hK hP hD hS 38 3 rfl rfl (vp_in_nI (by omega) (by omega)) dL_law_107 (fun H locs hP hD hS => ?_)
  rw [nI_clamp (by omega)] at hP hD
  have hP : va_P D vwCl (wQ E (aZ0 q u) Z ++ [aL E w (vp_updL f ac (sv A0))]) H := hP
  have hD : va_D (fun q : Nat => s.heap.size ≤ q) (wQ E (aZ0 q u) Z ++ [aL E w (vp_updL f ac (sv A0))]) := hD
  refine lv_aload_n hx hb dL_law_108 rfl (lv_at hl 6 rfl) ?_
  refine lv_bipush (v := 10) hx hb dL_law_109 (by decide) ?_
  refine q_V (As := [.int (10:Int32)]) (rest := []) (C := RX7) (T0 := TX7) (N0 := 4) (ci := 6) hx hb hml hown hts hl.1 (kX7_count l D E t (aZ0 q u) (count10_J hJ)) zSt_mv (cwV 1 hts gL_law_X7_count rfl rfl rfl (by decide +kernel) ⟨Nat.le_of_ble_eq_true rfl, Nat.le_of_ble_eq_true rfl⟩) 0 rfl rfl (hP.sub (ws' := wQ E (aZ0 q u) Z) n38 rfl) hK (zSX_now hZ hS) rfl rfl (Nat.le_of_ble_eq_true rfl) dL_law_111 ⟨Nat.le_of_ble_eq_true rfl, Nat.le_of_ble_eq_true rfl⟩ ?_
  refine lv_istore (lv' := [(9, .int (nI s0)), (8, .int kd), (7, .int x), (6, .int (nI k)), (3, .int (nI ac)), (4, .long kept), (2, .ref w), (1, .ref q), (0, .ref b)]) hx hb dL_law_114 hl (by decide) rfl (fun ls hl => ?_)
  refine lv_iload hx hb dL_law_116 (lv_at hl 2 rfl) ?_
  refine lv_iconst (v := 4) hx hb dL_law_118 (by decide) ?_
  refine lv_ishr hx hb dL_law_119 ?_
  refine lv_bipush (v := 12) hx hb dL_law_120 (by decide) ?_
  refine q_S (W9 := []) (As := [.int (x >>> ((4:Int32) &&& 31)), .int (12:Int32)]) (rest := []) hx hb hml hown hts hl.1 (kL_part l D E (by decide)) zNo_mv (va_cwS 2 hts gL_law_L_part rfl rfl rfl (by decide +kernel) ⟨Nat.le_of_ble_eq_true rfl, Nat.le_of_ble_eq_true rfl⟩) va_P_nil hK trivial rfl rfl (Nat.le_of_ble_eq_true rfl) dL_law_122 ⟨Nat.le_of_ble_eq_true rfl, Nat.le_of_ble_eq_true rfl⟩ ?_
  refine lv_istore (lv' := [(10, .int (pa (x >>> ((4:Int32) &&& 31)) (12:Int32))), (9, .int (nI s0)), (8, .int kd), (7, .int x), (6, .int (nI k)), (3, .int (nI ac)), (4, .long kept), (2, .ref w), (1, .ref q), (0, .ref b)]) hx hb dL_law_125 hl (by decide) rfl (fun ls hl => ?_)
  refine lv_iload hx hb dL_law_127 (lv_at hl 3 rfl) ?_
  refine lv_bipush (v := 8) hx hb dL_law_129 (by decide) ?_
  refine lv_ishr hx hb dL_law_131 ?_
  refine lv_bipush (v := 12) hx hb dL_law_132 (by decide) ?_
  refine q_S (W9 := []) (As := [.int (x >>> ((8:Int32) &&& 31)), .int (12:Int32)]) (rest := []) hx hb hml hown hts hl.1 (kL_part l D E (by decide)) zNo_mv (va_cwS 2 hts gL_law_L_part rfl rfl rfl (by decide +kernel) ⟨Nat.le_of_ble_eq_true rfl, Nat.le_of_ble_eq_true rfl⟩) va_P_nil hK trivial rfl rfl (Nat.le_of_ble_eq_true rfl) dL_law_134 ⟨Nat.le_of_ble_eq_true rfl, Nat.le_of_ble_eq_true rfl⟩ ?_
  refine lv_istore (lv' := [(11, .int (pa (x >>> ((8:Int32) &&& 31)) (12:Int32))), (10, .int (pa (x >>> ((4:Int32) &&& 31)) (12:Int32))), (9, .int (nI s0)), (8, .int kd), (7, .int x), (6, .int (nI k)), (3, .int (nI ac)), (4, .long kept), (2, .ref w), (1, .ref q), (0, .ref b)]) hx hb dL_law_137 hl (by decide) rfl (fun ls hl => ?_)
  have e1 : LInv kept ac Z (vp_updL f ac (sv A0)) := LInv_upd hII
  exact lp_139 CC hK hZ hk hac hJ hf0 hf1 hg hn1 pk_uLs e1 (fun Z1 M1 A1 j1 g1 g2 => LInv_next hf0 hf1 hg hn1 hkp hgA h1A hs0 hBa hfB hHB j1 g1 g2) (cont _) u H locs ls hP hD hS (lv_sub hl [0, 1, 2, 3, 4, 5, 6, 7, 8, 9, 10] rfl)

set_option maxRecDepth 100000 in
set_option maxHeartbeats 4000000 in
theorem lp_67 {p : Program} {e : Env} {s : State} {m : MethodId} {below : List Frame} {meth : Method} {c : Code} {l : Launch} {b L : Nat} {xs : Nat → Int32} (CC : CLq p s m meth c b L xs) {D : va_G} {E : Nat → ClassId} (hK : va_K D vwCl (tyE E) s) {t : Nat → Nat} (hZ : zSX t (fun q : Nat => s.heap.size ≤ q) s) {q w : Nat} {kept : Int64} {k ac : Nat} (hk : k < 22) (hac : ac ≤ k) {f : Nat → Int64} {Z : Nat → FS} (hI : LInv kept ac Z f) (cont : ∀ (f1 : Nat → Int64) (ac1 : Nat) (Z2 : Nat → FS), ac1 ≤ k + 1 → LInv kept ac1 Z2 f1 → ∀ (u : Nat → Nat) (H : Heap) (locs : List Loc) (ls : Array Slot) (_ : va_P D vwCl (wQ E (aZ0 q u) Z2 ++ [aL E w f1]) H) (_ : va_D (fun q : Nat => s.heap.size ≤ q) (wQ E (aZ0 q u) Z2 ++ [aL E w f1])) (_ : va_S (fun q : Nat => s.heap.size ≤ q) s.heap H locs), lv_has ls 13 [(6, .int (nI (k + 1))), (3, .int (nI ac1)), (4, .long kept), (2, .ref w), (1, .ref q), (0, .ref b)] → WLp p l e s m below meth c b H locs 187 35908 67 ls []) (u : Nat → Nat) (H : Heap) (locs : List Loc) (ls : Array Slot) (hP : va_P D vwCl (wQ E (aZ0 q u) Z ++ [aL E w f]) H) (hD : va_D (fun q : Nat => s.heap.size ≤ q) (wQ E (aZ0 q u) Z ++ [aL E w f])) (hS : va_S (fun q : Nat => s.heap.size ≤ q) s.heap H locs) (hl : lv_has ls 13 [(6, .int (nI k)), (3, .int (nI ac)), (4, .long kept), (2, .ref w), (1, .ref q), (0, .ref b)]) : WLp p l e s m below meth c b H locs 187 35908 67 ls [] := by
  obtain ⟨hx, hb, hr, hml, hown, hts, hX, hbl, hL, hlocks⟩ := id CC
  have hA : ∀ q : Nat, s.heap.size ≤ q → (fun q : Nat => s.heap.size ≤ q) q := fun _ h => h
  refine lv_iload hx hb dL_law_67 (lv_at hl 0 rfl) ?_
  refine lv_bipush (v := 22) hx hb dL_law_69 (by decide) ?_
  refine lv_icmp_ge (tgt := 334) hx hb dL_law_71 (by decide) (fun c9 => absurd c9 (show ¬ (22:Int32) ≤ nI k from nI_ge (b := 22) hk (by decide))) (fun _ => ?_)
  refine lv_aload_n hx hb dL_law_74 rfl (lv_at hl 5 rfl) ?_
  refine lv_iload hx hb dL_law_75 (lv_at hl 0 rfl) ?_
  refine q_S (W9 := []) (As := [.ref b, .int (nI k)]) (rest := []) hx hb hml hown hts hl.1 (kL_drawn l D E (b := b) (xs := xs) hL (k := k) (by omega)) zX_mv (va_cwS 2 hts gL_law_L_drawn rfl rfl rfl (by decide +kernel) ⟨Nat.le_of_ble_eq_true rfl, Nat.le_of_ble_eq_true rfl⟩) va_P_nil hK ⟨hX.kept (hS.2.1 b hbl (Nat.not_le.mpr hbl)), Nat.lt_of_lt_of_le hbl hS.1⟩ rfl rfl (Nat.le_of_ble_eq_true rfl) dL_law_77 ⟨Nat.le_of_ble_eq_true rfl, Nat.le_of_ble_eq_true rfl⟩ ?_
  refine lv_istore (lv' := [(7, .int (dv L xs (nI k))), (6, .int (nI k)), (3, .int (nI ac)), (4, .long kept), (2, .ref w), (1, .ref q), (0, .ref b)]) hx hb dL_law_80 hl (by decide) rfl (fun ls hl => ?_)
  refine lv_iload hx hb dL_law_82 (lv_at hl 1 rfl) ?_
  refine lv_iconst (v := 4) hx hb dL_law_84 (by decide) ?_
  refine lv_icmp_ge (tgt := 92) hx hb dL_law_85 (by decide) (fun _ => ?_) (fun _ => ?_)
  · refine lv_iload hx hb dL_law_92 (lv_at hl 0 rfl) ?_
    refine lv_bipush (v := 9) hx hb dL_law_94 (by decide) ?_
    refine q_S (W9 := []) (As := [.int (dv L xs (nI k)), .int (9:Int32)]) (rest := []) hx hb hml hown hts hl.1 (kL_part l D E (by decide)) zNo_mv (va_cwS 2 hts gL_law_L_part rfl rfl rfl (by decide +kernel) ⟨Nat.le_of_ble_eq_true rfl, Nat.le_of_ble_eq_true rfl⟩) va_P_nil hK trivial rfl rfl (Nat.le_of_ble_eq_true rfl) dL_law_96 ⟨Nat.le_of_ble_eq_true rfl, Nat.le_of_ble_eq_true rfl⟩ ?_
    exact lp_99 CC hK hZ hk hac hI cont u H locs ls hP hD hS (lv_sub hl [0, 1, 2, 3, 4, 5, 6] rfl)
  · refine lv_iconst (v := 0) hx hb dL_law_88 (by decide) ?_
    refine lv_goto (tgt := 99) hx hb dL_law_89 (by decide) ?_
    exact lp_99 CC hK hZ hk hac hI cont u H locs ls hP hD hS (lv_sub hl [0, 1, 2, 3, 4, 5, 6] rfl)


set_option maxRecDepth 100000 in
set_option maxHeartbeats 4000000 in
theorem lp_end {p : Program} {e : Env} {s : State} {m : MethodId} {below : List Frame} {meth : Method} {c : Code} {l : Launch} {b L : Nat} {xs : Nat → Int32} (CC : CLq p s m meth c b L xs) {D : va_G} {E : Nat → ClassId} (hK : va_K D vwCl (tyE E) s) {t : Nat → Nat} (hZ : zSX t (fun q : Nat => s.heap.size ≤ q) s) {q w : Nat} {kept : Int64} {k ac : Nat} (hk : k = 22) (hac : ac ≤ k) {f : Nat → Int64} {Z : Nat → FS} (hI : LInv kept ac Z f) (u : Nat → Nat) (H : Heap) (locs : List Loc) (ls : Array Slot) (hP : va_P D vwCl (wQ E (aZ0 q u) Z ++ [aL E w f]) H) (hD : va_D (fun q : Nat => s.heap.size ≤ q) (wQ E (aZ0 q u) Z ++ [aL E w f])) (hS : va_S (fun q : Nat => s.heap.size ≤ q) s.heap H locs) (hl : lv_has ls 13 [(6, .int (nI k)), (3, .int (nI ac)), (4, .long kept), (2, .ref w), (1, .ref q), (0, .ref b)]) : WLp p l e s m below meth c b H locs 187 35908 67 ls [] := by
  obtain ⟨hx, hb, hr, hml, hown, hts, hX, hbl, hL, hlocks⟩ := id CC
  have hA : ∀ q : Nat, s.heap.size ≤ q → (fun q : Nat => s.heap.size ≤ q) q := fun _ h => h
  obtain ⟨M, A0, s0, H0, fl, SL, C0, a0, B0, hJ, hf0, hf1, hg, hn1, hkp, hgA, h1A, hs0, hBa, hfB, hHB⟩ := hI
  have hs6 : s0 ≤ 6 := hJ.2.2.2.1.1
  obtain ⟨Y, y0, y1, y2⟩ := undo_seq s0 Z M A0 hJ
  subst y0
  have hc1 : ∀ i, i ≤ s0 → fX7_count (Y i) 10 = some (nI (s0 - i)) := fun i hi => by
    obtain ⟨M1, j1⟩ := y2 i hi
    exact count10_J j1
  have hs1 : ∀ i, i < s0 → SeenH (Y i) (if i = 0 then A0 else H0 (s0 - i)) := fun i hi => by
    obtain ⟨M1, j1⟩ := y2 i (Nat.le_of_lt hi)
    exact SeenJ j1
  have hf9 : ∀ i, i < s0 → i < ac → vp_updL f ac (sv A0) (ac - i) = sv (if i = 0 then A0 else H0 (s0 - i)) := fun i hi hia => by
    by_cases h0 : i = 0
    · subst h0
      rw [if_pos rfl, Nat.sub_zero, pk_uLs]
    · rw [if_neg h0, pk_uLn (by omega), hfB (ac - i) (by omega), hHB i (by omega) (by omega) (by omega)]
  obtain ⟨Ms, js⟩ := y2 s0 (Nat.le_refl s0)
  rw [Nat.sub_self] at js
  obtain ⟨Z5, M5, e5, j5⟩ := restore_x js hf0
  refine lv_iload hx hb dL_law_67 (lv_at hl 0 rfl) ?_
  refine lv_bipush (v := 22) hx hb dL_law_69 (by decide) ?_
  refine lv_icmp_ge (tgt := 334) hx hb dL_law_71 (by decide) (fun _ => ?_) (fun c9 => absurd (show (22:Int32) ≤ nI k from by rw [hk]; decide) c9)
  refine lv_aload_n hx hb dL_law_334 rfl (lv_at hl 3 rfl) ?_
  refine lv_iload_n hx hb dL_law_335 rfl (lv_at hl 1 rfl) ?_
  refine lv_aload_n hx hb dL_law_336 rfl (lv_at hl 4 rfl) ?_
  refine q_SL (As := [.ref q]) (rest := [.int (nI ac), .ref w]) hx hb hml hown hts hl.1 (kL_seen l t D E q u (SeenJ hJ)) zSt_mv (va_cwS 1 hts gL_law_L_seen rfl rfl rfl (by decide +kernel) ⟨Nat.le_of_ble_eq_true rfl, Nat.le_of_ble_eq_true rfl⟩) (hP.sub (ws' := wQ E (aZ0 q u) (Y 0)) n38 rfl) hK (zSX_now hZ hS) rfl rfl (Nat.le_of_ble_eq_true rfl) dL_law_337 ⟨Nat.le_of_ble_eq_true rfl, Nat.le_of_ble_eq_true rfl⟩ ?_
  refine va_last hx hb hK hP hD hS 38 3 rfl rfl (vp_in_nI (by omega) (by omega)) dL_law_340 (fun H locs hP hD hS => ?_)
  rw [nI_clamp (by omega)] at hP hD
  have hP : va_P D vwCl (wQ E (aZ0 q u) (Y 0) ++ [aL E w (vp_updL f ac (sv A0))]) H := hP
  have hD : va_D (fun q : Nat => s.heap.size ≤ q) (wQ E (aZ0 q u) (Y 0) ++ [aL E w (vp_updL f ac (sv A0))]) := hD
  refine lv_aload_n hx hb dL_law_341 rfl (lv_at hl 4 rfl) ?_
  refine t1_SI (As := [.ref q]) (rest := []) hx hb hml hown hts hl.1 (kL_refused l t D E q u (RH_JJ hJ hgA h1A) (SeenJ hJ) (count10_J hJ) H.size) (va_cwS 1 hts gL_law_L_refused rfl rfl rfl (by decide +kernel) ⟨Nat.le_of_ble_eq_true rfl, Nat.le_of_ble_eq_true rfl⟩) hP hD hS hA hK hZ rfl rfl (Nat.le_of_ble_eq_true rfl) dL_law_342 ⟨Nat.le_of_ble_eq_true rfl, Nat.le_of_ble_eq_true rfl⟩ (fun u108 H locs hP hD hS => ?_)
  refine lv_if_eq (tgt := 399) hx hb dL_law_345 (by decide) (fun c9 => absurd c9 (by decide)) (fun _ => ?_)
  refine lv_aload_n hx hb dL_law_348 rfl (lv_at hl 4 rfl) ?_
  refine lv_aload_n hx hb dL_law_349 rfl (lv_at hl 3 rfl) ?_
  refine lv_iload_n hx hb dL_law_350 rfl (lv_at hl 1 rfl) ?_
  refine t2_SI (As := [.ref q, .ref w, .int (nI ac)]) (rest := []) hx hb hml hown hts hl.1 (kL_isTakenBack l t D E q w u108 (Y := Y) (G := fun i => if i = 0 then A0 else H0 (s0 - i)) (by omega) hs6 hc1 y1 hs1 hf9 H.size) (va_cwS 3 hts gL_law_L_isTakenBack rfl rfl rfl (by decide +kernel) ⟨Nat.le_of_ble_eq_true rfl, Nat.le_of_ble_eq_true rfl⟩) hP hD hS hA hK hZ rfl rfl (Nat.le_of_ble_eq_true rfl) dL_law_351 ⟨Nat.le_of_ble_eq_true rfl, Nat.le_of_ble_eq_true rfl⟩ (fun u109 H locs hP hD hS => ?_)
  refine lv_if_eq (tgt := 399) hx hb dL_law_354 (by decide) (fun c9 => absurd c9 (by decide)) (fun _ => ?_)
  refine lv_aload_n hx hb dL_law_357 rfl (lv_at hl 4 rfl) ?_
  refine t1_VI (As := []) (rest := []) (Z1 := (Y s0)) hx hb hml hown hts hl.1 (kX7_undo l D E (aZ0 q u109) H.size (undo_0 js)) (cwV 0 hts gL_law_X7_undo rfl rfl rfl (by decide +kernel) ⟨Nat.le_of_ble_eq_true rfl, Nat.le_of_ble_eq_true rfl⟩) hP hD hS hA hK rfl rfl (Nat.le_of_ble_eq_true rfl) dL_law_358 ⟨Nat.le_of_ble_eq_true rfl, Nat.le_of_ble_eq_true rfl⟩ (fun u110 H locs hP hD hS => ?_)
  refine lv_bipush (v := -5) hx hb dL_law_361 (by decide) ?_
  refine lv_icmp_ne (tgt := 399) hx hb dL_law_363 (by decide) (fun c9 => absurd rfl c9) (fun _ => ?_)
  refine lv_aload_n hx hb dL_law_366 rfl (lv_at hl 4 rfl) ?_
  refine lv_iconst (v := 0) hx hb dL_law_367 (by decide) ?_
  refine t1_VI (As := [.int (0:Int32)]) (rest := []) (Z1 := Z5) hx hb hml hown hts hl.1 (kX7_restore l D E (aZ0 q u110) H.size e5) (cwV 1 hts gL_law_X7_restore rfl rfl rfl (by decide +kernel) ⟨Nat.le_of_ble_eq_true rfl, Nat.le_of_ble_eq_true rfl⟩) hP hD hS hA hK rfl rfl (Nat.le_of_ble_eq_true rfl) dL_law_368 ⟨Nat.le_of_ble_eq_true rfl, Nat.le_of_ble_eq_true rfl⟩ (fun u111 H locs hP hD hS => ?_)
  refine lv_iconst (v := 1) hx hb dL_law_371 (by decide) ?_
  refine lv_icmp_ne (tgt := 399) hx hb dL_law_372 (by decide) (fun c9 => absurd (by rw [hn1]; rfl) c9) (fun _ => ?_)
  refine lv_aload_n hx hb dL_law_375 rfl (lv_at hl 4 rfl) ?_
  refine q_SL (As := [.ref q]) (rest := []) hx hb hml hown hts hl.1 (kL_seen l t D E q u111 (SeenJ j5)) zSt_mv (va_cwS 1 hts gL_law_L_seen rfl rfl rfl (by decide +kernel) ⟨Nat.le_of_ble_eq_true rfl, Nat.le_of_ble_eq_true rfl⟩) (hP.sub (ws' := wQ E (aZ0 q u111) Z5) n38 rfl) hK (zSX_now hZ hS) rfl rfl (Nat.le_of_ble_eq_true rfl) dL_law_376 ⟨Nat.le_of_ble_eq_true rfl, Nat.le_of_ble_eq_true rfl⟩ ?_
  refine lv_lload hx hb dL_law_379 (lv_at hl 2 rfl) ?_
  refine W.lcmp hx hb dL_law_381 ?_
  refine lv_if_ne (tgt := 399) hx hb dL_law_382 (by decide) (fun c9 => absurd ((lg_cmp_eq _ _).mpr hkp) c9) (fun _ => ?_)
  refine lv_aload_n hx hb dL_law_385 rfl (lv_at hl 4 rfl) ?_
  refine lv_bipush (v := 10) hx hb dL_law_386 (by decide) ?_
  refine q_V (As := [.int (10:Int32)]) (rest := []) (C := RX7) (T0 := TX7) (N0 := 4) (ci := 6) hx hb hml hown hts hl.1 (kX7_count l D E t (aZ0 q u111) (count10_J j5)) zSt_mv (cwV 1 hts gL_law_X7_count rfl rfl rfl (by decide +kernel) ⟨Nat.le_of_ble_eq_true rfl, Nat.le_of_ble_eq_true rfl⟩) 0 rfl rfl (hP.sub (ws' := wQ E (aZ0 q u111) Z5) n38 rfl) hK (zSX_now hZ hS) rfl rfl (Nat.le_of_ble_eq_true rfl) dL_law_388 ⟨Nat.le_of_ble_eq_true rfl, Nat.le_of_ble_eq_true rfl⟩ ?_
  refine lv_iconst (v := 1) hx hb dL_law_391 (by decide) ?_
  refine lv_icmp_ne (tgt := 399) hx hb dL_law_392 (by decide) (fun c9 => absurd (by decide) c9) (fun _ => ?_)
  refine lv_iconst (v := 1) hx hb dL_law_395 (by decide) ?_
  refine lv_goto (tgt := 400) hx hb dL_law_396 (by decide) ?_
  refine va_forget hS.2.2 ?_
  refine W.widen (k := 600000) (n := 7302250) (by decide) (by decide) ?_
  exact lw_ret hx hb hr hlocks dL_law_400

set_option maxRecDepth 100000 in
set_option maxHeartbeats 4000000 in
theorem lp_loop {p : Program} {e : Env} {s : State} {m : MethodId} {below : List Frame} {meth : Method} {c : Code} {l : Launch} {b L : Nat} {xs : Nat → Int32} (CC : CLq p s m meth c b L xs) {D : va_G} {E : Nat → ClassId} (hK : va_K D vwCl (tyE E) s) {t : Nat → Nat} (hZ : zSX t (fun q : Nat => s.heap.size ≤ q) s) {q w : Nat} {kept : Int64} : ∀ (n k ac : Nat) (f : Nat → Int64) (Z : Nat → FS), k + n = 22 → ac ≤ k → LInv kept ac Z f → ∀ (u : Nat → Nat) (H : Heap) (locs : List Loc) (ls : Array Slot) (_ : va_P D vwCl (wQ E (aZ0 q u) Z ++ [aL E w f]) H) (_ : va_D (fun q : Nat => s.heap.size ≤ q) (wQ E (aZ0 q u) Z ++ [aL E w f])) (_ : va_S (fun q : Nat => s.heap.size ≤ q) s.heap H locs), lv_has ls 13 [(6, .int (nI k)), (3, .int (nI ac)), (4, .long kept), (2, .ref w), (1, .ref q), (0, .ref b)] → WLp p l e s m below meth c b H locs 187 35908 67 ls [] := by
  intro n
  induction n with
  | zero =>
    intro k ac f Z hk hac hI u H locs ls hP hD hS hl
    exact lp_end CC hK hZ hk hac hI u H locs ls hP hD hS hl
  | succ n ih =>
    intro k ac f Z hk hac hI u H locs ls hP hD hS hl
    exact lp_67 CC hK hZ (by omega) hac hI (fun f1 ac1 Z2 h1 h2 u1 H1 locs1 ls1 hP1 hD1 hS1 hl1 => ih (k + 1) ac1 f1 Z2 (by omega) h1 h2 u1 H1 locs1 ls1 hP1 hD1 hS1 hl1) u H locs ls hP hD hS hl
