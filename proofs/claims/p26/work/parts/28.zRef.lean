/-! methods that answer with a plan -/
def PR (l : Launch) (y : MethodName) (ws : List Cond) (rm : Room) (D : va_G) (E : Nat → ClassId) (Z : zT) (W : va_W) (As : List Value) (a : Nat) : Prop :=
  Met l y ws rm (qPre D E Z W As) (va_Sr (fun _ => True) (fun _ => Value.ref a)) 0 0 (fun _ => False)
def MF (l : Launch) (y : MethodName) (ws : List Cond) (rm : Room) (D : va_G) (E : Nat → ClassId) (W : va_W) (sz : Nat) (As : List Value) (a : Nat) (W1 : Unit → va_W) : Prop :=
  Met l y ws rm (mPre D E W sz As) (va_Qr (fun _ : Unit => True) (fun u r t => r = a ∧ mB D W1 (va_A W sz) u t) (va_A W sz)) 0 0 (va_A W sz)
theorem hiX4_planIn_X4 : ∀ w ∈ wsX40, w ∈ wsX4_planIn := by decide +kernel
theorem lkX4_planIn_11 : (.fieldLink RX4 11 "QuarterTiles$Slots" "plans" "[LQuarterTiles$Plan;" : Cond) ∈ wsX4_planIn := by decide +kernel
set_option maxRecDepth 100000 in
set_option maxHeartbeats 4000000 in
theorem kX4_planIn (l : Launch) (D : va_G) (E : Nat → ClassId) (a0_0 a0_1 a0_2 a0_3 a0_4 a0_5 a0_6 a0_7 a0_8 : Nat) {Q0 : Nat → FS} {x1 j : Int32} {a : Nat} (hin : vp_in j 2) (ha : fS a0_3 a0_6 j.toNatClampNeg = some a) (hv : fX4_planIn x1 = some j) : PR l yX4_planIn wsX4_planIn (rmN 1 20) D E zNo (wSlots E a0_0 a0_1 a0_2 a0_3 a0_4 a0_5 a0_6 a0_7 a0_8 Q0) [.ref a0_0, .int x1] a := by
  refine Met.ofW (cc := cX4_planIn) (maxL := 2) (ret := some (.object "QuarterTiles$Plan")) (by decide) rfl ?_
  intro p e s m args below meth c s₁ B hml hv0
  obtain ⟨rfl, hP, hK, hZ⟩ := hv0
  have hx := B.exec
  have hb := B.bytes
  have hr := B.returns
  have hts := atoms_spec (ws := wsX4_planIn) B.pre
  have hown := findClass_of_methodNamed B.named
  have hlocks := B.notSynchronized
  rw [lg_entry_eq]
  have hl := lv_entry ([.ref a0_0, .int x1]) (n := 2) (Nat.le_of_ble_eq_true rfl)
  generalize (lg_sl ([.ref a0_0, .int x1]) ++ List.replicate (2 - (lg_sl ([.ref a0_0, .int x1])).length) Slot.unset).toArray = ls at hl ⊢
  have hl : lv_has ls 2 [(0, .ref a0_0), (1, .int x1)] := hl
  unfold fX4_planIn at hv
  refine lv_aload_n hx hb dX4_planIn_0 rfl (lv_at hl 0 rfl) ?_
  refine va_get (D := D) (ci := 3) (v := .ref a0_1) (C := RX4) (T := TX4) (N := 2) hx hb hts hiX4_planIn_X4 hown hK hP 0 rfl rfl 0 (by decide) (hts _ lkX4_planIn_11) (fun _ h9 => h9) rfl dX4_planIn_1 ?_
  refine lv_iload_n hx hb dX4_planIn_4 rfl (lv_at hl 1 rfl) ?_
  obtain ⟨r, h, hv⟩ := qB hv
  refine q_S (As := [.int x1]) (rest := [.ref a0_1]) hx hb hml hown hts hl.1 (kX4_isSlot l D E h) zNo_mv (va_cwS 1 hts gX4_planIn_X4_isSlot rfl rfl rfl (by decide +kernel) ⟨Nat.le_of_ble_eq_true rfl, Nat.le_of_ble_eq_true rfl⟩) (hP.sub (ws' := []) [] rfl) hK trivial rfl rfl (Nat.le_of_ble_eq_true rfl) dX4_planIn_5 ⟨Nat.zero_le _, Nat.zero_le _⟩ ?_
  refine lv_if_eq (tgt := 15) hx hb dX4_planIn_8 (by decide) (fun c1 => ?_) (fun c1 => ?_)
  · have hv := Option.some.inj (qT c1 hv)
    refine lv_iconst (v := 0) hx hb dX4_planIn_15 (by decide) ?_
    refine m_ald (v := a) hx hb hK hP 1 2 rfl rfl hv hin ha dX4_planIn_16 ?_
    exact W.aret (v := .ref a) hx hb hr (Or.inl ⟨_, rfl⟩) (Or.inr ⟨_, rfl⟩) (fun t ht hW => ⟨0, rfl, trivial, ht⟩) (fun _ h => by cases h) dX4_planIn_17 hlocks
  · have hv := Option.some.inj (qF c1 hv)
    refine lv_iload_n hx hb dX4_planIn_11 rfl (lv_at hl 1 rfl) ?_
    refine lv_goto (tgt := 16) hx hb dX4_planIn_12 (by decide) ?_
    refine m_ald (v := a) hx hb hK hP 1 2 rfl rfl hv hin ha dX4_planIn_16 ?_
    exact W.aret (v := .ref a) hx hb hr (Or.inl ⟨_, rfl⟩) (Or.inr ⟨_, rfl⟩) (fun t ht hW => ⟨0, rfl, trivial, ht⟩) (fun _ h => by cases h) dX4_planIn_17 hlocks
theorem hiX0_takeLatest_X0 : ∀ w ∈ wsX00, w ∈ wsX0_takeLatest := by decide +kernel
theorem lkX0_takeLatest_11 : (.fieldLink RX0 11 "QuarterTiles$History" "plans" "[LQuarterTiles$Plan;" : Cond) ∈ wsX0_takeLatest := by decide +kernel
theorem lkX0_takeLatest_18 : (.fieldLink RX0 18 "QuarterTiles$History" "states" "I" : Cond) ∈ wsX0_takeLatest := by decide +kernel
theorem lkX0_takeLatest_29a : (.methodLink RX0 29 Lib.Math.max.name : Cond) ∈ wsX0_takeLatest := by decide +kernel
theorem lkX0_takeLatest_29b : (.static Lib.Math.max.name : Cond) ∈ wsX0_takeLatest := by decide +kernel
theorem lkX0_takeLatest_29c : (.initialized "java/lang/Math" : Cond) ∈ wsX0_takeLatest := by decide +kernel
theorem lkX0_takeLatest_29d : (.code Lib.Math.max.name Lib.Math.max.code 2 (some .int) : Cond) ∈ wsX0_takeLatest := by decide +kernel
set_option maxRecDepth 100000 in
set_option maxHeartbeats 4000000 in
theorem kX0_takeLatest (l : Launch) (D : va_G) (E : Nat → ClassId) (a0_0 a0_1 a0_2 a0_3 a0_4 a0_5 a0_6 a0_7 a0_8 a0_9 a0_10 a0_11 a0_12 a0_13 a0_14 a0_15 a0_16 a0_17 a0_18 a0_19 : Nat) {Q0 Q9 : Nat → FS} {j j1 : Int32} {a : Nat} (sz : Nat) (hj : j = j1) (hin : vp_in j1 6) (ha : (fH a0_2 a0_5 a0_8 a0_11 a0_14 a0_17) j1.toNatClampNeg = some a) (hv : fX0_takeLatest Q0 = some (j, Q9)) : MF l yX0_takeLatest wsX0_takeLatest (rmN 1 25) D E (wHist E a0_0 a0_1 a0_2 a0_3 a0_4 a0_5 a0_6 a0_7 a0_8 a0_9 a0_10 a0_11 a0_12 a0_13 a0_14 a0_15 a0_16 a0_17 a0_18 a0_19 Q0) sz [.ref a0_0] a (fun _ => (wHist E a0_0 a0_1 a0_2 a0_3 a0_4 a0_5 a0_6 a0_7 a0_8 a0_9 a0_10 a0_11 a0_12 a0_13 a0_14 a0_15 a0_16 a0_17 a0_18 a0_19 Q9)) := by
  refine Met.ofW (cc := cX0_takeLatest) (maxL := 1) (ret := some (.object "QuarterTiles$Plan")) (by decide) rfl ?_
  intro p e s m args below meth c s₁ B hml hv0
  obtain ⟨rfl, hsz, hP, hK, hD0⟩ := hv0
  subst hsz
  have hx := B.exec
  have hb := B.bytes
  have hr := B.returns
  have hts := atoms_spec (ws := wsX0_takeLatest) B.pre
  have hown := findClass_of_methodNamed B.named
  have hlocks := B.notSynchronized
  rw [lg_entry_eq]
  have hl := lv_entry ([.ref a0_0]) (n := 1) (Nat.le_of_ble_eq_true rfl)
  generalize (lg_sl ([.ref a0_0]) ++ List.replicate (1 - (lg_sl ([.ref a0_0])).length) Slot.unset).toArray = ls at hl ⊢
  have hl : lv_has ls 1 [(0, .ref a0_0)] := hl
  have hD := hD0.self (sz := s.heap.size)
  have hS : va_S (va_A (wHist E a0_0 a0_1 a0_2 a0_3 a0_4 a0_5 a0_6 a0_7 a0_8 a0_9 a0_10 a0_11 a0_12 a0_13 a0_14 a0_15 a0_16 a0_17 a0_18 a0_19 Q0) s.heap.size) s.heap s.heap [] := va_S.rf
  generalize va_A (wHist E a0_0 a0_1 a0_2 a0_3 a0_4 a0_5 a0_6 a0_7 a0_8 a0_9 a0_10 a0_11 a0_12 a0_13 a0_14 a0_15 a0_16 a0_17 a0_18 a0_19 Q0) s.heap.size = A at hD hS ⊢
  unfold fX0_takeLatest at hv
  have hv := Option.some.inj hv
  have hj1 := (congrArg Prod.fst hv).trans hj
  have hQ := congrArg Prod.snd hv
  dsimp only at hj1 hQ
  subst hQ
  refine lv_aload_n hx hb dX0_takeLatest_0 rfl (lv_at hl 0 rfl) ?_
  refine lv_iconst (v := 0) hx hb dX0_takeLatest_1 (by decide) ?_
  refine lv_aload_n hx hb dX0_takeLatest_2 rfl (lv_at hl 0 rfl) ?_
  refine va_get (D := D) (ci := 0) (v := .int (Q0 2 0 0)) (C := RX0) (T := TX0) (N := 2) hx hb hts hiX0_takeLatest_X0 hown hK hP 0 rfl rfl 1 (by decide) (hts _ lkX0_takeLatest_18) (fun _ h9 => h9) rfl dX0_takeLatest_3 ?_
  refine lv_iconst (v := 1) hx hb dX0_takeLatest_6 (by decide) ?_
  refine lv_isub hx hb dX0_takeLatest_7 ?_
  refine va_mmax hx hb (hml.trans hl.1.symm) hown (hts _ lkX0_takeLatest_29a) (hts _ lkX0_takeLatest_29b) (hts _ lkX0_takeLatest_29c) (hts _ lkX0_takeLatest_29d) (Nat.le_of_ble_eq_true rfl) (Nat.le_of_ble_eq_true rfl) (Nat.zero_le _) (Nat.zero_le _) dX0_takeLatest_8 ?_
  refine va_put (D := D) (ci := 0) (ty := .int) (C := RX0) (T := TX0) (N := 2) hx hb hts hiX0_takeLatest_X0 tyX0 tyX0_ok nmX0 hown hK hP hD hS 0 rfl rfl 1 (by decide) (hts _ lkX0_takeLatest_18) (fun _ h9 => h9) rfl (by decide +kernel) rfl rfl (Nat.le_of_ble_eq_true rfl) dX0_takeLatest_11 (fun H locs hP hD hS => ?_)
  refine lv_aload_n hx hb dX0_takeLatest_14 rfl (lv_at hl 0 rfl) ?_
  refine va_get (D := D) (ci := 0) (v := .ref a0_1) (C := RX0) (T := TX0) (N := 2) hx hb hts hiX0_takeLatest_X0 hown hK hP 0 rfl rfl 0 (by decide) (hts _ lkX0_takeLatest_11) (fun _ h9 => h9) rfl dX0_takeLatest_15 ?_
  refine lv_aload_n hx hb dX0_takeLatest_18 rfl (lv_at hl 0 rfl) ?_
  refine va_get (D := D) (ci := 0) (C := RX0) (T := TX0) (N := 2) hx hb hts hiX0_takeLatest_X0 hown hK hP 0 rfl rfl 1 (by decide) (hts _ lkX0_takeLatest_18) (fun _ h9 => h9) rfl dX0_takeLatest_19 ?_
  refine m_ald (v := a) (f := (fH a0_2 a0_5 a0_8 a0_11 a0_14 a0_17)) hx hb hK hP 1 2 rfl rfl hj1 hin ha dX0_takeLatest_22 ?_
  exact W.aret (v := .ref a) hx hb hr (Or.inl ⟨_, rfl⟩) (Or.inr ⟨_, rfl⟩) (fun t ht hW => ⟨⟨(), a, rfl, trivial, rfl, by rw [ht]; exact hP, hD⟩, hS.F ht⟩) hS.2.2 dX0_takeLatest_23 hlocks
section RR
variable {p : Program} {l : Launch} {e : Env} {R : Room} {s : State} {m : MethodId} {args : Array Value} {below : List Frame} {meth : Method} {c : Code} {H : Heap} {locs : List Loc} {cells slots : Nat} {Q : State → Prop}
variable {cc : ByteArray} {pc : Nat} {ls : Array Slot} {rest st : List Value} {D : va_G} {A : Nat → Prop} {W9 : va_W}
theorem q_VR {y : MethodName} {ws Ts : List Cond} {rm : Room} {E : Nat → ClassId} {Z : zT} {As : List Value} {own C : String} {index maxL n nL b v : Nat} {bytes : ByteArray} {ret : Option FieldType}
    (hx : p.tables.exec = Jvm.exec) (hb : c.code = cc) (hml : c.maxLocals = nL) (hown : s.vm.findClass own = some m.cls) (hts : ∀ w ∈ Ts, w.before args s = true) (hls : ls.size = nL)
    (hM : PR l y ws rm D E Z W9 (.ref b :: As) v) (zm : zmv Z) (cw : CallW R s args own C index y bytes maxL ret ws rm 0 0 n)
    (q0 : Nat) {ci : Nat} {T0 : u_T} {N0 : Nat} {fs : List Value} (hc : vwCl[ci]? = some (C, T0, N0)) (hq : W9[q0]? = some (b, .inr (ci, fs)))
    (hP : va_P D vwCl W9 H) (hK : va_K D vwCl (tyE E) s) (hZ : Z s H) (hn : As.length = n) (hst : st = As.reverse ++ .ref b :: rest) (hcat : (rest.map fun v => v.category).sum ≤ 8) (hdg : decode cc pc = .ok (.invokevirtual index, 3)) (hf : cells + 0 ≤ R.cells ∧ slots + 0 ≤ R.slots)
    (kk : W p l e R s m args below meth c H locs cells slots Q (F0 m (pc + 3) ls (.ref v :: rest))) : W p l e R s m args below meth c H locs cells slots Q (F0 m pc ls st) :=
  va_csr (rest := rest) (a := (Value.ref b :: As).toArray) (W.runV (As := As) (b := b) ⟨hx, hb, hml, hown, hts⟩ hM cw ⟨qPre_bl zm, va_recv hK hP hc hq, fun U hU hW => ⟨rfl, by rw [hU]; exact hP, va_K.moved hW.alike hK, by rw [hU]; exact zm.2 _ _ _ hW hZ⟩⟩ rfl hn hls hst (lv_room hcat) hdg hf) (fun _ _ => kk)
theorem m_VR {y : MethodName} {ws Ts : List Cond} {rm : Room} {E : Nat → ClassId} {As : List Value} {own C : String} {index maxL n nL b v : Nat} {bytes : ByteArray} {ret : Option FieldType} {Wc Wr Wn : va_W} {W1 : Unit → va_W}
    (hx : p.tables.exec = Jvm.exec) (hb : c.code = cc) (hml : c.maxLocals = nL) (hown : s.vm.findClass own = some m.cls) (hts : ∀ w ∈ Ts, w.before args s = true) (hls : ls.size = nL)
    (hM : MF l y ws rm D E Wc H.size (.ref b :: As) v W1) (cw : CallW R s args own C index y bytes maxL ret ws rm 0 0 n)
    (q0 : Nat) {ci : Nat} {T0 : u_T} {N0 : Nat} {fs : List Value} (hc : vwCl[ci]? = some (C, T0, N0)) (hq : Wc[q0]? = some (b, .inr (ci, fs)))
    (hP : va_P D vwCl W9 H) (hD : va_D A W9) (hS : va_S A s.heap H locs) (hA : ∀ q : Nat, s.heap.size ≤ q → A q) (hK : va_K D vwCl (tyE E) s)
    (isC isR perm : List Nat) (hnC : va_nd isC = true) (hC : isC.map (fun i => W9[i]?) = Wc.map some) (hR : isR.map (fun i => W9[i]?) = Wr.map some) (hnR : va_nd isR = true) (hdis : ∀ i ∈ isR, i ∉ isC) (hnp : va_nd perm = true) (hp : perm.map (fun i => (Wr ++ W1 ())[i]?) = Wn.map some)
    (hn : As.length = n) (hst : st = As.reverse ++ .ref b :: rest) (hcat : (rest.map fun v => v.category).sum ≤ 8) (hdg : decode cc pc = .ok (.invokevirtual index, 3)) (hf : cells + 0 ≤ R.cells ∧ slots + 0 ≤ R.slots)
    (kk : ∀ (H1 : Heap) (locs1 : List Loc), va_P D vwCl Wn H1 → va_D A Wn → va_S A s.heap H1 locs1 → W p l e R s m args below meth c H1 locs1 (cells + 0) (slots + 0) Q (F0 m (pc + 3) ls (.ref v :: rest))) : W p l e R s m args below meth c H locs cells slots Q (F0 m pc ls st) := by
  have hPc := hP.sub (ws' := Wc) isC (fm_of hC)
  have hDc := hD.sub (ws' := Wc) isC hnC hC
  have hFc := va_free (wc := Wc) hD hS hA isC hC
  refine va_callr (va_runV (As := As) (rest := rest) (b := b) ⟨hx, hb, hml, hown, hts⟩ hM cw ⟨mPre_bl, va_recv hK hPc hc hq, fun U hU hW => ⟨rfl, by rw [hU], by rw [hU]; exact hPc, va_K.moved hW.alike hK, hDc.weaken (fun _ _ _ _ => trivial)⟩⟩ rfl hn hls hst (lv_room hcat) hdg hf) hS (fun q _ h => hFc q h) hFc (fun u ra t H1 locs1 ht hvm hw hB hz1 hk1 hS1 => ?_)
  obtain ⟨hra, hP1, hD1⟩ := hB
  rw [ht] at hP1
  rw [hra]
  obtain ⟨hP2, hD2⟩ := va_join hP hD isC isR hC hR hnR hdis hk1 hFc hP1 hD1
  exact kk H1 locs1 (hP2.sub perm (fm_of hp)) (hD2.sub perm hnp hp) hS1
end RR
