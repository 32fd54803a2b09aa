/-! the law's own methods: what is owed of them, and the rows that their walks use -/
def zSX (t : Nat → Nat) (A : Nat → Prop) (U : State) : Prop := va_Z "QuarterTiles$Numbers" "STEP_X" "[I" (.ref (t 0)) A U U.heap ∧ va_T .int (t 0) 8 (fun j => .int (stX j)) A U U.heap ∧ va_Z "QuarterTiles$Numbers" "STEP_Y" "[I" (.ref (t 1)) A U U.heap ∧ va_T .int (t 1) 8 (fun j => .int (stY j)) A U U.heap ∧ va_Z "QuarterTiles$Tree" "ONE_QUARTER_SEEN" "[I" (.ref (t 2)) A U U.heap ∧ va_T .int (t 2) 4 (fun j => .int (stO j)) A U U.heap ∧ va_Z "QuarterTiles$Tree" "OTHER_QUARTER_SEEN" "[I" (.ref (t 3)) A U U.heap ∧ va_T .int (t 3) 4 (fun j => .int (stU j)) A U U.heap ∧ NY U ∧ NX U
theorem zSX_now {t : Nat → Nat} {A : Nat → Prop} {s : State} {H : Heap} {locs : List Loc} (h : zSX t A s) (hS : va_S A s.heap H locs) : zSt t s H := by
  have hn : ∀ q : Nat, nA q → A q := fun _ x => x.elim
  obtain ⟨h1, h2, h3, h4, h5, h6, h7, h8, h9, h10⟩ := h
  exact ⟨(h1.kept hS.2.1).narrow hn, (h2.kept hS.2.1).narrow hn, (h3.kept hS.2.1).narrow hn, (h4.kept hS.2.1).narrow hn, (h5.kept hS.2.1).narrow hn, (h6.kept hS.2.1).narrow hn, (h7.kept hS.2.1).narrow hn, (h8.kept hS.2.1).narrow hn, h9⟩
theorem zSX_call {t : Nat → Nat} {A B : Nat → Prop} {s U : State} {H : Heap} {locs : List Loc} (h : zSX t A s) (hS : va_S A s.heap H locs) (hF : ∀ q, B q → A q) (hW : s.WarmedH U.vm) (hU : U.heap = H) : zSX t B U := by
  subst hU
  obtain ⟨h1, h2, h3, h4, h5, h6, h7, h8, h9, h10⟩ := h
  exact ⟨((h1.kept hS.2.1).narrow hF).moved hW.alike, ((h2.kept hS.2.1).narrow hF).moved hW.alike, ((h3.kept hS.2.1).narrow hF).moved hW.alike, ((h4.kept hS.2.1).narrow hF).moved hW.alike, ((h5.kept hS.2.1).narrow hF).moved hW.alike, ((h6.kept hS.2.1).narrow hF).moved hW.alike, ((h7.kept hS.2.1).narrow hF).moved hW.alike, ((h8.kept hS.2.1).narrow hF).moved hW.alike, h9.warm hW, h10.warm hW⟩
theorem zSX_same {t : Nat → Nat} {A : Nat → Prop} {u U : State} (e : u.vm = U.vm) (e2 : u.heap = U.heap) (h : zSX t A u) : zSX t A U := by
  obtain ⟨h1, h2, h3, h4, h5, h6, h7, h8, h9, h10⟩ := h
  unfold zSX
  rw [← e2]
  exact ⟨h1.moved (e ▸ Vm.Alike.refl u.vm), h2.moved (e ▸ Vm.Alike.refl u.vm), h3.moved (e ▸ Vm.Alike.refl u.vm), h4.moved (e ▸ Vm.Alike.refl u.vm), h5.moved (e ▸ Vm.Alike.refl u.vm), h6.moved (e ▸ Vm.Alike.refl u.vm), h7.moved (e ▸ Vm.Alike.refl u.vm), h8.moved (e ▸ Vm.Alike.refl u.vm), h9.same e, h10.same e⟩
def lPre (t : Nat → Nat) (D : va_G) (E : Nat → ClassId) (W : va_W) (sz : Nat) (As : List Value) : Array Value → State → Prop := va_Pc As (fun U => U.heap.size = sz ∧ va_P D vwCl W U.heap ∧ va_K D vwCl (tyE E) U ∧ va_D (fun _ => True) W ∧ zSX t (va_A W sz) U)
theorem lPre_bl {t : Nat → Nat} {D : va_G} {E : Nat → ClassId} {W : va_W} {sz : Nat} {As : List Value} : FrameBlind (lPre t D E W sz As) := by
  intro a U g mk h
  obtain ⟨h1, h2, h3, h4, h5, h6⟩ := h
  exact ⟨h1, h2, h3, va_K.moved (u := U) (U := U.calling g mk a) (Vm.Alike.refl U.vm) h4, h5, zSX_same rfl rfl h6⟩
def LI {S : Type} (l : Launch) (y : MethodName) (ws : List Cond) (rm : Room) (t : Nat → Nat) (D : va_G) (E : Nat → ClassId) (W : va_W) (sz : Nat) (As : List Value) (v : Int32) (W1 : S → va_W) (mc ms : Nat) : Prop :=
  Met l y ws rm (lPre t D E W sz As) (va_Qi (fun r (_ : S) => r = v) (mB D W1 (va_A W sz)) (va_A W sz)) mc ms (va_A W sz)
theorem LI.of {S : Type} {l : Launch} {y : MethodName} {ws ws' : List Cond} {rm : Room} {t : Nat → Nat} {D : va_G} {E : Nat → ClassId} {W : va_W} {sz : Nat} {As : List Value} {v : Int32} {W1 : S → va_W} {mc ms : Nat} {cc : ByteArray} {maxL : Nat} {ret : Option FieldType}
    (hy : plainName y.cls = true) (hw : ws = Cond.code y cc maxL ret :: ws') (hlen : (lg_sl As).length ≤ maxL)
    (body : ∀ (p : Program) (e : Env) (s : State) (m : MethodId) (below : List Frame) (meth : Method) (c : Code) (A : Nat → Prop) (H : Heap) (locs : List Loc), Ctx p s m meth c As ws cc maxL ret y.cls → va_P D vwCl W H → va_K D vwCl (tyE E) s → va_D A W → va_S A s.heap H locs → (∀ q : Nat, s.heap.size ≤ q → A q) → zSX t A s → ∀ ls, lv_has ls maxL (lv_args 0 As) → WI p l e rm s m As below meth c D A v W1 mc ms H locs 0 0 0 ls []) : LI l y ws rm t D E W sz As v W1 mc ms := by
  refine Met.ofW hy hw ?_
  intro p e s m args below meth c s₁ B hml hv
  obtain ⟨rfl, hsz, hP, hK, hD0, hN⟩ := hv
  subst hsz
  rw [lg_entry_eq]
  exact body p e s m below meth c (va_A W s.heap.size) s.heap [] ⟨B.exec, B.bytes, B.returns, hml, findClass_of_methodNamed B.named, B.notSynchronized, atoms_spec (ws := ws) B.pre⟩ hP hK hD0.self va_S.rf (fun q h => Or.inr h) hN _ (lv_entry As hlen)
/-- a method that only reads, and answers a long -/
def PUL (l : Launch) (y : MethodName) (ws : List Cond) (rm : Room) (D : va_G) (E : Nat → ClassId) (Z : zT) (W : va_W) (As : List Value) (v : Int64) : Prop :=
  Met l y ws rm (qPre D E Z W As) (vp_Sl (fun r => r = v)) 0 0 (fun _ => False)
abbrev WPL (p : Program) (l : Launch) (e : Env) (rm : Room) (s : State) (m : MethodId) (As : List Value) (below : List Frame) (meth : Method) (c : Code) (v : Int64) (pc : Nat) (ls : Array Slot) (st : List Value) : Prop :=
  W p l e rm s m As.toArray below meth c s.heap [] 0 0 (MQ below (vp_Sl (fun r => r = v)) As.toArray s 0 0 (fun _ => False)) (F0 m pc ls st)
theorem PUL.of {l : Launch} {y : MethodName} {ws ws' : List Cond} {rm : Room} {D : va_G} {E : Nat → ClassId} {Z : zT} {W : va_W} {As : List Value} {v : Int64} {cc : ByteArray} {maxL : Nat} {ret : Option FieldType}
    (hy : plainName y.cls = true) (hw : ws = Cond.code y cc maxL ret :: ws') (hlen : (lg_sl As).length ≤ maxL)
    (body : ∀ (p : Program) (e : Env) (s : State) (m : MethodId) (below : List Frame) (meth : Method) (c : Code), Ctx p s m meth c As ws cc maxL ret y.cls → va_P D vwCl W s.heap → va_K D vwCl (tyE E) s → Z s s.heap → ∀ ls, lv_has ls maxL (lv_args 0 As) → WPL p l e rm s m As below meth c v 0 ls []) : PUL l y ws rm D E Z W As v := by
  refine Met.ofW hy hw ?_
  intro p e s m args below meth c s₁ B hml hv
  obtain ⟨rfl, hP, hK, hZ⟩ := hv
  rw [lg_entry_eq]
  exact body p e s m below meth c ⟨B.exec, B.bytes, B.returns, hml, findClass_of_methodNamed B.named, B.notSynchronized, atoms_spec (ws := ws) B.pre⟩ hP hK hZ _ (lv_entry As hlen)
/-- a row of 64 longs -/
abbrev aL (E : Nat → ClassId) (a : Nat) (f : Nat → Int64) : Nat × va_E := (a, .inl (E 3, 64, .inr (.inl f)))
abbrev n38 : List Nat := [0, 1, 2, 3, 4, 5, 6, 7, 8, 9, 10, 11, 12, 13, 14, 15, 16, 17, 18, 19, 20, 21, 22, 23, 24, 25, 26, 27, 28, 29, 30, 31, 32, 33, 34, 35, 36, 37]
abbrev n39 : List Nat := [1, 2, 3, 4, 5, 6, 7, 8, 9, 10, 11, 12, 13, 14, 15, 16, 17, 18, 19, 20, 21, 22, 23, 24, 25, 26, 27, 28, 29, 30, 31, 32, 33, 34, 35, 36, 37, 38, 0]
section LB
variable {p : Program} {l : Launch} {e : Env} {R : Room} {s : State} {m : MethodId} {args : Array Value} {below : List Frame} {meth : Method} {c : Code} {H : Heap} {locs : List Loc} {cells slots : Nat} {Q : State → Prop}
variable {cc : ByteArray} {pc : Nat} {ls : Array Slot} {rest st : List Value} {D : va_G} {A : Nat → Prop} {W9 : va_W}
theorem q_retl {rm : Room} {As : List Value} {ws : List Cond} {maxL : Nat} {cls : String} {x v : Int64} (C : Ctx p s m meth c As ws cc maxL (some .long) cls) (hd : decode cc pc = .ok (.lreturn, 1)) (hv : x = v) : WPL p l e rm s m As below meth c v pc ls [.long x] := by
  obtain ⟨hx, hb, hr, hml, hown, hlocks, hts⟩ := C
  subst hv
  exact W.lret hx hb hr (fun t ht hW => ⟨_, rfl, rfl, ht⟩) (fun _ h => by cases h) hd hlocks
theorem q_SL {y : MethodName} {ws Ts : List Cond} {rm : Room} {E : Nat → ClassId} {Z : zT} {As : List Value} {v : Int64} {own : String} {index maxL n nL : Nat} {bytes : ByteArray} {ret : Option FieldType}
    (hx : p.tables.exec = Jvm.exec) (hb : c.code = cc) (hml : c.maxLocals = nL) (hown : s.vm.findClass own = some m.cls) (hts : ∀ w ∈ Ts, w.before args s = true) (hls : ls.size = nL)
    (hM : PUL l y ws rm D E Z W9 As v) (zm : zmv Z) (cw : CallB R s args own index y bytes maxL ret ws rm 0 0 n ∧ (Cond.static y).before args s = true)
    (hP : va_P D vwCl W9 H) (hK : va_K D vwCl (tyE E) s) (hZ : Z s H) (hn : As.length = n) (hst : st = As.reverse ++ rest) (hcat : (rest.map fun v => v.category).sum ≤ 8) (hdg : decode cc pc = .ok (.invokestatic index, 3)) (hf : cells + 0 ≤ R.cells ∧ slots + 0 ≤ R.slots)
    (kk : W p l e R s m args below meth c H locs cells slots Q (F0 m (pc + 3) ls (.long v :: rest))) : W p l e R s m args below meth c H locs cells slots Q (F0 m pc ls st) := by
  refine vp_callSl (rest := rest) (a := As.toArray) (W.runS (As := As) ⟨hx, hb, hml, hown, hts⟩ hM cw ⟨qPre_bl zm, fun U hU hW => ⟨rfl, by rw [hU]; exact hP, va_K.moved hW.alike hK, by rw [hU]; exact zm.2 _ _ _ hW hZ⟩⟩ rfl hn hls hst (lv_room hcat) hdg hf) (fun r hr => ?_)
  rw [hr]
  exact kk
/-- a static method of the law's own that changes the object it is given, or makes one -/
theorem l_SI {S : Type} {y : MethodName} {ws Ts : List Cond} {rm : Room} {t : Nat → Nat} {E : Nat → ClassId} {As : List Value} {v : Int32} {own : String} {index maxL n nL mc ms : Nat} {bytes : ByteArray} {ret : Option FieldType} {Wc Wr : va_W} {W1 Wn : S → va_W}
    (hx : p.tables.exec = Jvm.exec) (hb : c.code = cc) (hml : c.maxLocals = nL) (hown : s.vm.findClass own = some m.cls) (hts : ∀ w ∈ Ts, w.before args s = true) (hls : ls.size = nL)
    (hM : LI l y ws rm t D E Wc H.size As v W1 mc ms) (cw : CallB R s args own index y bytes maxL ret ws rm mc ms n ∧ (Cond.static y).before args s = true)
    (hP : va_P D vwCl W9 H) (hD : va_D A W9) (hS : va_S A s.heap H locs) (hA : ∀ q : Nat, s.heap.size ≤ q → A q) (hK : va_K D vwCl (tyE E) s) (hZ : zSX t A s)
    (isC isR perm : List Nat) (hnC : va_nd isC = true) (hC : isC.map (fun i => W9[i]?) = Wc.map some) (hR : isR.map (fun i => W9[i]?) = Wr.map some) (hnR : va_nd isR = true) (hdis : ∀ i ∈ isR, i ∉ isC) (hnp : va_nd perm = true) (hp : ∀ u, perm.map (fun i => (Wr ++ W1 u)[i]?) = (Wn u).map some)
    (hn : As.length = n) (hst : st = As.reverse ++ rest) (hcat : (rest.map fun v => v.category).sum ≤ 8) (hdg : decode cc pc = .ok (.invokestatic index, 3)) (hf : cells + mc ≤ R.cells ∧ slots + ms ≤ R.slots)
    (kk : ∀ (u : S) (H1 : Heap) (locs1 : List Loc), va_P D vwCl (Wn u) H1 → va_D A (Wn u) → va_S A s.heap H1 locs1 → W p l e R s m args below meth c H1 locs1 (cells + mc) (slots + ms) Q (F0 m (pc + 3) ls (.int v :: rest))) : W p l e R s m args below meth c H locs cells slots Q (F0 m pc ls st) := by
  have hPc := hP.sub (ws' := Wc) isC (fm_of hC)
  have hDc := hD.sub (ws' := Wc) isC hnC hC
  have hFc := va_free (wc := Wc) hD hS hA isC hC
  refine va_calli (va_runS (As := As) (rest := rest) ⟨hx, hb, hml, hown, hts⟩ hM cw ⟨lPre_bl, fun U hU hW => ⟨rfl, by rw [hU], by rw [hU]; exact hPc, va_K.moved hW.alike hK, hDc.weaken (fun _ _ _ _ => trivial), zSX_call hZ hS hFc hW hU⟩⟩ rfl hn hls hst (lv_room hcat) hdg hf) hS (fun q _ h => hFc q h) hFc (fun r u t H1 locs1 ht hvm hw hB hz1 hk1 hS1 => ?_)
  obtain ⟨hP1, hD1⟩ := hB
  rw [ht] at hP1
  rw [hw]
  obtain ⟨hP2, hD2⟩ := va_join hP hD isC isR hC hR hnR hdis hk1 hFc hP1 hD1
  exact kk u H1 locs1 (hP2.sub perm (fm_of (hp u))) (hD2.sub perm hnp (hp u)) hS1
/-- the class's methods, called on the one object that there is: one that moves plans about -/
theorem t0_VI {y : MethodName} {ws Ts : List Cond} {rm : Room} {E : Nat → ClassId} {As : List Value} {v : Int32} {own : String} {index maxL n nL q : Nat} {u : Nat → Nat} {Z0 Z1 : Nat → FS} {bytes : ByteArray} {ret : Option FieldType}
    (hx : p.tables.exec = Jvm.exec) (hb : c.code = cc) (hml : c.maxLocals = nL) (hown : s.vm.findClass own = some m.cls) (hts : ∀ w ∈ Ts, w.before args s = true) (hls : ls.size = nL)
    (hM : MI l y ws rm D E (wQ E (aZ0 q u) Z0) H.size (.ref q :: As) v (fun u1 : Nat → Nat => wQ E (aZ0 q u1) Z1) 0 0) (cw : CallW R s args own RX7 index y bytes maxL ret ws rm 0 0 n)
    (hP : va_P D vwCl (wQ E (aZ0 q u) Z0) H) (hD : va_D A (wQ E (aZ0 q u) Z0)) (hS : va_S A s.heap H locs) (hA : ∀ q : Nat, s.heap.size ≤ q → A q) (hK : va_K D vwCl (tyE E) s)
    (hn : As.length = n) (hst : st = As.reverse ++ .ref q :: rest) (hcat : (rest.map fun v => v.category).sum ≤ 8) (hdg : decode cc pc = .ok (.invokevirtual index, 3)) (hf : cells + 0 ≤ R.cells ∧ slots + 0 ≤ R.slots)
    (kk : ∀ (u1 : Nat → Nat) (H1 : Heap) (locs1 : List Loc), va_P D vwCl (wQ E (aZ0 q u1) Z1) H1 → va_D A (wQ E (aZ0 q u1) Z1) → va_S A s.heap H1 locs1 → W p l e R s m args below meth c H1 locs1 cells slots Q (F0 m (pc + 3) ls (.int v :: rest))) : W p l e R s m args below meth c H locs cells slots Q (F0 m pc ls st) :=
  m_VI (S := Nat → Nat) (Wn := fun u1 : Nat → Nat => wQ E (aZ0 q u1) Z1) (Wr := []) hx hb hml hown hts hls hM cw 0 (ci := 6) (T0 := TX7) (N0 := 4) rfl rfl hP hD hS hA hK n38 [] n38 (by decide) rfl rfl (by decide) (by decide) (by decide) (fun _ => rfl) hn hst hcat hdg hf kk
/-- one that doesn't -/
theorem t0_UI {y : MethodName} {ws Ts : List Cond} {rm : Room} {E : Nat → ClassId} {As : List Value} {v : Int32} {own : String} {index maxL n nL q : Nat} {u : Nat → Nat} {Z0 Z1 : Nat → FS} {bytes : ByteArray} {ret : Option FieldType}
    (hx : p.tables.exec = Jvm.exec) (hb : c.code = cc) (hml : c.maxLocals = nL) (hown : s.vm.findClass own = some m.cls) (hts : ∀ w ∈ Ts, w.before args s = true) (hls : ls.size = nL)
    (hM : MI l y ws rm D E (wQ E (aZ0 q u) Z0) H.size (.ref q :: As) v (fun _ : Unit => wQ E (aZ0 q u) Z1) 0 0) (cw : CallW R s args own RX7 index y bytes maxL ret ws rm 0 0 n)
    (hP : va_P D vwCl (wQ E (aZ0 q u) Z0) H) (hD : va_D A (wQ E (aZ0 q u) Z0)) (hS : va_S A s.heap H locs) (hA : ∀ q : Nat, s.heap.size ≤ q → A q) (hK : va_K D vwCl (tyE E) s)
    (hn : As.length = n) (hst : st = As.reverse ++ .ref q :: rest) (hcat : (rest.map fun v => v.category).sum ≤ 8) (hdg : decode cc pc = .ok (.invokevirtual index, 3)) (hf : cells + 0 ≤ R.cells ∧ slots + 0 ≤ R.slots)
    (kk : ∀ (u1 : Nat → Nat) (H1 : Heap) (locs1 : List Loc), va_P D vwCl (wQ E (aZ0 q u1) Z1) H1 → va_D A (wQ E (aZ0 q u1) Z1) → va_S A s.heap H1 locs1 → W p l e R s m args below meth c H1 locs1 cells slots Q (F0 m (pc + 3) ls (.int v :: rest))) : W p l e R s m args below meth c H locs cells slots Q (F0 m pc ls st) :=
  m_VI (S := Unit) (Wn := fun _ : Unit => wQ E (aZ0 q u) Z1) (Wr := []) hx hb hml hown hts hls hM cw 0 (ci := 6) (T0 := TX7) (N0 := 4) rfl rfl hP hD hS hA hK n38 [] n38 (by decide) rfl rfl (by decide) (by decide) (by decide) (fun _ => rfl) hn hst hcat hdg hf (fun _ => kk u)
/-- window: a cell more, and private methods of the nest -/
theorem t0_NI {y : MethodName} {ws Ts : List Cond} {rm : Room} {E : Nat → ClassId} {As : List Value} {v : Int32} {own : String} {index maxL n nL q mc ms : Nat} {u : Nat → Nat} {Z0 Z1 : Nat → FS} {bytes : ByteArray} {ret : Option FieldType}
    (hx : p.tables.exec = Jvm.exec) (hb : c.code = cc) (hml : c.maxLocals = nL) (hown : s.vm.findClass own = some m.cls) (hts : ∀ w ∈ Ts, w.before args s = true) (hls : ls.size = nL)
    (hM : NI l y ws rm D E (wQ E (aZ0 q u) Z0) H.size (.ref q :: As) v (fun _ : Unit => wQ E (aZ0 q u) Z1) mc ms) (cw : CallW R s args own RX7 index y bytes maxL ret ws rm mc ms n)
    (hP : va_P D vwCl (wQ E (aZ0 q u) Z0) H) (hD : va_D A (wQ E (aZ0 q u) Z0)) (hS : va_S A s.heap H locs) (hA : ∀ q : Nat, s.heap.size ≤ q → A q) (hK : va_K D vwCl (tyE E) s) (hN : NY s)
    (hn : As.length = n) (hst : st = As.reverse ++ .ref q :: rest) (hcat : (rest.map fun v => v.category).sum ≤ 8) (hdg : decode cc pc = .ok (.invokevirtual index, 3)) (hf : cells + mc ≤ R.cells ∧ slots + ms ≤ R.slots)
    (kk : ∀ (u1 : Nat → Nat) (H1 : Heap) (locs1 : List Loc), va_P D vwCl (wQ E (aZ0 q u1) Z1) H1 → va_D A (wQ E (aZ0 q u1) Z1) → va_S A s.heap H1 locs1 → W p l e R s m args below meth c H1 locs1 (cells + mc) (slots + ms) Q (F0 m (pc + 3) ls (.int v :: rest))) : W p l e R s m args below meth c H locs cells slots Q (F0 m pc ls st) :=
  n_VI (S := Unit) (Wn := fun _ : Unit => wQ E (aZ0 q u) Z1) (Wr := []) hx hb hml hown hts hls hM cw 0 (ci := 6) (T0 := TX7) (N0 := 4) rfl rfl hP hD hS hA hK hN n38 [] n38 (by decide) rfl rfl (by decide) (by decide) (by decide) (fun _ => rfl) hn hst hcat hdg hf (fun _ => kk u)
/-- the same beside a row of longs -/
theorem t1_VI {y : MethodName} {ws Ts : List Cond} {rm : Room} {E : Nat → ClassId} {As : List Value} {v : Int32} {own : String} {index maxL n nL q w : Nat} {f : Nat → Int64} {u : Nat → Nat} {Z0 Z1 : Nat → FS} {bytes : ByteArray} {ret : Option FieldType}
    (hx : p.tables.exec = Jvm.exec) (hb : c.code = cc) (hml : c.maxLocals = nL) (hown : s.vm.findClass own = some m.cls) (hts : ∀ w ∈ Ts, w.before args s = true) (hls : ls.size = nL)
    (hM : MI l y ws rm D E (wQ E (aZ0 q u) Z0) H.size (.ref q :: As) v (fun u1 : Nat → Nat => wQ E (aZ0 q u1) Z1) 0 0) (cw : CallW R s args own RX7 index y bytes maxL ret ws rm 0 0 n)
    (hP : va_P D vwCl (wQ E (aZ0 q u) Z0 ++ [aL E w f]) H) (hD : va_D A (wQ E (aZ0 q u) Z0 ++ [aL E w f])) (hS : va_S A s.heap H locs) (hA : ∀ q : Nat, s.heap.size ≤ q → A q) (hK : va_K D vwCl (tyE E) s)
    (hn : As.length = n) (hst : st = As.reverse ++ .ref q :: rest) (hcat : (rest.map fun v => v.category).sum ≤ 8) (hdg : decode cc pc = .ok (.invokevirtual index, 3)) (hf : cells + 0 ≤ R.cells ∧ slots + 0 ≤ R.slots)
    (kk : ∀ (u1 : Nat → Nat) (H1 : Heap) (locs1 : List Loc), va_P D vwCl (wQ E (aZ0 q u1) Z1 ++ [aL E w f]) H1 → va_D A (wQ E (aZ0 q u1) Z1 ++ [aL E w f]) → va_S A s.heap H1 locs1 → W p l e R s m args below meth c H1 locs1 cells slots Q (F0 m (pc + 3) ls (.int v :: rest))) : W p l e R s m args below meth c H locs cells slots Q (F0 m pc ls st) :=
  m_VI (S := Nat → Nat) (Wn := fun u1 : Nat → Nat => wQ E (aZ0 q u1) Z1 ++ [aL E w f]) (Wr := [aL E w f]) hx hb hml hown hts hls hM cw 0 (ci := 6) (T0 := TX7) (N0 := 4) rfl rfl hP hD hS hA hK n38 [38] n39 (by decide) rfl rfl (by decide) (by decide) (by decide) (fun _ => rfl) hn hst hcat hdg hf kk
/-- a static method of the law's own over the object alone -/
theorem t0_SI {y : MethodName} {ws Ts : List Cond} {rm : Room} {t : Nat → Nat} {E : Nat → ClassId} {As : List Value} {v : Int32} {own : String} {index maxL n nL q mc ms : Nat} {u : Nat → Nat} {Z0 Z1 : Nat → FS} {bytes : ByteArray} {ret : Option FieldType}
    (hx : p.tables.exec = Jvm.exec) (hb : c.code = cc) (hml : c.maxLocals = nL) (hown : s.vm.findClass own = some m.cls) (hts : ∀ w ∈ Ts, w.before args s = true) (hls : ls.size = nL)
    (hM : LI l y ws rm t D E (wQ E (aZ0 q u) Z0) H.size As v (fun u1 : Nat → Nat => wQ E (aZ0 q u1) Z1) mc ms) (cw : CallB R s args own index y bytes maxL ret ws rm mc ms n ∧ (Cond.static y).before args s = true)
    (hP : va_P D vwCl (wQ E (aZ0 q u) Z0) H) (hD : va_D A (wQ E (aZ0 q u) Z0)) (hS : va_S A s.heap H locs) (hA : ∀ q : Nat, s.heap.size ≤ q → A q) (hK : va_K D vwCl (tyE E) s) (hZ : zSX t A s)
    (hn : As.length = n) (hst : st = As.reverse ++ rest) (hcat : (rest.map fun v => v.category).sum ≤ 8) (hdg : decode cc pc = .ok (.invokestatic index, 3)) (hf : cells + mc ≤ R.cells ∧ slots + ms ≤ R.slots)
    (kk : ∀ (u1 : Nat → Nat) (H1 : Heap) (locs1 : List Loc), va_P D vwCl (wQ E (aZ0 q u1) Z1) H1 → va_D A (wQ E (aZ0 q u1) Z1) → va_S A s.heap H1 locs1 → W p l e R s m args below meth c H1 locs1 (cells + mc) (slots + ms) Q (F0 m (pc + 3) ls (.int v :: rest))) : W p l e R s m args below meth c H locs cells slots Q (F0 m pc ls st) :=
  l_SI (S := Nat → Nat) (Wn := fun u1 : Nat → Nat => wQ E (aZ0 q u1) Z1) (Wr := []) hx hb hml hown hts hls hM cw hP hD hS hA hK hZ n38 [] n38 (by decide) rfl rfl (by decide) (by decide) (by decide) (fun _ => rfl) hn hst hcat hdg hf kk
/-- beside a row of longs, which it isn't given -/
theorem t1_SI {y : MethodName} {ws Ts : List Cond} {rm : Room} {t : Nat → Nat} {E : Nat → ClassId} {As : List Value} {v : Int32} {own : String} {index maxL n nL q w mc ms : Nat} {f : Nat → Int64} {u : Nat → Nat} {Z0 Z1 : Nat → FS} {bytes : ByteArray} {ret : Option FieldType}
    (hx : p.tables.exec = Jvm.exec) (hb : c.code = cc) (hml : c.maxLocals = nL) (hown : s.vm.findClass own = some m.cls) (hts : ∀ w ∈ Ts, w.before args s = true) (hls : ls.size = nL)
    (hM : LI l y ws rm t D E (wQ E (aZ0 q u) Z0) H.size As v (fun u1 : Nat → Nat => wQ E (aZ0 q u1) Z1) mc ms) (cw : CallB R s args own index y bytes maxL ret ws rm mc ms n ∧ (Cond.static y).before args s = true)
    (hP : va_P D vwCl (wQ E (aZ0 q u) Z0 ++ [aL E w f]) H) (hD : va_D A (wQ E (aZ0 q u) Z0 ++ [aL E w f])) (hS : va_S A s.heap H locs) (hA : ∀ q : Nat, s.heap.size ≤ q → A q) (hK : va_K D vwCl (tyE E) s) (hZ : zSX t A s)
    (hn : As.length = n) (hst : st = As.reverse ++ rest) (hcat : (rest.map fun v => v.category).sum ≤ 8) (hdg : decode cc pc = .ok (.invokestatic index, 3)) (hf : cells + mc ≤ R.cells ∧ slots + ms ≤ R.slots)
    (kk : ∀ (u1 : Nat → Nat) (H1 : Heap) (locs1 : List Loc), va_P D vwCl (wQ E (aZ0 q u1) Z1 ++ [aL E w f]) H1 → va_D A (wQ E (aZ0 q u1) Z1 ++ [aL E w f]) → va_S A s.heap H1 locs1 → W p l e R s m args below meth c H1 locs1 (cells + mc) (slots + ms) Q (F0 m (pc + 3) ls (.int v :: rest))) : W p l e R s m args below meth c H locs cells slots Q (F0 m pc ls st) :=
  l_SI (S := Nat → Nat) (Wn := fun u1 : Nat → Nat => wQ E (aZ0 q u1) Z1 ++ [aL E w f]) (Wr := [aL E w f]) hx hb hml hown hts hls hM cw hP hD hS hA hK hZ n38 [38] n39 (by decide) rfl rfl (by decide) (by decide) (by decide) (fun _ => rfl) hn hst hcat hdg hf kk
/-- which it is given -/
theorem t2_SI {y : MethodName} {ws Ts : List Cond} {rm : Room} {t : Nat → Nat} {E : Nat → ClassId} {As : List Value} {v : Int32} {own : String} {index maxL n nL q w mc ms : Nat} {f : Nat → Int64} {u : Nat → Nat} {Z0 Z1 : Nat → FS} {bytes : ByteArray} {ret : Option FieldType}
    (hx : p.tables.exec = Jvm.exec) (hb : c.code = cc) (hml : c.maxLocals = nL) (hown : s.vm.findClass own = some m.cls) (hts : ∀ w ∈ Ts, w.before args s = true) (hls : ls.size = nL)
    (hM : LI l y ws rm t D E (wQ E (aZ0 q u) Z0 ++ [aL E w f]) H.size As v (fun u1 : Nat → Nat => wQ E (aZ0 q u1) Z1 ++ [aL E w f]) mc ms) (cw : CallB R s args own index y bytes maxL ret ws rm mc ms n ∧ (Cond.static y).before args s = true)
    (hP : va_P D vwCl (wQ E (aZ0 q u) Z0 ++ [aL E w f]) H) (hD : va_D A (wQ E (aZ0 q u) Z0 ++ [aL E w f])) (hS : va_S A s.heap H locs) (hA : ∀ q : Nat, s.heap.size ≤ q → A q) (hK : va_K D vwCl (tyE E) s) (hZ : zSX t A s)
    (hn : As.length = n) (hst : st = As.reverse ++ rest) (hcat : (rest.map fun v => v.category).sum ≤ 8) (hdg : decode cc pc = .ok (.invokestatic index, 3)) (hf : cells + mc ≤ R.cells ∧ slots + ms ≤ R.slots)
    (kk : ∀ (u1 : Nat → Nat) (H1 : Heap) (locs1 : List Loc), va_P D vwCl (wQ E (aZ0 q u1) Z1 ++ [aL E w f]) H1 → va_D A (wQ E (aZ0 q u1) Z1 ++ [aL E w f]) → va_S A s.heap H1 locs1 → W p l e R s m args below meth c H1 locs1 (cells + mc) (slots + ms) Q (F0 m (pc + 3) ls (.int v :: rest))) : W p l e R s m args below meth c H locs cells slots Q (F0 m pc ls st) :=
  l_SI (S := Nat → Nat) (Wn := fun u1 : Nat → Nat => wQ E (aZ0 q u1) Z1 ++ [aL E w f]) (Wr := []) hx hb hml hown hts hls hM cw hP hD hS hA hK hZ (n38 ++ [38]) [] (n38 ++ [38]) (by decide) rfl rfl (by decide) (by decide) (by decide) (fun _ => rfl) hn hst hcat hdg hf kk
/-- a method that makes its own objects: nothing of them is left -/
theorem t_S0 {y : MethodName} {ws Ts : List Cond} {rm : Room} {t : Nat → Nat} {E : Nat → ClassId} {v : Int32} {own : String} {index maxL nL mc ms : Nat} {bytes : ByteArray} {ret : Option FieldType}
    (hx : p.tables.exec = Jvm.exec) (hb : c.code = cc) (hml : c.maxLocals = nL) (hown : s.vm.findClass own = some m.cls) (hts : ∀ w ∈ Ts, w.before args s = true) (hls : ls.size = nL)
    (hM : LI l y ws rm t D E [] H.size [] v (fun _ : Unit => []) mc ms) (cw : CallB R s args own index y bytes maxL ret ws rm mc ms 0 ∧ (Cond.static y).before args s = true)
    (hP : va_P D vwCl [] H) (hD : va_D A []) (hS : va_S A s.heap H locs) (hA : ∀ q : Nat, s.heap.size ≤ q → A q) (hK : va_K D vwCl (tyE E) s) (hZ : zSX t A s)
    (hcat : (st.map fun v => v.category).sum ≤ 8) (hdg : decode cc pc = .ok (.invokestatic index, 3)) (hf : cells + mc ≤ R.cells ∧ slots + ms ≤ R.slots)
    (kk : ∀ (H1 : Heap) (locs1 : List Loc), va_P D vwCl [] H1 → va_D A [] → va_S A s.heap H1 locs1 → W p l e R s m args below meth c H1 locs1 (cells + mc) (slots + ms) Q (F0 m (pc + 3) ls (.int v :: st))) : W p l e R s m args below meth c H locs cells slots Q (F0 m pc ls st) :=
  l_SI (S := Unit) (Wn := fun _ : Unit => []) (Wr := []) hx hb hml hown hts hls hM cw hP hD hS hA hK hZ [] [] [] (by decide) rfl rfl (by decide) (by decide) (by decide) (fun _ => rfl) rfl rfl hcat hdg hf (fun _ => kk)
/-- true is answered, and the object is left as it is -/
theorem t_rz {S : Type} {F : S → va_W} (u : S) {rm : Room} {As : List Value} {ws : List Cond} {maxL : Nat} {cls : String} {mc ms : Nat} (C : Ctx p s m meth c As ws cc maxL (some .boolean) cls) (hd : decode cc pc = .ok (.ireturn, 1)) (h1 : cells ≤ mc) (h2 : slots ≤ ms) (hP : va_P D vwCl (F u) H) (hD : va_D A (F u)) (hS : va_S A s.heap H locs) : WI p l e rm s m As below meth c D A 1 F mc ms H locs cells slots pc ls [.int 1] := by
  refine W.widen (k := mc) (n := ms) h1 h2 ?_
  exact m_retz (F := fun (_ : Unit) => F) (S1 := ()) (S2 := ()) u C hd rfl hP hD hS
end LB
theorem va_P_nil {D : va_G} {H : Heap} : va_P D vwCl [] H := fun k q h => by simp at h
theorem va_D_nil {A : Nat → Prop} : va_D A [] := ⟨fun i j p q h => by simp at h, fun k q h => by simp at h⟩
