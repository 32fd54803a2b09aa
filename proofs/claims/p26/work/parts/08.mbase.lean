/-! base of the methods that write -/
def mPre (D : va_G) (E : Nat → ClassId) (W : va_W) (sz : Nat) (As : List Value) : Array Value → State → Prop := va_Pc As (fun U => U.heap.size = sz ∧ va_P D vwCl W U.heap ∧ va_K D vwCl (tyE E) U ∧ va_D (fun _ => True) W)
theorem mPre_bl {D : va_G} {E : Nat → ClassId} {W : va_W} {sz : Nat} {As : List Value} : FrameBlind (mPre D E W sz As) := by
  intro a U g mk h
  obtain ⟨h1, h2, h3, h4, h5⟩ := h
  exact ⟨h1, h2, h3, va_K.moved (u := U) (U := U.calling g mk a) (Vm.Alike.refl U.vm) h4, h5⟩
def mB {S : Type} (D : va_G) (W1 : S → va_W) (A : Nat → Prop) : S → State → Prop := fun u t => va_P D vwCl (W1 u) t.heap ∧ va_D A (W1 u)
def MI {S : Type} (l : Launch) (y : MethodName) (ws : List Cond) (rm : Room) (D : va_G) (E : Nat → ClassId) (W : va_W) (sz : Nat) (As : List Value) (v : Int32) (W1 : S → va_W) (mc ms : Nat) : Prop :=
  Met l y ws rm (mPre D E W sz As) (va_Qi (fun r (_ : S) => r = v) (mB D W1 (va_A W sz)) (va_A W sz)) mc ms (va_A W sz)
def MV {S : Type} (l : Launch) (y : MethodName) (ws : List Cond) (rm : Room) (D : va_G) (E : Nat → ClassId) (W : va_W) (sz : Nat) (As : List Value) (W1 : S → va_W) (mc ms : Nat) : Prop :=
  Met l y ws rm (mPre D E W sz As) (va_Qv (fun _ : S => True) (mB D W1 (va_A W sz)) (va_A W sz)) mc ms (va_A W sz)
abbrev WI {S : Type} (p : Program) (l : Launch) (e : Env) (rm : Room) (s : State) (m : MethodId) (As : List Value) (below : List Frame) (meth : Method) (c : Code) (D : va_G) (A : Nat → Prop) (v : Int32) (W1 : S → va_W) (mc ms : Nat) (H : Heap) (locs : List Loc) (cells slots pc : Nat) (ls : Array Slot) (st : List Value) : Prop :=
  W p l e rm s m As.toArray below meth c H locs cells slots (MQ below (va_Qi (fun r (_ : S) => r = v) (mB D W1 A) A) As.toArray s mc ms A) (F0 m pc ls st)
abbrev WV {S : Type} (p : Program) (l : Launch) (e : Env) (rm : Room) (s : State) (m : MethodId) (As : List Value) (below : List Frame) (meth : Method) (c : Code) (D : va_G) (A : Nat → Prop) (W1 : S → va_W) (mc ms : Nat) (H : Heap) (locs : List Loc) (cells slots pc : Nat) (ls : Array Slot) (st : List Value) : Prop :=
  W p l e rm s m As.toArray below meth c H locs cells slots (MQ below (va_Qv (fun _ : S => True) (mB D W1 A) A) As.toArray s mc ms A) (F0 m pc ls st)
theorem MI.of {S : Type} {l : Launch} {y : MethodName} {ws ws' : List Cond} {rm : Room} {D : va_G} {E : Nat → ClassId} {W : va_W} {sz : Nat} {As : List Value} {v : Int32} {W1 : S → va_W} {mc ms : Nat} {cc : ByteArray} {maxL : Nat} {ret : Option FieldType}
    (hy : plainName y.cls = true) (hw : ws = Cond.code y cc maxL ret :: ws') (hlen : (lg_sl As).length ≤ maxL)
    (body : ∀ (p : Program) (e : Env) (s : State) (m : MethodId) (below : List Frame) (meth : Method) (c : Code) (A : Nat → Prop) (H : Heap) (locs : List Loc), Ctx p s m meth c As ws cc maxL ret y.cls → va_P D vwCl W H → va_K D vwCl (tyE E) s → va_D A W → va_S A s.heap H locs → (∀ q : Nat, s.heap.size ≤ q → A q) → ∀ ls, lv_has ls maxL (lv_args 0 As) → WI p l e rm s m As below meth c D A v W1 mc ms H locs 0 0 0 ls []) : MI l y ws rm D E W sz As v W1 mc ms := by
  refine Met.ofW hy hw ?_
  intro p e s m args below meth c s₁ B hml hv
  obtain ⟨rfl, hsz, hP, hK, hD0⟩ := hv
  subst hsz
  rw [lg_entry_eq]
  exact body p e s m below meth c (va_A W s.heap.size) s.heap [] ⟨B.exec, B.bytes, B.returns, hml, findClass_of_methodNamed B.named, B.notSynchronized, atoms_spec (ws := ws) B.pre⟩ hP hK hD0.self va_S.rf (fun q h => Or.inr h) _ (lv_entry As hlen)
theorem MV.of {S : Type} {l : Launch} {y : MethodName} {ws ws' : List Cond} {rm : Room} {D : va_G} {E : Nat → ClassId} {W : va_W} {sz : Nat} {As : List Value} {W1 : S → va_W} {mc ms : Nat} {cc : ByteArray} {maxL : Nat} {ret : Option FieldType}
    (hy : plainName y.cls = true) (hw : ws = Cond.code y cc maxL ret :: ws') (hlen : (lg_sl As).length ≤ maxL)
    (body : ∀ (p : Program) (e : Env) (s : State) (m : MethodId) (below : List Frame) (meth : Method) (c : Code) (A : Nat → Prop) (H : Heap) (locs : List Loc), Ctx p s m meth c As ws cc maxL ret y.cls → va_P D vwCl W H → va_K D vwCl (tyE E) s → va_D A W → va_S A s.heap H locs → (∀ q : Nat, s.heap.size ≤ q → A q) → ∀ ls, lv_has ls maxL (lv_args 0 As) → WV p l e rm s m As below meth c D A W1 mc ms H locs 0 0 0 ls []) : MV l y ws rm D E W sz As W1 mc ms := by
  refine Met.ofW hy hw ?_
  intro p e s m args below meth c s₁ B hml hv
  obtain ⟨rfl, hsz, hP, hK, hD0⟩ := hv
  subst hsz
  rw [lg_entry_eq]
  exact body p e s m below meth c (va_A W s.heap.size) s.heap [] ⟨B.exec, B.bytes, B.returns, hml, findClass_of_methodNamed B.named, B.notSynchronized, atoms_spec (ws := ws) B.pre⟩ hP hK hD0.self va_S.rf (fun q h => Or.inr h) _ (lv_entry As hlen)
/-! a method that writes, and calls private methods of the nest -/
def nPre (D : va_G) (E : Nat → ClassId) (W : va_W) (sz : Nat) (As : List Value) : Array Value → State → Prop := va_Pc As (fun U => U.heap.size = sz ∧ va_P D vwCl W U.heap ∧ va_K D vwCl (tyE E) U ∧ va_D (fun _ => True) W ∧ NY U)
theorem nPre_bl {D : va_G} {E : Nat → ClassId} {W : va_W} {sz : Nat} {As : List Value} : FrameBlind (nPre D E W sz As) := by
  intro a U g mk h
  obtain ⟨h1, h2, h3, h4, h5, h6⟩ := h
  exact ⟨h1, h2, h3, va_K.moved (u := U) (U := U.calling g mk a) (Vm.Alike.refl U.vm) h4, h5, h6.same rfl⟩
def NI {S : Type} (l : Launch) (y : MethodName) (ws : List Cond) (rm : Room) (D : va_G) (E : Nat → ClassId) (W : va_W) (sz : Nat) (As : List Value) (v : Int32) (W1 : S → va_W) (mc ms : Nat) : Prop :=
  Met l y ws rm (nPre D E W sz As) (va_Qi (fun r (_ : S) => r = v) (mB D W1 (va_A W sz)) (va_A W sz)) mc ms (va_A W sz)
theorem NI.of {S : Type} {l : Launch} {y : MethodName} {ws ws' : List Cond} {rm : Room} {D : va_G} {E : Nat → ClassId} {W : va_W} {sz : Nat} {As : List Value} {v : Int32} {W1 : S → va_W} {mc ms : Nat} {cc : ByteArray} {maxL : Nat} {ret : Option FieldType}
    (hy : plainName y.cls = true) (hw : ws = Cond.code y cc maxL ret :: ws') (hlen : (lg_sl As).length ≤ maxL)
    (body : ∀ (p : Program) (e : Env) (s : State) (m : MethodId) (below : List Frame) (meth : Method) (c : Code) (A : Nat → Prop) (H : Heap) (locs : List Loc), Ctx p s m meth c As ws cc maxL ret y.cls → va_P D vwCl W H → va_K D vwCl (tyE E) s → va_D A W → va_S A s.heap H locs → (∀ q : Nat, s.heap.size ≤ q → A q) → NY s → ∀ ls, lv_has ls maxL (lv_args 0 As) → WI p l e rm s m As below meth c D A v W1 mc ms H locs 0 0 0 ls []) : NI l y ws rm D E W sz As v W1 mc ms := by
  refine Met.ofW hy hw ?_
  intro p e s m args below meth c s₁ B hml hv
  obtain ⟨rfl, hsz, hP, hK, hD0, hN⟩ := hv
  subst hsz
  rw [lg_entry_eq]
  exact body p e s m below meth c (va_A W s.heap.size) s.heap [] ⟨B.exec, B.bytes, B.returns, hml, findClass_of_methodNamed B.named, B.notSynchronized, atoms_spec (ws := ws) B.pre⟩ hP hK hD0.self va_S.rf (fun q h => Or.inr h) hN _ (lv_entry As hlen)
def bzs {σ : Type} (x : Int32) (S : σ) : Option (Int32 × σ) := if x &&& 1 = x then some (x, S) else none
def wz (n : Nat) (f : FA) (i x : Int32) : Option FA := if i < 0 ∨ n ≤ i.toNatClampNeg then none else some (upd f i.toNatClampNeg (vp_nar .boolean x))
theorem wz_s {n : Nat} {f g : FA} {i x : Int32} (h : wz n f i x = some g) : vp_in i n ∧ upd f i.toNatClampNeg (vp_nar .boolean x) = g := by
  unfold wz at h
  split at h
  · cases h
  · next hn => exact ⟨hn, Option.some.inj h⟩
def cp (n0 n1 : Nat) (f g : FA) (sp dp n : Int32) : Option FA := if sp < 0 ∨ dp < 0 ∨ n < 0 ∨ n0 < sp.toNatClampNeg + n.toNatClampNeg ∨ n1 < dp.toNatClampNeg + n.toNatClampNeg then none else some (va_cpy f g sp.toNatClampNeg dp.toNatClampNeg n.toNatClampNeg)
theorem cp_s {n0 n1 : Nat} {f g h : FA} {sp dp n : Int32} (e : cp n0 n1 f g sp dp n = some h) : ¬ sp < 0 ∧ ¬ dp < 0 ∧ ¬ n < 0 ∧ sp.toNatClampNeg + n.toNatClampNeg ≤ n0 ∧ dp.toNatClampNeg + n.toNatClampNeg ≤ n1 ∧ va_cpy f g sp.toNatClampNeg dp.toNatClampNeg n.toNatClampNeg = h := by
  unfold cp at e
  split at e
  · cases e
  · next hn =>
    refine ⟨fun q => hn (Or.inl q), fun q => hn (Or.inr (Or.inl q)), fun q => hn (Or.inr (Or.inr (Or.inl q))), ?_, ?_, Option.some.inj e⟩
    · exact Nat.not_lt.mp fun q => hn (Or.inr (Or.inr (Or.inr (Or.inl q))))
    · exact Nat.not_lt.mp fun q => hn (Or.inr (Or.inr (Or.inr (Or.inr q))))
theorem fm_of {α : Type} {f : Nat → Option α} : ∀ {is : List Nat} {w : List α}, is.map f = w.map some → is.filterMap f = w
  | [], [], _ => rfl
  | [], _ :: _, h => by cases h
  | _ :: _, [], h => by cases h
  | i :: is, a :: w, h => by
    injection h with h1 h2
    rw [List.filterMap_cons, h1, fm_of h2]
theorem m_st {D : va_G} {A : Nat → Prop} {H : Heap} {σ : Type} {F : σ → va_W} {S1 S2 : σ} (e : S1 = S2) (hP : va_P D vwCl (F S1) H) (hD : va_D A (F S1)) : va_P D vwCl (F S2) H ∧ va_D A (F S2) := by
  subst e
  exact ⟨hP, hD⟩
section MR
variable {p : Program} {l : Launch} {e : Env} {R : Room} {s : State} {m : MethodId} {args : Array Value} {below : List Frame} {meth : Method} {c : Code} {H : Heap} {locs : List Loc} {cells slots : Nat} {Q : State → Prop}
variable {cc : ByteArray} {pc : Nat} {ls : Array Slot} {rest st : List Value} {D : va_G} {cl : List vw_C} {A : Nat → Prop} {a : Nat} {tys : List (ClassId × FieldType)} {W9 : va_W}
theorem m_ret {σ S : Type} {F : σ → S → va_W} {S1 S2 : σ} (u : S) {rm : Room} {As : List Value} {ws : List Cond} {maxL : Nat} {cls : String} {x v : Int32} (C : Ctx p s m meth c As ws cc maxL (some .int) cls) (hd : decode cc pc = .ok (.ireturn, 1)) (hv : some (x, S1) = some (v, S2)) (hP : va_P D vwCl (F S1 u) H) (hD : va_D A (F S1 u)) (hS : va_S A s.heap H locs) : WI p l e rm s m As below meth c D A v (F S2) cells slots H locs cells slots pc ls [.int x] := by
  obtain ⟨hx, hb, hr, hml, hown, hlocks, hts⟩ := C
  cases hv
  exact W.iret hx hb hr (fun t ht hW => ⟨⟨_, u, rfl, rfl, by rw [ht]; exact hP, hD⟩, hS.F ht⟩) hS.2.2 hd hlocks
theorem m_retz {σ S : Type} {F : σ → S → va_W} {S1 S2 : σ} (u : S) {rm : Room} {As : List Value} {ws : List Cond} {maxL : Nat} {cls : String} {x v : Int32} (C : Ctx p s m meth c As ws cc maxL (some .boolean) cls) (hd : decode cc pc = .ok (.ireturn, 1)) (hv : bzs x S1 = some (v, S2)) (hP : va_P D vwCl (F S1 u) H) (hD : va_D A (F S1 u)) (hS : va_S A s.heap H locs) : WI p l e rm s m As below meth c D A v (F S2) cells slots H locs cells slots pc ls [.int x] := by
  obtain ⟨hx, hb, hr, hml, hown, hlocks, hts⟩ := C
  unfold bzs at hv
  split at hv
  · next hn =>
    cases hv
    exact W.zret hx hb hr (by show Value.int (x &&& 1) = _; rw [hn]) (fun t ht hW => ⟨⟨_, u, rfl, rfl, by rw [ht]; exact hP, hD⟩, hS.F ht⟩) hS.2.2 hd hlocks
  · cases hv
theorem m_retv {σ S : Type} {F : σ → S → va_W} {S1 S2 : σ} (u : S) {rm : Room} {As : List Value} {ws : List Cond} {maxL : Nat} {cls : String} (C : Ctx p s m meth c As ws cc maxL none cls) (hd : decode cc pc = .ok (.return_, 1)) (hv : some S1 = some S2) (hP : va_P D vwCl (F S1 u) H) (hD : va_D A (F S1 u)) (hS : va_S A s.heap H locs) : WV p l e rm s m As below meth c D A (F S2) cells slots H locs cells slots pc ls [] := by
  obtain ⟨hx, hb, hr, hml, hown, hlocks, hts⟩ := C
  cases hv
  exact W.vret hx hb hr (fun t ht hW => ⟨⟨u, rfl, trivial, by rw [ht]; exact hP, hD⟩, hS.F ht⟩) hS.2.2 hd hlocks
theorem m_ist (hexec : p.tables.exec = Jvm.exec) (hb : c.code = cc) (hK : va_K D cl tys s) (hP : va_P D cl W9 H) (hD : va_D A W9) (hS : va_S A s.heap H locs) (q0 t0 : Nat) {cA : ClassId} {n : Nat} {f g : FA} (ha : W9[q0]? = some (a, .inl (cA, n, .inl f))) (ht : tys[t0]? = some (cA, .int)) {i x : Int32} (hw : wr n f i x = some g) (hdg : decode cc pc = .ok (.iastore, 1))
    (kk : ∀ (H1 : Heap) (locs1 : List Loc), va_P D cl (W9.set q0 (a, .inl (cA, n, .inl g))) H1 → va_D A (W9.set q0 (a, .inl (cA, n, .inl g))) → va_S A s.heap H1 locs1 → W p l e R s m args below meth c H1 locs1 cells slots Q (F0 m (pc + 1) ls rest)) : W p l e R s m args below meth c H locs cells slots Q (F0 m pc ls (.int x :: .int i :: .ref a :: rest)) := by
  obtain ⟨h1, h2⟩ := wr_s hw
  subst h2
  exact va_iast hexec hb hK hP hD hS q0 t0 ha ht h1 hdg kk
theorem m_zst (hexec : p.tables.exec = Jvm.exec) (hb : c.code = cc) (hK : va_K D cl tys s) (hP : va_P D cl W9 H) (hD : va_D A W9) (hS : va_S A s.heap H locs) (q0 t0 : Nat) {cA : ClassId} {n : Nat} {f g : FA} (ha : W9[q0]? = some (a, .inl (cA, n, .inl f))) (ht : tys[t0]? = some (cA, .boolean)) {i x : Int32} (hw : wz n f i x = some g) (hdg : decode cc pc = .ok (.bastore, 1))
    (kk : ∀ (H1 : Heap) (locs1 : List Loc), va_P D cl (W9.set q0 (a, .inl (cA, n, .inl g))) H1 → va_D A (W9.set q0 (a, .inl (cA, n, .inl g))) → va_S A s.heap H1 locs1 → W p l e R s m args below meth c H1 locs1 cells slots Q (F0 m (pc + 1) ls rest)) : W p l e R s m args below meth c H locs cells slots Q (F0 m pc ls (.int x :: .int i :: .ref a :: rest)) := by
  obtain ⟨h1, h2⟩ := wz_s hw
  subst h2
  exact va_zast hexec hb hK hP hD hS q0 t0 ha ht h1 hdg kk
theorem m_cp (hexec : p.tables.exec = Jvm.exec) (hb : c.code = cc) (hml : c.maxLocals = ls.size) {own : String} {index : Nat} (hown : s.vm.findClass own = some m.cls) (hlink : (Cond.methodLink own index arraycopyName).before args s = true) (hnat : (Cond.native arraycopyName).before args s = true) (hstat : (Cond.static arraycopyName).before args s = true) (hini : (Cond.initialized "java/lang/System").before args s = true)
    (hK : va_K D cl tys s) (hP : va_P D cl W9 H) (hD : va_D A W9) (hS : va_S A s.heap H locs) (q0 q1 t0 : Nat) {a0 : Nat} {c0 : ClassId} {n0 n1 : Nat} {f g h : FA} (ha0 : W9[q0]? = some (a0, .inl (c0, n0, .inl f))) (ha1 : W9[q1]? = some (a, .inl (c0, n1, .inl g))) (ht0 : tys[t0]? = some (c0, .int))
    {sp dp n : Int32} (hc : cp n0 n1 f g sp dp n = some h) (hframes : 1 ≤ R.frames) (hlocals : (rest.map fun v => v.category).sum + (nativeFrameWords "java/lang/System" "arraycopy" 5 + 11) ≤ R.locals) (hdg : decode cc pc = .ok (.invokestatic index, 3))
    (kk : ∀ (H1 : Heap) (locs1 : List Loc), va_P D cl (W9.set q1 (a, .inl (c0, n1, .inl h))) H1 → va_D A (W9.set q1 (a, .inl (c0, n1, .inl h))) → va_S A s.heap H1 locs1 → W p l e R s m args below meth c H1 locs1 cells slots Q (F0 m (pc + 3) ls rest)) : W p l e R s m args below meth c H locs cells slots Q (F0 m pc ls (.int n :: .int dp :: .ref a :: .int sp :: .ref a0 :: rest)) := by
  obtain ⟨h1, h2, h3, h4, h5, h6⟩ := cp_s hc
  subst h6
  exact va_copyi hexec hb hml hown hlink hnat hstat hini hK hP hD hS q0 q1 t0 t0 ha0 ha1 ht0 ht0 rfl h1 h2 h3 h4 h5 (fun _ _ => rfl) hframes hlocals hdg kk
theorem m_ald (hexec : p.tables.exec = Jvm.exec) (hb : c.code = cc) (hK : va_K D cl tys s) (hP : va_P D cl W9 H) (q0 t0 : Nat) {cA : ClassId} {C : String} {n : Nat} {f : Nat → Option Nat} (ha : W9[q0]? = some (a, .inl (cA, n, .inr (.inr (.inr (.inr f)))))) (ht : tys[t0]? = some (cA, .object C)) {i j : Int32} (hij : i = j) (hin : vp_in j n) {v : Nat} (hv : f j.toNatClampNeg = some v) (hdg : decode cc pc = .ok (.aaload, 1))
    (kk : W p l e R s m args below meth c H locs cells slots Q (F0 m (pc + 1) ls (.ref v :: rest))) : W p l e R s m args below meth c H locs cells slots Q (F0 m pc ls (.int i :: .ref a :: rest)) := by
  subst hij
  refine va_aldq hexec hb hK hP q0 t0 ha ht hin hdg ?_
  rw [hv]
  exact kk
theorem m_VI {S : Type} {y : MethodName} {ws Ts : List Cond} {rm : Room} {E : Nat → ClassId} {As : List Value} {v : Int32} {own C : String} {index maxL n nL b mc ms : Nat} {bytes : ByteArray} {ret : Option FieldType} {Wc Wr : va_W} {W1 Wn : S → va_W}
    (hx : p.tables.exec = Jvm.exec) (hb : c.code = cc) (hml : c.maxLocals = nL) (hown : s.vm.findClass own = some m.cls) (hts : ∀ w ∈ Ts, w.before args s = true) (hls : ls.size = nL)
    (hM : MI l y ws rm D E Wc H.size (.ref b :: As) v W1 mc ms) (cw : CallW R s args own C index y bytes maxL ret ws rm mc ms n)
    (q0 : Nat) {ci : Nat} {T0 : u_T} {N0 : Nat} {fs : List Value} (hc : vwCl[ci]? = some (C, T0, N0)) (hq : Wc[q0]? = some (b, .inr (ci, fs)))
    (hP : va_P D vwCl W9 H) (hD : va_D A W9) (hS : va_S A s.heap H locs) (hA : ∀ q : Nat, s.heap.size ≤ q → A q) (hK : va_K D vwCl (tyE E) s)
    (isC isR perm : List Nat) (hnC : va_nd isC = true) (hC : isC.map (fun i => W9[i]?) = Wc.map some) (hR : isR.map (fun i => W9[i]?) = Wr.map some) (hnR : va_nd isR = true) (hdis : ∀ i ∈ isR, i ∉ isC) (hnp : va_nd perm = true) (hp : ∀ u, perm.map (fun i => (Wr ++ W1 u)[i]?) = (Wn u).map some)
    (hn : As.length = n) (hst : st = As.reverse ++ .ref b :: rest) (hcat : (rest.map fun v => v.category).sum ≤ 8) (hdg : decode cc pc = .ok (.invokevirtual index, 3)) (hf : cells + mc ≤ R.cells ∧ slots + ms ≤ R.slots)
    (kk : ∀ (u : S) (H1 : Heap) (locs1 : List Loc), va_P D vwCl (Wn u) H1 → va_D A (Wn u) → va_S A s.heap H1 locs1 → W p l e R s m args below meth c H1 locs1 (cells + mc) (slots + ms) Q (F0 m (pc + 3) ls (.int v :: rest))) : W p l e R s m args below meth c H locs cells slots Q (F0 m pc ls st) := by
  have hPc := hP.sub (ws' := Wc) isC (fm_of hC)
  have hDc := hD.sub (ws' := Wc) isC hnC hC
  have hFc := va_free (wc := Wc) hD hS hA isC hC
  refine va_calli (va_runV (As := As) (rest := rest) (b := b) ⟨hx, hb, hml, hown, hts⟩ hM cw ⟨mPre_bl, va_recv hK hPc hc hq, fun U hU hW => ⟨rfl, by rw [hU], by rw [hU]; exact hPc, va_K.moved hW.alike hK, hDc.weaken (fun _ _ _ _ => trivial)⟩⟩ rfl hn hls hst (lv_room hcat) hdg hf) hS (fun q _ h => hFc q h) hFc (fun r u t H1 locs1 ht hvm hw hB hz1 hk1 hS1 => ?_)
  obtain ⟨hP1, hD1⟩ := hB
  rw [ht] at hP1
  rw [hw]
  obtain ⟨hP2, hD2⟩ := va_join hP hD isC isR hC hR hnR hdis hk1 hFc hP1 hD1
  exact kk u H1 locs1 (hP2.sub perm (fm_of (hp u))) (hD2.sub perm hnp (hp u)) hS1
theorem m_VV {S : Type} {y : MethodName} {ws Ts : List Cond} {rm : Room} {E : Nat → ClassId} {As : List Value} {own C : String} {index maxL n nL b mc ms : Nat} {bytes : ByteArray} {ret : Option FieldType} {Wc Wr : va_W} {W1 Wn : S → va_W}
    (hx : p.tables.exec = Jvm.exec) (hb : c.code = cc) (hml : c.maxLocals = nL) (hown : s.vm.findClass own = some m.cls) (hts : ∀ w ∈ Ts, w.before args s = true) (hls : ls.size = nL)
    (hM : MV l y ws rm D E Wc H.size (.ref b :: As) W1 mc ms) (cw : CallW R s args own C index y bytes maxL ret ws rm mc ms n)
    (q0 : Nat) {ci : Nat} {T0 : u_T} {N0 : Nat} {fs : List Value} (hc : vwCl[ci]? = some (C, T0, N0)) (hq : Wc[q0]? = some (b, .inr (ci, fs)))
    (hP : va_P D vwCl W9 H) (hD : va_D A W9) (hS : va_S A s.heap H locs) (hA : ∀ q : Nat, s.heap.size ≤ q → A q) (hK : va_K D vwCl (tyE E) s)
    (isC isR perm : List Nat) (hnC : va_nd isC = true) (hC : isC.map (fun i => W9[i]?) = Wc.map some) (hR : isR.map (fun i => W9[i]?) = Wr.map some) (hnR : va_nd isR = true) (hdis : ∀ i ∈ isR, i ∉ isC) (hnp : va_nd perm = true) (hp : ∀ u, perm.map (fun i => (Wr ++ W1 u)[i]?) = (Wn u).map some)
    (hn : As.length = n) (hst : st = As.reverse ++ .ref b :: rest) (hcat : (rest.map fun v => v.category).sum ≤ 8) (hdg : decode cc pc = .ok (.invokevirtual index, 3)) (hf : cells + mc ≤ R.cells ∧ slots + ms ≤ R.slots)
    (kk : ∀ (u : S) (H1 : Heap) (locs1 : List Loc), va_P D vwCl (Wn u) H1 → va_D A (Wn u) → va_S A s.heap H1 locs1 → W p l e R s m args below meth c H1 locs1 (cells + mc) (slots + ms) Q (F0 m (pc + 3) ls rest)) : W p l e R s m args below meth c H locs cells slots Q (F0 m pc ls st) := by
  have hPc := hP.sub (ws' := Wc) isC (fm_of hC)
  have hDc := hD.sub (ws' := Wc) isC hnC hC
  have hFc := va_free (wc := Wc) hD hS hA isC hC
  refine va_callv (va_runV (As := As) (rest := rest) (b := b) ⟨hx, hb, hml, hown, hts⟩ hM cw ⟨mPre_bl, va_recv hK hPc hc hq, fun U hU hW => ⟨rfl, by rw [hU], by rw [hU]; exact hPc, va_K.moved hW.alike hK, hDc.weaken (fun _ _ _ _ => trivial)⟩⟩ rfl hn hls hst (lv_room hcat) hdg hf) hS (fun q _ h => hFc q h) hFc (fun u t H1 locs1 ht hvm hw hB hz1 hk1 hS1 => ?_)
  obtain ⟨hP1, hD1⟩ := hB
  rw [ht] at hP1
  obtain ⟨hP2, hD2⟩ := va_join hP hD isC isR hC hR hnR hdis hk1 hFc hP1 hD1
  exact kk u H1 locs1 (hP2.sub perm (fm_of (hp u))) (hD2.sub perm hnp (hp u)) hS1
theorem m_SV {S : Type} {y : MethodName} {ws Ts : List Cond} {rm : Room} {E : Nat → ClassId} {As : List Value} {own : String} {index maxL n nL mc ms : Nat} {bytes : ByteArray} {ret : Option FieldType} {Wc Wr : va_W} {W1 Wn : S → va_W}
    (hx : p.tables.exec = Jvm.exec) (hb : c.code = cc) (hml : c.maxLocals = nL) (hown : s.vm.findClass own = some m.cls) (hts : ∀ w ∈ Ts, w.before args s = true) (hls : ls.size = nL)
    (hM : MV l y ws rm D E Wc H.size As W1 mc ms) (cw : CallB R s args own index y bytes maxL ret ws rm mc ms n ∧ (Cond.static y).before args s = true)
    (hP : va_P D vwCl W9 H) (hD : va_D A W9) (hS : va_S A s.heap H locs) (hA : ∀ q : Nat, s.heap.size ≤ q → A q) (hK : va_K D vwCl (tyE E) s)
    (isC isR perm : List Nat) (hnC : va_nd isC = true) (hC : isC.map (fun i => W9[i]?) = Wc.map some) (hR : isR.map (fun i => W9[i]?) = Wr.map some) (hnR : va_nd isR = true) (hdis : ∀ i ∈ isR, i ∉ isC) (hnp : va_nd perm = true) (hp : ∀ u, perm.map (fun i => (Wr ++ W1 u)[i]?) = (Wn u).map some)
    (hn : As.length = n) (hst : st = As.reverse ++ rest) (hcat : (rest.map fun v => v.category).sum ≤ 8) (hdg : decode cc pc = .ok (.invokestatic index, 3)) (hf : cells + mc ≤ R.cells ∧ slots + ms ≤ R.slots)
    (kk : ∀ (u : S) (H1 : Heap) (locs1 : List Loc), va_P D vwCl (Wn u) H1 → va_D A (Wn u) → va_S A s.heap H1 locs1 → W p l e R s m args below meth c H1 locs1 (cells + mc) (slots + ms) Q (F0 m (pc + 3) ls rest)) : W p l e R s m args below meth c H locs cells slots Q (F0 m pc ls st) := by
  have hPc := hP.sub (ws' := Wc) isC (fm_of hC)
  have hDc := hD.sub (ws' := Wc) isC hnC hC
  have hFc := va_free (wc := Wc) hD hS hA isC hC
  refine va_callv (va_runS (As := As) (rest := rest) ⟨hx, hb, hml, hown, hts⟩ hM cw ⟨mPre_bl, fun U hU hW => ⟨rfl, by rw [hU], by rw [hU]; exact hPc, va_K.moved hW.alike hK, hDc.weaken (fun _ _ _ _ => trivial)⟩⟩ rfl hn hls hst (lv_room hcat) hdg hf) hS (fun q _ h => hFc q h) hFc (fun u t H1 locs1 ht hvm hw hB hz1 hk1 hS1 => ?_)
  obtain ⟨hP1, hD1⟩ := hB
  rw [ht] at hP1
  obtain ⟨hP2, hD2⟩ := va_join hP hD isC isR hC hR hnR hdis hk1 hFc hP1 hD1
  exact kk u H1 locs1 (hP2.sub perm (fm_of (hp u))) (hD2.sub perm hnp (hp u)) hS1
theorem n_VI {S : Type} {y : MethodName} {ws Ts : List Cond} {rm : Room} {E : Nat → ClassId} {As : List Value} {v : Int32} {own C : String} {index maxL n nL b mc ms : Nat} {bytes : ByteArray} {ret : Option FieldType} {Wc Wr : va_W} {W1 Wn : S → va_W}
    (hx : p.tables.exec = Jvm.exec) (hb : c.code = cc) (hml : c.maxLocals = nL) (hown : s.vm.findClass own = some m.cls) (hts : ∀ w ∈ Ts, w.before args s = true) (hls : ls.size = nL)
    (hM : NI l y ws rm D E Wc H.size (.ref b :: As) v W1 mc ms) (cw : CallW R s args own C index y bytes maxL ret ws rm mc ms n)
    (q0 : Nat) {ci : Nat} {T0 : u_T} {N0 : Nat} {fs : List Value} (hc : vwCl[ci]? = some (C, T0, N0)) (hq : Wc[q0]? = some (b, .inr (ci, fs)))
    (hP : va_P D vwCl W9 H) (hD : va_D A W9) (hS : va_S A s.heap H locs) (hA : ∀ q : Nat, s.heap.size ≤ q → A q) (hK : va_K D vwCl (tyE E) s) (hN : NY s)
    (isC isR perm : List Nat) (hnC : va_nd isC = true) (hC : isC.map (fun i => W9[i]?) = Wc.map some) (hR : isR.map (fun i => W9[i]?) = Wr.map some) (hnR : va_nd isR = true) (hdis : ∀ i ∈ isR, i ∉ isC) (hnp : va_nd perm = true) (hp : ∀ u, perm.map (fun i => (Wr ++ W1 u)[i]?) = (Wn u).map some)
    (hn : As.length = n) (hst : st = As.reverse ++ .ref b :: rest) (hcat : (rest.map fun v => v.category).sum ≤ 8) (hdg : decode cc pc = .ok (.invokevirtual index, 3)) (hf : cells + mc ≤ R.cells ∧ slots + ms ≤ R.slots)
    (kk : ∀ (u : S) (H1 : Heap) (locs1 : List Loc), va_P D vwCl (Wn u) H1 → va_D A (Wn u) → va_S A s.heap H1 locs1 → W p l e R s m args below meth c H1 locs1 (cells + mc) (slots + ms) Q (F0 m (pc + 3) ls (.int v :: rest))) : W p l e R s m args below meth c H locs cells slots Q (F0 m pc ls st) := by
  have hPc := hP.sub (ws' := Wc) isC (fm_of hC)
  have hDc := hD.sub (ws' := Wc) isC hnC hC
  have hFc := va_free (wc := Wc) hD hS hA isC hC
  refine va_calli (va_runV (As := As) (rest := rest) (b := b) ⟨hx, hb, hml, hown, hts⟩ hM cw ⟨nPre_bl, va_recv hK hPc hc hq, fun U hU hW => ⟨rfl, by rw [hU], by rw [hU]; exact hPc, va_K.moved hW.alike hK, hDc.weaken (fun _ _ _ _ => trivial), hN.warm hW⟩⟩ rfl hn hls hst (lv_room hcat) hdg hf) hS (fun q _ h => hFc q h) hFc (fun r u t H1 locs1 ht hvm hw hB hz1 hk1 hS1 => ?_)
  obtain ⟨hP1, hD1⟩ := hB
  rw [ht] at hP1
  rw [hw]
  obtain ⟨hP2, hD2⟩ := va_join hP hD isC isR hC hR hnR hdis hk1 hFc hP1 hD1
  exact kk u H1 locs1 (hP2.sub perm (fm_of (hp u))) (hD2.sub perm hnp (hp u)) hS1
end MR
