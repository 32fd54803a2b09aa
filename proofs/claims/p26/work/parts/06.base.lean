/-! base: what is owed of a method that only reads, and the rows that its walks use -/
abbrev FA : Type := Nat → Int32
abbrev FS : Type := Nat → FA
abbrev zT : Type := State → Heap → Prop
/-- a state with one number, one row, one part made new -/
def sf (S : FS) (i k : Nat) (v : Int32) : FS := fun a => cond (Nat.beq a i) (fun b => cond (Nat.beq b k) v (S a b)) (S a)
def sr (S : FS) (i : Nat) (f : FA) : FS := fun a => cond (Nat.beq a i) f (S a)
def sq (Q : Nat → FS) (i : Nat) (P : FS) : Nat → FS := fun a => cond (Nat.beq a i) P (Q a)
def mgH (Q R : Nat → FS) : Nat → FS := fun a => cond (Nat.ble a 1) (Q a) (cond (Nat.beq a 2) (sr (Q 2) 0 (R 2 0)) (cond (Nat.ble a 8) (R a) (Q a)))
def mgS (Q R : Nat → FS) : Nat → FS := fun a => cond (Nat.ble a 1) (Q a) (cond (Nat.beq a 2) (sr (Q 2) 1 (R 2 1)) (cond (Nat.ble a 8) (Q a) (R a)))
def aH (a u : Nat → Nat) : Nat → Nat := fun i => cond (Nat.ble 8 i && Nat.ble i 25) (u (i - 8)) (a i)
def aZ0 (a0 : Nat) (u : Nat → Nat) : Nat → Nat := fun i => cond (Nat.beq i 0) a0 (u (i - 1))
def uL (l : List Nat) : Nat → Nat := fun i => l.getD i 0
def zmv (Z : zT) : Prop := (∀ (u U : State) (H : Heap), u.vm = U.vm → Z u H → Z U H) ∧ (∀ (u U : State) (H : Heap), u.WarmedH U.vm → Z u H → Z U H)
def zNo : zT := fun _ _ => True
theorem zNo_mv : zmv zNo := ⟨fun _ _ _ _ _ => trivial, fun _ _ _ _ _ => trivial⟩
def nA : Nat → Prop := fun _ => False
abbrev tyE (E : Nat → ClassId) : List (ClassId × FieldType) := [(E 0, .int), (E 1, .boolean), (E 2, .object "QuarterTiles$Plan"), (E 3, .long)]
def qPre (D : va_G) (E : Nat → ClassId) (Z : zT) (W : va_W) (As : List Value) : Array Value → State → Prop := va_Pc As (fun U => va_P D vwCl W U.heap ∧ va_K D vwCl (tyE E) U ∧ Z U U.heap)
theorem qPre_bl {D : va_G} {E : Nat → ClassId} {Z : zT} {W : va_W} {As : List Value} (hz : zmv Z) : FrameBlind (qPre D E Z W As) := by
  intro a U g mk h
  obtain ⟨h1, h2, h3, h4⟩ := h
  exact ⟨h1, h2, va_K.moved (u := U) (U := U.calling g mk a) (Vm.Alike.refl U.vm) h3, hz.1 U (U.calling g mk a) U.heap rfl h4⟩
def PU (l : Launch) (y : MethodName) (ws : List Cond) (rm : Room) (D : va_G) (E : Nat → ClassId) (Z : zT) (W : va_W) (As : List Value) (v : Int32) : Prop :=
  Met l y ws rm (qPre D E Z W As) (vp_Si (fun r => r = v)) 0 0 (fun _ => False)
def Ctx (p : Program) (s : State) (m : MethodId) (meth : Method) (c : Code) (As : List Value) (ws : List Cond) (cc : ByteArray) (maxL : Nat) (ret : Option FieldType) (cls : String) : Prop :=
  p.tables.exec = Jvm.exec ∧ c.code = cc ∧ meth.sig.returnType = ret ∧ c.maxLocals = maxL ∧ s.vm.findClass cls = some m.cls ∧ meth.locks = false ∧ ∀ w ∈ ws, w.before As.toArray s = true
abbrev WP (p : Program) (l : Launch) (e : Env) (rm : Room) (s : State) (m : MethodId) (As : List Value) (below : List Frame) (meth : Method) (c : Code) (v : Int32) (pc : Nat) (ls : Array Slot) (st : List Value) : Prop :=
  W p l e rm s m As.toArray below meth c s.heap [] 0 0 (MQ below (vp_Si (fun r => r = v)) As.toArray s 0 0 (fun _ => False)) (F0 m pc ls st)
theorem PU.of {l : Launch} {y : MethodName} {ws ws' : List Cond} {rm : Room} {D : va_G} {E : Nat → ClassId} {Z : zT} {W : va_W} {As : List Value} {v : Int32} {cc : ByteArray} {maxL : Nat} {ret : Option FieldType}
    (hy : plainName y.cls = true) (hw : ws = Cond.code y cc maxL ret :: ws') (hlen : (lg_sl As).length ≤ maxL)
    (body : ∀ (p : Program) (e : Env) (s : State) (m : MethodId) (below : List Frame) (meth : Method) (c : Code), Ctx p s m meth c As ws cc maxL ret y.cls → va_P D vwCl W s.heap → va_K D vwCl (tyE E) s → Z s s.heap → ∀ ls, lv_has ls maxL (lv_args 0 As) → WP p l e rm s m As below meth c v 0 ls []) : PU l y ws rm D E Z W As v := by
  refine Met.ofW hy hw ?_
  intro p e s m args below meth c s₁ B hml hv
  obtain ⟨rfl, hP, hK, hZ⟩ := hv
  rw [lg_entry_eq]
  exact body p e s m below meth c ⟨B.exec, B.bytes, B.returns, hml, findClass_of_methodNamed B.named, B.notSynchronized, atoms_spec (ws := ws) B.pre⟩ hP hK hZ _ (lv_entry As hlen)
theorem qB {α β : Type} {o : Option α} {k : α → Option β} {v : β} (h : o.bind k = some v) : ∃ x, o = some x ∧ k x = some v := Option.bind_eq_some_iff.mp h
theorem qT {α : Type} {c : Prop} [Decidable c] {a b : Option α} {v : α} (h : c) (hv : (if c then a else b) = some v) : a = some v := by rw [if_pos h] at hv; exact hv
theorem qF {α : Type} {c : Prop} [Decidable c] {a b : Option α} {v : α} (h : ¬ c) (hv : (if c then a else b) = some v) : b = some v := by rw [if_neg h] at hv; exact hv
/-- an array's place, looked at -/
def rd (n : Nat) (f : FA) (i : Int32) : Option Int32 := if i < 0 ∨ n ≤ i.toNatClampNeg then none else some (f i.toNatClampNeg)
def wr (n : Nat) (f : FA) (i x : Int32) : Option FA := if i < 0 ∨ n ≤ i.toNatClampNeg then none else some (upd f i.toNatClampNeg x)
def bz (x : Int32) : Option Int32 := if x &&& 1 = x then some x else none
theorem rd_s {n : Nat} {f : FA} {i x : Int32} (h : rd n f i = some x) : vp_in i n ∧ f i.toNatClampNeg = x := by
  unfold rd at h
  split at h
  · cases h
  · next hn => exact ⟨hn, Option.some.inj h⟩
theorem wr_s {n : Nat} {f g : FA} {i x : Int32} (h : wr n f i x = some g) : vp_in i n ∧ upd f i.toNatClampNeg x = g := by
  unfold wr at h
  split at h
  · cases h
  · next hn => exact ⟨hn, Option.some.inj h⟩
theorem q_tout {x : Int32} {lo hi : Int} (h : ∀ k : Int, lo ≤ k → k ≤ hi → ¬ x = Int32.ofInt k) : x.toInt < lo ∨ hi < x.toInt := by
  rcases Int.lt_or_le x.toInt lo with h1 | h1
  · exact Or.inl h1
  · rcases Int.lt_or_le hi x.toInt with h2 | h2
    · exact Or.inr h2
    · exact absurd (Int32.ofInt_toInt x).symm (h _ h1 h2)
section QR
variable {p : Program} {l : Launch} {e : Env} {R : Room} {s : State} {m : MethodId} {args : Array Value} {below : List Frame} {meth : Method} {c : Code} {H : Heap} {locs : List Loc} {cells slots : Nat} {Q : State → Prop}
variable {cc : ByteArray} {pc : Nat} {ls : Array Slot} {rest st : List Value} {D : va_G} {cl : List vw_C} {a : Nat} {tys : List (ClassId × FieldType)} {W9 : va_W}
theorem q_ret {rm : Room} {As : List Value} {ws : List Cond} {maxL : Nat} {cls : String} {x v : Int32} (C : Ctx p s m meth c As ws cc maxL (some .int) cls) (hd : decode cc pc = .ok (.ireturn, 1)) (hv : some x = some v) : WP p l e rm s m As below meth c v pc ls [.int x] := by
  obtain ⟨hx, hb, hr, hml, hown, hlocks, hts⟩ := C
  cases hv
  exact W.iret hx hb hr (fun t ht hW => ⟨_, rfl, rfl, ht⟩) (fun _ h => by cases h) hd hlocks
theorem q_retz {rm : Room} {As : List Value} {ws : List Cond} {maxL : Nat} {cls : String} {x v : Int32} (C : Ctx p s m meth c As ws cc maxL (some .boolean) cls) (hd : decode cc pc = .ok (.ireturn, 1)) (hv : bz x = some v) : WP p l e rm s m As below meth c v pc ls [.int x] := by
  obtain ⟨hx, hb, hr, hml, hown, hlocks, hts⟩ := C
  unfold bz at hv
  split at hv
  · next hn =>
    cases hv
    exact W.zret hx hb hr (by show Value.int (x &&& 1) = _; rw [hn]) (fun t ht hW => ⟨_, rfl, rfl, ht⟩) (fun _ h => by cases h) hd hlocks
  · cases hv
theorem q_ild (hexec : p.tables.exec = Jvm.exec) (hb : c.code = cc) (hK : va_K D cl tys s) (hP : va_P D cl W9 H) (q0 t0 : Nat) {cA : ClassId} {n : Nat} {f : FA} (ha : W9[q0]? = some (a, .inl (cA, n, .inl f))) (ht : tys[t0]? = some (cA, .int)) {i x : Int32} (hrd : rd n f i = some x) (hdg : decode cc pc = .ok (.iaload, 1))
    (kk : W p l e R s m args below meth c H locs cells slots Q (F0 m (pc + 1) ls (.int x :: rest))) : W p l e R s m args below meth c H locs cells slots Q (F0 m pc ls (.int i :: .ref a :: rest)) := by
  obtain ⟨h1, h2⟩ := rd_s hrd
  subst h2
  exact va_iald hexec hb hK hP q0 t0 ha ht h1 hdg kk
theorem q_ildc (hexec : p.tables.exec = Jvm.exec) (hb : c.code = cc) (hK : va_K D cl tys s) (hP : va_P D cl W9 H) (q0 t0 : Nat) {cA : ClassId} {n : Nat} {f : FA} (ha : W9[q0]? = some (a, .inl (cA, n, .inl f))) (ht : tys[t0]? = some (cA, .int)) {i : Int32} (k : Nat) (hk : i.toNatClampNeg = k) (hin : vp_in i n) (hdg : decode cc pc = .ok (.iaload, 1))
    (kk : W p l e R s m args below meth c H locs cells slots Q (F0 m (pc + 1) ls (.int (f k) :: rest))) : W p l e R s m args below meth c H locs cells slots Q (F0 m pc ls (.int i :: .ref a :: rest)) := by
  subst hk
  exact va_iald hexec hb hK hP q0 t0 ha ht hin hdg kk
theorem q_zld (hexec : p.tables.exec = Jvm.exec) (hb : c.code = cc) (hK : va_K D cl tys s) (hP : va_P D cl W9 H) (q0 t0 : Nat) {cA : ClassId} {n : Nat} {f : FA} (ha : W9[q0]? = some (a, .inl (cA, n, .inl f))) (ht : tys[t0]? = some (cA, .boolean)) {i x : Int32} (hrd : rd n f i = some x) (hdg : decode cc pc = .ok (.baload, 1))
    (kk : W p l e R s m args below meth c H locs cells slots Q (F0 m (pc + 1) ls (.int x :: rest))) : W p l e R s m args below meth c H locs cells slots Q (F0 m pc ls (.int i :: .ref a :: rest)) := by
  obtain ⟨h1, h2⟩ := rd_s hrd
  subst h2
  exact va_zald hexec hb hK hP q0 t0 ha ht h1 hdg kk
/-- a static array of the class's own -/
theorem q_tld (hexec : p.tables.exec = Jvm.exec) (hb : c.code = cc) {t n : Nat} {f : FA} (hT : va_T .int t n (fun j => .int (f j)) nA s s.heap) (hS : va_S nA s.heap H locs) {i x : Int32} (hrd : rd n f i = some x) (hdg : decode cc pc = .ok (.iaload, 1))
    (kk : W p l e R s m args below meth c H locs cells slots Q (F0 m (pc + 1) ls (.int x :: rest))) : W p l e R s m args below meth c H locs cells slots Q (F0 m pc ls (.int i :: .ref t :: rest)) := by
  obtain ⟨h1, h2⟩ := rd_s hrd
  subst h2
  exact va_ti hexec hb hT hS h1 rfl hdg kk
theorem q_S {y : MethodName} {ws Ts : List Cond} {rm : Room} {E : Nat → ClassId} {Z : zT} {As : List Value} {v : Int32} {own : String} {index maxL n nL : Nat} {bytes : ByteArray} {ret : Option FieldType}
    (hx : p.tables.exec = Jvm.exec) (hb : c.code = cc) (hml : c.maxLocals = nL) (hown : s.vm.findClass own = some m.cls) (hts : ∀ w ∈ Ts, w.before args s = true) (hls : ls.size = nL)
    (hM : PU l y ws rm D E Z W9 As v) (zm : zmv Z) (cw : CallB R s args own index y bytes maxL ret ws rm 0 0 n ∧ (Cond.static y).before args s = true)
    (hP : va_P D vwCl W9 H) (hK : va_K D vwCl (tyE E) s) (hZ : Z s H) (hn : As.length = n) (hst : st = As.reverse ++ rest) (hcat : (rest.map fun v => v.category).sum ≤ 8) (hdg : decode cc pc = .ok (.invokestatic index, 3)) (hf : cells + 0 ≤ R.cells ∧ slots + 0 ≤ R.slots)
    (kk : W p l e R s m args below meth c H locs cells slots Q (F0 m (pc + 3) ls (.int v :: rest))) : W p l e R s m args below meth c H locs cells slots Q (F0 m pc ls st) := by
  refine vp_callSi (rest := rest) (a := As.toArray) (W.runS (As := As) ⟨hx, hb, hml, hown, hts⟩ hM cw ⟨qPre_bl zm, fun U hU hW => ⟨rfl, by rw [hU]; exact hP, va_K.moved hW.alike hK, by rw [hU]; exact zm.2 _ _ _ hW hZ⟩⟩ rfl hn hls hst (lv_room hcat) hdg hf) (fun r hr => ?_)
  rw [hr]
  exact kk
theorem q_V {y : MethodName} {ws Ts : List Cond} {rm : Room} {E : Nat → ClassId} {Z : zT} {As : List Value} {v : Int32} {own C : String} {index maxL n nL b : Nat} {bytes : ByteArray} {ret : Option FieldType}
    (hx : p.tables.exec = Jvm.exec) (hb : c.code = cc) (hml : c.maxLocals = nL) (hown : s.vm.findClass own = some m.cls) (hts : ∀ w ∈ Ts, w.before args s = true) (hls : ls.size = nL)
    (hM : PU l y ws rm D E Z W9 (.ref b :: As) v) (zm : zmv Z) (cw : CallW R s args own C index y bytes maxL ret ws rm 0 0 n)
    (q0 : Nat) {ci : Nat} {T0 : u_T} {N0 : Nat} {fs : List Value} (hc : vwCl[ci]? = some (C, T0, N0)) (hq : W9[q0]? = some (b, .inr (ci, fs)))
    (hP : va_P D vwCl W9 H) (hK : va_K D vwCl (tyE E) s) (hZ : Z s H) (hn : As.length = n) (hst : st = As.reverse ++ .ref b :: rest) (hcat : (rest.map fun v => v.category).sum ≤ 8) (hdg : decode cc pc = .ok (.invokevirtual index, 3)) (hf : cells + 0 ≤ R.cells ∧ slots + 0 ≤ R.slots)
    (kk : W p l e R s m args below meth c H locs cells slots Q (F0 m (pc + 3) ls (.int v :: rest))) : W p l e R s m args below meth c H locs cells slots Q (F0 m pc ls st) := by
  refine vp_callSi (rest := rest) (a := (Value.ref b :: As).toArray) (W.runV (As := As) (b := b) ⟨hx, hb, hml, hown, hts⟩ hM cw ⟨qPre_bl zm, va_recv hK hP hc hq, fun U hU hW => ⟨rfl, by rw [hU]; exact hP, va_K.moved hW.alike hK, by rw [hU]; exact zm.2 _ _ _ hW hZ⟩⟩ rfl hn hls hst (lv_room hcat) hdg hf) (fun r hr => ?_)
  rw [hr]
  exact kk
theorem va_Run.call {y0 : State → Outcome → State → Prop} {mc ms : Nat} {g : JFrame} {free : Addr → Prop} (h : va_Run p l e R s m args below meth c H locs cells slots mc ms g rest y0 free) : CallRun p l e R s m args below meth c H locs cells slots mc ms g rest y0 free := by
  intro T hT X
  obtain ⟨v, st₀, t, T', L, h0, X', hL, e1, e2, hq, st⟩ := h T hT X
  exact ⟨v, st₀, t, T', L, h0, X', hL, e1, hq, st⟩
/-- a private method of another class of the same nest -/
theorem q_VN {y : MethodName} {ws Ts : List Cond} {rm : Room} {E : Nat → ClassId} {Z : zT} {As : List Value} {v : Int32} {own C host : String} {index maxL n nL b : Nat} {bytes : ByteArray} {ret : Option FieldType}
    (hx : p.tables.exec = Jvm.exec) (hb : c.code = cc) (hml : c.maxLocals = nL) (hown : s.vm.findClass own = some m.cls) (hts : ∀ w ∈ Ts, w.before args s = true) (hls : ls.size = nL)
    (hM : PU l y ws rm D E Z W9 (.ref b :: As) v) (zm : zmv Z) (cw : va_CN R s args own index y host bytes maxL ret ws rm 0 0 n ∧ (Cond.instanceMethod y).before args s = true ∧ (Cond.selects C y y).before args s = true)
    (q0 : Nat) {ci : Nat} {T0 : u_T} {N0 : Nat} {fs : List Value} (hc : vwCl[ci]? = some (C, T0, N0)) (hq : W9[q0]? = some (b, .inr (ci, fs)))
    (hP : va_P D vwCl W9 H) (hK : va_K D vwCl (tyE E) s) (hZ : Z s H) (hn : As.length = n) (hst : st = As.reverse ++ .ref b :: rest) (hcat : (rest.map fun v => v.category).sum ≤ 8) (hdg : decode cc pc = .ok (.invokevirtual index, 3)) (hf : cells + 0 ≤ R.cells ∧ slots + 0 ≤ R.slots)
    (kk : W p l e R s m args below meth c H locs cells slots Q (F0 m (pc + 3) ls (.int v :: rest))) : W p l e R s m args below meth c H locs cells slots Q (F0 m pc ls st) := by
  refine vp_callSi (rest := rest) (a := (Value.ref b :: As).toArray) (va_runVN (As := As) (rest := rest) (b := b) ⟨hx, hb, hml, hown, hts⟩ hM cw ⟨qPre_bl zm, va_recv hK hP hc hq, fun U hU hW => ⟨rfl, by rw [hU]; exact hP, va_K.moved hW.alike hK, by rw [hU]; exact zm.2 _ _ _ hW hZ⟩⟩ rfl hn hls hst (lv_room hcat) hdg hf).call (fun r hr => ?_)
  rw [hr]
  exact kk
/-- a private static method of another class of the same nest -/
theorem q_SN {y : MethodName} {ws Ts : List Cond} {rm : Room} {E : Nat → ClassId} {Z : zT} {As : List Value} {v : Int32} {own host : String} {index maxL n nL : Nat} {bytes : ByteArray} {ret : Option FieldType}
    (hx : p.tables.exec = Jvm.exec) (hb : c.code = cc) (hml : c.maxLocals = nL) (hown : s.vm.findClass own = some m.cls) (hts : ∀ w ∈ Ts, w.before args s = true) (hls : ls.size = nL)
    (hM : PU l y ws rm D E Z W9 As v) (zm : zmv Z) (cw : va_CN R s args own index y host bytes maxL ret ws rm 0 0 n ∧ (Cond.static y).before args s = true ∧ True)
    (hP : va_P D vwCl W9 H) (hK : va_K D vwCl (tyE E) s) (hZ : Z s H) (hn : As.length = n) (hst : st = As.reverse ++ rest) (hcat : (rest.map fun v => v.category).sum ≤ 8) (hdg : decode cc pc = .ok (.invokestatic index, 3)) (hf : cells + 0 ≤ R.cells ∧ slots + 0 ≤ R.slots)
    (kk : W p l e R s m args below meth c H locs cells slots Q (F0 m (pc + 3) ls (.int v :: rest))) : W p l e R s m args below meth c H locs cells slots Q (F0 m pc ls st) := by
  refine vp_callSi (rest := rest) (a := As.toArray) (va_runSN (As := As) (rest := rest) ⟨hx, hb, hml, hown, hts⟩ hM cw ⟨qPre_bl zm, fun U hU hW => ⟨rfl, by rw [hU]; exact hP, va_K.moved hW.alike hK, by rw [hU]; exact zm.2 _ _ _ hW hZ⟩⟩ rfl hn hls hst (lv_room hcat) hdg hf).call (fun r hr => ?_)
  rw [hr]
  exact kk
end QR
