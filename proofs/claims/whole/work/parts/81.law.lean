/-! the law: what must hold of the two functions of each call, and the walk of the loop -/
abbrev WL (p : Program) (l : Launch) (e : Env) (s : State) (m : MethodId) (below : List Frame) (meth : Method) (c : Code) (b : Nat) (H : Heap) (locs : List Loc) (cells slots pc : Nat) (ls : Array Slot) (st : List Value) : Prop :=
  W p l e room_1 s m #[Value.ref b] below meth c H locs cells slots (lw_Z below #[Value.ref b] s) (F0 m pc ls st)
def CL (p : Program) (s : State) (m : MethodId) (meth : Method) (c : Code) (b L : Nat) (xs : Nat → Int32) : Prop :=
  p.tables.exec = Jvm.exec ∧ c.code = cL_law ∧ meth.sig.returnType = ret ∧ c.maxLocals = 4 ∧ s.vm.findClass RL = some m.cls ∧ (∀ w ∈ wsL_law, w.before #[Value.ref b] s = true) ∧ va_X b L xs s s.heap ∧ b < s.heap.size ∧ L ≤ 3072 ∧ meth.locks = false
/-- the static rows, as old cells of the law's own start -/
def zSA (t : Nat → Nat) (s : State) : Prop := va_Z "QuarterTiles$Numbers" "STEP_X" "[I" (.ref (t 0)) (fun q : Nat => s.heap.size ≤ q) s s.heap ∧ va_T .int (t 0) 8 (fun j => .int (stX j)) (fun q : Nat => s.heap.size ≤ q) s s.heap ∧ va_Z "QuarterTiles$Numbers" "STEP_Y" "[I" (.ref (t 1)) (fun q : Nat => s.heap.size ≤ q) s s.heap ∧ va_T .int (t 1) 8 (fun j => .int (stY j)) (fun q : Nat => s.heap.size ≤ q) s s.heap ∧ va_Z "QuarterTiles$Tree" "ONE_QUARTER_SEEN" "[I" (.ref (t 2)) (fun q : Nat => s.heap.size ≤ q) s s.heap ∧ va_T .int (t 2) 4 (fun j => .int (stO j)) (fun q : Nat => s.heap.size ≤ q) s s.heap ∧ va_Z "QuarterTiles$Tree" "OTHER_QUARTER_SEEN" "[I" (.ref (t 3)) (fun q : Nat => s.heap.size ≤ q) s s.heap ∧ va_T .int (t 3) 4 (fun j => .int (stU j)) (fun q : Nat => s.heap.size ≤ q) s s.heap ∧ NY s
theorem zSA_now {t : Nat → Nat} {s : State} {H : Heap} {locs : List Loc} (h : zSA t s) (hS : va_S (fun q : Nat => s.heap.size ≤ q) s.heap H locs) : zSt t s H := by
  have hn : ∀ q : Nat, nA q → s.heap.size ≤ q := fun _ x => x.elim
  obtain ⟨h1, h2, h3, h4, h5, h6, h7, h8, h9⟩ := h
  exact ⟨(h1.kept hS.2.1).narrow hn, (h2.kept hS.2.1).narrow hn, (h3.kept hS.2.1).narrow hn, (h4.kept hS.2.1).narrow hn, (h5.kept hS.2.1).narrow hn, (h6.kept hS.2.1).narrow hn, (h7.kept hS.2.1).narrow hn, (h8.kept hS.2.1).narrow hn, h9⟩
/-- what lies behind a call, at the loop's step -/
def LCont (p : Program) (l : Launch) (e : Env) (s : State) (m : MethodId) (below : List Frame) (meth : Method) (c : Code) (D : va_G) (E : Nat → ClassId) (I : (Nat → FS) → FS → Prop) (b i : Nat) (a0 c0 : Nat → Nat) (cells slots : Nat) : Prop :=
  ∀ (a c1 : Nat → Nat) (Q : Nat → FS) (M : FS) (H : Heap) (locs : List Loc) (ls : Array Slot) (k z : Nat), k ≤ cells + 1 → z ≤ slots + 4 → I Q M → va_P D vwCl ((wQ E a Q) ++ (wMod E c1 M)) H → va_D (fun q : Nat => s.heap.size ≤ q) ((wQ E a Q) ++ (wMod E c1 M)) → va_S (fun q : Nat => s.heap.size ≤ q) s.heap H locs → lv_has ls 4 [(0, .ref b), (1, .ref (a 0)), (2, .ref (c1 0)), (3, .int (nI i))] → WL p l e s m below meth c b H locs k z 865 ls []
section LR
variable {p : Program} {l : Launch} {e : Env} {R : Room} {s : State} {m : MethodId} {args : Array Value} {below : List Frame} {meth : Method} {c : Code} {H H0 : Heap} {locs : List Loc} {cells slots : Nat} {Q : State → Prop}
variable {cc : ByteArray} {pc : Nat} {ls : Array Slot} {rest : List Value} {A : Nat → Prop}
theorem l_ld (hexec : p.tables.exec = Jvm.exec) (hb : c.code = cc) {b L : Nat} {xs : Nat → Int32} (hX : va_X b L xs s H0) (hbl : b < H0.size) (hbA : ¬ A b) (hS : va_S A H0 H locs) (hL : L ≤ 3072) {i : Nat} (hi : i + 6 ≤ L) {k : Nat} (hk : k < 6) {kk : Int32} (hkk : kk = nI k) (hdg : decode cc pc = .ok (.iaload, 1))
    (kn : W p l e R s m args below meth c H locs cells slots Q (F0 m (pc + 1) ls (.int (xs (i + k)) :: rest))) : W p l e R s m args below meth c H locs cells slots Q (F0 m pc ls (.int (nI i + kk) :: .ref b :: rest)) := by
  subst hkk
  rw [nI_add]
  refine va_sld hexec hb hX hbl hbA hS (vp_in_nI (by omega) (by omega)) hdg ?_
  rw [nI_clamp (by omega)]
  exact kn
theorem l_ld0 (hexec : p.tables.exec = Jvm.exec) (hb : c.code = cc) {b L : Nat} {xs : Nat → Int32} (hX : va_X b L xs s H0) (hbl : b < H0.size) (hbA : ¬ A b) (hS : va_S A H0 H locs) (hL : L ≤ 3072) {i : Nat} (hi : i + 6 ≤ L) (hdg : decode cc pc = .ok (.iaload, 1))
    (kn : W p l e R s m args below meth c H locs cells slots Q (F0 m (pc + 1) ls (.int (xs i) :: rest))) : W p l e R s m args below meth c H locs cells slots Q (F0 m pc ls (.int (nI i) :: .ref b :: rest)) := by
  refine va_sld hexec hb hX hbl hbA hS (vp_in_nI (by omega) (by omega)) hdg ?_
  rw [nI_clamp (by omega)]
  exact kn
end LR
theorem lkL_87 : (.constantLong RL 87 4294967295 : Cond) ∈ wsL_law := by decide +kernel
set_option maxRecDepth 100000 in
set_option maxHeartbeats 4000000 in
theorem law_c0 {p : Program} {e : Env} {s : State} {m : MethodId} {below : List Frame} {meth : Method} {c : Code} {l : Launch} {b L : Nat} {xs : Nat → Int32} {I : (Nat → FS) → FS → Prop} (hc : Coup I) (C0 : CL p s m meth c b L xs) {D : va_G} {E : Nat → ClassId} (hK : va_K D vwCl (tyE E) s) {t : Nat → Nat} (hZ : zSA t s) {i : Nat} (hi : i + 6 ≤ L) {a c1 : Nat → Nat} {Q : Nat → FS} {M : FS} {H : Heap} {locs : List Loc} {ls : Array Slot} {cells slots : Nat} (hcs : cells + 1 ≤ 600000) (hcs2 : slots + 4 ≤ 7302250) (hI : I Q M) (hP : va_P D vwCl ((wQ E a Q) ++ (wMod E c1 M)) H) (hD : va_D (fun q : Nat => s.heap.size ≤ q) ((wQ E a Q) ++ (wMod E c1 M))) (hS : va_S (fun q : Nat => s.heap.size ≤ q) s.heap H locs) (hl : lv_has ls 4 [(0, .ref b), (1, .ref (a 0)), (2, .ref (c1 0)), (3, .int (nI i))])
    (cont : LCont p l e s m below meth c D E I b i a c1 cells slots) : WL p l e s m below meth c b H locs cells slots 140 ls [] := by
  obtain ⟨hx, hb, hr, hml, hown, hts, hX, hbl, hL, hlocks⟩ := C0
  have hA : ∀ q : Nat, s.heap.size ≤ q → (fun q : Nat => s.heap.size ≤ q) q := fun _ h => h
  have hbA : ¬ (fun q : Nat => s.heap.size ≤ q) b := Nat.not_le.mpr hbl
  obtain ⟨r, Q1, M1, h1, h2, hI1⟩ := hc.1 Q M (xs (i + 1)) (xs (i + 2)) hI
  refine lv_aload_n hx hb dL_law_140 rfl (lv_at hl 1 rfl) ?_
  refine lv_aload_n hx hb dL_law_141 rfl (lv_at hl 0 rfl) ?_
  refine lv_iload_n hx hb dL_law_142 rfl (lv_at hl 3 rfl) ?_
  refine lv_iconst (v := 1) hx hb dL_law_143 (by decide) ?_
  refine lv_iadd hx hb dL_law_144 ?_
  refine l_ld (k := 1) hx hb hX hbl hbA hS hL hi (by decide) rfl dL_law_145 ?_
  refine lv_aload_n hx hb dL_law_146 rfl (lv_at hl 0 rfl) ?_
  refine lv_iload_n hx hb dL_law_147 rfl (lv_at hl 3 rfl) ?_
  refine lv_iconst (v := 2) hx hb dL_law_148 (by decide) ?_
  refine lv_iadd hx hb dL_law_149 ?_
  refine l_ld (k := 2) hx hb hX hbl hbA hS hL hi (by decide) rfl dL_law_150 ?_
  refine m_VI (As := [.int (xs (i + 1)), .int (xs (i + 2))]) (rest := []) (C := RX7) (T0 := TX7) (N0 := 4) (ci := 6) (Wn := (fun u9 : Nat → Nat => (wQ E (aZ0 (a 0) u9) Q1) ++ (wMod E c1 M))) (Wr := [((c1 0), .inr (7, [.ref (c1 1), .ref (c1 2), .ref (c1 3), .int (M 8 0), .ref (c1 4), .ref (c1 5), .ref (c1 6), .int (M 8 1), .int (M 8 2), .int (M 8 3), .ref (c1 7), .int (M 8 4), .ref (c1 8), .int (M 8 5)])), aI E (c1 1) 116 (M 0), aI E (c1 2) 116 (M 1), aI E (c1 3) 696 (M 2), aI E (c1 4) 232 (M 3), aZ E (c1 5) 2 (M 4), aI E (c1 6) 80 (M 5), aI E (c1 7) 7 (M 6), aI E (c1 8) 44 (M 7)]) hx hb hml hown hts hl.1 (kX7_set l D E a H.size h1) (cwV 2 hts gL_law_X7_set rfl rfl rfl (by decide +kernel) ⟨Nat.le_of_ble_eq_true rfl, Nat.le_of_ble_eq_true rfl⟩) 0 rfl rfl hP hD hS hA hK [0, 1, 2, 3, 4, 5, 6, 7, 8, 9, 10, 11, 12, 13, 14, 15, 16, 17, 18, 19, 20, 21, 22, 23, 24, 25, 26, 27, 28, 29, 30, 31, 32, 33, 34, 35, 36, 37] [38, 39, 40, 41, 42, 43, 44, 45, 46] [9, 10, 11, 12, 13, 14, 15, 16, 17, 18, 19, 20, 21, 22, 23, 24, 25, 26, 27, 28, 29, 30, 31, 32, 33, 34, 35, 36, 37, 38, 39, 40, 41, 42, 43, 44, 45, 46, 0, 1, 2, 3, 4, 5, 6, 7, 8] (by decide) rfl rfl (by decide) (by decide) (by decide) (fun _ => rfl) rfl rfl (Nat.le_of_ble_eq_true rfl) dL_law_151 ⟨by show cells + 0 ≤ 600000; omega, by show slots + 0 ≤ 7302250; omega⟩ (fun u9 H locs hP hD hS => ?_)
  refine lv_aload_n hx hb dL_law_154 rfl (lv_at hl 2 rfl) ?_
  refine lv_aload_n hx hb dL_law_155 rfl (lv_at hl 0 rfl) ?_
  refine lv_iload_n hx hb dL_law_156 rfl (lv_at hl 3 rfl) ?_
  refine lv_iconst (v := 1) hx hb dL_law_157 (by decide) ?_
  refine lv_iadd hx hb dL_law_158 ?_
  refine l_ld (k := 1) hx hb hX hbl hbA hS hL hi (by decide) rfl dL_law_159 ?_
  refine lv_aload_n hx hb dL_law_160 rfl (lv_at hl 0 rfl) ?_
  refine lv_iload_n hx hb dL_law_161 rfl (lv_at hl 3 rfl) ?_
  refine lv_iconst (v := 2) hx hb dL_law_162 (by decide) ?_
  refine lv_iadd hx hb dL_law_163 ?_
  refine l_ld (k := 2) hx hb hX hbl hbA hS hL hi (by decide) rfl dL_law_164 ?_
  refine m_VI (As := [.int (xs (i + 1)), .int (xs (i + 2))]) (rest := [.int r]) (C := RX8) (T0 := TX8) (N0 := 14) (ci := 7) (Wn := (fun _ : Unit => (wQ E (aZ0 (a 0) u9) Q1) ++ (wMod E c1 M1))) (Wr := [(((aZ0 (a 0) u9) 0), .inr (6, [.ref ((aZ0 (a 0) u9) 1), .ref ((aZ0 (a 0) u9) 6), .ref ((aZ0 (a 0) u9) 26), .ref ((aZ0 (a 0) u9) 35)])), (((aZ0 (a 0) u9) 1), .inr (4, [.ref ((aZ0 (a 0) u9) 3), .ref ((aZ0 (a 0) u9) 2)])), aI E ((aZ0 (a 0) u9) 2) 8192 ((Q1 0) 3), (((aZ0 (a 0) u9) 3), .inr (2, [.ref ((aZ0 (a 0) u9) 4), .ref ((aZ0 (a 0) u9) 5), .int ((Q1 0) 2 0), .int ((Q1 0) 2 1), .int ((Q1 0) 2 2), .int ((Q1 0) 2 3)])), aI E ((aZ0 (a 0) u9) 4) 50 ((Q1 0) 0), aI E ((aZ0 (a 0) u9) 5) 12 ((Q1 0) 1), (((aZ0 (a 0) u9) 6), .inr (0, [.ref ((aZ0 (a 0) u9) 7), .int (Q1 2 0 0)])), aP E ((aZ0 (a 0) u9) 7) 6 (fH ((aZ0 (a 0) u9) 8) ((aZ0 (a 0) u9) 11) ((aZ0 (a 0) u9) 14) ((aZ0 (a 0) u9) 17) ((aZ0 (a 0) u9) 20) ((aZ0 (a 0) u9) 23)), (((aZ0 (a 0) u9) 8), .inr (2, [.ref ((aZ0 (a 0) u9) 9), .ref ((aZ0 (a 0) u9) 10), .int ((Q1 3) 2 0), .int ((Q1 3) 2 1), .int ((Q1 3) 2 2), .int ((Q1 3) 2 3)])), aI E ((aZ0 (a 0) u9) 9) 50 ((Q1 3) 0), aI E ((aZ0 (a 0) u9) 10) 12 ((Q1 3) 1), (((aZ0 (a 0) u9) 11), .inr (2, [.ref ((aZ0 (a 0) u9) 12), .ref ((aZ0 (a 0) u9) 13), .int ((Q1 4) 2 0), .int ((Q1 4) 2 1), .int ((Q1 4) 2 2), .int ((Q1 4) 2 3)])), aI E ((aZ0 (a 0) u9) 12) 50 ((Q1 4) 0), aI E ((aZ0 (a 0) u9) 13) 12 ((Q1 4) 1), (((aZ0 (a 0) u9) 14), .inr (2, [.ref ((aZ0 (a 0) u9) 15), .ref ((aZ0 (a 0) u9) 16), .int ((Q1 5) 2 0), .int ((Q1 5) 2 1), .int ((Q1 5) 2 2), .int ((Q1 5) 2 3)])), aI E ((aZ0 (a 0) u9) 15) 50 ((Q1 5) 0), aI E ((aZ0 (a 0) u9) 16) 12 ((Q1 5) 1), (((aZ0 (a 0) u9) 17), .inr (2, [.ref ((aZ0 (a 0) u9) 18), .ref ((aZ0 (a 0) u9) 19), .int ((Q1 6) 2 0), .int ((Q1 6) 2 1), .int ((Q1 6) 2 2), .int ((Q1 6) 2 3)])), aI E ((aZ0 (a 0) u9) 18) 50 ((Q1 6) 0), aI E ((aZ0 (a 0) u9) 19) 12 ((Q1 6) 1), (((aZ0 (a 0) u9) 20), .inr (2, [.ref ((aZ0 (a 0) u9) 21), .ref ((aZ0 (a 0) u9) 22), .int ((Q1 7) 2 0), .int ((Q1 7) 2 1), .int ((Q1 7) 2 2), .int ((Q1 7) 2 3)])), aI E ((aZ0 (a 0) u9) 21) 50 ((Q1 7) 0), aI E ((aZ0 (a 0) u9) 22) 12 ((Q1 7) 1), (((aZ0 (a 0) u9) 23), .inr (2, [.ref ((aZ0 (a 0) u9) 24), .ref ((aZ0 (a 0) u9) 25), .int ((Q1 8) 2 0), .int ((Q1 8) 2 1), .int ((Q1 8) 2 2), .int ((Q1 8) 2 3)])), aI E ((aZ0 (a 0) u9) 24) 50 ((Q1 8) 0), aI E ((aZ0 (a 0) u9) 25) 12 ((Q1 8) 1), (((aZ0 (a 0) u9) 26), .inr (3, [.ref ((aZ0 (a 0) u9) 27), .ref ((aZ0 (a 0) u9) 28)])), aP E ((aZ0 (a 0) u9) 27) 2 (fS ((aZ0 (a 0) u9) 29) ((aZ0 (a 0) u9) 32)), aZ E ((aZ0 (a 0) u9) 28) 2 (Q1 2 1), (((aZ0 (a 0) u9) 29), .inr (2, [.ref ((aZ0 (a 0) u9) 30), .ref ((aZ0 (a 0) u9) 31), .int ((Q1 9) 2 0), .int ((Q1 9) 2 1), .int ((Q1 9) 2 2), .int ((Q1 9) 2 3)])), aI E ((aZ0 (a 0) u9) 30) 50 ((Q1 9) 0), aI E ((aZ0 (a 0) u9) 31) 12 ((Q1 9) 1), (((aZ0 (a 0) u9) 32), .inr (2, [.ref ((aZ0 (a 0) u9) 33), .ref ((aZ0 (a 0) u9) 34), .int ((Q1 10) 2 0), .int ((Q1 10) 2 1), .int ((Q1 10) 2 2), .int ((Q1 10) 2 3)])), aI E ((aZ0 (a 0) u9) 33) 50 ((Q1 10) 0), aI E ((aZ0 (a 0) u9) 34) 12 ((Q1 10) 1), (((aZ0 (a 0) u9) 35), .inr (1, [.ref ((aZ0 (a 0) u9) 36), .ref ((aZ0 (a 0) u9) 37), .int ((Q1 1) 2 0)])), aI E ((aZ0 (a 0) u9) 36) 80 ((Q1 1) 0), aI E ((aZ0 (a 0) u9) 37) 20 ((Q1 1) 1)]) hx hb hml hown hts hl.1 (kX8_set l D E c1 H.size h2) (cwV 2 hts gL_law_X8_set rfl rfl rfl (by decide +kernel) ⟨Nat.le_of_ble_eq_true rfl, Nat.le_of_ble_eq_true rfl⟩) 0 rfl rfl hP hD hS hA hK [38, 39, 40, 41, 42, 43, 44, 45, 46] [0, 1, 2, 3, 4, 5, 6, 7, 8, 9, 10, 11, 12, 13, 14, 15, 16, 17, 18, 19, 20, 21, 22, 23, 24, 25, 26, 27, 28, 29, 30, 31, 32, 33, 34, 35, 36, 37] [0, 1, 2, 3, 4, 5, 6, 7, 8, 9, 10, 11, 12, 13, 14, 15, 16, 17, 18, 19, 20, 21, 22, 23, 24, 25, 26, 27, 28, 29, 30, 31, 32, 33, 34, 35, 36, 37, 38, 39, 40, 41, 42, 43, 44, 45, 46] (by decide) rfl rfl (by decide) (by decide) (by decide) (fun _ => rfl) rfl rfl (Nat.le_of_ble_eq_true rfl) dL_law_165 ⟨by show cells + 0 + 0 ≤ 600000; omega, by show slots + 0 + 0 ≤ 7302250; omega⟩ (fun _ H locs hP hD hS => ?_)
  refine lv_icmp_eq (tgt := 865) hx hb dL_law_168 (by decide) (fun _ => ?_) (fun c9 => absurd rfl c9)
  exact cont (aZ0 (a 0) u9) c1 Q1 M1 _ _ _ (cells + 0 + 0) (slots + 0 + 0) (by omega) (by omega) hI1 hP hD hS hl

set_option maxRecDepth 100000 in
set_option maxHeartbeats 4000000 in
theorem law_c1 {p : Program} {e : Env} {s : State} {m : MethodId} {below : List Frame} {meth : Method} {c : Code} {l : Launch} {b L : Nat} {xs : Nat → Int32} {I : (Nat → FS) → FS → Prop} (hc : Coup I) (C0 : CL p s m meth c b L xs) {D : va_G} {E : Nat → ClassId} (hK : va_K D vwCl (tyE E) s) {t : Nat → Nat} (hZ : zSA t s) {i : Nat} (hi : i + 6 ≤ L) {a c1 : Nat → Nat} {Q : Nat → FS} {M : FS} {H : Heap} {locs : List Loc} {ls : Array Slot} {cells slots : Nat} (hcs : cells + 1 ≤ 600000) (hcs2 : slots + 4 ≤ 7302250) (hI : I Q M) (hP : va_P D vwCl ((wQ E a Q) ++ (wMod E c1 M)) H) (hD : va_D (fun q : Nat => s.heap.size ≤ q) ((wQ E a Q) ++ (wMod E c1 M))) (hS : va_S (fun q : Nat => s.heap.size ≤ q) s.heap H locs) (hl : lv_has ls 4 [(0, .ref b), (1, .ref (a 0)), (2, .ref (c1 0)), (3, .int (nI i))])
    (cont : LCont p l e s m below meth c D E I b i a c1 cells slots) : WL p l e s m below meth c b H locs cells slots 173 ls [] := by
  obtain ⟨hx, hb, hr, hml, hown, hts, hX, hbl, hL, hlocks⟩ := C0
  have hA : ∀ q : Nat, s.heap.size ≤ q → (fun q : Nat => s.heap.size ≤ q) q := fun _ h => h
  have hbA : ¬ (fun q : Nat => s.heap.size ≤ q) b := Nat.not_le.mpr hbl
  obtain ⟨r, Q1, M1, h1, h2, hI1⟩ := hc.2.1 Q M (xs (i + 1)) (xs (i + 2)) hI
  refine lv_aload_n hx hb dL_law_173 rfl (lv_at hl 1 rfl) ?_
  refine lv_aload_n hx hb dL_law_174 rfl (lv_at hl 0 rfl) ?_
  refine lv_iload_n hx hb dL_law_175 rfl (lv_at hl 3 rfl) ?_
  refine lv_iconst (v := 1) hx hb dL_law_176 (by decide) ?_
  refine lv_iadd hx hb dL_law_177 ?_
  refine l_ld (k := 1) hx hb hX hbl hbA hS hL hi (by decide) rfl dL_law_178 ?_
  refine lv_aload_n hx hb dL_law_179 rfl (lv_at hl 0 rfl) ?_
  refine lv_iload_n hx hb dL_law_180 rfl (lv_at hl 3 rfl) ?_
  refine lv_iconst (v := 2) hx hb dL_law_181 (by decide) ?_
  refine lv_iadd hx hb dL_law_182 ?_
  refine l_ld (k := 2) hx hb hX hbl hbA hS hL hi (by decide) rfl dL_law_183 ?_
  refine m_VI (As := [.int (xs (i + 1)), .int (xs (i + 2))]) (rest := []) (C := RX7) (T0 := TX7) (N0 := 4) (ci := 6) (Wn := (fun u9 : Nat → Nat => (wQ E (aZ0 (a 0) u9) Q1) ++ (wMod E c1 M))) (Wr := [((c1 0), .inr (7, [.ref (c1 1), .ref (c1 2), .ref (c1 3), .int (M 8 0), .ref (c1 4), .ref (c1 5), .ref (c1 6), .int (M 8 1), .int (M 8 2), .int (M 8 3), .ref (c1 7), .int (M 8 4), .ref (c1 8), .int (M 8 5)])), aI E (c1 1) 116 (M 0), aI E (c1 2) 116 (M 1), aI E (c1 3) 696 (M 2), aI E (c1 4) 232 (M 3), aZ E (c1 5) 2 (M 4), aI E (c1 6) 80 (M 5), aI E (c1 7) 7 (M 6), aI E (c1 8) 44 (M 7)]) hx hb hml hown hts hl.1 (kX7_point l D E a H.size h1) (cwV 2 hts gL_law_X7_point rfl rfl rfl (by decide +kernel) ⟨Nat.le_of_ble_eq_true rfl, Nat.le_of_ble_eq_true rfl⟩) 0 rfl rfl hP hD hS hA hK [0, 1, 2, 3, 4, 5, 6, 7, 8, 9, 10, 11, 12, 13, 14, 15, 16, 17, 18, 19, 20, 21, 22, 23, 24, 25, 26, 27, 28, 29, 30, 31, 32, 33, 34, 35, 36, 37] [38, 39, 40, 41, 42, 43, 44, 45, 46] [9, 10, 11, 12, 13, 14, 15, 16, 17, 18, 19, 20, 21, 22, 23, 24, 25, 26, 27, 28, 29, 30, 31, 32, 33, 34, 35, 36, 37, 38, 39, 40, 41, 42, 43, 44, 45, 46, 0, 1, 2, 3, 4, 5, 6, 7, 8] (by decide) rfl rfl (by decide) (by decide) (by decide) (fun _ => rfl) rfl rfl (Nat.le_of_ble_eq_true rfl) dL_law_184 ⟨by show cells + 0 ≤ 600000; omega, by show slots + 0 ≤ 7302250; omega⟩ (fun u9 H locs hP hD hS => ?_)
  refine lv_aload_n hx hb dL_law_187 rfl (lv_at hl 2 rfl) ?_
  refine lv_aload_n hx hb dL_law_188 rfl (lv_at hl 0 rfl) ?_
  refine lv_iload_n hx hb dL_law_189 rfl (lv_at hl 3 rfl) ?_
  refine lv_iconst (v := 1) hx hb dL_law_190 (by decide) ?_
  refine lv_iadd hx hb dL_law_191 ?_
  refine l_ld (k := 1) hx hb hX hbl hbA hS hL hi (by decide) rfl dL_law_192 ?_
  refine lv_aload_n hx hb dL_law_193 rfl (lv_at hl 0 rfl) ?_
  refine lv_iload_n hx hb dL_law_194 rfl (lv_at hl 3 rfl) ?_
  refine lv_iconst (v := 2) hx hb dL_law_195 (by decide) ?_
  refine lv_iadd hx hb dL_law_196 ?_
  refine l_ld (k := 2) hx hb hX hbl hbA hS hL hi (by decide) rfl dL_law_197 ?_
  refine m_VI (As := [.int (xs (i + 1)), .int (xs (i + 2))]) (rest := [.int r]) (C := RX8) (T0 := TX8) (N0 := 14) (ci := 7) (Wn := (fun _ : Unit => (wQ E (aZ0 (a 0) u9) Q1) ++ (wMod E c1 M1))) (Wr := [(((aZ0 (a 0) u9) 0), .inr (6, [.ref ((aZ0 (a 0) u9) 1), .ref ((aZ0 (a 0) u9) 6), .ref ((aZ0 (a 0) u9) 26), .ref ((aZ0 (a 0) u9) 35)])), (((aZ0 (a 0) u9) 1), .inr (4, [.ref ((aZ0 (a 0) u9) 3), .ref ((aZ0 (a 0) u9) 2)])), aI E ((aZ0 (a 0) u9) 2) 8192 ((Q1 0) 3), (((aZ0 (a 0) u9) 3), .inr (2, [.ref ((aZ0 (a 0) u9) 4), .ref ((aZ0 (a 0) u9) 5), .int ((Q1 0) 2 0), .int ((Q1 0) 2 1), .int ((Q1 0) 2 2), .int ((Q1 0) 2 3)])), aI E ((aZ0 (a 0) u9) 4) 50 ((Q1 0) 0), aI E ((aZ0 (a 0) u9) 5) 12 ((Q1 0) 1), (((aZ0 (a 0) u9) 6), .inr (0, [.ref ((aZ0 (a 0) u9) 7), .int (Q1 2 0 0)])), aP E ((aZ0 (a 0) u9) 7) 6 (fH ((aZ0 (a 0) u9) 8) ((aZ0 (a 0) u9) 11) ((aZ0 (a 0) u9) 14) ((aZ0 (a 0) u9) 17) ((aZ0 (a 0) u9) 20) ((aZ0 (a 0) u9) 23)), (((aZ0 (a 0) u9) 8), .inr (2, [.ref ((aZ0 (a 0) u9) 9), .ref ((aZ0 (a 0) u9) 10), .int ((Q1 3) 2 0), .int ((Q1 3) 2 1), .int ((Q1 3) 2 2), .int ((Q1 3) 2 3)])), aI E ((aZ0 (a 0) u9) 9) 50 ((Q1 3) 0), aI E ((aZ0 (a 0) u9) 10) 12 ((Q1 3) 1), (((aZ0 (a 0) u9) 11), .inr (2, [.ref ((aZ0 (a 0) u9) 12), .ref ((aZ0 (a 0) u9) 13), .int ((Q1 4) 2 0), .int ((Q1 4) 2 1), .int ((Q1 4) 2 2), .int ((Q1 4) 2 3)])), aI E ((aZ0 (a 0) u9) 12) 50 ((Q1 4) 0), aI E ((aZ0 (a 0) u9) 13) 12 ((Q1 4) 1), (((aZ0 (a 0) u9) 14), .inr (2, [.ref ((aZ0 (a 0) u9) 15), .ref ((aZ0 (a 0) u9) 16), .int ((Q1 5) 2 0), .int ((Q1 5) 2 1), .int ((Q1 5) 2 2), .int ((Q1 5) 2 3)])), aI E ((aZ0 (a 0) u9) 15) 50 ((Q1 5) 0), aI E ((aZ0 (a 0) u9) 16) 12 ((Q1 5) 1), (((aZ0 (a 0) u9) 17), .inr (2, [.ref ((aZ0 (a 0) u9) 18), .ref ((aZ0 (a 0) u9) 19), .int ((Q1 6) 2 0), .int ((Q1 6) 2 1), .int ((Q1 6) 2 2), .int ((Q1 6) 2 3)])), aI E ((aZ0 (a 0) u9) 18) 50 ((Q1 6) 0), aI E ((aZ0 (a 0) u9) 19) 12 ((Q1 6) 1), (((aZ0 (a 0) u9) 20), .inr (2, [.ref ((aZ0 (a 0) u9) 21), .ref ((aZ0 (a 0) u9) 22), .int ((Q1 7) 2 0), .int ((Q1 7) 2 1), .int ((Q1 7) 2 2), .int ((Q1 7) 2 3)])), aI E ((aZ0 (a 0) u9) 21) 50 ((Q1 7) 0), aI E ((aZ0 (a 0) u9) 22) 12 ((Q1 7) 1), (((aZ0 (a 0) u9) 23), .inr (2, [.ref ((aZ0 (a 0) u9) 24), .ref ((aZ0 (a 0) u9) 25), .int ((Q1 8) 2 0), .int ((Q1 8) 2 1), .int ((Q1 8) 2 2), .int ((Q1 8) 2 3)])), aI E ((aZ0 (a 0) u9) 24) 50 ((Q1 8) 0), aI E ((aZ0 (a 0) u9) 25) 12 ((Q1 8) 1), (((aZ0 (a 0) u9) 26), .inr (3, [.ref ((aZ0 (a 0) u9) 27), .ref ((aZ0 (a 0) u9) 28)])), aP E ((aZ0 (a 0) u9) 27) 2 (fS ((aZ0 (a 0) u9) 29) ((aZ0 (a 0) u9) 32)), aZ E ((aZ0 (a 0) u9) 28) 2 (Q1 2 1), (((aZ0 (a 0) u9) 29), .inr (2, [.ref ((aZ0 (a 0) u9) 30), .ref ((aZ0 (a 0) u9) 31), .int ((Q1 9) 2 0), .int ((Q1 9) 2 1), .int ((Q1 9) 2 2), .int ((Q1 9) 2 3)])), aI E ((aZ0 (a 0) u9) 30) 50 ((Q1 9) 0), aI E ((aZ0 (a 0) u9) 31) 12 ((Q1 9) 1), (((aZ0 (a 0) u9) 32), .inr (2, [.ref ((aZ0 (a 0) u9) 33), .ref ((aZ0 (a 0) u9) 34), .int ((Q1 10) 2 0), .int ((Q1 10) 2 1), .int ((Q1 10) 2 2), .int ((Q1 10) 2 3)])), aI E ((aZ0 (a 0) u9) 33) 50 ((Q1 10) 0), aI E ((aZ0 (a 0) u9) 34) 12 ((Q1 10) 1), (((aZ0 (a 0) u9) 35), .inr (1, [.ref ((aZ0 (a 0) u9) 36), .ref ((aZ0 (a 0) u9) 37), .int ((Q1 1) 2 0)])), aI E ((aZ0 (a 0) u9) 36) 80 ((Q1 1) 0), aI E ((aZ0 (a 0) u9) 37) 20 ((Q1 1) 1)]) hx hb hml hown hts hl.1 (kX8_point l D E c1 H.size h2) (cwV 2 hts gL_law_X8_point rfl rfl rfl (by decide +kernel) ⟨Nat.le_of_ble_eq_true rfl, Nat.le_of_ble_eq_true rfl⟩) 0 rfl rfl hP hD hS hA hK [38, 39, 40, 41, 42, 43, 44, 45, 46] [0, 1, 2, 3, 4, 5, 6, 7, 8, 9, 10, 11, 12, 13, 14, 15, 16, 17, 18, 19, 20, 21, 22, 23, 24, 25, 26, 27, 28, 29, 30, 31, 32, 33, 34, 35, 36, 37] [0, 1, 2, 3, 4, 5, 6, 7, 8, 9, 10, 11, 12, 13, 14, 15, 16, 17, 18, 19, 20, 21, 22, 23, 24, 25, 26, 27, 28, 29, 30, 31, 32, 33, 34, 35, 36, 37, 38, 39, 40, 41, 42, 43, 44, 45, 46] (by decide) rfl rfl (by decide) (by decide) (by decide) (fun _ => rfl) rfl rfl (Nat.le_of_ble_eq_true rfl) dL_law_198 ⟨by show cells + 0 + 0 ≤ 600000; omega, by show slots + 0 + 0 ≤ 7302250; omega⟩ (fun _ H locs hP hD hS => ?_)
  refine lv_icmp_eq (tgt := 865) hx hb dL_law_201 (by decide) (fun _ => ?_) (fun c9 => absurd rfl c9)
  exact cont (aZ0 (a 0) u9) c1 Q1 M1 _ _ _ (cells + 0 + 0) (slots + 0 + 0) (by omega) (by omega) hI1 hP hD hS hl

set_option maxRecDepth 100000 in
set_option maxHeartbeats 4000000 in
theorem law_c2 {p : Program} {e : Env} {s : State} {m : MethodId} {below : List Frame} {meth : Method} {c : Code} {l : Launch} {b L : Nat} {xs : Nat → Int32} {I : (Nat → FS) → FS → Prop} (hc : Coup I) (C0 : CL p s m meth c b L xs) {D : va_G} {E : Nat → ClassId} (hK : va_K D vwCl (tyE E) s) {t : Nat → Nat} (hZ : zSA t s) {i : Nat} (hi : i + 6 ≤ L) {a c1 : Nat → Nat} {Q : Nat → FS} {M : FS} {H : Heap} {locs : List Loc} {ls : Array Slot} {cells slots : Nat} (hcs : cells + 1 ≤ 600000) (hcs2 : slots + 4 ≤ 7302250) (hI : I Q M) (hP : va_P D vwCl ((wQ E a Q) ++ (wMod E c1 M)) H) (hD : va_D (fun q : Nat => s.heap.size ≤ q) ((wQ E a Q) ++ (wMod E c1 M))) (hS : va_S (fun q : Nat => s.heap.size ≤ q) s.heap H locs) (hl : lv_has ls 4 [(0, .ref b), (1, .ref (a 0)), (2, .ref (c1 0)), (3, .int (nI i))])
    (cont : LCont p l e s m below meth c D E I b i a c1 cells slots) : WL p l e s m below meth c b H locs cells slots 206 ls [] := by
  obtain ⟨hx, hb, hr, hml, hown, hts, hX, hbl, hL, hlocks⟩ := C0
  have hA : ∀ q : Nat, s.heap.size ≤ q → (fun q : Nat => s.heap.size ≤ q) q := fun _ h => h
  have hbA : ¬ (fun q : Nat => s.heap.size ≤ q) b := Nat.not_le.mpr hbl
  obtain ⟨r, Q1, M1, h1, h2, hI1⟩ := hc.2.2.1 Q M (xs (i + 1)) hI
  refine lv_aload_n hx hb dL_law_206 rfl (lv_at hl 1 rfl) ?_
  refine lv_aload_n hx hb dL_law_207 rfl (lv_at hl 0 rfl) ?_
  refine lv_iload_n hx hb dL_law_208 rfl (lv_at hl 3 rfl) ?_
  refine lv_iconst (v := 1) hx hb dL_law_209 (by decide) ?_
  refine lv_iadd hx hb dL_law_210 ?_
  refine l_ld (k := 1) hx hb hX hbl hbA hS hL hi (by decide) rfl dL_law_211 ?_
  refine m_VI (As := [.int (xs (i + 1))]) (rest := []) (C := RX7) (T0 := TX7) (N0 := 4) (ci := 6) (Wn := (fun u9 : Nat → Nat => (wQ E (aZ0 (a 0) u9) Q1) ++ (wMod E c1 M))) (Wr := [((c1 0), .inr (7, [.ref (c1 1), .ref (c1 2), .ref (c1 3), .int (M 8 0), .ref (c1 4), .ref (c1 5), .ref (c1 6), .int (M 8 1), .int (M 8 2), .int (M 8 3), .ref (c1 7), .int (M 8 4), .ref (c1 8), .int (M 8 5)])), aI E (c1 1) 116 (M 0), aI E (c1 2) 116 (M 1), aI E (c1 3) 696 (M 2), aI E (c1 4) 232 (M 3), aZ E (c1 5) 2 (M 4), aI E (c1 6) 80 (M 5), aI E (c1 7) 7 (M 6), aI E (c1 8) 44 (M 7)]) hx hb hml hown hts hl.1 (kX7_take l D E a H.size h1) (cwV 1 hts gL_law_X7_take rfl rfl rfl (by decide +kernel) ⟨Nat.le_of_ble_eq_true rfl, Nat.le_of_ble_eq_true rfl⟩) 0 rfl rfl hP hD hS hA hK [0, 1, 2, 3, 4, 5, 6, 7, 8, 9, 10, 11, 12, 13, 14, 15, 16, 17, 18, 19, 20, 21, 22, 23, 24, 25, 26, 27, 28, 29, 30, 31, 32, 33, 34, 35, 36, 37] [38, 39, 40, 41, 42, 43, 44, 45, 46] [9, 10, 11, 12, 13, 14, 15, 16, 17, 18, 19, 20, 21, 22, 23, 24, 25, 26, 27, 28, 29, 30, 31, 32, 33, 34, 35, 36, 37, 38, 39, 40, 41, 42, 43, 44, 45, 46, 0, 1, 2, 3, 4, 5, 6, 7, 8] (by decide) rfl rfl (by decide) (by decide) (by decide) (fun _ => rfl) rfl rfl (Nat.le_of_ble_eq_true rfl) dL_law_212 ⟨by show cells + 0 ≤ 600000; omega, by show slots + 0 ≤ 7302250; omega⟩ (fun u9 H locs hP hD hS => ?_)
  refine lv_aload_n hx hb dL_law_215 rfl (lv_at hl 2 rfl) ?_
  refine lv_aload_n hx hb dL_law_216 rfl (lv_at hl 0 rfl) ?_
  refine lv_iload_n hx hb dL_law_217 rfl (lv_at hl 3 rfl) ?_
  refine lv_iconst (v := 1) hx hb dL_law_218 (by decide) ?_
  refine lv_iadd hx hb dL_law_219 ?_
  refine l_ld (k := 1) hx hb hX hbl hbA hS hL hi (by decide) rfl dL_law_220 ?_
  refine m_VI (As := [.int (xs (i + 1))]) (rest := [.int r]) (C := RX8) (T0 := TX8) (N0 := 14) (ci := 7) (Wn := (fun _ : Unit => (wQ E (aZ0 (a 0) u9) Q1) ++ (wMod E c1 M1))) (Wr := [(((aZ0 (a 0) u9) 0), .inr (6, [.ref ((aZ0 (a 0) u9) 1), .ref ((aZ0 (a 0) u9) 6), .ref ((aZ0 (a 0) u9) 26), .ref ((aZ0 (a 0) u9) 35)])), (((aZ0 (a 0) u9) 1), .inr (4, [.ref ((aZ0 (a 0) u9) 3), .ref ((aZ0 (a 0) u9) 2)])), aI E ((aZ0 (a 0) u9) 2) 8192 ((Q1 0) 3), (((aZ0 (a 0) u9) 3), .inr (2, [.ref ((aZ0 (a 0) u9) 4), .ref ((aZ0 (a 0) u9) 5), .int ((Q1 0) 2 0), .int ((Q1 0) 2 1), .int ((Q1 0) 2 2), .int ((Q1 0) 2 3)])), aI E ((aZ0 (a 0) u9) 4) 50 ((Q1 0) 0), aI E ((aZ0 (a 0) u9) 5) 12 ((Q1 0) 1), (((aZ0 (a 0) u9) 6), .inr (0, [.ref ((aZ0 (a 0) u9) 7), .int (Q1 2 0 0)])), aP E ((aZ0 (a 0) u9) 7) 6 (fH ((aZ0 (a 0) u9) 8) ((aZ0 (a 0) u9) 11) ((aZ0 (a 0) u9) 14) ((aZ0 (a 0) u9) 17) ((aZ0 (a 0) u9) 20) ((aZ0 (a 0) u9) 23)), (((aZ0 (a 0) u9) 8), .inr (2, [.ref ((aZ0 (a 0) u9) 9), .ref ((aZ0 (a 0) u9) 10), .int ((Q1 3) 2 0), .int ((Q1 3) 2 1), .int ((Q1 3) 2 2), .int ((Q1 3) 2 3)])), aI E ((aZ0 (a 0) u9) 9) 50 ((Q1 3) 0), aI E ((aZ0 (a 0) u9) 10) 12 ((Q1 3) 1), (((aZ0 (a 0) u9) 11), .inr (2, [.ref ((aZ0 (a 0) u9) 12), .ref ((aZ0 (a 0) u9) 13), .int ((Q1 4) 2 0), .int ((Q1 4) 2 1), .int ((Q1 4) 2 2), .int ((Q1 4) 2 3)])), aI E ((aZ0 (a 0) u9) 12) 50 ((Q1 4) 0), aI E ((aZ0 (a 0) u9) 13) 12 ((Q1 4) 1), (((aZ0 (a 0) u9) 14), .inr (2, [.ref ((aZ0 (a 0) u9) 15), .ref ((aZ0 (a 0) u9) 16), .int ((Q1 5) 2 0), .int ((Q1 5) 2 1), .int ((Q1 5) 2 2), .int ((Q1 5) 2 3)])), aI E ((aZ0 (a 0) u9) 15) 50 ((Q1 5) 0), aI E ((aZ0 (a 0) u9) 16) 12 ((Q1 5) 1), (((aZ0 (a 0) u9) 17), .inr (2, [.ref ((aZ0 (a 0) u9) 18), .ref ((aZ0 (a 0) u9) 19), .int ((Q1 6) 2 0), .int ((Q1 6) 2 1), .int ((Q1 6) 2 2), .int ((Q1 6) 2 3)])), aI E ((aZ0 (a 0) u9) 18) 50 ((Q1 6) 0), aI E ((aZ0 (a 0) u9) 19) 12 ((Q1 6) 1), (((aZ0 (a 0) u9) 20), .inr (2, [.ref ((aZ0 (a 0) u9) 21), .ref ((aZ0 (a 0) u9) 22), .int ((Q1 7) 2 0), .int ((Q1 7) 2 1), .int ((Q1 7) 2 2), .int ((Q1 7) 2 3)])), aI E ((aZ0 (a 0) u9) 21) 50 ((Q1 7) 0), aI E ((aZ0 (a 0) u9) 22) 12 ((Q1 7) 1), (((aZ0 (a 0) u9) 23), .inr (2, [.ref ((aZ0 (a 0) u9) 24), .ref ((aZ0 (a 0) u9) 25), .int ((Q1 8) 2 0), .int ((Q1 8) 2 1), .int ((Q1 8) 2 2), .int ((Q1 8) 2 3)])), aI E ((aZ0 (a 0) u9) 24) 50 ((Q1 8) 0), aI E ((aZ0 (a 0) u9) 25) 12 ((Q1 8) 1), (((aZ0 (a 0) u9) 26), .inr (3, [.ref ((aZ0 (a 0) u9) 27), .ref ((aZ0 (a 0) u9) 28)])), aP E ((aZ0 (a 0) u9) 27) 2 (fS ((aZ0 (a 0) u9) 29) ((aZ0 (a 0) u9) 32)), aZ E ((aZ0 (a 0) u9) 28) 2 (Q1 2 1), (((aZ0 (a 0) u9) 29), .inr (2, [.ref ((aZ0 (a 0) u9) 30), .ref ((aZ0 (a 0) u9) 31), .int ((Q1 9) 2 0), .int ((Q1 9) 2 1), .int ((Q1 9) 2 2), .int ((Q1 9) 2 3)])), aI E ((aZ0 (a 0) u9) 30) 50 ((Q1 9) 0), aI E ((aZ0 (a 0) u9) 31) 12 ((Q1 9) 1), (((aZ0 (a 0) u9) 32), .inr (2, [.ref ((aZ0 (a 0) u9) 33), .ref ((aZ0 (a 0) u9) 34), .int ((Q1 10) 2 0), .int ((Q1 10) 2 1), .int ((Q1 10) 2 2), .int ((Q1 10) 2 3)])), aI E ((aZ0 (a 0) u9) 33) 50 ((Q1 10) 0), aI E ((aZ0 (a 0) u9) 34) 12 ((Q1 10) 1), (((aZ0 (a 0) u9) 35), .inr (1, [.ref ((aZ0 (a 0) u9) 36), .ref ((aZ0 (a 0) u9) 37), .int ((Q1 1) 2 0)])), aI E ((aZ0 (a 0) u9) 36) 80 ((Q1 1) 0), aI E ((aZ0 (a 0) u9) 37) 20 ((Q1 1) 1)]) hx hb hml hown hts hl.1 (kX8_take l D E c1 H.size h2) (cwV 1 hts gL_law_X8_take rfl rfl rfl (by decide +kernel) ⟨Nat.le_of_ble_eq_true rfl, Nat.le_of_ble_eq_true rfl⟩) 0 rfl rfl hP hD hS hA hK [38, 39, 40, 41, 42, 43, 44, 45, 46] [0, 1, 2, 3, 4, 5, 6, 7, 8, 9, 10, 11, 12, 13, 14, 15, 16, 17, 18, 19, 20, 21, 22, 23, 24, 25, 26, 27, 28, 29, 30, 31, 32, 33, 34, 35, 36, 37] [0, 1, 2, 3, 4, 5, 6, 7, 8, 9, 10, 11, 12, 13, 14, 15, 16, 17, 18, 19, 20, 21, 22, 23, 24, 25, 26, 27, 28, 29, 30, 31, 32, 33, 34, 35, 36, 37, 38, 39, 40, 41, 42, 43, 44, 45, 46] (by decide) rfl rfl (by decide) (by decide) (by decide) (fun _ => rfl) rfl rfl (Nat.le_of_ble_eq_true rfl) dL_law_221 ⟨by show cells + 0 + 0 ≤ 600000; omega, by show slots + 0 + 0 ≤ 7302250; omega⟩ (fun _ H locs hP hD hS => ?_)
  refine lv_icmp_eq (tgt := 865) hx hb dL_law_224 (by decide) (fun _ => ?_) (fun c9 => absurd rfl c9)
  exact cont (aZ0 (a 0) u9) c1 Q1 M1 _ _ _ (cells + 0 + 0) (slots + 0 + 0) (by omega) (by omega) hI1 hP hD hS hl

set_option maxRecDepth 100000 in
set_option maxHeartbeats 4000000 in
theorem law_c3 {p : Program} {e : Env} {s : State} {m : MethodId} {below : List Frame} {meth : Method} {c : Code} {l : Launch} {b L : Nat} {xs : Nat → Int32} {I : (Nat → FS) → FS → Prop} (hc : Coup I) (C0 : CL p s m meth c b L xs) {D : va_G} {E : Nat → ClassId} (hK : va_K D vwCl (tyE E) s) {t : Nat → Nat} (hZ : zSA t s) {i : Nat} (hi : i + 6 ≤ L) {a c1 : Nat → Nat} {Q : Nat → FS} {M : FS} {H : Heap} {locs : List Loc} {ls : Array Slot} {cells slots : Nat} (hcs : cells + 1 ≤ 600000) (hcs2 : slots + 4 ≤ 7302250) (hI : I Q M) (hP : va_P D vwCl ((wQ E a Q) ++ (wMod E c1 M)) H) (hD : va_D (fun q : Nat => s.heap.size ≤ q) ((wQ E a Q) ++ (wMod E c1 M))) (hS : va_S (fun q : Nat => s.heap.size ≤ q) s.heap H locs) (hl : lv_has ls 4 [(0, .ref b), (1, .ref (a 0)), (2, .ref (c1 0)), (3, .int (nI i))])
    (cont : LCont p l e s m below meth c D E I b i a c1 cells slots) : WL p l e s m below meth c b H locs cells slots 229 ls [] := by
  obtain ⟨hx, hb, hr, hml, hown, hts, hX, hbl, hL, hlocks⟩ := C0
  have hA : ∀ q : Nat, s.heap.size ≤ q → (fun q : Nat => s.heap.size ≤ q) q := fun _ h => h
  have hbA : ¬ (fun q : Nat => s.heap.size ≤ q) b := Nat.not_le.mpr hbl
  obtain ⟨r, Q1, M1, h1, h2, hI1⟩ := hc.2.2.2.1 Q M (xs (i + 1)) (xs (i + 2)) (xs (i + 3)) hI
  refine lv_aload_n hx hb dL_law_229 rfl (lv_at hl 1 rfl) ?_
  refine lv_aload_n hx hb dL_law_230 rfl (lv_at hl 0 rfl) ?_
  refine lv_iload_n hx hb dL_law_231 rfl (lv_at hl 3 rfl) ?_
  refine lv_iconst (v := 1) hx hb dL_law_232 (by decide) ?_
  refine lv_iadd hx hb dL_law_233 ?_
  refine l_ld (k := 1) hx hb hX hbl hbA hS hL hi (by decide) rfl dL_law_234 ?_
  refine lv_aload_n hx hb dL_law_235 rfl (lv_at hl 0 rfl) ?_
  refine lv_iload_n hx hb dL_law_236 rfl (lv_at hl 3 rfl) ?_
  refine lv_iconst (v := 2) hx hb dL_law_237 (by decide) ?_
  refine lv_iadd hx hb dL_law_238 ?_
  refine l_ld (k := 2) hx hb hX hbl hbA hS hL hi (by decide) rfl dL_law_239 ?_
  refine lv_aload_n hx hb dL_law_240 rfl (lv_at hl 0 rfl) ?_
  refine lv_iload_n hx hb dL_law_241 rfl (lv_at hl 3 rfl) ?_
  refine lv_iconst (v := 3) hx hb dL_law_242 (by decide) ?_
  refine lv_iadd hx hb dL_law_243 ?_
  refine l_ld (k := 3) hx hb hX hbl hbA hS hL hi (by decide) rfl dL_law_244 ?_
  refine m_VI (As := [.int (xs (i + 1)), .int (xs (i + 2)), .int (xs (i + 3))]) (rest := []) (C := RX7) (T0 := TX7) (N0 := 4) (ci := 6) (Wn := (fun u9 : Nat → Nat => (wQ E (aZ0 (a 0) u9) Q1) ++ (wMod E c1 M))) (Wr := [((c1 0), .inr (7, [.ref (c1 1), .ref (c1 2), .ref (c1 3), .int (M 8 0), .ref (c1 4), .ref (c1 5), .ref (c1 6), .int (M 8 1), .int (M 8 2), .int (M 8 3), .ref (c1 7), .int (M 8 4), .ref (c1 8), .int (M 8 5)])), aI E (c1 1) 116 (M 0), aI E (c1 2) 116 (M 1), aI E (c1 3) 696 (M 2), aI E (c1 4) 232 (M 3), aZ E (c1 5) 2 (M 4), aI E (c1 6) 80 (M 5), aI E (c1 7) 7 (M 6), aI E (c1 8) 44 (M 7)]) hx hb hml hown hts hl.1 (kX7_move l D E a H.size h1) (cwV 3 hts gL_law_X7_move rfl rfl rfl (by decide +kernel) ⟨Nat.le_of_ble_eq_true rfl, Nat.le_of_ble_eq_true rfl⟩) 0 rfl rfl hP hD hS hA hK [0, 1, 2, 3, 4, 5, 6, 7, 8, 9, 10, 11, 12, 13, 14, 15, 16, 17, 18, 19, 20, 21, 22, 23, 24, 25, 26, 27, 28, 29, 30, 31, 32, 33, 34, 35, 36, 37] [38, 39, 40, 41, 42, 43, 44, 45, 46] [9, 10, 11, 12, 13, 14, 15, 16, 17, 18, 19, 20, 21, 22, 23, 24, 25, 26, 27, 28, 29, 30, 31, 32, 33, 34, 35, 36, 37, 38, 39, 40, 41, 42, 43, 44, 45, 46, 0, 1, 2, 3, 4, 5, 6, 7, 8] (by decide) rfl rfl (by decide) (by decide) (by decide) (fun _ => rfl) rfl rfl (Nat.le_of_ble_eq_true rfl) dL_law_245 ⟨by show cells + 0 ≤ 600000; omega, by show slots + 0 ≤ 7302250; omega⟩ (fun u9 H locs hP hD hS => ?_)
  refine lv_aload_n hx hb dL_law_248 rfl (lv_at hl 2 rfl) ?_
  refine lv_aload_n hx hb dL_law_249 rfl (lv_at hl 0 rfl) ?_
  refine lv_iload_n hx hb dL_law_250 rfl (lv_at hl 3 rfl) ?_
  refine lv_iconst (v := 1) hx hb dL_law_251 (by decide) ?_
  refine lv_iadd hx hb dL_law_252 ?_
  refine l_ld (k := 1) hx hb hX hbl hbA hS hL hi (by decide) rfl dL_law_253 ?_
  refine lv_aload_n hx hb dL_law_254 rfl (lv_at hl 0 rfl) ?_
  refine lv_iload_n hx hb dL_law_255 rfl (lv_at hl 3 rfl) ?_
  refine lv_iconst (v := 2) hx hb dL_law_256 (by decide) ?_
  refine lv_iadd hx hb dL_law_257 ?_
  refine l_ld (k := 2) hx hb hX hbl hbA hS hL hi (by decide) rfl dL_law_258 ?_
  refine lv_aload_n hx hb dL_law_259 rfl (lv_at hl 0 rfl) ?_
  refine lv_iload_n hx hb dL_law_260 rfl (lv_at hl 3 rfl) ?_
  refine lv_iconst (v := 3) hx hb dL_law_261 (by decide) ?_
  refine lv_iadd hx hb dL_law_262 ?_
  refine l_ld (k := 3) hx hb hX hbl hbA hS hL hi (by decide) rfl dL_law_263 ?_
  refine m_VI (As := [.int (xs (i + 1)), .int (xs (i + 2)), .int (xs (i + 3))]) (rest := [.int r]) (C := RX8) (T0 := TX8) (N0 := 14) (ci := 7) (Wn := (fun _ : Unit => (wQ E (aZ0 (a 0) u9) Q1) ++ (wMod E c1 M1))) (Wr := [(((aZ0 (a 0) u9) 0), .inr (6, [.ref ((aZ0 (a 0) u9) 1), .ref ((aZ0 (a 0) u9) 6), .ref ((aZ0 (a 0) u9) 26), .ref ((aZ0 (a 0) u9) 35)])), (((aZ0 (a 0) u9) 1), .inr (4, [.ref ((aZ0 (a 0) u9) 3), .ref ((aZ0 (a 0) u9) 2)])), aI E ((aZ0 (a 0) u9) 2) 8192 ((Q1 0) 3), (((aZ0 (a 0) u9) 3), .inr (2, [.ref ((aZ0 (a 0) u9) 4), .ref ((aZ0 (a 0) u9) 5), .int ((Q1 0) 2 0), .int ((Q1 0) 2 1), .int ((Q1 0) 2 2), .int ((Q1 0) 2 3)])), aI E ((aZ0 (a 0) u9) 4) 50 ((Q1 0) 0), aI E ((aZ0 (a 0) u9) 5) 12 ((Q1 0) 1), (((aZ0 (a 0) u9) 6), .inr (0, [.ref ((aZ0 (a 0) u9) 7), .int (Q1 2 0 0)])), aP E ((aZ0 (a 0) u9) 7) 6 (fH ((aZ0 (a 0) u9) 8) ((aZ0 (a 0) u9) 11) ((aZ0 (a 0) u9) 14) ((aZ0 (a 0) u9) 17) ((aZ0 (a 0) u9) 20) ((aZ0 (a 0) u9) 23)), (((aZ0 (a 0) u9) 8), .inr (2, [.ref ((aZ0 (a 0) u9) 9), .ref ((aZ0 (a 0) u9) 10), .int ((Q1 3) 2 0), .int ((Q1 3) 2 1), .int ((Q1 3) 2 2), .int ((Q1 3) 2 3)])), aI E ((aZ0 (a 0) u9) 9) 50 ((Q1 3) 0), aI E ((aZ0 (a 0) u9) 10) 12 ((Q1 3) 1), (((aZ0 (a 0) u9) 11), .inr (2, [.ref ((aZ0 (a 0) u9) 12), .ref ((aZ0 (a 0) u9) 13), .int ((Q1 4) 2 0), .int ((Q1 4) 2 1), .int ((Q1 4) 2 2), .int ((Q1 4) 2 3)])), aI E ((aZ0 (a 0) u9) 12) 50 ((Q1 4) 0), aI E ((aZ0 (a 0) u9) 13) 12 ((Q1 4) 1), (((aZ0 (a 0) u9) 14), .inr (2, [.ref ((aZ0 (a 0) u9) 15), .ref ((aZ0 (a 0) u9) 16), .int ((Q1 5) 2 0), .int ((Q1 5) 2 1), .int ((Q1 5) 2 2), .int ((Q1 5) 2 3)])), aI E ((aZ0 (a 0) u9) 15) 50 ((Q1 5) 0), aI E ((aZ0 (a 0) u9) 16) 12 ((Q1 5) 1), (((aZ0 (a 0) u9) 17), .inr (2, [.ref ((aZ0 (a 0) u9) 18), .ref ((aZ0 (a 0) u9) 19), .int ((Q1 6) 2 0), .int ((Q1 6) 2 1), .int ((Q1 6) 2 2), .int ((Q1 6) 2 3)])), aI E ((aZ0 (a 0) u9) 18) 50 ((Q1 6) 0), aI E ((aZ0 (a 0) u9) 19) 12 ((Q1 6) 1), (((aZ0 (a 0) u9) 20), .inr (2, [.ref ((aZ0 (a 0) u9) 21), .ref ((aZ0 (a 0) u9) 22), .int ((Q1 7) 2 0), .int ((Q1 7) 2 1), .int ((Q1 7) 2 2), .int ((Q1 7) 2 3)])), aI E ((aZ0 (a 0) u9) 21) 50 ((Q1 7) 0), aI E ((aZ0 (a 0) u9) 22) 12 ((Q1 7) 1), (((aZ0 (a 0) u9) 23), .inr (2, [.ref ((aZ0 (a 0) u9) 24), .ref ((aZ0 (a 0) u9) 25), .int ((Q1 8) 2 0), .int ((Q1 8) 2 1), .int ((Q1 8) 2 2), .int ((Q1 8) 2 3)])), aI E ((aZ0 (a 0) u9) 24) 50 ((Q1 8) 0), aI E ((aZ0 (a 0) u9) 25) 12 ((Q1 8) 1), (((aZ0 (a 0) u9) 26), .inr (3, [.ref ((aZ0 (a 0) u9) 27), .ref ((aZ0 (a 0) u9) 28)])), aP E ((aZ0 (a 0) u9) 27) 2 (fS ((aZ0 (a 0) u9) 29) ((aZ0 (a 0) u9) 32)), aZ E ((aZ0 (a 0) u9) 28) 2 (Q1 2 1), (((aZ0 (a 0) u9) 29), .inr (2, [.ref ((aZ0 (a 0) u9) 30), .ref ((aZ0 (a 0) u9) 31), .int ((Q1 9) 2 0), .int ((Q1 9) 2 1), .int ((Q1 9) 2 2), .int ((Q1 9) 2 3)])), aI E ((aZ0 (a 0) u9) 30) 50 ((Q1 9) 0), aI E ((aZ0 (a 0) u9) 31) 12 ((Q1 9) 1), (((aZ0 (a 0) u9) 32), .inr (2, [.ref ((aZ0 (a 0) u9) 33), .ref ((aZ0 (a 0) u9) 34), .int ((Q1 10) 2 0), .int ((Q1 10) 2 1), .int ((Q1 10) 2 2), .int ((Q1 10) 2 3)])), aI E ((aZ0 (a 0) u9) 33) 50 ((Q1 10) 0), aI E ((aZ0 (a 0) u9) 34) 12 ((Q1 10) 1), (((aZ0 (a 0) u9) 35), .inr (1, [.ref ((aZ0 (a 0) u9) 36), .ref ((aZ0 (a 0) u9) 37), .int ((Q1 1) 2 0)])), aI E ((aZ0 (a 0) u9) 36) 80 ((Q1 1) 0), aI E ((aZ0 (a 0) u9) 37) 20 ((Q1 1) 1)]) hx hb hml hown hts hl.1 (kX8_move l D E c1 H.size h2) (cwV 3 hts gL_law_X8_move rfl rfl rfl (by decide +kernel) ⟨Nat.le_of_ble_eq_true rfl, Nat.le_of_ble_eq_true rfl⟩) 0 rfl rfl hP hD hS hA hK [38, 39, 40, 41, 42, 43, 44, 45, 46] [0, 1, 2, 3, 4, 5, 6, 7, 8, 9, 10, 11, 12, 13, 14, 15, 16, 17, 18, 19, 20, 21, 22, 23, 24, 25, 26, 27, 28, 29, 30, 31, 32, 33, 34, 35, 36, 37] [0, 1, 2, 3, 4, 5, 6, 7, 8, 9, 10, 11, 12, 13, 14, 15, 16, 17, 18, 19, 20, 21, 22, 23, 24, 25, 26, 27, 28, 29, 30, 31, 32, 33, 34, 35, 36, 37, 38, 39, 40, 41, 42, 43, 44, 45, 46] (by decide) rfl rfl (by decide) (by decide) (by decide) (fun _ => rfl) rfl rfl (Nat.le_of_ble_eq_true rfl) dL_law_264 ⟨by show cells + 0 + 0 ≤ 600000; omega, by show slots + 0 + 0 ≤ 7302250; omega⟩ (fun _ H locs hP hD hS => ?_)
  refine lv_icmp_eq (tgt := 865) hx hb dL_law_267 (by decide) (fun _ => ?_) (fun c9 => absurd rfl c9)
  exact cont (aZ0 (a 0) u9) c1 Q1 M1 _ _ _ (cells + 0 + 0) (slots + 0 + 0) (by omega) (by omega) hI1 hP hD hS hl

set_option maxRecDepth 100000 in
set_option maxHeartbeats 4000000 in
theorem law_c4 {p : Program} {e : Env} {s : State} {m : MethodId} {below : List Frame} {meth : Method} {c : Code} {l : Launch} {b L : Nat} {xs : Nat → Int32} {I : (Nat → FS) → FS → Prop} (hc : Coup I) (C0 : CL p s m meth c b L xs) {D : va_G} {E : Nat → ClassId} (hK : va_K D vwCl (tyE E) s) {t : Nat → Nat} (hZ : zSA t s) {i : Nat} (hi : i + 6 ≤ L) {a c1 : Nat → Nat} {Q : Nat → FS} {M : FS} {H : Heap} {locs : List Loc} {ls : Array Slot} {cells slots : Nat} (hcs : cells + 1 ≤ 600000) (hcs2 : slots + 4 ≤ 7302250) (hI : I Q M) (hP : va_P D vwCl ((wQ E a Q) ++ (wMod E c1 M)) H) (hD : va_D (fun q : Nat => s.heap.size ≤ q) ((wQ E a Q) ++ (wMod E c1 M))) (hS : va_S (fun q : Nat => s.heap.size ≤ q) s.heap H locs) (hl : lv_has ls 4 [(0, .ref b), (1, .ref (a 0)), (2, .ref (c1 0)), (3, .int (nI i))])
    (cont : LCont p l e s m below meth c D E I b i a c1 cells slots) : WL p l e s m below meth c b H locs cells slots 272 ls [] := by
  obtain ⟨hx, hb, hr, hml, hown, hts, hX, hbl, hL, hlocks⟩ := C0
  have hA : ∀ q : Nat, s.heap.size ≤ q → (fun q : Nat => s.heap.size ≤ q) q := fun _ h => h
  have hbA : ¬ (fun q : Nat => s.heap.size ≤ q) b := Nat.not_le.mpr hbl
  rcases (Decidable.em ((xs (i + 2)) = 0)) with c8 | c8
  · obtain ⟨r, Q1, M1, h1, h2, hI1⟩ := hc.2.2.2.2.1 Q M (xs (i + 1)) (0:Int32) hI (Or.inl rfl)
    refine lv_aload_n hx hb dL_law_272 rfl (lv_at hl 1 rfl) ?_
    refine lv_aload_n hx hb dL_law_273 rfl (lv_at hl 0 rfl) ?_
    refine lv_iload_n hx hb dL_law_274 rfl (lv_at hl 3 rfl) ?_
    refine lv_iconst (v := 1) hx hb dL_law_275 (by decide) ?_
    refine lv_iadd hx hb dL_law_276 ?_
    refine l_ld (k := 1) hx hb hX hbl hbA hS hL hi (by decide) rfl dL_law_277 ?_
    refine lv_aload_n hx hb dL_law_278 rfl (lv_at hl 0 rfl) ?_
    refine lv_iload_n hx hb dL_law_279 rfl (lv_at hl 3 rfl) ?_
    refine lv_iconst (v := 2) hx hb dL_law_280 (by decide) ?_
    refine lv_iadd hx hb dL_law_281 ?_
    refine l_ld (k := 2) hx hb hX hbl hbA hS hL hi (by decide) rfl dL_law_282 ?_
    refine lv_if_eq (tgt := 290) hx hb dL_law_283 (by decide) (fun _ => ?_) (fun c9 => absurd c8 c9)
    refine lv_iconst (v := 0) hx hb dL_law_290 (by decide) ?_
    refine m_VI (As := [.int (xs (i + 1)), .int (0:Int32)]) (rest := []) (C := RX7) (T0 := TX7) (N0 := 4) (ci := 6) (Wn := (fun u9 : Nat → Nat => (wQ E (aZ0 (a 0) u9) Q1) ++ (wMod E c1 M))) (Wr := [((c1 0), .inr (7, [.ref (c1 1), .ref (c1 2), .ref (c1 3), .int (M 8 0), .ref (c1 4), .ref (c1 5), .ref (c1 6), .int (M 8 1), .int (M 8 2), .int (M 8 3), .ref (c1 7), .int (M 8 4), .ref (c1 8), .int (M 8 5)])), aI E (c1 1) 116 (M 0), aI E (c1 2) 116 (M 1), aI E (c1 3) 696 (M 2), aI E (c1 4) 232 (M 3), aZ E (c1 5) 2 (M 4), aI E (c1 6) 80 (M 5), aI E (c1 7) 7 (M 6), aI E (c1 8) 44 (M 7)]) hx hb hml hown hts hl.1 (kX7_split l D E a H.size h1) (cwV 2 hts gL_law_X7_split rfl rfl rfl (by decide +kernel) ⟨Nat.le_of_ble_eq_true rfl, Nat.le_of_ble_eq_true rfl⟩) 0 rfl rfl hP hD hS hA hK [0, 1, 2, 3, 4, 5, 6, 7, 8, 9, 10, 11, 12, 13, 14, 15, 16, 17, 18, 19, 20, 21, 22, 23, 24, 25, 26, 27, 28, 29, 30, 31, 32, 33, 34, 35, 36, 37] [38, 39, 40, 41, 42, 43, 44, 45, 46] [9, 10, 11, 12, 13, 14, 15, 16, 17, 18, 19, 20, 21, 22, 23, 24, 25, 26, 27, 28, 29, 30, 31, 32, 33, 34, 35, 36, 37, 38, 39, 40, 41, 42, 43, 44, 45, 46, 0, 1, 2, 3, 4, 5, 6, 7, 8] (by decide) rfl rfl (by decide) (by decide) (by decide) (fun _ => rfl) rfl rfl (Nat.le_of_ble_eq_true rfl) dL_law_291 ⟨by show cells + 0 ≤ 600000; omega, by show slots + 0 ≤ 7302250; omega⟩ (fun u9 H locs hP hD hS => ?_)
    refine lv_aload_n hx hb dL_law_294 rfl (lv_at hl 2 rfl) ?_
    refine lv_aload_n hx hb dL_law_295 rfl (lv_at hl 0 rfl) ?_
    refine lv_iload_n hx hb dL_law_296 rfl (lv_at hl 3 rfl) ?_
    refine lv_iconst (v := 1) hx hb dL_law_297 (by decide) ?_
    refine lv_iadd hx hb dL_law_298 ?_
    refine l_ld (k := 1) hx hb hX hbl hbA hS hL hi (by decide) rfl dL_law_299 ?_
    refine lv_aload_n hx hb dL_law_300 rfl (lv_at hl 0 rfl) ?_
    refine lv_iload_n hx hb dL_law_301 rfl (lv_at hl 3 rfl) ?_
    refine lv_iconst (v := 2) hx hb dL_law_302 (by decide) ?_
    refine lv_iadd hx hb dL_law_303 ?_
    refine l_ld (k := 2) hx hb hX hbl hbA hS hL hi (by decide) rfl dL_law_304 ?_
    refine lv_if_eq (tgt := 312) hx hb dL_law_305 (by decide) (fun _ => ?_) (fun c9 => absurd c8 c9)
    refine lv_iconst (v := 0) hx hb dL_law_312 (by decide) ?_
    refine m_VI (As := [.int (xs (i + 1)), .int (0:Int32)]) (rest := [.int r]) (C := RX8) (T0 := TX8) (N0 := 14) (ci := 7) (Wn := (fun _ : Unit => (wQ E (aZ0 (a 0) u9) Q1) ++ (wMod E c1 M1))) (Wr := [(((aZ0 (a 0) u9) 0), .inr (6, [.ref ((aZ0 (a 0) u9) 1), .ref ((aZ0 (a 0) u9) 6), .ref ((aZ0 (a 0) u9) 26), .ref ((aZ0 (a 0) u9) 35)])), (((aZ0 (a 0) u9) 1), .inr (4, [.ref ((aZ0 (a 0) u9) 3), .ref ((aZ0 (a 0) u9) 2)])), aI E ((aZ0 (a 0) u9) 2) 8192 ((Q1 0) 3), (((aZ0 (a 0) u9) 3), .inr (2, [.ref ((aZ0 (a 0) u9) 4), .ref ((aZ0 (a 0) u9) 5), .int ((Q1 0) 2 0), .int ((Q1 0) 2 1), .int ((Q1 0) 2 2), .int ((Q1 0) 2 3)])), aI E ((aZ0 (a 0) u9) 4) 50 ((Q1 0) 0), aI E ((aZ0 (a 0) u9) 5) 12 ((Q1 0) 1), (((aZ0 (a 0) u9) 6), .inr (0, [.ref ((aZ0 (a 0) u9) 7), .int (Q1 2 0 0)])), aP E ((aZ0 (a 0) u9) 7) 6 (fH ((aZ0 (a 0) u9) 8) ((aZ0 (a 0) u9) 11) ((aZ0 (a 0) u9) 14) ((aZ0 (a 0) u9) 17) ((aZ0 (a 0) u9) 20) ((aZ0 (a 0) u9) 23)), (((aZ0 (a 0) u9) 8), .inr (2, [.ref ((aZ0 (a 0) u9) 9), .ref ((aZ0 (a 0) u9) 10), .int ((Q1 3) 2 0), .int ((Q1 3) 2 1), .int ((Q1 3) 2 2), .int ((Q1 3) 2 3)])), aI E ((aZ0 (a 0) u9) 9) 50 ((Q1 3) 0), aI E ((aZ0 (a 0) u9) 10) 12 ((Q1 3) 1), (((aZ0 (a 0) u9) 11), .inr (2, [.ref ((aZ0 (a 0) u9) 12), .ref ((aZ0 (a 0) u9) 13), .int ((Q1 4) 2 0), .int ((Q1 4) 2 1), .int ((Q1 4) 2 2), .int ((Q1 4) 2 3)])), aI E ((aZ0 (a 0) u9) 12) 50 ((Q1 4) 0), aI E ((aZ0 (a 0) u9) 13) 12 ((Q1 4) 1), (((aZ0 (a 0) u9) 14), .inr (2, [.ref ((aZ0 (a 0) u9) 15), .ref ((aZ0 (a 0) u9) 16), .int ((Q1 5) 2 0), .int ((Q1 5) 2 1), .int ((Q1 5) 2 2), .int ((Q1 5) 2 3)])), aI E ((aZ0 (a 0) u9) 15) 50 ((Q1 5) 0), aI E ((aZ0 (a 0) u9) 16) 12 ((Q1 5) 1), (((aZ0 (a 0) u9) 17), .inr (2, [.ref ((aZ0 (a 0) u9) 18), .ref ((aZ0 (a 0) u9) 19), .int ((Q1 6) 2 0), .int ((Q1 6) 2 1), .int ((Q1 6) 2 2), .int ((Q1 6) 2 3)])), aI E ((aZ0 (a 0) u9) 18) 50 ((Q1 6) 0), aI E ((aZ0 (a 0) u9) 19) 12 ((Q1 6) 1), (((aZ0 (a 0) u9) 20), .inr (2, [.ref ((aZ0 (a 0) u9) 21), .ref ((aZ0 (a 0) u9) 22), .int ((Q1 7) 2 0), .int ((Q1 7) 2 1), .int ((Q1 7) 2 2), .int ((Q1 7) 2 3)])), aI E ((aZ0 (a 0) u9) 21) 50 ((Q1 7) 0), aI E ((aZ0 (a 0) u9) 22) 12 ((Q1 7) 1), (((aZ0 (a 0) u9) 23), .inr (2, [.ref ((aZ0 (a 0) u9) 24), .ref ((aZ0 (a 0) u9) 25), .int ((Q1 8) 2 0), .int ((Q1 8) 2 1), .int ((Q1 8) 2 2), .int ((Q1 8) 2 3)])), aI E ((aZ0 (a 0) u9) 24) 50 ((Q1 8) 0), aI E ((aZ0 (a 0) u9) 25) 12 ((Q1 8) 1), (((aZ0 (a 0) u9) 26), .inr (3, [.ref ((aZ0 (a 0) u9) 27), .ref ((aZ0 (a 0) u9) 28)])), aP E ((aZ0 (a 0) u9) 27) 2 (fS ((aZ0 (a 0) u9) 29) ((aZ0 (a 0) u9) 32)), aZ E ((aZ0 (a 0) u9) 28) 2 (Q1 2 1), (((aZ0 (a 0) u9) 29), .inr (2, [.ref ((aZ0 (a 0) u9) 30), .ref ((aZ0 (a 0) u9) 31), .int ((Q1 9) 2 0), .int ((Q1 9) 2 1), .int ((Q1 9) 2 2), .int ((Q1 9) 2 3)])), aI E ((aZ0 (a 0) u9) 30) 50 ((Q1 9) 0), aI E ((aZ0 (a 0) u9) 31) 12 ((Q1 9) 1), (((aZ0 (a 0) u9) 32), .inr (2, [.ref ((aZ0 (a 0) u9) 33), .ref ((aZ0 (a 0) u9) 34), .int ((Q1 10) 2 0), .int ((Q1 10) 2 1), .int ((Q1 10) 2 2), .int ((Q1 10) 2 3)])), aI E ((aZ0 (a 0) u9) 33) 50 ((Q1 10) 0), aI E ((aZ0 (a 0) u9) 34) 12 ((Q1 10) 1), (((aZ0 (a 0) u9) 35), .inr (1, [.ref ((aZ0 (a 0) u9) 36), .ref ((aZ0 (a 0) u9) 37), .int ((Q1 1) 2 0)])), aI E ((aZ0 (a 0) u9) 36) 80 ((Q1 1) 0), aI E ((aZ0 (a 0) u9) 37) 20 ((Q1 1) 1)]) hx hb hml hown hts hl.1 (kX8_split l D E c1 H.size h2) (cwV 2 hts gL_law_X8_split rfl rfl rfl (by decide +kernel) ⟨Nat.le_of_ble_eq_true rfl, Nat.le_of_ble_eq_true rfl⟩) 0 rfl rfl hP hD hS hA hK [38, 39, 40, 41, 42, 43, 44, 45, 46] [0, 1, 2, 3, 4, 5, 6, 7, 8, 9, 10, 11, 12, 13, 14, 15, 16, 17, 18, 19, 20, 21, 22, 23, 24, 25, 26, 27, 28, 29, 30, 31, 32, 33, 34, 35, 36, 37] [0, 1, 2, 3, 4, 5, 6, 7, 8, 9, 10, 11, 12, 13, 14, 15, 16, 17, 18, 19, 20, 21, 22, 23, 24, 25, 26, 27, 28, 29, 30, 31, 32, 33, 34, 35, 36, 37, 38, 39, 40, 41, 42, 43, 44, 45, 46] (by decide) rfl rfl (by decide) (by decide) (by decide) (fun _ => rfl) rfl rfl (Nat.le_of_ble_eq_true rfl) dL_law_313 ⟨by show cells + 0 + 0 ≤ 600000; omega, by show slots + 0 + 0 ≤ 7302250; omega⟩ (fun _ H locs hP hD hS => ?_)
    refine lv_icmp_eq (tgt := 865) hx hb dL_law_316 (by decide) (fun _ => ?_) (fun c9 => absurd rfl c9)
    exact cont (aZ0 (a 0) u9) c1 Q1 M1 _ _ _ (cells + 0 + 0) (slots + 0 + 0) (by omega) (by omega) hI1 hP hD hS hl
  · obtain ⟨r, Q1, M1, h1, h2, hI1⟩ := hc.2.2.2.2.1 Q M (xs (i + 1)) (1:Int32) hI (Or.inr rfl)
    refine lv_aload_n hx hb dL_law_272 rfl (lv_at hl 1 rfl) ?_
    refine lv_aload_n hx hb dL_law_273 rfl (lv_at hl 0 rfl) ?_
    refine lv_iload_n hx hb dL_law_274 rfl (lv_at hl 3 rfl) ?_
    refine lv_iconst (v := 1) hx hb dL_law_275 (by decide) ?_
    refine lv_iadd hx hb dL_law_276 ?_
    refine l_ld (k := 1) hx hb hX hbl hbA hS hL hi (by decide) rfl dL_law_277 ?_
    refine lv_aload_n hx hb dL_law_278 rfl (lv_at hl 0 rfl) ?_
    refine lv_iload_n hx hb dL_law_279 rfl (lv_at hl 3 rfl) ?_
    refine lv_iconst (v := 2) hx hb dL_law_280 (by decide) ?_
    refine lv_iadd hx hb dL_law_281 ?_
    refine l_ld (k := 2) hx hb hX hbl hbA hS hL hi (by decide) rfl dL_law_282 ?_
    refine lv_if_eq (tgt := 290) hx hb dL_law_283 (by decide) (fun c9 => absurd c9 c8) (fun _ => ?_)
    refine lv_iconst (v := 1) hx hb dL_law_286 (by decide) ?_
    refine lv_goto (tgt := 291) hx hb dL_law_287 (by decide) ?_
    refine m_VI (As := [.int (xs (i + 1)), .int (1:Int32)]) (rest := []) (C := RX7) (T0 := TX7) (N0 := 4) (ci := 6) (Wn := (fun u9 : Nat → Nat => (wQ E (aZ0 (a 0) u9) Q1) ++ (wMod E c1 M))) (Wr := [((c1 0), .inr (7, [.ref (c1 1), .ref (c1 2), .ref (c1 3), .int (M 8 0), .ref (c1 4), .ref (c1 5), .ref (c1 6), .int (M 8 1), .int (M 8 2), .int (M 8 3), .ref (c1 7), .int (M 8 4), .ref (c1 8), .int (M 8 5)])), aI E (c1 1) 116 (M 0), aI E (c1 2) 116 (M 1), aI E (c1 3) 696 (M 2), aI E (c1 4) 232 (M 3), aZ E (c1 5) 2 (M 4), aI E (c1 6) 80 (M 5), aI E (c1 7) 7 (M 6), aI E (c1 8) 44 (M 7)]) hx hb hml hown hts hl.1 (kX7_split l D E a H.size h1) (cwV 2 hts gL_law_X7_split rfl rfl rfl (by decide +kernel) ⟨Nat.le_of_ble_eq_true rfl, Nat.le_of_ble_eq_true rfl⟩) 0 rfl rfl hP hD hS hA hK [0, 1, 2, 3, 4, 5, 6, 7, 8, 9, 10, 11, 12, 13, 14, 15, 16, 17, 18, 19, 20, 21, 22, 23, 24, 25, 26, 27, 28, 29, 30, 31, 32, 33, 34, 35, 36, 37] [38, 39, 40, 41, 42, 43, 44, 45, 46] [9, 10, 11, 12, 13, 14, 15, 16, 17, 18, 19, 20, 21, 22, 23, 24, 25, 26, 27, 28, 29, 30, 31, 32, 33, 34, 35, 36, 37, 38, 39, 40, 41, 42, 43, 44, 45, 46, 0, 1, 2, 3, 4, 5, 6, 7, 8] (by decide) rfl rfl (by decide) (by decide) (by decide) (fun _ => rfl) rfl rfl (Nat.le_of_ble_eq_true rfl) dL_law_291 ⟨by show cells + 0 ≤ 600000; omega, by show slots + 0 ≤ 7302250; omega⟩ (fun u9 H locs hP hD hS => ?_)
    refine lv_aload_n hx hb dL_law_294 rfl (lv_at hl 2 rfl) ?_
    refine lv_aload_n hx hb dL_law_295 rfl (lv_at hl 0 rfl) ?_
    refine lv_iload_n hx hb dL_law_296 rfl (lv_at hl 3 rfl) ?_
    refine lv_iconst (v := 1) hx hb dL_law_297 (by decide) ?_
    refine lv_iadd hx hb dL_law_298 ?_
    refine l_ld (k := 1) hx hb hX hbl hbA hS hL hi (by decide) rfl dL_law_299 ?_
    refine lv_aload_n hx hb dL_law_300 rfl (lv_at hl 0 rfl) ?_
    refine lv_iload_n hx hb dL_law_301 rfl (lv_at hl 3 rfl) ?_
    refine lv_iconst (v := 2) hx hb dL_law_302 (by decide) ?_
    refine lv_iadd hx hb dL_law_303 ?_
    refine l_ld (k := 2) hx hb hX hbl hbA hS hL hi (by decide) rfl dL_law_304 ?_
    refine lv_if_eq (tgt := 312) hx hb dL_law_305 (by decide) (fun c9 => absurd c9 c8) (fun _ => ?_)
    refine lv_iconst (v := 1) hx hb dL_law_308 (by decide) ?_
    refine lv_goto (tgt := 313) hx hb dL_law_309 (by decide) ?_
    refine m_VI (As := [.int (xs (i + 1)), .int (1:Int32)]) (rest := [.int r]) (C := RX8) (T0 := TX8) (N0 := 14) (ci := 7) (Wn := (fun _ : Unit => (wQ E (aZ0 (a 0) u9) Q1) ++ (wMod E c1 M1))) (Wr := [(((aZ0 (a 0) u9) 0), .inr (6, [.ref ((aZ0 (a 0) u9) 1), .ref ((aZ0 (a 0) u9) 6), .ref ((aZ0 (a 0) u9) 26), .ref ((aZ0 (a 0) u9) 35)])), (((aZ0 (a 0) u9) 1), .inr (4, [.ref ((aZ0 (a 0) u9) 3), .ref ((aZ0 (a 0) u9) 2)])), aI E ((aZ0 (a 0) u9) 2) 8192 ((Q1 0) 3), (((aZ0 (a 0) u9) 3), .inr (2, [.ref ((aZ0 (a 0) u9) 4), .ref ((aZ0 (a 0) u9) 5), .int ((Q1 0) 2 0), .int ((Q1 0) 2 1), .int ((Q1 0) 2 2), .int ((Q1 0) 2 3)])), aI E ((aZ0 (a 0) u9) 4) 50 ((Q1 0) 0), aI E ((aZ0 (a 0) u9) 5) 12 ((Q1 0) 1), (((aZ0 (a 0) u9) 6), .inr (0, [.ref ((aZ0 (a 0) u9) 7), .int (Q1 2 0 0)])), aP E ((aZ0 (a 0) u9) 7) 6 (fH ((aZ0 (a 0) u9) 8) ((aZ0 (a 0) u9) 11) ((aZ0 (a 0) u9) 14) ((aZ0 (a 0) u9) 17) ((aZ0 (a 0) u9) 20) ((aZ0 (a 0) u9) 23)), (((aZ0 (a 0) u9) 8), .inr (2, [.ref ((aZ0 (a 0) u9) 9), .ref ((aZ0 (a 0) u9) 10), .int ((Q1 3) 2 0), .int ((Q1 3) 2 1), .int ((Q1 3) 2 2), .int ((Q1 3) 2 3)])), aI E ((aZ0 (a 0) u9) 9) 50 ((Q1 3) 0), aI E ((aZ0 (a 0) u9) 10) 12 ((Q1 3) 1), (((aZ0 (a 0) u9) 11), .inr (2, [.ref ((aZ0 (a 0) u9) 12), .ref ((aZ0 (a 0) u9) 13), .int ((Q1 4) 2 0), .int ((Q1 4) 2 1), .int ((Q1 4) 2 2), .int ((Q1 4) 2 3)])), aI E ((aZ0 (a 0) u9) 12) 50 ((Q1 4) 0), aI E ((aZ0 (a 0) u9) 13) 12 ((Q1 4) 1), (((aZ0 (a 0) u9) 14), .inr (2, [.ref ((aZ0 (a 0) u9) 15), .ref ((aZ0 (a 0) u9) 16), .int ((Q1 5) 2 0), .int ((Q1 5) 2 1), .int ((Q1 5) 2 2), .int ((Q1 5) 2 3)])), aI E ((aZ0 (a 0) u9) 15) 50 ((Q1 5) 0), aI E ((aZ0 (a 0) u9) 16) 12 ((Q1 5) 1), (((aZ0 (a 0) u9) 17), .inr (2, [.ref ((aZ0 (a 0) u9) 18), .ref ((aZ0 (a 0) u9) 19), .int ((Q1 6) 2 0), .int ((Q1 6) 2 1), .int ((Q1 6) 2 2), .int ((Q1 6) 2 3)])), aI E ((aZ0 (a 0) u9) 18) 50 ((Q1 6) 0), aI E ((aZ0 (a 0) u9) 19) 12 ((Q1 6) 1), (((aZ0 (a 0) u9) 20), .inr (2, [.ref ((aZ0 (a 0) u9) 21), .ref ((aZ0 (a 0) u9) 22), .int ((Q1 7) 2 0), .int ((Q1 7) 2 1), .int ((Q1 7) 2 2), .int ((Q1 7) 2 3)])), aI E ((aZ0 (a 0) u9) 21) 50 ((Q1 7) 0), aI E ((aZ0 (a 0) u9) 22) 12 ((Q1 7) 1), (((aZ0 (a 0) u9) 23), .inr (2, [.ref ((aZ0 (a 0) u9) 24), .ref ((aZ0 (a 0) u9) 25), .int ((Q1 8) 2 0), .int ((Q1 8) 2 1), .int ((Q1 8) 2 2), .int ((Q1 8) 2 3)])), aI E ((aZ0 (a 0) u9) 24) 50 ((Q1 8) 0), aI E ((aZ0 (a 0) u9) 25) 12 ((Q1 8) 1), (((aZ0 (a 0) u9) 26), .inr (3, [.ref ((aZ0 (a 0) u9) 27), .ref ((aZ0 (a 0) u9) 28)])), aP E ((aZ0 (a 0) u9) 27) 2 (fS ((aZ0 (a 0) u9) 29) ((aZ0 (a 0) u9) 32)), aZ E ((aZ0 (a 0) u9) 28) 2 (Q1 2 1), (((aZ0 (a 0) u9) 29), .inr (2, [.ref ((aZ0 (a 0) u9) 30), .ref ((aZ0 (a 0) u9) 31), .int ((Q1 9) 2 0), .int ((Q1 9) 2 1), .int ((Q1 9) 2 2), .int ((Q1 9) 2 3)])), aI E ((aZ0 (a 0) u9) 30) 50 ((Q1 9) 0), aI E ((aZ0 (a 0) u9) 31) 12 ((Q1 9) 1), (((aZ0 (a 0) u9) 32), .inr (2, [.ref ((aZ0 (a 0) u9) 33), .ref ((aZ0 (a 0) u9) 34), .int ((Q1 10) 2 0), .int ((Q1 10) 2 1), .int ((Q1 10) 2 2), .int ((Q1 10) 2 3)])), aI E ((aZ0 (a 0) u9) 33) 50 ((Q1 10) 0), aI E ((aZ0 (a 0) u9) 34) 12 ((Q1 10) 1), (((aZ0 (a 0) u9) 35), .inr (1, [.ref ((aZ0 (a 0) u9) 36), .ref ((aZ0 (a 0) u9) 37), .int ((Q1 1) 2 0)])), aI E ((aZ0 (a 0) u9) 36) 80 ((Q1 1) 0), aI E ((aZ0 (a 0) u9) 37) 20 ((Q1 1) 1)]) hx hb hml hown hts hl.1 (kX8_split l D E c1 H.size h2) (cwV 2 hts gL_law_X8_split rfl rfl rfl (by decide +kernel) ⟨Nat.le_of_ble_eq_true rfl, Nat.le_of_ble_eq_true rfl⟩) 0 rfl rfl hP hD hS hA hK [38, 39, 40, 41, 42, 43, 44, 45, 46] [0, 1, 2, 3, 4, 5, 6, 7, 8, 9, 10, 11, 12, 13, 14, 15, 16, 17, 18, 19, 20, 21, 22, 23, 24, 25, 26, 27, 28, 29, 30, 31, 32, 33, 34, 35, 36, 37] [0, 1, 2, 3, 4, 5, 6, 7, 8, 9, 10, 11, 12, 13, 14, 15, 16, 17, 18, 19, 20, 21, 22, 23, 24, 25, 26, 27, 28, 29, 30, 31, 32, 33, 34, 35, 36, 37, 38, 39, 40, 41, 42, 43, 44, 45, 46] (by decide) rfl rfl (by decide) (by decide) (by decide) (fun _ => rfl) rfl rfl (Nat.le_of_ble_eq_true rfl) dL_law_313 ⟨by show cells + 0 + 0 ≤ 600000; omega, by show slots + 0 + 0 ≤ 7302250; omega⟩ (fun _ H locs hP hD hS => ?_)
    refine lv_icmp_eq (tgt := 865) hx hb dL_law_316 (by decide) (fun _ => ?_) (fun c9 => absurd rfl c9)
    exact cont (aZ0 (a 0) u9) c1 Q1 M1 _ _ _ (cells + 0 + 0) (slots + 0 + 0) (by omega) (by omega) hI1 hP hD hS hl

set_option maxRecDepth 100000 in
set_option maxHeartbeats 4000000 in
theorem law_c5 {p : Program} {e : Env} {s : State} {m : MethodId} {below : List Frame} {meth : Method} {c : Code} {l : Launch} {b L : Nat} {xs : Nat → Int32} {I : (Nat → FS) → FS → Prop} (hc : Coup I) (C0 : CL p s m meth c b L xs) {D : va_G} {E : Nat → ClassId} (hK : va_K D vwCl (tyE E) s) {t : Nat → Nat} (hZ : zSA t s) {i : Nat} (hi : i + 6 ≤ L) {a c1 : Nat → Nat} {Q : Nat → FS} {M : FS} {H : Heap} {locs : List Loc} {ls : Array Slot} {cells slots : Nat} (hcs : cells + 1 ≤ 600000) (hcs2 : slots + 4 ≤ 7302250) (hI : I Q M) (hP : va_P D vwCl ((wQ E a Q) ++ (wMod E c1 M)) H) (hD : va_D (fun q : Nat => s.heap.size ≤ q) ((wQ E a Q) ++ (wMod E c1 M))) (hS : va_S (fun q : Nat => s.heap.size ≤ q) s.heap H locs) (hl : lv_has ls 4 [(0, .ref b), (1, .ref (a 0)), (2, .ref (c1 0)), (3, .int (nI i))])
    (cont : LCont p l e s m below meth c D E I b i a c1 cells slots) : WL p l e s m below meth c b H locs cells slots 321 ls [] := by
  obtain ⟨hx, hb, hr, hml, hown, hts, hX, hbl, hL, hlocks⟩ := C0
  have hA : ∀ q : Nat, s.heap.size ≤ q → (fun q : Nat => s.heap.size ≤ q) q := fun _ h => h
  have hbA : ¬ (fun q : Nat => s.heap.size ≤ q) b := Nat.not_le.mpr hbl
  obtain ⟨r, Q1, M1, h1, h2, hI1⟩ := hc.2.2.2.2.2.1 Q M  hI
  refine lv_aload_n hx hb dL_law_321 rfl (lv_at hl 1 rfl) ?_
  refine m_VI (As := []) (rest := []) (C := RX7) (T0 := TX7) (N0 := 4) (ci := 6) (Wn := (fun u9 : Nat → Nat => (wQ E (aZ0 (a 0) u9) Q1) ++ (wMod E c1 M))) (Wr := [((c1 0), .inr (7, [.ref (c1 1), .ref (c1 2), .ref (c1 3), .int (M 8 0), .ref (c1 4), .ref (c1 5), .ref (c1 6), .int (M 8 1), .int (M 8 2), .int (M 8 3), .ref (c1 7), .int (M 8 4), .ref (c1 8), .int (M 8 5)])), aI E (c1 1) 116 (M 0), aI E (c1 2) 116 (M 1), aI E (c1 3) 696 (M 2), aI E (c1 4) 232 (M 3), aZ E (c1 5) 2 (M 4), aI E (c1 6) 80 (M 5), aI E (c1 7) 7 (M 6), aI E (c1 8) 44 (M 7)]) hx hb hml hown hts hl.1 (kX7_putAll l D E a H.size h1) (cwV 0 hts gL_law_X7_putAll rfl rfl rfl (by decide +kernel) ⟨Nat.le_of_ble_eq_true rfl, Nat.le_of_ble_eq_true rfl⟩) 0 rfl rfl hP hD hS hA hK [0, 1, 2, 3, 4, 5, 6, 7, 8, 9, 10, 11, 12, 13, 14, 15, 16, 17, 18, 19, 20, 21, 22, 23, 24, 25, 26, 27, 28, 29, 30, 31, 32, 33, 34, 35, 36, 37] [38, 39, 40, 41, 42, 43, 44, 45, 46] [9, 10, 11, 12, 13, 14, 15, 16, 17, 18, 19, 20, 21, 22, 23, 24, 25, 26, 27, 28, 29, 30, 31, 32, 33, 34, 35, 36, 37, 38, 39, 40, 41, 42, 43, 44, 45, 46, 0, 1, 2, 3, 4, 5, 6, 7, 8] (by decide) rfl rfl (by decide) (by decide) (by decide) (fun _ => rfl) rfl rfl (Nat.le_of_ble_eq_true rfl) dL_law_322 ⟨by show cells + 0 ≤ 600000; omega, by show slots + 0 ≤ 7302250; omega⟩ (fun u9 H locs hP hD hS => ?_)
  refine lv_aload_n hx hb dL_law_325 rfl (lv_at hl 2 rfl) ?_
  refine m_VI (As := []) (rest := [.int r]) (C := RX8) (T0 := TX8) (N0 := 14) (ci := 7) (Wn := (fun _ : Unit => (wQ E (aZ0 (a 0) u9) Q1) ++ (wMod E c1 M1))) (Wr := [(((aZ0 (a 0) u9) 0), .inr (6, [.ref ((aZ0 (a 0) u9) 1), .ref ((aZ0 (a 0) u9) 6), .ref ((aZ0 (a 0) u9) 26), .ref ((aZ0 (a 0) u9) 35)])), (((aZ0 (a 0) u9) 1), .inr (4, [.ref ((aZ0 (a 0) u9) 3), .ref ((aZ0 (a 0) u9) 2)])), aI E ((aZ0 (a 0) u9) 2) 8192 ((Q1 0) 3), (((aZ0 (a 0) u9) 3), .inr (2, [.ref ((aZ0 (a 0) u9) 4), .ref ((aZ0 (a 0) u9) 5), .int ((Q1 0) 2 0), .int ((Q1 0) 2 1), .int ((Q1 0) 2 2), .int ((Q1 0) 2 3)])), aI E ((aZ0 (a 0) u9) 4) 50 ((Q1 0) 0), aI E ((aZ0 (a 0) u9) 5) 12 ((Q1 0) 1), (((aZ0 (a 0) u9) 6), .inr (0, [.ref ((aZ0 (a 0) u9) 7), .int (Q1 2 0 0)])), aP E ((aZ0 (a 0) u9) 7) 6 (fH ((aZ0 (a 0) u9) 8) ((aZ0 (a 0) u9) 11) ((aZ0 (a 0) u9) 14) ((aZ0 (a 0) u9) 17) ((aZ0 (a 0) u9) 20) ((aZ0 (a 0) u9) 23)), (((aZ0 (a 0) u9) 8), .inr (2, [.ref ((aZ0 (a 0) u9) 9), .ref ((aZ0 (a 0) u9) 10), .int ((Q1 3) 2 0), .int ((Q1 3) 2 1), .int ((Q1 3) 2 2), .int ((Q1 3) 2 3)])), aI E ((aZ0 (a 0) u9) 9) 50 ((Q1 3) 0), aI E ((aZ0 (a 0) u9) 10) 12 ((Q1 3) 1), (((aZ0 (a 0) u9) 11), .inr (2, [.ref ((aZ0 (a 0) u9) 12), .ref ((aZ0 (a 0) u9) 13), .int ((Q1 4) 2 0), .int ((Q1 4) 2 1), .int ((Q1 4) 2 2), .int ((Q1 4) 2 3)])), aI E ((aZ0 (a 0) u9) 12) 50 ((Q1 4) 0), aI E ((aZ0 (a 0) u9) 13) 12 ((Q1 4) 1), (((aZ0 (a 0) u9) 14), .inr (2, [.ref ((aZ0 (a 0) u9) 15), .ref ((aZ0 (a 0) u9) 16), .int ((Q1 5) 2 0), .int ((Q1 5) 2 1), .int ((Q1 5) 2 2), .int ((Q1 5) 2 3)])), aI E ((aZ0 (a 0) u9) 15) 50 ((Q1 5) 0), aI E ((aZ0 (a 0) u9) 16) 12 ((Q1 5) 1), (((aZ0 (a 0) u9) 17), .inr (2, [.ref ((aZ0 (a 0) u9) 18), .ref ((aZ0 (a 0) u9) 19), .int ((Q1 6) 2 0), .int ((Q1 6) 2 1), .int ((Q1 6) 2 2), .int ((Q1 6) 2 3)])), aI E ((aZ0 (a 0) u9) 18) 50 ((Q1 6) 0), aI E ((aZ0 (a 0) u9) 19) 12 ((Q1 6) 1), (((aZ0 (a 0) u9) 20), .inr (2, [.ref ((aZ0 (a 0) u9) 21), .ref ((aZ0 (a 0) u9) 22), .int ((Q1 7) 2 0), .int ((Q1 7) 2 1), .int ((Q1 7) 2 2), .int ((Q1 7) 2 3)])), aI E ((aZ0 (a 0) u9) 21) 50 ((Q1 7) 0), aI E ((aZ0 (a 0) u9) 22) 12 ((Q1 7) 1), (((aZ0 (a 0) u9) 23), .inr (2, [.ref ((aZ0 (a 0) u9) 24), .ref ((aZ0 (a 0) u9) 25), .int ((Q1 8) 2 0), .int ((Q1 8) 2 1), .int ((Q1 8) 2 2), .int ((Q1 8) 2 3)])), aI E ((aZ0 (a 0) u9) 24) 50 ((Q1 8) 0), aI E ((aZ0 (a 0) u9) 25) 12 ((Q1 8) 1), (((aZ0 (a 0) u9) 26), .inr (3, [.ref ((aZ0 (a 0) u9) 27), .ref ((aZ0 (a 0) u9) 28)])), aP E ((aZ0 (a 0) u9) 27) 2 (fS ((aZ0 (a 0) u9) 29) ((aZ0 (a 0) u9) 32)), aZ E ((aZ0 (a 0) u9) 28) 2 (Q1 2 1), (((aZ0 (a 0) u9) 29), .inr (2, [.ref ((aZ0 (a 0) u9) 30), .ref ((aZ0 (a 0) u9) 31), .int ((Q1 9) 2 0), .int ((Q1 9) 2 1), .int ((Q1 9) 2 2), .int ((Q1 9) 2 3)])), aI E ((aZ0 (a 0) u9) 30) 50 ((Q1 9) 0), aI E ((aZ0 (a 0) u9) 31) 12 ((Q1 9) 1), (((aZ0 (a 0) u9) 32), .inr (2, [.ref ((aZ0 (a 0) u9) 33), .ref ((aZ0 (a 0) u9) 34), .int ((Q1 10) 2 0), .int ((Q1 10) 2 1), .int ((Q1 10) 2 2), .int ((Q1 10) 2 3)])), aI E ((aZ0 (a 0) u9) 33) 50 ((Q1 10) 0), aI E ((aZ0 (a 0) u9) 34) 12 ((Q1 10) 1), (((aZ0 (a 0) u9) 35), .inr (1, [.ref ((aZ0 (a 0) u9) 36), .ref ((aZ0 (a 0) u9) 37), .int ((Q1 1) 2 0)])), aI E ((aZ0 (a 0) u9) 36) 80 ((Q1 1) 0), aI E ((aZ0 (a 0) u9) 37) 20 ((Q1 1) 1)]) hx hb hml hown hts hl.1 (kX8_putAll l D E c1 H.size h2) (cwV 0 hts gL_law_X8_putAll rfl rfl rfl (by decide +kernel) ⟨Nat.le_of_ble_eq_true rfl, Nat.le_of_ble_eq_true rfl⟩) 0 rfl rfl hP hD hS hA hK [38, 39, 40, 41, 42, 43, 44, 45, 46] [0, 1, 2, 3, 4, 5, 6, 7, 8, 9, 10, 11, 12, 13, 14, 15, 16, 17, 18, 19, 20, 21, 22, 23, 24, 25, 26, 27, 28, 29, 30, 31, 32, 33, 34, 35, 36, 37] [0, 1, 2, 3, 4, 5, 6, 7, 8, 9, 10, 11, 12, 13, 14, 15, 16, 17, 18, 19, 20, 21, 22, 23, 24, 25, 26, 27, 28, 29, 30, 31, 32, 33, 34, 35, 36, 37, 38, 39, 40, 41, 42, 43, 44, 45, 46] (by decide) rfl rfl (by decide) (by decide) (by decide) (fun _ => rfl) rfl rfl (Nat.le_of_ble_eq_true rfl) dL_law_326 ⟨by show cells + 0 + 0 ≤ 600000; omega, by show slots + 0 + 0 ≤ 7302250; omega⟩ (fun _ H locs hP hD hS => ?_)
  refine lv_icmp_eq (tgt := 865) hx hb dL_law_329 (by decide) (fun _ => ?_) (fun c9 => absurd rfl c9)
  exact cont (aZ0 (a 0) u9) c1 Q1 M1 _ _ _ (cells + 0 + 0) (slots + 0 + 0) (by omega) (by omega) hI1 hP hD hS hl

set_option maxRecDepth 100000 in
set_option maxHeartbeats 4000000 in
theorem law_c6 {p : Program} {e : Env} {s : State} {m : MethodId} {below : List Frame} {meth : Method} {c : Code} {l : Launch} {b L : Nat} {xs : Nat → Int32} {I : (Nat → FS) → FS → Prop} (hc : Coup I) (C0 : CL p s m meth c b L xs) {D : va_G} {E : Nat → ClassId} (hK : va_K D vwCl (tyE E) s) {t : Nat → Nat} (hZ : zSA t s) {i : Nat} (hi : i + 6 ≤ L) {a c1 : Nat → Nat} {Q : Nat → FS} {M : FS} {H : Heap} {locs : List Loc} {ls : Array Slot} {cells slots : Nat} (hcs : cells + 1 ≤ 600000) (hcs2 : slots + 4 ≤ 7302250) (hI : I Q M) (hP : va_P D vwCl ((wQ E a Q) ++ (wMod E c1 M)) H) (hD : va_D (fun q : Nat => s.heap.size ≤ q) ((wQ E a Q) ++ (wMod E c1 M))) (hS : va_S (fun q : Nat => s.heap.size ≤ q) s.heap H locs) (hl : lv_has ls 4 [(0, .ref b), (1, .ref (a 0)), (2, .ref (c1 0)), (3, .int (nI i))])
    (cont : LCont p l e s m below meth c D E I b i a c1 cells slots) : WL p l e s m below meth c b H locs cells slots 334 ls [] := by
  obtain ⟨hx, hb, hr, hml, hown, hts, hX, hbl, hL, hlocks⟩ := C0
  have hA : ∀ q : Nat, s.heap.size ≤ q → (fun q : Nat => s.heap.size ≤ q) q := fun _ h => h
  have hbA : ¬ (fun q : Nat => s.heap.size ≤ q) b := Nat.not_le.mpr hbl
  obtain ⟨r, h1, h2⟩ := hc.2.2.2.2.2.2.1 Q M (xs (i + 1)) (xs (i + 2)) hI
  refine lv_aload_n hx hb dL_law_334 rfl (lv_at hl 1 rfl) ?_
  refine lv_aload_n hx hb dL_law_335 rfl (lv_at hl 0 rfl) ?_
  refine lv_iload_n hx hb dL_law_336 rfl (lv_at hl 3 rfl) ?_
  refine lv_iconst (v := 1) hx hb dL_law_337 (by decide) ?_
  refine lv_iadd hx hb dL_law_338 ?_
  refine l_ld (k := 1) hx hb hX hbl hbA hS hL hi (by decide) rfl dL_law_339 ?_
  refine lv_aload_n hx hb dL_law_340 rfl (lv_at hl 0 rfl) ?_
  refine lv_iload_n hx hb dL_law_341 rfl (lv_at hl 3 rfl) ?_
  refine lv_iconst (v := 2) hx hb dL_law_342 (by decide) ?_
  refine lv_iadd hx hb dL_law_343 ?_
  refine l_ld (k := 2) hx hb hX hbl hbA hS hL hi (by decide) rfl dL_law_344 ?_
  refine q_V (As := [.int (xs (i + 1)), .int (xs (i + 2))]) (rest := []) (C := RX7) (T0 := TX7) (N0 := 4) (ci := 6) hx hb hml hown hts hl.1 (kX7_of l D E a h1) zNo_mv (cwV 2 hts gL_law_X7_of rfl rfl rfl (by decide +kernel) ⟨Nat.le_of_ble_eq_true rfl, Nat.le_of_ble_eq_true rfl⟩) 0 rfl rfl (hP.sub (ws' := wQ E a Q) [0, 1, 2, 3, 4, 5, 6, 7, 8, 9, 10, 11, 12, 13, 14, 15, 16, 17, 18, 19, 20, 21, 22, 23, 24, 25, 26, 27, 28, 29, 30, 31, 32, 33, 34, 35, 36, 37] rfl) hK trivial rfl rfl (Nat.le_of_ble_eq_true rfl) dL_law_345 ⟨by show cells + 0 ≤ 600000; omega, by show slots + 0 ≤ 7302250; omega⟩ ?_
  refine lv_aload_n hx hb dL_law_348 rfl (lv_at hl 2 rfl) ?_
  refine lv_aload_n hx hb dL_law_349 rfl (lv_at hl 0 rfl) ?_
  refine lv_iload_n hx hb dL_law_350 rfl (lv_at hl 3 rfl) ?_
  refine lv_iconst (v := 1) hx hb dL_law_351 (by decide) ?_
  refine lv_iadd hx hb dL_law_352 ?_
  refine l_ld (k := 1) hx hb hX hbl hbA hS hL hi (by decide) rfl dL_law_353 ?_
  refine lv_aload_n hx hb dL_law_354 rfl (lv_at hl 0 rfl) ?_
  refine lv_iload_n hx hb dL_law_355 rfl (lv_at hl 3 rfl) ?_
  refine lv_iconst (v := 2) hx hb dL_law_356 (by decide) ?_
  refine lv_iadd hx hb dL_law_357 ?_
  refine l_ld (k := 2) hx hb hX hbl hbA hS hL hi (by decide) rfl dL_law_358 ?_
  refine q_V (As := [.int (xs (i + 1)), .int (xs (i + 2))]) (rest := [.int r]) (C := RX8) (T0 := TX8) (N0 := 14) (ci := 7) hx hb hml hown hts hl.1 (kX8_of l D E c1 h2) zNo_mv (cwV 2 hts gL_law_X8_of rfl rfl rfl (by decide +kernel) ⟨Nat.le_of_ble_eq_true rfl, Nat.le_of_ble_eq_true rfl⟩) 0 rfl rfl (hP.sub (ws' := wMod E c1 M) [38, 39, 40, 41, 42, 43, 44, 45, 46] rfl) hK trivial rfl rfl (Nat.le_of_ble_eq_true rfl) dL_law_359 ⟨by show cells + 0 ≤ 600000; omega, by show slots + 0 ≤ 7302250; omega⟩ ?_
  refine lv_icmp_eq (tgt := 865) hx hb dL_law_362 (by decide) (fun _ => ?_) (fun c9 => absurd rfl c9)
  exact cont a c1 Q M _ _ _ (cells) (slots) (by omega) (by omega) hI hP hD hS hl

set_option maxRecDepth 100000 in
set_option maxHeartbeats 4000000 in
theorem law_c7 {p : Program} {e : Env} {s : State} {m : MethodId} {below : List Frame} {meth : Method} {c : Code} {l : Launch} {b L : Nat} {xs : Nat → Int32} {I : (Nat → FS) → FS → Prop} (hc : Coup I) (C0 : CL p s m meth c b L xs) {D : va_G} {E : Nat → ClassId} (hK : va_K D vwCl (tyE E) s) {t : Nat → Nat} (hZ : zSA t s) {i : Nat} (hi : i + 6 ≤ L) {a c1 : Nat → Nat} {Q : Nat → FS} {M : FS} {H : Heap} {locs : List Loc} {ls : Array Slot} {cells slots : Nat} (hcs : cells + 1 ≤ 600000) (hcs2 : slots + 4 ≤ 7302250) (hI : I Q M) (hP : va_P D vwCl ((wQ E a Q) ++ (wMod E c1 M)) H) (hD : va_D (fun q : Nat => s.heap.size ≤ q) ((wQ E a Q) ++ (wMod E c1 M))) (hS : va_S (fun q : Nat => s.heap.size ≤ q) s.heap H locs) (hl : lv_has ls 4 [(0, .ref b), (1, .ref (a 0)), (2, .ref (c1 0)), (3, .int (nI i))])
    (cont : LCont p l e s m below meth c D E I b i a c1 cells slots) : WL p l e s m below meth c b H locs cells slots 367 ls [] := by
  obtain ⟨hx, hb, hr, hml, hown, hts, hX, hbl, hL, hlocks⟩ := C0
  have hA : ∀ q : Nat, s.heap.size ≤ q → (fun q : Nat => s.heap.size ≤ q) q := fun _ h => h
  have hbA : ¬ (fun q : Nat => s.heap.size ≤ q) b := Nat.not_le.mpr hbl
  obtain ⟨r, h1, h2⟩ := hc.2.2.2.2.2.2.2.1 Q M (xs (i + 1)) (xs (i + 2)) hI
  refine lv_aload_n hx hb dL_law_367 rfl (lv_at hl 1 rfl) ?_
  refine lv_aload_n hx hb dL_law_368 rfl (lv_at hl 0 rfl) ?_
  refine lv_iload_n hx hb dL_law_369 rfl (lv_at hl 3 rfl) ?_
  refine lv_iconst (v := 1) hx hb dL_law_370 (by decide) ?_
  refine lv_iadd hx hb dL_law_371 ?_
  refine l_ld (k := 1) hx hb hX hbl hbA hS hL hi (by decide) rfl dL_law_372 ?_
  refine lv_aload_n hx hb dL_law_373 rfl (lv_at hl 0 rfl) ?_
  refine lv_iload_n hx hb dL_law_374 rfl (lv_at hl 3 rfl) ?_
  refine lv_iconst (v := 2) hx hb dL_law_375 (by decide) ?_
  refine lv_iadd hx hb dL_law_376 ?_
  refine l_ld (k := 2) hx hb hX hbl hbA hS hL hi (by decide) rfl dL_law_377 ?_
  refine q_V (As := [.int (xs (i + 1)), .int (xs (i + 2))]) (rest := []) (C := RX7) (T0 := TX7) (N0 := 4) (ci := 6) hx hb hml hown hts hl.1 (kX7_leafAt l D E a h1) zNo_mv (cwV 2 hts gL_law_X7_leafAt rfl rfl rfl (by decide +kernel) ⟨Nat.le_of_ble_eq_true rfl, Nat.le_of_ble_eq_true rfl⟩) 0 rfl rfl (hP.sub (ws' := wQ E a Q) [0, 1, 2, 3, 4, 5, 6, 7, 8, 9, 10, 11, 12, 13, 14, 15, 16, 17, 18, 19, 20, 21, 22, 23, 24, 25, 26, 27, 28, 29, 30, 31, 32, 33, 34, 35, 36, 37] rfl) hK trivial rfl rfl (Nat.le_of_ble_eq_true rfl) dL_law_378 ⟨by show cells + 0 ≤ 600000; omega, by show slots + 0 ≤ 7302250; omega⟩ ?_
  refine lv_aload_n hx hb dL_law_381 rfl (lv_at hl 2 rfl) ?_
  refine lv_aload_n hx hb dL_law_382 rfl (lv_at hl 0 rfl) ?_
  refine lv_iload_n hx hb dL_law_383 rfl (lv_at hl 3 rfl) ?_
  refine lv_iconst (v := 1) hx hb dL_law_384 (by decide) ?_
  refine lv_iadd hx hb dL_law_385 ?_
  refine l_ld (k := 1) hx hb hX hbl hbA hS hL hi (by decide) rfl dL_law_386 ?_
  refine lv_aload_n hx hb dL_law_387 rfl (lv_at hl 0 rfl) ?_
  refine lv_iload_n hx hb dL_law_388 rfl (lv_at hl 3 rfl) ?_
  refine lv_iconst (v := 2) hx hb dL_law_389 (by decide) ?_
  refine lv_iadd hx hb dL_law_390 ?_
  refine l_ld (k := 2) hx hb hX hbl hbA hS hL hi (by decide) rfl dL_law_391 ?_
  refine q_V (As := [.int (xs (i + 1)), .int (xs (i + 2))]) (rest := [.int r]) (C := RX8) (T0 := TX8) (N0 := 14) (ci := 7) hx hb hml hown hts hl.1 (kX8_leafAt l D E c1 h2) zNo_mv (cwV 2 hts gL_law_X8_leafAt rfl rfl rfl (by decide +kernel) ⟨Nat.le_of_ble_eq_true rfl, Nat.le_of_ble_eq_true rfl⟩) 0 rfl rfl (hP.sub (ws' := wMod E c1 M) [38, 39, 40, 41, 42, 43, 44, 45, 46] rfl) hK trivial rfl rfl (Nat.le_of_ble_eq_true rfl) dL_law_392 ⟨by show cells + 0 ≤ 600000; omega, by show slots + 0 ≤ 7302250; omega⟩ ?_
  refine lv_icmp_eq (tgt := 865) hx hb dL_law_395 (by decide) (fun _ => ?_) (fun c9 => absurd rfl c9)
  exact cont a c1 Q M _ _ _ (cells) (slots) (by omega) (by omega) hI hP hD hS hl

set_option maxRecDepth 100000 in
set_option maxHeartbeats 4000000 in
theorem law_c8 {p : Program} {e : Env} {s : State} {m : MethodId} {below : List Frame} {meth : Method} {c : Code} {l : Launch} {b L : Nat} {xs : Nat → Int32} {I : (Nat → FS) → FS → Prop} (hc : Coup I) (C0 : CL p s m meth c b L xs) {D : va_G} {E : Nat → ClassId} (hK : va_K D vwCl (tyE E) s) {t : Nat → Nat} (hZ : zSA t s) {i : Nat} (hi : i + 6 ≤ L) {a c1 : Nat → Nat} {Q : Nat → FS} {M : FS} {H : Heap} {locs : List Loc} {ls : Array Slot} {cells slots : Nat} (hcs : cells + 1 ≤ 600000) (hcs2 : slots + 4 ≤ 7302250) (hI : I Q M) (hP : va_P D vwCl ((wQ E a Q) ++ (wMod E c1 M)) H) (hD : va_D (fun q : Nat => s.heap.size ≤ q) ((wQ E a Q) ++ (wMod E c1 M))) (hS : va_S (fun q : Nat => s.heap.size ≤ q) s.heap H locs) (hl : lv_has ls 4 [(0, .ref b), (1, .ref (a 0)), (2, .ref (c1 0)), (3, .int (nI i))])
    (cont : LCont p l e s m below meth c D E I b i a c1 cells slots) : WL p l e s m below meth c b H locs cells slots 400 ls [] := by
  obtain ⟨hx, hb, hr, hml, hown, hts, hX, hbl, hL, hlocks⟩ := C0
  have hA : ∀ q : Nat, s.heap.size ≤ q → (fun q : Nat => s.heap.size ≤ q) q := fun _ h => h
  have hbA : ¬ (fun q : Nat => s.heap.size ≤ q) b := Nat.not_le.mpr hbl
  obtain ⟨r, h1, h2⟩ := hc.2.2.2.2.2.2.2.2.1 Q M (xs (i + 1)) (xs (i + 2)) hI
  refine lv_aload_n hx hb dL_law_400 rfl (lv_at hl 1 rfl) ?_
  refine lv_aload_n hx hb dL_law_401 rfl (lv_at hl 0 rfl) ?_
  refine lv_iload_n hx hb dL_law_402 rfl (lv_at hl 3 rfl) ?_
  refine lv_iconst (v := 1) hx hb dL_law_403 (by decide) ?_
  refine lv_iadd hx hb dL_law_404 ?_
  refine l_ld (k := 1) hx hb hX hbl hbA hS hL hi (by decide) rfl dL_law_405 ?_
  refine lv_aload_n hx hb dL_law_406 rfl (lv_at hl 0 rfl) ?_
  refine lv_iload_n hx hb dL_law_407 rfl (lv_at hl 3 rfl) ?_
  refine lv_iconst (v := 2) hx hb dL_law_408 (by decide) ?_
  refine lv_iadd hx hb dL_law_409 ?_
  refine l_ld (k := 2) hx hb hX hbl hbA hS hL hi (by decide) rfl dL_law_410 ?_
  refine q_V (As := [.int (xs (i + 1)), .int (xs (i + 2))]) (rest := []) (C := RX7) (T0 := TX7) (N0 := 4) (ci := 6) hx hb hml hown hts hl.1 (kX7_tile l D E t a h1) zSt_mv (cwV 2 hts gL_law_X7_tile rfl rfl rfl (by decide +kernel) ⟨Nat.le_of_ble_eq_true rfl, Nat.le_of_ble_eq_true rfl⟩) 0 rfl rfl (hP.sub (ws' := wQ E a Q) [0, 1, 2, 3, 4, 5, 6, 7, 8, 9, 10, 11, 12, 13, 14, 15, 16, 17, 18, 19, 20, 21, 22, 23, 24, 25, 26, 27, 28, 29, 30, 31, 32, 33, 34, 35, 36, 37] rfl) hK (zSA_now hZ hS) rfl rfl (Nat.le_of_ble_eq_true rfl) dL_law_411 ⟨by show cells + 0 ≤ 600000; omega, by show slots + 0 ≤ 7302250; omega⟩ ?_
  refine lv_aload_n hx hb dL_law_414 rfl (lv_at hl 2 rfl) ?_
  refine lv_aload_n hx hb dL_law_415 rfl (lv_at hl 0 rfl) ?_
  refine lv_iload_n hx hb dL_law_416 rfl (lv_at hl 3 rfl) ?_
  refine lv_iconst (v := 1) hx hb dL_law_417 (by decide) ?_
  refine lv_iadd hx hb dL_law_418 ?_
  refine l_ld (k := 1) hx hb hX hbl hbA hS hL hi (by decide) rfl dL_law_419 ?_
  refine lv_aload_n hx hb dL_law_420 rfl (lv_at hl 0 rfl) ?_
  refine lv_iload_n hx hb dL_law_421 rfl (lv_at hl 3 rfl) ?_
  refine lv_iconst (v := 2) hx hb dL_law_422 (by decide) ?_
  refine lv_iadd hx hb dL_law_423 ?_
  refine l_ld (k := 2) hx hb hX hbl hbA hS hL hi (by decide) rfl dL_law_424 ?_
  refine q_V (As := [.int (xs (i + 1)), .int (xs (i + 2))]) (rest := [.int r]) (C := RX8) (T0 := TX8) (N0 := 14) (ci := 7) hx hb hml hown hts hl.1 (kX8_tile l D E c1 h2) zNo_mv (cwV 2 hts gL_law_X8_tile rfl rfl rfl (by decide +kernel) ⟨Nat.le_of_ble_eq_true rfl, Nat.le_of_ble_eq_true rfl⟩) 0 rfl rfl (hP.sub (ws' := wMod E c1 M) [38, 39, 40, 41, 42, 43, 44, 45, 46] rfl) hK trivial rfl rfl (Nat.le_of_ble_eq_true rfl) dL_law_425 ⟨by show cells + 0 ≤ 600000; omega, by show slots + 0 ≤ 7302250; omega⟩ ?_
  refine lv_icmp_eq (tgt := 865) hx hb dL_law_428 (by decide) (fun _ => ?_) (fun c9 => absurd rfl c9)
  exact cont a c1 Q M _ _ _ (cells) (slots) (by omega) (by omega) hI hP hD hS hl

set_option maxRecDepth 100000 in
set_option maxHeartbeats 4000000 in
theorem law_c9 {p : Program} {e : Env} {s : State} {m : MethodId} {below : List Frame} {meth : Method} {c : Code} {l : Launch} {b L : Nat} {xs : Nat → Int32} {I : (Nat → FS) → FS → Prop} (hc : Coup I) (C0 : CL p s m meth c b L xs) {D : va_G} {E : Nat → ClassId} (hK : va_K D vwCl (tyE E) s) {t : Nat → Nat} (hZ : zSA t s) {i : Nat} (hi : i + 6 ≤ L) {a c1 : Nat → Nat} {Q : Nat → FS} {M : FS} {H : Heap} {locs : List Loc} {ls : Array Slot} {cells slots : Nat} (hcs : cells + 1 ≤ 600000) (hcs2 : slots + 4 ≤ 7302250) (hI : I Q M) (hP : va_P D vwCl ((wQ E a Q) ++ (wMod E c1 M)) H) (hD : va_D (fun q : Nat => s.heap.size ≤ q) ((wQ E a Q) ++ (wMod E c1 M))) (hS : va_S (fun q : Nat => s.heap.size ≤ q) s.heap H locs) (hl : lv_has ls 4 [(0, .ref b), (1, .ref (a 0)), (2, .ref (c1 0)), (3, .int (nI i))])
    (cont : LCont p l e s m below meth c D E I b i a c1 cells slots) : WL p l e s m below meth c b H locs cells slots 433 ls [] := by
  obtain ⟨hx, hb, hr, hml, hown, hts, hX, hbl, hL, hlocks⟩ := C0
  have hA : ∀ q : Nat, s.heap.size ≤ q → (fun q : Nat => s.heap.size ≤ q) q := fun _ h => h
  have hbA : ¬ (fun q : Nat => s.heap.size ≤ q) b := Nat.not_le.mpr hbl
  obtain ⟨r, h1, h2⟩ := hc.2.2.2.2.2.2.2.2.2.1 Q M (xs (i + 1)) (xs (i + 2)) hI
  refine lv_aload_n hx hb dL_law_433 rfl (lv_at hl 1 rfl) ?_
  refine lv_aload_n hx hb dL_law_434 rfl (lv_at hl 0 rfl) ?_
  refine lv_iload_n hx hb dL_law_435 rfl (lv_at hl 3 rfl) ?_
  refine lv_iconst (v := 1) hx hb dL_law_436 (by decide) ?_
  refine lv_iadd hx hb dL_law_437 ?_
  refine l_ld (k := 1) hx hb hX hbl hbA hS hL hi (by decide) rfl dL_law_438 ?_
  refine lv_aload_n hx hb dL_law_439 rfl (lv_at hl 0 rfl) ?_
  refine lv_iload_n hx hb dL_law_440 rfl (lv_at hl 3 rfl) ?_
  refine lv_iconst (v := 2) hx hb dL_law_441 (by decide) ?_
  refine lv_iadd hx hb dL_law_442 ?_
  refine l_ld (k := 2) hx hb hX hbl hbA hS hL hi (by decide) rfl dL_law_443 ?_
  refine q_V (As := [.int (xs (i + 1)), .int (xs (i + 2))]) (rest := []) (C := RX7) (T0 := TX7) (N0 := 4) (ci := 6) hx hb hml hown hts hl.1 (kX7_letter l D E a h1) zNo_mv (cwV 2 hts gL_law_X7_letter rfl rfl rfl (by decide +kernel) ⟨Nat.le_of_ble_eq_true rfl, Nat.le_of_ble_eq_true rfl⟩) 0 rfl rfl (hP.sub (ws' := wQ E a Q) [0, 1, 2, 3, 4, 5, 6, 7, 8, 9, 10, 11, 12, 13, 14, 15, 16, 17, 18, 19, 20, 21, 22, 23, 24, 25, 26, 27, 28, 29, 30, 31, 32, 33, 34, 35, 36, 37] rfl) hK trivial rfl rfl (Nat.le_of_ble_eq_true rfl) dL_law_444 ⟨by show cells + 0 ≤ 600000; omega, by show slots + 0 ≤ 7302250; omega⟩ ?_
  refine lv_aload_n hx hb dL_law_447 rfl (lv_at hl 2 rfl) ?_
  refine lv_aload_n hx hb dL_law_448 rfl (lv_at hl 0 rfl) ?_
  refine lv_iload_n hx hb dL_law_449 rfl (lv_at hl 3 rfl) ?_
  refine lv_iconst (v := 1) hx hb dL_law_450 (by decide) ?_
  refine lv_iadd hx hb dL_law_451 ?_
  refine l_ld (k := 1) hx hb hX hbl hbA hS hL hi (by decide) rfl dL_law_452 ?_
  refine lv_aload_n hx hb dL_law_453 rfl (lv_at hl 0 rfl) ?_
  refine lv_iload_n hx hb dL_law_454 rfl (lv_at hl 3 rfl) ?_
  refine lv_iconst (v := 2) hx hb dL_law_455 (by decide) ?_
  refine lv_iadd hx hb dL_law_456 ?_
  refine l_ld (k := 2) hx hb hX hbl hbA hS hL hi (by decide) rfl dL_law_457 ?_
  refine q_V (As := [.int (xs (i + 1)), .int (xs (i + 2))]) (rest := [.int r]) (C := RX8) (T0 := TX8) (N0 := 14) (ci := 7) hx hb hml hown hts hl.1 (kX8_letter l D E c1 h2) zNo_mv (cwV 2 hts gL_law_X8_letter rfl rfl rfl (by decide +kernel) ⟨Nat.le_of_ble_eq_true rfl, Nat.le_of_ble_eq_true rfl⟩) 0 rfl rfl (hP.sub (ws' := wMod E c1 M) [38, 39, 40, 41, 42, 43, 44, 45, 46] rfl) hK trivial rfl rfl (Nat.le_of_ble_eq_true rfl) dL_law_458 ⟨by show cells + 0 ≤ 600000; omega, by show slots + 0 ≤ 7302250; omega⟩ ?_
  refine lv_icmp_eq (tgt := 865) hx hb dL_law_461 (by decide) (fun _ => ?_) (fun c9 => absurd rfl c9)
  exact cont a c1 Q M _ _ _ (cells) (slots) (by omega) (by omega) hI hP hD hS hl

set_option maxRecDepth 100000 in
set_option maxHeartbeats 4000000 in
theorem law_c10 {p : Program} {e : Env} {s : State} {m : MethodId} {below : List Frame} {meth : Method} {c : Code} {l : Launch} {b L : Nat} {xs : Nat → Int32} {I : (Nat → FS) → FS → Prop} (hc : Coup I) (C0 : CL p s m meth c b L xs) {D : va_G} {E : Nat → ClassId} (hK : va_K D vwCl (tyE E) s) {t : Nat → Nat} (hZ : zSA t s) {i : Nat} (hi : i + 6 ≤ L) {a c1 : Nat → Nat} {Q : Nat → FS} {M : FS} {H : Heap} {locs : List Loc} {ls : Array Slot} {cells slots : Nat} (hcs : cells + 1 ≤ 600000) (hcs2 : slots + 4 ≤ 7302250) (hI : I Q M) (hP : va_P D vwCl ((wQ E a Q) ++ (wMod E c1 M)) H) (hD : va_D (fun q : Nat => s.heap.size ≤ q) ((wQ E a Q) ++ (wMod E c1 M))) (hS : va_S (fun q : Nat => s.heap.size ≤ q) s.heap H locs) (hl : lv_has ls 4 [(0, .ref b), (1, .ref (a 0)), (2, .ref (c1 0)), (3, .int (nI i))])
    (cont : LCont p l e s m below meth c D E I b i a c1 cells slots) : WL p l e s m below meth c b H locs cells slots 466 ls [] := by
  obtain ⟨hx, hb, hr, hml, hown, hts, hX, hbl, hL, hlocks⟩ := C0
  have hA : ∀ q : Nat, s.heap.size ≤ q → (fun q : Nat => s.heap.size ≤ q) q := fun _ h => h
  have hbA : ¬ (fun q : Nat => s.heap.size ≤ q) b := Nat.not_le.mpr hbl
  obtain ⟨r, h1, h2⟩ := hc.2.2.2.2.2.2.2.2.2.2.1 Q M (xs (i + 1)) (xs (i + 2)) (xs (i + 3)) hI
  refine lv_aload_n hx hb dL_law_466 rfl (lv_at hl 1 rfl) ?_
  refine lv_aload_n hx hb dL_law_467 rfl (lv_at hl 0 rfl) ?_
  refine lv_iload_n hx hb dL_law_468 rfl (lv_at hl 3 rfl) ?_
  refine lv_iconst (v := 1) hx hb dL_law_469 (by decide) ?_
  refine lv_iadd hx hb dL_law_470 ?_
  refine l_ld (k := 1) hx hb hX hbl hbA hS hL hi (by decide) rfl dL_law_471 ?_
  refine lv_aload_n hx hb dL_law_472 rfl (lv_at hl 0 rfl) ?_
  refine lv_iload_n hx hb dL_law_473 rfl (lv_at hl 3 rfl) ?_
  refine lv_iconst (v := 2) hx hb dL_law_474 (by decide) ?_
  refine lv_iadd hx hb dL_law_475 ?_
  refine l_ld (k := 2) hx hb hX hbl hbA hS hL hi (by decide) rfl dL_law_476 ?_
  refine lv_aload_n hx hb dL_law_477 rfl (lv_at hl 0 rfl) ?_
  refine lv_iload_n hx hb dL_law_478 rfl (lv_at hl 3 rfl) ?_
  refine lv_iconst (v := 3) hx hb dL_law_479 (by decide) ?_
  refine lv_iadd hx hb dL_law_480 ?_
  refine l_ld (k := 3) hx hb hX hbl hbA hS hL hi (by decide) rfl dL_law_481 ?_
  refine q_V (As := [.int (xs (i + 1)), .int (xs (i + 2)), .int (xs (i + 3))]) (rest := []) (C := RX7) (T0 := TX7) (N0 := 4) (ci := 6) hx hb hml hown hts hl.1 (kX7_beside l D E t a h1) zSt_mv (cwV 3 hts gL_law_X7_beside rfl rfl rfl (by decide +kernel) ⟨Nat.le_of_ble_eq_true rfl, Nat.le_of_ble_eq_true rfl⟩) 0 rfl rfl (hP.sub (ws' := wQ E a Q) [0, 1, 2, 3, 4, 5, 6, 7, 8, 9, 10, 11, 12, 13, 14, 15, 16, 17, 18, 19, 20, 21, 22, 23, 24, 25, 26, 27, 28, 29, 30, 31, 32, 33, 34, 35, 36, 37] rfl) hK (zSA_now hZ hS) rfl rfl (Nat.le_of_ble_eq_true rfl) dL_law_482 ⟨by show cells + 0 ≤ 600000; omega, by show slots + 0 ≤ 7302250; omega⟩ ?_
  refine lv_aload_n hx hb dL_law_485 rfl (lv_at hl 2 rfl) ?_
  refine lv_aload_n hx hb dL_law_486 rfl (lv_at hl 0 rfl) ?_
  refine lv_iload_n hx hb dL_law_487 rfl (lv_at hl 3 rfl) ?_
  refine lv_iconst (v := 1) hx hb dL_law_488 (by decide) ?_
  refine lv_iadd hx hb dL_law_489 ?_
  refine l_ld (k := 1) hx hb hX hbl hbA hS hL hi (by decide) rfl dL_law_490 ?_
  refine lv_aload_n hx hb dL_law_491 rfl (lv_at hl 0 rfl) ?_
  refine lv_iload_n hx hb dL_law_492 rfl (lv_at hl 3 rfl) ?_
  refine lv_iconst (v := 2) hx hb dL_law_493 (by decide) ?_
  refine lv_iadd hx hb dL_law_494 ?_
  refine l_ld (k := 2) hx hb hX hbl hbA hS hL hi (by decide) rfl dL_law_495 ?_
  refine lv_aload_n hx hb dL_law_496 rfl (lv_at hl 0 rfl) ?_
  refine lv_iload_n hx hb dL_law_497 rfl (lv_at hl 3 rfl) ?_
  refine lv_iconst (v := 3) hx hb dL_law_498 (by decide) ?_
  refine lv_iadd hx hb dL_law_499 ?_
  refine l_ld (k := 3) hx hb hX hbl hbA hS hL hi (by decide) rfl dL_law_500 ?_
  refine q_V (As := [.int (xs (i + 1)), .int (xs (i + 2)), .int (xs (i + 3))]) (rest := [.int r]) (C := RX8) (T0 := TX8) (N0 := 14) (ci := 7) hx hb hml hown hts hl.1 (kX8_beside l D E c1 h2) zNo_mv (cwV 3 hts gL_law_X8_beside rfl rfl rfl (by decide +kernel) ⟨Nat.le_of_ble_eq_true rfl, Nat.le_of_ble_eq_true rfl⟩) 0 rfl rfl (hP.sub (ws' := wMod E c1 M) [38, 39, 40, 41, 42, 43, 44, 45, 46] rfl) hK trivial rfl rfl (Nat.le_of_ble_eq_true rfl) dL_law_501 ⟨by show cells + 0 ≤ 600000; omega, by show slots + 0 ≤ 7302250; omega⟩ ?_
  refine lv_icmp_eq (tgt := 865) hx hb dL_law_504 (by decide) (fun _ => ?_) (fun c9 => absurd rfl c9)
  exact cont a c1 Q M _ _ _ (cells) (slots) (by omega) (by omega) hI hP hD hS hl

set_option maxRecDepth 100000 in
set_option maxHeartbeats 4000000 in
theorem law_c11 {p : Program} {e : Env} {s : State} {m : MethodId} {below : List Frame} {meth : Method} {c : Code} {l : Launch} {b L : Nat} {xs : Nat → Int32} {I : (Nat → FS) → FS → Prop} (hc : Coup I) (C0 : CL p s m meth c b L xs) {D : va_G} {E : Nat → ClassId} (hK : va_K D vwCl (tyE E) s) {t : Nat → Nat} (hZ : zSA t s) {i : Nat} (hi : i + 6 ≤ L) {a c1 : Nat → Nat} {Q : Nat → FS} {M : FS} {H : Heap} {locs : List Loc} {ls : Array Slot} {cells slots : Nat} (hcs : cells + 1 ≤ 600000) (hcs2 : slots + 4 ≤ 7302250) (hI : I Q M) (hP : va_P D vwCl ((wQ E a Q) ++ (wMod E c1 M)) H) (hD : va_D (fun q : Nat => s.heap.size ≤ q) ((wQ E a Q) ++ (wMod E c1 M))) (hS : va_S (fun q : Nat => s.heap.size ≤ q) s.heap H locs) (hl : lv_has ls 4 [(0, .ref b), (1, .ref (a 0)), (2, .ref (c1 0)), (3, .int (nI i))])
    (cont : LCont p l e s m below meth c D E I b i a c1 cells slots) : WL p l e s m below meth c b H locs cells slots 509 ls [] := by
  obtain ⟨hx, hb, hr, hml, hown, hts, hX, hbl, hL, hlocks⟩ := C0
  have hA : ∀ q : Nat, s.heap.size ≤ q → (fun q : Nat => s.heap.size ≤ q) q := fun _ h => h
  have hbA : ¬ (fun q : Nat => s.heap.size ≤ q) b := Nat.not_le.mpr hbl
  obtain ⟨r, M1, h1, h2, hI1⟩ := hc.2.2.2.2.2.2.2.2.2.2.2.1 Q M (xs (i + 1)) hI
  refine lv_aload_n hx hb dL_law_509 rfl (lv_at hl 1 rfl) ?_
  refine lv_aload_n hx hb dL_law_510 rfl (lv_at hl 0 rfl) ?_
  refine lv_iload_n hx hb dL_law_511 rfl (lv_at hl 3 rfl) ?_
  refine lv_iconst (v := 1) hx hb dL_law_512 (by decide) ?_
  refine lv_iadd hx hb dL_law_513 ?_
  refine l_ld (k := 1) hx hb hX hbl hbA hS hL hi (by decide) rfl dL_law_514 ?_
  refine q_V (As := [.int (xs (i + 1))]) (rest := []) (C := RX7) (T0 := TX7) (N0 := 4) (ci := 6) hx hb hml hown hts hl.1 (kX7_neighbours l D E t a h1) zSt_mv (cwV 1 hts gL_law_X7_neighbours rfl rfl rfl (by decide +kernel) ⟨Nat.le_of_ble_eq_true rfl, Nat.le_of_ble_eq_true rfl⟩) 0 rfl rfl (hP.sub (ws' := wQ E a Q) [0, 1, 2, 3, 4, 5, 6, 7, 8, 9, 10, 11, 12, 13, 14, 15, 16, 17, 18, 19, 20, 21, 22, 23, 24, 25, 26, 27, 28, 29, 30, 31, 32, 33, 34, 35, 36, 37] rfl) hK (zSA_now hZ hS) rfl rfl (Nat.le_of_ble_eq_true rfl) dL_law_515 ⟨by show cells + 0 ≤ 600000; omega, by show slots + 0 ≤ 7302250; omega⟩ ?_
  refine lv_aload_n hx hb dL_law_518 rfl (lv_at hl 2 rfl) ?_
  refine lv_aload_n hx hb dL_law_519 rfl (lv_at hl 0 rfl) ?_
  refine lv_iload_n hx hb dL_law_520 rfl (lv_at hl 3 rfl) ?_
  refine lv_iconst (v := 1) hx hb dL_law_521 (by decide) ?_
  refine lv_iadd hx hb dL_law_522 ?_
  refine l_ld (k := 1) hx hb hX hbl hbA hS hL hi (by decide) rfl dL_law_523 ?_
  refine m_VI (As := [.int (xs (i + 1))]) (rest := [.int r]) (C := RX8) (T0 := TX8) (N0 := 14) (ci := 7) (Wn := (fun _ : Unit => (wQ E a Q) ++ (wMod E c1 M1))) (Wr := [((a 0), .inr (6, [.ref (a 1), .ref (a 6), .ref (a 26), .ref (a 35)])), ((a 1), .inr (4, [.ref (a 3), .ref (a 2)])), aI E (a 2) 8192 ((Q 0) 3), ((a 3), .inr (2, [.ref (a 4), .ref (a 5), .int ((Q 0) 2 0), .int ((Q 0) 2 1), .int ((Q 0) 2 2), .int ((Q 0) 2 3)])), aI E (a 4) 50 ((Q 0) 0), aI E (a 5) 12 ((Q 0) 1), ((a 6), .inr (0, [.ref (a 7), .int (Q 2 0 0)])), aP E (a 7) 6 (fH (a 8) (a 11) (a 14) (a 17) (a 20) (a 23)), ((a 8), .inr (2, [.ref (a 9), .ref (a 10), .int ((Q 3) 2 0), .int ((Q 3) 2 1), .int ((Q 3) 2 2), .int ((Q 3) 2 3)])), aI E (a 9) 50 ((Q 3) 0), aI E (a 10) 12 ((Q 3) 1), ((a 11), .inr (2, [.ref (a 12), .ref (a 13), .int ((Q 4) 2 0), .int ((Q 4) 2 1), .int ((Q 4) 2 2), .int ((Q 4) 2 3)])), aI E (a 12) 50 ((Q 4) 0), aI E (a 13) 12 ((Q 4) 1), ((a 14), .inr (2, [.ref (a 15), .ref (a 16), .int ((Q 5) 2 0), .int ((Q 5) 2 1), .int ((Q 5) 2 2), .int ((Q 5) 2 3)])), aI E (a 15) 50 ((Q 5) 0), aI E (a 16) 12 ((Q 5) 1), ((a 17), .inr (2, [.ref (a 18), .ref (a 19), .int ((Q 6) 2 0), .int ((Q 6) 2 1), .int ((Q 6) 2 2), .int ((Q 6) 2 3)])), aI E (a 18) 50 ((Q 6) 0), aI E (a 19) 12 ((Q 6) 1), ((a 20), .inr (2, [.ref (a 21), .ref (a 22), .int ((Q 7) 2 0), .int ((Q 7) 2 1), .int ((Q 7) 2 2), .int ((Q 7) 2 3)])), aI E (a 21) 50 ((Q 7) 0), aI E (a 22) 12 ((Q 7) 1), ((a 23), .inr (2, [.ref (a 24), .ref (a 25), .int ((Q 8) 2 0), .int ((Q 8) 2 1), .int ((Q 8) 2 2), .int ((Q 8) 2 3)])), aI E (a 24) 50 ((Q 8) 0), aI E (a 25) 12 ((Q 8) 1), ((a 26), .inr (3, [.ref (a 27), .ref (a 28)])), aP E (a 27) 2 (fS (a 29) (a 32)), aZ E (a 28) 2 (Q 2 1), ((a 29), .inr (2, [.ref (a 30), .ref (a 31), .int ((Q 9) 2 0), .int ((Q 9) 2 1), .int ((Q 9) 2 2), .int ((Q 9) 2 3)])), aI E (a 30) 50 ((Q 9) 0), aI E (a 31) 12 ((Q 9) 1), ((a 32), .inr (2, [.ref (a 33), .ref (a 34), .int ((Q 10) 2 0), .int ((Q 10) 2 1), .int ((Q 10) 2 2), .int ((Q 10) 2 3)])), aI E (a 33) 50 ((Q 10) 0), aI E (a 34) 12 ((Q 10) 1), ((a 35), .inr (1, [.ref (a 36), .ref (a 37), .int ((Q 1) 2 0)])), aI E (a 36) 80 ((Q 1) 0), aI E (a 37) 20 ((Q 1) 1)]) hx hb hml hown hts hl.1 (kX8_neighbours l D E c1 H.size h2) (cwV 1 hts gL_law_X8_neighbours rfl rfl rfl (by decide +kernel) ⟨Nat.le_of_ble_eq_true rfl, Nat.le_of_ble_eq_true rfl⟩) 0 rfl rfl hP hD hS hA hK [38, 39, 40, 41, 42, 43, 44, 45, 46] [0, 1, 2, 3, 4, 5, 6, 7, 8, 9, 10, 11, 12, 13, 14, 15, 16, 17, 18, 19, 20, 21, 22, 23, 24, 25, 26, 27, 28, 29, 30, 31, 32, 33, 34, 35, 36, 37] [0, 1, 2, 3, 4, 5, 6, 7, 8, 9, 10, 11, 12, 13, 14, 15, 16, 17, 18, 19, 20, 21, 22, 23, 24, 25, 26, 27, 28, 29, 30, 31, 32, 33, 34, 35, 36, 37, 38, 39, 40, 41, 42, 43, 44, 45, 46] (by decide) rfl rfl (by decide) (by decide) (by decide) (fun _ => rfl) rfl rfl (Nat.le_of_ble_eq_true rfl) dL_law_524 ⟨by show cells + 0 ≤ 600000; omega, by show slots + 0 ≤ 7302250; omega⟩ (fun _ H locs hP hD hS => ?_)
  refine lv_icmp_eq (tgt := 865) hx hb dL_law_527 (by decide) (fun _ => ?_) (fun c9 => absurd rfl c9)
  exact cont a c1 Q M1 _ _ _ (cells + 0) (slots + 0) (by omega) (by omega) hI1 hP hD hS hl

set_option maxRecDepth 100000 in
set_option maxHeartbeats 4000000 in
theorem law_c12 {p : Program} {e : Env} {s : State} {m : MethodId} {below : List Frame} {meth : Method} {c : Code} {l : Launch} {b L : Nat} {xs : Nat → Int32} {I : (Nat → FS) → FS → Prop} (hc : Coup I) (C0 : CL p s m meth c b L xs) {D : va_G} {E : Nat → ClassId} (hK : va_K D vwCl (tyE E) s) {t : Nat → Nat} (hZ : zSA t s) {i : Nat} (hi : i + 6 ≤ L) {a c1 : Nat → Nat} {Q : Nat → FS} {M : FS} {H : Heap} {locs : List Loc} {ls : Array Slot} {cells slots : Nat} (hcs : cells + 1 ≤ 600000) (hcs2 : slots + 4 ≤ 7302250) (hI : I Q M) (hP : va_P D vwCl ((wQ E a Q) ++ (wMod E c1 M)) H) (hD : va_D (fun q : Nat => s.heap.size ≤ q) ((wQ E a Q) ++ (wMod E c1 M))) (hS : va_S (fun q : Nat => s.heap.size ≤ q) s.heap H locs) (hl : lv_has ls 4 [(0, .ref b), (1, .ref (a 0)), (2, .ref (c1 0)), (3, .int (nI i))])
    (cont : LCont p l e s m below meth c D E I b i a c1 cells slots) : WL p l e s m below meth c b H locs cells slots 532 ls [] := by
  obtain ⟨hx, hb, hr, hml, hown, hts, hX, hbl, hL, hlocks⟩ := C0
  have hA : ∀ q : Nat, s.heap.size ≤ q → (fun q : Nat => s.heap.size ≤ q) q := fun _ h => h
  have hbA : ¬ (fun q : Nat => s.heap.size ≤ q) b := Nat.not_le.mpr hbl
  obtain ⟨r, M1, h1, h2, hI1⟩ := hc.2.2.2.2.2.2.2.2.2.2.2.2.1 Q M (xs (i + 1)) hI
  refine lv_aload_n hx hb dL_law_532 rfl (lv_at hl 1 rfl) ?_
  refine lv_aload_n hx hb dL_law_533 rfl (lv_at hl 0 rfl) ?_
  refine lv_iload_n hx hb dL_law_534 rfl (lv_at hl 3 rfl) ?_
  refine lv_iconst (v := 1) hx hb dL_law_535 (by decide) ?_
  refine lv_iadd hx hb dL_law_536 ?_
  refine l_ld (k := 1) hx hb hX hbl hbA hS hL hi (by decide) rfl dL_law_537 ?_
  refine q_V (As := [.int (xs (i + 1))]) (rest := []) (C := RX7) (T0 := TX7) (N0 := 4) (ci := 6) hx hb hml hown hts hl.1 (kX7_count l D E t a h1) zSt_mv (cwV 1 hts gL_law_X7_count rfl rfl rfl (by decide +kernel) ⟨Nat.le_of_ble_eq_true rfl, Nat.le_of_ble_eq_true rfl⟩) 0 rfl rfl (hP.sub (ws' := wQ E a Q) [0, 1, 2, 3, 4, 5, 6, 7, 8, 9, 10, 11, 12, 13, 14, 15, 16, 17, 18, 19, 20, 21, 22, 23, 24, 25, 26, 27, 28, 29, 30, 31, 32, 33, 34, 35, 36, 37] rfl) hK (zSA_now hZ hS) rfl rfl (Nat.le_of_ble_eq_true rfl) dL_law_538 ⟨by show cells + 0 ≤ 600000; omega, by show slots + 0 ≤ 7302250; omega⟩ ?_
  refine lv_aload_n hx hb dL_law_541 rfl (lv_at hl 2 rfl) ?_
  refine lv_aload_n hx hb dL_law_542 rfl (lv_at hl 0 rfl) ?_
  refine lv_iload_n hx hb dL_law_543 rfl (lv_at hl 3 rfl) ?_
  refine lv_iconst (v := 1) hx hb dL_law_544 (by decide) ?_
  refine lv_iadd hx hb dL_law_545 ?_
  refine l_ld (k := 1) hx hb hX hbl hbA hS hL hi (by decide) rfl dL_law_546 ?_
  refine m_VI (As := [.int (xs (i + 1))]) (rest := [.int r]) (C := RX8) (T0 := TX8) (N0 := 14) (ci := 7) (Wn := (fun _ : Unit => (wQ E a Q) ++ (wMod E c1 M1))) (Wr := [((a 0), .inr (6, [.ref (a 1), .ref (a 6), .ref (a 26), .ref (a 35)])), ((a 1), .inr (4, [.ref (a 3), .ref (a 2)])), aI E (a 2) 8192 ((Q 0) 3), ((a 3), .inr (2, [.ref (a 4), .ref (a 5), .int ((Q 0) 2 0), .int ((Q 0) 2 1), .int ((Q 0) 2 2), .int ((Q 0) 2 3)])), aI E (a 4) 50 ((Q 0) 0), aI E (a 5) 12 ((Q 0) 1), ((a 6), .inr (0, [.ref (a 7), .int (Q 2 0 0)])), aP E (a 7) 6 (fH (a 8) (a 11) (a 14) (a 17) (a 20) (a 23)), ((a 8), .inr (2, [.ref (a 9), .ref (a 10), .int ((Q 3) 2 0), .int ((Q 3) 2 1), .int ((Q 3) 2 2), .int ((Q 3) 2 3)])), aI E (a 9) 50 ((Q 3) 0), aI E (a 10) 12 ((Q 3) 1), ((a 11), .inr (2, [.ref (a 12), .ref (a 13), .int ((Q 4) 2 0), .int ((Q 4) 2 1), .int ((Q 4) 2 2), .int ((Q 4) 2 3)])), aI E (a 12) 50 ((Q 4) 0), aI E (a 13) 12 ((Q 4) 1), ((a 14), .inr (2, [.ref (a 15), .ref (a 16), .int ((Q 5) 2 0), .int ((Q 5) 2 1), .int ((Q 5) 2 2), .int ((Q 5) 2 3)])), aI E (a 15) 50 ((Q 5) 0), aI E (a 16) 12 ((Q 5) 1), ((a 17), .inr (2, [.ref (a 18), .ref (a 19), .int ((Q 6) 2 0), .int ((Q 6) 2 1), .int ((Q 6) 2 2), .int ((Q 6) 2 3)])), aI E (a 18) 50 ((Q 6) 0), aI E (a 19) 12 ((Q 6) 1), ((a 20), .inr (2, [.ref (a 21), .ref (a 22), .int ((Q 7) 2 0), .int ((Q 7) 2 1), .int ((Q 7) 2 2), .int ((Q 7) 2 3)])), aI E (a 21) 50 ((Q 7) 0), aI E (a 22) 12 ((Q 7) 1), ((a 23), .inr (2, [.ref (a 24), .ref (a 25), .int ((Q 8) 2 0), .int ((Q 8) 2 1), .int ((Q 8) 2 2), .int ((Q 8) 2 3)])), aI E (a 24) 50 ((Q 8) 0), aI E (a 25) 12 ((Q 8) 1), ((a 26), .inr (3, [.ref (a 27), .ref (a 28)])), aP E (a 27) 2 (fS (a 29) (a 32)), aZ E (a 28) 2 (Q 2 1), ((a 29), .inr (2, [.ref (a 30), .ref (a 31), .int ((Q 9) 2 0), .int ((Q 9) 2 1), .int ((Q 9) 2 2), .int ((Q 9) 2 3)])), aI E (a 30) 50 ((Q 9) 0), aI E (a 31) 12 ((Q 9) 1), ((a 32), .inr (2, [.ref (a 33), .ref (a 34), .int ((Q 10) 2 0), .int ((Q 10) 2 1), .int ((Q 10) 2 2), .int ((Q 10) 2 3)])), aI E (a 33) 50 ((Q 10) 0), aI E (a 34) 12 ((Q 10) 1), ((a 35), .inr (1, [.ref (a 36), .ref (a 37), .int ((Q 1) 2 0)])), aI E (a 36) 80 ((Q 1) 0), aI E (a 37) 20 ((Q 1) 1)]) hx hb hml hown hts hl.1 (kX8_count l D E c1 H.size h2) (cwV 1 hts gL_law_X8_count rfl rfl rfl (by decide +kernel) ⟨Nat.le_of_ble_eq_true rfl, Nat.le_of_ble_eq_true rfl⟩) 0 rfl rfl hP hD hS hA hK [38, 39, 40, 41, 42, 43, 44, 45, 46] [0, 1, 2, 3, 4, 5, 6, 7, 8, 9, 10, 11, 12, 13, 14, 15, 16, 17, 18, 19, 20, 21, 22, 23, 24, 25, 26, 27, 28, 29, 30, 31, 32, 33, 34, 35, 36, 37] [0, 1, 2, 3, 4, 5, 6, 7, 8, 9, 10, 11, 12, 13, 14, 15, 16, 17, 18, 19, 20, 21, 22, 23, 24, 25, 26, 27, 28, 29, 30, 31, 32, 33, 34, 35, 36, 37, 38, 39, 40, 41, 42, 43, 44, 45, 46] (by decide) rfl rfl (by decide) (by decide) (by decide) (fun _ => rfl) rfl rfl (Nat.le_of_ble_eq_true rfl) dL_law_547 ⟨by show cells + 0 ≤ 600000; omega, by show slots + 0 ≤ 7302250; omega⟩ (fun _ H locs hP hD hS => ?_)
  refine lv_icmp_eq (tgt := 865) hx hb dL_law_550 (by decide) (fun _ => ?_) (fun c9 => absurd rfl c9)
  exact cont a c1 Q M1 _ _ _ (cells + 0) (slots + 0) (by omega) (by omega) hI1 hP hD hS hl

set_option maxRecDepth 100000 in
set_option maxHeartbeats 4000000 in
theorem law_c13 {p : Program} {e : Env} {s : State} {m : MethodId} {below : List Frame} {meth : Method} {c : Code} {l : Launch} {b L : Nat} {xs : Nat → Int32} {I : (Nat → FS) → FS → Prop} (hc : Coup I) (C0 : CL p s m meth c b L xs) {D : va_G} {E : Nat → ClassId} (hK : va_K D vwCl (tyE E) s) {t : Nat → Nat} (hZ : zSA t s) {i : Nat} (hi : i + 6 ≤ L) {a c1 : Nat → Nat} {Q : Nat → FS} {M : FS} {H : Heap} {locs : List Loc} {ls : Array Slot} {cells slots : Nat} (hcs : cells + 1 ≤ 600000) (hcs2 : slots + 4 ≤ 7302250) (hI : I Q M) (hP : va_P D vwCl ((wQ E a Q) ++ (wMod E c1 M)) H) (hD : va_D (fun q : Nat => s.heap.size ≤ q) ((wQ E a Q) ++ (wMod E c1 M))) (hS : va_S (fun q : Nat => s.heap.size ≤ q) s.heap H locs) (hl : lv_has ls 4 [(0, .ref b), (1, .ref (a 0)), (2, .ref (c1 0)), (3, .int (nI i))])
    (cont : LCont p l e s m below meth c D E I b i a c1 cells slots) : WL p l e s m below meth c b H locs cells slots 555 ls [] := by
  obtain ⟨hx, hb, hr, hml, hown, hts, hX, hbl, hL, hlocks⟩ := C0
  have hA : ∀ q : Nat, s.heap.size ≤ q → (fun q : Nat => s.heap.size ≤ q) q := fun _ h => h
  have hbA : ¬ (fun q : Nat => s.heap.size ≤ q) b := Nat.not_le.mpr hbl
  obtain ⟨r, Q1, M1, h1, h2, hI1⟩ := hc.2.2.2.2.2.2.2.2.2.2.2.2.2.1 Q M (xs (i + 1)) (xs (i + 2)) (xs (i + 3)) (xs (i + 4)) (xs (i + 5)) hI
  refine lv_aload_n hx hb dL_law_555 rfl (lv_at hl 1 rfl) ?_
  refine lv_aload_n hx hb dL_law_556 rfl (lv_at hl 0 rfl) ?_
  refine lv_iload_n hx hb dL_law_557 rfl (lv_at hl 3 rfl) ?_
  refine lv_iconst (v := 1) hx hb dL_law_558 (by decide) ?_
  refine lv_iadd hx hb dL_law_559 ?_
  refine l_ld (k := 1) hx hb hX hbl hbA hS hL hi (by decide) rfl dL_law_560 ?_
  refine lv_aload_n hx hb dL_law_561 rfl (lv_at hl 0 rfl) ?_
  refine lv_iload_n hx hb dL_law_562 rfl (lv_at hl 3 rfl) ?_
  refine lv_iconst (v := 2) hx hb dL_law_563 (by decide) ?_
  refine lv_iadd hx hb dL_law_564 ?_
  refine l_ld (k := 2) hx hb hX hbl hbA hS hL hi (by decide) rfl dL_law_565 ?_
  refine lv_aload_n hx hb dL_law_566 rfl (lv_at hl 0 rfl) ?_
  refine lv_iload_n hx hb dL_law_567 rfl (lv_at hl 3 rfl) ?_
  refine lv_iconst (v := 3) hx hb dL_law_568 (by decide) ?_
  refine lv_iadd hx hb dL_law_569 ?_
  refine l_ld (k := 3) hx hb hX hbl hbA hS hL hi (by decide) rfl dL_law_570 ?_
  refine lv_aload_n hx hb dL_law_571 rfl (lv_at hl 0 rfl) ?_
  refine lv_iload_n hx hb dL_law_572 rfl (lv_at hl 3 rfl) ?_
  refine lv_iconst (v := 4) hx hb dL_law_573 (by decide) ?_
  refine lv_iadd hx hb dL_law_574 ?_
  refine l_ld (k := 4) hx hb hX hbl hbA hS hL hi (by decide) rfl dL_law_575 ?_
  refine lv_aload_n hx hb dL_law_576 rfl (lv_at hl 0 rfl) ?_
  refine lv_iload_n hx hb dL_law_577 rfl (lv_at hl 3 rfl) ?_
  refine lv_iconst (v := 5) hx hb dL_law_578 (by decide) ?_
  refine lv_iadd hx hb dL_law_579 ?_
  refine l_ld (k := 5) hx hb hX hbl hbA hS hL hi (by decide) rfl dL_law_580 ?_
  refine n_VI (As := [.int (xs (i + 1)), .int (xs (i + 2)), .int (xs (i + 3)), .int (xs (i + 4)), .int (xs (i + 5))]) (rest := []) (C := RX7) (T0 := TX7) (N0 := 4) (ci := 6) (Wn := (fun _ : Unit => (wQ E a Q1) ++ (wMod E c1 M))) (Wr := [((c1 0), .inr (7, [.ref (c1 1), .ref (c1 2), .ref (c1 3), .int (M 8 0), .ref (c1 4), .ref (c1 5), .ref (c1 6), .int (M 8 1), .int (M 8 2), .int (M 8 3), .ref (c1 7), .int (M 8 4), .ref (c1 8), .int (M 8 5)])), aI E (c1 1) 116 (M 0), aI E (c1 2) 116 (M 1), aI E (c1 3) 696 (M 2), aI E (c1 4) 232 (M 3), aZ E (c1 5) 2 (M 4), aI E (c1 6) 80 (M 5), aI E (c1 7) 7 (M 6), aI E (c1 8) 44 (M 7)]) hx hb hml hown hts hl.1 (kX7_window l D E a H.size h1) (cwV 5 hts gL_law_X7_window rfl rfl rfl (by decide +kernel) ⟨Nat.le_of_ble_eq_true rfl, Nat.le_of_ble_eq_true rfl⟩) 0 rfl rfl hP hD hS hA hK hZ.2.2.2.2.2.2.2.2 [0, 1, 2, 3, 4, 5, 6, 7, 8, 9, 10, 11, 12, 13, 14, 15, 16, 17, 18, 19, 20, 21, 22, 23, 24, 25, 26, 27, 28, 29, 30, 31, 32, 33, 34, 35, 36, 37] [38, 39, 40, 41, 42, 43, 44, 45, 46] [9, 10, 11, 12, 13, 14, 15, 16, 17, 18, 19, 20, 21, 22, 23, 24, 25, 26, 27, 28, 29, 30, 31, 32, 33, 34, 35, 36, 37, 38, 39, 40, 41, 42, 43, 44, 45, 46, 0, 1, 2, 3, 4, 5, 6, 7, 8] (by decide) rfl rfl (by decide) (by decide) (by decide) (fun _ => rfl) rfl rfl (Nat.le_of_ble_eq_true rfl) dL_law_581 ⟨by show cells + 1 ≤ 600000; omega, by show slots + 4 ≤ 7302250; omega⟩ (fun _ H locs hP hD hS => ?_)
  refine lv_aload_n hx hb dL_law_584 rfl (lv_at hl 2 rfl) ?_
  refine lv_aload_n hx hb dL_law_585 rfl (lv_at hl 0 rfl) ?_
  refine lv_iload_n hx hb dL_law_586 rfl (lv_at hl 3 rfl) ?_
  refine lv_iconst (v := 1) hx hb dL_law_587 (by decide) ?_
  refine lv_iadd hx hb dL_law_588 ?_
  refine l_ld (k := 1) hx hb hX hbl hbA hS hL hi (by decide) rfl dL_law_589 ?_
  refine lv_aload_n hx hb dL_law_590 rfl (lv_at hl 0 rfl) ?_
  refine lv_iload_n hx hb dL_law_591 rfl (lv_at hl 3 rfl) ?_
  refine lv_iconst (v := 2) hx hb dL_law_592 (by decide) ?_
  refine lv_iadd hx hb dL_law_593 ?_
  refine l_ld (k := 2) hx hb hX hbl hbA hS hL hi (by decide) rfl dL_law_594 ?_
  refine lv_aload_n hx hb dL_law_595 rfl (lv_at hl 0 rfl) ?_
  refine lv_iload_n hx hb dL_law_596 rfl (lv_at hl 3 rfl) ?_
  refine lv_iconst (v := 3) hx hb dL_law_597 (by decide) ?_
  refine lv_iadd hx hb dL_law_598 ?_
  refine l_ld (k := 3) hx hb hX hbl hbA hS hL hi (by decide) rfl dL_law_599 ?_
  refine lv_aload_n hx hb dL_law_600 rfl (lv_at hl 0 rfl) ?_
  refine lv_iload_n hx hb dL_law_601 rfl (lv_at hl 3 rfl) ?_
  refine lv_iconst (v := 4) hx hb dL_law_602 (by decide) ?_
  refine lv_iadd hx hb dL_law_603 ?_
  refine l_ld (k := 4) hx hb hX hbl hbA hS hL hi (by decide) rfl dL_law_604 ?_
  refine lv_aload_n hx hb dL_law_605 rfl (lv_at hl 0 rfl) ?_
  refine lv_iload_n hx hb dL_law_606 rfl (lv_at hl 3 rfl) ?_
  refine lv_iconst (v := 5) hx hb dL_law_607 (by decide) ?_
  refine lv_iadd hx hb dL_law_608 ?_
  refine l_ld (k := 5) hx hb hX hbl hbA hS hL hi (by decide) rfl dL_law_609 ?_
  refine m_VI (As := [.int (xs (i + 1)), .int (xs (i + 2)), .int (xs (i + 3)), .int (xs (i + 4)), .int (xs (i + 5))]) (rest := [.int r]) (C := RX8) (T0 := TX8) (N0 := 14) (ci := 7) (Wn := (fun _ : Unit => (wQ E a Q1) ++ (wMod E c1 M1))) (Wr := [((a 0), .inr (6, [.ref (a 1), .ref (a 6), .ref (a 26), .ref (a 35)])), ((a 1), .inr (4, [.ref (a 3), .ref (a 2)])), aI E (a 2) 8192 ((Q1 0) 3), ((a 3), .inr (2, [.ref (a 4), .ref (a 5), .int ((Q1 0) 2 0), .int ((Q1 0) 2 1), .int ((Q1 0) 2 2), .int ((Q1 0) 2 3)])), aI E (a 4) 50 ((Q1 0) 0), aI E (a 5) 12 ((Q1 0) 1), ((a 6), .inr (0, [.ref (a 7), .int (Q1 2 0 0)])), aP E (a 7) 6 (fH (a 8) (a 11) (a 14) (a 17) (a 20) (a 23)), ((a 8), .inr (2, [.ref (a 9), .ref (a 10), .int ((Q1 3) 2 0), .int ((Q1 3) 2 1), .int ((Q1 3) 2 2), .int ((Q1 3) 2 3)])), aI E (a 9) 50 ((Q1 3) 0), aI E (a 10) 12 ((Q1 3) 1), ((a 11), .inr (2, [.ref (a 12), .ref (a 13), .int ((Q1 4) 2 0), .int ((Q1 4) 2 1), .int ((Q1 4) 2 2), .int ((Q1 4) 2 3)])), aI E (a 12) 50 ((Q1 4) 0), aI E (a 13) 12 ((Q1 4) 1), ((a 14), .inr (2, [.ref (a 15), .ref (a 16), .int ((Q1 5) 2 0), .int ((Q1 5) 2 1), .int ((Q1 5) 2 2), .int ((Q1 5) 2 3)])), aI E (a 15) 50 ((Q1 5) 0), aI E (a 16) 12 ((Q1 5) 1), ((a 17), .inr (2, [.ref (a 18), .ref (a 19), .int ((Q1 6) 2 0), .int ((Q1 6) 2 1), .int ((Q1 6) 2 2), .int ((Q1 6) 2 3)])), aI E (a 18) 50 ((Q1 6) 0), aI E (a 19) 12 ((Q1 6) 1), ((a 20), .inr (2, [.ref (a 21), .ref (a 22), .int ((Q1 7) 2 0), .int ((Q1 7) 2 1), .int ((Q1 7) 2 2), .int ((Q1 7) 2 3)])), aI E (a 21) 50 ((Q1 7) 0), aI E (a 22) 12 ((Q1 7) 1), ((a 23), .inr (2, [.ref (a 24), .ref (a 25), .int ((Q1 8) 2 0), .int ((Q1 8) 2 1), .int ((Q1 8) 2 2), .int ((Q1 8) 2 3)])), aI E (a 24) 50 ((Q1 8) 0), aI E (a 25) 12 ((Q1 8) 1), ((a 26), .inr (3, [.ref (a 27), .ref (a 28)])), aP E (a 27) 2 (fS (a 29) (a 32)), aZ E (a 28) 2 (Q1 2 1), ((a 29), .inr (2, [.ref (a 30), .ref (a 31), .int ((Q1 9) 2 0), .int ((Q1 9) 2 1), .int ((Q1 9) 2 2), .int ((Q1 9) 2 3)])), aI E (a 30) 50 ((Q1 9) 0), aI E (a 31) 12 ((Q1 9) 1), ((a 32), .inr (2, [.ref (a 33), .ref (a 34), .int ((Q1 10) 2 0), .int ((Q1 10) 2 1), .int ((Q1 10) 2 2), .int ((Q1 10) 2 3)])), aI E (a 33) 50 ((Q1 10) 0), aI E (a 34) 12 ((Q1 10) 1), ((a 35), .inr (1, [.ref (a 36), .ref (a 37), .int ((Q1 1) 2 0)])), aI E (a 36) 80 ((Q1 1) 0), aI E (a 37) 20 ((Q1 1) 1)]) hx hb hml hown hts hl.1 (kX8_window l D E c1 H.size h2) (cwV 5 hts gL_law_X8_window rfl rfl rfl (by decide +kernel) ⟨Nat.le_of_ble_eq_true rfl, Nat.le_of_ble_eq_true rfl⟩) 0 rfl rfl hP hD hS hA hK [38, 39, 40, 41, 42, 43, 44, 45, 46] [0, 1, 2, 3, 4, 5, 6, 7, 8, 9, 10, 11, 12, 13, 14, 15, 16, 17, 18, 19, 20, 21, 22, 23, 24, 25, 26, 27, 28, 29, 30, 31, 32, 33, 34, 35, 36, 37] [0, 1, 2, 3, 4, 5, 6, 7, 8, 9, 10, 11, 12, 13, 14, 15, 16, 17, 18, 19, 20, 21, 22, 23, 24, 25, 26, 27, 28, 29, 30, 31, 32, 33, 34, 35, 36, 37, 38, 39, 40, 41, 42, 43, 44, 45, 46] (by decide) rfl rfl (by decide) (by decide) (by decide) (fun _ => rfl) rfl rfl (Nat.le_of_ble_eq_true rfl) dL_law_610 ⟨by show cells + 1 + 0 ≤ 600000; omega, by show slots + 4 + 0 ≤ 7302250; omega⟩ (fun _ H locs hP hD hS => ?_)
  refine lv_icmp_eq (tgt := 865) hx hb dL_law_613 (by decide) (fun _ => ?_) (fun c9 => absurd rfl c9)
  exact cont a c1 Q1 M1 _ _ _ (cells + 1 + 0) (slots + 4 + 0) (by omega) (by omega) hI1 hP hD hS hl

set_option maxRecDepth 100000 in
set_option maxHeartbeats 4000000 in
theorem law_c14 {p : Program} {e : Env} {s : State} {m : MethodId} {below : List Frame} {meth : Method} {c : Code} {l : Launch} {b L : Nat} {xs : Nat → Int32} {I : (Nat → FS) → FS → Prop} (hc : Coup I) (C0 : CL p s m meth c b L xs) {D : va_G} {E : Nat → ClassId} (hK : va_K D vwCl (tyE E) s) {t : Nat → Nat} (hZ : zSA t s) {i : Nat} (hi : i + 6 ≤ L) {a c1 : Nat → Nat} {Q : Nat → FS} {M : FS} {H : Heap} {locs : List Loc} {ls : Array Slot} {cells slots : Nat} (hcs : cells + 1 ≤ 600000) (hcs2 : slots + 4 ≤ 7302250) (hI : I Q M) (hP : va_P D vwCl ((wQ E a Q) ++ (wMod E c1 M)) H) (hD : va_D (fun q : Nat => s.heap.size ≤ q) ((wQ E a Q) ++ (wMod E c1 M))) (hS : va_S (fun q : Nat => s.heap.size ≤ q) s.heap H locs) (hl : lv_has ls 4 [(0, .ref b), (1, .ref (a 0)), (2, .ref (c1 0)), (3, .int (nI i))])
    (cont : LCont p l e s m below meth c D E I b i a c1 cells slots) : WL p l e s m below meth c b H locs cells slots 618 ls [] := by
  obtain ⟨hx, hb, hr, hml, hown, hts, hX, hbl, hL, hlocks⟩ := C0
  have hA : ∀ q : Nat, s.heap.size ≤ q → (fun q : Nat => s.heap.size ≤ q) q := fun _ h => h
  have hbA : ¬ (fun q : Nat => s.heap.size ≤ q) b := Nat.not_le.mpr hbl
  obtain ⟨r, h1, h2⟩ := hc.2.2.2.2.2.2.2.2.2.2.2.2.2.2.1 Q M (xs (i + 1)) (xs (i + 2)) (xs (i + 3)) hI
  refine lv_aload_n hx hb dL_law_618 rfl (lv_at hl 1 rfl) ?_
  refine lv_aload_n hx hb dL_law_619 rfl (lv_at hl 0 rfl) ?_
  refine lv_iload_n hx hb dL_law_620 rfl (lv_at hl 3 rfl) ?_
  refine lv_iconst (v := 1) hx hb dL_law_621 (by decide) ?_
  refine lv_iadd hx hb dL_law_622 ?_
  refine l_ld (k := 1) hx hb hX hbl hbA hS hL hi (by decide) rfl dL_law_623 ?_
  refine lv_aload_n hx hb dL_law_624 rfl (lv_at hl 0 rfl) ?_
  refine lv_iload_n hx hb dL_law_625 rfl (lv_at hl 3 rfl) ?_
  refine lv_iconst (v := 2) hx hb dL_law_626 (by decide) ?_
  refine lv_iadd hx hb dL_law_627 ?_
  refine l_ld (k := 2) hx hb hX hbl hbA hS hL hi (by decide) rfl dL_law_628 ?_
  refine lv_aload_n hx hb dL_law_629 rfl (lv_at hl 0 rfl) ?_
  refine lv_iload_n hx hb dL_law_630 rfl (lv_at hl 3 rfl) ?_
  refine lv_iconst (v := 3) hx hb dL_law_631 (by decide) ?_
  refine lv_iadd hx hb dL_law_632 ?_
  refine l_ld (k := 3) hx hb hX hbl hbA hS hL hi (by decide) rfl dL_law_633 ?_
  refine q_V (As := [.int (xs (i + 1)), .int (xs (i + 2)), .int (xs (i + 3))]) (rest := []) (C := RX7) (T0 := TX7) (N0 := 4) (ci := 6) hx hb hml hown hts hl.1 (kX7_nearest l D E a h1) zNo_mv (cwV 3 hts gL_law_X7_nearest rfl rfl rfl (by decide +kernel) ⟨Nat.le_of_ble_eq_true rfl, Nat.le_of_ble_eq_true rfl⟩) 0 rfl rfl (hP.sub (ws' := wQ E a Q) [0, 1, 2, 3, 4, 5, 6, 7, 8, 9, 10, 11, 12, 13, 14, 15, 16, 17, 18, 19, 20, 21, 22, 23, 24, 25, 26, 27, 28, 29, 30, 31, 32, 33, 34, 35, 36, 37] rfl) hK trivial rfl rfl (Nat.le_of_ble_eq_true rfl) dL_law_634 ⟨by show cells + 0 ≤ 600000; omega, by show slots + 0 ≤ 7302250; omega⟩ ?_
  refine lv_aload_n hx hb dL_law_637 rfl (lv_at hl 2 rfl) ?_
  refine lv_aload_n hx hb dL_law_638 rfl (lv_at hl 0 rfl) ?_
  refine lv_iload_n hx hb dL_law_639 rfl (lv_at hl 3 rfl) ?_
  refine lv_iconst (v := 1) hx hb dL_law_640 (by decide) ?_
  refine lv_iadd hx hb dL_law_641 ?_
  refine l_ld (k := 1) hx hb hX hbl hbA hS hL hi (by decide) rfl dL_law_642 ?_
  refine lv_aload_n hx hb dL_law_643 rfl (lv_at hl 0 rfl) ?_
  refine lv_iload_n hx hb dL_law_644 rfl (lv_at hl 3 rfl) ?_
  refine lv_iconst (v := 2) hx hb dL_law_645 (by decide) ?_
  refine lv_iadd hx hb dL_law_646 ?_
  refine l_ld (k := 2) hx hb hX hbl hbA hS hL hi (by decide) rfl dL_law_647 ?_
  refine lv_aload_n hx hb dL_law_648 rfl (lv_at hl 0 rfl) ?_
  refine lv_iload_n hx hb dL_law_649 rfl (lv_at hl 3 rfl) ?_
  refine lv_iconst (v := 3) hx hb dL_law_650 (by decide) ?_
  refine lv_iadd hx hb dL_law_651 ?_
  refine l_ld (k := 3) hx hb hX hbl hbA hS hL hi (by decide) rfl dL_law_652 ?_
  refine q_V (As := [.int (xs (i + 1)), .int (xs (i + 2)), .int (xs (i + 3))]) (rest := [.int r]) (C := RX8) (T0 := TX8) (N0 := 14) (ci := 7) hx hb hml hown hts hl.1 (kX8_nearest l D E c1 h2) zNo_mv (cwV 3 hts gL_law_X8_nearest rfl rfl rfl (by decide +kernel) ⟨Nat.le_of_ble_eq_true rfl, Nat.le_of_ble_eq_true rfl⟩) 0 rfl rfl (hP.sub (ws' := wMod E c1 M) [38, 39, 40, 41, 42, 43, 44, 45, 46] rfl) hK trivial rfl rfl (Nat.le_of_ble_eq_true rfl) dL_law_653 ⟨by show cells + 0 ≤ 600000; omega, by show slots + 0 ≤ 7302250; omega⟩ ?_
  refine lv_icmp_eq (tgt := 865) hx hb dL_law_656 (by decide) (fun _ => ?_) (fun c9 => absurd rfl c9)
  exact cont a c1 Q M _ _ _ (cells) (slots) (by omega) (by omega) hI hP hD hS hl

set_option maxRecDepth 100000 in
set_option maxHeartbeats 4000000 in
theorem law_c15 {p : Program} {e : Env} {s : State} {m : MethodId} {below : List Frame} {meth : Method} {c : Code} {l : Launch} {b L : Nat} {xs : Nat → Int32} {I : (Nat → FS) → FS → Prop} (hc : Coup I) (C0 : CL p s m meth c b L xs) {D : va_G} {E : Nat → ClassId} (hK : va_K D vwCl (tyE E) s) {t : Nat → Nat} (hZ : zSA t s) {i : Nat} (hi : i + 6 ≤ L) {a c1 : Nat → Nat} {Q : Nat → FS} {M : FS} {H : Heap} {locs : List Loc} {ls : Array Slot} {cells slots : Nat} (hcs : cells + 1 ≤ 600000) (hcs2 : slots + 4 ≤ 7302250) (hI : I Q M) (hP : va_P D vwCl ((wQ E a Q) ++ (wMod E c1 M)) H) (hD : va_D (fun q : Nat => s.heap.size ≤ q) ((wQ E a Q) ++ (wMod E c1 M))) (hS : va_S (fun q : Nat => s.heap.size ≤ q) s.heap H locs) (hl : lv_has ls 4 [(0, .ref b), (1, .ref (a 0)), (2, .ref (c1 0)), (3, .int (nI i))])
    (cont : LCont p l e s m below meth c D E I b i a c1 cells slots) : WL p l e s m below meth c b H locs cells slots 661 ls [] := by
  obtain ⟨hx, hb, hr, hml, hown, hts, hX, hbl, hL, hlocks⟩ := C0
  have hA : ∀ q : Nat, s.heap.size ≤ q → (fun q : Nat => s.heap.size ≤ q) q := fun _ h => h
  have hbA : ¬ (fun q : Nat => s.heap.size ≤ q) b := Nat.not_le.mpr hbl
  obtain ⟨r, Q1, M1, h1, h2, hI1⟩ := hc.2.2.2.2.2.2.2.2.2.2.2.2.2.2.2.1 Q M (xs (i + 1)) (xs (i + 2)) (xs (i + 3)) hI
  refine lv_aload_n hx hb dL_law_661 rfl (lv_at hl 1 rfl) ?_
  refine lv_aload_n hx hb dL_law_662 rfl (lv_at hl 0 rfl) ?_
  refine lv_iload_n hx hb dL_law_663 rfl (lv_at hl 3 rfl) ?_
  refine lv_iconst (v := 1) hx hb dL_law_664 (by decide) ?_
  refine lv_iadd hx hb dL_law_665 ?_
  refine l_ld (k := 1) hx hb hX hbl hbA hS hL hi (by decide) rfl dL_law_666 ?_
  refine lv_aload_n hx hb dL_law_667 rfl (lv_at hl 0 rfl) ?_
  refine lv_iload_n hx hb dL_law_668 rfl (lv_at hl 3 rfl) ?_
  refine lv_iconst (v := 2) hx hb dL_law_669 (by decide) ?_
  refine lv_iadd hx hb dL_law_670 ?_
  refine l_ld (k := 2) hx hb hX hbl hbA hS hL hi (by decide) rfl dL_law_671 ?_
  refine lv_aload_n hx hb dL_law_672 rfl (lv_at hl 0 rfl) ?_
  refine lv_iload_n hx hb dL_law_673 rfl (lv_at hl 3 rfl) ?_
  refine lv_iconst (v := 3) hx hb dL_law_674 (by decide) ?_
  refine lv_iadd hx hb dL_law_675 ?_
  refine l_ld (k := 3) hx hb hX hbl hbA hS hL hi (by decide) rfl dL_law_676 ?_
  refine m_VI (As := [.int (xs (i + 1)), .int (xs (i + 2)), .int (xs (i + 3))]) (rest := []) (C := RX7) (T0 := TX7) (N0 := 4) (ci := 6) (Wn := (fun _ : Unit => (wQ E a Q1) ++ (wMod E c1 M))) (Wr := [((c1 0), .inr (7, [.ref (c1 1), .ref (c1 2), .ref (c1 3), .int (M 8 0), .ref (c1 4), .ref (c1 5), .ref (c1 6), .int (M 8 1), .int (M 8 2), .int (M 8 3), .ref (c1 7), .int (M 8 4), .ref (c1 8), .int (M 8 5)])), aI E (c1 1) 116 (M 0), aI E (c1 2) 116 (M 1), aI E (c1 3) 696 (M 2), aI E (c1 4) 232 (M 3), aZ E (c1 5) 2 (M 4), aI E (c1 6) 80 (M 5), aI E (c1 7) 7 (M 6), aI E (c1 8) 44 (M 7)]) hx hb hml hown hts hl.1 (kX7_ifPut l D E a H.size h1) (cwV 3 hts gL_law_X7_ifPut rfl rfl rfl (by decide +kernel) ⟨Nat.le_of_ble_eq_true rfl, Nat.le_of_ble_eq_true rfl⟩) 0 rfl rfl hP hD hS hA hK [0, 1, 2, 3, 4, 5, 6, 7, 8, 9, 10, 11, 12, 13, 14, 15, 16, 17, 18, 19, 20, 21, 22, 23, 24, 25, 26, 27, 28, 29, 30, 31, 32, 33, 34, 35, 36, 37] [38, 39, 40, 41, 42, 43, 44, 45, 46] [9, 10, 11, 12, 13, 14, 15, 16, 17, 18, 19, 20, 21, 22, 23, 24, 25, 26, 27, 28, 29, 30, 31, 32, 33, 34, 35, 36, 37, 38, 39, 40, 41, 42, 43, 44, 45, 46, 0, 1, 2, 3, 4, 5, 6, 7, 8] (by decide) rfl rfl (by decide) (by decide) (by decide) (fun _ => rfl) rfl rfl (Nat.le_of_ble_eq_true rfl) dL_law_677 ⟨by show cells + 0 ≤ 600000; omega, by show slots + 0 ≤ 7302250; omega⟩ (fun _ H locs hP hD hS => ?_)
  refine lv_aload_n hx hb dL_law_680 rfl (lv_at hl 2 rfl) ?_
  refine lv_aload_n hx hb dL_law_681 rfl (lv_at hl 0 rfl) ?_
  refine lv_iload_n hx hb dL_law_682 rfl (lv_at hl 3 rfl) ?_
  refine lv_iconst (v := 1) hx hb dL_law_683 (by decide) ?_
  refine lv_iadd hx hb dL_law_684 ?_
  refine l_ld (k := 1) hx hb hX hbl hbA hS hL hi (by decide) rfl dL_law_685 ?_
  refine lv_aload_n hx hb dL_law_686 rfl (lv_at hl 0 rfl) ?_
  refine lv_iload_n hx hb dL_law_687 rfl (lv_at hl 3 rfl) ?_
  refine lv_iconst (v := 2) hx hb dL_law_688 (by decide) ?_
  refine lv_iadd hx hb dL_law_689 ?_
  refine l_ld (k := 2) hx hb hX hbl hbA hS hL hi (by decide) rfl dL_law_690 ?_
  refine lv_aload_n hx hb dL_law_691 rfl (lv_at hl 0 rfl) ?_
  refine lv_iload_n hx hb dL_law_692 rfl (lv_at hl 3 rfl) ?_
  refine lv_iconst (v := 3) hx hb dL_law_693 (by decide) ?_
  refine lv_iadd hx hb dL_law_694 ?_
  refine l_ld (k := 3) hx hb hX hbl hbA hS hL hi (by decide) rfl dL_law_695 ?_
  refine m_VI (As := [.int (xs (i + 1)), .int (xs (i + 2)), .int (xs (i + 3))]) (rest := [.int r]) (C := RX8) (T0 := TX8) (N0 := 14) (ci := 7) (Wn := (fun _ : Unit => (wQ E a Q1) ++ (wMod E c1 M1))) (Wr := [((a 0), .inr (6, [.ref (a 1), .ref (a 6), .ref (a 26), .ref (a 35)])), ((a 1), .inr (4, [.ref (a 3), .ref (a 2)])), aI E (a 2) 8192 ((Q1 0) 3), ((a 3), .inr (2, [.ref (a 4), .ref (a 5), .int ((Q1 0) 2 0), .int ((Q1 0) 2 1), .int ((Q1 0) 2 2), .int ((Q1 0) 2 3)])), aI E (a 4) 50 ((Q1 0) 0), aI E (a 5) 12 ((Q1 0) 1), ((a 6), .inr (0, [.ref (a 7), .int (Q1 2 0 0)])), aP E (a 7) 6 (fH (a 8) (a 11) (a 14) (a 17) (a 20) (a 23)), ((a 8), .inr (2, [.ref (a 9), .ref (a 10), .int ((Q1 3) 2 0), .int ((Q1 3) 2 1), .int ((Q1 3) 2 2), .int ((Q1 3) 2 3)])), aI E (a 9) 50 ((Q1 3) 0), aI E (a 10) 12 ((Q1 3) 1), ((a 11), .inr (2, [.ref (a 12), .ref (a 13), .int ((Q1 4) 2 0), .int ((Q1 4) 2 1), .int ((Q1 4) 2 2), .int ((Q1 4) 2 3)])), aI E (a 12) 50 ((Q1 4) 0), aI E (a 13) 12 ((Q1 4) 1), ((a 14), .inr (2, [.ref (a 15), .ref (a 16), .int ((Q1 5) 2 0), .int ((Q1 5) 2 1), .int ((Q1 5) 2 2), .int ((Q1 5) 2 3)])), aI E (a 15) 50 ((Q1 5) 0), aI E (a 16) 12 ((Q1 5) 1), ((a 17), .inr (2, [.ref (a 18), .ref (a 19), .int ((Q1 6) 2 0), .int ((Q1 6) 2 1), .int ((Q1 6) 2 2), .int ((Q1 6) 2 3)])), aI E (a 18) 50 ((Q1 6) 0), aI E (a 19) 12 ((Q1 6) 1), ((a 20), .inr (2, [.ref (a 21), .ref (a 22), .int ((Q1 7) 2 0), .int ((Q1 7) 2 1), .int ((Q1 7) 2 2), .int ((Q1 7) 2 3)])), aI E (a 21) 50 ((Q1 7) 0), aI E (a 22) 12 ((Q1 7) 1), ((a 23), .inr (2, [.ref (a 24), .ref (a 25), .int ((Q1 8) 2 0), .int ((Q1 8) 2 1), .int ((Q1 8) 2 2), .int ((Q1 8) 2 3)])), aI E (a 24) 50 ((Q1 8) 0), aI E (a 25) 12 ((Q1 8) 1), ((a 26), .inr (3, [.ref (a 27), .ref (a 28)])), aP E (a 27) 2 (fS (a 29) (a 32)), aZ E (a 28) 2 (Q1 2 1), ((a 29), .inr (2, [.ref (a 30), .ref (a 31), .int ((Q1 9) 2 0), .int ((Q1 9) 2 1), .int ((Q1 9) 2 2), .int ((Q1 9) 2 3)])), aI E (a 30) 50 ((Q1 9) 0), aI E (a 31) 12 ((Q1 9) 1), ((a 32), .inr (2, [.ref (a 33), .ref (a 34), .int ((Q1 10) 2 0), .int ((Q1 10) 2 1), .int ((Q1 10) 2 2), .int ((Q1 10) 2 3)])), aI E (a 33) 50 ((Q1 10) 0), aI E (a 34) 12 ((Q1 10) 1), ((a 35), .inr (1, [.ref (a 36), .ref (a 37), .int ((Q1 1) 2 0)])), aI E (a 36) 80 ((Q1 1) 0), aI E (a 37) 20 ((Q1 1) 1)]) hx hb hml hown hts hl.1 (kX8_ifPut l D E c1 H.size h2) (cwV 3 hts gL_law_X8_ifPut rfl rfl rfl (by decide +kernel) ⟨Nat.le_of_ble_eq_true rfl, Nat.le_of_ble_eq_true rfl⟩) 0 rfl rfl hP hD hS hA hK [38, 39, 40, 41, 42, 43, 44, 45, 46] [0, 1, 2, 3, 4, 5, 6, 7, 8, 9, 10, 11, 12, 13, 14, 15, 16, 17, 18, 19, 20, 21, 22, 23, 24, 25, 26, 27, 28, 29, 30, 31, 32, 33, 34, 35, 36, 37] [0, 1, 2, 3, 4, 5, 6, 7, 8, 9, 10, 11, 12, 13, 14, 15, 16, 17, 18, 19, 20, 21, 22, 23, 24, 25, 26, 27, 28, 29, 30, 31, 32, 33, 34, 35, 36, 37, 38, 39, 40, 41, 42, 43, 44, 45, 46] (by decide) rfl rfl (by decide) (by decide) (by decide) (fun _ => rfl) rfl rfl (Nat.le_of_ble_eq_true rfl) dL_law_696 ⟨by show cells + 0 + 0 ≤ 600000; omega, by show slots + 0 + 0 ≤ 7302250; omega⟩ (fun _ H locs hP hD hS => ?_)
  refine lv_icmp_eq (tgt := 865) hx hb dL_law_699 (by decide) (fun _ => ?_) (fun c9 => absurd rfl c9)
  exact cont a c1 Q1 M1 _ _ _ (cells + 0 + 0) (slots + 0 + 0) (by omega) (by omega) hI1 hP hD hS hl

set_option maxRecDepth 100000 in
set_option maxHeartbeats 4000000 in
theorem law_c16 {p : Program} {e : Env} {s : State} {m : MethodId} {below : List Frame} {meth : Method} {c : Code} {l : Launch} {b L : Nat} {xs : Nat → Int32} {I : (Nat → FS) → FS → Prop} (hc : Coup I) (C0 : CL p s m meth c b L xs) {D : va_G} {E : Nat → ClassId} (hK : va_K D vwCl (tyE E) s) {t : Nat → Nat} (hZ : zSA t s) {i : Nat} (hi : i + 6 ≤ L) {a c1 : Nat → Nat} {Q : Nat → FS} {M : FS} {H : Heap} {locs : List Loc} {ls : Array Slot} {cells slots : Nat} (hcs : cells + 1 ≤ 600000) (hcs2 : slots + 4 ≤ 7302250) (hI : I Q M) (hP : va_P D vwCl ((wQ E a Q) ++ (wMod E c1 M)) H) (hD : va_D (fun q : Nat => s.heap.size ≤ q) ((wQ E a Q) ++ (wMod E c1 M))) (hS : va_S (fun q : Nat => s.heap.size ≤ q) s.heap H locs) (hl : lv_has ls 4 [(0, .ref b), (1, .ref (a 0)), (2, .ref (c1 0)), (3, .int (nI i))])
    (cont : LCont p l e s m below meth c D E I b i a c1 cells slots) : WL p l e s m below meth c b H locs cells slots 704 ls [] := by
  obtain ⟨hx, hb, hr, hml, hown, hts, hX, hbl, hL, hlocks⟩ := C0
  have hA : ∀ q : Nat, s.heap.size ≤ q → (fun q : Nat => s.heap.size ≤ q) q := fun _ h => h
  have hbA : ¬ (fun q : Nat => s.heap.size ≤ q) b := Nat.not_le.mpr hbl
  obtain ⟨r, Q1, M1, h1, h2, hI1⟩ := hc.2.2.2.2.2.2.2.2.2.2.2.2.2.2.2.2.1 Q M (xs (i + 1)) hI
  refine lv_aload_n hx hb dL_law_704 rfl (lv_at hl 1 rfl) ?_
  refine lv_aload_n hx hb dL_law_705 rfl (lv_at hl 0 rfl) ?_
  refine lv_iload_n hx hb dL_law_706 rfl (lv_at hl 3 rfl) ?_
  refine lv_iconst (v := 1) hx hb dL_law_707 (by decide) ?_
  refine lv_iadd hx hb dL_law_708 ?_
  refine l_ld (k := 1) hx hb hX hbl hbA hS hL hi (by decide) rfl dL_law_709 ?_
  refine m_VI (As := [.int (xs (i + 1))]) (rest := []) (C := RX7) (T0 := TX7) (N0 := 4) (ci := 6) (Wn := (fun _ : Unit => (wQ E a Q1) ++ (wMod E c1 M))) (Wr := [((c1 0), .inr (7, [.ref (c1 1), .ref (c1 2), .ref (c1 3), .int (M 8 0), .ref (c1 4), .ref (c1 5), .ref (c1 6), .int (M 8 1), .int (M 8 2), .int (M 8 3), .ref (c1 7), .int (M 8 4), .ref (c1 8), .int (M 8 5)])), aI E (c1 1) 116 (M 0), aI E (c1 2) 116 (M 1), aI E (c1 3) 696 (M 2), aI E (c1 4) 232 (M 3), aZ E (c1 5) 2 (M 4), aI E (c1 6) 80 (M 5), aI E (c1 7) 7 (M 6), aI E (c1 8) 44 (M 7)]) hx hb hml hown hts hl.1 (kX7_leastFull l D E a H.size h1) (cwV 1 hts gL_law_X7_leastFull rfl rfl rfl (by decide +kernel) ⟨Nat.le_of_ble_eq_true rfl, Nat.le_of_ble_eq_true rfl⟩) 0 rfl rfl hP hD hS hA hK [0, 1, 2, 3, 4, 5, 6, 7, 8, 9, 10, 11, 12, 13, 14, 15, 16, 17, 18, 19, 20, 21, 22, 23, 24, 25, 26, 27, 28, 29, 30, 31, 32, 33, 34, 35, 36, 37] [38, 39, 40, 41, 42, 43, 44, 45, 46] [9, 10, 11, 12, 13, 14, 15, 16, 17, 18, 19, 20, 21, 22, 23, 24, 25, 26, 27, 28, 29, 30, 31, 32, 33, 34, 35, 36, 37, 38, 39, 40, 41, 42, 43, 44, 45, 46, 0, 1, 2, 3, 4, 5, 6, 7, 8] (by decide) rfl rfl (by decide) (by decide) (by decide) (fun _ => rfl) rfl rfl (Nat.le_of_ble_eq_true rfl) dL_law_710 ⟨by show cells + 0 ≤ 600000; omega, by show slots + 0 ≤ 7302250; omega⟩ (fun _ H locs hP hD hS => ?_)
  refine lv_aload_n hx hb dL_law_713 rfl (lv_at hl 2 rfl) ?_
  refine lv_aload_n hx hb dL_law_714 rfl (lv_at hl 0 rfl) ?_
  refine lv_iload_n hx hb dL_law_715 rfl (lv_at hl 3 rfl) ?_
  refine lv_iconst (v := 1) hx hb dL_law_716 (by decide) ?_
  refine lv_iadd hx hb dL_law_717 ?_
  refine l_ld (k := 1) hx hb hX hbl hbA hS hL hi (by decide) rfl dL_law_718 ?_
  refine m_VI (As := [.int (xs (i + 1))]) (rest := [.int r]) (C := RX8) (T0 := TX8) (N0 := 14) (ci := 7) (Wn := (fun _ : Unit => (wQ E a Q1) ++ (wMod E c1 M1))) (Wr := [((a 0), .inr (6, [.ref (a 1), .ref (a 6), .ref (a 26), .ref (a 35)])), ((a 1), .inr (4, [.ref (a 3), .ref (a 2)])), aI E (a 2) 8192 ((Q1 0) 3), ((a 3), .inr (2, [.ref (a 4), .ref (a 5), .int ((Q1 0) 2 0), .int ((Q1 0) 2 1), .int ((Q1 0) 2 2), .int ((Q1 0) 2 3)])), aI E (a 4) 50 ((Q1 0) 0), aI E (a 5) 12 ((Q1 0) 1), ((a 6), .inr (0, [.ref (a 7), .int (Q1 2 0 0)])), aP E (a 7) 6 (fH (a 8) (a 11) (a 14) (a 17) (a 20) (a 23)), ((a 8), .inr (2, [.ref (a 9), .ref (a 10), .int ((Q1 3) 2 0), .int ((Q1 3) 2 1), .int ((Q1 3) 2 2), .int ((Q1 3) 2 3)])), aI E (a 9) 50 ((Q1 3) 0), aI E (a 10) 12 ((Q1 3) 1), ((a 11), .inr (2, [.ref (a 12), .ref (a 13), .int ((Q1 4) 2 0), .int ((Q1 4) 2 1), .int ((Q1 4) 2 2), .int ((Q1 4) 2 3)])), aI E (a 12) 50 ((Q1 4) 0), aI E (a 13) 12 ((Q1 4) 1), ((a 14), .inr (2, [.ref (a 15), .ref (a 16), .int ((Q1 5) 2 0), .int ((Q1 5) 2 1), .int ((Q1 5) 2 2), .int ((Q1 5) 2 3)])), aI E (a 15) 50 ((Q1 5) 0), aI E (a 16) 12 ((Q1 5) 1), ((a 17), .inr (2, [.ref (a 18), .ref (a 19), .int ((Q1 6) 2 0), .int ((Q1 6) 2 1), .int ((Q1 6) 2 2), .int ((Q1 6) 2 3)])), aI E (a 18) 50 ((Q1 6) 0), aI E (a 19) 12 ((Q1 6) 1), ((a 20), .inr (2, [.ref (a 21), .ref (a 22), .int ((Q1 7) 2 0), .int ((Q1 7) 2 1), .int ((Q1 7) 2 2), .int ((Q1 7) 2 3)])), aI E (a 21) 50 ((Q1 7) 0), aI E (a 22) 12 ((Q1 7) 1), ((a 23), .inr (2, [.ref (a 24), .ref (a 25), .int ((Q1 8) 2 0), .int ((Q1 8) 2 1), .int ((Q1 8) 2 2), .int ((Q1 8) 2 3)])), aI E (a 24) 50 ((Q1 8) 0), aI E (a 25) 12 ((Q1 8) 1), ((a 26), .inr (3, [.ref (a 27), .ref (a 28)])), aP E (a 27) 2 (fS (a 29) (a 32)), aZ E (a 28) 2 (Q1 2 1), ((a 29), .inr (2, [.ref (a 30), .ref (a 31), .int ((Q1 9) 2 0), .int ((Q1 9) 2 1), .int ((Q1 9) 2 2), .int ((Q1 9) 2 3)])), aI E (a 30) 50 ((Q1 9) 0), aI E (a 31) 12 ((Q1 9) 1), ((a 32), .inr (2, [.ref (a 33), .ref (a 34), .int ((Q1 10) 2 0), .int ((Q1 10) 2 1), .int ((Q1 10) 2 2), .int ((Q1 10) 2 3)])), aI E (a 33) 50 ((Q1 10) 0), aI E (a 34) 12 ((Q1 10) 1), ((a 35), .inr (1, [.ref (a 36), .ref (a 37), .int ((Q1 1) 2 0)])), aI E (a 36) 80 ((Q1 1) 0), aI E (a 37) 20 ((Q1 1) 1)]) hx hb hml hown hts hl.1 (kX8_leastFull l D E c1 H.size h2) (cwV 1 hts gL_law_X8_leastFull rfl rfl rfl (by decide +kernel) ⟨Nat.le_of_ble_eq_true rfl, Nat.le_of_ble_eq_true rfl⟩) 0 rfl rfl hP hD hS hA hK [38, 39, 40, 41, 42, 43, 44, 45, 46] [0, 1, 2, 3, 4, 5, 6, 7, 8, 9, 10, 11, 12, 13, 14, 15, 16, 17, 18, 19, 20, 21, 22, 23, 24, 25, 26, 27, 28, 29, 30, 31, 32, 33, 34, 35, 36, 37] [0, 1, 2, 3, 4, 5, 6, 7, 8, 9, 10, 11, 12, 13, 14, 15, 16, 17, 18, 19, 20, 21, 22, 23, 24, 25, 26, 27, 28, 29, 30, 31, 32, 33, 34, 35, 36, 37, 38, 39, 40, 41, 42, 43, 44, 45, 46] (by decide) rfl rfl (by decide) (by decide) (by decide) (fun _ => rfl) rfl rfl (Nat.le_of_ble_eq_true rfl) dL_law_719 ⟨by show cells + 0 + 0 ≤ 600000; omega, by show slots + 0 + 0 ≤ 7302250; omega⟩ (fun _ H locs hP hD hS => ?_)
  refine lv_icmp_eq (tgt := 865) hx hb dL_law_722 (by decide) (fun _ => ?_) (fun c9 => absurd rfl c9)
  exact cont a c1 Q1 M1 _ _ _ (cells + 0 + 0) (slots + 0 + 0) (by omega) (by omega) hI1 hP hD hS hl

set_option maxRecDepth 100000 in
set_option maxHeartbeats 4000000 in
theorem law_c17 {p : Program} {e : Env} {s : State} {m : MethodId} {below : List Frame} {meth : Method} {c : Code} {l : Launch} {b L : Nat} {xs : Nat → Int32} {I : (Nat → FS) → FS → Prop} (hc : Coup I) (C0 : CL p s m meth c b L xs) {D : va_G} {E : Nat → ClassId} (hK : va_K D vwCl (tyE E) s) {t : Nat → Nat} (hZ : zSA t s) {i : Nat} (hi : i + 6 ≤ L) {a c1 : Nat → Nat} {Q : Nat → FS} {M : FS} {H : Heap} {locs : List Loc} {ls : Array Slot} {cells slots : Nat} (hcs : cells + 1 ≤ 600000) (hcs2 : slots + 4 ≤ 7302250) (hI : I Q M) (hP : va_P D vwCl ((wQ E a Q) ++ (wMod E c1 M)) H) (hD : va_D (fun q : Nat => s.heap.size ≤ q) ((wQ E a Q) ++ (wMod E c1 M))) (hS : va_S (fun q : Nat => s.heap.size ≤ q) s.heap H locs) (hl : lv_has ls 4 [(0, .ref b), (1, .ref (a 0)), (2, .ref (c1 0)), (3, .int (nI i))])
    (cont : LCont p l e s m below meth c D E I b i a c1 cells slots) : WL p l e s m below meth c b H locs cells slots 727 ls [] := by
  obtain ⟨hx, hb, hr, hml, hown, hts, hX, hbl, hL, hlocks⟩ := C0
  have hA : ∀ q : Nat, s.heap.size ≤ q → (fun q : Nat => s.heap.size ≤ q) q := fun _ h => h
  have hbA : ¬ (fun q : Nat => s.heap.size ≤ q) b := Nat.not_le.mpr hbl
  obtain ⟨r, Q1, M1, h1, h2, hI1⟩ := hc.2.2.2.2.2.2.2.2.2.2.2.2.2.2.2.2.2.1 Q M ((((xs (i + 1)).toInt64) <<< ((32:Int32).toInt64 &&& 63)) ||| (((xs (i + 2)).toInt64) &&& (4294967295:Int64))) hI
  refine lv_aload_n hx hb dL_law_727 rfl (lv_at hl 1 rfl) ?_
  refine lv_aload_n hx hb dL_law_728 rfl (lv_at hl 0 rfl) ?_
  refine lv_iload_n hx hb dL_law_729 rfl (lv_at hl 3 rfl) ?_
  refine lv_iconst (v := 1) hx hb dL_law_730 (by decide) ?_
  refine lv_iadd hx hb dL_law_731 ?_
  refine l_ld (k := 1) hx hb hX hbl hbA hS hL hi (by decide) rfl dL_law_732 ?_
  refine lv_i2l (v := ((xs (i + 1)).toInt64)) hx hb dL_law_733 rfl ?_
  refine lv_bipush (v := 32) hx hb dL_law_734 (by decide) ?_
  refine lv_lshl (v := (((xs (i + 1)).toInt64) <<< ((32:Int32).toInt64 &&& 63))) hx hb dL_law_736 rfl ?_
  refine lv_aload_n hx hb dL_law_737 rfl (lv_at hl 0 rfl) ?_
  refine lv_iload_n hx hb dL_law_738 rfl (lv_at hl 3 rfl) ?_
  refine lv_iconst (v := 2) hx hb dL_law_739 (by decide) ?_
  refine lv_iadd hx hb dL_law_740 ?_
  refine l_ld (k := 2) hx hb hX hbl hbA hS hL hi (by decide) rfl dL_law_741 ?_
  refine lv_i2l (v := ((xs (i + 2)).toInt64)) hx hb dL_law_742 rfl ?_
  refine lv_ldc2 (v := 4294967295) hx hb hown (hts _ lkL_87) dL_law_743 ?_
  refine lv_land hx hb dL_law_746 ?_
  refine lv_lor hx hb dL_law_747 ?_
  refine m_VI (As := [.long ((((xs (i + 1)).toInt64) <<< ((32:Int32).toInt64 &&& 63)) ||| (((xs (i + 2)).toInt64) &&& (4294967295:Int64)))]) (rest := []) (C := RX7) (T0 := TX7) (N0 := 4) (ci := 6) (Wn := (fun _ : Unit => (wQ E a Q1) ++ (wMod E c1 M))) (Wr := [((c1 0), .inr (7, [.ref (c1 1), .ref (c1 2), .ref (c1 3), .int (M 8 0), .ref (c1 4), .ref (c1 5), .ref (c1 6), .int (M 8 1), .int (M 8 2), .int (M 8 3), .ref (c1 7), .int (M 8 4), .ref (c1 8), .int (M 8 5)])), aI E (c1 1) 116 (M 0), aI E (c1 2) 116 (M 1), aI E (c1 3) 696 (M 2), aI E (c1 4) 232 (M 3), aZ E (c1 5) 2 (M 4), aI E (c1 6) 80 (M 5), aI E (c1 7) 7 (M 6), aI E (c1 8) 44 (M 7)]) hx hb hml hown hts hl.1 (kX7_put l D E a H.size h1) (cwV 1 hts gL_law_X7_put rfl rfl rfl (by decide +kernel) ⟨Nat.le_of_ble_eq_true rfl, Nat.le_of_ble_eq_true rfl⟩) 0 rfl rfl hP hD hS hA hK [0, 1, 2, 3, 4, 5, 6, 7, 8, 9, 10, 11, 12, 13, 14, 15, 16, 17, 18, 19, 20, 21, 22, 23, 24, 25, 26, 27, 28, 29, 30, 31, 32, 33, 34, 35, 36, 37] [38, 39, 40, 41, 42, 43, 44, 45, 46] [9, 10, 11, 12, 13, 14, 15, 16, 17, 18, 19, 20, 21, 22, 23, 24, 25, 26, 27, 28, 29, 30, 31, 32, 33, 34, 35, 36, 37, 38, 39, 40, 41, 42, 43, 44, 45, 46, 0, 1, 2, 3, 4, 5, 6, 7, 8] (by decide) rfl rfl (by decide) (by decide) (by decide) (fun _ => rfl) rfl rfl (Nat.le_of_ble_eq_true rfl) dL_law_748 ⟨by show cells + 0 ≤ 600000; omega, by show slots + 0 ≤ 7302250; omega⟩ (fun _ H locs hP hD hS => ?_)
  refine lv_aload_n hx hb dL_law_751 rfl (lv_at hl 2 rfl) ?_
  refine lv_aload_n hx hb dL_law_752 rfl (lv_at hl 0 rfl) ?_
  refine lv_iload_n hx hb dL_law_753 rfl (lv_at hl 3 rfl) ?_
  refine lv_iconst (v := 1) hx hb dL_law_754 (by decide) ?_
  refine lv_iadd hx hb dL_law_755 ?_
  refine l_ld (k := 1) hx hb hX hbl hbA hS hL hi (by decide) rfl dL_law_756 ?_
  refine lv_i2l (v := ((xs (i + 1)).toInt64)) hx hb dL_law_757 rfl ?_
  refine lv_bipush (v := 32) hx hb dL_law_758 (by decide) ?_
  refine lv_lshl (v := (((xs (i + 1)).toInt64) <<< ((32:Int32).toInt64 &&& 63))) hx hb dL_law_760 rfl ?_
  refine lv_aload_n hx hb dL_law_761 rfl (lv_at hl 0 rfl) ?_
  refine lv_iload_n hx hb dL_law_762 rfl (lv_at hl 3 rfl) ?_
  refine lv_iconst (v := 2) hx hb dL_law_763 (by decide) ?_
  refine lv_iadd hx hb dL_law_764 ?_
  refine l_ld (k := 2) hx hb hX hbl hbA hS hL hi (by decide) rfl dL_law_765 ?_
  refine lv_i2l (v := ((xs (i + 2)).toInt64)) hx hb dL_law_766 rfl ?_
  refine lv_ldc2 (v := 4294967295) hx hb hown (hts _ lkL_87) dL_law_767 ?_
  refine lv_land hx hb dL_law_770 ?_
  refine lv_lor hx hb dL_law_771 ?_
  refine m_VI (As := [.long ((((xs (i + 1)).toInt64) <<< ((32:Int32).toInt64 &&& 63)) ||| (((xs (i + 2)).toInt64) &&& (4294967295:Int64)))]) (rest := [.int r]) (C := RX8) (T0 := TX8) (N0 := 14) (ci := 7) (Wn := (fun _ : Unit => (wQ E a Q1) ++ (wMod E c1 M1))) (Wr := [((a 0), .inr (6, [.ref (a 1), .ref (a 6), .ref (a 26), .ref (a 35)])), ((a 1), .inr (4, [.ref (a 3), .ref (a 2)])), aI E (a 2) 8192 ((Q1 0) 3), ((a 3), .inr (2, [.ref (a 4), .ref (a 5), .int ((Q1 0) 2 0), .int ((Q1 0) 2 1), .int ((Q1 0) 2 2), .int ((Q1 0) 2 3)])), aI E (a 4) 50 ((Q1 0) 0), aI E (a 5) 12 ((Q1 0) 1), ((a 6), .inr (0, [.ref (a 7), .int (Q1 2 0 0)])), aP E (a 7) 6 (fH (a 8) (a 11) (a 14) (a 17) (a 20) (a 23)), ((a 8), .inr (2, [.ref (a 9), .ref (a 10), .int ((Q1 3) 2 0), .int ((Q1 3) 2 1), .int ((Q1 3) 2 2), .int ((Q1 3) 2 3)])), aI E (a 9) 50 ((Q1 3) 0), aI E (a 10) 12 ((Q1 3) 1), ((a 11), .inr (2, [.ref (a 12), .ref (a 13), .int ((Q1 4) 2 0), .int ((Q1 4) 2 1), .int ((Q1 4) 2 2), .int ((Q1 4) 2 3)])), aI E (a 12) 50 ((Q1 4) 0), aI E (a 13) 12 ((Q1 4) 1), ((a 14), .inr (2, [.ref (a 15), .ref (a 16), .int ((Q1 5) 2 0), .int ((Q1 5) 2 1), .int ((Q1 5) 2 2), .int ((Q1 5) 2 3)])), aI E (a 15) 50 ((Q1 5) 0), aI E (a 16) 12 ((Q1 5) 1), ((a 17), .inr (2, [.ref (a 18), .ref (a 19), .int ((Q1 6) 2 0), .int ((Q1 6) 2 1), .int ((Q1 6) 2 2), .int ((Q1 6) 2 3)])), aI E (a 18) 50 ((Q1 6) 0), aI E (a 19) 12 ((Q1 6) 1), ((a 20), .inr (2, [.ref (a 21), .ref (a 22), .int ((Q1 7) 2 0), .int ((Q1 7) 2 1), .int ((Q1 7) 2 2), .int ((Q1 7) 2 3)])), aI E (a 21) 50 ((Q1 7) 0), aI E (a 22) 12 ((Q1 7) 1), ((a 23), .inr (2, [.ref (a 24), .ref (a 25), .int ((Q1 8) 2 0), .int ((Q1 8) 2 1), .int ((Q1 8) 2 2), .int ((Q1 8) 2 3)])), aI E (a 24) 50 ((Q1 8) 0), aI E (a 25) 12 ((Q1 8) 1), ((a 26), .inr (3, [.ref (a 27), .ref (a 28)])), aP E (a 27) 2 (fS (a 29) (a 32)), aZ E (a 28) 2 (Q1 2 1), ((a 29), .inr (2, [.ref (a 30), .ref (a 31), .int ((Q1 9) 2 0), .int ((Q1 9) 2 1), .int ((Q1 9) 2 2), .int ((Q1 9) 2 3)])), aI E (a 30) 50 ((Q1 9) 0), aI E (a 31) 12 ((Q1 9) 1), ((a 32), .inr (2, [.ref (a 33), .ref (a 34), .int ((Q1 10) 2 0), .int ((Q1 10) 2 1), .int ((Q1 10) 2 2), .int ((Q1 10) 2 3)])), aI E (a 33) 50 ((Q1 10) 0), aI E (a 34) 12 ((Q1 10) 1), ((a 35), .inr (1, [.ref (a 36), .ref (a 37), .int ((Q1 1) 2 0)])), aI E (a 36) 80 ((Q1 1) 0), aI E (a 37) 20 ((Q1 1) 1)]) hx hb hml hown hts hl.1 (kX8_put l D E c1 H.size h2) (cwV 1 hts gL_law_X8_put rfl rfl rfl (by decide +kernel) ⟨Nat.le_of_ble_eq_true rfl, Nat.le_of_ble_eq_true rfl⟩) 0 rfl rfl hP hD hS hA hK [38, 39, 40, 41, 42, 43, 44, 45, 46] [0, 1, 2, 3, 4, 5, 6, 7, 8, 9, 10, 11, 12, 13, 14, 15, 16, 17, 18, 19, 20, 21, 22, 23, 24, 25, 26, 27, 28, 29, 30, 31, 32, 33, 34, 35, 36, 37] [0, 1, 2, 3, 4, 5, 6, 7, 8, 9, 10, 11, 12, 13, 14, 15, 16, 17, 18, 19, 20, 21, 22, 23, 24, 25, 26, 27, 28, 29, 30, 31, 32, 33, 34, 35, 36, 37, 38, 39, 40, 41, 42, 43, 44, 45, 46] (by decide) rfl rfl (by decide) (by decide) (by decide) (fun _ => rfl) rfl rfl (Nat.le_of_ble_eq_true rfl) dL_law_772 ⟨by show cells + 0 + 0 ≤ 600000; omega, by show slots + 0 + 0 ≤ 7302250; omega⟩ (fun _ H locs hP hD hS => ?_)
  refine lv_icmp_eq (tgt := 865) hx hb dL_law_775 (by decide) (fun _ => ?_) (fun c9 => absurd rfl c9)
  exact cont a c1 Q1 M1 _ _ _ (cells + 0 + 0) (slots + 0 + 0) (by omega) (by omega) hI1 hP hD hS hl

set_option maxRecDepth 100000 in
set_option maxHeartbeats 4000000 in
theorem law_c18 {p : Program} {e : Env} {s : State} {m : MethodId} {below : List Frame} {meth : Method} {c : Code} {l : Launch} {b L : Nat} {xs : Nat → Int32} {I : (Nat → FS) → FS → Prop} (hc : Coup I) (C0 : CL p s m meth c b L xs) {D : va_G} {E : Nat → ClassId} (hK : va_K D vwCl (tyE E) s) {t : Nat → Nat} (hZ : zSA t s) {i : Nat} (hi : i + 6 ≤ L) {a c1 : Nat → Nat} {Q : Nat → FS} {M : FS} {H : Heap} {locs : List Loc} {ls : Array Slot} {cells slots : Nat} (hcs : cells + 1 ≤ 600000) (hcs2 : slots + 4 ≤ 7302250) (hI : I Q M) (hP : va_P D vwCl ((wQ E a Q) ++ (wMod E c1 M)) H) (hD : va_D (fun q : Nat => s.heap.size ≤ q) ((wQ E a Q) ++ (wMod E c1 M))) (hS : va_S (fun q : Nat => s.heap.size ≤ q) s.heap H locs) (hl : lv_has ls 4 [(0, .ref b), (1, .ref (a 0)), (2, .ref (c1 0)), (3, .int (nI i))])
    (cont : LCont p l e s m below meth c D E I b i a c1 cells slots) : WL p l e s m below meth c b H locs cells slots 780 ls [] := by
  obtain ⟨hx, hb, hr, hml, hown, hts, hX, hbl, hL, hlocks⟩ := C0
  have hA : ∀ q : Nat, s.heap.size ≤ q → (fun q : Nat => s.heap.size ≤ q) q := fun _ h => h
  have hbA : ¬ (fun q : Nat => s.heap.size ≤ q) b := Nat.not_le.mpr hbl
  obtain ⟨r, Q1, M1, h1, h2, hI1⟩ := hc.2.2.2.2.2.2.2.2.2.2.2.2.2.2.2.2.2.2.1 Q M  hI
  refine lv_aload_n hx hb dL_law_780 rfl (lv_at hl 1 rfl) ?_
  refine m_VI (As := []) (rest := []) (C := RX7) (T0 := TX7) (N0 := 4) (ci := 6) (Wn := (fun _ : Unit => (wQ E a Q1) ++ (wMod E c1 M))) (Wr := [((c1 0), .inr (7, [.ref (c1 1), .ref (c1 2), .ref (c1 3), .int (M 8 0), .ref (c1 4), .ref (c1 5), .ref (c1 6), .int (M 8 1), .int (M 8 2), .int (M 8 3), .ref (c1 7), .int (M 8 4), .ref (c1 8), .int (M 8 5)])), aI E (c1 1) 116 (M 0), aI E (c1 2) 116 (M 1), aI E (c1 3) 696 (M 2), aI E (c1 4) 232 (M 3), aZ E (c1 5) 2 (M 4), aI E (c1 6) 80 (M 5), aI E (c1 7) 7 (M 6), aI E (c1 8) 44 (M 7)]) hx hb hml hown hts hl.1 (kX7_wipe l D E a H.size h1) (cwV 0 hts gL_law_X7_wipe rfl rfl rfl (by decide +kernel) ⟨Nat.le_of_ble_eq_true rfl, Nat.le_of_ble_eq_true rfl⟩) 0 rfl rfl hP hD hS hA hK [0, 1, 2, 3, 4, 5, 6, 7, 8, 9, 10, 11, 12, 13, 14, 15, 16, 17, 18, 19, 20, 21, 22, 23, 24, 25, 26, 27, 28, 29, 30, 31, 32, 33, 34, 35, 36, 37] [38, 39, 40, 41, 42, 43, 44, 45, 46] [9, 10, 11, 12, 13, 14, 15, 16, 17, 18, 19, 20, 21, 22, 23, 24, 25, 26, 27, 28, 29, 30, 31, 32, 33, 34, 35, 36, 37, 38, 39, 40, 41, 42, 43, 44, 45, 46, 0, 1, 2, 3, 4, 5, 6, 7, 8] (by decide) rfl rfl (by decide) (by decide) (by decide) (fun _ => rfl) rfl rfl (Nat.le_of_ble_eq_true rfl) dL_law_781 ⟨by show cells + 0 ≤ 600000; omega, by show slots + 0 ≤ 7302250; omega⟩ (fun _ H locs hP hD hS => ?_)
  refine lv_aload_n hx hb dL_law_784 rfl (lv_at hl 2 rfl) ?_
  refine m_VI (As := []) (rest := [.int r]) (C := RX8) (T0 := TX8) (N0 := 14) (ci := 7) (Wn := (fun _ : Unit => (wQ E a Q1) ++ (wMod E c1 M1))) (Wr := [((a 0), .inr (6, [.ref (a 1), .ref (a 6), .ref (a 26), .ref (a 35)])), ((a 1), .inr (4, [.ref (a 3), .ref (a 2)])), aI E (a 2) 8192 ((Q1 0) 3), ((a 3), .inr (2, [.ref (a 4), .ref (a 5), .int ((Q1 0) 2 0), .int ((Q1 0) 2 1), .int ((Q1 0) 2 2), .int ((Q1 0) 2 3)])), aI E (a 4) 50 ((Q1 0) 0), aI E (a 5) 12 ((Q1 0) 1), ((a 6), .inr (0, [.ref (a 7), .int (Q1 2 0 0)])), aP E (a 7) 6 (fH (a 8) (a 11) (a 14) (a 17) (a 20) (a 23)), ((a 8), .inr (2, [.ref (a 9), .ref (a 10), .int ((Q1 3) 2 0), .int ((Q1 3) 2 1), .int ((Q1 3) 2 2), .int ((Q1 3) 2 3)])), aI E (a 9) 50 ((Q1 3) 0), aI E (a 10) 12 ((Q1 3) 1), ((a 11), .inr (2, [.ref (a 12), .ref (a 13), .int ((Q1 4) 2 0), .int ((Q1 4) 2 1), .int ((Q1 4) 2 2), .int ((Q1 4) 2 3)])), aI E (a 12) 50 ((Q1 4) 0), aI E (a 13) 12 ((Q1 4) 1), ((a 14), .inr (2, [.ref (a 15), .ref (a 16), .int ((Q1 5) 2 0), .int ((Q1 5) 2 1), .int ((Q1 5) 2 2), .int ((Q1 5) 2 3)])), aI E (a 15) 50 ((Q1 5) 0), aI E (a 16) 12 ((Q1 5) 1), ((a 17), .inr (2, [.ref (a 18), .ref (a 19), .int ((Q1 6) 2 0), .int ((Q1 6) 2 1), .int ((Q1 6) 2 2), .int ((Q1 6) 2 3)])), aI E (a 18) 50 ((Q1 6) 0), aI E (a 19) 12 ((Q1 6) 1), ((a 20), .inr (2, [.ref (a 21), .ref (a 22), .int ((Q1 7) 2 0), .int ((Q1 7) 2 1), .int ((Q1 7) 2 2), .int ((Q1 7) 2 3)])), aI E (a 21) 50 ((Q1 7) 0), aI E (a 22) 12 ((Q1 7) 1), ((a 23), .inr (2, [.ref (a 24), .ref (a 25), .int ((Q1 8) 2 0), .int ((Q1 8) 2 1), .int ((Q1 8) 2 2), .int ((Q1 8) 2 3)])), aI E (a 24) 50 ((Q1 8) 0), aI E (a 25) 12 ((Q1 8) 1), ((a 26), .inr (3, [.ref (a 27), .ref (a 28)])), aP E (a 27) 2 (fS (a 29) (a 32)), aZ E (a 28) 2 (Q1 2 1), ((a 29), .inr (2, [.ref (a 30), .ref (a 31), .int ((Q1 9) 2 0), .int ((Q1 9) 2 1), .int ((Q1 9) 2 2), .int ((Q1 9) 2 3)])), aI E (a 30) 50 ((Q1 9) 0), aI E (a 31) 12 ((Q1 9) 1), ((a 32), .inr (2, [.ref (a 33), .ref (a 34), .int ((Q1 10) 2 0), .int ((Q1 10) 2 1), .int ((Q1 10) 2 2), .int ((Q1 10) 2 3)])), aI E (a 33) 50 ((Q1 10) 0), aI E (a 34) 12 ((Q1 10) 1), ((a 35), .inr (1, [.ref (a 36), .ref (a 37), .int ((Q1 1) 2 0)])), aI E (a 36) 80 ((Q1 1) 0), aI E (a 37) 20 ((Q1 1) 1)]) hx hb hml hown hts hl.1 (kX8_wipe l D E c1 H.size h2) (cwV 0 hts gL_law_X8_wipe rfl rfl rfl (by decide +kernel) ⟨Nat.le_of_ble_eq_true rfl, Nat.le_of_ble_eq_true rfl⟩) 0 rfl rfl hP hD hS hA hK [38, 39, 40, 41, 42, 43, 44, 45, 46] [0, 1, 2, 3, 4, 5, 6, 7, 8, 9, 10, 11, 12, 13, 14, 15, 16, 17, 18, 19, 20, 21, 22, 23, 24, 25, 26, 27, 28, 29, 30, 31, 32, 33, 34, 35, 36, 37] [0, 1, 2, 3, 4, 5, 6, 7, 8, 9, 10, 11, 12, 13, 14, 15, 16, 17, 18, 19, 20, 21, 22, 23, 24, 25, 26, 27, 28, 29, 30, 31, 32, 33, 34, 35, 36, 37, 38, 39, 40, 41, 42, 43, 44, 45, 46] (by decide) rfl rfl (by decide) (by decide) (by decide) (fun _ => rfl) rfl rfl (Nat.le_of_ble_eq_true rfl) dL_law_785 ⟨by show cells + 0 + 0 ≤ 600000; omega, by show slots + 0 + 0 ≤ 7302250; omega⟩ (fun _ H locs hP hD hS => ?_)
  refine lv_icmp_eq (tgt := 865) hx hb dL_law_788 (by decide) (fun _ => ?_) (fun c9 => absurd rfl c9)
  exact cont a c1 Q1 M1 _ _ _ (cells + 0 + 0) (slots + 0 + 0) (by omega) (by omega) hI1 hP hD hS hl

set_option maxRecDepth 100000 in
set_option maxHeartbeats 4000000 in
theorem law_c19 {p : Program} {e : Env} {s : State} {m : MethodId} {below : List Frame} {meth : Method} {c : Code} {l : Launch} {b L : Nat} {xs : Nat → Int32} {I : (Nat → FS) → FS → Prop} (hc : Coup I) (C0 : CL p s m meth c b L xs) {D : va_G} {E : Nat → ClassId} (hK : va_K D vwCl (tyE E) s) {t : Nat → Nat} (hZ : zSA t s) {i : Nat} (hi : i + 6 ≤ L) {a c1 : Nat → Nat} {Q : Nat → FS} {M : FS} {H : Heap} {locs : List Loc} {ls : Array Slot} {cells slots : Nat} (hcs : cells + 1 ≤ 600000) (hcs2 : slots + 4 ≤ 7302250) (hI : I Q M) (hP : va_P D vwCl ((wQ E a Q) ++ (wMod E c1 M)) H) (hD : va_D (fun q : Nat => s.heap.size ≤ q) ((wQ E a Q) ++ (wMod E c1 M))) (hS : va_S (fun q : Nat => s.heap.size ≤ q) s.heap H locs) (hl : lv_has ls 4 [(0, .ref b), (1, .ref (a 0)), (2, .ref (c1 0)), (3, .int (nI i))])
    (cont : LCont p l e s m below meth c D E I b i a c1 cells slots) : WL p l e s m below meth c b H locs cells slots 793 ls [] := by
  obtain ⟨hx, hb, hr, hml, hown, hts, hX, hbl, hL, hlocks⟩ := C0
  have hA : ∀ q : Nat, s.heap.size ≤ q → (fun q : Nat => s.heap.size ≤ q) q := fun _ h => h
  have hbA : ¬ (fun q : Nat => s.heap.size ≤ q) b := Nat.not_le.mpr hbl
  obtain ⟨r, M1, h1, h2, hI1⟩ := hc.2.2.2.2.2.2.2.2.2.2.2.2.2.2.2.2.2.2.2.1 Q M  hI
  refine lv_aload_n hx hb dL_law_793 rfl (lv_at hl 1 rfl) ?_
  refine q_V (As := []) (rest := []) (C := RX7) (T0 := TX7) (N0 := 4) (ci := 6) hx hb hml hown hts hl.1 (kX7_fault l D E a h1) zNo_mv (cwV 0 hts gL_law_X7_fault rfl rfl rfl (by decide +kernel) ⟨Nat.le_of_ble_eq_true rfl, Nat.le_of_ble_eq_true rfl⟩) 0 rfl rfl (hP.sub (ws' := wQ E a Q) [0, 1, 2, 3, 4, 5, 6, 7, 8, 9, 10, 11, 12, 13, 14, 15, 16, 17, 18, 19, 20, 21, 22, 23, 24, 25, 26, 27, 28, 29, 30, 31, 32, 33, 34, 35, 36, 37] rfl) hK trivial rfl rfl (Nat.le_of_ble_eq_true rfl) dL_law_794 ⟨by show cells + 0 ≤ 600000; omega, by show slots + 0 ≤ 7302250; omega⟩ ?_
  refine lv_aload_n hx hb dL_law_797 rfl (lv_at hl 2 rfl) ?_
  refine m_VI (As := []) (rest := [.int r]) (C := RX8) (T0 := TX8) (N0 := 14) (ci := 7) (Wn := (fun _ : Unit => (wQ E a Q) ++ (wMod E c1 M1))) (Wr := [((a 0), .inr (6, [.ref (a 1), .ref (a 6), .ref (a 26), .ref (a 35)])), ((a 1), .inr (4, [.ref (a 3), .ref (a 2)])), aI E (a 2) 8192 ((Q 0) 3), ((a 3), .inr (2, [.ref (a 4), .ref (a 5), .int ((Q 0) 2 0), .int ((Q 0) 2 1), .int ((Q 0) 2 2), .int ((Q 0) 2 3)])), aI E (a 4) 50 ((Q 0) 0), aI E (a 5) 12 ((Q 0) 1), ((a 6), .inr (0, [.ref (a 7), .int (Q 2 0 0)])), aP E (a 7) 6 (fH (a 8) (a 11) (a 14) (a 17) (a 20) (a 23)), ((a 8), .inr (2, [.ref (a 9), .ref (a 10), .int ((Q 3) 2 0), .int ((Q 3) 2 1), .int ((Q 3) 2 2), .int ((Q 3) 2 3)])), aI E (a 9) 50 ((Q 3) 0), aI E (a 10) 12 ((Q 3) 1), ((a 11), .inr (2, [.ref (a 12), .ref (a 13), .int ((Q 4) 2 0), .int ((Q 4) 2 1), .int ((Q 4) 2 2), .int ((Q 4) 2 3)])), aI E (a 12) 50 ((Q 4) 0), aI E (a 13) 12 ((Q 4) 1), ((a 14), .inr (2, [.ref (a 15), .ref (a 16), .int ((Q 5) 2 0), .int ((Q 5) 2 1), .int ((Q 5) 2 2), .int ((Q 5) 2 3)])), aI E (a 15) 50 ((Q 5) 0), aI E (a 16) 12 ((Q 5) 1), ((a 17), .inr (2, [.ref (a 18), .ref (a 19), .int ((Q 6) 2 0), .int ((Q 6) 2 1), .int ((Q 6) 2 2), .int ((Q 6) 2 3)])), aI E (a 18) 50 ((Q 6) 0), aI E (a 19) 12 ((Q 6) 1), ((a 20), .inr (2, [.ref (a 21), .ref (a 22), .int ((Q 7) 2 0), .int ((Q 7) 2 1), .int ((Q 7) 2 2), .int ((Q 7) 2 3)])), aI E (a 21) 50 ((Q 7) 0), aI E (a 22) 12 ((Q 7) 1), ((a 23), .inr (2, [.ref (a 24), .ref (a 25), .int ((Q 8) 2 0), .int ((Q 8) 2 1), .int ((Q 8) 2 2), .int ((Q 8) 2 3)])), aI E (a 24) 50 ((Q 8) 0), aI E (a 25) 12 ((Q 8) 1), ((a 26), .inr (3, [.ref (a 27), .ref (a 28)])), aP E (a 27) 2 (fS (a 29) (a 32)), aZ E (a 28) 2 (Q 2 1), ((a 29), .inr (2, [.ref (a 30), .ref (a 31), .int ((Q 9) 2 0), .int ((Q 9) 2 1), .int ((Q 9) 2 2), .int ((Q 9) 2 3)])), aI E (a 30) 50 ((Q 9) 0), aI E (a 31) 12 ((Q 9) 1), ((a 32), .inr (2, [.ref (a 33), .ref (a 34), .int ((Q 10) 2 0), .int ((Q 10) 2 1), .int ((Q 10) 2 2), .int ((Q 10) 2 3)])), aI E (a 33) 50 ((Q 10) 0), aI E (a 34) 12 ((Q 10) 1), ((a 35), .inr (1, [.ref (a 36), .ref (a 37), .int ((Q 1) 2 0)])), aI E (a 36) 80 ((Q 1) 0), aI E (a 37) 20 ((Q 1) 1)]) hx hb hml hown hts hl.1 (kX8_fault l D E c1 H.size h2) (cwV 0 hts gL_law_X8_fault rfl rfl rfl (by decide +kernel) ⟨Nat.le_of_ble_eq_true rfl, Nat.le_of_ble_eq_true rfl⟩) 0 rfl rfl hP hD hS hA hK [38, 39, 40, 41, 42, 43, 44, 45, 46] [0, 1, 2, 3, 4, 5, 6, 7, 8, 9, 10, 11, 12, 13, 14, 15, 16, 17, 18, 19, 20, 21, 22, 23, 24, 25, 26, 27, 28, 29, 30, 31, 32, 33, 34, 35, 36, 37] [0, 1, 2, 3, 4, 5, 6, 7, 8, 9, 10, 11, 12, 13, 14, 15, 16, 17, 18, 19, 20, 21, 22, 23, 24, 25, 26, 27, 28, 29, 30, 31, 32, 33, 34, 35, 36, 37, 38, 39, 40, 41, 42, 43, 44, 45, 46] (by decide) rfl rfl (by decide) (by decide) (by decide) (fun _ => rfl) rfl rfl (Nat.le_of_ble_eq_true rfl) dL_law_798 ⟨by show cells + 0 ≤ 600000; omega, by show slots + 0 ≤ 7302250; omega⟩ (fun _ H locs hP hD hS => ?_)
  refine lv_icmp_eq (tgt := 865) hx hb dL_law_801 (by decide) (fun _ => ?_) (fun c9 => absurd rfl c9)
  exact cont a c1 Q M1 _ _ _ (cells + 0) (slots + 0) (by omega) (by omega) hI1 hP hD hS hl

set_option maxRecDepth 100000 in
set_option maxHeartbeats 4000000 in
theorem law_c20 {p : Program} {e : Env} {s : State} {m : MethodId} {below : List Frame} {meth : Method} {c : Code} {l : Launch} {b L : Nat} {xs : Nat → Int32} {I : (Nat → FS) → FS → Prop} (hc : Coup I) (C0 : CL p s m meth c b L xs) {D : va_G} {E : Nat → ClassId} (hK : va_K D vwCl (tyE E) s) {t : Nat → Nat} (hZ : zSA t s) {i : Nat} (hi : i + 6 ≤ L) {a c1 : Nat → Nat} {Q : Nat → FS} {M : FS} {H : Heap} {locs : List Loc} {ls : Array Slot} {cells slots : Nat} (hcs : cells + 1 ≤ 600000) (hcs2 : slots + 4 ≤ 7302250) (hI : I Q M) (hP : va_P D vwCl ((wQ E a Q) ++ (wMod E c1 M)) H) (hD : va_D (fun q : Nat => s.heap.size ≤ q) ((wQ E a Q) ++ (wMod E c1 M))) (hS : va_S (fun q : Nat => s.heap.size ≤ q) s.heap H locs) (hl : lv_has ls 4 [(0, .ref b), (1, .ref (a 0)), (2, .ref (c1 0)), (3, .int (nI i))])
    (cont : LCont p l e s m below meth c D E I b i a c1 cells slots) : WL p l e s m below meth c b H locs cells slots 806 ls [] := by
  obtain ⟨hx, hb, hr, hml, hown, hts, hX, hbl, hL, hlocks⟩ := C0
  have hA : ∀ q : Nat, s.heap.size ≤ q → (fun q : Nat => s.heap.size ≤ q) q := fun _ h => h
  have hbA : ¬ (fun q : Nat => s.heap.size ≤ q) b := Nat.not_le.mpr hbl
  obtain ⟨r, Q1, M1, h1, h2, hI1⟩ := hc.2.2.2.2.2.2.2.2.2.2.2.2.2.2.2.2.2.2.2.2.1 Q M  hI
  refine lv_aload_n hx hb dL_law_806 rfl (lv_at hl 1 rfl) ?_
  refine m_VI (As := []) (rest := []) (C := RX7) (T0 := TX7) (N0 := 4) (ci := 6) (Wn := (fun u9 : Nat → Nat => (wQ E (aZ0 (a 0) u9) Q1) ++ (wMod E c1 M))) (Wr := [((c1 0), .inr (7, [.ref (c1 1), .ref (c1 2), .ref (c1 3), .int (M 8 0), .ref (c1 4), .ref (c1 5), .ref (c1 6), .int (M 8 1), .int (M 8 2), .int (M 8 3), .ref (c1 7), .int (M 8 4), .ref (c1 8), .int (M 8 5)])), aI E (c1 1) 116 (M 0), aI E (c1 2) 116 (M 1), aI E (c1 3) 696 (M 2), aI E (c1 4) 232 (M 3), aZ E (c1 5) 2 (M 4), aI E (c1 6) 80 (M 5), aI E (c1 7) 7 (M 6), aI E (c1 8) 44 (M 7)]) hx hb hml hown hts hl.1 (kX7_undo l D E a H.size h1) (cwV 0 hts gL_law_X7_undo rfl rfl rfl (by decide +kernel) ⟨Nat.le_of_ble_eq_true rfl, Nat.le_of_ble_eq_true rfl⟩) 0 rfl rfl hP hD hS hA hK [0, 1, 2, 3, 4, 5, 6, 7, 8, 9, 10, 11, 12, 13, 14, 15, 16, 17, 18, 19, 20, 21, 22, 23, 24, 25, 26, 27, 28, 29, 30, 31, 32, 33, 34, 35, 36, 37] [38, 39, 40, 41, 42, 43, 44, 45, 46] [9, 10, 11, 12, 13, 14, 15, 16, 17, 18, 19, 20, 21, 22, 23, 24, 25, 26, 27, 28, 29, 30, 31, 32, 33, 34, 35, 36, 37, 38, 39, 40, 41, 42, 43, 44, 45, 46, 0, 1, 2, 3, 4, 5, 6, 7, 8] (by decide) rfl rfl (by decide) (by decide) (by decide) (fun _ => rfl) rfl rfl (Nat.le_of_ble_eq_true rfl) dL_law_807 ⟨by show cells + 0 ≤ 600000; omega, by show slots + 0 ≤ 7302250; omega⟩ (fun u9 H locs hP hD hS => ?_)
  refine lv_aload_n hx hb dL_law_810 rfl (lv_at hl 2 rfl) ?_
  refine m_VI (As := []) (rest := [.int r]) (C := RX8) (T0 := TX8) (N0 := 14) (ci := 7) (Wn := (fun _ : Unit => (wQ E (aZ0 (a 0) u9) Q1) ++ (wMod E c1 M1))) (Wr := [(((aZ0 (a 0) u9) 0), .inr (6, [.ref ((aZ0 (a 0) u9) 1), .ref ((aZ0 (a 0) u9) 6), .ref ((aZ0 (a 0) u9) 26), .ref ((aZ0 (a 0) u9) 35)])), (((aZ0 (a 0) u9) 1), .inr (4, [.ref ((aZ0 (a 0) u9) 3), .ref ((aZ0 (a 0) u9) 2)])), aI E ((aZ0 (a 0) u9) 2) 8192 ((Q1 0) 3), (((aZ0 (a 0) u9) 3), .inr (2, [.ref ((aZ0 (a 0) u9) 4), .ref ((aZ0 (a 0) u9) 5), .int ((Q1 0) 2 0), .int ((Q1 0) 2 1), .int ((Q1 0) 2 2), .int ((Q1 0) 2 3)])), aI E ((aZ0 (a 0) u9) 4) 50 ((Q1 0) 0), aI E ((aZ0 (a 0) u9) 5) 12 ((Q1 0) 1), (((aZ0 (a 0) u9) 6), .inr (0, [.ref ((aZ0 (a 0) u9) 7), .int (Q1 2 0 0)])), aP E ((aZ0 (a 0) u9) 7) 6 (fH ((aZ0 (a 0) u9) 8) ((aZ0 (a 0) u9) 11) ((aZ0 (a 0) u9) 14) ((aZ0 (a 0) u9) 17) ((aZ0 (a 0) u9) 20) ((aZ0 (a 0) u9) 23)), (((aZ0 (a 0) u9) 8), .inr (2, [.ref ((aZ0 (a 0) u9) 9), .ref ((aZ0 (a 0) u9) 10), .int ((Q1 3) 2 0), .int ((Q1 3) 2 1), .int ((Q1 3) 2 2), .int ((Q1 3) 2 3)])), aI E ((aZ0 (a 0) u9) 9) 50 ((Q1 3) 0), aI E ((aZ0 (a 0) u9) 10) 12 ((Q1 3) 1), (((aZ0 (a 0) u9) 11), .inr (2, [.ref ((aZ0 (a 0) u9) 12), .ref ((aZ0 (a 0) u9) 13), .int ((Q1 4) 2 0), .int ((Q1 4) 2 1), .int ((Q1 4) 2 2), .int ((Q1 4) 2 3)])), aI E ((aZ0 (a 0) u9) 12) 50 ((Q1 4) 0), aI E ((aZ0 (a 0) u9) 13) 12 ((Q1 4) 1), (((aZ0 (a 0) u9) 14), .inr (2, [.ref ((aZ0 (a 0) u9) 15), .ref ((aZ0 (a 0) u9) 16), .int ((Q1 5) 2 0), .int ((Q1 5) 2 1), .int ((Q1 5) 2 2), .int ((Q1 5) 2 3)])), aI E ((aZ0 (a 0) u9) 15) 50 ((Q1 5) 0), aI E ((aZ0 (a 0) u9) 16) 12 ((Q1 5) 1), (((aZ0 (a 0) u9) 17), .inr (2, [.ref ((aZ0 (a 0) u9) 18), .ref ((aZ0 (a 0) u9) 19), .int ((Q1 6) 2 0), .int ((Q1 6) 2 1), .int ((Q1 6) 2 2), .int ((Q1 6) 2 3)])), aI E ((aZ0 (a 0) u9) 18) 50 ((Q1 6) 0), aI E ((aZ0 (a 0) u9) 19) 12 ((Q1 6) 1), (((aZ0 (a 0) u9) 20), .inr (2, [.ref ((aZ0 (a 0) u9) 21), .ref ((aZ0 (a 0) u9) 22), .int ((Q1 7) 2 0), .int ((Q1 7) 2 1), .int ((Q1 7) 2 2), .int ((Q1 7) 2 3)])), aI E ((aZ0 (a 0) u9) 21) 50 ((Q1 7) 0), aI E ((aZ0 (a 0) u9) 22) 12 ((Q1 7) 1), (((aZ0 (a 0) u9) 23), .inr (2, [.ref ((aZ0 (a 0) u9) 24), .ref ((aZ0 (a 0) u9) 25), .int ((Q1 8) 2 0), .int ((Q1 8) 2 1), .int ((Q1 8) 2 2), .int ((Q1 8) 2 3)])), aI E ((aZ0 (a 0) u9) 24) 50 ((Q1 8) 0), aI E ((aZ0 (a 0) u9) 25) 12 ((Q1 8) 1), (((aZ0 (a 0) u9) 26), .inr (3, [.ref ((aZ0 (a 0) u9) 27), .ref ((aZ0 (a 0) u9) 28)])), aP E ((aZ0 (a 0) u9) 27) 2 (fS ((aZ0 (a 0) u9) 29) ((aZ0 (a 0) u9) 32)), aZ E ((aZ0 (a 0) u9) 28) 2 (Q1 2 1), (((aZ0 (a 0) u9) 29), .inr (2, [.ref ((aZ0 (a 0) u9) 30), .ref ((aZ0 (a 0) u9) 31), .int ((Q1 9) 2 0), .int ((Q1 9) 2 1), .int ((Q1 9) 2 2), .int ((Q1 9) 2 3)])), aI E ((aZ0 (a 0) u9) 30) 50 ((Q1 9) 0), aI E ((aZ0 (a 0) u9) 31) 12 ((Q1 9) 1), (((aZ0 (a 0) u9) 32), .inr (2, [.ref ((aZ0 (a 0) u9) 33), .ref ((aZ0 (a 0) u9) 34), .int ((Q1 10) 2 0), .int ((Q1 10) 2 1), .int ((Q1 10) 2 2), .int ((Q1 10) 2 3)])), aI E ((aZ0 (a 0) u9) 33) 50 ((Q1 10) 0), aI E ((aZ0 (a 0) u9) 34) 12 ((Q1 10) 1), (((aZ0 (a 0) u9) 35), .inr (1, [.ref ((aZ0 (a 0) u9) 36), .ref ((aZ0 (a 0) u9) 37), .int ((Q1 1) 2 0)])), aI E ((aZ0 (a 0) u9) 36) 80 ((Q1 1) 0), aI E ((aZ0 (a 0) u9) 37) 20 ((Q1 1) 1)]) hx hb hml hown hts hl.1 (kX8_undo l D E c1 H.size h2) (cwV 0 hts gL_law_X8_undo rfl rfl rfl (by decide +kernel) ⟨Nat.le_of_ble_eq_true rfl, Nat.le_of_ble_eq_true rfl⟩) 0 rfl rfl hP hD hS hA hK [38, 39, 40, 41, 42, 43, 44, 45, 46] [0, 1, 2, 3, 4, 5, 6, 7, 8, 9, 10, 11, 12, 13, 14, 15, 16, 17, 18, 19, 20, 21, 22, 23, 24, 25, 26, 27, 28, 29, 30, 31, 32, 33, 34, 35, 36, 37] [0, 1, 2, 3, 4, 5, 6, 7, 8, 9, 10, 11, 12, 13, 14, 15, 16, 17, 18, 19, 20, 21, 22, 23, 24, 25, 26, 27, 28, 29, 30, 31, 32, 33, 34, 35, 36, 37, 38, 39, 40, 41, 42, 43, 44, 45, 46] (by decide) rfl rfl (by decide) (by decide) (by decide) (fun _ => rfl) rfl rfl (Nat.le_of_ble_eq_true rfl) dL_law_811 ⟨by show cells + 0 + 0 ≤ 600000; omega, by show slots + 0 + 0 ≤ 7302250; omega⟩ (fun _ H locs hP hD hS => ?_)
  refine lv_icmp_eq (tgt := 865) hx hb dL_law_814 (by decide) (fun _ => ?_) (fun c9 => absurd rfl c9)
  exact cont (aZ0 (a 0) u9) c1 Q1 M1 _ _ _ (cells + 0 + 0) (slots + 0 + 0) (by omega) (by omega) hI1 hP hD hS hl

set_option maxRecDepth 100000 in
set_option maxHeartbeats 4000000 in
theorem law_c21 {p : Program} {e : Env} {s : State} {m : MethodId} {below : List Frame} {meth : Method} {c : Code} {l : Launch} {b L : Nat} {xs : Nat → Int32} {I : (Nat → FS) → FS → Prop} (hc : Coup I) (C0 : CL p s m meth c b L xs) {D : va_G} {E : Nat → ClassId} (hK : va_K D vwCl (tyE E) s) {t : Nat → Nat} (hZ : zSA t s) {i : Nat} (hi : i + 6 ≤ L) {a c1 : Nat → Nat} {Q : Nat → FS} {M : FS} {H : Heap} {locs : List Loc} {ls : Array Slot} {cells slots : Nat} (hcs : cells + 1 ≤ 600000) (hcs2 : slots + 4 ≤ 7302250) (hI : I Q M) (hP : va_P D vwCl ((wQ E a Q) ++ (wMod E c1 M)) H) (hD : va_D (fun q : Nat => s.heap.size ≤ q) ((wQ E a Q) ++ (wMod E c1 M))) (hS : va_S (fun q : Nat => s.heap.size ≤ q) s.heap H locs) (hl : lv_has ls 4 [(0, .ref b), (1, .ref (a 0)), (2, .ref (c1 0)), (3, .int (nI i))])
    (cont : LCont p l e s m below meth c D E I b i a c1 cells slots) : WL p l e s m below meth c b H locs cells slots 819 ls [] := by
  obtain ⟨hx, hb, hr, hml, hown, hts, hX, hbl, hL, hlocks⟩ := C0
  have hA : ∀ q : Nat, s.heap.size ≤ q → (fun q : Nat => s.heap.size ≤ q) q := fun _ h => h
  have hbA : ¬ (fun q : Nat => s.heap.size ≤ q) b := Nat.not_le.mpr hbl
  obtain ⟨r, Q1, M1, h1, h2, hI1⟩ := hc.2.2.2.2.2.2.2.2.2.2.2.2.2.2.2.2.2.2.2.2.2.1 Q M (xs (i + 1)) hI
  refine lv_aload_n hx hb dL_law_819 rfl (lv_at hl 1 rfl) ?_
  refine lv_aload_n hx hb dL_law_820 rfl (lv_at hl 0 rfl) ?_
  refine lv_iload_n hx hb dL_law_821 rfl (lv_at hl 3 rfl) ?_
  refine lv_iconst (v := 1) hx hb dL_law_822 (by decide) ?_
  refine lv_iadd hx hb dL_law_823 ?_
  refine l_ld (k := 1) hx hb hX hbl hbA hS hL hi (by decide) rfl dL_law_824 ?_
  refine m_VI (As := [.int (xs (i + 1))]) (rest := []) (C := RX7) (T0 := TX7) (N0 := 4) (ci := 6) (Wn := (fun u9 : Nat → Nat => (wQ E (aZ0 (a 0) u9) Q1) ++ (wMod E c1 M))) (Wr := [((c1 0), .inr (7, [.ref (c1 1), .ref (c1 2), .ref (c1 3), .int (M 8 0), .ref (c1 4), .ref (c1 5), .ref (c1 6), .int (M 8 1), .int (M 8 2), .int (M 8 3), .ref (c1 7), .int (M 8 4), .ref (c1 8), .int (M 8 5)])), aI E (c1 1) 116 (M 0), aI E (c1 2) 116 (M 1), aI E (c1 3) 696 (M 2), aI E (c1 4) 232 (M 3), aZ E (c1 5) 2 (M 4), aI E (c1 6) 80 (M 5), aI E (c1 7) 7 (M 6), aI E (c1 8) 44 (M 7)]) hx hb hml hown hts hl.1 (kX7_save l D E a H.size h1) (cwV 1 hts gL_law_X7_save rfl rfl rfl (by decide +kernel) ⟨Nat.le_of_ble_eq_true rfl, Nat.le_of_ble_eq_true rfl⟩) 0 rfl rfl hP hD hS hA hK [0, 1, 2, 3, 4, 5, 6, 7, 8, 9, 10, 11, 12, 13, 14, 15, 16, 17, 18, 19, 20, 21, 22, 23, 24, 25, 26, 27, 28, 29, 30, 31, 32, 33, 34, 35, 36, 37] [38, 39, 40, 41, 42, 43, 44, 45, 46] [9, 10, 11, 12, 13, 14, 15, 16, 17, 18, 19, 20, 21, 22, 23, 24, 25, 26, 27, 28, 29, 30, 31, 32, 33, 34, 35, 36, 37, 38, 39, 40, 41, 42, 43, 44, 45, 46, 0, 1, 2, 3, 4, 5, 6, 7, 8] (by decide) rfl rfl (by decide) (by decide) (by decide) (fun _ => rfl) rfl rfl (Nat.le_of_ble_eq_true rfl) dL_law_825 ⟨by show cells + 0 ≤ 600000; omega, by show slots + 0 ≤ 7302250; omega⟩ (fun u9 H locs hP hD hS => ?_)
  refine lv_aload_n hx hb dL_law_828 rfl (lv_at hl 2 rfl) ?_
  refine lv_aload_n hx hb dL_law_829 rfl (lv_at hl 0 rfl) ?_
  refine lv_iload_n hx hb dL_law_830 rfl (lv_at hl 3 rfl) ?_
  refine lv_iconst (v := 1) hx hb dL_law_831 (by decide) ?_
  refine lv_iadd hx hb dL_law_832 ?_
  refine l_ld (k := 1) hx hb hX hbl hbA hS hL hi (by decide) rfl dL_law_833 ?_
  refine m_VI (As := [.int (xs (i + 1))]) (rest := [.int r]) (C := RX8) (T0 := TX8) (N0 := 14) (ci := 7) (Wn := (fun _ : Unit => (wQ E (aZ0 (a 0) u9) Q1) ++ (wMod E c1 M1))) (Wr := [(((aZ0 (a 0) u9) 0), .inr (6, [.ref ((aZ0 (a 0) u9) 1), .ref ((aZ0 (a 0) u9) 6), .ref ((aZ0 (a 0) u9) 26), .ref ((aZ0 (a 0) u9) 35)])), (((aZ0 (a 0) u9) 1), .inr (4, [.ref ((aZ0 (a 0) u9) 3), .ref ((aZ0 (a 0) u9) 2)])), aI E ((aZ0 (a 0) u9) 2) 8192 ((Q1 0) 3), (((aZ0 (a 0) u9) 3), .inr (2, [.ref ((aZ0 (a 0) u9) 4), .ref ((aZ0 (a 0) u9) 5), .int ((Q1 0) 2 0), .int ((Q1 0) 2 1), .int ((Q1 0) 2 2), .int ((Q1 0) 2 3)])), aI E ((aZ0 (a 0) u9) 4) 50 ((Q1 0) 0), aI E ((aZ0 (a 0) u9) 5) 12 ((Q1 0) 1), (((aZ0 (a 0) u9) 6), .inr (0, [.ref ((aZ0 (a 0) u9) 7), .int (Q1 2 0 0)])), aP E ((aZ0 (a 0) u9) 7) 6 (fH ((aZ0 (a 0) u9) 8) ((aZ0 (a 0) u9) 11) ((aZ0 (a 0) u9) 14) ((aZ0 (a 0) u9) 17) ((aZ0 (a 0) u9) 20) ((aZ0 (a 0) u9) 23)), (((aZ0 (a 0) u9) 8), .inr (2, [.ref ((aZ0 (a 0) u9) 9), .ref ((aZ0 (a 0) u9) 10), .int ((Q1 3) 2 0), .int ((Q1 3) 2 1), .int ((Q1 3) 2 2), .int ((Q1 3) 2 3)])), aI E ((aZ0 (a 0) u9) 9) 50 ((Q1 3) 0), aI E ((aZ0 (a 0) u9) 10) 12 ((Q1 3) 1), (((aZ0 (a 0) u9) 11), .inr (2, [.ref ((aZ0 (a 0) u9) 12), .ref ((aZ0 (a 0) u9) 13), .int ((Q1 4) 2 0), .int ((Q1 4) 2 1), .int ((Q1 4) 2 2), .int ((Q1 4) 2 3)])), aI E ((aZ0 (a 0) u9) 12) 50 ((Q1 4) 0), aI E ((aZ0 (a 0) u9) 13) 12 ((Q1 4) 1), (((aZ0 (a 0) u9) 14), .inr (2, [.ref ((aZ0 (a 0) u9) 15), .ref ((aZ0 (a 0) u9) 16), .int ((Q1 5) 2 0), .int ((Q1 5) 2 1), .int ((Q1 5) 2 2), .int ((Q1 5) 2 3)])), aI E ((aZ0 (a 0) u9) 15) 50 ((Q1 5) 0), aI E ((aZ0 (a 0) u9) 16) 12 ((Q1 5) 1), (((aZ0 (a 0) u9) 17), .inr (2, [.ref ((aZ0 (a 0) u9) 18), .ref ((aZ0 (a 0) u9) 19), .int ((Q1 6) 2 0), .int ((Q1 6) 2 1), .int ((Q1 6) 2 2), .int ((Q1 6) 2 3)])), aI E ((aZ0 (a 0) u9) 18) 50 ((Q1 6) 0), aI E ((aZ0 (a 0) u9) 19) 12 ((Q1 6) 1), (((aZ0 (a 0) u9) 20), .inr (2, [.ref ((aZ0 (a 0) u9) 21), .ref ((aZ0 (a 0) u9) 22), .int ((Q1 7) 2 0), .int ((Q1 7) 2 1), .int ((Q1 7) 2 2), .int ((Q1 7) 2 3)])), aI E ((aZ0 (a 0) u9) 21) 50 ((Q1 7) 0), aI E ((aZ0 (a 0) u9) 22) 12 ((Q1 7) 1), (((aZ0 (a 0) u9) 23), .inr (2, [.ref ((aZ0 (a 0) u9) 24), .ref ((aZ0 (a 0) u9) 25), .int ((Q1 8) 2 0), .int ((Q1 8) 2 1), .int ((Q1 8) 2 2), .int ((Q1 8) 2 3)])), aI E ((aZ0 (a 0) u9) 24) 50 ((Q1 8) 0), aI E ((aZ0 (a 0) u9) 25) 12 ((Q1 8) 1), (((aZ0 (a 0) u9) 26), .inr (3, [.ref ((aZ0 (a 0) u9) 27), .ref ((aZ0 (a 0) u9) 28)])), aP E ((aZ0 (a 0) u9) 27) 2 (fS ((aZ0 (a 0) u9) 29) ((aZ0 (a 0) u9) 32)), aZ E ((aZ0 (a 0) u9) 28) 2 (Q1 2 1), (((aZ0 (a 0) u9) 29), .inr (2, [.ref ((aZ0 (a 0) u9) 30), .ref ((aZ0 (a 0) u9) 31), .int ((Q1 9) 2 0), .int ((Q1 9) 2 1), .int ((Q1 9) 2 2), .int ((Q1 9) 2 3)])), aI E ((aZ0 (a 0) u9) 30) 50 ((Q1 9) 0), aI E ((aZ0 (a 0) u9) 31) 12 ((Q1 9) 1), (((aZ0 (a 0) u9) 32), .inr (2, [.ref ((aZ0 (a 0) u9) 33), .ref ((aZ0 (a 0) u9) 34), .int ((Q1 10) 2 0), .int ((Q1 10) 2 1), .int ((Q1 10) 2 2), .int ((Q1 10) 2 3)])), aI E ((aZ0 (a 0) u9) 33) 50 ((Q1 10) 0), aI E ((aZ0 (a 0) u9) 34) 12 ((Q1 10) 1), (((aZ0 (a 0) u9) 35), .inr (1, [.ref ((aZ0 (a 0) u9) 36), .ref ((aZ0 (a 0) u9) 37), .int ((Q1 1) 2 0)])), aI E ((aZ0 (a 0) u9) 36) 80 ((Q1 1) 0), aI E ((aZ0 (a 0) u9) 37) 20 ((Q1 1) 1)]) hx hb hml hown hts hl.1 (kX8_save l D E c1 H.size h2) (cwV 1 hts gL_law_X8_save rfl rfl rfl (by decide +kernel) ⟨Nat.le_of_ble_eq_true rfl, Nat.le_of_ble_eq_true rfl⟩) 0 rfl rfl hP hD hS hA hK [38, 39, 40, 41, 42, 43, 44, 45, 46] [0, 1, 2, 3, 4, 5, 6, 7, 8, 9, 10, 11, 12, 13, 14, 15, 16, 17, 18, 19, 20, 21, 22, 23, 24, 25, 26, 27, 28, 29, 30, 31, 32, 33, 34, 35, 36, 37] [0, 1, 2, 3, 4, 5, 6, 7, 8, 9, 10, 11, 12, 13, 14, 15, 16, 17, 18, 19, 20, 21, 22, 23, 24, 25, 26, 27, 28, 29, 30, 31, 32, 33, 34, 35, 36, 37, 38, 39, 40, 41, 42, 43, 44, 45, 46] (by decide) rfl rfl (by decide) (by decide) (by decide) (fun _ => rfl) rfl rfl (Nat.le_of_ble_eq_true rfl) dL_law_834 ⟨by show cells + 0 + 0 ≤ 600000; omega, by show slots + 0 + 0 ≤ 7302250; omega⟩ (fun _ H locs hP hD hS => ?_)
  refine lv_icmp_eq (tgt := 865) hx hb dL_law_837 (by decide) (fun _ => ?_) (fun c9 => absurd rfl c9)
  exact cont (aZ0 (a 0) u9) c1 Q1 M1 _ _ _ (cells + 0 + 0) (slots + 0 + 0) (by omega) (by omega) hI1 hP hD hS hl

set_option maxRecDepth 100000 in
set_option maxHeartbeats 4000000 in
theorem law_c22 {p : Program} {e : Env} {s : State} {m : MethodId} {below : List Frame} {meth : Method} {c : Code} {l : Launch} {b L : Nat} {xs : Nat → Int32} {I : (Nat → FS) → FS → Prop} (hc : Coup I) (C0 : CL p s m meth c b L xs) {D : va_G} {E : Nat → ClassId} (hK : va_K D vwCl (tyE E) s) {t : Nat → Nat} (hZ : zSA t s) {i : Nat} (hi : i + 6 ≤ L) {a c1 : Nat → Nat} {Q : Nat → FS} {M : FS} {H : Heap} {locs : List Loc} {ls : Array Slot} {cells slots : Nat} (hcs : cells + 1 ≤ 600000) (hcs2 : slots + 4 ≤ 7302250) (hI : I Q M) (hP : va_P D vwCl ((wQ E a Q) ++ (wMod E c1 M)) H) (hD : va_D (fun q : Nat => s.heap.size ≤ q) ((wQ E a Q) ++ (wMod E c1 M))) (hS : va_S (fun q : Nat => s.heap.size ≤ q) s.heap H locs) (hl : lv_has ls 4 [(0, .ref b), (1, .ref (a 0)), (2, .ref (c1 0)), (3, .int (nI i))])
    (cont : LCont p l e s m below meth c D E I b i a c1 cells slots) : WL p l e s m below meth c b H locs cells slots 842 ls [] := by
  obtain ⟨hx, hb, hr, hml, hown, hts, hX, hbl, hL, hlocks⟩ := C0
  have hA : ∀ q : Nat, s.heap.size ≤ q → (fun q : Nat => s.heap.size ≤ q) q := fun _ h => h
  have hbA : ¬ (fun q : Nat => s.heap.size ≤ q) b := Nat.not_le.mpr hbl
  obtain ⟨r, Q1, M1, h1, h2, hI1⟩ := hc.2.2.2.2.2.2.2.2.2.2.2.2.2.2.2.2.2.2.2.2.2.2 Q M (xs (i + 1)) hI
  refine lv_aload_n hx hb dL_law_842 rfl (lv_at hl 1 rfl) ?_
  refine lv_aload_n hx hb dL_law_843 rfl (lv_at hl 0 rfl) ?_
  refine lv_iload_n hx hb dL_law_844 rfl (lv_at hl 3 rfl) ?_
  refine lv_iconst (v := 1) hx hb dL_law_845 (by decide) ?_
  refine lv_iadd hx hb dL_law_846 ?_
  refine l_ld (k := 1) hx hb hX hbl hbA hS hL hi (by decide) rfl dL_law_847 ?_
  refine m_VI (As := [.int (xs (i + 1))]) (rest := []) (C := RX7) (T0 := TX7) (N0 := 4) (ci := 6) (Wn := (fun u9 : Nat → Nat => (wQ E (aZ0 (a 0) u9) Q1) ++ (wMod E c1 M))) (Wr := [((c1 0), .inr (7, [.ref (c1 1), .ref (c1 2), .ref (c1 3), .int (M 8 0), .ref (c1 4), .ref (c1 5), .ref (c1 6), .int (M 8 1), .int (M 8 2), .int (M 8 3), .ref (c1 7), .int (M 8 4), .ref (c1 8), .int (M 8 5)])), aI E (c1 1) 116 (M 0), aI E (c1 2) 116 (M 1), aI E (c1 3) 696 (M 2), aI E (c1 4) 232 (M 3), aZ E (c1 5) 2 (M 4), aI E (c1 6) 80 (M 5), aI E (c1 7) 7 (M 6), aI E (c1 8) 44 (M 7)]) hx hb hml hown hts hl.1 (kX7_restore l D E a H.size h1) (cwV 1 hts gL_law_X7_restore rfl rfl rfl (by decide +kernel) ⟨Nat.le_of_ble_eq_true rfl, Nat.le_of_ble_eq_true rfl⟩) 0 rfl rfl hP hD hS hA hK [0, 1, 2, 3, 4, 5, 6, 7, 8, 9, 10, 11, 12, 13, 14, 15, 16, 17, 18, 19, 20, 21, 22, 23, 24, 25, 26, 27, 28, 29, 30, 31, 32, 33, 34, 35, 36, 37] [38, 39, 40, 41, 42, 43, 44, 45, 46] [9, 10, 11, 12, 13, 14, 15, 16, 17, 18, 19, 20, 21, 22, 23, 24, 25, 26, 27, 28, 29, 30, 31, 32, 33, 34, 35, 36, 37, 38, 39, 40, 41, 42, 43, 44, 45, 46, 0, 1, 2, 3, 4, 5, 6, 7, 8] (by decide) rfl rfl (by decide) (by decide) (by decide) (fun _ => rfl) rfl rfl (Nat.le_of_ble_eq_true rfl) dL_law_848 ⟨by show cells + 0 ≤ 600000; omega, by show slots + 0 ≤ 7302250; omega⟩ (fun u9 H locs hP hD hS => ?_)
  refine lv_aload_n hx hb dL_law_851 rfl (lv_at hl 2 rfl) ?_
  refine lv_aload_n hx hb dL_law_852 rfl (lv_at hl 0 rfl) ?_
  refine lv_iload_n hx hb dL_law_853 rfl (lv_at hl 3 rfl) ?_
  refine lv_iconst (v := 1) hx hb dL_law_854 (by decide) ?_
  refine lv_iadd hx hb dL_law_855 ?_
  refine l_ld (k := 1) hx hb hX hbl hbA hS hL hi (by decide) rfl dL_law_856 ?_
  refine m_VI (As := [.int (xs (i + 1))]) (rest := [.int r]) (C := RX8) (T0 := TX8) (N0 := 14) (ci := 7) (Wn := (fun _ : Unit => (wQ E (aZ0 (a 0) u9) Q1) ++ (wMod E c1 M1))) (Wr := [(((aZ0 (a 0) u9) 0), .inr (6, [.ref ((aZ0 (a 0) u9) 1), .ref ((aZ0 (a 0) u9) 6), .ref ((aZ0 (a 0) u9) 26), .ref ((aZ0 (a 0) u9) 35)])), (((aZ0 (a 0) u9) 1), .inr (4, [.ref ((aZ0 (a 0) u9) 3), .ref ((aZ0 (a 0) u9) 2)])), aI E ((aZ0 (a 0) u9) 2) 8192 ((Q1 0) 3), (((aZ0 (a 0) u9) 3), .inr (2, [.ref ((aZ0 (a 0) u9) 4), .ref ((aZ0 (a 0) u9) 5), .int ((Q1 0) 2 0), .int ((Q1 0) 2 1), .int ((Q1 0) 2 2), .int ((Q1 0) 2 3)])), aI E ((aZ0 (a 0) u9) 4) 50 ((Q1 0) 0), aI E ((aZ0 (a 0) u9) 5) 12 ((Q1 0) 1), (((aZ0 (a 0) u9) 6), .inr (0, [.ref ((aZ0 (a 0) u9) 7), .int (Q1 2 0 0)])), aP E ((aZ0 (a 0) u9) 7) 6 (fH ((aZ0 (a 0) u9) 8) ((aZ0 (a 0) u9) 11) ((aZ0 (a 0) u9) 14) ((aZ0 (a 0) u9) 17) ((aZ0 (a 0) u9) 20) ((aZ0 (a 0) u9) 23)), (((aZ0 (a 0) u9) 8), .inr (2, [.ref ((aZ0 (a 0) u9) 9), .ref ((aZ0 (a 0) u9) 10), .int ((Q1 3) 2 0), .int ((Q1 3) 2 1), .int ((Q1 3) 2 2), .int ((Q1 3) 2 3)])), aI E ((aZ0 (a 0) u9) 9) 50 ((Q1 3) 0), aI E ((aZ0 (a 0) u9) 10) 12 ((Q1 3) 1), (((aZ0 (a 0) u9) 11), .inr (2, [.ref ((aZ0 (a 0) u9) 12), .ref ((aZ0 (a 0) u9) 13), .int ((Q1 4) 2 0), .int ((Q1 4) 2 1), .int ((Q1 4) 2 2), .int ((Q1 4) 2 3)])), aI E ((aZ0 (a 0) u9) 12) 50 ((Q1 4) 0), aI E ((aZ0 (a 0) u9) 13) 12 ((Q1 4) 1), (((aZ0 (a 0) u9) 14), .inr (2, [.ref ((aZ0 (a 0) u9) 15), .ref ((aZ0 (a 0) u9) 16), .int ((Q1 5) 2 0), .int ((Q1 5) 2 1), .int ((Q1 5) 2 2), .int ((Q1 5) 2 3)])), aI E ((aZ0 (a 0) u9) 15) 50 ((Q1 5) 0), aI E ((aZ0 (a 0) u9) 16) 12 ((Q1 5) 1), (((aZ0 (a 0) u9) 17), .inr (2, [.ref ((aZ0 (a 0) u9) 18), .ref ((aZ0 (a 0) u9) 19), .int ((Q1 6) 2 0), .int ((Q1 6) 2 1), .int ((Q1 6) 2 2), .int ((Q1 6) 2 3)])), aI E ((aZ0 (a 0) u9) 18) 50 ((Q1 6) 0), aI E ((aZ0 (a 0) u9) 19) 12 ((Q1 6) 1), (((aZ0 (a 0) u9) 20), .inr (2, [.ref ((aZ0 (a 0) u9) 21), .ref ((aZ0 (a 0) u9) 22), .int ((Q1 7) 2 0), .int ((Q1 7) 2 1), .int ((Q1 7) 2 2), .int ((Q1 7) 2 3)])), aI E ((aZ0 (a 0) u9) 21) 50 ((Q1 7) 0), aI E ((aZ0 (a 0) u9) 22) 12 ((Q1 7) 1), (((aZ0 (a 0) u9) 23), .inr (2, [.ref ((aZ0 (a 0) u9) 24), .ref ((aZ0 (a 0) u9) 25), .int ((Q1 8) 2 0), .int ((Q1 8) 2 1), .int ((Q1 8) 2 2), .int ((Q1 8) 2 3)])), aI E ((aZ0 (a 0) u9) 24) 50 ((Q1 8) 0), aI E ((aZ0 (a 0) u9) 25) 12 ((Q1 8) 1), (((aZ0 (a 0) u9) 26), .inr (3, [.ref ((aZ0 (a 0) u9) 27), .ref ((aZ0 (a 0) u9) 28)])), aP E ((aZ0 (a 0) u9) 27) 2 (fS ((aZ0 (a 0) u9) 29) ((aZ0 (a 0) u9) 32)), aZ E ((aZ0 (a 0) u9) 28) 2 (Q1 2 1), (((aZ0 (a 0) u9) 29), .inr (2, [.ref ((aZ0 (a 0) u9) 30), .ref ((aZ0 (a 0) u9) 31), .int ((Q1 9) 2 0), .int ((Q1 9) 2 1), .int ((Q1 9) 2 2), .int ((Q1 9) 2 3)])), aI E ((aZ0 (a 0) u9) 30) 50 ((Q1 9) 0), aI E ((aZ0 (a 0) u9) 31) 12 ((Q1 9) 1), (((aZ0 (a 0) u9) 32), .inr (2, [.ref ((aZ0 (a 0) u9) 33), .ref ((aZ0 (a 0) u9) 34), .int ((Q1 10) 2 0), .int ((Q1 10) 2 1), .int ((Q1 10) 2 2), .int ((Q1 10) 2 3)])), aI E ((aZ0 (a 0) u9) 33) 50 ((Q1 10) 0), aI E ((aZ0 (a 0) u9) 34) 12 ((Q1 10) 1), (((aZ0 (a 0) u9) 35), .inr (1, [.ref ((aZ0 (a 0) u9) 36), .ref ((aZ0 (a 0) u9) 37), .int ((Q1 1) 2 0)])), aI E ((aZ0 (a 0) u9) 36) 80 ((Q1 1) 0), aI E ((aZ0 (a 0) u9) 37) 20 ((Q1 1) 1)]) hx hb hml hown hts hl.1 (kX8_restore l D E c1 H.size h2) (cwV 1 hts gL_law_X8_restore rfl rfl rfl (by decide +kernel) ⟨Nat.le_of_ble_eq_true rfl, Nat.le_of_ble_eq_true rfl⟩) 0 rfl rfl hP hD hS hA hK [38, 39, 40, 41, 42, 43, 44, 45, 46] [0, 1, 2, 3, 4, 5, 6, 7, 8, 9, 10, 11, 12, 13, 14, 15, 16, 17, 18, 19, 20, 21, 22, 23, 24, 25, 26, 27, 28, 29, 30, 31, 32, 33, 34, 35, 36, 37] [0, 1, 2, 3, 4, 5, 6, 7, 8, 9, 10, 11, 12, 13, 14, 15, 16, 17, 18, 19, 20, 21, 22, 23, 24, 25, 26, 27, 28, 29, 30, 31, 32, 33, 34, 35, 36, 37, 38, 39, 40, 41, 42, 43, 44, 45, 46] (by decide) rfl rfl (by decide) (by decide) (by decide) (fun _ => rfl) rfl rfl (Nat.le_of_ble_eq_true rfl) dL_law_857 ⟨by show cells + 0 + 0 ≤ 600000; omega, by show slots + 0 + 0 ≤ 7302250; omega⟩ (fun _ H locs hP hD hS => ?_)
  refine lv_icmp_eq (tgt := 865) hx hb dL_law_860 (by decide) (fun _ => ?_) (fun c9 => absurd rfl c9)
  exact cont (aZ0 (a 0) u9) c1 Q1 M1 _ _ _ (cells + 0 + 0) (slots + 0 + 0) (by omega) (by omega) hI1 hP hD hS hl
