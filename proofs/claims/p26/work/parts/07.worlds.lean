/-! worlds: the cells of each kind of object, rooms, the static rows -/
abbrev rmN (f L : Nat) : Room := { frames := f, cells := 0, slots := 0, locals := L }
abbrev rmR (f L k d : Nat) : Room := { frames := f + d, cells := 0, slots := 0, locals := L + k * d }
theorem rmR_f {f L k d g h : Nat} (q : g + 1 ≤ f) : (rmN g h).frames + 1 ≤ (rmR f L k d).frames := Nat.le_trans q (Nat.le_add_right f d)
theorem rmR_l {f L k d g h x : Nat} (q : 8 + (x + 11) + h ≤ L) : 8 + (x + 11) + (rmN g h).locals ≤ (rmR f L k d).locals := Nat.le_trans q (Nat.le_add_right L (k * d))
theorem rmR_sf {f L k d : Nat} : (rmR f L k d).frames + 1 ≤ (rmR f L k (d + 1)).frames := Nat.le_refl _
theorem rmR_sl {f L k d x : Nat} (q : 8 + (x + 11) ≤ k) : 8 + (x + 11) + (rmR f L k d).locals ≤ (rmR f L k (d + 1)).locals := by
  show 8 + (x + 11) + (L + k * d) ≤ L + k * (d + 1)
  rw [Nat.mul_succ]
  omega
theorem rmR_1 {f L k d : Nat} (q : 1 ≤ f) : 1 ≤ (rmR f L k d).frames := Nat.le_trans q (Nat.le_add_right f d)
theorem rmR_13 {f L k d x : Nat} (q : x ≤ L) : x ≤ (rmR f L k d).locals := Nat.le_trans q (Nat.le_add_right L (k * d))
abbrev aI (E : Nat → ClassId) (a n : Nat) (f : FA) : Nat × va_E := (a, .inl (E 0, n, .inl f))
abbrev aZ (E : Nat → ClassId) (a n : Nat) (f : FA) : Nat × va_E := (a, .inl (E 1, n, .inl f))
abbrev aP (E : Nat → ClassId) (a n : Nat) (f : Nat → Option Nat) : Nat × va_E := (a, .inl (E 2, n, .inr (.inr (.inr (.inr f)))))
abbrev wPlan (E : Nat → ClassId) (a0 a1 a2 : Nat) (P : FS) : va_W := [(a0, .inr (2, [.ref a1, .ref a2, .int (P 2 0), .int (P 2 1), .int (P 2 2), .int (P 2 3)])), aI E a1 50 (P 0), aI E a2 12 (P 1)]
abbrev wTree (E : Nat → ClassId) (a0 a1 a2 a3 a4 : Nat) (T : FS) : va_W := [(a0, .inr (4, [.ref a2, .ref a1])), aI E a1 8192 (T 3), (a2, .inr (2, [.ref a3, .ref a4, .int (T 2 0), .int (T 2 1), .int (T 2 2), .int (T 2 3)])), aI E a3 50 (T 0), aI E a4 12 (T 1)]
abbrev wPad (E : Nat → ClassId) (a0 a1 a2 : Nat) (S : FS) : va_W := [(a0, .inr (1, [.ref a1, .ref a2, .int (S 2 0)])), aI E a1 80 (S 0), aI E a2 20 (S 1)]
abbrev wWin (a0 : Nat) (w : FA) : va_W := [(a0, .inr (5, [.int (w 0), .int (w 1), .int (w 2), .int (w 3)]))]
abbrev fH (a0 a1 a2 a3 a4 a5 : Nat) : Nat → Option Nat := fun i => match i with
  | 0 => some a0
  | 1 => some a1
  | 2 => some a2
  | 3 => some a3
  | 4 => some a4
  | _ => some a5
abbrev wHist (E : Nat → ClassId) (a0 a1 a2 a3 a4 a5 a6 a7 a8 a9 a10 a11 a12 a13 a14 a15 a16 a17 a18 a19 : Nat) (Q : Nat → FS) : va_W := [(a0, .inr (0, [.ref a1, .int (Q 2 0 0)])), aP E a1 6 (fH a2 a5 a8 a11 a14 a17)] ++ wPlan E a2 a3 a4 (Q 3) ++ wPlan E a5 a6 a7 (Q 4) ++ wPlan E a8 a9 a10 (Q 5) ++ wPlan E a11 a12 a13 (Q 6) ++ wPlan E a14 a15 a16 (Q 7) ++ wPlan E a17 a18 a19 (Q 8)
abbrev fS (a0 a1 : Nat) : Nat → Option Nat := fun i => match i with
  | 0 => some a0
  | _ => some a1
abbrev wSlots (E : Nat → ClassId) (a0 a1 a2 a3 a4 a5 a6 a7 a8 : Nat) (Q : Nat → FS) : va_W := [(a0, .inr (3, [.ref a1, .ref a2])), aP E a1 2 (fS a3 a6), aZ E a2 2 (Q 2 1)] ++ wPlan E a3 a4 a5 (Q 9) ++ wPlan E a6 a7 a8 (Q 10)
abbrev wQ (E : Nat → ClassId) (a : Nat → Nat) (Q : Nat → FS) : va_W := [(a 0, .inr (6, [.ref (a 1), .ref (a 6), .ref (a 26), .ref (a 35)]))] ++ wTree E (a 1) (a 2) (a 3) (a 4) (a 5) (Q 0) ++ wHist E (a 6) (a 7) (a 8) (a 9) (a 10) (a 11) (a 12) (a 13) (a 14) (a 15) (a 16) (a 17) (a 18) (a 19) (a 20) (a 21) (a 22) (a 23) (a 24) (a 25) Q ++ wSlots E (a 26) (a 27) (a 28) (a 29) (a 30) (a 31) (a 32) (a 33) (a 34) Q ++ wPad E (a 35) (a 36) (a 37) (Q 1)
abbrev wMod (E : Nat → ClassId) (a : Nat → Nat) (M : FS) : va_W := [(a 0, .inr (7, [.ref (a 1), .ref (a 2), .ref (a 3), .int (M 8 0), .ref (a 4), .ref (a 5), .ref (a 6), .int (M 8 1), .int (M 8 2), .int (M 8 3), .ref (a 7), .int (M 8 4), .ref (a 8), .int (M 8 5)])), aI E (a 1) 116 (M 0), aI E (a 2) 116 (M 1), aI E (a 3) 696 (M 2), aI E (a 4) 232 (M 3), aZ E (a 5) 2 (M 4), aI E (a 6) 80 (M 5), aI E (a 7) 7 (M 6), aI E (a 8) 44 (M 7)]
def stX : FA := fun j => match j with
  | 0 => 1
  | 1 => 1
  | 2 => 0
  | 3 => -1
  | 4 => -1
  | 5 => -1
  | 6 => 0
  | _ => 1
def stY : FA := fun j => match j with
  | 0 => 0
  | 1 => 1
  | 2 => 1
  | 3 => 1
  | 4 => 0
  | 5 => -1
  | 6 => -1
  | _ => -1
def stO : FA := fun j => match j with
  | 0 => 0
  | 1 => 0
  | 2 => 1
  | _ => 2
def stU : FA := fun j => match j with
  | 0 => 2
  | 1 => 1
  | 2 => 3
  | _ => 3
/-- what the tables say of private methods called from another class of the nest -/
def NY (U : State) : Prop := va_Nw (.methodLinkNest RX7 144 yX5_leavesIn "QuarterTiles") U ∧ va_Nw (.methodLinkNest RX7 167 yX5_deepestIn "QuarterTiles") U ∧ va_Nw (.methodLinkNest RX7 170 yX5_emptyLeavesIn "QuarterTiles") U ∧ va_Nw (.methodLinkNest RX7 173 yX5_unevennessIn "QuarterTiles") U ∧ va_Nw (.methodLinkNest RX7 191 yX5_leavesMeeting "QuarterTiles") U ∧ va_Nw (.methodLinkNest RX7 195 yX5_tilesMeeting "QuarterTiles") U
theorem NY.warm {s U : State} (hW : s.WarmedH U.vm) (h : NY s) : NY U := ⟨h.1.warmM hW, h.2.1.warmM hW, h.2.2.1.warmM hW, h.2.2.2.1.warmM hW, h.2.2.2.2.1.warmM hW, h.2.2.2.2.2.warmM hW⟩
theorem NY.same {u U : State} (e : u.vm = U.vm) (h : NY u) : NY U := ⟨h.1.same rfl e, h.2.1.same rfl e, h.2.2.1.same rfl e, h.2.2.2.1.same rfl e, h.2.2.2.2.1.same rfl e, h.2.2.2.2.2.same rfl e⟩
abbrev zSt (t : Nat → Nat) : zT := fun U H => va_Z "QuarterTiles$Numbers" "STEP_X" "[I" (.ref (t 0)) nA U H ∧ va_T .int (t 0) 8 (fun j => .int (stX j)) nA U H ∧ va_Z "QuarterTiles$Numbers" "STEP_Y" "[I" (.ref (t 1)) nA U H ∧ va_T .int (t 1) 8 (fun j => .int (stY j)) nA U H ∧ va_Z "QuarterTiles$Tree" "ONE_QUARTER_SEEN" "[I" (.ref (t 2)) nA U H ∧ va_T .int (t 2) 4 (fun j => .int (stO j)) nA U H ∧ va_Z "QuarterTiles$Tree" "OTHER_QUARTER_SEEN" "[I" (.ref (t 3)) nA U H ∧ va_T .int (t 3) 4 (fun j => .int (stU j)) nA U H ∧ NY U
theorem zSt_mv {t : Nat → Nat} : zmv (zSt t) := ⟨fun u U H e h => ⟨h.1.moved (e ▸ Vm.Alike.refl u.vm), h.2.1.moved (e ▸ Vm.Alike.refl u.vm), h.2.2.1.moved (e ▸ Vm.Alike.refl u.vm), h.2.2.2.1.moved (e ▸ Vm.Alike.refl u.vm), h.2.2.2.2.1.moved (e ▸ Vm.Alike.refl u.vm), h.2.2.2.2.2.1.moved (e ▸ Vm.Alike.refl u.vm), h.2.2.2.2.2.2.1.moved (e ▸ Vm.Alike.refl u.vm), h.2.2.2.2.2.2.2.1.moved (e ▸ Vm.Alike.refl u.vm), h.2.2.2.2.2.2.2.2.same e⟩, fun u U H hW h => ⟨h.1.moved hW.alike, h.2.1.moved hW.alike, h.2.2.1.moved hW.alike, h.2.2.2.1.moved hW.alike, h.2.2.2.2.1.moved hW.alike, h.2.2.2.2.2.1.moved hW.alike, h.2.2.2.2.2.2.1.moved hW.alike, h.2.2.2.2.2.2.2.1.moved hW.alike, h.2.2.2.2.2.2.2.2.warm hW⟩⟩
