/-! plans told as lists; the class's state, made anew out of lists -/
abbrev PL : Type := List Nat × List Nat × Nat × Nat
def asO (P : PL) : AS := mkA (fun j => P.1.getD j 0) (fun j => P.2.1.getD j 0) P.1.length P.2.1.length P.2.2.1 P.2.2.2
def AE (A B : AS) : Prop := (∀ j, j < 4 → A 2 j = B 2 j) ∧ (∀ i, i < A 2 0 → A 0 i = B 0 i) ∧ (∀ i, i < A 2 1 → A 1 i = B 1 i)
theorem RC_ae {P : FS} {A B : AS} (e : AE A B) (h : RC P A) : RC P B := by
  obtain ⟨e1, e2, e3⟩ := e
  have n0 := e1 0 (by decide)
  have n1 := e1 1 (by decide)
  refine ⟨fun j hj => by rw [← e1 j hj]; exact h.1 j hj, fun i hi => ?_, fun i hi => ?_⟩
  · rw [← n0] at hi
    rw [← e2 i hi]
    exact h.2.1 i hi
  · rw [← n1] at hi
    rw [← e3 i hi]
    exact h.2.2 i hi
theorem RT_ae {T : FS} {A B : AS} (e : AE A B) (h : RT T A) : RT T B := by
  refine ⟨RC_ae e h.1, fun d t ht => ?_⟩
  rw [h.2 d t ht, ← e.1 0 (by decide), cnt_congr _ e.2.1]
def cntL (d t : Nat) : List Nat → Nat
  | [] => 0
  | p :: l => cond (Nat.beq (tl d p) t) 1 0 + cntL d t l
theorem cnt_shift (p : Nat → Nat) (d t : Nat) : ∀ n, cnt p d t (n + 1) = cond (Nat.beq (tl d (p 0)) t) 1 0 + cnt (fun j => p (j + 1)) d t n
  | 0 => Nat.add_comm _ _
  | n + 1 => by
    rw [cnt, cnt_shift p d t n]
    exact Nat.add_assoc _ _ _
theorem cntL_v (d t : Nat) : ∀ l : List Nat, cnt (fun j => l.getD j 0) d t l.length = cntL d t l
  | [] => rfl
  | p :: l => by
    show cnt (fun j => (p :: l).getD j 0) d t (l.length + 1) = _
    rw [cnt_shift]
    exact congrArg (cond (Nat.beq (tl d p) t) 1 0 + ·) (cntL_v d t l)
def dpt (t : Nat) : Nat := if t < 4 then 0 else if t < 16 then 1 else if t < 64 then 2 else if t < 256 then 3 else if t < 1024 then 4 else if t < 4096 then 5 else 6
theorem dpt_tv {d t : Nat} (h : tv d t) : dpt t = d := by
  obtain ⟨h1, h2, h3⟩ := h
  unfold dpt
  rcases (show d = 0 ∨ d = 1 ∨ d = 2 ∨ d = 3 ∨ d = 4 ∨ d = 5 ∨ d = 6 by omega) with rfl | rfl | rfl | rfl | rfl | rfl | rfl
  · rw [show (4 : Nat) ^ 0 = 1 by decide] at h2 h3
    rw [if_pos (by omega)]
  · rw [show (4 : Nat) ^ 1 = 4 by decide] at h2 h3
    rw [if_neg (by omega), if_pos (by omega)]
  · rw [show (4 : Nat) ^ 2 = 16 by decide] at h2 h3
    rw [if_neg (by omega), if_neg (by omega), if_pos (by omega)]
  · rw [show (4 : Nat) ^ 3 = 64 by decide] at h2 h3
    rw [if_neg (by omega), if_neg (by omega), if_neg (by omega), if_pos (by omega)]
  · rw [show (4 : Nat) ^ 4 = 256 by decide] at h2 h3
    rw [if_neg (by omega), if_neg (by omega), if_neg (by omega), if_neg (by omega), if_pos (by omega)]
  · rw [show (4 : Nat) ^ 5 = 1024 by decide] at h2 h3
    rw [if_neg (by omega), if_neg (by omega), if_neg (by omega), if_neg (by omega), if_neg (by omega), if_pos (by omega)]
  · rw [show (4 : Nat) ^ 6 = 4096 by decide] at h2 h3
    rw [if_neg (by omega), if_neg (by omega), if_neg (by omega), if_neg (by omega), if_neg (by omega), if_neg (by omega)]
def canL (P : PL) : FS := fun r => match r with
  | 0 => fun i => nI (4096 + P.1.getD i 0)
  | 1 => fun i => nI (P.2.1.getD i 0)
  | 2 => fun j => nI (asO P 2 j)
  | _ => fun t => nI (cntL (dpt t) t P.1)
theorem canL_RC (P : PL) : RC (canL P) (asO P) := ⟨fun _ _ => rfl, fun _ _ => rfl, fun _ _ => rfl⟩
theorem canL_RT (P : PL) : RT (canL P) (asO P) := ⟨canL_RC P, fun d t ht => by
  show nI (cntL (dpt t) t P.1) = nI (cnt (fun j => P.1.getD j 0) d t P.1.length)
  rw [dpt_tv ht, cntL_v]⟩
/-- a plan's lists, read out of its rows -/
def rbP (P : FS) : PL := ((List.range (P 2 0).toNatClampNeg).map (fun i => (P 0 i).toNatClampNeg - 4096), (List.range (P 2 1).toNatClampNeg).map (fun i => (P 1 i).toNatClampNeg), (P 2 2).toNatClampNeg, (P 2 3).toNatClampNeg)
theorem gm {α : Type} (f : Nat → α) (d : α) {n i : Nat} (h : i < n) : ((List.range n).map f).getD i d = f i := by
  rw [List.getD_eq_getElem?_getD, List.getElem?_map, List.getElem?_range h]
  rfl
theorem gl {α : Type} (f : Nat → α) (n : Nat) : ((List.range n).map f).length = n := by
  rw [List.length_map, List.length_range]
theorem rbP_AE {P : FS} {A : AS} (h : RC P A) (hA : AV A) : AE (asO (rbP P)) A := by
  obtain ⟨h1, h2, ⟨h31, h32⟩, ⟨h41, h42⟩, h5, h6, h7, h8⟩ := hA
  have n0 : (P 2 0).toNatClampNeg = A 2 0 := by rw [h.1 0 (by decide)]; exact nI_clamp (by omega)
  have n1 : (P 2 1).toNatClampNeg = A 2 1 := by rw [h.1 1 (by decide)]; exact nI_clamp (by omega)
  have n2 : (P 2 2).toNatClampNeg = A 2 2 := by rw [h.1 2 (by decide)]; exact nI_clamp (by omega)
  have n3 : (P 2 3).toNatClampNeg = A 2 3 := by rw [h.1 3 (by decide)]; exact nI_clamp (by omega)
  have l0 : asO (rbP P) 2 0 = A 2 0 := by rw [← n0]; exact gl _ _
  have l1 : asO (rbP P) 2 1 = A 2 1 := by rw [← n1]; exact gl _ _
  refine ⟨fun j hj => ?_, fun i hi => ?_, fun i hi => ?_⟩
  · rcases (show j = 0 ∨ j = 1 ∨ j = 2 ∨ j = 3 by omega) with rfl | rfl | rfl | rfl
    · exact l0
    · exact l1
    · exact n2
    · exact n3
  · rw [l0] at hi
    have e : asO (rbP P) 0 i = (P 0 i).toNatClampNeg - 4096 := gm _ 0 (by rw [n0]; exact hi)
    have h9 := h5 i hi
    rw [e, h.2.1 i hi, nI_clamp (by omega)]
    omega
  · rw [l1] at hi
    have e : asO (rbP P) 1 i = (P 1 i).toNatClampNeg := gm _ 0 (by rw [n1]; exact hi)
    have h9 := h7 i hi
    rw [e, h.2.2 i hi, nI_clamp (by omega)]
abbrev St : Type := PL × List PL × Option PL × Option PL × List Nat
def p00 : PL := ([], [], 2, 6)
/-- the class's state, out of lists: plan, history (the oldest first), the two slots, the pad -/
def Qc (z : St) : Nat → FS := fun k => match k with
  | 0 => canL z.1
  | 1 => fun r => match r with
    | 0 => fun i => nI (z.2.2.2.2.getD i 0)
    | 1 => fun _ => 0
    | _ => fun _ => nI z.2.2.2.2.length
  | 2 => fun r => match r with
    | 0 => fun _ => nI z.2.1.length
    | _ => fun i => match i with
      | 0 => bi z.2.2.1.isSome
      | _ => bi z.2.2.2.1.isSome
  | 9 => canL (z.2.2.1.getD p00)
  | 10 => canL (z.2.2.2.1.getD p00)
  | k + 3 => canL (z.2.1.getD k p00)
theorem Qc_h (z : St) {i : Nat} (hi : i < 6) : Qc z (3 + i) = canL (z.2.1.getD i p00) := by
  rcases (show i = 0 ∨ i = 1 ∨ i = 2 ∨ i = 3 ∨ i = 4 ∨ i = 5 by omega) with rfl | rfl | rfl | rfl | rfl | rfl
  · rfl
  · rfl
  · rfl
  · rfl
  · rfl
  · rfl
def rbO (v : Int32) (P : FS) : Option PL := if v = 1 then some (rbP P) else none
def rb (Q : Nat → FS) : St := (rbP (Q 0), (List.range (Q 2 0 0).toNatClampNeg).map (fun i => rbP (Q (3 + i))), rbO (Q 2 1 0) (Q 9), rbO (Q 2 1 1) (Q 10), (List.range (Q 1 2 0).toNatClampNeg).map (fun i => (Q 1 0 i).toNatClampNeg))
theorem rbO_s (b : Bool) (P : FS) : (rbO (bi b) P).isSome = b := by
  cases b with
  | true => rfl
  | false => rfl
theorem rbO_g (P : FS) : (rbO (bi true) P).getD p00 = rbP P := rfl
theorem can_JJ {Q : Nat → FS} {M : FS} {A : AS} {s : Nat} {H : Nat → AS} {fl : Nat → Bool} {SL : Nat → AS} {L : Nat} {C : Nat → Nat} {a : Nat} (h : JJ Q M A s H fl SL L C a) : JJ (Qc (rb Q)) M A s H fl SL L C a := by
  obtain ⟨h1, h2, h3, ⟨k1, k2, k3, k4⟩, h5, ⟨p1, p2, p3, p4⟩, h7, h8⟩ := h
  have q0 := h5 0 (by decide)
  have q1 := h5 1 (by decide)
  refine ⟨h1, RT_ae (rbP_AE h2.1 h1) (canL_RT _), h3, ⟨k1, ?_, k3, fun i hi => ⟨(k4 i hi).1, ?_, (k4 i hi).2.2⟩⟩, fun i hi => ?_, ⟨p1, ?_, p3, fun i hi => ⟨?_, (p4 i hi).2⟩⟩, h7, h8⟩
  · show nI ((List.range (Q 2 0 0).toNatClampNeg).map (fun i => rbP (Q (3 + i)))).length = nI s
    rw [gl, k2, nI_clamp (by omega)]
  · rw [Qc_h _ (by omega)]
    have e : (rb Q).2.1.getD i p00 = rbP (Q (3 + i)) := gm _ p00 (by rw [k2, nI_clamp (by omega)]; exact hi)
    rw [e]
    exact RC_ae (rbP_AE (k4 i hi).2.1 (k4 i hi).1) (canL_RC _)
  · rcases (show i = 0 ∨ i = 1 by omega) with rfl | rfl
    · refine ⟨?_, q0.2.1, fun e => ⟨(q0.2.2 e).1, ?_, (q0.2.2 e).2.2⟩⟩
      · show bi (rbO (Q 2 1 0) (Q 9)).isSome = bi (fl 0)
        rw [q0.1, rbO_s]
      · show RC (canL ((rbO (Q 2 1 0) (Q 9)).getD p00)) (SL 0)
        rw [q0.1, e, rbO_g]
        exact RC_ae (rbP_AE (q0.2.2 e).2.1 (q0.2.2 e).1) (canL_RC _)
    · refine ⟨?_, q1.2.1, fun e => ⟨(q1.2.2 e).1, ?_, (q1.2.2 e).2.2⟩⟩
      · show bi (rbO (Q 2 1 1) (Q 10)).isSome = bi (fl 1)
        rw [q1.1, rbO_s]
      · show RC (canL ((rbO (Q 2 1 1) (Q 10)).getD p00)) (SL 1)
        rw [q1.1, e, rbO_g]
        exact RC_ae (rbP_AE (q1.2.2 e).2.1 (q1.2.2 e).1) (canL_RC _)
  · show nI ((List.range (Q 1 2 0).toNatClampNeg).map (fun i => (Q 1 0 i).toNatClampNeg)).length = nI L
    rw [gl, p2, nI_clamp (by omega)]
  · have e : (rb Q).2.2.2.2.getD i 0 = (Q 1 0 i).toNatClampNeg := gm _ 0 (by rw [p2, nI_clamp (by omega)]; exact hi)
    have hc := (p4 i hi).2.2
    show nI ((rb Q).2.2.2.2.getD i 0) = nI (C i)
    rw [e, (p4 i hi).1, nI_clamp (by omega)]
theorem can_II {Q : Nat → FS} {M : FS} (h : II Q M) : II (Qc (rb Q)) M := by
  obtain ⟨A, s, H, fl, SL, L, C, a, h⟩ := h
  exact ⟨A, s, H, fl, SL, L, C, a, can_JJ h⟩
/-- the class in a state, told by lists up to what no call can see -/
def Bis (Q : Nat → FS) (z : St) : Prop := ∃ M, II Q M ∧ II (Qc z) M
theorem Bis_of {Q : Nat → FS} {M : FS} {z : St} (h : II Q M) (e : rb Q = z) : Bis Q z := by
  subst e
  exact ⟨M, h, can_II h⟩
theorem b_m (f : (Nat → FS) → Option (Int32 × (Nat → FS))) (g : FS → Option (Int32 × FS)) (c : ∀ Q M, II Q M → ∃ (r : Int32) (Q1 : Nat → FS) (M1 : FS), f Q = some (r, Q1) ∧ g M = some (r, M1) ∧ II Q1 M1) {Q : Nat → FS} {z z1 : St} {r : Int32} (h : Bis Q z) (e : (f (Qc z)).map (fun p => (p.1, rb p.2)) = some (r, z1)) : ∃ Q1, f Q = some (r, Q1) ∧ Bis Q1 z1 := by
  obtain ⟨M, h1, h2⟩ := h
  obtain ⟨r1, Q1, M1, a1, a2, a3⟩ := c Q M h1
  obtain ⟨r2, Q2, M2, b1, b2, b3⟩ := c (Qc z) M h2
  rw [a2] at b2
  injection b2 with b2
  injection b2 with b4 b5
  subst b4
  subst b5
  rw [b1, Option.map_some] at e
  injection e with e
  injection e with e1 e2
  subst e1
  subst e2
  exact ⟨Q1, a1, M1, a3, can_II b3⟩
theorem b_r (f : (Nat → FS) → Option Int32) (g : FS → Option Int32) (c : ∀ Q M, II Q M → ∃ r : Int32, f Q = some r ∧ g M = some r) {Q : Nat → FS} {z : St} {r : Int32} (h : Bis Q z) (e : f (Qc z) = some r) : f Q = some r := by
  obtain ⟨M, h1, h2⟩ := h
  obtain ⟨r1, a1, a2⟩ := c Q M h1
  obtain ⟨r2, b1, b2⟩ := c (Qc z) M h2
  rw [a1, ← a2, b2, ← b1, e]
theorem b_n (f : (Nat → FS) → Option Int32) (g : FS → Option (Int32 × FS)) (c : ∀ Q M, II Q M → ∃ (r : Int32) (M1 : FS), f Q = some r ∧ g M = some (r, M1) ∧ II Q M1) {Q : Nat → FS} {z : St} {r : Int32} (h : Bis Q z) (e : f (Qc z) = some r) : f Q = some r := by
  obtain ⟨M, h1, h2⟩ := h
  obtain ⟨r1, M1, a1, a2, _⟩ := c Q M h1
  obtain ⟨r2, M2, b1, b2, _⟩ := c (Qc z) M h2
  rw [a2] at b2
  injection b2 with b2
  injection b2 with b4 b5
  rw [a1, b4, ← b1, e]
