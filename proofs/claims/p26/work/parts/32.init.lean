/-! a state compared by a program: two lists of plans, part by part -/
def eqP (a b : PL) : Bool := decide (a = b)
def eqO (a b : Option PL) : Bool := decide (a = b)
def eqL (a b : List PL) : Bool := decide (a = b)
def eqN (a b : List Nat) : Bool := decide (a = b)
def eqS (a b : St) : Bool := eqP a.1 b.1 && (eqL a.2.1 b.2.1 && (eqO a.2.2.1 b.2.2.1 && (eqO a.2.2.2.1 b.2.2.2.1 && eqN a.2.2.2.2 b.2.2.2.2)))
theorem eqS_e {a b : St} (h : eqS a b = true) : a = b := by
  unfold eqS at h
  rw [Bool.and_eq_true, Bool.and_eq_true, Bool.and_eq_true, Bool.and_eq_true] at h
  obtain ⟨h1, h2, h3, h4, h5⟩ := h
  have h1 : a.1 = b.1 := of_decide_eq_true h1
  have h2 : a.2.1 = b.2.1 := of_decide_eq_true h2
  have h3 : a.2.2.1 = b.2.2.1 := of_decide_eq_true h3
  have h4 : a.2.2.2.1 = b.2.2.2.1 := of_decide_eq_true h4
  have h5 : a.2.2.2.2 = b.2.2.2.2 := of_decide_eq_true h5
  exact Prod.ext h1 (Prod.ext h2 (Prod.ext h3 (Prod.ext h4 h5)))
def ck (o : Option (Int32 × (Nat → FS))) (r : Int32) (z : St) : Bool := match o with
  | none => false
  | some p => decide (p.1 = r) && eqS (rb p.2) z
theorem ck_e {o : Option (Int32 × (Nat → FS))} {r : Int32} {z : St} (h : ck o r z = true) : o.map (fun p => (p.1, rb p.2)) = some (r, z) := by
  cases o with
  | none => cases h
  | some p =>
    have h : (decide (p.1 = r) && eqS (rb p.2) z) = true := h
    rw [Bool.and_eq_true] at h
    rw [Option.map_some, show p.1 = r from of_decide_eq_true h.1, eqS_e h.2]
/-! the law's first two calls -/
theorem law_init : ∃ (Z1 Z2 : Nat → FS) (A7 : AS), fX7_point Q00 7 7 = some (1, Z1) ∧ fX7_save Z1 0 = some (1, Z2) ∧ SeenH Z2 A7 ∧ ∀ f : Nat → Int64, LInv (sv A7) 0 Z2 f := by
  obtain ⟨r, Q1, e, st⟩ := point_s init_JJ 7 7
  have hB0 : Bis Q00 (([], [], 2, 6), [], none, none, []) := Bis_of init_II (eqS_e (by decide +kernel))
  obtain ⟨Q2, e2, hB⟩ := b_m (fun Q => fX7_point Q 7 7) (fun M => fX8_point M 7 7) (fun Q M h => point_c Q M 7 7 h) hB0 (r := 1) (z1 := (([63], [], 2, 6), [([], [], 2, 6)], none, none, [])) (ck_e (by decide +kernel))
  have e2 : fX7_point Q00 7 7 = some (1, Q2) := e2
  rw [e] at e2
  injection e2 with e2
  injection e2 with e3 e4
  subst e3
  subst e4
  rcases st with ⟨h1, _⟩ | ⟨_, M1, A1, j1, g1, g2⟩
  · exact absurd h1 (by decide)
  · have c0 : fX7_count Q1 0 = some 1 := b_n (fun Q => fX7_count Q 0) (fun M => fX8_count M 0) (fun Q M h => count_c Q M 0 h) hB (r := 1) (by decide +kernel)
    rw [count0_J j1] at c0
    injection c0 with c0
    have hn := j1.1.1
    have c1 : A1 2 0 = 1 := (nI_eq (b := 1) (by omega) (by decide)).mp c0
    have hg : GO A1 := g1 (fun i hi => absurd hi (Nat.not_lt_zero i))
    obtain ⟨Z2, M2, e5, j2⟩ := save_x j1
    rw [c1] at e5
    exact ⟨Q1, Z2, A1, e, e5, SeenJ j2, fun f => ⟨M2, A1, nxS 0, _, _, _, _, _, fun _ => A1, j2, rfl, rfl, hg, c1, rfl, hg, by omega, rfl, rfl, fun j hj => absurd hj (Nat.not_lt_zero j), fun i h1 h2 => absurd (Nat.le_trans h1 h2) (by decide)⟩⟩
