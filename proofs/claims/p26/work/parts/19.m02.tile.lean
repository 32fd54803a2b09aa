/-! numbers of tiles: depth, the tile around a place -/
theorem lit (n : Nat) : (OfNat.ofNat n : Int32) = nI (OfNat.ofNat n) := rfl
theorem sl31 : ∀ n, n < 32 → ((nI n &&& 31).toBitVec.smod 32).toNat = n := by decide +kernel
theorem nI_sub {a b : Nat} (h : b ≤ a) : nI a - nI b = nI (a - b) := pk_sub h
theorem shrN {n s : Nat} (h : n < 2 ^ 31) (hs : s < 32) : nI n >>> (nI s &&& 31) = nI (n / 2 ^ s) := pk_shrN h _ s (sl31 s hs)
theorem shlN {n s : Nat} (h : n * 2 ^ s < 2 ^ 32) (hs : s < 32) : nI n <<< (nI s &&& 31) = nI (n * 2 ^ s) := pk_shlN _ s (sl31 s hs) h
theorem pow4 (k : Nat) : (2 : Nat) ^ (2 * k) = 4 ^ k := by rw [Nat.pow_mul]
theorem dep_go {x : Int32} {d : Nat} (hd : d ≤ 7) (hn : ∀ k, k < d → ¬ (x >>> (((2:Int32) * nI k) &&& 31)) = 1) (hy : d ≤ 6 → (x >>> (((2:Int32) * nI d) &&& 31)) = 1) : ∀ q k, k ≤ d → d - k < q → fX1_depthOf_L2 x q (nI k) = some (if d = 7 then -6 else nI d) := by
  intro q
  induction q with
  | zero => intro k _ h2; omega
  | succ q ih =>
    intro k h1 h2
    rw [fX1_depthOf_L2]
    by_cases hk : k ≤ 6
    · rw [if_neg (show ¬ (6:Int32) < nI k from nI_nlt (a := 6) (b := k) hk (by decide))]
      by_cases hkd : k = d
      · subst hkd
        rw [if_pos (hy hk), if_neg (by omega)]
      · rw [if_neg (hn k (by omega)), nI_1]
        exact ih (k + 1) (by omega) (by omega)
    · have h7 : k = 7 := by omega
      have h8 : d = 7 := by omega
      subst h7
      rw [if_pos (by decide), if_pos h8]
theorem dep_sh (t k : Nat) (ht : t < 2 ^ 31) (hk : k ≤ 6) : (nI t >>> (((2:Int32) * nI k) &&& 31)) = nI (t / 4 ^ k) := by
  rw [show (2:Int32) * nI k = nI (2 * k) from pk_mul 2 k, shrN ht (by omega), pow4]
theorem dep_far {x : Int32} (h : x.toInt < 1 ∨ 8192 ≤ x.toInt) : fX1_depthOf x = some (-6) := by
  have hn : ∀ k, k < 7 → ¬ (x >>> (((2:Int32) * nI k) &&& 31)) = 1 := by
    intro k hk e
    have e1 := congrArg Int32.toInt e
    rw [show (2:Int32) * nI k = nI (2 * k) from pk_mul 2 k, pk_shr x _ (2 * k) (sl31 (2 * k) (by omega)), Int.shiftRight_eq_div_pow] at e1
    have e2 : x.toInt / ((2 ^ (2 * k) : Nat) : Int) = 1 := e1
    have h5 : (0 : Int) < ((2 ^ (2 * k) : Nat) : Int) := Int.ofNat_lt.mpr (Nat.two_pow_pos (2 * k))
    have hlo := Int.ediv_mul_le x.toInt (Int.ne_of_gt h5)
    have hhi := Int.lt_ediv_add_one_mul_self x.toInt h5
    rw [e2] at hlo hhi
    have h3 : (2 : Nat) ^ (2 * k) ≤ 4096 := Nat.le_trans (Nat.pow_le_pow_right (by decide) (show 2 * k ≤ 12 by omega)) (by decide)
    have h4 : ((2 ^ (2 * k) : Nat) : Int) ≤ ((4096 : Nat) : Int) := Int.ofNat_le.mpr h3
    generalize ((2 ^ (2 * k) : Nat) : Int) = z at h5 hlo hhi h4
    omega
  have := dep_go (x := x) (d := 7) (by omega) hn (fun h => by omega) 6000 0 (by omega) (by omega)
  rw [if_pos rfl] at this
  exact this
theorem dep8 (x : Int32) : fX8_depthOf x = fX1_depthOf x := by
  have go : ∀ q y, fX8_depthOf_L2 x q y = fX1_depthOf_L2 x q y := by
    intro q
    induction q with
    | zero => intro y; rfl
    | succ q ih => intro y; rw [fX8_depthOf_L2, fX1_depthOf_L2, ih]
  exact go 6000 0
/-- a number of a tile, of a depth -/
def tv (d t : Nat) : Prop := d ≤ 6 ∧ 4 ^ d ≤ t ∧ t < 2 * 4 ^ d
theorem tv_lt {d t : Nat} (h : tv d t) : 1 ≤ t ∧ t < 8192 := by
  obtain ⟨h1, h2, h3⟩ := h
  have : (4 : Nat) ^ d ≤ 4 ^ 6 := Nat.pow_le_pow_right (by decide) h1
  have h4 : 1 ≤ (4 : Nat) ^ d := Nat.one_le_pow _ _ (by decide)
  have : (4 : Nat) ^ 6 = 4096 := by decide
  omega
theorem tv_one {d t : Nat} (h : tv d t) : t / 4 ^ d = 1 := by
  obtain ⟨h1, h2, h3⟩ := h
  have h0 : 0 < (4 : Nat) ^ d := Nat.pow_pos (by decide)
  apply Nat.le_antisymm
  · have := (Nat.div_lt_iff_lt_mul h0).mpr h3
    omega
  · exact (Nat.le_div_iff_mul_le h0).mpr (by omega)
theorem one_tv {d t : Nat} (hd : d ≤ 6) (h : t / 4 ^ d = 1) : tv d t := by
  have h0 : 0 < (4 : Nat) ^ d := Nat.pow_pos (by decide)
  refine ⟨hd, ?_, ?_⟩
  · have := (Nat.le_div_iff_mul_le h0 (x := 1) (y := t)).mp (by omega)
    omega
  · exact (Nat.div_lt_iff_lt_mul h0).mp (by omega)
theorem tv_uniq {d e t : Nat} (h : tv d t) (h2 : tv e t) : d = e := by
  have key : ∀ {d e : Nat}, tv d t → tv e t → ¬ d < e := by
    intro d e h h2 hlt
    have : (4 : Nat) ^ (d + 1) ≤ 4 ^ e := Nat.pow_le_pow_right (by decide) hlt
    rw [Nat.pow_succ] at this
    have := h.2.2
    have := h2.2.1
    omega
  have := key h h2
  have := key h2 h
  omega
theorem dep_tv {d t : Nat} (h : tv d t) : fX1_depthOf (nI t) = some (nI d) := by
  have h0 := tv_lt h
  have hd := h.1
  have := dep_go (x := nI t) (d := d) (by omega) (fun k hk e => by
    rw [dep_sh t k (by omega) (by omega)] at e
    have h1 : t / 4 ^ k < 2 ^ 31 := Nat.lt_of_le_of_lt (Nat.div_le_self _ _) (by omega)
    have := tv_uniq h (one_tv (by omega) ((nI_eq h1 (by decide)).mp (show nI (t / 4 ^ k) = nI 1 from e)))
    omega) (fun _ => by rw [dep_sh t d (by omega) h.1, tv_one h]; rfl) 6000 0 (by omega) (by omega)
  rw [if_neg (by omega)] at this
  exact this
/-- any int: a tile's number with its depth, or none -/
theorem dep_any (x : Int32) : (∃ d t, tv d t ∧ x = nI t ∧ fX1_depthOf x = some (nI d)) ∨ ((∀ d t, tv d t → ¬ x = nI t) ∧ fX1_depthOf x = some (-6)) := by
  by_cases h : x.toInt < 1 ∨ 8192 ≤ x.toInt
  · refine Or.inr ⟨fun d t ht e => ?_, dep_far h⟩
    have h0 := tv_lt ht
    rw [e, nI_toInt (by omega)] at h
    omega
  · obtain ⟨t, ht, rfl⟩ : ∃ t : Nat, t < 8192 ∧ x = nI t := by
      refine ⟨x.toInt.toNat, by omega, ?_⟩
      apply Int32.toInt_inj.mp
      rw [nI_toInt (by omega)]
      omega
    rcases Classical.em (∃ d, tv d t) with ⟨d, hd⟩ | hno
    · exact Or.inl ⟨d, t, hd, rfl, dep_tv hd⟩
    · refine Or.inr ⟨fun d t2 ht2 e => ?_, ?_⟩
      · have h0 := tv_lt ht2
        have e2 := (nI_eq (show t < 2 ^ 31 by omega) (show t2 < 2 ^ 31 by omega)).mp e
        subst e2
        exact hno ⟨d, ht2⟩
      · have := dep_go (x := nI t) (d := 7) (by omega) (fun k hk e => by
          rw [dep_sh t k (by omega) (by omega)] at e
          have h1 : t / 4 ^ k < 2 ^ 31 := Nat.lt_of_le_of_lt (Nat.div_le_self _ _) (by omega)
          exact hno ⟨k, one_tv (by omega) ((nI_eq h1 (by decide)).mp (show nI (t / 4 ^ k) = nI 1 from e))⟩) (fun h => by omega) 6000 0 (by omega) (by omega)
        rw [if_pos rfl] at this
        exact this
/-- the tile of a depth around a place -/
def tl (d p : Nat) : Nat := (4096 + p) / 4 ^ (6 - d)
theorem tl_tv {d p : Nat} (hd : d ≤ 6) (hp : p < 4096) : tv d (tl d p) := by
  have e : (4 : Nat) ^ d * 4 ^ (6 - d) = 4096 := by
    rw [← Nat.pow_add, show d + (6 - d) = 6 by omega]
  have h0 : 0 < (4 : Nat) ^ (6 - d) := Nat.pow_pos (by decide)
  refine ⟨hd, ?_, ?_⟩
  · rw [tl, Nat.le_div_iff_mul_le h0]
    omega
  · rw [tl, Nat.div_lt_iff_lt_mul h0, Nat.mul_assoc, e]
    omega
theorem tl_up {d e p : Nat} (hde : d ≤ e) (he : e ≤ 6) : tl e p / 4 ^ (e - d) = tl d p := by
  rw [tl, tl, Nat.div_div_eq_div_mul, ← Nat.pow_add, show 6 - e + (e - d) = 6 - d by omega]
theorem tl_0 (p : Nat) (hp : p < 4096) : tl 0 p = 1 := by
  rw [tl, show (4 : Nat) ^ (6 - 0) = 4096 by decide]
  omega
theorem tl_6 (p : Nat) : tl 6 p = 4096 + p := by
  rw [tl]
  simp
