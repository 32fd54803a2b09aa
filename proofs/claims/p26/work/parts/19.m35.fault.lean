/-! the fault of a text, on either side -/
def fm (M : FS) (f : FA) (a t : Int32) : FS := sf (sf (sr M 7 f) 8 4 a) 8 5 t
theorem fm_x (M : FS) (f : FA) (a t : Int32) (i : Nat) (h7 : Nat.beq i 7 = false) (h8 : Nat.beq i 8 = false) : fm M f a t i = M i := by
  unfold fm sf sr
  rw [h8, cond_false, cond_false, h7, cond_false]
theorem fm_8 (M : FS) (f : FA) (a t : Int32) (j : Nat) : fm M f a t 8 j = cond (Nat.beq j 5) t (cond (Nat.beq j 4) a (M 8 j)) := rfl
theorem fm_7 (M : FS) (f : FA) (a t : Int32) : fm M f a t 7 = f := rfl
theorem fm_a (M : FS) (f : FA) (a b t : Int32) : sf (fm M f a t) 8 4 b = fm M f b t := by
  funext i
  cases h8 : Nat.beq i 8 with
  | true =>
    have := Nat.eq_of_beq_eq_true h8
    subst this
    funext j
    show cond (Nat.beq j 4) b (cond (Nat.beq j 5) t (cond (Nat.beq j 4) a (M 8 j))) = cond (Nat.beq j 5) t (cond (Nat.beq j 4) b (M 8 j))
    cases h5 : Nat.beq j 5 with
    | true =>
      have := Nat.eq_of_beq_eq_true h5
      subst this
      rfl
    | false => cases Nat.beq j 4 with
      | true => rfl
      | false => rfl
  | false =>
    unfold fm sf
    simp only [h8, cond_false]
theorem fm_t (M : FS) (f : FA) (a t u : Int32) : sf (fm M f a t) 8 5 u = fm M f a u := by
  funext i
  cases h8 : Nat.beq i 8 with
  | true =>
    have := Nat.eq_of_beq_eq_true h8
    subst this
    funext j
    show cond (Nat.beq j 5) u (cond (Nat.beq j 5) t (cond (Nat.beq j 4) a (M 8 j))) = cond (Nat.beq j 5) u (cond (Nat.beq j 4) a (M 8 j))
    cases Nat.beq j 5 with
    | true => rfl
    | false => rfl
  | false =>
    unfold fm sf
    simp only [h8, cond_false]
theorem fm_f (M : FS) (f g : FA) (a t : Int32) : sr (fm M f a t) 7 g = fm M g a t := by
  funext i
  cases h7 : Nat.beq i 7 with
  | true =>
    have := Nat.eq_of_beq_eq_true h7
    subst this
    rfl
  | false =>
    unfold sr
    rw [h7, cond_false]
    cases h8 : Nat.beq i 8 with
    | true =>
      have := Nat.eq_of_beq_eq_true h8
      subst this
      rfl
    | false => rw [fm_x _ _ _ _ _ h7 h8, fm_x _ _ _ _ _ h7 h8]
def dgt (c : Nat) : Prop := 48 ≤ c ∧ c ≤ 57
def Num (C : Nat → Nat) (L i w k : Nat) : Prop := (i < L ∧ dgt (C i) ∧ w = C i - 48 ∧ k = i + 1) ∨ (i + 1 < L ∧ dgt (C i) ∧ dgt (C (i + 1)) ∧ ¬ C i = 48 ∧ w = 10 * (C i - 48) + (C (i + 1) - 48) ∧ w < 64 ∧ k = i + 2)
def nomore (C : Nat → Nat) (L w k : Nat) : Prop := ¬ (k < L ∧ dgt (C k) ∧ ¬ w = 0 ∧ 10 * w + (C k - 48) < 64)
theorem Num_b {C : Nat → Nat} {L i w k : Nat} (h : Num C L i w k) : i < k ∧ k ≤ L ∧ w < 64 := by
  unfold Num dgt at h
  omega
theorem bzs0 {σ : Type} (S : σ) : bzs 0 S = some (0, S) := by
  unfold bzs
  rw [if_pos (by decide)]
theorem bzs1 {σ : Type} (S : σ) : bzs 1 S = some (1, S) := by
  unfold bzs
  rw [if_pos (by decide)]
theorem sees_v {S M : FS} {L : Nat} {C : Nat → Nat} (h : PdS S M L C) (f : FA) {i : Nat} (hi : i ≤ 80) (t : Int32) {lo hi2 : Nat} (h1 : lo < 2 ^ 31) (h2 : hi2 < 2 ^ 31) : fX8_sees (fm M f (nI i) t) (nI lo) (nI hi2) = some (bi (Nat.blt i L && (Nat.ble lo (C i) && Nat.ble (C i) hi2))) := by
  obtain ⟨p1, p2, p3, p4⟩ := h
  rw [fX8_sees, show fm M f (nI i) t 8 1 = nI L from p3, show fm M f (nI i) t 8 4 = nI i from rfl, show fm M f (nI i) t 5 = M 5 from rfl]
  by_cases hl : i < L
  · have q := p4 i hl
    rw [if_neg (nI_ge hl (by omega)), rd_v _ (by omega) (by decide), q.2.1, Option.bind_some, in_b (by omega) h1 h2, Option.bind_some, blt_t hl, Bool.true_and]
    cases (Nat.ble lo (C i) && Nat.ble (C i) hi2) with
    | true => rfl
    | false => rfl
  · rw [if_pos (nI_le (by omega) (by omega)), blt_f hl, Bool.false_and]
    rfl
theorem takes_y {S M : FS} {L : Nat} {C : Nat → Nat} (h : PdS S M L C) (f : FA) {i c : Nat} (hi : i < L) (hc : C i = c) (t : Int32) : fX8_takes (fm M f (nI i) t) (nI c) = some (1, fm M f (nI (i + 1)) t) := by
  have h1 := h.1
  have q := (h.2.2.2 i hi).2.2
  rw [fX8_takes, sees_v h f (by omega) t (by omega) (by omega), Option.bind_some, blt_t hi, hc, Nat.ble_eq_true_of_le (Nat.le_refl c)]
  show (if (1:Int32) = 0 then _ else _) = _
  rw [if_neg (by decide), show fm M f (nI i) t 8 4 = nI i from rfl, nI_1, fm_a, Option.bind_some]
  exact bzs1 _
theorem takes_n {S M : FS} {L : Nat} {C : Nat → Nat} (h : PdS S M L C) (f : FA) {i c : Nat} (hi : i ≤ L) (hcc : c < 256) (hc : ¬ (i < L ∧ C i = c)) (t : Int32) : fX8_takes (fm M f (nI i) t) (nI c) = some (0, fm M f (nI i) t) := by
  have h1 := h.1
  have e : (Nat.blt i L && (Nat.ble c (C i) && Nat.ble (C i) c)) = false := by
    by_cases hl : i < L
    · have hne : ¬ C i = c := fun e => hc ⟨hl, e⟩
      by_cases h2 : c ≤ C i
      · rw [ble_f (show ¬ C i ≤ c by omega), Bool.and_false, Bool.and_false]
      · rw [ble_f h2, Bool.false_and, Bool.and_false]
    · rw [blt_f hl, Bool.false_and]
  rw [fX8_takes, sees_v h f (by omega) t (by omega) (by omega), Option.bind_some, e]
  show (if (0:Int32) = 0 then _ else _) = _
  rw [if_pos rfl, show fm M f (nI i) t 8 4 = nI i from rfl, Int32.add_zero, fm_a, Option.bind_some]
  exact bzs0 _
theorem dgt_b (c : Nat) : (Nat.ble 48 c && Nat.ble c 57) = true ↔ dgt c := by
  rw [Bool.and_eq_true]
  constructor
  · rintro ⟨a, b⟩
    exact ⟨Nat.le_of_ble_eq_true a, Nat.le_of_ble_eq_true b⟩
  · rintro ⟨a, b⟩
    exact ⟨Nat.ble_eq_true_of_le a, Nat.ble_eq_true_of_le b⟩
theorem seesD {S M : FS} {L : Nat} {C : Nat → Nat} (h : PdS S M L C) (f : FA) {i : Nat} (hi : i ≤ L) (t : Int32) : (i < L ∧ dgt (C i) ∧ fX8_sees (fm M f (nI i) t) 48 57 = some 1) ∨ (¬ (i < L ∧ dgt (C i)) ∧ fX8_sees (fm M f (nI i) t) 48 57 = some 0) := by
  have h1 := h.1
  have e := sees_v h f (i := i) (by omega) t (lo := 48) (hi2 := 57) (by decide) (by decide)
  have e : fX8_sees (fm M f (nI i) t) 48 57 = some (bi (Nat.blt i L && (Nat.ble 48 (C i) && Nat.ble (C i) 57))) := e
  by_cases hl : i < L
  · by_cases hd : dgt (C i)
    · rw [blt_t hl, (dgt_b _).mpr hd] at e
      exact Or.inl ⟨hl, hd, e⟩
    · rw [show (Nat.ble 48 (C i) && Nat.ble (C i) 57) = false from Bool.eq_false_iff.mpr fun x => hd ((dgt_b _).mp x), Bool.and_false] at e
      exact Or.inr ⟨fun x => hd x.2, e⟩
  · rw [blt_f hl, Bool.false_and] at e
    exact Or.inr ⟨fun x => hl x.1, e⟩
theorem l101_v (M : FS) (f : FA) (a : Int32) {m pl : Nat} (hm : 2 * m + pl < 44) (v : Int32) : fX8_isTold_L101 (fm M f a (nI m)) (nI pl) v = some (1, fm M (upd f (2 * m + pl) v) a (nI m)) := by
  rw [fX8_isTold_L101, show fm M f a (nI m) 7 = f from rfl, show fm M f a (nI m) 8 5 = nI m from rfl, show (2:Int32) * nI m = nI (2 * m) from pk_mul 2 m, nI_add, wr_v _ _ hm (by decide), Option.bind_some, Option.bind_some, fm_f]
  exact bzs1 _
theorem isTold_v {S M : FS} {L : Nat} {C : Nat → Nat} (h : PdS S M L C) (f : FA) {i m pl : Nat} (hi : i ≤ L) (hm : 2 * m + pl < 44) : (¬ (i < L ∧ dgt (C i)) ∧ fX8_isTold (fm M f (nI i) (nI m)) (nI pl) = some (0, fm M f (nI i) (nI m))) ∨ ∃ w k, Num C L i w k ∧ nomore C L w k ∧ fX8_isTold (fm M f (nI i) (nI m)) (nI pl) = some (1, fm M (upd f (2 * m + pl) (nI w)) (nI k) (nI m)) := by
  have h1 := h.1
  rw [fX8_isTold]
  rcases seesD h f hi (nI m) with ⟨hl, hd, e⟩ | ⟨hno, e⟩
  · have q := h.2.2.2 i hl
    have hd1 := hd.1
    have hd2 := hd.2
    refine Or.inr ?_
    rw [e, Option.bind_some, if_neg (show ¬ (1:Int32) = 0 by decide), show fm M f (nI i) (nI m) 8 4 = nI i from rfl, show fm M f (nI i) (nI m) 5 = M 5 from rfl, rd_v _ (by omega) (by decide), q.2.1, Option.bind_some, nI_1, fm_a, Option.bind_some, show nI (C i) - (48:Int32) = nI (C i - 48) from nI_sub (b := 48) hd1, l101_v _ _ _ hm]
    by_cases h0 : C i = 48
    · rw [h0, if_pos (show nI (48 - 48) ≤ 0 by decide)]
      refine ⟨48 - 48, i + 1, Or.inl ⟨hl, hd, by omega, rfl⟩, fun x => x.2.2.1 rfl, rfl⟩
    · rw [if_neg (nI_nle (show 0 < C i - 48 by omega) (by omega))]
      rcases seesD h f (i := i + 1) (by omega) (nI m) with ⟨hl2, hdd, e2⟩ | ⟨hno2, e2⟩
      · have q2 := h.2.2.2 (i + 1) hl2
        have hd3 := hdd.1
        have hd4 := hdd.2
        rw [e2, Option.bind_some, if_neg (show ¬ (1:Int32) = 0 by decide), show fm M f (nI (i + 1)) (nI m) 8 4 = nI (i + 1) from rfl, show fm M f (nI (i + 1)) (nI m) 5 = M 5 from rfl, rd_v _ (by omega) (by decide), q2.2.1, Option.bind_some, Option.bind_some, show (10:Int32) * nI (C i - 48) = nI (10 * (C i - 48)) from pk_mul 10 _, nI_add, show nI (10 * (C i - 48) + C (i + 1)) - (48:Int32) = nI (10 * (C i - 48) + C (i + 1) - 48) from nI_sub (b := 48) (by omega)]
        by_cases h64 : 10 * (C i - 48) + C (i + 1) - 48 < 64
        · rw [if_neg (show ¬ (64:Int32) ≤ nI (10 * (C i - 48) + C (i + 1) - 48) from nI_ge (b := 64) h64 (by decide)), nI_1, fm_a, Option.bind_some, l101_v _ _ _ hm]
          refine ⟨10 * (C i - 48) + C (i + 1) - 48, i + 1 + 1, Or.inr ⟨hl2, hd, hdd, h0, by omega, h64, rfl⟩, fun x => ?_, rfl⟩
          have := x.2.1.1
          omega
        · rw [if_pos (show (64:Int32) ≤ nI (10 * (C i - 48) + C (i + 1) - 48) from nI_le (a := 64) (by omega) (by omega))]
          exact ⟨C i - 48, i + 1, Or.inl ⟨hl, hd, rfl, rfl⟩, fun x => h64 (by have := x.2.2.2; omega), rfl⟩
      · rw [e2, Option.bind_some, if_pos rfl]
        exact ⟨C i - 48, i + 1, Or.inl ⟨hl, hd, rfl, rfl⟩, fun x => hno2 ⟨x.1, x.2.1⟩, rfl⟩
  · rw [e, Option.bind_some, if_pos rfl]
    exact Or.inl ⟨hno, bzs0 _⟩
theorem codeAt_v {S M : FS} {L : Nat} {C : Nat → Nat} (h : PdS S M L C) {i : Nat} (hi : i < L) : fX2_codeAt S (nI i) = some (nI (C i)) := by
  obtain ⟨p1, p2, p3, p4⟩ := h
  rw [fX2_codeAt, if_neg (nI_pos (by omega)), p2, if_neg (nI_ge hi (by omega)), if_neg (show ¬ (80:Int32) ≤ nI i from nI_ge (b := 80) (by omega) (by decide)), rd_v _ (by omega) (by decide), (p4 i hi).1, Option.bind_some]
theorem codeAt_e {S M : FS} {L : Nat} {C : Nat → Nat} (h : PdS S M L C) : fX2_codeAt S (nI L) = some 0 := by
  have h1 := h.1
  rw [fX2_codeAt, if_neg (nI_pos (by omega)), h.2.1, if_pos (nI_le (Nat.le_refl L) (by omega))]
theorem isDigit_v {c : Nat} (hc : c < 256) : (dgt c ∧ fX2_isDigit (nI c) = some 1) ∨ (¬ dgt c ∧ fX2_isDigit (nI c) = some 0) := by
  rw [fX2_isDigit]
  by_cases h1 : c < 48
  · rw [if_pos (show nI c < 48 from nI_lt (b := 48) h1 (by decide)), bz0]
    exact Or.inr ⟨fun x => by have := x.1; omega, rfl⟩
  · rw [if_neg (show ¬ nI c < 48 from nI_nlt (b := 48) (by omega) (by omega))]
    by_cases h2 : 57 < c
    · rw [if_pos (show (57:Int32) < nI c from nI_lt (a := 57) h2 (by omega)), bz0]
      exact Or.inr ⟨fun x => by have := x.2; omega, rfl⟩
    · rw [if_neg (show ¬ (57:Int32) < nI c from nI_nlt (a := 57) (by omega) (by decide)), bz1]
      exact Or.inl ⟨⟨by omega, by omega⟩, rfl⟩
theorem nm1 {w : Nat} (h : w < 2 ^ 31) : ¬ nI w = -1 := by
  intro e
  have := congrArg Int32.toInt e
  rw [nI_toInt h, show (-1:Int32).toInt = -1 by decide] at this
  omega
theorem wd_new {c : Nat} (hc : c < 256) : (dgt c ∧ fX2_withDigit (-1) (nI c) = some (nI (c - 48))) ∨ (¬ dgt c ∧ fX2_withDigit (-1) (nI c) = some (-1)) := by
  rw [fX2_withDigit]
  rcases isDigit_v hc with ⟨hd, e⟩ | ⟨hd, e⟩
  · have := hd.1
    have := hd.2
    rw [e, Option.bind_some, if_neg (show ¬ (1:Int32) = 0 by decide), if_neg (show ¬ (-1:Int32) = 0 by decide), if_pos rfl, show nI c - (48:Int32) = nI (c - 48) from nI_sub (b := 48) (by omega), fX2_withDigit_L34, if_neg (show ¬ (64:Int32) ≤ nI (c - 48) from nI_ge (b := 64) (by omega) (by decide))]
    exact Or.inl ⟨hd, rfl⟩
  · rw [e]
    exact Or.inr ⟨hd, rfl⟩
theorem wd_old {w c : Nat} (hw : w < 64) (hc : c < 256) : ((dgt c ∧ ¬ w = 0 ∧ 10 * w + (c - 48) < 64) ∧ fX2_withDigit (nI w) (nI c) = some (nI (10 * w + (c - 48)))) ∨ (¬ (dgt c ∧ ¬ w = 0 ∧ 10 * w + (c - 48) < 64) ∧ fX2_withDigit (nI w) (nI c) = some (-1)) := by
  rw [fX2_withDigit]
  rcases isDigit_v hc with ⟨hd, e⟩ | ⟨hd, e⟩
  · have := hd.1
    have := hd.2
    rw [e, Option.bind_some, if_neg (show ¬ (1:Int32) = 0 by decide)]
    by_cases h0 : w = 0
    · rw [h0, if_pos (show nI 0 = 0 from rfl)]
      exact Or.inr ⟨fun x => x.2.1 rfl, rfl⟩
    · rw [if_neg (nI_ne0 (by omega) (by omega)), if_neg (nm1 (by omega)), show (10:Int32) * nI w = nI (10 * w) from pk_mul 10 w, nI_add, show nI (10 * w + c) - (48:Int32) = nI (10 * w + c - 48) from nI_sub (b := 48) (by omega), fX2_withDigit_L34, show 10 * w + c - 48 = 10 * w + (c - 48) by omega]
      by_cases h64 : 10 * w + (c - 48) < 64
      · rw [if_neg (show ¬ (64:Int32) ≤ nI (10 * w + (c - 48)) from nI_ge (b := 64) h64 (by decide))]
        exact Or.inl ⟨⟨hd, h0, h64⟩, rfl⟩
      · rw [if_pos (show (64:Int32) ≤ nI (10 * w + (c - 48)) from nI_le (a := 64) (by omega) (by omega))]
        exact Or.inr ⟨fun x => h64 x.2.2, rfl⟩
  · rw [e]
    exact Or.inr ⟨fun x => hd x.1, rfl⟩
/-- what the class finds from a place on, however much fuel there is -/
def Cv (S : FS) (L : Nat) (b y : Int32) (i : Nat) (r : Int32) : Prop := ∀ q, L - i < q → fX2_firstFault_L6 S q y b (nI i) = some r
theorem c_end {S M : FS} {L : Nat} {C : Nat → Nat} (h : PdS S M L C) (b y : Int32) : Cv S L b y L (if b = 0 then nI L else if y = -1 then nI L else -6) := by
  intro q hq
  have h1 := h.1
  obtain ⟨q, rfl⟩ : ∃ k, q = k + 1 := ⟨q - 1, by omega⟩
  rw [fX2_firstFault_L6, h.2.1, if_pos (nI_le (Nat.le_refl L) (by omega))]
  split
  · rfl
  · split <;> rfl
theorem c_one {S M : FS} {L : Nat} {C : Nat → Nat} (h : PdS S M L C) {b y : Int32} {i : Nat} (hi : i < L) (q : Nat) : fX2_firstFault_L6 S (q + 1) y b (nI i) = if y = -1 then fX2_firstFault_L57 S (fX2_firstFault_L6 S q) y b (nI i) (nI (C i)) else if b = 0 then fX2_firstFault_L39 S (fX2_firstFault_L6 S q) y b (nI i) (nI (C i)) 44 (nI (C i)) else fX2_firstFault_L39 S (fX2_firstFault_L6 S q) y b (nI i) (nI (C i)) 59 (nI (C i)) := by
  have h1 := h.1
  rw [fX2_firstFault_L6, h.2.1, if_neg (nI_ge hi (by omega)), codeAt_v h hi, Option.bind_some]
theorem c_start {S M : FS} {L : Nat} {C : Nat → Nat} (h : PdS S M L C) {b r : Int32} {i : Nat} (hi : i < L) (hd : dgt (C i)) (k : Cv S L b (nI (C i - 48)) (i + 1) r) : Cv S L b (-1) i r := by
  intro q hq
  have h1 := h.1
  have q1 := (h.2.2.2 i hi).2.2
  obtain ⟨q, rfl⟩ : ∃ k, q = k + 1 := ⟨q - 1, by omega⟩
  rw [c_one h hi, if_pos rfl, fX2_firstFault_L57]
  rcases wd_new q1 with ⟨_, e⟩ | ⟨hno, _⟩
  · rw [e, Option.bind_some, if_neg (nm1 (by omega)), nI_1]
    exact k q (by omega)
  · exact absurd hd hno
theorem c_nod {S M : FS} {L : Nat} {C : Nat → Nat} (h : PdS S M L C) {b : Int32} {i : Nat} (hi : i < L) (hd : ¬ dgt (C i)) : Cv S L b (-1) i (nI i) := by
  intro q hq
  have q1 := (h.2.2.2 i hi).2.2
  obtain ⟨q, rfl⟩ : ∃ k, q = k + 1 := ⟨q - 1, by omega⟩
  rw [c_one h hi, if_pos rfl, fX2_firstFault_L57]
  rcases wd_new q1 with ⟨hy, _⟩ | ⟨_, e⟩
  · exact absurd hy hd
  · rw [e, Option.bind_some, if_pos rfl]
theorem c_none {S M : FS} {L : Nat} {C : Nat → Nat} (h : PdS S M L C) {b : Int32} {i : Nat} (hi : i ≤ L) (hd : ¬ (i < L ∧ dgt (C i))) : Cv S L b (-1) i (nI i) := by
  by_cases hl : i < L
  · exact c_nod h hl (fun e => hd ⟨hl, e⟩)
  · have : i = L := by omega
    subst this
    have e := c_end h b (-1)
    rw [if_pos (show (-1:Int32) = -1 from rfl)] at e
    have e2 : (if b = 0 then nI i else nI i) = nI i := by split <;> rfl
    rw [e2] at e
    exact e
theorem c_57 {S M : FS} {L : Nat} {C : Nat → Nat} (h : PdS S M L C) {b : Int32} {w i : Nat} (hw : w < 64) (hb : b = 0 ∨ b = 1) (hi : i < L) (hc : ¬ C i = (if b = 0 then 44 else 59)) (q : Nat) : fX2_firstFault_L6 S (q + 1) (nI w) b (nI i) = fX2_firstFault_L57 S (fX2_firstFault_L6 S q) (nI w) b (nI i) (nI (C i)) := by
  have q1 := (h.2.2.2 i hi).2.2
  rw [c_one h hi, if_neg (nm1 (by omega))]
  rcases hb with rfl | rfl
  · rw [if_pos rfl] at hc
    rw [if_pos rfl, fX2_firstFault_L39, if_neg (show ¬ nI (C i) = 44 from fun e => hc ((nI_eq (b := 44) (by omega) (by decide)).mp e))]
  · rw [if_neg (by decide)] at hc
    rw [if_neg (by decide), fX2_firstFault_L39, if_neg (show ¬ nI (C i) = 59 from fun e => hc ((nI_eq (b := 59) (by omega) (by decide)).mp e))]
theorem c_dig {S M : FS} {L : Nat} {C : Nat → Nat} (h : PdS S M L C) {b r : Int32} {w i : Nat} (hw : w < 64) (hb : b = 0 ∨ b = 1) (hi : i < L) (hd : dgt (C i)) (h0 : ¬ w = 0) (h64 : 10 * w + (C i - 48) < 64) (k : Cv S L b (nI (10 * w + (C i - 48))) (i + 1) r) : Cv S L b (nI w) i r := by
  intro q hq
  have q1 := (h.2.2.2 i hi).2.2
  have d1 := hd.1
  have d2 := hd.2
  obtain ⟨q, rfl⟩ : ∃ k, q = k + 1 := ⟨q - 1, by omega⟩
  rw [c_57 h hw hb hi (by split <;> omega), fX2_firstFault_L57]
  rcases wd_old hw q1 with ⟨_, e⟩ | ⟨hno, _⟩
  · rw [e, Option.bind_some, if_neg (nm1 (by omega)), nI_1]
    exact k q (by omega)
  · exact absurd ⟨hd, h0, h64⟩ hno
theorem c_stop {S M : FS} {L : Nat} {C : Nat → Nat} (h : PdS S M L C) {b : Int32} {w i : Nat} (hw : w < 64) (hb : b = 0 ∨ b = 1) (hi : i < L) (hc : ¬ C i = (if b = 0 then 44 else 59)) (hn : nomore C L w i) : Cv S L b (nI w) i (nI i) := by
  intro q hq
  have q1 := (h.2.2.2 i hi).2.2
  obtain ⟨q, rfl⟩ : ∃ k, q = k + 1 := ⟨q - 1, by omega⟩
  rw [c_57 h hw hb hi hc, fX2_firstFault_L57]
  rcases wd_old hw q1 with ⟨hy, _⟩ | ⟨_, e⟩
  · exact absurd ⟨hi, hy⟩ hn
  · rw [e, Option.bind_some, if_pos rfl]
theorem c_sep0 {S M : FS} {L : Nat} {C : Nat → Nat} (h : PdS S M L C) {r : Int32} {w i : Nat} (hw : w < 64) (hi : i < L) (hc : C i = 44) (k : Cv S L 1 (-1) (i + 1) r) : Cv S L 0 (nI w) i r := by
  intro q hq
  obtain ⟨q, rfl⟩ : ∃ k, q = k + 1 := ⟨q - 1, by omega⟩
  rw [c_one h hi, if_neg (nm1 (by omega)), if_pos rfl, hc, fX2_firstFault_L39, if_pos (show nI 44 = 44 from rfl), if_pos rfl, nI_1]
  exact k q (by omega)
theorem c_sep1 {S M : FS} {L : Nat} {C : Nat → Nat} (h : PdS S M L C) {r : Int32} {w i : Nat} (hw : w < 64) (hi : i < L) (hc : C i = 59) (k : Cv S L 0 (-1) (i + 1) r) : Cv S L 1 (nI w) i r := by
  intro q hq
  obtain ⟨q, rfl⟩ : ∃ k, q = k + 1 := ⟨q - 1, by omega⟩
  rw [c_one h hi, if_neg (nm1 (by omega)), if_neg (by decide), hc, fX2_firstFault_L39, if_pos (show nI 59 = 59 from rfl), if_neg (by decide), nI_1]
  exact k q (by omega)
theorem c_num {S M : FS} {L : Nat} {C : Nat → Nat} (h : PdS S M L C) {b r : Int32} {i w k : Nat} (hb : b = 0 ∨ b = 1) (hN : Num C L i w k) (hk : Cv S L b (nI w) k r) : Cv S L b (-1) i r := by
  rcases hN with ⟨n1, n2, n3, n4⟩ | ⟨n1, n2, n3, n4, n5, n6, n7⟩
  · subst n3
    subst n4
    exact c_start h n1 n2 hk
  · subst n5
    subst n7
    have d1 := n2.1
    have d2 := n2.2
    exact c_start h (by omega) n2 (c_dig h (by omega) hb n1 n3 (by omega) n6 hk)
/-- a text that tells points from a place on, the row that holds them -/
def Pts (C : Nat → Nat) (L : Nat) (g : FA) : Nat → Nat → Nat → Prop
  | 0, _, _ => False
  | n + 1, j, i => ∃ w z k k2, Num C L i w k ∧ k < L ∧ C k = 44 ∧ Num C L (k + 1) z k2 ∧ g (2 * j) = nI w ∧ g (2 * j + 1) = nI z ∧ ((n = 0 ∧ k2 = L) ∨ (k2 < L ∧ C k2 = 59 ∧ Pts C L g n (j + 1) (k2 + 1)))
theorem Pts_b {C : Nat → Nat} {L : Nat} {g : FA} : ∀ n j i, Pts C L g n j i → i + 4 * n ≤ L + 1 := by
  intro n
  induction n with
  | zero => intro j i h; exact absurd h id
  | succ n ih =>
    intro j i h
    obtain ⟨w, z, k, k2, a1, a2, a3, a4, a5, a6, a7⟩ := h
    have b1 := Num_b a1
    have b2 := Num_b a4
    rcases a7 with ⟨c1, c2⟩ | ⟨c1, c2, c3⟩
    · omega
    · have := ih _ _ c3
      omega
theorem flt_go {S M : FS} {L : Nat} {C : Nat → Nat} (h : PdS S M L C) : ∀ q i m f, i ≤ L → L - i < q → 4 * m ≤ i → ∃ (r : Int32) (g : FA) (a t : Nat), Cv S L 0 (-1) i r ∧ fX8_fault_L12 q (fm M f (nI i) (nI m)) 1 = some (r, fm M g (nI a) (nI t)) ∧ (r = -6 → ∃ n, t = m + n ∧ Pts C L g n m i) ∧ ∀ j, j < 2 * m → g j = f j := by
  have h1 := h.1
  intro q
  induction q with
  | zero => intro i m f _ hh; omega
  | succ q ih =>
    intro i m f hi hq hm
    rw [fX8_fault_L12, if_neg (show ¬ (1:Int32) = 0 by decide)]
    have t0 := isTold_v h f (i := i) (m := m) (pl := 0) hi (by omega)
    rw [show nI 0 = 0 from rfl] at t0
    rcases t0 with ⟨hno, e⟩ | ⟨w, k, hN, hmo, e⟩
    · rw [e, Option.bind_some]
      refine ⟨nI i, f, i, m, c_none h hi hno, ?_, fun e => absurd e (ne6 (by omega)), fun j hj => rfl⟩
      show (if (0:Int32) = 0 then _ else _) = _
      rw [if_pos rfl]
      rfl
    · have bN := Num_b hN
      rw [e, Option.bind_some]
      show ∃ (r : Int32) (g : FA) (a t : Nat), Cv S L 0 (-1) i r ∧ (if (1:Int32) = 0 then _ else _) = _ ∧ _
      rw [if_neg (show ¬ (1:Int32) = 0 by decide)]
      by_cases h44 : k < L ∧ C k = 44
      · have e2 := takes_y h (upd f (2 * m + 0) (nI w)) h44.1 h44.2 (nI m)
        rw [show nI 44 = 44 from rfl] at e2
        rw [e2, Option.bind_some]
        show ∃ (r : Int32) (g : FA) (a t : Nat), Cv S L 0 (-1) i r ∧ (if (1:Int32) = 0 then _ else _) = _ ∧ _
        rw [if_neg (show ¬ (1:Int32) = 0 by decide)]
        have t1 := isTold_v h (upd f (2 * m + 0) (nI w)) (i := k + 1) (m := m) (pl := 1) (by omega) (by omega)
        rw [show nI 1 = 1 from rfl] at t1
        rcases t1 with ⟨hno, e3⟩ | ⟨z, k2, hN2, hmo2, e3⟩
        · rw [e3, Option.bind_some]
          refine ⟨nI (k + 1), upd f (2 * m + 0) (nI w), k + 1, m, c_num h (Or.inl rfl) hN (c_sep0 h bN.2.2 h44.1 h44.2 (c_none h (by omega) hno)), ?_, fun e => absurd e (ne6 (by omega)), fun j hj => pk_un (by omega)⟩
          show (if (0:Int32) = 0 then _ else _) = _
          rw [if_pos rfl]
          rfl
        · have bN2 := Num_b hN2
          rw [e3, Option.bind_some]
          show ∃ (r : Int32) (g : FA) (a t : Nat), Cv S L 0 (-1) i r ∧ (if (1:Int32) = 0 then _ else _) = _ ∧ _
          rw [if_neg (show ¬ (1:Int32) = 0 by decide), Option.bind_some]
          dsimp only
          rw [show fm M (upd (upd f (2 * m + 0) (nI w)) (2 * m + 1) (nI z)) (nI k2) (nI m) 8 5 = nI m from rfl, nI_1, fm_t]
          by_cases h59 : k2 < L ∧ C k2 = 59
          · have e4 := takes_y h (upd (upd f (2 * m + 0) (nI w)) (2 * m + 1) (nI z)) h59.1 h59.2 (nI (m + 1))
            rw [show nI 59 = 59 from rfl] at e4
            rw [e4, Option.bind_some]
            obtain ⟨r, g, a, t, i1, i2, i3, i4⟩ := ih (k2 + 1) (m + 1) (upd (upd f (2 * m + 0) (nI w)) (2 * m + 1) (nI z)) (by omega) (by omega) (by omega)
            refine ⟨r, g, a, t, c_num h (Or.inl rfl) hN (c_sep0 h bN.2.2 h44.1 h44.2 (c_num h (Or.inr rfl) hN2 (c_sep1 h bN2.2.2 h59.1 h59.2 i1))), i2, fun er => ?_, fun j hj => ?_⟩
            · obtain ⟨n, n1, n2⟩ := i3 er
              refine ⟨n + 1, by omega, w, z, k, k2, hN, h44.1, h44.2, hN2, ?_, ?_, Or.inr ⟨h59.1, h59.2, n2⟩⟩
              · rw [i4 _ (by omega), pk_un (by omega), show 2 * m = 2 * m + 0 by omega, pk_us]
              · rw [i4 _ (by omega), pk_us]
            · rw [i4 j (by omega), pk_un (by omega), pk_un (by omega)]
          · have e4 := takes_n h (upd (upd f (2 * m + 0) (nI w)) (2 * m + 1) (nI z)) (i := k2) (c := 59) (by omega) (by decide) h59 (nI (m + 1))
            rw [show nI 59 = 59 from rfl] at e4
            obtain ⟨q, rfl⟩ : ∃ k, q = k + 1 := ⟨q - 1, by omega⟩
            rw [e4, Option.bind_some]
            show ∃ (r : Int32) (g : FA) (a t : Nat), Cv S L 0 (-1) i r ∧ fX8_fault_L12 (q + 1) (fm M (upd (upd f (2 * m + 0) (nI w)) (2 * m + 1) (nI z)) (nI k2) (nI (m + 1))) 0 = _ ∧ _
            rw [fX8_fault_L12, if_pos rfl, show fm M (upd (upd f (2 * m + 0) (nI w)) (2 * m + 1) (nI z)) (nI k2) (nI (m + 1)) 8 4 = nI k2 from rfl, show fm M (upd (upd f (2 * m + 0) (nI w)) (2 * m + 1) (nI z)) (nI k2) (nI (m + 1)) 8 1 = nI L from h.2.2.1]
            by_cases hkL : k2 = L
            · subst hkL
              rw [if_pos rfl]
              have ce := c_end h 1 (nI z)
              rw [if_neg (show ¬ (1:Int32) = 0 by decide), if_neg (nm1 (by omega))] at ce
              refine ⟨-6, upd (upd f (2 * m + 0) (nI w)) (2 * m + 1) (nI z), k2, m + 1, c_num h (Or.inl rfl) hN (c_sep0 h bN.2.2 h44.1 h44.2 (c_num h (Or.inr rfl) hN2 ce)), rfl, fun _ => ⟨1, rfl, w, z, k, k2, hN, h44.1, h44.2, hN2, ?_, ?_, Or.inl ⟨rfl, rfl⟩⟩, fun j hj => ?_⟩
              · rw [pk_un (by omega), show 2 * m = 2 * m + 0 by omega, pk_us]
              · rw [pk_us]
              · rw [pk_un (by omega), pk_un (by omega)]
            · rw [if_neg (fun e => hkL ((nI_eq (by omega) (by omega)).mp e))]
              have cs := c_stop h (b := 1) bN2.2.2 (Or.inr rfl) (show k2 < L by omega) (by rw [if_neg (show ¬ (1:Int32) = 0 by decide)]; exact fun e => h59 ⟨by omega, e⟩) hmo2
              refine ⟨nI k2, upd (upd f (2 * m + 0) (nI w)) (2 * m + 1) (nI z), k2, m + 1, c_num h (Or.inl rfl) hN (c_sep0 h bN.2.2 h44.1 h44.2 (c_num h (Or.inr rfl) hN2 cs)), rfl, fun e => absurd e (ne6 (by omega)), fun j hj => ?_⟩
              rw [pk_un (by omega), pk_un (by omega)]
      · have e2 := takes_n h (upd f (2 * m + 0) (nI w)) (i := k) (c := 44) (by omega) (by decide) h44 (nI m)
        rw [show nI 44 = 44 from rfl] at e2
        rw [e2, Option.bind_some]
        refine ⟨nI k, upd f (2 * m + 0) (nI w), k, m, c_num h (Or.inl rfl) hN ?_, ?_, fun e => absurd e (ne6 (by omega)), fun j hj => pk_un (by omega)⟩
        · by_cases hkL : k < L
          · exact c_stop h bN.2.2 (Or.inl rfl) hkL (by rw [if_pos (show (0:Int32) = 0 from rfl)]; exact fun e => h44 ⟨hkL, e⟩) hmo
          · have : k = L := by omega
            subst this
            have ce := c_end h 0 (nI w)
            rw [if_pos (show (0:Int32) = 0 from rfl)] at ce
            exact ce
        · show (if (0:Int32) = 0 then _ else _) = _
          rw [if_pos rfl]
          rfl
theorem fault_v {S M : FS} {L : Nat} {C : Nat → Nat} (h : PdS S M L C) : ∃ (r : Int32) (g : FA) (a t : Nat), fX2_firstFault S = some r ∧ fX8_fault M = some (r, fm M g (nI a) (nI t)) ∧ (r = -6 → Pts C L g t 0 0) := by
  have h1 := h.1
  obtain ⟨r, g, a, t, e1, e2, e3, _⟩ := flt_go h 6000 0 0 (M 7) (by omega) (by omega) (by omega)
  have e1 := e1 6000 (by omega)
  rw [show nI 0 = 0 from rfl] at e1 e2
  refine ⟨r, g, a, t, ?_, ?_, fun er => ?_⟩
  · rw [fX2_firstFault, e1]
  · have e4 : sf (sf M 8 4 0) 8 5 0 = fm M (M 7) 0 0 := by
      unfold fm
      rw [sr_self]
    rw [fX8_fault, Option.bind_some, Option.bind_some, e4, e2]
  · obtain ⟨n, n1, n2⟩ := e3 er
    rw [Nat.zero_add] at n1
    subst n1
    exact n2
