/-! characters put, on either side -/
def ub (x : Int64) : Nat := x.toBitVec.toNat
theorem ub_lt (x : Int64) : ub x < 2 ^ 64 := x.toBitVec.isLt
theorem ub_shr (x : Int64) (s : UInt64) (k : Nat) (hs : (s.toBitVec % 64).toNat = k) : ub ((x.toUInt64 >>> s).toInt64) = ub x / 2 ^ k := by
  have e : ((x.toUInt64 >>> s).toInt64).toBitVec = x.toBitVec >>> k := by
    rw [← hs]
    exact UInt64.toBitVec_shiftRight _ _
  unfold ub
  rw [e, BitVec.toNat_ushiftRight, Nat.shiftRight_eq_div_pow]
theorem sh_am : ∀ i, i < 8 → ((((8:Int32) * nI i).toInt64.toUInt64 &&& Int64.toUInt64 63).toBitVec % 64).toNat = 8 * i := by decide +kernel
theorem sh_a8 : (((8:Int32).toInt64.toUInt64 &&& Int64.toUInt64 63).toBitVec % 64).toNat = 8 := by decide +kernel
theorem and32_v (y : Int64) : y.toInt32 &&& (255:Int32) = nI (ub y % 256) := by
  rw [pk_and _ 8 (by decide), Int64.toBitVec_toInt32, BitVec.signExtend_eq_setWidth_of_le _ (by decide), BitVec.toNat_setWidth]
  show nI (ub y % 2 ^ 32 % 2 ^ 8) = _
  rw [Nat.mod_mod_of_dvd _ (by decide)]
theorem and64_v (y : Int64) : y &&& (255:Int64) = lN (ub y % 256) := by
  apply Int64.toBitVec_inj.mp
  apply BitVec.eq_of_toNat_eq
  rw [Int64.toBitVec_and, BitVec.toNat_and, show (255:Int64).toBitVec.toNat = 2 ^ 8 - 1 by decide, Nat.and_two_pow_sub_one_eq_mod]
  show _ = (BitVec.ofNat 64 _).toNat
  rw [BitVec.toNat_ofNat]
  exact (Nat.mod_eq_of_lt (Nat.lt_of_lt_of_le (Nat.mod_lt _ (by decide)) (by decide))).symm
theorem cmp_v {b : Nat} (hb : b < 256) : lg_cmp (lN b) 0 = 0 ↔ b = 0 := by
  unfold lg_cmp
  by_cases h : b = 0
  · subst h
    exact ⟨fun _ => rfl, fun _ => by decide⟩
  · rw [if_pos (show lN b > 0 from (pk_lLT (a := 0) (by decide) (by omega)).mpr (by omega))]
    exact ⟨fun e => absurd e (by decide), fun e => absurd e h⟩
theorem cmp0_v (y : Int64) : lg_cmp y 0 = 0 ↔ ub y = 0 := by
  unfold lg_cmp
  constructor
  · intro h
    by_cases h1 : y > 0
    · rw [if_pos h1] at h
      exact absurd h (by decide)
    · rw [if_neg h1] at h
      by_cases h2 : y = 0
      · subst h2
        rfl
      · rw [if_neg h2] at h
        exact absurd h (by decide)
  · intro h
    have : y = 0 := by
      apply Int64.toBitVec_inj.mp
      apply BitVec.eq_of_toNat_eq
      exact h
    subst this
    decide
def byt (x : Int64) (i : Nat) : Nat := ub x / 2 ^ (8 * i) % 256
theorem byt_lt (x : Int64) (i : Nat) : byt x i < 256 := Nat.mod_lt _ (by decide)
theorem codeIn_v (x : Int64) {i : Nat} (hi : i < 8) : fX2_codeIn x (nI i) = some (nI (byt x i)) := by
  rw [fX2_codeIn, and32_v, ub_shr x _ (8 * i) (sh_am i hi)]
  rfl
theorem code8_v (x : Int64) {i : Nat} (hi : i < 8) : (((x.toUInt64 >>> (((8:Int32) * nI i).toInt64.toUInt64 &&& Int64.toUInt64 63)).toInt64) &&& (255:Int64)).toInt32 = nI (byt x i) := by
  rw [and64_v, lN_i, ub_shr x _ (8 * i) (sh_am i hi)]
  rfl
theorem ub_next (x : Int64) (i : Nat) : ub x / 2 ^ (8 * i) / 2 ^ 8 = ub x / 2 ^ (8 * (i + 1)) := by
  rw [Nat.div_div_eq_div_mul, ← Nat.pow_add, show 8 * i + 8 = 8 * (i + 1) by omega]
theorem ub_8 (x : Int64) : ub x / 2 ^ (8 * 8) = 0 := Nat.div_eq_of_lt (ub_lt x)
theorem c45_go (x : Int64) (s : Nat) (hs : s ≤ 8) : ∀ q j, j ≤ 8 → 8 - j < q → fX2_charactersIn_L45 x (nI s) q (nI j) = some (if ub x / 2 ^ (8 * j) = 0 then (if s = 0 then -6 else nI s) else -6) := by
  intro q
  induction q with
  | zero => intro j _ h; omega
  | succ q ih =>
    intro j h1 h2
    rw [fX2_charactersIn_L45]
    by_cases hj : j = 8
    · subst hj
      rw [if_pos (show (8:Int32) ≤ nI 8 by decide), if_pos (ub_8 x)]
      by_cases h0 : s = 0
      · subst h0
        rfl
      · rw [if_neg h0, if_neg (nI_ne0 (by omega) (by omega))]
    · have hn := ub_next x j
      rw [if_neg (show ¬ (8:Int32) ≤ nI j from nI_ge (b := 8) (by omega) (by decide)), codeIn_v x (by omega), Option.bind_some]
      by_cases hb : byt x j = 0
      · rw [hb, if_pos (show nI 0 = 0 from rfl), nI_1, ih (j + 1) (by omega) (by omega), ← hn]
        unfold byt at hb
        congr 1
        by_cases hz : ub x / 2 ^ (8 * j) = 0
        · rw [if_pos (show ub x / 2 ^ (8 * j) / 2 ^ 8 = 0 by rw [hz]), if_pos hz]
        · rw [if_neg hz, if_neg]
          intro e
          generalize ub x / 2 ^ (8 * j) = z at hb hz e
          omega
      · have := byt_lt x j
        rw [if_neg (nI_ne0 (by omega) (by omega)), if_neg]
        intro e
        unfold byt at hb
        rw [e] at hb
        exact hb rfl
theorem bad_go (M : FS) (x : Int64) : ∀ q j rest, j ≤ 8 → 8 - j < q → fX8_put_L8 M x q (nI j) rest 0 = some (-2, M) := by
  have l67 : ∀ y3 y4, fX8_put_L67 M x y3 y4 0 = some (-2, M) := by
    intro y3 y4
    rw [fX8_put_L67]
    split
    · rfl
    · rw [if_pos rfl]
  intro q
  induction q with
  | zero => intro j _ _ h; omega
  | succ q ih =>
    intro j rest h1 h2
    rw [fX8_put_L8]
    by_cases hj : j = 8
    · subst hj
      rw [if_pos (show (8:Int32) ≤ nI 8 by decide), l67]
    · rw [if_neg (show ¬ (8:Int32) ≤ nI j from nI_ge (b := 8) (by omega) (by decide)), l67, if_pos (show (0:Int32) = 0 from rfl), fX8_put_L51, nI_1, ih (j + 1) _ (by omega) (by omega)]
      split <;> rfl
theorem put_go (M : FS) (x : Int64) : ∀ q j rest, j ≤ 8 → 8 - j < q → ub rest = ub x / 2 ^ (8 * j) → (∃ s, s ≤ 8 ∧ 1 ≤ s ∧ fX2_charactersIn_L2 x q (nI j) = some (nI s) ∧ fX8_put_L8 M x q (nI j) rest 1 = (if (M 8 1) + nI s ≤ 80 then fX8_put_L105 x 6000 M (nI s - 1) else some (-4, M))) ∨ (fX2_charactersIn_L2 x q (nI j) = some (-6) ∧ fX8_put_L8 M x q (nI j) rest 1 = some (-2, M)) := by
  have l67 : ∀ s rest, s ≤ 8 → ub rest = ub x / 2 ^ (8 * s) → (∃ s2, s2 ≤ 8 ∧ 1 ≤ s2 ∧ fX2_charactersIn_L45 x (nI s) 6000 (nI s) = some (nI s2) ∧ fX8_put_L67 M x (nI s) rest 1 = (if (M 8 1) + nI s2 ≤ 80 then fX8_put_L105 x 6000 M (nI s2 - 1) else some (-4, M))) ∨ (fX2_charactersIn_L45 x (nI s) 6000 (nI s) = some (-6) ∧ fX8_put_L67 M x (nI s) rest 1 = some (-2, M)) := by
    intro s rest hs hr
    rw [c45_go x s hs 6000 s hs (by omega), fX8_put_L67]
    by_cases h0 : s = 0
    · subst h0
      refine Or.inr ⟨?_, by rw [if_pos (show nI 0 = 0 from rfl)]⟩
      rw [if_pos (show (0:Nat) = 0 from rfl)]
      split <;> rfl
    · rw [if_neg h0, if_neg (nI_ne0 (by omega) (by omega)), if_neg (show ¬ (1:Int32) = 0 by decide)]
      by_cases hz : ub x / 2 ^ (8 * s) = 0
      · rw [if_pos hz, if_pos ((cmp0_v rest).mpr (by rw [hr, hz]))]
        exact Or.inl ⟨s, hs, by omega, rfl, rfl⟩
      · rw [if_neg hz, if_neg (fun e => hz (by rw [← hr]; exact (cmp0_v rest).mp e))]
        exact Or.inr ⟨rfl, rfl⟩
  intro q
  induction q with
  | zero => intro j _ _ h; omega
  | succ q ih =>
    intro j rest h1 h2 h3
    rw [fX2_charactersIn_L2, fX8_put_L8]
    by_cases hj : j = 8
    · subst hj
      rw [if_pos (show (8:Int32) ≤ nI 8 by decide), if_pos (show (8:Int32) ≤ nI 8 by decide)]
      exact l67 8 rest (Nat.le_refl _) h3
    · have hb := byt_lt x j
      have hbr : ub rest % 256 = byt x j := by rw [h3]; rfl
      rw [if_neg (show ¬ (8:Int32) ≤ nI j from nI_ge (b := 8) (by omega) (by decide)), if_neg (show ¬ (8:Int32) ≤ nI j from nI_ge (b := 8) (by omega) (by decide)), codeIn_v x (by omega), Option.bind_some, Option.bind_some, and64_v, lN_i, hbr]
      by_cases h0 : byt x j = 0
      · rw [h0, if_pos (show nI 0 = 0 from rfl), if_pos ((cmp_v (by decide)).mpr rfl)]
        exact l67 j rest h1 h3
      · rw [if_neg (nI_ne0 (by omega) (by omega)), if_neg (fun e => h0 ((cmp_v hb).mp e)), if_neg (show ¬ (1:Int32) = 0 by decide), nI_1]
        have hn : ub ((rest.toUInt64 >>> ((8:Int32).toInt64.toUInt64 &&& Int64.toUInt64 63)).toInt64) = ub x / 2 ^ (8 * (j + 1)) := by
          rw [ub_shr rest _ 8 sh_a8, h3, ub_next]
        by_cases hlo : byt x j < 33
        · rw [if_pos (show nI (byt x j) < 33 from nI_lt (b := 33) hlo (by decide)), in_lt (show nI (byt x j) < 33 from nI_lt (b := 33) hlo (by decide)), Option.bind_some, if_pos rfl, fX8_put_L51, nI_1, bad_go M x q (j + 1) _ (by omega) (by omega)]
          exact Or.inr ⟨rfl, rfl⟩
        · rw [if_neg (show ¬ nI (byt x j) < 33 from nI_nlt (b := 33) (by omega) (by omega))]
          by_cases hhi : byt x j ≤ 126
          · rw [if_pos (show nI (byt x j) ≤ 126 from nI_le (b := 126) hhi (by decide)), show fX8_in (nI (byt x j)) 33 126 = some 1 from in_in (lo := 33) (hi := 126) (by omega) hhi (by decide), Option.bind_some, if_neg (show ¬ (1:Int32) = 0 by decide)]
            exact ih (j + 1) _ (by omega) (by omega) hn
          · rw [if_neg (show ¬ nI (byt x j) ≤ 126 from nI_ge (a := 126) (by omega) (by omega)), in_gt (show (126:Int32) < nI (byt x j) from nI_lt (a := 126) (by omega) (by omega)), Option.bind_some, if_pos rfl, fX8_put_L51, nI_1, bad_go M x q (j + 1) _ (by omega) (by omega)]
            exact Or.inr ⟨rfl, rfl⟩
/-- the pads hold the same text -/
def PdS (S M : FS) (L : Nat) (C : Nat → Nat) : Prop := L ≤ 80 ∧ S 2 0 = nI L ∧ M 8 1 = nI L ∧ ∀ i, i < L → S 0 i = nI (C i) ∧ M 5 i = nI (C i) ∧ C i < 256
def pdM (M : FS) (g : FA) (v : Int32) : FS := sf (sr M 5 g) 8 1 v
def pdP (S : FS) (g : FA) (v : Int32) : FS := sf (sr S 0 g) 2 0 v
theorem pdM_pdM (M : FS) (f g : FA) (v w : Int32) : sf (sr (pdM M f v) 5 g) 8 1 w = pdM M g w := by
  funext i
  unfold pdM
  show cond (Nat.beq i 8) (fun b => cond (Nat.beq b 1) w (cond (Nat.beq i 5) g (cond (Nat.beq i 8) (fun b => cond (Nat.beq b 1) v (cond (Nat.beq i 5) f (M i) b)) (cond (Nat.beq i 5) f (M i))) b)) (cond (Nat.beq i 5) g (cond (Nat.beq i 8) (fun b => cond (Nat.beq b 1) v (cond (Nat.beq i 5) f (M i) b)) (cond (Nat.beq i 5) f (M i)))) = cond (Nat.beq i 8) (fun b => cond (Nat.beq b 1) w (cond (Nat.beq i 5) g (M i) b)) (cond (Nat.beq i 5) g (M i))
  cases h8 : Nat.beq i 8 with
  | true =>
    have := Nat.eq_of_beq_eq_true h8
    subst this
    funext j
    show cond (Nat.beq j 1) w (cond (Nat.beq j 1) v (M 8 j)) = cond (Nat.beq j 1) w (M 8 j)
    cases Nat.beq j 1 with
    | true => rfl
    | false => rfl
  | false =>
    rw [cond_false, cond_false, cond_false]
    cases Nat.beq i 5 with
    | true => rfl
    | false => rfl
theorem pdP_pdP (S : FS) (f g : FA) (v w : Int32) : sf (sr (pdP S f v) 0 g) 2 0 w = pdP S g w := by
  funext i
  unfold pdP
  show cond (Nat.beq i 2) (fun b => cond (Nat.beq b 0) w (cond (Nat.beq i 0) g (cond (Nat.beq i 2) (fun b => cond (Nat.beq b 0) v (cond (Nat.beq i 0) f (S i) b)) (cond (Nat.beq i 0) f (S i))) b)) (cond (Nat.beq i 0) g (cond (Nat.beq i 2) (fun b => cond (Nat.beq b 0) v (cond (Nat.beq i 0) f (S i) b)) (cond (Nat.beq i 0) f (S i)))) = cond (Nat.beq i 2) (fun b => cond (Nat.beq b 0) w (cond (Nat.beq i 0) g (S i) b)) (cond (Nat.beq i 0) g (S i))
  cases h8 : Nat.beq i 2 with
  | true =>
    have := Nat.eq_of_beq_eq_true h8
    subst this
    funext j
    show cond (Nat.beq j 0) w (cond (Nat.beq j 0) v (S 2 j)) = cond (Nat.beq j 0) w (S 2 j)
    cases Nat.beq j 0 with
    | true => rfl
    | false => rfl
  | false =>
    rw [cond_false, cond_false, cond_false]
    cases Nat.beq i 0 with
    | true => rfl
    | false => rfl
theorem app_go (x : Int64) (S M : FS) : ∀ m q L (C : Nat → Nat) (f g : FA), m ≤ 8 → m < q → L + m ≤ 80 → (∀ i, i < L → f i = nI (C i) ∧ g i = nI (C i) ∧ C i < 256) → ∃ (f1 g1 : FA) (C1 : Nat → Nat), fX2_append_L5 x q (pdP S f (nI L)) (nI m + (-1)) = some (pdP S f1 (nI (L + m))) ∧ fX8_put_L105 x q (pdM M g (nI L)) (nI m + (-1)) = some (nI (L + m), pdM M g1 (nI (L + m))) ∧ ∀ i, i < L + m → f1 i = nI (C1 i) ∧ g1 i = nI (C1 i) ∧ C1 i < 256 := by
  intro m
  induction m with
  | zero =>
    intro q L C f g _ hq _ h
    obtain ⟨q, rfl⟩ : ∃ k, q = k + 1 := ⟨q - 1, by omega⟩
    refine ⟨f, g, C, ?_, ?_, h⟩
    · rw [fX2_append_L5, if_pos (show nI 0 + (-1) < 0 by decide)]
      rfl
    · rw [fX8_put_L105, if_pos (show nI 0 + (-1) < 0 by decide)]
      rfl
  | succ m ih =>
    intro q L C f g hm hq hL h
    obtain ⟨q, rfl⟩ : ∃ k, q = k + 1 := ⟨q - 1, by omega⟩
    obtain ⟨f1, g1, C1, e1, e2, e3⟩ := ih q (L + 1) (upN C L (byt x m)) (upd f L (nI (byt x m))) (upd g L (nI (byt x m))) (by omega) (by omega) (by omega) (fun i hi => by
      by_cases hil : i = L
      · subst hil
        rw [pk_us, pk_us, upN_s]
        exact ⟨rfl, rfl, byt_lt x m⟩
      · rw [pk_un hil, pk_un hil, upN_n hil]
        exact h i (by omega))
    rw [show L + 1 + m = L + (m + 1) by omega] at e1 e2 e3
    refine ⟨f1, g1, C1, ?_, ?_, e3⟩
    · rw [fX2_append_L5, pk_m1, if_neg (nI_pos (by omega)), show pdP S f (nI L) 2 0 = nI L from rfl, if_neg (show ¬ (80:Int32) ≤ nI L from nI_ge (b := 80) (by omega) (by decide)), codeIn_v x (by omega), Option.bind_some, show pdP S f (nI L) 0 = f from rfl, wr_v _ _ (by omega) (by decide), Option.bind_some, Option.bind_some, Option.bind_some, show sr (pdP S f (nI L)) 0 (upd f L (nI (byt x m))) 2 0 = nI L from rfl, nI_1, pdP_pdP, e1]
    · rw [fX8_put_L105, pk_m1, if_neg (nI_pos (by omega)), show pdM M g (nI L) 8 1 = nI L from rfl, show pdM M g (nI L) 5 = g from rfl, code8_v x (by omega), wr_v _ _ (by omega) (by decide), Option.bind_some, Option.bind_some, Option.bind_some, show sr (pdM M g (nI L)) 5 (upd g L (nI (byt x m))) 8 1 = nI L from rfl, nI_1, pdM_pdM, e2]
theorem pdP_id {S : FS} {v : Int32} (h : S 2 0 = v) : pdP S (S 0) v = S := by
  unfold pdP
  rw [sr_self, ← h, sf_self]
theorem pdM_id {M : FS} {v : Int32} (h : M 8 1 = v) : pdM M (M 5) v = M := by
  unfold pdM
  rw [sr_self, ← h, sf_self]
theorem sq_self (Q : Nat → FS) (i : Nat) : sq Q i (Q i) = Q := by
  funext a
  by_cases h : a = i
  · subst h
    rw [sq_s]
  · rw [sq_n h]
theorem put_v {Q : Nat → FS} {M : FS} {L : Nat} {C : Nat → Nat} (h : PdS (Q 1) M L C) (x : Int64) : ∃ (r : Int32) (f g : FA) (L1 : Nat) (C1 : Nat → Nat), fX7_put Q x = some (r, sq Q 1 (pdP (Q 1) f (nI L1))) ∧ fX8_put M x = some (r, pdM M g (nI L1)) ∧ PdS (pdP (Q 1) f (nI L1)) (pdM M g (nI L1)) L1 C1 := by
  obtain ⟨h1, h2, h3, h4⟩ := h
  have same : PdS (pdP (Q 1) (Q 1 0) (nI L)) (pdM M (M 5) (nI L)) L C := ⟨h1, rfl, rfl, h4⟩
  have idQ : sq Q 1 (pdP (Q 1) (Q 1 0) (nI L)) = Q := by rw [pdP_id h2, sq_self]
  have idM : pdM M (M 5) (nI L) = M := pdM_id h3
  rw [fX7_put, fX8_put, fX2_charactersIn]
  rcases put_go M x 6000 0 x (by omega) (by omega) (by rw [Nat.mul_zero, Nat.pow_zero, Nat.div_one]) with ⟨s, s1, s2, e1, e2⟩ | ⟨e1, e2⟩
  · rw [show nI 0 = 0 from rfl] at e1 e2
    rw [e1, e2, Option.bind_some, if_neg (ne6 (by omega)), h2, h3, nI_add]
    by_cases h80 : L + s ≤ 80
    · rw [if_pos (show nI (L + s) ≤ 80 from nI_le (b := 80) h80 (by decide)), if_pos (show nI (L + s) ≤ 80 from nI_le (b := 80) h80 (by decide))]
      obtain ⟨f1, g1, C1, a1, a2, a3⟩ := app_go x (Q 1) M s 6000 L C (Q 1 0) (M 5) s1 (by omega) h80 h4
      rw [pdP_id h2] at a1
      rw [idM] at a2
      have es : nI s + (-1) = nI s - 1 := by
        obtain ⟨k, rfl⟩ : ∃ k, s = k + 1 := ⟨s - 1, by omega⟩
        rw [pk_m1, nI_pred]
      rw [es] at a1 a2
      refine ⟨nI (L + s), f1, g1, L + s, C1, ?_, a2, h80, rfl, rfl, a3⟩
      rw [fX2_append, a1, Option.bind_some, Option.bind_some, sq_s]
      rfl
    · rw [if_neg (show ¬ nI (L + s) ≤ 80 from nI_ge (a := 80) (by omega) (by omega)), if_neg (show ¬ nI (L + s) ≤ 80 from nI_ge (a := 80) (by omega) (by omega))]
      exact ⟨-4, Q 1 0, M 5, L, C, by rw [idQ], by rw [idM], same⟩
  · rw [show nI 0 = 0 from rfl] at e1 e2
    rw [e1, e2]
    exact ⟨-2, Q 1 0, M 5, L, C, by rw [idQ]; rfl, by rw [idM], same⟩
theorem wipe_v {Q : Nat → FS} {M : FS} {L : Nat} {C : Nat → Nat} (h : PdS (Q 1) M L C) : fX7_wipe Q = some (nI L, sq Q 1 (sf (Q 1) 2 0 0)) ∧ fX8_wipe M = some (nI L, sf M 8 1 0) ∧ PdS (sf (Q 1) 2 0 0) (sf M 8 1 0) 0 C := by
  obtain ⟨h1, h2, h3, h4⟩ := h
  refine ⟨?_, ?_, by decide, rfl, rfl, fun i hi => by omega⟩
  · rw [fX7_wipe, fX2_empty, Option.bind_some, Option.bind_some, Option.bind_some, h2]
  · rw [fX8_wipe, Option.bind_some, h3]
