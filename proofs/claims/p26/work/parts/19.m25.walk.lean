/-! along an edge: what the reference counts and how far apart it finds the depths -/
def mm (M : FS) (v : Int32) (a : Nat) : FS := sf (sf M 8 2 v) 8 3 (nI a)
theorem mm_set (M : FS) (v w : Int32) (a b : Nat) : sf (sf (mm M v a) 8 2 w) 8 3 (nI b) = mm M w b := by
  funext i
  unfold mm sf
  cases Nat.beq i 8 with
  | true =>
    funext j
    show cond (Nat.beq j 3) (nI b) (cond (Nat.beq j 2) w (cond (Nat.beq j 3) (nI a) (cond (Nat.beq j 2) v (M i j)))) = cond (Nat.beq j 3) (nI b) (cond (Nat.beq j 2) w (M i j))
    cases Nat.beq j 3 with
    | true => rfl
    | false => cases Nat.beq j 2 with
      | true => rfl
      | false => rfl
  | false => rfl
theorem mm_v (M : FS) (v w : Int32) (a : Nat) : sf (mm M v a) 8 2 w = mm M w a := by
  funext i
  unfold mm sf
  cases Nat.beq i 8 with
  | true =>
    funext j
    show cond (Nat.beq j 2) w (cond (Nat.beq j 3) (nI a) (cond (Nat.beq j 2) v (M i j))) = cond (Nat.beq j 3) (nI a) (cond (Nat.beq j 2) w (M i j))
    cases h3 : Nat.beq j 3 with
    | true =>
      have := Nat.eq_of_beq_eq_true h3
      subst this
      rfl
    | false => cases Nat.beq j 2 with
      | true => rfl
      | false => rfl
  | false => rfl
theorem mm_self (M : FS) (a : Nat) : sf M 8 3 (nI a) = mm M (M 8 2) a := by
  funext i
  unfold mm sf
  cases h8 : Nat.beq i 8 with
  | true =>
    have := Nat.eq_of_beq_eq_true h8
    subst this
    funext j
    show cond (Nat.beq j 3) (nI a) (M 8 j) = cond (Nat.beq j 3) (nI a) (cond (Nat.beq j 2) (M 8 2) (M 8 j))
    cases Nat.beq j 3 with
    | true => rfl
    | false => cases h2 : Nat.beq j 2 with
      | true =>
        have := Nat.eq_of_beq_eq_true h2
        subst this
        rfl
      | false => rfl
  | false => rfl
def dif (e d : Nat) : Nat := e - d + (d - e)
theorem neg_nle {x : Int32} (h : x < 0) : ¬ 0 ≤ x := by
  rw [Int32.lt_iff_toInt_lt] at h
  rw [Int32.le_iff_toInt_le]
  omega
theorem rem2 {s : Nat} (hs : s < 4) : nI s - nI s / (2:Int32) * (2:Int32) = nI (s % 2) := pk_rem (by omega) (d := 2) (by decide) (by decide)
theorem edge_step {M : FS} {A : AS} (h : RM (M 0) A) (hA : AV A) {d t s : Nat} (ht : tv d t) (hs : s < 4) (q x y g m a : Nat) (hx : x < 64) (hy : y < 64) (hg : g < 2 ^ (6 - d)) (ha : a ≤ 6) : fX8_meets_L80 (nI t) (nI s) (nI (2 ^ (6 - d))) (q + 1) (mm M (nI m) a) (nI x) (nI y) (nI g) = fX8_meets_L80 (nI t) (nI s) (nI (2 ^ (6 - d))) q (mm M (nI (m + 1)) (mx a (dif (ld A (pth 6 x y)) d))) (nI (x + gxx s (2 ^ (6 - ld A (pth 6 x y))))) (nI (y + gyy s (2 ^ (6 - ld A (pth 6 x y))))) (nI (g + 2 ^ (6 - ld A (pth 6 x y)))) := by
  have hp := pth_lt 6 x y
  have h6 := (ld_spec hA (pth 6 x y)).1
  have hd := ht.1
  have hz := sz_le d
  have hl := tl_tv h6 hp
  have t2 : ∀ b : Nat, fX8_meets_L166 (fX8_meets_L80 (nI t) (nI s) (nI (2 ^ (6 - d))) q) (nI t) (nI s) (nI (2 ^ (6 - d))) (sf (mm M (nI m) a) 8 2 (nI (m + 1))) (nI x) (nI y) (nI g) (nI (tl (ld A (pth 6 x y)) (pth 6 x y))) (nI b) = fX8_meets_L80 (nI t) (nI s) (nI (2 ^ (6 - d))) q (mm M (nI (m + 1)) b) (nI (x + gxx s (2 ^ (6 - ld A (pth 6 x y))))) (nI (y + gyy s (2 ^ (6 - ld A (pth 6 x y))))) (nI (g + 2 ^ (6 - ld A (pth 6 x y)))) := by
    intro b
    rw [fX8_meets_L166, Option.bind_some, mm_set, sizeOf_v hl, Option.bind_some, Option.bind_some, rem2 hs, nI_add]
    rcases (show s % 2 = 0 ∨ s % 2 = 1 by omega) with e | e
    · rw [e, if_neg (show ¬ nI 0 = 1 by decide), fX8_meets_L197, rem2 hs, e, if_pos (show nI 0 = 0 from rfl), sizeOf_v hl, Option.bind_some, (gxx_even e).1, (gxx_even e).2, nI_add, Int32.add_zero, Nat.add_zero x]
    · rw [e, if_pos (show nI 1 = 1 from rfl), fX8_meets_L197, rem2 hs, e, if_neg (show ¬ nI 1 = 0 by decide), (gxx_odd e).1, (gxx_odd e).2, nI_add, Int32.add_zero, Nat.add_zero y]
  have t1 : ∀ z : Nat, z ≤ 6 → fX8_meets_L135 (fX8_meets_L80 (nI t) (nI s) (nI (2 ^ (6 - d))) q) (nI t) (nI s) (nI (2 ^ (6 - d))) (mm M (nI m) a) (nI x) (nI y) (nI g) (nI (tl (ld A (pth 6 x y)) (pth 6 x y))) (nI z) = fX8_meets_L80 (nI t) (nI s) (nI (2 ^ (6 - d))) q (mm M (nI (m + 1)) (mx a z)) (nI (x + gxx s (2 ^ (6 - ld A (pth 6 x y))))) (nI (y + gyy s (2 ^ (6 - ld A (pth 6 x y))))) (nI (g + 2 ^ (6 - ld A (pth 6 x y)))) := by
    intro z hz6
    rw [fX8_meets_L135, Option.bind_some, show mm M (nI m) a 8 2 = nI m from rfl, show nI m + 1 = nI (m + 1) from nI_1 m, show sf (mm M (nI m) a) 8 2 (nI (m + 1)) 8 3 = nI a from rfl, t2, t2, mx]
    by_cases hza : a < z
    · rw [if_neg (nI_ge hza (by omega)), blt_t hza, cond_true]
    · rw [if_pos (nI_le (Nat.not_lt.mp hza) (by omega)), blt_f hza, cond_false]
  rw [fX8_meets_L80, if_neg (nI_ge hg (by omega)), isPlace8_in hx hy, Option.bind_some, if_neg (show ¬ (1:Int32) = 0 by decide), pathOf_all x hx y hy, Option.bind_some, leafOf8_v (r := mm M (nI m) a 0) (show RM (M 0) A from h) hA hp, Option.bind_some, dep8_tv hl, Option.bind_some, dep8_tv ht, Option.bind_some]
  by_cases hed : d ≤ ld A (pth 6 x y)
  · rw [nI_sub hed, if_pos (nI_pos' (by omega)), t1 _ (by omega), show dif (ld A (pth 6 x y)) d = ld A (pth 6 x y) - d by unfold dif; omega]
  · rw [if_neg (neg_nle (pk_sneg (by omega) (by omega))), Int32.neg_sub, nI_sub (by omega), t1 _ (by omega), show dif (ld A (pth 6 x y)) d = d - ld A (pth 6 x y) by unfold dif; omega]
/-- the leaves of a tile along an edge, and how far their depths lie from a depth -/
def LSn (A : AS) (s : Nat) : Nat → Nat → Nat → Nat
  | 0, _, _ => 1
  | h + 1, d, t => cond (spb A d t) (LSn A s h (d + 1) (4 * t + qO s) + LSn A s h (d + 1) (4 * t + qU s)) 1
def LSm (A : AS) (s d0 : Nat) : Nat → Nat → Nat → Nat
  | 0, d, _ => dif d d0
  | h + 1, d, t => cond (spb A d t) (mx (LSm A s d0 h (d + 1) (4 * t + qO s)) (LSm A s d0 h (d + 1) (4 * t + qU s))) (dif d d0)
theorem LSn_le (A : AS) (s : Nat) : ∀ h d t, LSn A s h d t ≤ 2 ^ h
  | 0, _, _ => Nat.le_refl 1
  | h + 1, d, t => by
    have a := LSn_le A s h (d + 1) (4 * t + qO s)
    have b := LSn_le A s h (d + 1) (4 * t + qU s)
    have c : 1 ≤ 2 ^ h := Nat.one_le_pow _ _ (by decide)
    rw [LSn, Nat.pow_succ]
    cases spb A d t with
    | true => rw [cond_true]; omega
    | false => rw [cond_false]; omega
theorem LSm_le (A : AS) (s d0 : Nat) (h0 : d0 ≤ 6) : ∀ h d t, d + h = 6 → LSm A s d0 h d t ≤ 6
  | 0, d, t, e => by rw [LSm, dif]; omega
  | h + 1, d, t, e => by
    have a := LSm_le A s d0 h0 h (d + 1) (4 * t + qO s) (by omega)
    have b := LSm_le A s d0 h0 h (d + 1) (4 * t + qU s) (by omega)
    rw [LSm, mx_max, dif]
    cases spb A d t with
    | true => rw [cond_true]; omega
    | false => rw [cond_false]; omega
theorem mx_as (a b c : Nat) : mx (mx a b) c = mx a (mx b c) := by
  rw [mx_max, mx_max, mx_max, mx_max]
  omega
theorem gxx_two (s z : Nat) : gxx s z + gxx s z = gxx s (2 * z) ∧ gyy s z + gyy s z = gyy s (2 * z) := by
  unfold gxx gyy
  cases Nat.beq (s % 2) 1 with
  | true => exact ⟨by rw [cond_true, cond_true]; omega, rfl⟩
  | false => exact ⟨rfl, by rw [cond_false, cond_false]; omega⟩
theorem edge_walk {M : FS} {A : AS} (h : RM (M 0) A) (hA : AV A) {d0 t0 s : Nat} (ht0 : tv d0 t0) (hs : s < 4) : ∀ hh d t q m a g, d + hh = 6 → tv d t → TH A d t → g + 2 ^ (6 - d) ≤ 2 ^ (6 - d0) → a ≤ 6 → fX8_meets_L80 (nI t0) (nI s) (nI (2 ^ (6 - d0))) (q + LSn A s hh d t) (mm M (nI m) a) (nI (exx s d t)) (nI (eyy s d t)) (nI g) = fX8_meets_L80 (nI t0) (nI s) (nI (2 ^ (6 - d0))) q (mm M (nI (m + LSn A s hh d t)) (mx a (LSm A s d0 hh d t))) (nI (exx s d t + gxx s (2 ^ (6 - d)))) (nI (eyy s d t + gyy s (2 ^ (6 - d)))) (nI (g + 2 ^ (6 - d))) := by
  have leaf : ∀ d t q m a g, tv d t → TH A d t → spb A d t = false → g + 2 ^ (6 - d) ≤ 2 ^ (6 - d0) → a ≤ 6 → fX8_meets_L80 (nI t0) (nI s) (nI (2 ^ (6 - d0))) (q + 1) (mm M (nI m) a) (nI (exx s d t)) (nI (eyy s d t)) (nI g) = fX8_meets_L80 (nI t0) (nI s) (nI (2 ^ (6 - d0))) q (mm M (nI (m + 1)) (mx a (dif d d0))) (nI (exx s d t + gxx s (2 ^ (6 - d)))) (nI (eyy s d t + gyy s (2 ^ (6 - d)))) (nI (g + 2 ^ (6 - d))) := by
    intro d t q m a g ht hT hb hg ha
    obtain ⟨e1, e2, e3⟩ := edge_in (s := s) ht
    have e4 := leaf_at hA ht hT hb e3
    have e5 := (sz_le d).1
    have e := edge_step h hA ht0 hs q (exx s d t) (eyy s d t) g m a e1 e2 (by omega) ha
    rw [e4] at e
    exact e
  intro hh
  induction hh with
  | zero =>
    intro d t q m a g hd ht hT hg ha
    exact leaf d t q m a g ht hT (spb_deep (by have := hA.2.2.2.1; omega)) hg ha
  | succ hh ih =>
    intro d t q m a g hd ht hT hg ha
    rw [LSn, LSm]
    cases hb : spb A d t with
    | false => exact leaf d t q m a g ht hT hb hg ha
    | true =>
      rw [cond_true, cond_true]
      have hd6 : d < 6 := by omega
      have e2 := two_sz hd6
      obtain ⟨⟨_, _⟩, o1, o2⟩ := st_v s hs
      have gt := gxx_two s (2 ^ (6 - (d + 1)))
      have eo := edge_O hs ht hd6
      have eu := edge_U hs ht hd6
      have lm := LSm_le A s d0 ht0.1 hh (d + 1) (4 * t + qO s) (by omega)
      have r1 := ih (d + 1) (4 * t + qO s) (q + LSn A s hh (d + 1) (4 * t + qU s)) m a g (by omega) (kid_tv ht hd6 o1) (kid_TH ht hd6 o1 hT hb) (by omega) ha
      have r2 := ih (d + 1) (4 * t + qU s) q (m + LSn A s hh (d + 1) (4 * t + qO s)) (mx a (LSm A s d0 hh (d + 1) (4 * t + qO s))) (g + 2 ^ (6 - (d + 1))) (by omega) (kid_tv ht hd6 o2) (kid_TH ht hd6 o2 hT hb) (by omega) (by rw [mx_max]; omega)
      rw [eo.1, eo.2] at r1
      rw [eu.1, eu.2] at r2
      rw [show q + (LSn A s hh (d + 1) (4 * t + qO s) + LSn A s hh (d + 1) (4 * t + qU s)) = q + LSn A s hh (d + 1) (4 * t + qU s) + LSn A s hh (d + 1) (4 * t + qO s) by omega, r1, r2, mx_as, e2, ← gt.1, ← gt.2, Nat.add_assoc m, Nat.add_assoc (exx s d t), Nat.add_assoc (eyy s d t), show g + 2 ^ (6 - (d + 1)) + 2 ^ (6 - (d + 1)) = g + 2 * 2 ^ (6 - (d + 1)) by omega]
/-- what one side gives: the leaves beyond it, and how far apart -/
def sdn (A : AS) (s d n : Nat) : Nat := cond (thb A d n) (LSn A s (6 - d) d n) 1
def sdm (A : AS) (s d n : Nat) : Nat := cond (thb A d n) (LSm A s d (6 - d) d n) (d - ld A (fo d n))
theorem ld_in {A : AS} (hA : AV A) {d n p : Nat} (hn : tv d n) (hp : tl d p = n) (h : thb A d n = false) : ld A p = ld A (fo d n) ∧ ld A (fo d n) < d := by
  have h1 : ¬ d ≤ ld A (fo d n) := fun e => by rw [thb, Nat.ble_eq_true_of_le e] at h; cases h
  rcases ld_same hA hn.1 (show tl d (fo d n) = tl d p by rw [fo_tl hn, hp]) with ⟨_, e⟩ | ⟨e, _⟩
  · exact ⟨e, by omega⟩
  · exact absurd e h1
theorem meets_v {M : FS} {A : AS} (h : RM (M 0) A) (hA : AV A) {s d t n : Nat} (hs : s < 4) (ht : tv d t) (hx : nxt s d t = some n) (m a : Nat) (ha : a ≤ 6) : fX8_meets (mm M (nI m) a) (nI t) (nI s) = some (mm M (nI (m + sdn A s d n)) (mx a (sdm A s d n))) := by
  have hn := (nxt_spec hs ht hx).1
  have hd := hn.1
  have hz := sz_le d
  rw [(side_some hs ht hx).2, sdn, sdm]
  cases hb : thb A d n with
  | true =>
    rw [cond_true, cond_true]
    have hle := LSn_le A s (6 - d) d n
    have h26 : (2 : Nat) ^ (6 - d) ≤ 64 := hz.2
    have e := edge_walk h hA ht hs (6 - d) d n (6000 - LSn A s (6 - d) d n) m a 0 (by omega) hn (thb_TH hA hb) (by omega) ha
    rw [show 6000 - LSn A s (6 - d) d n + LSn A s (6 - d) d n = 6000 by omega, show nI 0 = 0 from rfl] at e
    obtain ⟨k, hk⟩ : ∃ k, 6000 - LSn A s (6 - d) d n = k + 1 := ⟨6000 - LSn A s (6 - d) d n - 1, by omega⟩
    rw [e, hk, fX8_meets_L80, if_pos (nI_le (show 2 ^ (6 - d) ≤ 0 + 2 ^ (6 - d) by omega) (by omega))]
  | false =>
    rw [cond_false, cond_false]
    obtain ⟨e1, e2, e3⟩ := edge_in (s := s) hn
    obtain ⟨e4, e5⟩ := ld_in hA hn e3 hb
    have e := edge_step h hA ht hs 5999 (exx s d n) (eyy s d n) 0 m a e1 e2 (by omega) ha
    rw [show nI 0 = 0 from rfl, show 5999 + 1 = 6000 from rfl] at e
    have h2 : (2 : Nat) ^ (6 - d) ≤ 2 ^ (6 - ld A (fo d n)) := Nat.pow_le_pow_right (by decide) (by omega)
    have h3 := (sz_le (ld A (fo d n))).2
    rw [e, e4, show (5999 : Nat) = 5998 + 1 from rfl, fX8_meets_L80, if_pos (nI_le (show 2 ^ (6 - d) ≤ 0 + 2 ^ (6 - ld A (fo d n)) by omega) (by omega)), show dif (ld A (fo d n)) d = d - ld A (fo d n) by unfold dif; omega]
