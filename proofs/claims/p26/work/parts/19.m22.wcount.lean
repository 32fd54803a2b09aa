/-! the tiles that the reference counts of a window are those that meet it -/
theorem tf_none {A : AS} {a b c e : Nat} : ∀ h d t (s : Nat × FA), d + h = 6 → tv d t → mtb a b c e d t = false → LLf A (gT a b c e) h d t s = s := by
  intro h
  induction h with
  | zero =>
    intro d t s hd ht hm
    rw [LLf, gT, hm, cond_false]
  | succ h ih =>
    intro d t s hd ht hm
    have hd6 : d < 6 := by omega
    have K : ∀ i s, i < 4 → LLf A (gT a b c e) h (d + 1) (4 * t + i) s = s := fun i s hi => ih (d + 1) (4 * t + i) s (by omega) (kid_tv ht hd6 hi) (mtb_kid ht hd6 hi hm)
    rw [LLf, K 0 _ (by decide), K 1 _ (by decide), K 2 _ (by decide), K 3 _ (by decide), gT, hm, cond_false]
    cases spb A d t with
    | true => rfl
    | false => rfl
/-- the row holds no tile under a tile -/
def frs (f : FA) (d t : Nat) : Prop := ∀ k u, d ≤ k → k ≤ 6 → u < 8192 → f k = nI u → ¬ u / 4 ^ (k - d) = t
def smw (w : Nat → Nat) : Nat → Nat
  | 0 => 0
  | i + 1 => smw w i + w i
theorem smw_0 (w : Nat → Nat) : ∀ n, (∀ j, j < n → w j = 0) → smw w n = 0
  | 0, _ => rfl
  | n + 1, h => by rw [smw, smw_0 w n (fun j hj => h j (by omega)), h n (by omega)]
theorem tf_leaf {a b c e d t : Nat} (ht : tv d t) {s : Nat × FA} (hf : frs s.2 d t) (hm : mtb a b c e d t = true) : (gT a b c e d t s).1 = s.1 + nwc s.2 d t d + 1 ∧ (∀ k, k ≤ d → (gT a b c e d t s).2 k = nI (t / 4 ^ (d - k))) ∧ ∀ k, d < k → k ≤ 6 → (gT a b c e d t s).2 k = s.2 k ∨ ∃ u, u < 8192 ∧ u / 4 ^ (k - d) = t ∧ (gT a b c e d t s).2 k = nI u := by
  have h0 := tv_lt ht
  have hd := ht.1
  have hne : ¬ s.2 d = nI (t / 4 ^ (d - d)) := by
    rw [Nat.sub_self, Nat.pow_zero, Nat.div_one]
    intro e1
    have := hf d t (Nat.le_refl _) hd h0.2 e1
    rw [Nat.sub_self, Nat.pow_zero, Nat.div_one] at this
    exact this rfl
  rw [gT, hm, cond_true]
  refine ⟨?_, ?_, ?_⟩
  · show s.1 + nwc s.2 d t (d + 1) = _
    rw [nwc, if_neg hne, Nat.add_assoc]
  · intro k hk
    show ltf s.2 d t k = _
    rw [ltf, if_pos (by omega)]
  · intro k hk hk6
    left
    show ltf s.2 d t k = _
    rw [ltf, if_neg (by omega)]
theorem tf_main {A : AS} {a b c e : Nat} (hac : a ≤ c) (hbe : b ≤ e) : ∀ h d t (s : Nat × FA), d + h = 6 → tv d t → frs s.2 d t → mtb a b c e d t = true → (LLf A (gT a b c e) h d t s).1 = s.1 + nwc s.2 d t d + LLt A a b c e h d t ∧ (∀ k, k ≤ d → (LLf A (gT a b c e) h d t s).2 k = nI (t / 4 ^ (d - k))) ∧ ∀ k, d < k → k ≤ 6 → (LLf A (gT a b c e) h d t s).2 k = s.2 k ∨ ∃ u, u < 8192 ∧ u / 4 ^ (k - d) = t ∧ (LLf A (gT a b c e) h d t s).2 k = nI u := by
  intro h
  induction h with
  | zero =>
    intro d t s hd ht hf hm
    have := tf_leaf ht hf hm
    rw [LLf, LLt, hm, cond_true]
    exact this
  | succ h ih =>
    intro d t s hd ht hf hm
    have hd6 : d < 6 := by omega
    rw [LLf, LLt, hm, cond_true]
    cases hs : spb A d t with
    | false =>
      rw [cond_false, cond_false]
      exact tf_leaf ht hf hm
    | true =>
      rw [cond_true, cond_true]
      have fk : ∀ i, i < 4 → frs s.2 (d + 1) (4 * t + i) := by
        intro i hi k u h1 h2 h3 h4 h5
        refine hf k u (by omega) h2 h3 h4 ?_
        rw [up_div h1, h5]
        omega
      have up : ∀ (f : FA) i, i < 4 → nwc f (d + 1) (4 * t + i) (d + 1) = nwc f d t d + (if f d = nI t then 0 else 1) := by
        intro f i hi
        have g : ∀ m, m ≤ d → nwc f (d + 1) (4 * t + i) m = nwc f d t m := by
          intro m
          induction m with
          | zero => intro _; rfl
          | succ m im =>
            intro hm
            rw [nwc, nwc, im (by omega), kid_div hi (by omega)]
        rw [nwc, g d (Nat.le_refl _), kid_div hi (Nat.le_refl _), Nat.sub_self, Nat.pow_zero, Nat.div_one]
      have hfd : ¬ s.2 d = nI t := by
        intro e1
        have := hf d t (Nat.le_refl _) (by omega) (tv_lt ht).2 e1
        rw [Nat.sub_self, Nat.pow_zero, Nat.div_one] at this
        exact this rfl
      have z0 : ∀ (f : FA), (∀ k, k ≤ d → f k = nI (t / 4 ^ (d - k))) → nwc f d t d = 0 := by
        intro f hfk
        have g : ∀ m, m ≤ d → nwc f d t m = 0 := by
          intro m
          induction m with
          | zero => intro _; rfl
          | succ m im =>
            intro hm
            rw [nwc, im (by omega), if_pos (hfk m (by omega))]
        exact g d (Nat.le_refl _)
      have step : ∀ i (s' : Nat × FA), i < 4 → ((s' = s ∧ ∀ j, j < i → mtb a b c e (d + 1) (4 * t + j) = false) ∨ (s'.1 = s.1 + nwc s.2 d t d + 1 + smw (fun j => LLt A a b c e h (d + 1) (4 * t + j)) i ∧ (∀ k, k ≤ d → s'.2 k = nI (t / 4 ^ (d - k))) ∧ ∀ k, d < k → k ≤ 6 → s'.2 k = s.2 k ∨ ∃ u j, u < 8192 ∧ j < i ∧ u / 4 ^ (k - (d + 1)) = 4 * t + j ∧ s'.2 k = nI u)) → ((LLf A (gT a b c e) h (d + 1) (4 * t + i) s' = s ∧ ∀ j, j < i + 1 → mtb a b c e (d + 1) (4 * t + j) = false) ∨ ((LLf A (gT a b c e) h (d + 1) (4 * t + i) s').1 = s.1 + nwc s.2 d t d + 1 + smw (fun j => LLt A a b c e h (d + 1) (4 * t + j)) (i + 1) ∧ (∀ k, k ≤ d → (LLf A (gT a b c e) h (d + 1) (4 * t + i) s').2 k = nI (t / 4 ^ (d - k))) ∧ ∀ k, d < k → k ≤ 6 → (LLf A (gT a b c e) h (d + 1) (4 * t + i) s').2 k = s.2 k ∨ ∃ u j, u < 8192 ∧ j < i + 1 ∧ u / 4 ^ (k - (d + 1)) = 4 * t + j ∧ (LLf A (gT a b c e) h (d + 1) (4 * t + i) s').2 k = nI u)) := by
        intro i s' hi hor
        have hk := kid_tv ht hd6 hi
        have h0 := tv_lt hk
        cases hmk : mtb a b c e (d + 1) (4 * t + i) with
        | false =>
          rw [tf_none h (d + 1) (4 * t + i) s' (by omega) hk hmk]
          rcases hor with ⟨e1, e2⟩ | ⟨e1, e2, e3⟩
          · refine Or.inl ⟨e1, fun j hj => ?_⟩
            by_cases hji : j = i
            · subst hji; exact hmk
            · exact e2 j (by omega)
          · refine Or.inr ⟨?_, e2, fun k k1 k2 => ?_⟩
            · rw [smw, LLt_none hmk, Nat.add_zero]
              exact e1
            · rcases e3 k k1 k2 with e4 | ⟨u, j, u1, u2, u3, u4⟩
              · exact Or.inl e4
              · exact Or.inr ⟨u, j, u1, by omega, u3, u4⟩
        | true =>
          rcases hor with ⟨e1, e2⟩ | ⟨e1, e2, e3⟩
          · subst e1
            obtain ⟨g1, g2, g3⟩ := ih (d + 1) (4 * t + i) s' (by omega) hk (fk i hi) hmk
            refine Or.inr ⟨?_, fun k k1 => ?_, fun k k1 k2 => ?_⟩
            · rw [g1, up _ i hi, if_neg hfd, smw, smw_0 _ i (fun j hj => LLt_none (e2 j hj))]
              omega
            · rw [g2 k (by omega), kid_div hi k1]
            · by_cases hkd : k = d + 1
              · subst hkd
                refine Or.inr ⟨4 * t + i, i, h0.2, by omega, ?_, ?_⟩
                · rw [Nat.sub_self, Nat.pow_zero, Nat.div_one]
                · rw [g2 (d + 1) (Nat.le_refl _), Nat.sub_self, Nat.pow_zero, Nat.div_one]
              · rcases g3 k (by omega) k2 with e4 | ⟨u, u1, u2, u3⟩
                · exact Or.inl e4
                · exact Or.inr ⟨u, i, u1, by omega, u2, u3⟩
          · have fk2 : frs s'.2 (d + 1) (4 * t + i) := by
              intro k u h1 h2 h3 h4 h5
              rcases e3 k (by omega) h2 with e4 | ⟨v, j, v1, v2, v3, v4⟩
              · rw [e4] at h4
                exact fk i hi k u h1 h2 h3 h4 h5
              · rw [v4] at h4
                have := (nI_eq (show v < 2 ^ 31 by omega) (show u < 2 ^ 31 by omega)).mp h4
                subst this
                omega
            obtain ⟨g1, g2, g3⟩ := ih (d + 1) (4 * t + i) s' (by omega) hk fk2 hmk
            have e5 := e2 d (Nat.le_refl _)
            rw [Nat.sub_self, Nat.pow_zero, Nat.div_one] at e5
            refine Or.inr ⟨?_, fun k k1 => ?_, fun k k1 k2 => ?_⟩
            · rw [g1, up _ i hi, if_pos e5, z0 _ e2, smw, e1]
              omega
            · rw [g2 k (by omega), kid_div hi k1]
            · by_cases hkd : k = d + 1
              · subst hkd
                refine Or.inr ⟨4 * t + i, i, h0.2, by omega, ?_, ?_⟩
                · rw [Nat.sub_self, Nat.pow_zero, Nat.div_one]
                · rw [g2 (d + 1) (Nat.le_refl _), Nat.sub_self, Nat.pow_zero, Nat.div_one]
              · rcases g3 k (by omega) k2 with e4 | ⟨u, u1, u2, u3⟩
                · rw [e4]
                  rcases e3 k k1 k2 with e6 | ⟨v, j, v1, v2, v3, v4⟩
                  · exact Or.inl e6
                  · exact Or.inr ⟨v, j, v1, by omega, v3, v4⟩
                · exact Or.inr ⟨u, i, u1, by omega, u2, u3⟩
      have s0 := step 0 s (by decide) (Or.inl ⟨rfl, fun j hj => by omega⟩)
      have s1 := step 1 _ (by decide) s0
      have s2 := step 2 _ (by decide) s1
      have s3 := step 3 _ (by decide) s2
      rcases s3 with ⟨_, e2⟩ | ⟨e1, e2, e3⟩
      · obtain ⟨i, hi, e4⟩ := mtb_some hac hbe ht hd6 hm
        rw [e2 i (by omega)] at e4
        cases e4
      · refine ⟨?_, e2, fun k k1 k2 => ?_⟩
        · rw [e1, smw, smw, smw, smw, smw]
          omega
        · rcases e3 k k1 k2 with e4 | ⟨u, j, u1, u2, u3, u4⟩
          · exact Or.inl e4
          · refine Or.inr ⟨u, u1, ?_, u4⟩
            rw [up_div (by omega), u3]
            omega
theorem mtb_top {a b c e : Nat} (ha : a < 64) (hb : b < 64) : mtb a b c e 0 1 = true := by
  have e1 : xof 6 (fo 0 1) = 0 := by decide
  have e2 : yof 6 (fo 0 1) = 0 := by decide
  have e3 : 2 ^ (6 - 0) = 64 := by decide
  rw [mtb, e1, e2, e3, Nat.ble_eq_true_of_le (Nat.zero_le c), Nat.ble_eq_true_of_le (Nat.zero_le e), blt_t (by omega), blt_t (by omega)]
  rfl
theorem tilesIn2_v {M : FS} {A : AS} (h : RM (M 0) A) (hA : AV A) {a b c e : Nat} (ha : a < 64) (hb : b < 64) (hc : c < 64) (he : e < 64) (hac : a ≤ c) (hbe : b ≤ e) : ∃ g : FA, fX8_tilesIn M (nI a) (nI b) (nI c) (nI e) 2 = some (nI (LLt A a b c e 6 0 1), sr M 6 g) := by
  obtain ⟨g, hg, e1⟩ := lasts_go M (nI a) (nI b) (nI c) (nI e) 2 6000 0 (M 6) (by omega) (by omega) (fun i hi => by omega)
  rw [sr_self, show nI 0 = 0 from rfl] at e1
  have hle : LLn A 6 0 1 ≤ 4 ^ 6 := LLs_le A (fun _ _ => 1) (fun _ _ => Nat.le_refl 1) 6 0 1
  have e46 : (4 : Nat) ^ 6 = 4096 := by decide
  have S := (scan hA (fun q y (s : Nat × FA) => fX8_tilesIn_L30 (nI a) (nI b) (nI c) (nI e) 2 q (sr M 6 s.2) (nI s.1) (nI y)) (gT a b c e) (fun _ => True) 4096 (fun _ _ _ _ _ => trivial) (fun q y s _ hy _ => tiles2_go h hA ha hb hc he q y s hy) 6 0 1 (6000 - LLn A 6 0 1) (0, g) rfl tv01 (TH0 A 1) (by decide) trivial).1
  have F := tf_main (A := A) hac hbe 6 0 1 (0, g) rfl tv01 (fun k u h1 h2 h3 h4 h5 => by
    have h4 : g k = nI u := h4
    rw [hg k (by omega)] at h4
    have := (nI_eq (show 0 < 2 ^ 31 by decide) (show u < 2 ^ 31 by omega)).mp h4
    subst this
    rw [Nat.zero_div] at h5
    omega) (mtb_top ha hb)
  rw [show 6000 - LLn A 6 0 1 + LLn A 6 0 1 = 6000 by omega, fo01] at S
  obtain ⟨k, hk⟩ : ∃ k, 6000 - LLn A 6 0 1 = k + 1 := ⟨6000 - LLn A 6 0 1 - 1, by omega⟩
  rw [hk, show 0 + 4 ^ (6 - 0) = 4096 by decide] at S
  have S2 : fX8_tilesIn_L30 (nI a) (nI b) (nI c) (nI e) 2 6000 (sr M 6 g) (nI 0) (nI 0) = fX8_tilesIn_L30 (nI a) (nI b) (nI c) (nI e) 2 (k + 1) (sr M 6 (LLf A (gT a b c e) 6 0 1 (0, g)).2) (nI (LLf A (gT a b c e) 6 0 1 (0, g)).1) (nI 4096) := S
  rw [show nI 0 = 0 from rfl] at S2
  refine ⟨(LLf A (gT a b c e) 6 0 1 (0, g)).2, ?_⟩
  rw [fX8_tilesIn, e1, S2, fX8_tilesIn_L30, if_pos (show (4096:Int32) ≤ nI 4096 by decide), F.1]
  show some (nI (0 + 0 + LLt A a b c e 6 0 1), sr M 6 (LLf A (gT a b c e) 6 0 1 (0, g)).2) = _
  rw [show 0 + 0 + LLt A a b c e 6 0 1 = LLt A a b c e 6 0 1 by omega]
theorem window_v {Q : Nat → FS} {M : FS} {A : AS} (h : RT (Q 0) A) (h8 : RM (M 0) A) (hA : AV A) (x1 x2 x3 x4 x5 : Int32) : ∃ (r : Int32) (g : FA), fX7_window Q x1 x2 x3 x4 x5 = some (r, Q) ∧ fX8_window M x1 x2 x3 x4 x5 = some (r, sr M 6 g) := by
  have self : ∀ r : Int32, ∃ g : FA, some (r, M) = some (r, sr M 6 g) := fun r => ⟨M 6, by rw [sr_self]⟩
  rw [fX7_window, fX8_window]
  rcases isPlace_any x1 x2 with ⟨a, b, ha, hb, rfl, rfl, e1, e8⟩ | ⟨e1, e8⟩
  · rw [e1, e8, Option.bind_some, Option.bind_some, if_neg (show ¬ (1:Int32) = 0 by decide), if_neg (show ¬ (1:Int32) = 0 by decide)]
    rcases isPlace_any x3 x4 with ⟨c, e, hc, he, rfl, rfl, e1, e8⟩ | ⟨e1, e8⟩
    · rw [e1, e8, Option.bind_some, Option.bind_some, if_neg (show ¬ (1:Int32) = 0 by decide), if_neg (show ¬ (1:Int32) = 0 by decide)]
      by_cases hac : a ≤ c
      · rw [if_neg (nI_nlt hac (by omega)), if_neg (nI_nlt hac (by omega))]
        by_cases hbe : b ≤ e
        · rw [if_pos (nI_le hbe (by omega)), if_pos (nI_le hbe (by omega))]
          by_cases k0 : x5 = 0
          · rw [if_pos k0, if_pos k0]
            have g5 := inside_go h.1 hA ha hb hc he 6000 0 (by omega) (by have := hA.1; omega)
            have g8 := between_go h8 hA ha hb hc he 6000 0 (by omega) (by have := hA.1; omega)
            rw [show nI (wnc a b c e (A 0) 0) = 0 from rfl, show nI 0 = 0 from rfl] at g5 g8
            rw [fX3_pointsInside, fX8_pointsBetween, g5, g8, Option.bind_some, Option.bind_some]
            obtain ⟨g, hg⟩ := self (nI (wnc a b c e (A 0) (A 2 0)))
            exact ⟨_, g, rfl, hg⟩
          rw [if_neg k0, if_neg k0]
          by_cases k1 : x5 = 1
          · rw [if_pos k1, if_pos k1, k1]
            obtain ⟨g, hg⟩ := tilesIn1_v h8 hA ha hb hc he
            have g5 := wleaf5_v h hA ha hb hc he 6 0 1 8 rfl tv01 (by decide)
            rw [show nI 1 = 1 from rfl, show nI 0 = 0 from rfl] at g5
            rw [hg, g5, Option.bind_some, Option.bind_some]
            exact ⟨_, g, rfl, rfl⟩
          rw [if_neg k1, if_neg k1]
          by_cases k2 : x5 = 2
          · rw [if_pos k2, if_pos k2, k2]
            obtain ⟨g, hg⟩ := tilesIn2_v h8 hA ha hb hc he hac hbe
            have g5 := wtile5_v h hA ha hb hc he 6 0 1 8 rfl tv01 (by decide)
            rw [show nI 1 = 1 from rfl, show nI 0 = 0 from rfl] at g5
            rw [hg, g5, Option.bind_some, Option.bind_some]
            exact ⟨_, g, rfl, rfl⟩
          rw [if_neg k2, if_neg k2]
          by_cases k3 : x5 = 3
          · rw [if_pos k3, if_pos k3]
            obtain ⟨r, g5, g8⟩ := smallest_v h h8 hA ha hb hc he
            obtain ⟨g, hg⟩ := self r
            rw [g5, pathOf_all a ha b hb, pathOf_all c hc e he, Option.bind_some, Option.bind_some, Option.bind_some, g8, Option.bind_some]
            exact ⟨_, g, rfl, hg⟩
          rw [if_neg k3, if_neg k3]
          obtain ⟨g, hg⟩ := self (-2)
          exact ⟨_, g, rfl, hg⟩
        · rw [if_neg (nI_ge (by omega) (by omega)), if_neg (nI_ge (by omega) (by omega))]
          obtain ⟨g, hg⟩ := self (-2)
          exact ⟨_, g, rfl, hg⟩
      · rw [if_pos (nI_lt (by omega) (by omega)), if_pos (nI_lt (by omega) (by omega))]
        obtain ⟨g, hg⟩ := self (-2)
        exact ⟨_, g, rfl, hg⟩
    · rw [e1, e8]
      obtain ⟨g, hg⟩ := self (-1)
      exact ⟨_, g, rfl, hg⟩
  · rw [e1, e8]
    obtain ⟨g, hg⟩ := self (-1)
    exact ⟨_, g, rfl, hg⟩
