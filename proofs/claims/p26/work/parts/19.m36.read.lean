/-! points read from the text, and put one after the other -/
def Rp (S : FS) (L t x w i : Nat) (R : Int32 × FS) : Prop := ∀ q, L + 1 - i < q → fX2_readPlaces_L9 q S (nI t) (nI x) (nI w) (nI i) = some R
theorem r_dig {S M : FS} {L : Nat} {C : Nat → Nat} (h : PdS S M L C) {t x w i : Nat} {R : Int32 × FS} (hi : i < L) (hd : dgt (C i)) (k : Rp S L t x (10 * w + C i - 48) (i + 1) R) : Rp S L t x w i R := by
  intro q hq
  have h1 := h.1
  have q1 := (h.2.2.2 i hi).2.2
  have d1 := hd.1
  obtain ⟨q, rfl⟩ : ∃ k, q = k + 1 := ⟨q - 1, by omega⟩
  rw [fX2_readPlaces_L9, h.2.1, if_neg (nI_nlt (show i ≤ L by omega) (by omega)), codeAt_v h hi, Option.bind_some]
  rcases isDigit_v q1 with ⟨_, e⟩ | ⟨hno, _⟩
  · rw [e, Option.bind_some, if_neg (show ¬ (1:Int32) = 0 by decide), show (10:Int32) * nI w = nI (10 * w) from pk_mul 10 w, nI_add, show nI (10 * w + C i) - (48:Int32) = nI (10 * w + C i - 48) from nI_sub (b := 48) (by omega), nI_1]
    exact k q (by omega)
  · exact absurd hd hno
theorem r_com {S M : FS} {L : Nat} {C : Nat → Nat} (h : PdS S M L C) {t x w i : Nat} {R : Int32 × FS} (hi : i < L) (hc : C i = 44) (k : Rp S L t w 0 (i + 1) R) : Rp S L t x w i R := by
  intro q hq
  have h1 := h.1
  obtain ⟨q, rfl⟩ : ∃ k, q = k + 1 := ⟨q - 1, by omega⟩
  rw [fX2_readPlaces_L9, h.2.1, if_neg (nI_nlt (show i ≤ L by omega) (by omega)), codeAt_v h hi, Option.bind_some, hc, show fX2_isDigit (nI 44) = some 0 from rfl, Option.bind_some, if_pos rfl, if_pos (show nI 44 = 44 from rfl), nI_1]
  exact k q (by omega)
theorem r_put {S M : FS} {L : Nat} {C : Nat → Nat} (h : PdS S M L C) {t x w i : Nat} {R : Int32 × FS} (hi : (i < L ∧ C i = 59) ∨ i = L) (hx : x < 64) (hw : w < 64) (ht : t < 20) (k : Rp (sr S 1 (upd (S 1) t (nI (4096 + pth 6 x w)))) L (t + 1) x 0 (i + 1) R) : Rp S L t x w i R := by
  intro q hq
  have h1 := h.1
  obtain ⟨q, rfl⟩ : ∃ k, q = k + 1 := ⟨q - 1, by omega⟩
  have fin : (if (20:Int32) ≤ nI t then (fX2_readPlaces_L9 q) S (nI t) (nI x) (nI w) (nI i + 1) else ((fX1_placeAt (nI x) (nI w)).bind fun r_7 => ((wr 20 (S 1) (nI t) r_7).bind fun f_8 => ((some (sr S 1 f_8)).bind fun S0s_9 => (fX2_readPlaces_L9 q) S0s_9 (nI t + 1) (nI x) (0:Int32) (nI i + 1))))) = some R := by
    rw [if_neg (show ¬ (20:Int32) ≤ nI t from nI_ge (b := 20) ht (by decide)), placeAt_all x hx w hw, Option.bind_some, wr_v _ _ ht (by decide), Option.bind_some, Option.bind_some, nI_1, nI_1]
    exact k q (by omega)
  rw [fX2_readPlaces_L9, h.2.1, if_neg (nI_nlt (show i ≤ L by omega) (by omega))]
  rcases hi with ⟨hl, hc⟩ | hl
  · rw [codeAt_v h hl, Option.bind_some, hc, show fX2_isDigit (nI 59) = some 0 from rfl, Option.bind_some, if_pos rfl, if_neg (show ¬ nI 59 = 44 by decide)]
    exact fin
  · subst hl
    rw [codeAt_e h, Option.bind_some, show fX2_isDigit 0 = some 0 from rfl, Option.bind_some, if_pos rfl, if_neg (show ¬ (0:Int32) = 44 by decide)]
    exact fin
theorem r_end {S M : FS} {L : Nat} {C : Nat → Nat} (h : PdS S M L C) {t x w : Nat} : Rp S L t x w (L + 1) (nI t, S) := by
  intro q hq
  have h1 := h.1
  obtain ⟨q, rfl⟩ : ∃ k, q = k + 1 := ⟨q - 1, by omega⟩
  rw [fX2_readPlaces_L9, h.2.1, if_pos (nI_lt (show L < L + 1 by omega) (by omega))]
theorem r_num {S M : FS} {L : Nat} {C : Nat → Nat} (h : PdS S M L C) {t x w i k : Nat} {R : Int32 × FS} (hN : Num C L i w k) (hk : Rp S L t x w k R) : Rp S L t x 0 i R := by
  rcases hN with ⟨n1, n2, n3, n4⟩ | ⟨n1, n2, n3, n4, n5, n6, n7⟩
  · subst n3
    subst n4
    refine r_dig h n1 n2 ?_
    rw [show 10 * 0 + C i - 48 = C i - 48 by omega]
    exact hk
  · subst n5
    subst n7
    have d1 := n2.1
    have d2 := n3.1
    refine r_dig h (by omega) n2 (r_dig h n1 n3 ?_)
    rw [show 10 * (10 * 0 + C i - 48) + C (i + 1) - 48 = 10 * (C i - 48) + (C (i + 1) - 48) by omega]
    exact hk
theorem PdS_sr {S M : FS} {L : Nat} {C : Nat → Nat} (h : PdS S M L C) (f : FA) : PdS (sr S 1 f) M L C := h
theorem rp_go {M : FS} {L : Nat} {C : Nat → Nat} {g : FA} : ∀ n j i S, PdS S M L C → 4 * j ≤ i → Pts C L g n j i → ∃ g1 : FA, (∀ x, Rp S L j x 0 i (nI (j + n), sr S 1 g1)) ∧ (∀ a, j ≤ a → a < j + n → ∃ w z, w < 64 ∧ z < 64 ∧ g (2 * a) = nI w ∧ g (2 * a + 1) = nI z ∧ g1 a = nI (4096 + pth 6 w z)) ∧ ∀ a, a < j → g1 a = S 1 a := by
  intro n
  induction n with
  | zero => intro j i S _ _ h; exact absurd h id
  | succ n ih =>
    intro j i S h hj hP
    have hb := Pts_b _ _ _ hP
    have h1 := h.1
    obtain ⟨w, z, k, k2, a1, a2, a3, a4, a5, a6, a7⟩ := hP
    have b1 := Num_b a1
    have b2 := Num_b a4
    have hP2 := PdS_sr h (upd (S 1) j (nI (4096 + pth 6 w z)))
    rcases a7 with ⟨c1, c2⟩ | ⟨c1, c2, c3⟩
    · subst c1
      refine ⟨upd (S 1) j (nI (4096 + pth 6 w z)), fun x => r_num h a1 (r_com h a2 a3 (r_num h a4 (r_put h (Or.inr c2) b1.2.2 b2.2.2 (by omega) ?_))), fun a ha hb2 => ?_, fun a ha => pk_un (by omega)⟩
      · rw [c2]
        exact r_end hP2
      · have : a = j := by omega
        subst this
        exact ⟨w, z, b1.2.2, b2.2.2, a5, a6, pk_us⟩
    · obtain ⟨g1, d1, d2, d3⟩ := ih (j + 1) (k2 + 1) _ hP2 (by omega) c3
      refine ⟨g1, fun x => r_num h a1 (r_com h a2 a3 (r_num h a4 (r_put h (Or.inl ⟨c1, c2⟩) b1.2.2 b2.2.2 (by omega) ?_))), fun a ha hb2 => ?_, fun a ha => ?_⟩
      · have e := d1 w
        rw [sr_sr, show j + 1 + n = j + (n + 1) by omega] at e
        exact e
      · by_cases haj : a = j
        · subst haj
          refine ⟨w, z, b1.2.2, b2.2.2, a5, a6, ?_⟩
          rw [d3 a (by omega), sr_at, pk_us]
        · exact d2 a (by omega) (by omega)
      · rw [d3 a (by omega), sr_at, pk_un (by omega)]
theorem read_v {S M : FS} {L : Nat} {C : Nat → Nat} {g : FA} {n : Nat} (h : PdS S M L C) (hP : Pts C L g n 0 0) : n ≤ 20 ∧ ∃ g1 : FA, fX2_readPlaces S = some (nI n, sr S 1 g1) ∧ ∀ a, a < n → ∃ w z, w < 64 ∧ z < 64 ∧ g (2 * a) = nI w ∧ g (2 * a + 1) = nI z ∧ g1 a = nI (4096 + pth 6 w z) := by
  have h1 := h.1
  have hb := Pts_b _ _ _ hP
  obtain ⟨g1, e1, e2, e3⟩ := rp_go n 0 0 S h (by omega) hP
  have e1 := e1 0 6000 (by omega)
  rw [show nI 0 = 0 from rfl, Nat.zero_add] at e1
  refine ⟨by omega, g1, ?_, fun a ha => e2 a (by omega) (by omega)⟩
  rw [fX2_readPlaces, e1]
theorem placeTold_v (S : FS) {a : Nat} (ha : a < 20) : fX2_placeTold S (nI a) = some (S 1 a) := by
  rw [fX2_placeTold, if_neg (nI_pos (by omega)), if_neg (show ¬ (20:Int32) ≤ nI a from nI_ge (b := 20) ha (by decide)), rd_v _ ha (by decide), Option.bind_some]
theorem sq_sq (Q : Nat → FS) (i : Nat) (P R : FS) : sq (sq Q i P) i R = sq Q i R := by
  funext a
  by_cases h : a = i
  · subst h
    rw [sq_s, sq_s]
  · rw [sq_n h, sq_n h, sq_n h]
theorem pa_go {P : FS} {t : FA} {N : Nat} (hN : N ≤ 20) (hT : ∀ a, a < N → ∃ w z, w < 64 ∧ z < 64 ∧ t (2 * a) = nI w ∧ t (2 * a + 1) = nI z ∧ P 1 a = nI (4096 + pth 6 w z)) : ∀ q n A (Q : Nat → FS) (M : FS), n ≤ N → N - n < q → RT (Q 0) A → RM (M 0) A → AV A → Q 1 = P → M 7 = t → M 8 5 = nI N → ∃ (r : Int32) (T : FS) (g : FA) (B : AS), fX7_putAll_L39 (nI N) q Q (nI n) = some (r, sq (sq Q 0 T) 1 (sf P 2 0 0)) ∧ fX8_putAll_L18 q M (nI n) = some (r, sf (sr M 0 g) 8 1 0) ∧ RT T B ∧ RM g B ∧ AV B := by
  intro q
  induction q with
  | zero => intro n A Q M _ h; omega
  | succ q ih =>
    intro n A Q M h1 h2 hR h8 hA hQ hM hM5
    have out : (fX2_empty (Q 1)).bind (fun S_9 => ((some (sq Q 1 S_9)).bind fun Q0s_10 => some (nI n, Q0s_10))) = some (nI n, sq (sq Q 0 (Q 0)) 1 (sf P 2 0 0)) := by
      rw [fX2_empty, Option.bind_some, Option.bind_some, Option.bind_some, hQ, sq_self]
    have out8 : (some (sf M 8 1 0)).bind (fun M0s_5 => some (nI n, M0s_5)) = some (nI n, sf (sr M 0 (M 0)) 8 1 0) := by
      rw [Option.bind_some, sr_self]
    rw [fX7_putAll_L39, fX8_putAll_L18, hM5]
    by_cases hn : n = N
    · subst hn
      rw [if_pos (nI_le (Nat.le_refl _) (by omega)), if_pos (nI_le (Nat.le_refl _) (by omega)), out, out8]
      exact ⟨_, Q 0, M 0, A, rfl, rfl, hR, h8, hA⟩
    · obtain ⟨w, z, hw, hz, e1, e2, e3⟩ := hT n (by omega)
      rw [if_neg (nI_ge (by omega) (by omega)), if_neg (nI_ge (by omega) (by omega)), hQ, placeTold_v P (by omega), e3, Option.bind_some, hM, show (2:Int32) * nI n = nI (2 * n) from pk_mul 2 n, show nI (2 * n) + (1:Int32) = nI (2 * n + 1) from nI_1 _, rd_v _ (by omega) (by decide), rd_v _ (by omega) (by decide), e1, e2]
      obtain ⟨e, a1, a2, a3⟩ := err_v hR.1 h8 hA hw hz
      simp only [Option.bind_some, a1, a2]
      rcases a3 with ⟨b1, b2, b3⟩ | ⟨b1, _⟩
      · obtain ⟨T1, c1, c2⟩ := addPoint_v hR (pth_lt 6 w z) b2
        obtain ⟨r1, d1, d2⟩ := comes_v h8 hw hz b2
        rw [if_pos b1, if_pos b1]
        simp only [Option.bind_some, c1, d1, nI_1]
        obtain ⟨r, T, g, B, f1, f2, f3, f4, f5⟩ := ih (n + 1) (aPush A (pth 6 w z)) (sq Q 0 T1) (sr M 0 r1) (by omega) (by omega) (by rw [sq_s]; exact c2) (by rw [sr_at]; exact d2) (AV_push hA (pth_lt 6 w z) b2 b3) (by rw [sq_n (by decide)]; exact hQ) hM hM5
        rw [sq_sq] at f1
        rw [sr_sr] at f2
        exact ⟨r, T, g, B, f1, f2, f3, f4, f5⟩
      · rw [if_neg b1, if_neg b1]
        simp only [Option.bind_some, fX2_empty]
        rw [show sq Q 1 (sf P 2 0 0) = sq (sq Q 0 (Q 0)) 1 (sf P 2 0 0) by rw [sq_self], show sf M 8 1 0 = sf (sr M 0 (M 0)) 8 1 0 by rw [sr_self]]
        exact ⟨_, Q 0, M 0, A, rfl, rfl, hR, h8, hA⟩
