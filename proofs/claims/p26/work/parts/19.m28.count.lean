/-! count, on either side -/
theorem LLf_w {σ : Type} (A : AS) (g : Nat → Nat → σ → σ) (f : σ → Nat) (w : Nat → Nat → Nat) (hg : ∀ d t s, f (g d t s) = mx (f s) (w d t)) : ∀ h d t s, f (LLf A g h d t s) = mx (f s) (LLm A w h d t)
  | 0, d, t, s => hg d t s
  | h + 1, d, t, s => by
    rw [LLf, LLm]
    cases spb A d t with
    | true =>
      rw [cond_true, cond_true, LLf_w A g f w hg h, LLf_w A g f w hg h, LLf_w A g f w hg h, LLf_w A g f w hg h]
      exact mx4 _ _ _ _ _
    | false => exact hg d t s
theorem uneven_go {M : FS} {A : AS} (h : RM (M 0) A) (hA : AV A) (v : Int32) : ∀ q y x b a, x ≤ 6 → a ≤ 6 → y < 4096 → fX8_ofLeaves_L12 6 (q + 1) (mm M v a) (nI x) (nI b) (nI y) = fX8_ofLeaves_L12 6 q (mm M (nI (Nn A (ld A y) (tl (ld A y) y))) (mx a (Wm A (ld A y) (tl (ld A y) y)))) (nI (mx x (ld A y))) (nI (b + wE A (ld A y) (tl (ld A y) y))) (nI (y + 4 ^ (6 - ld A y))) := by
  intro q y x b a hx ha hy
  have h6 := (ld_spec hA y).1
  have ht := tl_tv h6 hy
  have hn := hA.1
  have hc := cnt_le (A 0) (ld A y) (tl (ld A y) y) (A 2 0)
  have hN : Nn A (ld A y) (tl (ld A y) y) < 2 ^ 31 := by
    have z : ∀ s, sN A s (ld A y) (tl (ld A y) y) ≤ 64 := by
      intro s
      unfold sN
      cases nxt s (ld A y) (tl (ld A y) y) with
      | none => exact Nat.zero_le _
      | some n =>
        show sdn A s (ld A y) n ≤ 64
        have e := LSn_le A s (6 - ld A y) (ld A y) n
        have e2 := (sz_le (ld A y)).2
        unfold sdn
        cases thb A (ld A y) n with
        | true => rw [cond_true]; omega
        | false => rw [cond_false]; omega
    have z0 := z 0
    have z1 := z 1
    have z2 := z 2
    have z3 := z 3
    rw [Nn]
    omega
  have tail : ∀ (z : Nat), fX8_ofLeaves_L49 (fX8_ofLeaves_L12 6 q) 6 (mm M v a) (nI b) (nI y) (nI (tl (ld A y) y)) (nI z) = fX8_ofLeaves_L12 6 q (mm M (nI (Nn A (ld A y) (tl (ld A y) y))) (mx a (Wm A (ld A y) (tl (ld A y) y)))) (nI z) (nI (b + wE A (ld A y) (tl (ld A y) y))) (nI (y + 4 ^ (6 - ld A y))) := by
    intro z
    have fin : ∀ o : Nat, fX8_ofLeaves_L68 (fX8_ofLeaves_L12 6 q) 6 (mm M v a) (nI z) (nI y) (nI (tl (ld A y) y)) (nI o) (nI b) = fX8_ofLeaves_L12 6 q (mm M (nI (Nn A (ld A y) (tl (ld A y) y))) (mx a (Wm A (ld A y) (tl (ld A y) y)))) (nI z) (nI (b + o)) (nI (y + 4 ^ (6 - ld A y))) := by
      intro o
      rw [fX8_ofLeaves_L68, if_pos rfl, meetsAll_v h hA ht v a ha, Option.bind_some]
      show fX8_ofLeaves_L90 (fX8_ofLeaves_L12 6 q) 6 (mm M (nI (Nn A (ld A y) (tl (ld A y) y))) (mx a (Wm A (ld A y) (tl (ld A y) y)))) (nI z) (nI b + nI o) (nI y) (nI (tl (ld A y) y)) (nI (Nn A (ld A y) (tl (ld A y) y))) = _
      rw [fX8_ofLeaves_L90, if_pos (nI_pos' hN), pathsIn_v ht, Option.bind_some, nI_add, nI_add]
    rw [fX8_ofLeaves_L49, pointsIn8_v (r := mm M v a 0) (show RM (M 0) A from h) hA ht, Option.bind_some, wE]
    by_cases h0 : cnt (A 0) (ld A y) (tl (ld A y) y) (A 2 0) = 0
    · rw [h0, if_pos (show nI 0 = 0 from rfl), show (1:Int32) = nI 1 from rfl, fin 1]
      rfl
    · rw [if_neg (nI_ne0 (by omega) (by omega)), show Nat.beq (cnt (A 0) (ld A y) (tl (ld A y) y) (A 2 0)) 0 = false from Bool.eq_false_iff.mpr fun e => h0 (Nat.eq_of_beq_eq_true e), show (0:Int32) = nI 0 from rfl, fin 0]
      rfl
  rw [fX8_ofLeaves_L12, if_neg (show ¬ (4096:Int32) ≤ nI y from nI_ge (b := 4096) hy (by decide)), leafOf8_v (r := mm M v a 0) (show RM (M 0) A from h) hA hy, Option.bind_some, dep8_tv ht, Option.bind_some, Option.bind_some, tail, tail]
  by_cases hl : x < ld A y
  · rw [if_neg (nI_ge hl (by omega)), show mx x (ld A y) = ld A y by rw [mx, blt_t hl, cond_true]]
  · rw [if_pos (nI_le (Nat.not_lt.mp hl) (by omega)), show mx x (ld A y) = x by rw [mx, blt_f hl, cond_false]]
def gU (A : AS) (d t : Nat) (s : (Nat × Nat) × Int32 × Nat) : (Nat × Nat) × Int32 × Nat := ((mx s.1.1 d, s.1.2 + wE A d t), nI (Nn A d t), mx s.2.2 (Wm A d t))
theorem ofLeaves6_v {M : FS} {A : AS} (h : RM (M 0) A) (hA : AV A) : ∃ v : Int32, fX8_ofLeaves M 6 = some (nI (LLm A (Wm A) 6 0 1), mm M v (LLm A (Wm A) 6 0 1)) := by
  have hle : LLn A 6 0 1 ≤ 4 ^ 6 := LLs_le A (fun _ _ => 1) (fun _ _ => Nat.le_refl 1) 6 0 1
  have e46 : (4 : Nat) ^ 6 = 4096 := by decide
  have S := (scan hA (fun q y (s : (Nat × Nat) × Int32 × Nat) => fX8_ofLeaves_L12 6 q (mm M s.2.1 s.2.2) (nI s.1.1) (nI s.1.2) (nI y)) (gU A) (fun s => s.1.1 ≤ 6 ∧ s.2.2 ≤ 6) 4096 (fun d t s ht hs => by
    have h1 := ht.1
    have h2 := Wm_le A t h1
    refine ⟨?_, ?_⟩
    · show mx s.1.1 d ≤ 6
      rw [mx_max]
      omega
    · show mx s.2.2 (Wm A d t) ≤ 6
      rw [mx_max]
      omega) (fun q y s _ hy hs => uneven_go h hA s.2.1 q y s.1.1 s.1.2 s.2.2 hs.1 hs.2 hy) 6 0 1 (6000 - LLn A 6 0 1) ((0, 0), M 8 2, 0) rfl tv01 (TH0 A 1) (by decide) ⟨Nat.zero_le 6, Nat.zero_le 6⟩).1
  have F := LLf_w A (gU A) (fun s => s.2.2) (Wm A) (fun _ _ _ => rfl) 6 0 1 ((0, 0), M 8 2, 0)
  rw [show 6000 - LLn A 6 0 1 + LLn A 6 0 1 = 6000 by omega, fo01] at S
  obtain ⟨k, hk⟩ : ∃ k, 6000 - LLn A 6 0 1 = k + 1 := ⟨6000 - LLn A 6 0 1 - 1, by omega⟩
  rw [hk, show 0 + 4 ^ (6 - 0) = 4096 by decide] at S
  have e0 : mx 0 (LLm A (Wm A) 6 0 1) = LLm A (Wm A) 6 0 1 := by
    rw [mx_max, Nat.max_eq_right (Nat.zero_le _)]
  have F : (LLf A (gU A) 6 0 1 ((0, 0), M 8 2, 0)).2.2 = mx 0 (LLm A (Wm A) 6 0 1) := F
  rw [e0] at F
  generalize LLf A (gU A) 6 0 1 ((0, 0), M 8 2, 0) = E at S F
  have S2 : fX8_ofLeaves_L12 6 6000 (mm M (M 8 2) 0) (nI 0) (nI 0) (nI 0) = fX8_ofLeaves_L12 6 (k + 1) (mm M E.2.1 E.2.2) (nI E.1.1) (nI E.1.2) (nI 4096) := S
  rw [show nI 0 = 0 from rfl] at S2
  refine ⟨E.2.1, ?_⟩
  have e1 : sf M 8 3 0 = mm M (M 8 2) 0 := mm_self M 0
  rw [fX8_ofLeaves, Option.bind_some, e1, S2, fX8_ofLeaves_L12, if_pos (show (4096:Int32) ≤ nI 4096 by decide), if_neg (show ¬ (6:Int32) = 3 by decide), if_neg (show ¬ (6:Int32) = 4 by decide), F]
  rfl
theorem count_v {Q : Nat → FS} {M : FS} {A : AS} (h : RT (Q 0) A) (h8 : RM (M 0) A) (hA : AV A) {a : Nat} (ha : a ≤ 6) (hM : M 8 3 = nI a) (hp : (Q 1) 2 0 = M 8 1) (hh : Q 2 0 0 = M 8 0) (x1 : Int32) : ∃ (r v : Int32) (b : Nat), b ≤ 6 ∧ fX7_count Q x1 = some r ∧ fX8_count M x1 = some (r, mm M v b) := by
  have self : ∀ r : Int32, ∃ (v : Int32) (b : Nat), b ≤ 6 ∧ some (r, M) = some (r, mm M v b) := fun r => ⟨M 8 2, a, ha, by rw [mm_id hM]⟩
  have hk := hA.2.1
  rw [fX7_count, fX8_count]
  by_cases k0 : x1 = 0
  · rw [if_pos k0, if_pos k0, h.1.1 0 (by decide), h8.1]
    obtain ⟨v, b, hb, e⟩ := self (nI (A 2 0))
    exact ⟨_, v, b, hb, rfl, e⟩
  rw [if_neg k0, if_neg k0]
  by_cases k1 : x1 = 1
  · rw [if_pos k1, if_pos k1, leaves5_v h hA, allLeaves_v h8 hA, Option.bind_some, Option.bind_some]
    obtain ⟨v, b, hb, e⟩ := self (nI (LLn A 6 0 1))
    exact ⟨_, v, b, hb, rfl, e⟩
  rw [if_neg k1, if_neg k1]
  by_cases k2 : x1 = 2
  · rw [if_pos k2, if_pos k2, fX5_tiles, leaves5_v h hA, allLeaves_v h8 hA, Option.bind_some, Option.bind_some, Option.bind_some]
    obtain ⟨v, b, hb, e⟩ := self (nI (LLn A 6 0 1) + (nI (LLn A 6 0 1) - 1) / 3)
    exact ⟨_, v, b, hb, rfl, e⟩
  rw [if_neg k2, if_neg k2]
  have l3 : LLm A (fun d _ => d) 6 0 1 ≤ 6 := LLm_le A _ 6 0 1 rfl fun d t hd => hd
  by_cases k3 : x1 = 3
  · rw [if_pos k3, if_pos k3, k3, deepest_top h hA, ofLeaves3_v h8 hA, Option.bind_some, Option.bind_some]
    exact ⟨_, M 8 2, 0, by decide, rfl, by rw [show sf M 8 3 0 = mm M (M 8 2) 0 from mm_self M 0]⟩
  rw [if_neg k3, if_neg k3]
  by_cases k4 : x1 = 4
  · rw [if_pos k4, if_pos k4, k4, empty_top h hA, ofLeaves4_v h8 hA, Option.bind_some, Option.bind_some]
    exact ⟨_, M 8 2, 0, by decide, rfl, by rw [show sf M 8 3 0 = mm M (M 8 2) 0 from mm_self M 0]⟩
  rw [if_neg k4, if_neg k4]
  by_cases k5 : x1 = 5
  · rw [if_pos k5, if_pos k5, h.1.1 1 (by decide), h8.2.2.2.1]
    obtain ⟨v, b, hb, e⟩ := self (nI (A 2 1))
    exact ⟨_, v, b, hb, rfl, e⟩
  rw [if_neg k5, if_neg k5]
  by_cases k6 : x1 = 6
  · have g5 := uneven5_v h hA 6 0 1 8 rfl tv01 (by decide)
    rw [show nI 1 = 1 from rfl, show nI 0 = 0 from rfl] at g5
    obtain ⟨v, g8⟩ := ofLeaves6_v h8 hA
    have hw : LLm A (Wm A) 6 0 1 ≤ 6 := LLm_le A _ 6 0 1 rfl fun d t hd => Wm_le A t hd
    rw [if_pos k6, if_pos k6, k6, g5, g8, Option.bind_some, Option.bind_some, uneven_eq hA]
    exact ⟨_, v, _, hw, rfl, rfl⟩
  rw [if_neg k6, if_neg k6]
  by_cases k7 : x1 = 7
  · rw [if_pos k7, if_pos k7, k7, show (1:Int32) + 7 - 7 = nI 1 by decide, rd_v _ (by decide) (by decide), Option.bind_some, h.1.1 2 (by decide), h8.2.1]
    obtain ⟨v, b, hb, e⟩ := self (nI (A 2 2))
    exact ⟨_, v, b, hb, rfl, e⟩
  rw [if_neg k7, if_neg k7]
  by_cases k8 : x1 = 8
  · rw [if_pos k8, if_pos k8, k8, show (1:Int32) + 8 - 7 = nI 2 by decide, rd_v _ (by decide) (by decide), Option.bind_some, h.1.1 3 (by decide), h8.2.2.1]
    obtain ⟨v, b, hb, e⟩ := self (nI (A 2 3))
    exact ⟨_, v, b, hb, rfl, e⟩
  rw [if_neg k8, if_neg k8]
  by_cases k9 : x1 = 9
  · rw [if_pos k9, if_pos k9, hp]
    obtain ⟨v, b, hb, e⟩ := self (M 8 1)
    exact ⟨_, v, b, hb, rfl, e⟩
  rw [if_neg k9, if_neg k9]
  by_cases k10 : x1 = 10
  · rw [if_pos k10, if_pos k10, hh]
    obtain ⟨v, b, hb, e⟩ := self (M 8 0)
    exact ⟨_, v, b, hb, rfl, e⟩
  rw [if_neg k10, if_neg k10]
  obtain ⟨v, b, hb, e⟩ := self (-2)
  exact ⟨_, v, b, hb, rfl, e⟩
