/-! leaves under a tile: a fold over them, and the walk along the places that the reference takes -/
theorem kid_tv {d t i : Nat} (h : tv d t) (hd : d < 6) (hi : i < 4) : tv (d + 1) (4 * t + i) := by
  obtain ⟨h1, h2, h3⟩ := h
  refine ⟨by omega, ?_, ?_⟩
  · rw [Nat.pow_succ]
    omega
  · rw [Nat.pow_succ]
    omega
theorem kid_fo {d t i : Nat} (h : tv d t) (hd : d < 6) (hi : i < 4) : fo (d + 1) (4 * t + i) = fo d t + i * 4 ^ (6 - (d + 1)) := by
  have e1 := (fo_mul h).1
  have e2 := (fo_mul (kid_tv h hd hi)).1
  rw [Nat.add_mul, show 6 - d = 6 - (d + 1) + 1 by omega, Nat.pow_succ] at *
  have e3 : 4 * t * 4 ^ (6 - (d + 1)) = t * (4 ^ (6 - (d + 1)) * 4) := by
    rw [Nat.mul_comm 4 t, Nat.mul_assoc, Nat.mul_comm 4]
  rw [e3] at e2
  omega
theorem kid_tl {d t i : Nat} (h : tv d t) (hd : d < 6) (hi : i < 4) : tl d (fo (d + 1) (4 * t + i)) = t := by
  have := tl_up (d := d) (e := d + 1) (p := fo (d + 1) (4 * t + i)) (by omega) (by omega)
  rw [fo_tl (kid_tv h hd hi), show d + 1 - d = 1 by omega, Nat.pow_one] at this
  omega
/-- all the tiles above are split -/
def TH (A : AS) (d t : Nat) : Prop := ∀ e, e < d → spb A e (tl e (fo d t)) = true
theorem kid_TH {A : AS} {d t i : Nat} (h : tv d t) (hd : d < 6) (hi : i < 4) (hT : TH A d t) (hs : spb A d t = true) : TH A (d + 1) (4 * t + i) := by
  intro e he
  have e1 : tl e (fo (d + 1) (4 * t + i)) = tl e (fo d t) := tl_same (show e ≤ d by omega) (by omega) (by rw [kid_tl h hd hi, fo_tl h])
  rw [e1]
  by_cases hed : e = d
  · subst hed
    rw [fo_tl h]
    exact hs
  · exact hT e (by omega)
theorem TH_leaf {A : AS} (hA : AV A) {d t : Nat} (h : tv d t) (hT : TH A d t) (hs : spb A d t = false) : ld A (fo d t) = d := ld_uniq hA hT (by rw [fo_tl h]; exact hs)
theorem thb_TH {A : AS} (hA : AV A) {d t : Nat} (h : thb A d t = true) : TH A d t := by
  intro e he
  have h1 : d ≤ ld A (fo d t) := Nat.le_of_ble_eq_true h
  exact (ld_spec hA (fo d t)).2.1 e (by omega)
def LLf {σ : Type} (A : AS) (g : Nat → Nat → σ → σ) : Nat → Nat → Nat → σ → σ
  | 0, d, t, s => g d t s
  | h + 1, d, t, s => cond (spb A d t) (LLf A g h (d + 1) (4 * t + 3) (LLf A g h (d + 1) (4 * t + 2) (LLf A g h (d + 1) (4 * t + 1) (LLf A g h (d + 1) (4 * t + 0) s)))) (g d t s)
def LLs (A : AS) (w : Nat → Nat → Nat) : Nat → Nat → Nat → Nat
  | 0, d, t => w d t
  | h + 1, d, t => cond (spb A d t) (LLs A w h (d + 1) (4 * t + 0) + LLs A w h (d + 1) (4 * t + 1) + LLs A w h (d + 1) (4 * t + 2) + LLs A w h (d + 1) (4 * t + 3)) (w d t)
abbrev LLn (A : AS) : Nat → Nat → Nat → Nat := LLs A fun _ _ => 1
theorem LLs_le (A : AS) (w : Nat → Nat → Nat) (hw : ∀ d t, w d t ≤ 1) : ∀ h d t, LLs A w h d t ≤ 4 ^ h
  | 0, d, t => hw d t
  | h + 1, d, t => by
    have a := LLs_le A w hw h (d + 1) (4 * t + 0)
    have b := LLs_le A w hw h (d + 1) (4 * t + 1)
    have c := LLs_le A w hw h (d + 1) (4 * t + 2)
    have e := LLs_le A w hw h (d + 1) (4 * t + 3)
    have f := hw d t
    have g : 0 < (4 : Nat) ^ h := Nat.pow_pos (by decide)
    rw [LLs, Nat.pow_succ]
    cases spb A d t with
    | true =>
      rw [cond_true]
      omega
    | false =>
      rw [cond_false]
      omega
theorem LLf_add (A : AS) (w : Nat → Nat → Nat) : ∀ h d t s, LLf A (fun d t s => s + w d t) h d t s = s + LLs A w h d t
  | 0, d, t, s => rfl
  | h + 1, d, t, s => by
    rw [LLf, LLs, LLf_add A w h, LLf_add A w h, LLf_add A w h, LLf_add A w h]
    cases spb A d t with
    | true =>
      rw [cond_true, cond_true]
      omega
    | false => rfl
theorem scan {σ β : Type} {A : AS} (hA : AV A) (L : Nat → Nat → σ → Option β) (g : Nat → Nat → σ → σ) (P : σ → Prop) (E : Nat) (hg : ∀ d t s, tv d t → P s → P (g d t s)) (hs : ∀ q y s, y < E → y < 4096 → P s → L (q + 1) y s = L q (y + 4 ^ (6 - ld A y)) (g (ld A y) (tl (ld A y) y) s)) :
    ∀ h d t q s, d + h = 6 → tv d t → TH A d t → fo d t + 4 ^ (6 - d) ≤ E → P s → L (q + LLn A h d t) (fo d t) s = L q (fo d t + 4 ^ (6 - d)) (LLf A g h d t s) ∧ P (LLf A g h d t s) := by
  have leaf : ∀ d t q s, tv d t → TH A d t → spb A d t = false → fo d t + 4 ^ (6 - d) ≤ E → P s → L (q + 1) (fo d t) s = L q (fo d t + 4 ^ (6 - d)) (g d t s) ∧ P (g d t s) := by
    intro d t q s ht hT hb hE hP
    have h0 : 0 < (4 : Nat) ^ (6 - d) := Nat.pow_pos (by decide)
    have e := hs q (fo d t) s (by omega) (fo_lt ht) hP
    rw [TH_leaf hA ht hT hb, fo_tl ht] at e
    exact ⟨e, hg d t s ht hP⟩
  intro h
  induction h with
  | zero =>
    intro d t q s hd ht hT hE hP
    exact leaf d t q s ht hT (spb_deep (by have := hA.2.2.2.1; omega)) hE hP
  | succ h ih =>
    intro d t q s hd ht hT hE hP
    rw [LLf]
    show L (q + LLs A (fun _ _ => 1) (h + 1) d t) _ _ = _ ∧ _
    rw [LLs]
    cases hb : spb A d t with
    | false => exact leaf d t q s ht hT hb hE hP
    | true =>
      rw [cond_true, cond_true]
      have hd6 : d < 6 := by omega
      have e4 : (4 : Nat) ^ (6 - d) = 4 * 4 ^ (6 - (d + 1)) := by
        rw [show 6 - d = 6 - (d + 1) + 1 by omega, Nat.pow_succ]
        omega
      have f0 := kid_fo ht hd6 (show 0 < 4 by decide)
      have f1 := kid_fo ht hd6 (show 1 < 4 by decide)
      have f2 := kid_fo ht hd6 (show 2 < 4 by decide)
      have f3 := kid_fo ht hd6 (show 3 < 4 by decide)
      have K := fun i (hi : i < 4) q s => ih (d + 1) (4 * t + i) q s (by omega) (kid_tv ht hd6 hi) (kid_TH ht hd6 hi hT hb)
      have r0 := K 0 (by decide) (q + LLn A h (d + 1) (4 * t + 3) + LLn A h (d + 1) (4 * t + 2) + LLn A h (d + 1) (4 * t + 1)) s (by omega) hP
      have r1 := K 1 (by decide) (q + LLn A h (d + 1) (4 * t + 3) + LLn A h (d + 1) (4 * t + 2)) _ (by omega) r0.2
      have r2 := K 2 (by decide) (q + LLn A h (d + 1) (4 * t + 3)) _ (by omega) r1.2
      have r3 := K 3 (by decide) q _ (by omega) r2.2
      refine ⟨?_, r3.2⟩
      rw [show q + (LLn A h (d + 1) (4 * t + 0) + LLn A h (d + 1) (4 * t + 1) + LLn A h (d + 1) (4 * t + 2) + LLn A h (d + 1) (4 * t + 3)) = q + LLn A h (d + 1) (4 * t + 3) + LLn A h (d + 1) (4 * t + 2) + LLn A h (d + 1) (4 * t + 1) + LLn A h (d + 1) (4 * t + 0) by omega]
      rw [show fo d t = fo (d + 1) (4 * t + 0) by omega, r0.1, show fo (d + 1) (4 * t + 0) + 4 ^ (6 - (d + 1)) = fo (d + 1) (4 * t + 1) by omega, r1.1, show fo (d + 1) (4 * t + 1) + 4 ^ (6 - (d + 1)) = fo (d + 1) (4 * t + 2) by omega, r2.1, show fo (d + 1) (4 * t + 2) + 4 ^ (6 - (d + 1)) = fo (d + 1) (4 * t + 3) by omega, r3.1]
      rw [show fo (d + 1) (4 * t + 3) + 4 ^ (6 - (d + 1)) = fo (d + 1) (4 * t + 0) + 4 ^ (6 - d) by omega]
