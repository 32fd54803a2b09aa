/-! neighbours, on either side; the step out of a leaf in the class -/
theorem leavesSeen5_v {T : FS} {A : AS} (h : RT T A) (hA : AV A) {s : Nat} (hs : s < 4) : ∀ (hh d t dd : Nat), d + hh = 6 → tv d t → hh < dd → fX5_leavesSeen T dd (nI t) (nI d) (nI (2 * s)) = some (nI (LSn A s hh d t)) := by
  have e2 : nI (2 * s) / (2:Int32) = nI s := by
    rw [show nI (2 * s) / (2:Int32) = nI (2 * s / 2) from pk_div (d := 2) (by omega) (by decide) (by decide), show 2 * s / 2 = s by omega]
  obtain ⟨⟨o1, o2⟩, o3, o4⟩ := st_v s hs
  intro hh
  induction hh with
  | zero =>
    intro d t dd hd ht hdd
    obtain ⟨dd, rfl⟩ : ∃ k, dd = k + 1 := ⟨dd - 1, by omega⟩
    rw [fX5_leavesSeen, fX5_leavesSeen_B, if_pos (show (6:Int32) ≤ nI d from nI_le (a := 6) (by omega) (by omega))]
    rfl
  | succ hh ih =>
    intro d t dd hd ht hdd
    obtain ⟨dd, rfl⟩ : ∃ k, dd = k + 1 := ⟨dd - 1, by omega⟩
    have hd6 : d < 6 := by omega
    rw [fX5_leavesSeen, fX5_leavesSeen_B, if_neg (show ¬ (6:Int32) ≤ nI d from nI_ge (b := 6) hd6 (by decide)), split5_v h hA ht, Option.bind_some, LSn]
    cases spb A d t with
    | false => rfl
    | true =>
      rw [if_neg (show ¬ bi true = 0 by decide), cond_true, e2, if_neg (nI_pos (by omega)), if_neg (show ¬ (4:Int32) ≤ nI s from nI_ge (b := 4) hs (by decide)), if_pos (show nI s < 4 from nI_lt (b := 4) hs (by decide)), o1, Option.bind_some, kid_no, nI_1, ih (d + 1) (4 * t + qO s) dd (by omega) (kid_tv ht hd6 o3) (by omega), Option.bind_some, o2, Option.bind_some, kid_no, ih (d + 1) (4 * t + qU s) dd (by omega) (kid_tv ht hd6 o4) (by omega), Option.bind_some, nI_add]
def sN (A : AS) (s d t : Nat) : Nat := (nxt s d t).elim 0 fun n => sdn A s d n
def sM (A : AS) (s d t : Nat) : Nat := (nxt s d t).elim 0 fun n => sdm A s d n
def sG (A : AS) (s d t : Nat) : Nat := (nxt s d t).elim 0 fun n => d - ld A (fo d n)
def Nn (A : AS) (d t : Nat) : Nat := 0 + sN A 0 d t + sN A 1 d t + sN A 2 d t + sN A 3 d t
def Wm (A : AS) (d t : Nat) : Nat := mx (mx (mx (mx 0 (sM A 0 d t)) (sM A 1 d t)) (sM A 2 d t)) (sM A 3 d t)
def Gm (A : AS) (d t : Nat) : Nat := mx (mx (mx (mx 0 (sG A 0 d t)) (sG A 1 d t)) (sG A 2 d t)) (sG A 3 d t)
theorem sdm_le (A : AS) (s : Nat) {d n : Nat} (hd : d ≤ 6) : sdm A s d n ≤ 6 := by
  have a := LSm_le A s d hd (6 - d) d n (by omega)
  unfold sdm
  cases thb A d n with
  | true => rw [cond_true]; exact a
  | false => rw [cond_false]; omega
theorem sM_le (A : AS) (s : Nat) {d : Nat} (t : Nat) (hd : d ≤ 6) : sM A s d t ≤ 6 := by
  unfold sM
  cases nxt s d t with
  | none => exact Nat.zero_le 6
  | some n => exact sdm_le A s hd
theorem sG_le (A : AS) (s : Nat) {d : Nat} (t : Nat) (hd : d ≤ 6) : sG A s d t ≤ 6 := by
  unfold sG
  cases nxt s d t with
  | none => exact Nat.zero_le 6
  | some n => exact Nat.le_trans (Nat.sub_le _ _) hd
theorem Wm_le (A : AS) {d : Nat} (t : Nat) (hd : d ≤ 6) : Wm A d t ≤ 6 := by
  have a := sM_le A 0 t hd
  have b := sM_le A 1 t hd
  have c := sM_le A 2 t hd
  have e := sM_le A 3 t hd
  rw [Wm, mx_max, mx_max, mx_max, mx_max]
  omega
theorem Gm_le (A : AS) {d : Nat} (t : Nat) (hd : d ≤ 6) : Gm A d t ≤ 6 := by
  have a := sG_le A 0 t hd
  have b := sG_le A 1 t hd
  have c := sG_le A 2 t hd
  have e := sG_le A 3 t hd
  rw [Gm, mx_max, mx_max, mx_max, mx_max]
  omega
theorem mx_0 (a : Nat) : mx a 0 = a := by
  rw [mx_max]
  omega
theorem neighboursOf5_v {T : FS} {A : AS} (h : RT T A) (hA : AV A) {d t : Nat} (ht : tv d t) : fX5_neighboursOf T (nI t) (nI d) = some (nI (Nn A d t)) := by
  have hd := ht.1
  have S : ∀ q s (a : Nat), s < 4 → fX5_neighboursOf_L5 T (nI t) (nI d) (q + 1) (nI a) (nI (2 * s)) = fX5_neighboursOf_L5 T (nI t) (nI d) q (nI (a + sN A s d t)) (nI (2 * (s + 1))) := by
    intro q s a hs
    have e2 : nI (2 * s) + 2 = nI (2 * (s + 1)) := by
      rw [show nI (2 * s) + 2 = nI (2 * s + 2) from nI_add (2 * s) 2, show 2 * s + 2 = 2 * (s + 1) by omega]
    rw [fX5_neighboursOf_L5, if_neg (show ¬ (8:Int32) ≤ nI (2 * s) from nI_ge (b := 8) (by omega) (by decide)), e2, sN]
    cases hx : nxt s d t with
    | none =>
      rw [(side_no hs ht hx).1, Option.bind_some, if_pos rfl]
      rfl
    | some n =>
      have hn := (nxt_spec hs ht hx).1
      have h0 := tv_lt hn
      rw [(side_some hs ht hx).1, Option.bind_some, if_neg (ne6 (by omega)), isThere5_v h hA hn, Option.bind_some]
      show _ = fX5_neighboursOf_L5 T (nI t) (nI d) q (nI (a + sdn A s d n)) (nI (2 * (s + 1)))
      rw [sdn]
      cases thb A d n with
      | false => rw [if_pos (show bi false = 0 from rfl), cond_false, show nI a + 1 = nI (a + 1) from nI_1 a]
      | true => rw [if_neg (show ¬ bi true = 0 by decide), cond_true, leavesSeen5_v h hA hs (6 - d) d n 8 (by omega) hn (by omega), Option.bind_some, nI_add]
  have e0 := S 5999 0 0 (by decide)
  have e1 := S 5998 1 (0 + sN A 0 d t) (by decide)
  have e2 := S 5997 2 (0 + sN A 0 d t + sN A 1 d t) (by decide)
  have e3 := S 5996 3 (0 + sN A 0 d t + sN A 1 d t + sN A 2 d t) (by decide)
  rw [show nI (2 * 0) = 0 from rfl] at e0
  rw [fX5_neighboursOf, e0, e1, e2, e3, fX5_neighboursOf_L5, if_pos (show (8:Int32) ≤ nI (2 * (3 + 1)) by decide), Nn]
theorem step_if {a d e : Nat} (ha : a ≤ 6) (hd : d ≤ 6) (he : e ≤ 6) : (if nI a < nI d - nI e then nI d - nI e else nI a) = nI (mx a (d - e)) := by
  by_cases h : e ≤ d
  · rw [nI_sub h, max_if (by omega) (by omega)]
  · have hn := pk_sneg (a := d) (b := e) (by omega) (by omega)
    have hn2 : ¬ nI a < nI d - nI e := by
      rw [Int32.lt_iff_toInt_lt] at hn ⊢
      rw [nI_toInt (by omega)]
      have : (0 : Int32).toInt = 0 := by decide
      omega
    rw [if_neg hn2, show d - e = 0 by omega, mx_0]
theorem greatest5_v {T : FS} {A : AS} (h : RT T A) (hA : AV A) {d t : Nat} (ht : tv d t) : fX5_greatestStepOutOf T (nI t) (nI d) = some (nI (Gm A d t)) := by
  have hd := ht.1
  have S : ∀ q s (a : Nat), s < 4 → a ≤ 6 → fX5_greatestStepOutOf_L5 T (nI t) (nI d) (q + 1) (nI a) (nI (2 * s)) = fX5_greatestStepOutOf_L5 T (nI t) (nI d) q (nI (mx a (sG A s d t))) (nI (2 * (s + 1))) := by
    intro q s a hs ha
    have e2 : nI (2 * s) + 2 = nI (2 * (s + 1)) := by
      rw [show nI (2 * s) + 2 = nI (2 * s + 2) from nI_add (2 * s) 2, show 2 * s + 2 = 2 * (s + 1) by omega]
    rw [fX5_greatestStepOutOf_L5, if_neg (show ¬ (8:Int32) ≤ nI (2 * s) from nI_ge (b := 8) (by omega) (by decide)), e2, sG]
    cases hx : nxt s d t with
    | none =>
      rw [(side_no hs ht hx).1, Option.bind_some, if_pos rfl]
      show _ = fX5_greatestStepOutOf_L5 T (nI t) (nI d) q (nI (mx a 0)) (nI (2 * (s + 1)))
      rw [mx_0]
    | some n =>
      have hn := (nxt_spec hs ht hx).1
      have h0 := tv_lt hn
      have hf := fo_lt hn
      rw [(side_some hs ht hx).1, Option.bind_some, if_neg (ne6 (by omega)), leastPlace_v hn, Option.bind_some, depthOfLeaf5_v h hA hf, Option.bind_some, step_if ha hd (ld_spec hA _).1]
      rfl
  have b0 := sG_le A 0 t hd
  have b1 := sG_le A 1 t hd
  have b2 := sG_le A 2 t hd
  have e0 := S 5999 0 0 (by decide) (by decide)
  have e1 := S 5998 1 (mx 0 (sG A 0 d t)) (by decide) (by rw [mx_max]; omega)
  have e2 := S 5997 2 (mx (mx 0 (sG A 0 d t)) (sG A 1 d t)) (by decide) (by rw [mx_max, mx_max]; omega)
  have e3 := S 5996 3 (mx (mx (mx 0 (sG A 0 d t)) (sG A 1 d t)) (sG A 2 d t)) (by decide) (by rw [mx_max, mx_max, mx_max]; omega)
  rw [show nI (2 * 0) = 0 from rfl] at e0
  rw [fX5_greatestStepOutOf, e0, e1, e2, e3, fX5_greatestStepOutOf_L5, if_pos (show (8:Int32) ≤ nI (2 * (3 + 1)) by decide), Gm]
theorem uneven5_v {T : FS} {A : AS} (h : RT T A) (hA : AV A) : ∀ (hh d t dd : Nat), d + hh = 6 → tv d t → hh < dd → fX5_unevennessIn T dd (nI t) (nI d) = some (nI (LLm A (Gm A) hh d t)) := by
  intro hh
  induction hh with
  | zero =>
    intro d t dd hd ht hdd
    obtain ⟨dd, rfl⟩ : ∃ k, dd = k + 1 := ⟨dd - 1, by omega⟩
    rw [fX5_unevennessIn, fX5_unevennessIn_B, if_pos (show (6:Int32) ≤ nI d from nI_le (a := 6) (by omega) (by omega)), greatest5_v h hA ht, Option.bind_some, LLm]
  | succ hh ih =>
    intro d t dd hd ht hdd
    obtain ⟨dd, rfl⟩ : ∃ k, dd = k + 1 := ⟨dd - 1, by omega⟩
    have hd6 : d < 6 := by omega
    rw [fX5_unevennessIn, fX5_unevennessIn_B, if_neg (show ¬ (6:Int32) ≤ nI d from nI_ge (b := 6) hd6 (by decide)), split5_v h hA ht, Option.bind_some, LLm, greatest5_v h hA ht, Option.bind_some]
    cases spb A d t with
    | false => rw [if_pos (show bi false = 0 from rfl), cond_false]
    | true =>
      rw [if_neg (show ¬ bi true = 0 by decide), cond_true]
      have B : ∀ i, LLm A (Gm A) hh (d + 1) (4 * t + i) ≤ 6 := fun i => LLm_le A _ hh (d + 1) (4 * t + i) (by omega) fun d t hd => Gm_le A t hd
      have K : ∀ i, i < 4 → fX5_unevennessIn T dd ((4:Int32) * nI t + nI i) (nI d + 1) = some (nI (LLm A (Gm A) hh (d + 1) (4 * t + i))) := by
        intro i hi
        rw [kid_no, nI_1]
        exact ih (d + 1) (4 * t + i) dd (by omega) (kid_tv ht hd6 hi) (by omega)
      have S : ∀ q i (a b : Nat), i < 4 → LLm A (Gm A) hh (d + 1) (4 * t + i) = b → a ≤ 6 → fX5_unevennessIn_L27 T (fX5_unevennessIn T dd) (nI t) (nI d) (q + 1) (nI a) (nI i) = fX5_unevennessIn_L27 T (fX5_unevennessIn T dd) (nI t) (nI d) q (nI (mx a b)) (nI (i + 1)) := by
        intro q i a b hi e ha
        subst e
        have := B i
        rw [fX5_unevennessIn_L27, if_neg (show ¬ (4:Int32) ≤ nI i from nI_ge (b := 4) hi (by decide)), K i hi, Option.bind_some, nI_1, max_if (by omega) (by omega)]
      have b0 := B 0
      have b1 := B 1
      have b2 := B 2
      have e0 := S 5999 0 0 _ (by decide) rfl (by decide)
      have e1 := S 5998 1 (mx 0 (LLm A (Gm A) hh (d + 1) (4 * t + 0))) _ (by decide) rfl (by rw [mx_max]; omega)
      have e2 := S 5997 2 (mx (mx 0 (LLm A (Gm A) hh (d + 1) (4 * t + 0))) (LLm A (Gm A) hh (d + 1) (4 * t + 1))) _ (by decide) rfl (by rw [mx_max, mx_max]; omega)
      have e3 := S 5996 3 (mx (mx (mx 0 (LLm A (Gm A) hh (d + 1) (4 * t + 0))) (LLm A (Gm A) hh (d + 1) (4 * t + 1))) (LLm A (Gm A) hh (d + 1) (4 * t + 2))) _ (by decide) rfl (by rw [mx_max, mx_max, mx_max]; omega)
      rw [show nI 0 = 0 from rfl] at e0
      rw [e0, e1, e2, e3, fX5_unevennessIn_L27, if_pos (show (4:Int32) ≤ nI (3 + 1) by decide)]
theorem meetsS_v {M : FS} {A : AS} (h : RM (M 0) A) (hA : AV A) {s d t : Nat} (hs : s < 4) (ht : tv d t) (m a : Nat) (ha : a ≤ 6) : fX8_meets (mm M (nI m) a) (nI t) (nI s) = some (mm M (nI (m + sN A s d t)) (mx a (sM A s d t))) := by
  rw [sN, sM]
  cases hx : nxt s d t with
  | none =>
    rw [(side_no hs ht hx).2]
    show _ = some (mm M (nI (m + 0)) (mx a 0))
    rw [mx_0]
    rfl
  | some n => exact meets_v h hA hs ht hx m a ha
theorem mx4 (a b c d e : Nat) : mx (mx (mx (mx a b) c) d) e = mx a (mx (mx (mx (mx 0 b) c) d) e) := by
  rw [mx_max, mx_max, mx_max, mx_max, mx_max, mx_max, mx_max, mx_max, mx_max]
  omega
theorem meetsAll_v {M : FS} {A : AS} (h : RM (M 0) A) (hA : AV A) {d t : Nat} (ht : tv d t) (v : Int32) (a : Nat) (ha : a ≤ 6) : fX8_meetsAll (mm M v a) (nI t) = some (nI (Nn A d t), mm M (nI (Nn A d t)) (mx a (Wm A d t))) := by
  have hd := ht.1
  have S : ∀ q s (m a : Nat), s < 4 → a ≤ 6 → fX8_meetsAll_L7 (nI t) (q + 1) (mm M (nI m) a) (nI s) = fX8_meetsAll_L7 (nI t) q (mm M (nI (m + sN A s d t)) (mx a (sM A s d t))) (nI (s + 1)) := by
    intro q s m a hs ha
    rw [fX8_meetsAll_L7, if_neg (show ¬ (4:Int32) ≤ nI s from nI_ge (b := 4) hs (by decide)), meetsS_v h hA hs ht m a ha, Option.bind_some, nI_1]
  have b0 := sM_le A 0 t hd
  have b1 := sM_le A 1 t hd
  have b2 := sM_le A 2 t hd
  have e0 := S 5999 0 0 a (by decide) ha
  have e1 := S 5998 1 (0 + sN A 0 d t) (mx a (sM A 0 d t)) (by decide) (by rw [mx_max]; omega)
  have e2 := S 5997 2 (0 + sN A 0 d t + sN A 1 d t) (mx (mx a (sM A 0 d t)) (sM A 1 d t)) (by decide) (by rw [mx_max, mx_max]; omega)
  have e3 := S 5996 3 (0 + sN A 0 d t + sN A 1 d t + sN A 2 d t) (mx (mx (mx a (sM A 0 d t)) (sM A 1 d t)) (sM A 2 d t)) (by decide) (by rw [mx_max, mx_max, mx_max]; omega)
  have ew : mx (mx (mx (mx a (sM A 0 d t)) (sM A 1 d t)) (sM A 2 d t)) (sM A 3 d t) = mx a (Wm A d t) := by
    rw [Wm]
    exact mx4 _ _ _ _ _
  rw [show nI 0 = 0 from rfl] at e0
  rw [ew] at e3
  rw [fX8_meetsAll, Option.bind_some, mm_v, e0, e1, e2, e3, fX8_meetsAll_L7, if_pos (show (4:Int32) ≤ nI (3 + 1) by decide)]
  rfl
theorem mm_id {M : FS} {a : Nat} (h : M 8 3 = nI a) : mm M (M 8 2) a = M := by
  rw [← mm_self, ← h]
  funext i
  unfold sf
  cases h8 : Nat.beq i 8 with
  | true =>
    have := Nat.eq_of_beq_eq_true h8
    subst this
    rw [cond_true]
    funext j
    cases h3 : Nat.beq j 3 with
    | true =>
      have := Nat.eq_of_beq_eq_true h3
      subst this
      rfl
    | false => rfl
  | false => rfl
theorem neighbours_v {Q : Nat → FS} {M : FS} {A : AS} (h : RT (Q 0) A) (h8 : RM (M 0) A) (hA : AV A) {a : Nat} (ha : a ≤ 6) (hM : M 8 3 = nI a) (x1 : Int32) : ∃ (r v : Int32) (b : Nat), b ≤ 6 ∧ fX7_neighbours Q x1 = some r ∧ fX8_neighbours M x1 = some (r, mm M v b) := by
  rw [fX7_neighbours, fX8_neighbours]
  rcases dep_any x1 with ⟨d, t, ht, rfl, hd⟩ | ⟨_, hd⟩
  · have h6 := ht.1
    rw [hd, Option.bind_some, if_neg (ne6 (by omega)), isNumber_v ht, Option.bind_some, if_neg (show ¬ (1:Int32) = 0 by decide), kindOf5_v h hA ht, whatIs8_v h8 hA ht, Option.bind_some, Option.bind_some]
    by_cases k : kd A d t = 1
    · have e := meetsAll_v h8 hA ht (M 8 2) a ha
      rw [mm_id hM] at e
      rw [if_pos k, if_pos k, neighboursOf5_v h hA ht, Option.bind_some, e, Option.bind_some]
      have hw := Wm_le A t h6
      exact ⟨_, _, _, by rw [mx_max]; omega, rfl, rfl⟩
    · rw [if_neg k, if_neg k]
      exact ⟨-5, M 8 2, a, ha, rfl, by rw [mm_id hM]⟩
  · rw [hd, isNumber_no hd]
    exact ⟨-1, M 8 2, a, ha, rfl, by rw [mm_id hM]; rfl⟩
