/-! the leaves that meet a window, in the class -/
def wM (a b c e : Nat) (d t : Nat) : Nat := cond (mtb a b c e d t) 1 0
theorem LLs_0 (A : AS) (w : Nat → Nat → Nat) (d t : Nat) : LLs A w 0 d t = w d t := rfl
theorem wM_f {a b c e d t : Nat} (h : mtb a b c e d t = false) : wM a b c e d t = 0 := by
  unfold wM
  rw [h, cond_false]
theorem LLs_none {A : AS} {a b c e : Nat} : ∀ h d t, d + h = 6 → tv d t → mtb a b c e d t = false → LLs A (wM a b c e) h d t = 0 := by
  intro h
  induction h with
  | zero =>
    intro d t hd ht hm
    rw [LLs_0, wM_f hm]
  | succ h ih =>
    intro d t hd ht hm
    have hd6 : d < 6 := by omega
    have K : ∀ i, i < 4 → LLs A (wM a b c e) h (d + 1) (4 * t + i) = 0 := fun i hi => ih (d + 1) (4 * t + i) (by omega) (kid_tv ht hd6 hi) (mtb_kid ht hd6 hi hm)
    rw [LLs, K 0 (by decide), K 1 (by decide), K 2 (by decide), K 3 (by decide), wM_f hm]
    cases spb A d t with
    | true => exact cond_true _ _
    | false => exact cond_false _ _
theorem wleaf5_v {T : FS} {A : AS} (h : RT T A) (hA : AV A) {a b c e : Nat} (ha : a < 64) (hb : b < 64) (hc : c < 64) (he : e < 64) : ∀ (hh d t dd : Nat), d + hh = 6 → tv d t → hh < dd → fX5_leavesMeeting T (w4 (nI a) (nI b) (nI c) (nI e)) dd (nI t) (nI d) = some (nI (LLs A (wM a b c e) hh d t)) := by
  intro hh
  induction hh with
  | zero =>
    intro d t dd hd ht hdd
    obtain ⟨dd, rfl⟩ : ∃ k, dd = k + 1 := ⟨dd - 1, by omega⟩
    rw [fX5_leavesMeeting, fX5_leavesMeeting_B, meets5_v ha hb hc he ht, Option.bind_some, if_pos (show (6:Int32) ≤ nI d from nI_le (a := 6) (by omega) (by omega)), LLs, wM]
    cases mtb a b c e d t with
    | true => rfl
    | false => rfl
  | succ hh ih =>
    intro d t dd hd ht hdd
    obtain ⟨dd, rfl⟩ : ∃ k, dd = k + 1 := ⟨dd - 1, by omega⟩
    have hd6 : d < 6 := by omega
    rw [fX5_leavesMeeting, fX5_leavesMeeting_B, meets5_v ha hb hc he ht, Option.bind_some]
    cases hm : mtb a b c e d t with
    | false =>
      rw [LLs_none (hh + 1) d t hd ht hm]
      rfl
    | true =>
      rw [if_neg (show ¬ bi true = 0 by decide), if_neg (show ¬ (6:Int32) ≤ nI d from nI_ge (b := 6) hd6 (by decide)), split5_v h hA ht, Option.bind_some, LLs, wM, hm]
      cases spb A d t with
      | false => rfl
      | true =>
        rw [if_neg (show ¬ bi true = 0 by decide), cond_true]
        have K : ∀ i, i < 4 → fX5_leavesMeeting T (w4 (nI a) (nI b) (nI c) (nI e)) dd ((4:Int32) * nI t + nI i) (nI d + 1) = some (nI (LLs A (wM a b c e) hh (d + 1) (4 * t + i))) := by
          intro i hi
          rw [kid_no, nI_1]
          exact ih (d + 1) (4 * t + i) dd (by omega) (kid_tv ht hd6 hi) (by omega)
        have S : ∀ q i (x y : Nat), i < 4 → LLs A (wM a b c e) hh (d + 1) (4 * t + i) = y → fX5_leavesMeeting_L34 T (w4 (nI a) (nI b) (nI c) (nI e)) (fX5_leavesMeeting T (w4 (nI a) (nI b) (nI c) (nI e)) dd) (nI t) (nI d) (q + 1) (nI x) (nI i) = fX5_leavesMeeting_L34 T (w4 (nI a) (nI b) (nI c) (nI e)) (fX5_leavesMeeting T (w4 (nI a) (nI b) (nI c) (nI e)) dd) (nI t) (nI d) q (nI (x + y)) (nI (i + 1)) := by
          intro q i x y hi ey
          subst ey
          rw [fX5_leavesMeeting_L34, if_neg (show ¬ (4:Int32) ≤ nI i from nI_ge (b := 4) hi (by decide)), K i hi, Option.bind_some, nI_1, nI_add]
        have e0 := S 5999 0 0 _ (by decide) rfl
        have e1 := S 5998 1 (0 + LLs A (wM a b c e) hh (d + 1) (4 * t + 0)) _ (by decide) rfl
        have e2 := S 5997 2 (0 + LLs A (wM a b c e) hh (d + 1) (4 * t + 0) + LLs A (wM a b c e) hh (d + 1) (4 * t + 1)) _ (by decide) rfl
        have e3 := S 5996 3 (0 + LLs A (wM a b c e) hh (d + 1) (4 * t + 0) + LLs A (wM a b c e) hh (d + 1) (4 * t + 1) + LLs A (wM a b c e) hh (d + 1) (4 * t + 2)) _ (by decide) rfl
        rw [show nI 0 = 0 from rfl] at e0
        rw [e0, e1, e2, e3, fX5_leavesMeeting_L34, if_pos (show (4:Int32) ≤ nI (3 + 1) by decide), Nat.zero_add]
