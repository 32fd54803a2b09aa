/-! the unevenness: asked of the deeper leaf, or of either -/
theorem LLm_ge {A : AS} (hA : AV A) (w : Nat → Nat → Nat) : ∀ h d t, d + h = 6 → tv d t → TH A d t → ∀ p, p < 4096 → tl d p = t → w (ld A p) (tl (ld A p) p) ≤ LLm A w h d t := by
  intro h
  induction h with
  | zero =>
    intro d t hd ht hT p hp e
    have hb : spb A d t = false := spb_deep (by have := hA.2.2.2.1; omega)
    rw [leaf_at hA ht hT hb e, e, LLm]
    exact Nat.le_refl _
  | succ h ih =>
    intro d t hd ht hT p hp e
    have hd6 : d < 6 := by omega
    rw [LLm]
    cases hb : spb A d t with
    | false =>
      rw [cond_false, leaf_at hA ht hT hb e, e]
      exact Nat.le_refl _
    | true =>
      rw [cond_true, mx_max, mx_max, mx_max, mx_max]
      have u := tl_up (d := d) (e := d + 1) (p := p) (by omega) (by omega)
      rw [show d + 1 - d = 1 by omega, Nat.pow_one, e] at u
      have K : ∀ i, i < 4 → tl (d + 1) p = 4 * t + i → w (ld A p) (tl (ld A p) p) ≤ LLm A w h (d + 1) (4 * t + i) := fun i hi e2 => ih (d + 1) (4 * t + i) (by omega) (kid_tv ht hd6 hi) (kid_TH ht hd6 hi hT hb) p hp e2
      rcases (show tl (d + 1) p = 4 * t + 0 ∨ tl (d + 1) p = 4 * t + 1 ∨ tl (d + 1) p = 4 * t + 2 ∨ tl (d + 1) p = 4 * t + 3 by omega) with e2 | e2 | e2 | e2
      · have := K 0 (by decide) e2
        generalize w (ld A p) (tl (ld A p) p) = z at *
        omega
      · have := K 1 (by decide) e2
        generalize w (ld A p) (tl (ld A p) p) = z at *
        omega
      · have := K 2 (by decide) e2
        generalize w (ld A p) (tl (ld A p) p) = z at *
        omega
      · have := K 3 (by decide) e2
        generalize w (ld A p) (tl (ld A p) p) = z at *
        omega
theorem max4 (a b c d : Nat) : max (max (max (max 0 a) b) c) d = a ∨ max (max (max (max 0 a) b) c) d = b ∨ max (max (max (max 0 a) b) c) d = c ∨ max (max (max (max 0 a) b) c) d = d := by omega
theorem LLm_at {A : AS} (hA : AV A) (w : Nat → Nat → Nat) : ∀ h d t, d + h = 6 → tv d t → TH A d t → ∃ p, p < 4096 ∧ LLm A w h d t = w (ld A p) (tl (ld A p) p) := by
  intro h
  induction h with
  | zero =>
    intro d t hd ht hT
    have hb : spb A d t = false := spb_deep (by have := hA.2.2.2.1; omega)
    refine ⟨fo d t, fo_lt ht, ?_⟩
    rw [TH_leaf hA ht hT hb, fo_tl ht, LLm]
  | succ h ih =>
    intro d t hd ht hT
    have hd6 : d < 6 := by omega
    rw [LLm]
    cases hb : spb A d t with
    | false =>
      refine ⟨fo d t, fo_lt ht, ?_⟩
      rw [cond_false, TH_leaf hA ht hT hb, fo_tl ht]
    | true =>
      rw [cond_true, mx_max, mx_max, mx_max, mx_max]
      have K : ∀ i, i < 4 → ∃ p, p < 4096 ∧ LLm A w h (d + 1) (4 * t + i) = w (ld A p) (tl (ld A p) p) := fun i hi => ih (d + 1) (4 * t + i) (by omega) (kid_tv ht hd6 hi) (kid_TH ht hd6 hi hT hb)
      rcases max4 (LLm A w h (d + 1) (4 * t + 0)) (LLm A w h (d + 1) (4 * t + 1)) (LLm A w h (d + 1) (4 * t + 2)) (LLm A w h (d + 1) (4 * t + 3)) with e | e | e | e
      · rw [e]
        exact K 0 (by decide)
      · rw [e]
        exact K 1 (by decide)
      · rw [e]
        exact K 2 (by decide)
      · rw [e]
        exact K 3 (by decide)
/-- where a leaf of an edge lies, against the tile of the edge -/
def onE (s d t e u : Nat) : Prop := (s = 0 ∧ xof 6 (fo e u) = xof 6 (fo d t) ∧ yof 6 (fo d t) ≤ yof 6 (fo e u) ∧ yof 6 (fo e u) + 2 ^ (6 - e) ≤ yof 6 (fo d t) + 2 ^ (6 - d)) ∨ (s = 1 ∧ yof 6 (fo e u) = yof 6 (fo d t) ∧ xof 6 (fo d t) ≤ xof 6 (fo e u) ∧ xof 6 (fo e u) + 2 ^ (6 - e) ≤ xof 6 (fo d t) + 2 ^ (6 - d)) ∨ (s = 2 ∧ xof 6 (fo e u) + 2 ^ (6 - e) = xof 6 (fo d t) + 2 ^ (6 - d) ∧ yof 6 (fo d t) ≤ yof 6 (fo e u) ∧ yof 6 (fo e u) + 2 ^ (6 - e) ≤ yof 6 (fo d t) + 2 ^ (6 - d)) ∨ (s = 3 ∧ yof 6 (fo e u) + 2 ^ (6 - e) = yof 6 (fo d t) + 2 ^ (6 - d) ∧ xof 6 (fo d t) ≤ xof 6 (fo e u) ∧ xof 6 (fo e u) + 2 ^ (6 - e) ≤ xof 6 (fo d t) + 2 ^ (6 - d))
theorem onE_self {s : Nat} (hs : s < 4) (d t : Nat) : onE s d t d t := by
  rcases co4 hs with rfl | rfl | rfl | rfl
  · exact Or.inl ⟨rfl, rfl, Nat.le_refl _, Nat.le_refl _⟩
  · exact Or.inr (Or.inl ⟨rfl, rfl, Nat.le_refl _, Nat.le_refl _⟩)
  · exact Or.inr (Or.inr (Or.inl ⟨rfl, rfl, Nat.le_refl _, Nat.le_refl _⟩))
  · exact Or.inr (Or.inr (Or.inr ⟨rfl, rfl, Nat.le_refl _, Nat.le_refl _⟩))
theorem onE_kid {s d t e u : Nat} (hs : s < 4) (ht : tv d t) (hd : d < 6) (h : onE s (d + 1) (4 * t + qO s) e u ∨ onE s (d + 1) (4 * t + qU s) e u) : onE s d t e u := by
  have e2 := two_sz hd
  unfold onE at h ⊢
  rcases co4 hs with rfl | rfl | rfl | rfl
  · have a1 := kid_x0 ht hd (i := 0) (by decide) (by decide)
    have a2 := kid_y0 ht hd (i := 0) (by decide) (by decide)
    have b1 := kid_x0 ht hd (i := 2) (by decide) (by decide)
    have b2 := kid_y1 ht hd (i := 2) (by decide) (by decide)
    rw [show qO 0 = 0 from rfl, show qU 0 = 2 from rfl, a1, a2, b1, b2] at h
    rw [e2]
    generalize xof 6 (fo d t) = X at *
    generalize yof 6 (fo d t) = Y at *
    generalize 2 ^ (6 - (d + 1)) = z at *
    generalize 2 ^ (6 - e) = w at *
    omega
  · have a1 := kid_x0 ht hd (i := 0) (by decide) (by decide)
    have a2 := kid_y0 ht hd (i := 0) (by decide) (by decide)
    have b1 := kid_x1 ht hd (i := 1) (by decide) (by decide)
    have b2 := kid_y0 ht hd (i := 1) (by decide) (by decide)
    rw [show qO 1 = 0 from rfl, show qU 1 = 1 from rfl, a1, a2, b1, b2] at h
    rw [e2]
    generalize xof 6 (fo d t) = X at *
    generalize yof 6 (fo d t) = Y at *
    generalize 2 ^ (6 - (d + 1)) = z at *
    generalize 2 ^ (6 - e) = w at *
    omega
  · have a1 := kid_x1 ht hd (i := 1) (by decide) (by decide)
    have a2 := kid_y0 ht hd (i := 1) (by decide) (by decide)
    have b1 := kid_x1 ht hd (i := 3) (by decide) (by decide)
    have b2 := kid_y1 ht hd (i := 3) (by decide) (by decide)
    rw [show qO 2 = 1 from rfl, show qU 2 = 3 from rfl, a1, a2, b1, b2] at h
    rw [e2]
    generalize xof 6 (fo d t) = X at *
    generalize yof 6 (fo d t) = Y at *
    generalize 2 ^ (6 - (d + 1)) = z at *
    generalize 2 ^ (6 - e) = w at *
    omega
  · have a1 := kid_x0 ht hd (i := 2) (by decide) (by decide)
    have a2 := kid_y1 ht hd (i := 2) (by decide) (by decide)
    have b1 := kid_x1 ht hd (i := 3) (by decide) (by decide)
    have b2 := kid_y1 ht hd (i := 3) (by decide) (by decide)
    rw [show qO 3 = 2 from rfl, show qU 3 = 3 from rfl, a1, a2, b1, b2] at h
    rw [e2]
    generalize xof 6 (fo d t) = X at *
    generalize yof 6 (fo d t) = Y at *
    generalize 2 ^ (6 - (d + 1)) = z at *
    generalize 2 ^ (6 - e) = w at *
    omega
theorem LSm_at {A : AS} (hA : AV A) {s d0 : Nat} (hs : s < 4) : ∀ h d t, d + h = 6 → tv d t → TH A d t → ∃ e u, d ≤ e ∧ tv e u ∧ TH A e u ∧ spb A e u = false ∧ onE s d t e u ∧ LSm A s d0 h d t = dif e d0 := by
  intro h
  induction h with
  | zero =>
    intro d t hd ht hT
    have hb : spb A d t = false := spb_deep (by have := hA.2.2.2.1; omega)
    exact ⟨d, t, Nat.le_refl _, ht, hT, hb, onE_self hs d t, by rw [LSm]⟩
  | succ h ih =>
    intro d t hd ht hT
    have hd6 : d < 6 := by omega
    obtain ⟨⟨_, _⟩, o3, o4⟩ := st_v s hs
    rw [LSm]
    cases hb : spb A d t with
    | false => exact ⟨d, t, Nat.le_refl _, ht, hT, hb, onE_self hs d t, by rw [cond_false]⟩
    | true =>
      rw [cond_true, mx_max]
      rcases (show ∀ a b : Nat, max a b = a ∨ max a b = b by omega) (LSm A s d0 h (d + 1) (4 * t + qO s)) (LSm A s d0 h (d + 1) (4 * t + qU s)) with e | e
      · rw [e]
        obtain ⟨f, u, h1, h2, h3, h4, h5, h6⟩ := ih (d + 1) (4 * t + qO s) (by omega) (kid_tv ht hd6 o3) (kid_TH ht hd6 o3 hT hb)
        exact ⟨f, u, by omega, h2, h3, h4, onE_kid hs ht hd6 (Or.inl h5), h6⟩
      · rw [e]
        obtain ⟨f, u, h1, h2, h3, h4, h5, h6⟩ := ih (d + 1) (4 * t + qU s) (by omega) (kid_tv ht hd6 o4) (kid_TH ht hd6 o4 hT hb)
        exact ⟨f, u, by omega, h2, h3, h4, onE_kid hs ht hd6 (Or.inr h5), h6⟩
theorem sG_le_Gm (A : AS) {s d : Nat} (t : Nat) (hs : s < 4) : sG A s d t ≤ Gm A d t := by
  rw [Gm, mx_max, mx_max, mx_max, mx_max]
  rcases co4 hs with rfl | rfl | rfl | rfl
  · generalize sG A 0 d t = a at *; omega
  · generalize sG A 1 d t = a at *; omega
  · generalize sG A 2 d t = a at *; omega
  · generalize sG A 3 d t = a at *; omega
theorem sM_le_Wm (A : AS) {s d : Nat} (t : Nat) (hs : s < 4) : sM A s d t ≤ Wm A d t := by
  rw [Wm, mx_max, mx_max, mx_max, mx_max]
  rcases co4 hs with rfl | rfl | rfl | rfl
  · generalize sM A 0 d t = a at *; omega
  · generalize sM A 1 d t = a at *; omega
  · generalize sM A 2 d t = a at *; omega
  · generalize sM A 3 d t = a at *; omega
/-- a deeper leaf beyond a side finds the leaf back, across the other side -/
theorem back {A : AS} (hA : AV A) {s d t n e u : Nat} (hs : s < 4) (ht : tv d t) (hT : TH A d t) (hb : spb A d t = false) (hx : nxt s d t = some n) (hu : tv e u) (hde : d ≤ e) (hE : onE s d n e u) : e - d ≤ Gm A e u := by
  obtain ⟨hn, sp⟩ := nxt_spec hs ht hx
  have he := hu.1
  have hin := tile_in hu
  have htn := tile_in ht
  have hpos := (sz_le e).1
  have h2 : (2 : Nat) ^ (6 - e) ≤ 2 ^ (6 - d) := Nat.pow_le_pow_right (by decide) (by omega)
  have fin : ∀ (s' x y : Nat), s' < 4 → nxt s' e u = some (tl e (pth 6 x y)) → tl d (pth 6 x y) = t → e - d ≤ Gm A e u := by
    intro s' x y hs' hnx hin2
    refine Nat.le_trans ?_ (sG_le_Gm A u hs')
    have hq := tl_tv he (pth_lt 6 x y)
    have e1 : tl d (fo e (tl e (pth 6 x y))) = t := by
      rw [tl_same (p := fo e (tl e (pth 6 x y))) (p2 := pth 6 x y) hde he (fo_tl hq), hin2]
    rw [sG, hnx]
    show e - d ≤ e - ld A (fo e (tl e (pth 6 x y)))
    rw [leaf_at hA ht hT hb e1]
    exact Nat.le_refl _
  have ix : ∀ x y, xof 6 (fo d t) ≤ x → x < xof 6 (fo d t) + 2 ^ (6 - d) → yof 6 (fo d t) ≤ y → y < yof 6 (fo d t) + 2 ^ (6 - d) → tl d (pth 6 x y) = t := fun x y a b c f => in_tl ht a b c f
  generalize hX : xof 6 (fo d t) = X at *
  generalize hY : yof 6 (fo d t) = Y at *
  generalize hZ : 2 ^ (6 - d) = z at *
  generalize hU : xof 6 (fo e u) = U at *
  generalize hV : yof 6 (fo e u) = V at *
  generalize hW : 2 ^ (6 - e) = w at *
  unfold onE at hE
  rw [hU, hV, hW, hZ] at hE
  rcases co4 hs with rfl | rfl | rfl | rfl
  · have k1 : w ≤ U := by omega
    refine fin 2 (U - w) V (by decide) ?_ (ix _ _ (by omega) (by omega) (by omega) (by omega))
    rw [nxt_2, hU, hV, hW, if_pos k1]
  · have k1 : w ≤ V := by omega
    refine fin 3 U (V - w) (by decide) ?_ (ix _ _ (by omega) (by omega) (by omega) (by omega))
    rw [nxt_3, hU, hV, hW, if_pos k1]
  · have k1 : U + w < 64 := by omega
    refine fin 0 (U + w) V (by decide) ?_ (ix _ _ (by omega) (by omega) (by omega) (by omega))
    rw [nxt_0, hU, hV, hW, if_pos k1]
  · have k1 : V + w < 64 := by omega
    refine fin 1 U (V + w) (by decide) ?_ (ix _ _ (by omega) (by omega) (by omega) (by omega))
    rw [nxt_1, hU, hV, hW, if_pos k1]
theorem sM_bound {A : AS} (hA : AV A) {s d t : Nat} (hs : s < 4) (ht : tv d t) (hT : TH A d t) (hb : spb A d t = false) : sM A s d t ≤ LLm A (Gm A) 6 0 1 := by
  have own : Gm A d t ≤ LLm A (Gm A) 6 0 1 := by
    have := LLm_ge hA (Gm A) 6 0 1 rfl tv01 (TH0 A 1) (fo d t) (fo_lt ht) (tl_0 _ (fo_lt ht))
    rw [TH_leaf hA ht hT hb, fo_tl ht] at this
    exact this
  have sg := sG_le_Gm A (d := d) t hs
  unfold sM
  unfold sG at sg
  cases hx : nxt s d t with
  | none => exact Nat.zero_le _
  | some n =>
    rw [hx] at sg
    have sg : d - ld A (fo d n) ≤ Gm A d t := sg
    show sdm A s d n ≤ _
    have hn := (nxt_spec hs ht hx).1
    unfold sdm
    cases hth : thb A d n with
    | false =>
      rw [cond_false]
      exact Nat.le_trans sg own
    | true =>
      rw [cond_true]
      obtain ⟨e, u, h1, h2, h3, h4, h5, h6⟩ := LSm_at hA (d0 := d) hs (6 - d) d n (by have := ht.1; omega) hn (thb_TH hA hth)
      have k1 := back hA hs ht hT hb hx h2 h1 h5
      have k2 := LLm_ge hA (Gm A) 6 0 1 rfl tv01 (TH0 A 1) (fo e u) (fo_lt h2) (tl_0 _ (fo_lt h2))
      rw [TH_leaf hA h2 h3 h4, fo_tl h2] at k2
      rw [h6, dif]
      omega
theorem sG_sM {A : AS} {s d t : Nat} : sG A s d t ≤ sM A s d t := by
  unfold sG sM
  cases nxt s d t with
  | none => exact Nat.le_refl _
  | some n =>
    show d - ld A (fo d n) ≤ sdm A s d n
    unfold sdm
    cases hth : thb A d n with
    | false =>
      rw [cond_false]
      exact Nat.le_refl _
    | true =>
      have : d ≤ ld A (fo d n) := Nat.le_of_ble_eq_true hth
      omega
theorem uneven_eq {A : AS} (hA : AV A) : LLm A (Gm A) 6 0 1 = LLm A (Wm A) 6 0 1 := by
  apply Nat.le_antisymm
  · obtain ⟨p, hp, e⟩ := LLm_at hA (Gm A) 6 0 1 rfl tv01 (TH0 A 1)
    have k := LLm_ge hA (Wm A) 6 0 1 rfl tv01 (TH0 A 1) p hp (tl_0 _ hp)
    rw [e]
    refine Nat.le_trans ?_ k
    have a := sG_sM (A := A) (s := 0) (d := ld A p) (t := tl (ld A p) p)
    have b := sG_sM (A := A) (s := 1) (d := ld A p) (t := tl (ld A p) p)
    have c := sG_sM (A := A) (s := 2) (d := ld A p) (t := tl (ld A p) p)
    have f := sG_sM (A := A) (s := 3) (d := ld A p) (t := tl (ld A p) p)
    rw [Gm, Wm, mx_max, mx_max, mx_max, mx_max, mx_max, mx_max, mx_max, mx_max]
    generalize ld A p = d at *
    generalize tl d p = t at *
    generalize sG A 0 d t = g0 at *
    generalize sG A 1 d t = g1 at *
    generalize sG A 2 d t = g2 at *
    generalize sG A 3 d t = g3 at *
    generalize sM A 0 d t = m0 at *
    generalize sM A 1 d t = m1 at *
    generalize sM A 2 d t = m2 at *
    generalize sM A 3 d t = m3 at *
    omega
  · obtain ⟨p, hp, e⟩ := LLm_at hA (Wm A) 6 0 1 rfl tv01 (TH0 A 1)
    obtain ⟨l1, l2, l3⟩ := ld_spec hA p
    have ht := tl_tv l1 hp
    have hT : TH A (ld A p) (tl (ld A p) p) := by
      intro i hi
      rw [tl_same (p := fo (ld A p) (tl (ld A p) p)) (p2 := p) (show i ≤ ld A p by omega) l1 (fo_tl ht)]
      exact l2 i hi
    have a := sM_bound hA (s := 0) (by decide) ht hT l3
    have b := sM_bound hA (s := 1) (by decide) ht hT l3
    have c := sM_bound hA (s := 2) (by decide) ht hT l3
    have f := sM_bound hA (s := 3) (by decide) ht hT l3
    rw [e, Wm, mx_max, mx_max, mx_max, mx_max]
    generalize LLm A (Gm A) 6 0 1 = g at *
    generalize ld A p = d at *
    generalize tl d p = t at *
    generalize sM A 0 d t = m0 at *
    generalize sM A 1 d t = m1 at *
    generalize sM A 2 d t = m2 at *
    generalize sM A 3 d t = m3 at *
    omega
