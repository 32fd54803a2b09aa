/-! the reference's take; what a point more would bring; the least FULL -/
theorem RM_take {r g : FA} {A : AS} (h : RM r A) (hn : A 2 0 ≤ 50) {i : Nat} (hi : i < A 2 0) (h0 : g 0 = nI (A 2 0 - 1)) (hg : ∀ j, ¬ j = 0 → g j = if 4 + 2 * i ≤ j ∧ j < 4 + 2 * (A 2 0 - 1) then r (j + 2) else r j) : RM (upd (upd g (4 + 2 * (A 2 0 - 1)) 0) (5 + 2 * (A 2 0 - 1)) 0) (aTake A i) := by
  obtain ⟨h1, h2, h3, h4, h5, o, h6, h7, h8⟩ := h
  have old : ∀ j, ¬ j = 4 + 2 * (A 2 0 - 1) → ¬ j = 5 + 2 * (A 2 0 - 1) → upd (upd g (4 + 2 * (A 2 0 - 1)) 0) (5 + 2 * (A 2 0 - 1)) 0 j = g j := by
    intro j b c
    rw [pk_un c, pk_un b]
  refine ⟨?_, ?_, ?_, ?_, fun j hj => ?_, o, fun j hj => ?_, h7, h8⟩
  · rw [old 0 (by omega) (by omega)]
    exact h0
  · rw [old 1 (by omega) (by omega), hg 1 (by omega), if_neg (by omega)]
    exact h2
  · rw [old 2 (by omega) (by omega), hg 2 (by omega), if_neg (by omega)]
    exact h3
  · rw [old 3 (by omega) (by omega), hg 3 (by omega), if_neg (by omega)]
    exact h4
  · have hj : j < A 2 0 - 1 := hj
    show _ = nI (xof 6 (tkN (A 0) i j)) ∧ _ = nI (yof 6 (tkN (A 0) i j))
    rw [old _ (by omega) (by omega), old _ (by omega) (by omega), hg _ (by omega), hg _ (by omega)]
    unfold tkN
    by_cases e : j < i
    · rw [if_pos e, if_neg (by omega), if_neg (by omega)]
      exact h5 j (by omega)
    · rw [if_neg e, if_pos (by omega), if_pos (by omega), show 4 + 2 * j + 2 = 4 + 2 * (j + 1) by omega, show 5 + 2 * j + 2 = 5 + 2 * (j + 1) by omega]
      exact h5 (j + 1) (by omega)
  · have hj : j < A 2 1 := hj
    rw [old _ (by omega) (by omega), hg _ (by omega), if_neg (by omega)]
    exact h6 j hj
theorem tk_go {M : FS} {r : FA} {n i : Nat} (hn : n ≤ 50) (hi : i < n) (hr : r 0 = nI (n - 1)) : ∀ q k f, 4 + 2 * i ≤ k → k ≤ 4 + 2 * (n - 1) → 4 + 2 * (n - 1) - k < q → (∀ j, f j = if 4 + 2 * i ≤ j ∧ j < k then r (j + 2) else r j) → ∃ g : FA, (∀ j, g j = if 4 + 2 * i ≤ j ∧ j < 4 + 2 * (n - 1) then r (j + 2) else r j) ∧ fX8_take_L30 q (sr M 0 f) (nI k) = (fX8_allLeaves (upd (upd g (4 + 2 * (n - 1)) 0) (5 + 2 * (n - 1)) 0)).bind fun r_9 => some (r_9, sr M 0 (upd (upd g (4 + 2 * (n - 1)) 0) (5 + 2 * (n - 1)) 0)) := by
  intro q
  induction q with
  | zero => intro k f _ _ h; omega
  | succ q ih =>
    intro k f h1 h2 h3 h4
    have f0 : f 0 = nI (n - 1) := by rw [h4 0, if_neg (by omega), hr]
    rw [fX8_take_L30, sr_at, f0, idx2]
    by_cases hk : k = 4 + 2 * (n - 1)
    · subst hk
      rw [if_pos (nI_le (Nat.le_refl _) (by omega)), places_v _ (by omega), Option.bind_some, Option.bind_some, sr_sr, sr_at]
      exact ⟨f, h4, rfl⟩
    · rw [if_neg (nI_ge (by omega) (by omega)), show nI k + (2:Int32) = nI (k + 2) from nI_add k 2, rd_v _ (by omega) (by decide), Option.bind_some, wr_v _ _ (by omega) (by decide), Option.bind_some, Option.bind_some, sr_sr, nI_1]
      refine ih (k + 1) _ (by omega) (by omega) (by omega) fun j => ?_
      have e2 : f (k + 2) = r (k + 2) := by rw [h4, if_neg (by omega)]
      by_cases hj : j = k
      · subst hj
        rw [pk_us, if_pos (by omega), e2]
      · rw [pk_un hj, h4 j]
        by_cases h5 : 4 + 2 * i ≤ j ∧ j < k
        · rw [if_pos h5, if_pos (by omega)]
        · rw [if_neg h5, if_neg (by omega)]
theorem takes_v {S : FS} {A : AS} (h : RM (S 0) A) (hA : AV A) {i : Nat} (hi : i < A 2 0) : ∃ g : FA, ((wr 116 (S 0) (0:Int32) (((S 0) 0) - (1:Int32))).bind fun f_4 => ((some (sr S 0 f_4)).bind fun M0s_5 => fX8_take_L30 6000 M0s_5 ((4:Int32) + ((2:Int32) * nI i)))) = some (nI (LLn (aTake A i) 6 0 1), sr S 0 g) ∧ RM g (aTake A i) := by
  have hn := hA.1
  have h1 := h.1
  obtain ⟨g, g1, g2⟩ := tk_go (M := S) (r := upd (S 0) 0 (nI (A 2 0 - 1))) hn hi pk_us 6000 (4 + 2 * i) (upd (S 0) 0 (nI (A 2 0 - 1))) (Nat.le_refl _) (by omega) (by omega) (fun j => by rw [if_neg (by omega)])
  have hR := RM_take h hn hi (g := g) (by rw [g1 0, if_neg (by omega), pk_us]) (fun j hj => by
    rw [g1 j, pk_un hj, pk_un (show ¬ j + 2 = 0 by omega)])
  refine ⟨upd (upd g (4 + 2 * (A 2 0 - 1)) 0) (5 + 2 * (A 2 0 - 1)) 0, ?_, hR⟩
  rw [h1, show nI (A 2 0) - (1:Int32) = nI (A 2 0 - 1) from nI_sub (b := 1) (by omega), show (0:Int32) = nI 0 from rfl, wr_v _ _ (by decide) (by decide), Option.bind_some, Option.bind_some, idx2, g2]
  rw [show nI 0 = 0 from rfl] at *
  rw [allLeaves_v hR (AV_take hA hi), Option.bind_some]
/-- trees alike in all that tells which tiles are split -/
def Alk (T U : FS) : Prop := T 1 = U 1 ∧ T 3 = U 3 ∧ T 2 1 = U 2 1 ∧ T 2 2 = U 2 2 ∧ T 2 3 = U 2 3
theorem idx_cg {T U : FS} (h : Alk T U) (y : Int32) : ∀ q j, fX3_indexOfOrder_L2 T y q j = fX3_indexOfOrder_L2 U y q j := by
  intro q
  induction q with
  | zero => intro j; rfl
  | succ q ih =>
    intro j
    rw [fX3_indexOfOrder_L2, fX3_indexOfOrder_L2, h.1, h.2.2.1, ih]
theorem spl_cg {T U : FS} (h : Alk T U) (x d : Int32) : fX5_wouldBeSplit T x d = fX5_wouldBeSplit U x d := by
  rw [fX5_wouldBeSplit, fX5_wouldBeSplit, fX5_pointsIn, fX5_pointsIn, fX3_isOrdered, fX3_isOrdered, fX3_indexOfOrder, fX3_indexOfOrder, idx_cg h, h.2.1, h.2.2.2.1, h.2.2.2.2]
theorem lv22_cg (T U : FS) (self : Int32 → Int32 → Option Int32) (y1 y2 : Int32) : ∀ q a b, fX5_leavesIn_L22 T self y1 y2 q a b = fX5_leavesIn_L22 U self y1 y2 q a b := by
  intro q
  induction q with
  | zero => intro a b; rfl
  | succ q ih =>
    intro a b
    rw [fX5_leavesIn_L22, fX5_leavesIn_L22]
    congr 1
    congr 1
    funext r
    exact ih _ _
theorem lvs_cg {T U : FS} (h : Alk T U) : ∀ dd, fX5_leavesIn T dd = fX5_leavesIn U dd := by
  intro dd
  induction dd with
  | zero => rfl
  | succ dd ih =>
    funext x1 x2
    rw [fX5_leavesIn, fX5_leavesIn, fX5_leavesIn_B, fX5_leavesIn_B, ih, spl_cg h, lv22_cg T U]
theorem leaves_cg {T U : FS} (h : Alk T U) : fX5_leaves T = fX5_leaves U := by
  rw [fX5_leaves, fX5_leaves, lvs_cg h]
theorem dol_cg {T U : FS} (h : Alk T U) (y : Int32) : ∀ q j, fX5_depthOfLeafWith_L2 T y q j = fX5_depthOfLeafWith_L2 U y q j := by
  intro q
  induction q with
  | zero => intro j; rfl
  | succ q ih =>
    intro j
    rw [fX5_depthOfLeafWith_L2, fX5_depthOfLeafWith_L2, ih]
    congr 1
    congr 1
    funext r
    rw [spl_cg h]
theorem ifPut5 {T : FS} {A : AS} (h : RT T A) (hA : AV A) {p : Nat} (hp : p < 4096) (hn : A 2 0 < 50) (hx : ∀ i, i < A 2 0 → ¬ A 0 i = p) : ∃ T1, RT T1 A ∧ fX5_leavesIfPut T (nI (4096 + p)) = some (nI (LLn (aPush A p) 6 0 1), T1) ∧ fX5_depthIfPut T (nI (4096 + p)) = some (nI (ld (aPush A p) p), T1) := by
  have hB := AV_push hA hp hn hx
  obtain ⟨g, e1, e2⟩ := ats_p hp T (fun d t => cnt (A 0) d t (A 2 0)) h.2
  obtain ⟨g2, e3, e4⟩ := ats_m hp (sr T 3 g) (fun d t => cnt (A 0) d t (A 2 0)) (fun d t ht => by rw [sr_at]; exact e2 d t ht)
  have hU : RT (sr (sf (sr T 0 (upd (T 0) (A 2 0) (nI (4096 + p)))) 2 0 (nI (A 2 0 + 1))) 3 g) (aPush A p) := by
    refine ⟨RC_push h.1 p, fun d t ht => ?_⟩
    rw [sr_at, e2 d t ht]
    show _ = nI (cnt (upN (A 0) (A 2 0) p) d t (A 2 0 + 1))
    rw [cnt_s, upN_s, cnt_congr (p := upN (A 0) (A 2 0) p) (q := A 0) (A 2 0) (fun i hi => upN_n (by omega))]
  have al : Alk (sr T 3 g) (sr (sf (sr T 0 (upd (T 0) (A 2 0) (nI (4096 + p)))) 2 0 (nI (A 2 0 + 1))) 3 g) := ⟨rfl, rfl, rfl, rfl, rfl⟩
  refine ⟨sr (sr T 3 g) 3 g2, ⟨h.1, fun d t ht => by rw [sr_at]; exact e4 d t ht⟩, ?_, ?_⟩
  · rw [fX5_leavesIfPut, e1, Option.bind_some, leaves_cg al, leaves5_v hU hB, Option.bind_some, e3, Option.bind_some]
  · have dg := depthOfLeaf5_v hU hB hp
    rw [fX5_depthOfLeafWith, ← dol_cg al] at dg
    rw [fX5_depthIfPut, e1, Option.bind_some, fX5_depthOfLeafWith, dg, Option.bind_some, e3, Option.bind_some]
theorem sf22 (T : FS) (v w : Int32) : sf (sf T 2 2 v) 2 2 w = sf T 2 2 w := by
  funext i
  unfold sf
  cases Nat.beq i 2 with
  | true =>
    funext j
    show cond (Nat.beq j 2) w (cond (Nat.beq j 2) v (T i j)) = cond (Nat.beq j 2) w (T i j)
    cases Nat.beq j 2 with
    | true => rfl
    | false => rfl
  | false => rfl
theorem sf_self (T : FS) (a b : Nat) : sf T a b (T a b) = T := by
  funext i
  unfold sf
  cases h8 : Nat.beq i a with
  | true =>
    have := Nat.eq_of_beq_eq_true h8
    subst this
    rw [cond_true]
    funext j
    cases h3 : Nat.beq j b with
    | true =>
      have := Nat.eq_of_beq_eq_true h3
      subst this
      rfl
    | false => rfl
  | false => rfl
theorem RT_full {T : FS} {A : AS} (h : RT T A) (f : Nat) : RT (sf T 2 2 (nI f)) (aFull A f) := by
  refine ⟨⟨fun j hj => ?_, h.1.2.1, h.1.2.2⟩, h.2⟩
  rcases (show j = 0 ∨ j = 1 ∨ j = 2 ∨ j = 3 by omega) with rfl | rfl | rfl | rfl
  · exact h.1.1 0 (by decide)
  · exact h.1.1 1 (by decide)
  · rfl
  · exact h.1.1 3 (by decide)
theorem RT_deep {T : FS} {A : AS} (h : RT T A) (f : Nat) : RT (sf T 2 3 (nI f)) (aDeep A f) := by
  refine ⟨⟨fun j hj => ?_, h.1.2.1, h.1.2.2⟩, h.2⟩
  rcases (show j = 0 ∨ j = 1 ∨ j = 2 ∨ j = 3 by omega) with rfl | rfl | rfl | rfl
  · exact h.1.1 0 (by decide)
  · exact h.1.1 1 (by decide)
  · exact h.1.1 2 (by decide)
  · rfl
theorem RM_full {r : FA} {A : AS} (h : RM r A) (f : Nat) : RM (upd r 1 (nI f)) (aFull A f) := by
  obtain ⟨h1, h2, h3, h4, h5, o, h6, h7, h8⟩ := h
  refine ⟨?_, pk_us, ?_, ?_, fun j hj => ?_, o, fun j hj => ?_, h7, h8⟩
  · rw [pk_un (by omega)]; exact h1
  · rw [pk_un (by omega)]; exact h3
  · rw [pk_un (by omega)]; exact h4
  · rw [pk_un (by omega), pk_un (by omega)]; exact h5 j hj
  · rw [pk_un (by omega)]; exact h6 j hj
theorem RM_deep {r : FA} {A : AS} (h : RM r A) (f : Nat) : RM (upd r 2 (nI f)) (aDeep A f) := by
  obtain ⟨h1, h2, h3, h4, h5, o, h6, h7, h8⟩ := h
  refine ⟨?_, ?_, pk_us, ?_, fun j hj => ?_, o, fun j hj => ?_, h7, h8⟩
  · rw [pk_un (by omega)]; exact h1
  · rw [pk_un (by omega)]; exact h2
  · rw [pk_un (by omega)]; exact h4
  · rw [pk_un (by omega), pk_un (by omega)]; exact h5 j hj
  · rw [pk_un (by omega)]; exact h6 j hj
theorem upd_upd (f : FA) (k : Nat) (v w : Int32) : upd (upd f k v) k w = upd f k w := by
  funext j
  by_cases h : j = k
  · subst h
    rw [pk_us, pk_us]
  · rw [pk_un h, pk_un h, pk_un h]
theorem upd_self (f : FA) (k : Nat) : upd f k (f k) = f := by
  funext j
  by_cases h : j = k
  · subst h
    rw [pk_us]
  · rw [pk_un h]
theorem lf_go {T M : FS} {g : FA} {A : AS} (h : RT T A) (h8 : RM g A) (hA : AV A) (x : Int32) : ∀ q f v w, 1 ≤ f → f ≤ 9 → 9 - f < q → ∃ (r : Int32) (g1 : FA), fX5_leastFullFor_L14 x (T 2 2) q (sf T 2 2 v) (-6) (nI f) = some (r, T) ∧ fX8_leastFull_L29 x q (sr M 1 (upd g 1 w)) (nI f) = some (r, sr M 1 g1) := by
  intro q
  induction q with
  | zero => intro f _ _ _ _ h; omega
  | succ q ih =>
    intro f v w h1 h2 h3
    rw [fX5_leastFullFor_L14, fX8_leastFull_L29]
    by_cases hf : f = 9
    · subst hf
      rw [if_pos (show (8:Int32) < nI 9 by decide), if_pos (show (9:Int32) ≤ nI 9 by decide), Option.bind_some, sf22, sf_self]
      exact ⟨-6, upd g 1 w, rfl, rfl⟩
    · have hB := AV_full hA (f := f) (by omega)
      rw [if_neg (show ¬ (8:Int32) < nI f from nI_nlt (a := 8) (by omega) (by decide)), if_neg (show ¬ (9:Int32) ≤ nI f from nI_ge (b := 9) (by omega) (by decide)), if_pos rfl, Option.bind_some, sf22, leaves5_v (RT_full h f) hB, Option.bind_some, sr_at, show (1:Int32) = nI 1 from rfl, wr_v _ _ (by decide) (by decide), Option.bind_some, Option.bind_some, sr_sr, upd_upd, sr_at, allLeaves_v (RM_full h8 f) hB, Option.bind_some, show nI f + nI 1 = nI (f + 1) from nI_add f 1]
      by_cases hl : x < nI (LLn (aFull A f) 6 0 1)
      · rw [if_pos hl, if_pos hl]
        exact ih (f + 1) (nI f) (nI f) (by omega) (by omega) (by omega)
      · rw [if_neg hl, if_neg hl]
        obtain ⟨k, rfl⟩ : ∃ k, q = k + 1 := ⟨q - 1, by omega⟩
        refine ⟨nI f, upd g 1 (nI f), ?_, rfl⟩
        rw [fX5_leastFullFor_L14]
        by_cases h9 : (8:Int32) < nI (f + 1)
        · rw [if_pos h9, Option.bind_some, sf22, sf_self]
        · rw [if_neg h9, if_neg (ne6 (by omega)), Option.bind_some, sf22, sf_self]
