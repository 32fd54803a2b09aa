/-! points put, taken away and moved: the class's tree, the reference's row -/
def mkA (pl od : Nat → Nat) (n k fu de : Nat) : AS := fun i => match i with
  | 0 => pl
  | 1 => od
  | _ => fun j => match j with
    | 0 => n
    | 1 => k
    | 2 => fu
    | _ => de
def upN (f : Nat → Nat) (k v : Nat) : Nat → Nat := fun j => if j = k then v else f j
theorem upN_s {f : Nat → Nat} {k v : Nat} : upN f k v k = v := if_pos rfl
theorem upN_n {f : Nat → Nat} {k v j : Nat} (h : ¬ j = k) : upN f k v j = f j := if_neg h
def aPush (A : AS) (p : Nat) : AS := mkA (upN (A 0) (A 2 0) p) (A 1) (A 2 0 + 1) (A 2 1) (A 2 2) (A 2 3)
def tkN (f : Nat → Nat) (i : Nat) : Nat → Nat := fun j => if j < i then f j else f (j + 1)
def aTake (A : AS) (i : Nat) : AS := mkA (tkN (A 0) i) (A 1) (A 2 0 - 1) (A 2 1) (A 2 2) (A 2 3)
def aMove (A : AS) (i p : Nat) : AS := mkA (upN (A 0) i p) (A 1) (A 2 0) (A 2 1) (A 2 2) (A 2 3)
def aFull (A : AS) (f : Nat) : AS := mkA (A 0) (A 1) (A 2 0) (A 2 1) f (A 2 3)
def aDeep (A : AS) (e : Nat) : AS := mkA (A 0) (A 1) (A 2 0) (A 2 1) (A 2 2) e
theorem AV_push {A : AS} (hA : AV A) {p : Nat} (hp : p < 4096) (hn : A 2 0 < 50) (hx : ∀ i, i < A 2 0 → ¬ A 0 i = p) : AV (aPush A p) := by
  obtain ⟨a1, a2, a3, a4, a5, a6, a7, a8⟩ := hA
  refine ⟨show A 2 0 + 1 ≤ 50 by omega, a2, a3, a4, fun i hi => ?_, fun i j hi hj e => ?_, a7, a8⟩
  · have hi : i < A 2 0 + 1 := hi
    show upN (A 0) (A 2 0) p i < 4096
    by_cases h : i = A 2 0
    · subst h
      rw [upN_s]
      exact hp
    · rw [upN_n h]
      exact a5 i (by omega)
  · have hi : i < A 2 0 + 1 := hi
    have hj : j < A 2 0 + 1 := hj
    have e : upN (A 0) (A 2 0) p i = upN (A 0) (A 2 0) p j := e
    by_cases h : i = A 2 0
    · by_cases h2 : j = A 2 0
      · omega
      · rw [h, upN_s, upN_n h2] at e
        exact absurd e.symm (hx j (by omega))
    · by_cases h2 : j = A 2 0
      · rw [h2, upN_s, upN_n h] at e
        exact absurd e (hx i (by omega))
      · rw [upN_n h, upN_n h2] at e
        exact a6 i j (by omega) (by omega) e
theorem AV_take {A : AS} (hA : AV A) {i : Nat} (hi : i < A 2 0) : AV (aTake A i) := by
  obtain ⟨a1, a2, a3, a4, a5, a6, a7, a8⟩ := hA
  refine ⟨show A 2 0 - 1 ≤ 50 by omega, a2, a3, a4, fun j hj => ?_, fun j l hj hl e => ?_, a7, a8⟩
  · have hj : j < A 2 0 - 1 := hj
    show tkN (A 0) i j < 4096
    unfold tkN
    by_cases h : j < i
    · rw [if_pos h]
      exact a5 j (by omega)
    · rw [if_neg h]
      exact a5 (j + 1) (by omega)
  · have hj : j < A 2 0 - 1 := hj
    have hl : l < A 2 0 - 1 := hl
    have e : tkN (A 0) i j = tkN (A 0) i l := e
    unfold tkN at e
    by_cases h : j < i
    · rw [if_pos h] at e
      by_cases h2 : l < i
      · rw [if_pos h2] at e
        exact a6 j l (by omega) (by omega) e
      · rw [if_neg h2] at e
        have := a6 j (l + 1) (by omega) (by omega) e
        omega
    · rw [if_neg h] at e
      by_cases h2 : l < i
      · rw [if_pos h2] at e
        have := a6 (j + 1) l (by omega) (by omega) e
        omega
      · rw [if_neg h2] at e
        have := a6 (j + 1) (l + 1) (by omega) (by omega) e
        omega
theorem AV_move {A : AS} (hA : AV A) {i p : Nat} (hi : i < A 2 0) (hp : p < 4096) (hx : ∀ j, j < A 2 0 → ¬ j = i → ¬ A 0 j = p) : AV (aMove A i p) := by
  obtain ⟨a1, a2, a3, a4, a5, a6, a7, a8⟩ := hA
  refine ⟨a1, a2, a3, a4, fun j hj => ?_, fun j l hj hl e => ?_, a7, a8⟩
  · have hj : j < A 2 0 := hj
    show upN (A 0) i p j < 4096
    by_cases h : j = i
    · rw [h, upN_s]
      exact hp
    · rw [upN_n h]
      exact a5 j hj
  · have hj : j < A 2 0 := hj
    have hl : l < A 2 0 := hl
    have e : upN (A 0) i p j = upN (A 0) i p l := e
    by_cases h : j = i
    · by_cases h2 : l = i
      · omega
      · rw [h, upN_s, upN_n h2] at e
        exact absurd e.symm (hx l hl h2)
    · by_cases h2 : l = i
      · rw [h2, upN_s, upN_n h] at e
        exact absurd e (hx j hj h)
      · rw [upN_n h, upN_n h2] at e
        exact a6 j l hj hl e
theorem AV_full {A : AS} (hA : AV A) {f : Nat} (h : 1 ≤ f ∧ f ≤ 8) : AV (aFull A f) := by
  obtain ⟨a1, a2, a3, a4, a5, a6, a7, a8⟩ := hA
  exact ⟨a1, a2, h, a4, a5, a6, a7, a8⟩
theorem AV_deep {A : AS} (hA : AV A) {f : Nat} (h : 1 ≤ f ∧ f ≤ 6) : AV (aDeep A f) := by
  obtain ⟨a1, a2, a3, a4, a5, a6, a7, a8⟩ := hA
  exact ⟨a1, a2, a3, h, a5, a6, a7, a8⟩
theorem addPlace_v {T : FS} {A : AS} (h : RC T A) (hn : A 2 0 < 50) (x : Int32) : fX3_addPlace T x = some (sf (sr T 0 (upd (T 0) (A 2 0) x)) 2 0 (nI (A 2 0 + 1))) := by
  rw [fX3_addPlace, h.1 0 (by decide), if_neg (show ¬ (50:Int32) ≤ nI (A 2 0) from nI_ge (b := 50) hn (by decide)), wr_v _ _ hn (by decide), Option.bind_some, Option.bind_some, Option.bind_some, show sr T 0 (upd (T 0) (A 2 0) x) 2 0 = nI (A 2 0) from h.1 0 (by decide), nI_1]
theorem RC_push {T : FS} {A : AS} (h : RC T A) (p : Nat) : RC (sf (sr T 0 (upd (T 0) (A 2 0) (nI (4096 + p)))) 2 0 (nI (A 2 0 + 1))) (aPush A p) := by
  refine ⟨fun j hj => ?_, fun i hi => ?_, fun i hi => ?_⟩
  · rcases (show j = 0 ∨ j = 1 ∨ j = 2 ∨ j = 3 by omega) with rfl | rfl | rfl | rfl
    · rfl
    · exact h.1 1 (by decide)
    · exact h.1 2 (by decide)
    · exact h.1 3 (by decide)
  · have hi : i < A 2 0 + 1 := hi
    show upd (T 0) (A 2 0) (nI (4096 + p)) i = nI (4096 + upN (A 0) (A 2 0) p i)
    by_cases e : i = A 2 0
    · rw [e, pk_us, upN_s]
    · rw [pk_un e, upN_n e]
      exact h.2.1 i (by omega)
  · exact h.2.2 i hi
theorem addPoint_v {T : FS} {A : AS} (h : RT T A) {p : Nat} (hp : p < 4096) (hn : A 2 0 < 50) : ∃ T1, fX5_addPoint T (nI (4096 + p)) = some T1 ∧ RT T1 (aPush A p) := by
  obtain ⟨g, e1, e2⟩ := ats_p hp (sr (sf (sr T 0 (upd (T 0) (A 2 0) (nI (4096 + p)))) 2 0 (nI (A 2 0 + 1))) 3 (T 3)) (fun d t => cnt (A 0) d t (A 2 0)) (fun d t ht => by rw [sr_at]; exact h.2 d t ht)
  refine ⟨sr (sr (sf (sr T 0 (upd (T 0) (A 2 0) (nI (4096 + p)))) 2 0 (nI (A 2 0 + 1))) 3 (T 3)) 3 g, ?_, ?_, fun d t ht => ?_⟩
  · rw [fX5_addPoint, addPlace_v h.1 hn, Option.bind_some, Option.bind_some, e1, Option.bind_some]
  · exact RC_push h.1 p
  · rw [sr_at, e2 d t ht]
    show _ = nI (cnt (upN (A 0) (A 2 0) p) d t (A 2 0 + 1))
    rw [cnt_s, upN_s, cnt_congr (p := upN (A 0) (A 2 0) p) (q := A 0) (A 2 0) (fun i hi => upN_n (by omega))]
theorem places_v (r : FA) {n : Nat} (hn : n < 50) (x y : Int32) : fX8_places r (nI n) x y = some (upd (upd r (4 + 2 * n) x) (5 + 2 * n) y) := by
  rw [fX8_places, idx3, idx2, wr_v _ _ (by omega) (by decide), Option.bind_some, Option.bind_some, wr_v _ _ (by omega) (by decide), Option.bind_some, Option.bind_some]
theorem comes_v {r : FA} {A : AS} (h : RM r A) {x y : Nat} (hx : x < 64) (hy : y < 64) (hn : A 2 0 < 50) : ∃ r1, fX8_comes r (nI x) (nI y) = some r1 ∧ RM r1 (aPush A (pth 6 x y)) := by
  obtain ⟨h1, h2, h3, h4, h5, o, h6, h7, h8⟩ := h
  have e0 : upd (upd r (4 + 2 * A 2 0) (nI x)) (5 + 2 * A 2 0) (nI y) 0 = nI (A 2 0) := by
    rw [pk_un (by omega), pk_un (by omega), h1]
  have old : ∀ j, ¬ j = 0 → ¬ j = 4 + 2 * A 2 0 → ¬ j = 5 + 2 * A 2 0 → upd (upd (upd r (4 + 2 * A 2 0) (nI x)) (5 + 2 * A 2 0) (nI y)) 0 (nI (A 2 0 + 1)) j = r j := by
    intro j a b c
    rw [pk_un a, pk_un c, pk_un b]
  refine ⟨upd (upd (upd r (4 + 2 * A 2 0) (nI x)) (5 + 2 * A 2 0) (nI y)) 0 (nI (A 2 0 + 1)), ?_, pk_us, ?_, ?_, ?_, fun i hi => ?_, o, fun i hi => ?_, h7, h8⟩
  · rw [fX8_comes, h1, places_v _ hn, Option.bind_some, e0, nI_1, show (0:Int32) = nI 0 from rfl, wr_v _ _ (by decide) (by decide), Option.bind_some, Option.bind_some]
  · rw [old 1 (by omega) (by omega) (by omega)]
    exact h2
  · rw [old 2 (by omega) (by omega) (by omega)]
    exact h3
  · rw [old 3 (by omega) (by omega) (by omega)]
    exact h4
  · have hi : i < A 2 0 + 1 := hi
    show _ = nI (xof 6 (upN (A 0) (A 2 0) (pth 6 x y) i)) ∧ _ = nI (yof 6 (upN (A 0) (A 2 0) (pth 6 x y) i))
    by_cases e : i = A 2 0
    · subst e
      rw [upN_s, xof_pth 6 x y hx, yof_pth 6 x y hy]
      refine ⟨?_, ?_⟩
      · rw [pk_un (by omega), pk_un (by omega), pk_us]
      · rw [pk_un (by omega), pk_us]
    · rw [upN_n e, old _ (by omega) (by omega) (by omega), old _ (by omega) (by omega) (by omega)]
      exact h5 i (by omega)
  · have hi : i < A 2 1 := hi
    rw [old _ (by omega) (by omega) (by omega)]
    exact h6 i hi
theorem cnt_take (p : Nat → Nat) (d t i : Nat) : ∀ m, i ≤ m → cnt (tkN p i) d t m + hit (p i) d t = cnt p d t (m + 1) := by
  intro m
  induction m with
  | zero =>
    intro h
    have : i = 0 := by omega
    subst this
    rfl
  | succ m ih =>
    intro h
    by_cases e : i = m + 1
    · subst e
      rw [cnt_s p, cnt_congr (p := tkN p (m + 1)) (q := p) (m + 1) (fun j hj => if_pos hj)]
    · have := ih (by omega)
      rw [cnt_s, cnt_s p, show tkN p i m = p (m + 1) from if_neg (by omega)]
      omega
theorem cp_v {n0 n1 a b c : Nat} (f g : FA) (h1 : a + c ≤ n0) (h2 : b + c ≤ n1) (h3 : n0 < 2 ^ 31) (h4 : n1 < 2 ^ 31) : cp n0 n1 f g (nI a) (nI b) (nI c) = some (va_cpy f g a b c) := by
  unfold cp
  rw [nI_clamp (by omega), nI_clamp (by omega), nI_clamp (by omega), if_neg]
  rintro (h | h | h | h | h)
  · exact nI_pos (by omega) h
  · exact nI_pos (by omega) h
  · exact nI_pos (by omega) h
  · omega
  · omega
theorem removePoint_v {T : FS} {A : AS} (h : RT T A) (hA : AV A) {i : Nat} (hi : i < A 2 0) : ∃ T1, fX5_removePoint T (nI i) = some T1 ∧ RT T1 (aTake A i) := by
  have hn := hA.1
  obtain ⟨g, e1, e2⟩ := ats_m (hA.2.2.2.2.1 i hi) T (fun d t => cnt (tkN (A 0) i) d t (A 2 0 - 1)) (fun d t ht => by
    have := cnt_take (A 0) d t i (A 2 0 - 1) (by omega)
    rw [this, show A 2 0 - 1 + 1 = A 2 0 by omega]
    exact h.2 d t ht)
  refine ⟨sr (sf (sr (sr T 3 g) 0 (va_cpy (T 0) (T 0) (i + 1) i (A 2 0 - i - 1))) 2 0 (nI (A 2 0 - 1))) 3 g, ?_, ⟨fun j hj => ?_, fun j hj => ?_, fun j hj => ?_⟩, fun d t ht => ?_⟩
  · rw [fX5_removePoint, placeOf_v h.1 hA hi, Option.bind_some, e1, Option.bind_some, fX3_removePlace, isPoint3_v (T := sr T 3 g) (show RC T A from h.1) hA hi, Option.bind_some, if_neg (show ¬ (1:Int32) = 0 by decide), show sr T 3 g 2 0 = nI (A 2 0) from h.1.1 0 (by decide), show sr T 3 g 0 = T 0 from rfl, show nI i + (1:Int32) = nI (i + 1) from nI_1 i, nI_sub (show i ≤ A 2 0 by omega), show nI (A 2 0 - i) - (1:Int32) = nI (A 2 0 - i - 1) from nI_sub (b := 1) (by omega), cp_v _ _ (by omega) (by omega) (by decide) (by decide), Option.bind_some, Option.bind_some, show sr (sr T 3 g) 0 (va_cpy (T 0) (T 0) (i + 1) i (A 2 0 - i - 1)) 2 0 = nI (A 2 0) from h.1.1 0 (by decide), show nI (A 2 0) - (1:Int32) = nI (A 2 0 - 1) from nI_sub (b := 1) (by omega), Option.bind_some, Option.bind_some, sr_at, Option.bind_some]
  · rcases (show j = 0 ∨ j = 1 ∨ j = 2 ∨ j = 3 by omega) with rfl | rfl | rfl | rfl
    · rfl
    · exact h.1.1 1 (by decide)
    · exact h.1.1 2 (by decide)
    · exact h.1.1 3 (by decide)
  · have hj : j < A 2 0 - 1 := hj
    show va_cpy (T 0) (T 0) (i + 1) i (A 2 0 - i - 1) j = nI (4096 + tkN (A 0) i j)
    unfold tkN
    by_cases e : j < i
    · rw [pk_cpy_out (Or.inl e), if_pos e]
      exact h.1.2.1 j (by omega)
    · rw [pk_cpy_in (by omega) (by omega), if_neg e, show i + 1 + (j - i) = j + 1 by omega]
      exact h.1.2.1 (j + 1) (by omega)
  · exact h.1.2.2 j hj
  · rw [sr_at]
    exact e2 d t ht
theorem cnt_up (p : Nat → Nat) (d t i q : Nat) : ∀ n, i < n → cnt (upN p i q) d t n + hit (p i) d t = cnt p d t n + hit q d t := by
  intro n
  induction n with
  | zero => intro h; omega
  | succ n ih =>
    intro h
    by_cases e : i = n
    · subst e
      rw [cnt_s, cnt_s p, upN_s, cnt_congr (p := upN p i q) (q := p) i (fun j hj => upN_n (by omega))]
      omega
    · have := ih (by omega)
      rw [cnt_s, cnt_s p, upN_n (show ¬ n = i by omega)]
      omega
theorem cnt_hit (p : Nat → Nat) (d t i : Nat) : ∀ n, i < n → hit (p i) d t ≤ cnt p d t n := by
  intro n
  induction n with
  | zero => intro h; omega
  | succ n ih =>
    intro h
    rw [cnt_s]
    by_cases e : i = n
    · subst e
      omega
    · have := ih (by omega)
      omega
theorem shiftPoint_v {T : FS} {A : AS} (h : RT T A) (hA : AV A) {i p : Nat} (hi : i < A 2 0) (hp : p < 4096) : ∃ T1, fX5_shiftPoint T (nI i) (nI (4096 + p)) = some T1 ∧ RT T1 (aMove A i p) := by
  have hn := hA.1
  obtain ⟨g, e1, e2⟩ := ats_m (hA.2.2.2.2.1 i hi) T (fun d t => cnt (A 0) d t (A 2 0) - hit (A 0 i) d t) (fun d t ht => by
    have := cnt_hit (A 0) d t i (A 2 0) hi
    rw [show cnt (A 0) d t (A 2 0) - hit (A 0 i) d t + hit (A 0 i) d t = cnt (A 0) d t (A 2 0) by omega]
    exact h.2 d t ht)
  obtain ⟨g2, e3, e4⟩ := ats_p hp (sr (sr (sr T 3 g) 0 (upd (T 0) i (nI (4096 + p)))) 3 g) (fun d t => cnt (A 0) d t (A 2 0) - hit (A 0 i) d t) (fun d t ht => by rw [sr_at]; exact e2 d t ht)
  refine ⟨sr (sr (sr (sr T 3 g) 0 (upd (T 0) i (nI (4096 + p)))) 3 g) 3 g2, ?_, ⟨fun j hj => ?_, fun j hj => ?_, fun j hj => ?_⟩, fun d t ht => ?_⟩
  · rw [fX5_shiftPoint, placeOf_v h.1 hA hi, Option.bind_some, e1, Option.bind_some, fX3_changePlace, isPoint3_v (T := sr T 3 g) (show RC T A from h.1) hA hi, Option.bind_some, if_neg (show ¬ (1:Int32) = 0 by decide), show sr T 3 g 0 = T 0 from rfl, wr_v _ _ (by omega) (by decide), Option.bind_some, Option.bind_some, Option.bind_some, sr_at, Option.bind_some, e3, Option.bind_some]
  · rcases (show j = 0 ∨ j = 1 ∨ j = 2 ∨ j = 3 by omega) with rfl | rfl | rfl | rfl
    · exact h.1.1 0 (by decide)
    · exact h.1.1 1 (by decide)
    · exact h.1.1 2 (by decide)
    · exact h.1.1 3 (by decide)
  · show upd (T 0) i (nI (4096 + p)) j = nI (4096 + upN (A 0) i p j)
    by_cases e : j = i
    · rw [e, pk_us, upN_s]
    · rw [pk_un e, upN_n e]
      exact h.1.2.1 j hj
  · exact h.1.2.2 j hj
  · rw [sr_at, e4 d t ht]
    have a := cnt_up (A 0) d t i p (A 2 0) hi
    have b := cnt_hit (A 0) d t i (A 2 0) hi
    show _ = nI (cnt (upN (A 0) i p) d t (A 2 0))
    congr 1
    omega
theorem RM_move {r : FA} {A : AS} (h : RM r A) (hn : A 2 0 ≤ 50) {i x y : Nat} (hi : i < A 2 0) (hx : x < 64) (hy : y < 64) : RM (upd (upd r (4 + 2 * i) (nI x)) (5 + 2 * i) (nI y)) (aMove A i (pth 6 x y)) := by
  obtain ⟨h1, h2, h3, h4, h5, o, h6, h7, h8⟩ := h
  have old : ∀ j, ¬ j = 4 + 2 * i → ¬ j = 5 + 2 * i → upd (upd r (4 + 2 * i) (nI x)) (5 + 2 * i) (nI y) j = r j := by
    intro j b c
    rw [pk_un c, pk_un b]
  refine ⟨?_, ?_, ?_, ?_, fun j hj => ?_, o, fun j hj => ?_, h7, h8⟩
  · rw [old 0 (by omega) (by omega)]
    exact h1
  · rw [old 1 (by omega) (by omega)]
    exact h2
  · rw [old 2 (by omega) (by omega)]
    exact h3
  · rw [old 3 (by omega) (by omega)]
    exact h4
  · have hj : j < A 2 0 := hj
    show _ = nI (xof 6 (upN (A 0) i (pth 6 x y) j)) ∧ _ = nI (yof 6 (upN (A 0) i (pth 6 x y) j))
    by_cases e : j = i
    · subst e
      rw [upN_s, xof_pth 6 x y hx, yof_pth 6 x y hy]
      refine ⟨?_, ?_⟩
      · rw [pk_un (by omega), pk_us]
      · rw [pk_us]
    · rw [upN_n e, old _ (by omega) (by omega), old _ (by omega) (by omega)]
      exact h5 j hj
  · have hj : j < A 2 1 := hj
    rw [old _ (by omega) (by omega)]
    exact h6 j hj
