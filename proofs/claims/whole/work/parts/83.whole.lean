set_option maxRecDepth 100000 in
set_option maxHeartbeats 4000000 in
/-- the law's loop, from its head -/
theorem law_loop {p : Program} {e : Env} {s : State} {m : MethodId} {below : List Frame} {meth : Method} {c : Code} {l : Launch} {b L : Nat} {xs : Nat → Int32} {I : (Nat → FS) → FS → Prop} (hc : Coup I) (C0 : CL p s m meth c b L xs) {D : va_G} {E : Nat → ClassId} (hK : va_K D vwCl (tyE E) s) {t : Nat → Nat} (hZ : zSA t s) : ∀ (n i : Nat) (a c1 : Nat → Nat) (Q : Nat → FS) (M : FS) (H : Heap) (locs : List Loc) (ls : Array Slot) (cells slots : Nat), L < i + 6 * n → i ≤ 3078 → cells ≤ 100 + i → slots ≤ 20000 + 4 * i → I Q M → va_P D vwCl ((wQ E a Q) ++ (wMod E c1 M)) H → va_D (fun q : Nat => s.heap.size ≤ q) ((wQ E a Q) ++ (wMod E c1 M)) → va_S (fun q : Nat => s.heap.size ≤ q) s.heap H locs → lv_has ls 4 [(0, .ref b), (1, .ref (a 0)), (2, .ref (c1 0)), (3, .int (nI i))] → WL p l e s m below meth c b H locs cells slots 18 ls [] := by
  obtain ⟨hx, hb, hr, hml, hown, hts, hX, hbl, hL, hlocks⟩ := id C0
  have hbA : ¬ (fun q : Nat => s.heap.size ≤ q) b := Nat.not_le.mpr hbl
  intro n
  induction n with
  | zero =>
    intro i a c1 Q M H locs ls cells slots hn hi3 hcl hsl hI hP hD hS hl
    refine lv_iload_n hx hb dL_law_18 rfl (lv_at hl 3 rfl) ?_
    refine lv_aload_n hx hb dL_law_19 rfl (lv_at hl 0 rfl) ?_
    refine va_slen hx hb hX hbl hbA hS dL_law_20 ?_
    refine lv_bipush (v := 6) hx hb dL_law_21 (by decide) ?_
    refine lv_isub hx hb dL_law_23 ?_
    refine lv_icmp_gt (tgt := 871) hx hb dL_law_24 (by decide) (fun c9 => ?_) (fun c9 => ?_)
    · refine lv_iconst (v := 1) hx hb dL_law_871 (by decide) ?_
      refine va_forget hS.2.2 ?_
      refine W.widen (k := 600000) (n := 7302250) (by omega) (by omega) ?_
      exact lw_ret hx hb hr hlocks dL_law_872
    · exfalso
      rw [Int32.lt_iff_toInt_lt, show Int32.ofNat L - 6 = nI L - nI 6 from rfl, pk_sub_toInt (by omega) (by omega), nI_toInt (by omega)] at c9
      omega
  | succ n ih =>
    intro i a c1 Q M H locs ls cells slots hn hi3 hcl hsl hI hP hD hS hl
    refine lv_iload_n hx hb dL_law_18 rfl (lv_at hl 3 rfl) ?_
    refine lv_aload_n hx hb dL_law_19 rfl (lv_at hl 0 rfl) ?_
    refine va_slen hx hb hX hbl hbA hS dL_law_20 ?_
    refine lv_bipush (v := 6) hx hb dL_law_21 (by decide) ?_
    refine lv_isub hx hb dL_law_23 ?_
    refine lv_icmp_gt (tgt := 871) hx hb dL_law_24 (by decide) (fun c9 => ?_) (fun c9 => ?_)
    · refine lv_iconst (v := 1) hx hb dL_law_871 (by decide) ?_
      refine va_forget hS.2.2 ?_
      refine W.widen (k := 600000) (n := 7302250) (by omega) (by omega) ?_
      exact lw_ret hx hb hr hlocks dL_law_872
    · have hi : i + 6 ≤ L := by
        rw [Int32.lt_iff_toInt_lt, show Int32.ofNat L - 6 = nI L - nI 6 from rfl, pk_sub_toInt (by omega) (by omega), nI_toInt (by omega)] at c9
        omega
      refine law_step hc C0 hK hZ hi (by omega) (by omega) hI hP hD hS hl (fun a1 c2 Q1 M1 H1 locs1 ls1 k z hk hz hI1 hP1 hD1 hS1 hl1 => ?_)
      refine lv_iinc (v := nI (i + 6)) (lv' := [(3, .int (nI (i + 6))), (0, .ref b), (1, .ref (a1 0)), (2, .ref (c2 0))]) hx hb dL_law_865 hl1 (k := 3) rfl (nI_add i 6) (by decide) rfl (fun ls2 hl2 => ?_)
      refine lv_goto (tgt := 18) hx hb dL_law_868 (by decide) ?_
      exact ih (i + 6) a1 c2 Q1 M1 H1 locs1 ls2 k z (by omega) (by omega) (by omega) (by omega) hI1 hP1 hD1 hS1 (lv_sub hl2 [1, 2, 3, 0] rfl)
theorem NY_start {s : State} {b : Nat} (hts : ∀ w ∈ lw_tbl, w.before #[Value.ref b] s = true) : NY s :=
  ⟨va_Nw.of rfl (hts (.methodLinkNest RX7 144 yX5_leavesIn "QuarterTiles") (by decide +kernel)), va_Nw.of rfl (hts (.methodLinkNest RX7 167 yX5_deepestIn "QuarterTiles") (by decide +kernel)), va_Nw.of rfl (hts (.methodLinkNest RX7 170 yX5_emptyLeavesIn "QuarterTiles") (by decide +kernel)), va_Nw.of rfl (hts (.methodLinkNest RX7 173 yX5_unevennessIn "QuarterTiles") (by decide +kernel)), va_Nw.of rfl (hts (.methodLinkNest RX7 191 yX5_leavesMeeting "QuarterTiles") (by decide +kernel)), va_Nw.of rfl (hts (.methodLinkNest RX7 195 yX5_tilesMeeting "QuarterTiles") (by decide +kernel))⟩
set_option maxRecDepth 100000 in
set_option maxHeartbeats 4000000 in
/-- the rows of the class's own statics, as the Statement gives them -/
theorem zSA_start {s : State} {b : Nat} (hts : ∀ w ∈ lw_tbl, w.before #[Value.ref b] s = true) (hgv : (Jvm.Cond.and given_1 narrow_1).before #[Value.ref b] s = true) : ∃ t : Nat → Nat, zSA t s := by
  have hs := flat_of_before _ hgv
  have hAn : ∀ a : Nat, a < s.heap.size → ¬ (fun q : Nat => s.heap.size ≤ q) a := fun a h => Nat.not_le.mpr h
  obtain ⟨t0, e0, hT0⟩ := va_Tof (tm := (.static "QuarterTiles$Numbers" "STEP_X" "[I")) (ty := .int) (N := 8) (f := fun j => .int (stX j)) (A := fun q : Nat => s.heap.size ≤ q) (by decide) (hs (.arrayOf (.static "QuarterTiles$Numbers" "STEP_X" "[I") .int) (by decide +kernel)) (va_eqt (hs (.eq (.length (.static "QuarterTiles$Numbers" "STEP_X" "[I")) (.int 8)) (by decide +kernel))) (fun j hj => by
      rcases (show j = 0 ∨ j = 1 ∨ j = 2 ∨ j = 3 ∨ j = 4 ∨ j = 5 ∨ j = 6 ∨ j = 7 by omega) with rfl | rfl | rfl | rfl | rfl | rfl | rfl | rfl
      · exact va_eqt (hs (.eq (.elem (.static "QuarterTiles$Numbers" "STEP_X" "[I") (.int 0)) (.int (1))) (by decide +kernel))
      · exact va_eqt (hs (.eq (.elem (.static "QuarterTiles$Numbers" "STEP_X" "[I") (.int 1)) (.int (1))) (by decide +kernel))
      · exact va_eqt (hs (.eq (.elem (.static "QuarterTiles$Numbers" "STEP_X" "[I") (.int 2)) (.int (0))) (by decide +kernel))
      · exact va_eqt (hs (.eq (.elem (.static "QuarterTiles$Numbers" "STEP_X" "[I") (.int 3)) (.int (-1))) (by decide +kernel))
      · exact va_eqt (hs (.eq (.elem (.static "QuarterTiles$Numbers" "STEP_X" "[I") (.int 4)) (.int (-1))) (by decide +kernel))
      · exact va_eqt (hs (.eq (.elem (.static "QuarterTiles$Numbers" "STEP_X" "[I") (.int 5)) (.int (-1))) (by decide +kernel))
      · exact va_eqt (hs (.eq (.elem (.static "QuarterTiles$Numbers" "STEP_X" "[I") (.int 6)) (.int (0))) (by decide +kernel))
      · exact va_eqt (hs (.eq (.elem (.static "QuarterTiles$Numbers" "STEP_X" "[I") (.int 7)) (.int (1))) (by decide +kernel))) hAn
  have hZ0 := va_Zof (A := fun q : Nat => s.heap.size ≤ q) (hts (.laysStatic "QuarterTiles$Numbers" "STEP_X" "[I") (by decide +kernel)) (hts (.initialized "QuarterTiles$Numbers") (by decide +kernel)) e0 hAn
  obtain ⟨t1, e1, hT1⟩ := va_Tof (tm := (.static "QuarterTiles$Numbers" "STEP_Y" "[I")) (ty := .int) (N := 8) (f := fun j => .int (stY j)) (A := fun q : Nat => s.heap.size ≤ q) (by decide) (hs (.arrayOf (.static "QuarterTiles$Numbers" "STEP_Y" "[I") .int) (by decide +kernel)) (va_eqt (hs (.eq (.length (.static "QuarterTiles$Numbers" "STEP_Y" "[I")) (.int 8)) (by decide +kernel))) (fun j hj => by
      rcases (show j = 0 ∨ j = 1 ∨ j = 2 ∨ j = 3 ∨ j = 4 ∨ j = 5 ∨ j = 6 ∨ j = 7 by omega) with rfl | rfl | rfl | rfl | rfl | rfl | rfl | rfl
      · exact va_eqt (hs (.eq (.elem (.static "QuarterTiles$Numbers" "STEP_Y" "[I") (.int 0)) (.int (0))) (by decide +kernel))
      · exact va_eqt (hs (.eq (.elem (.static "QuarterTiles$Numbers" "STEP_Y" "[I") (.int 1)) (.int (1))) (by decide +kernel))
      · exact va_eqt (hs (.eq (.elem (.static "QuarterTiles$Numbers" "STEP_Y" "[I") (.int 2)) (.int (1))) (by decide +kernel))
      · exact va_eqt (hs (.eq (.elem (.static "QuarterTiles$Numbers" "STEP_Y" "[I") (.int 3)) (.int (1))) (by decide +kernel))
      · exact va_eqt (hs (.eq (.elem (.static "QuarterTiles$Numbers" "STEP_Y" "[I") (.int 4)) (.int (0))) (by decide +kernel))
      · exact va_eqt (hs (.eq (.elem (.static "QuarterTiles$Numbers" "STEP_Y" "[I") (.int 5)) (.int (-1))) (by decide +kernel))
      · exact va_eqt (hs (.eq (.elem (.static "QuarterTiles$Numbers" "STEP_Y" "[I") (.int 6)) (.int (-1))) (by decide +kernel))
      · exact va_eqt (hs (.eq (.elem (.static "QuarterTiles$Numbers" "STEP_Y" "[I") (.int 7)) (.int (-1))) (by decide +kernel))) hAn
  have hZ1 := va_Zof (A := fun q : Nat => s.heap.size ≤ q) (hts (.laysStatic "QuarterTiles$Numbers" "STEP_Y" "[I") (by decide +kernel)) (hts (.initialized "QuarterTiles$Numbers") (by decide +kernel)) e1 hAn
  obtain ⟨t2, e2, hT2⟩ := va_Tof (tm := (.static "QuarterTiles$Tree" "ONE_QUARTER_SEEN" "[I")) (ty := .int) (N := 4) (f := fun j => .int (stO j)) (A := fun q : Nat => s.heap.size ≤ q) (by decide) (hs (.arrayOf (.static "QuarterTiles$Tree" "ONE_QUARTER_SEEN" "[I") .int) (by decide +kernel)) (va_eqt (hs (.eq (.length (.static "QuarterTiles$Tree" "ONE_QUARTER_SEEN" "[I")) (.int 4)) (by decide +kernel))) (fun j hj => by
      rcases (show j = 0 ∨ j = 1 ∨ j = 2 ∨ j = 3 by omega) with rfl | rfl | rfl | rfl
      · exact va_eqt (hs (.eq (.elem (.static "QuarterTiles$Tree" "ONE_QUARTER_SEEN" "[I") (.int 0)) (.int (0))) (by decide +kernel))
      · exact va_eqt (hs (.eq (.elem (.static "QuarterTiles$Tree" "ONE_QUARTER_SEEN" "[I") (.int 1)) (.int (0))) (by decide +kernel))
      · exact va_eqt (hs (.eq (.elem (.static "QuarterTiles$Tree" "ONE_QUARTER_SEEN" "[I") (.int 2)) (.int (1))) (by decide +kernel))
      · exact va_eqt (hs (.eq (.elem (.static "QuarterTiles$Tree" "ONE_QUARTER_SEEN" "[I") (.int 3)) (.int (2))) (by decide +kernel))) hAn
  have hZ2 := va_Zof (A := fun q : Nat => s.heap.size ≤ q) (hts (.laysStatic "QuarterTiles$Tree" "ONE_QUARTER_SEEN" "[I") (by decide +kernel)) (hts (.initialized "QuarterTiles$Tree") (by decide +kernel)) e2 hAn
  obtain ⟨t3, e3, hT3⟩ := va_Tof (tm := (.static "QuarterTiles$Tree" "OTHER_QUARTER_SEEN" "[I")) (ty := .int) (N := 4) (f := fun j => .int (stU j)) (A := fun q : Nat => s.heap.size ≤ q) (by decide) (hs (.arrayOf (.static "QuarterTiles$Tree" "OTHER_QUARTER_SEEN" "[I") .int) (by decide +kernel)) (va_eqt (hs (.eq (.length (.static "QuarterTiles$Tree" "OTHER_QUARTER_SEEN" "[I")) (.int 4)) (by decide +kernel))) (fun j hj => by
      rcases (show j = 0 ∨ j = 1 ∨ j = 2 ∨ j = 3 by omega) with rfl | rfl | rfl | rfl
      · exact va_eqt (hs (.eq (.elem (.static "QuarterTiles$Tree" "OTHER_QUARTER_SEEN" "[I") (.int 0)) (.int (2))) (by decide +kernel))
      · exact va_eqt (hs (.eq (.elem (.static "QuarterTiles$Tree" "OTHER_QUARTER_SEEN" "[I") (.int 1)) (.int (1))) (by decide +kernel))
      · exact va_eqt (hs (.eq (.elem (.static "QuarterTiles$Tree" "OTHER_QUARTER_SEEN" "[I") (.int 2)) (.int (3))) (by decide +kernel))
      · exact va_eqt (hs (.eq (.elem (.static "QuarterTiles$Tree" "OTHER_QUARTER_SEEN" "[I") (.int 3)) (.int (3))) (by decide +kernel))) hAn
  have hZ3 := va_Zof (A := fun q : Nat => s.heap.size ≤ q) (hts (.laysStatic "QuarterTiles$Tree" "OTHER_QUARTER_SEEN" "[I") (by decide +kernel)) (hts (.initialized "QuarterTiles$Tree") (by decide +kernel)) e3 hAn
  exact ⟨fun k => match k with | 0 => t0 | 1 => t1 | 2 => t2 | _ => t3, hZ0, hT0, hZ1, hT1, hZ2, hT2, hZ3, hT3, NY_start hts⟩
set_option maxRecDepth 100000 in
set_option maxHeartbeats 4000000 in
/-- the classes and array classes, known from the tables -/
theorem known_start {s : State} {b : Nat} (hts : ∀ w ∈ lw_tbl, w.before #[Value.ref b] s = true) : ∃ (D : va_G) (E : Nat → ClassId), va_K D vwCl (tyE E) s := by
  obtain ⟨c0, i0, hk0⟩ := u_known (C := RX0) (T := TX0) (N := 2) (n := 2) hts inX0 (hts (.instantiable RX0 2) (by decide +kernel))
  obtain ⟨c1, i1, hk1⟩ := u_known (C := RX2) (T := TX2) (N := 3) (n := 3) hts inX2 (hts (.instantiable RX2 3) (by decide +kernel))
  obtain ⟨c2, i2, hk2⟩ := u_known (C := RX3) (T := TX3) (N := 6) (n := 6) hts inX3 (hts (.instantiable RX3 6) (by decide +kernel))
  obtain ⟨c3, i3, hk3⟩ := u_known (C := RX4) (T := TX4) (N := 2) (n := 2) hts inX4 (hts (.instantiable RX4 2) (by decide +kernel))
  obtain ⟨c4, i4, hk4⟩ := u_known (C := RX5) (T := TX5) (N := 2) (n := 2) hts inX5 (hts (.instantiable RX5 2) (by decide +kernel))
  obtain ⟨c5, i5, hk5⟩ := u_known (C := RX6) (T := TX6) (N := 4) (n := 4) hts inX6 (hts (.instantiable RX6 4) (by decide +kernel))
  obtain ⟨c6, i6, hk6⟩ := u_known (C := RX7) (T := TX7) (N := 4) (n := 4) hts inX7 (hts (.instantiable RX7 4) (by decide +kernel))
  obtain ⟨c7, i7, hk7⟩ := u_known (C := RX8) (T := TX8) (N := 14) (n := 14) hts inX8 (hts (.instantiable RX8 14) (by decide +kernel))
  obtain ⟨eI, kI, pI, f1I, f2I, f3I⟩ := Cond.arrayClass_spec (show (Cond.arrayClass .int).holds #[Value.ref b] _ _ s _ = true from hts (.arrayClass .int) (by decide +kernel))
  obtain ⟨eZ, kZ, pZ, f1Z, f2Z, f3Z⟩ := Cond.arrayClass_spec (show (Cond.arrayClass .boolean).holds #[Value.ref b] _ _ s _ = true from hts (.arrayClass .boolean) (by decide +kernel))
  obtain ⟨comp, eP, kP, g1, g2, g3, g4, g5⟩ := Cond.arrayOver_spec (hts (.arrayOver (.object "QuarterTiles$Plan")) (by decide +kernel))
  refine ⟨(fun k => match k with | 0 => c0 | 1 => c1 | 2 => c2 | 3 => c3 | 4 => c4 | 5 => c5 | 6 => c6 | _ => c7, fun k => match k with | 0 => i0 | 1 => i1 | 2 => i2 | 3 => i3 | 4 => i4 | 5 => i5 | 6 => i6 | _ => i7), fun k => match k with | 0 => eI | 1 => eZ | _ => eP, ?_, ?_⟩
  · intro k q hq
    match k, hq with
    | 0, hq => cases hq; exact hk0
    | 1, hq => cases hq; exact hk1
    | 2, hq => cases hq; exact hk2
    | 3, hq => cases hq; exact hk3
    | 4, hq => cases hq; exact hk4
    | 5, hq => cases hq; exact hk5
    | 6, hq => cases hq; exact hk6
    | 7, hq => cases hq; exact hk7
    | k + 8, hq => simp [vwCl] at hq
  · intro k q hq
    match k, hq with
    | 0, hq => cases hq; exact ⟨fun N z => ⟨(fun k h => by cases h), kI, f2I, pI, f3I⟩, f1I⟩
    | 1, hq => cases hq; exact ⟨fun N z => ⟨(fun k h => by cases h), kZ, f2Z, pZ, f3Z⟩, f1Z⟩
    | 2, hq => cases hq; exact ⟨fun N z => ⟨(fun k h => by cases h), kP, g3, comp, g4⟩, kP, comp, g3, g4, g1, g5⟩
    | k + 3, hq => simp [tyE] at hq
theorem lkL_n0 : (.classLink RL 7 RX7 : Cond) ∈ wsL_law := by decide +kernel
theorem lkL_n1 : (.instantiable RX7 4 : Cond) ∈ wsL_law := by decide +kernel
theorem lkL_n2 : (.initialized RX7 : Cond) ∈ wsL_law := by decide +kernel
theorem lkL_n3 : (.methodLink RL 9 yX7_init : Cond) ∈ wsL_law := by decide +kernel
theorem lkL_n4 : (.instanceMethod yX7_init : Cond) ∈ wsL_law := by decide +kernel
theorem lkL_m0 : (.classLink RL 10 RX8 : Cond) ∈ wsL_law := by decide +kernel
theorem lkL_m1 : (.instantiable RX8 14 : Cond) ∈ wsL_law := by decide +kernel
theorem lkL_m2 : (.initialized RX8 : Cond) ∈ wsL_law := by decide +kernel
theorem lkL_m3 : (.methodLink RL 12 yX8_init : Cond) ∈ wsL_law := by decide +kernel
theorem lkL_m4 : (.instanceMethod yX8_init : Cond) ∈ wsL_law := by decide +kernel
theorem hiL_X7 : ∀ w ∈ wsX70, w ∈ wsL_law := by decide +kernel
theorem hiL_X8 : ∀ w ∈ wsX80, w ∈ wsL_law := by decide +kernel
theorem NX_start {s : State} {b : Nat} (hts : ∀ w ∈ lw_tbl, w.before #[Value.ref b] s = true) : NX s :=
  ⟨va_Nw.of rfl (hts (.methodLinkNest RX0 17 yX3_init "QuarterTiles") (by decide +kernel)), va_Nw.of rfl (hts (.methodLinkNest RX4 21 yX3_init "QuarterTiles") (by decide +kernel)), va_Nw.of rfl (hts (.methodLinkNest RX5 11 yX3_init "QuarterTiles") (by decide +kernel)), va_Nw.of rfl (hts (.methodLinkNest RX7 9 yX5_init "QuarterTiles") (by decide +kernel)), va_Nw.of rfl (hts (.methodLinkNest RX7 32 yX2_init "QuarterTiles") (by decide +kernel)), va_AO.of (hts (.arrayOver (.object "QuarterTiles$Plan")) (by decide +kernel))⟩
set_option maxRecDepth 100000 in
set_option maxHeartbeats 4000000 in
/-- the law from its entry, over any relation between the two states that every call keeps -/
theorem law_start {I : (Nat → FS) → FS → Prop} (hc : Coup I) (hI0 : I Q00 M00) {p : Program} {e : Env} {s : State} {m : MethodId} {below : List Frame} {meth : Method} {c : Code} (l : Launch) {b L : Nat} {xs : Nat → Int32} (hL : L ≤ 3072) (C0 : lw_At p s m meth c b L xs) : W p l e room_1 s m #[Value.ref b] below meth c s.heap [] 0 0 (lw_Z below #[Value.ref b] s) (entryFrame m ([Value.ref b] : List Value).toArray 4) := by
  obtain ⟨hx, hb, hr, hml, hown, hts0, hX, hbl, hlocks, hgv⟩ := id C0
  have hts : ∀ w ∈ wsL_law, w.before #[Value.ref b] s = true := fun w h => hts0 w (wsL_law_in w h)
  have hN : NX s := NX_start hts0
  obtain ⟨t, hZ⟩ := zSA_start hts0 hgv
  obtain ⟨D, E, hK⟩ := known_start hts0
  have CC : CL p s m meth c b L xs := ⟨hx, hb, hr, hml, hown, hts, hX, hbl, hL, hlocks⟩
  have hA : ∀ q : Nat, s.heap.size ≤ q → (fun q : Nat => s.heap.size ≤ q) q := fun _ h => h
  have hS : va_S (fun q : Nat => s.heap.size ≤ q) s.heap s.heap [] := va_S.rf
  have hP : va_P D vwCl [] s.heap := fun k q h => by simp at h
  have hD : va_D (fun q : Nat => s.heap.size ≤ q) [] := ⟨fun i j p q h => by simp at h, fun k q h => by simp at h⟩
  have hl := lv_entry ([.ref b]) (n := 4) (Nat.le_of_ble_eq_true rfl)
  rw [lg_entry_eq]
  generalize (lg_sl ([.ref b]) ++ List.replicate (4 - (lg_sl ([.ref b])).length) Slot.unset).toArray = ls at hl ⊢
  have hl : lv_has ls 4 [(0, .ref b)] := hl
  refine va_new (D := D) (ci := 6) (fs := [.null, .null, .null, .null]) (C := RX7) (T := TX7) (N := 4) hx hb hts hiL_X7 tyX7 tyX7_ok hown (hts _ lkL_n0) (hts _ lkL_n1) (hts _ lkL_n2) hK hP hD hS hA rfl (fun j hj => by rcases (show j = 0 ∨ j = 1 ∨ j = 2 ∨ j = 3 by omega) with rfl | rfl | rfl | rfl <;> rfl) (Nat.le_of_ble_eq_true rfl) (Nat.le_of_ble_eq_true rfl) dL_law_0 (fun q H hP hD hS => ?_)
  refine lv_dup hx hb dL_law_3 rfl ?_
  refine m_IC (As := []) (rest := [.ref q]) (Wn := (fun u1 : Nat → Nat => (wQ E (aZ0 q u1) Q00))) (Wr := []) hx hb hml hown hts hl.1 (kX7_init l D E q H.size) (cwI 0 hts gL_law_X7_init rfl rfl rfl (hts _ lkL_n2) (hts _ lkL_n3) (hts _ lkL_n4) rfl (by decide +kernel) ⟨Nat.le_of_ble_eq_true rfl, Nat.le_of_ble_eq_true rfl⟩) hP hD hS hA hK hN [0] [] [0, 1, 2, 3, 4, 5, 6, 7, 8, 9, 10, 11, 12, 13, 14, 15, 16, 17, 18, 19, 20, 21, 22, 23, 24, 25, 26, 27, 28, 29, 30, 31, 32, 33, 34, 35, 36, 37] (by decide) rfl rfl (by decide) (by decide) (by decide) (fun _ => rfl) rfl rfl (Nat.le_of_ble_eq_true rfl) dL_law_4 ⟨Nat.le_of_ble_eq_true rfl, Nat.le_of_ble_eq_true rfl⟩ (fun u1 H locs hP hD hS => ?_)
  refine lv_astore_n (lv' := [(1, .ref q), (0, .ref b)]) hx hb dL_law_7 rfl hl (by decide) rfl (fun ls hl => ?_)
  refine va_new (D := D) (ci := 7) (fs := [.null, .null, .null, .int 0, .null, .null, .null, .int 0, .int 0, .int 0, .null, .int 0, .null, .int 0]) (C := RX8) (T := TX8) (N := 14) hx hb hts hiL_X8 tyX8 tyX8_ok hown (hts _ lkL_m0) (hts _ lkL_m1) (hts _ lkL_m2) hK hP hD hS hA rfl (fun j hj => by rcases (show j = 0 ∨ j = 1 ∨ j = 2 ∨ j = 3 ∨ j = 4 ∨ j = 5 ∨ j = 6 ∨ j = 7 ∨ j = 8 ∨ j = 9 ∨ j = 10 ∨ j = 11 ∨ j = 12 ∨ j = 13 by omega) with rfl | rfl | rfl | rfl | rfl | rfl | rfl | rfl | rfl | rfl | rfl | rfl | rfl | rfl <;> rfl) (Nat.le_of_ble_eq_true rfl) (Nat.le_of_ble_eq_true rfl) dL_law_8 (fun q2 H hP hD hS => ?_)
  refine lv_dup hx hb dL_law_11 rfl ?_
  refine m_IC (As := []) (rest := [.ref q2]) (Wn := (fun u2 : Nat → Nat => (wQ E (aZ0 q u1) Q00) ++ (wMod E (aZ0 q2 u2) M00))) (Wr := [((aZ0 q u1 0), .inr (6, [.ref (aZ0 q u1 1), .ref (aZ0 q u1 6), .ref (aZ0 q u1 26), .ref (aZ0 q u1 35)])), ((aZ0 q u1 1), .inr (4, [.ref (aZ0 q u1 3), .ref (aZ0 q u1 2)])), aI E (aZ0 q u1 2) 8192 ((Q00 0) 3), ((aZ0 q u1 3), .inr (2, [.ref (aZ0 q u1 4), .ref (aZ0 q u1 5), .int ((Q00 0) 2 0), .int ((Q00 0) 2 1), .int ((Q00 0) 2 2), .int ((Q00 0) 2 3)])), aI E (aZ0 q u1 4) 50 ((Q00 0) 0), aI E (aZ0 q u1 5) 12 ((Q00 0) 1), ((aZ0 q u1 6), .inr (0, [.ref (aZ0 q u1 7), .int (Q00 2 0 0)])), aP E (aZ0 q u1 7) 6 (fH (aZ0 q u1 8) (aZ0 q u1 11) (aZ0 q u1 14) (aZ0 q u1 17) (aZ0 q u1 20) (aZ0 q u1 23)), ((aZ0 q u1 8), .inr (2, [.ref (aZ0 q u1 9), .ref (aZ0 q u1 10), .int ((Q00 3) 2 0), .int ((Q00 3) 2 1), .int ((Q00 3) 2 2), .int ((Q00 3) 2 3)])), aI E (aZ0 q u1 9) 50 ((Q00 3) 0), aI E (aZ0 q u1 10) 12 ((Q00 3) 1), ((aZ0 q u1 11), .inr (2, [.ref (aZ0 q u1 12), .ref (aZ0 q u1 13), .int ((Q00 4) 2 0), .int ((Q00 4) 2 1), .int ((Q00 4) 2 2), .int ((Q00 4) 2 3)])), aI E (aZ0 q u1 12) 50 ((Q00 4) 0), aI E (aZ0 q u1 13) 12 ((Q00 4) 1), ((aZ0 q u1 14), .inr (2, [.ref (aZ0 q u1 15), .ref (aZ0 q u1 16), .int ((Q00 5) 2 0), .int ((Q00 5) 2 1), .int ((Q00 5) 2 2), .int ((Q00 5) 2 3)])), aI E (aZ0 q u1 15) 50 ((Q00 5) 0), aI E (aZ0 q u1 16) 12 ((Q00 5) 1), ((aZ0 q u1 17), .inr (2, [.ref (aZ0 q u1 18), .ref (aZ0 q u1 19), .int ((Q00 6) 2 0), .int ((Q00 6) 2 1), .int ((Q00 6) 2 2), .int ((Q00 6) 2 3)])), aI E (aZ0 q u1 18) 50 ((Q00 6) 0), aI E (aZ0 q u1 19) 12 ((Q00 6) 1), ((aZ0 q u1 20), .inr (2, [.ref (aZ0 q u1 21), .ref (aZ0 q u1 22), .int ((Q00 7) 2 0), .int ((Q00 7) 2 1), .int ((Q00 7) 2 2), .int ((Q00 7) 2 3)])), aI E (aZ0 q u1 21) 50 ((Q00 7) 0), aI E (aZ0 q u1 22) 12 ((Q00 7) 1), ((aZ0 q u1 23), .inr (2, [.ref (aZ0 q u1 24), .ref (aZ0 q u1 25), .int ((Q00 8) 2 0), .int ((Q00 8) 2 1), .int ((Q00 8) 2 2), .int ((Q00 8) 2 3)])), aI E (aZ0 q u1 24) 50 ((Q00 8) 0), aI E (aZ0 q u1 25) 12 ((Q00 8) 1), ((aZ0 q u1 26), .inr (3, [.ref (aZ0 q u1 27), .ref (aZ0 q u1 28)])), aP E (aZ0 q u1 27) 2 (fS (aZ0 q u1 29) (aZ0 q u1 32)), aZ E (aZ0 q u1 28) 2 (Q00 2 1), ((aZ0 q u1 29), .inr (2, [.ref (aZ0 q u1 30), .ref (aZ0 q u1 31), .int ((Q00 9) 2 0), .int ((Q00 9) 2 1), .int ((Q00 9) 2 2), .int ((Q00 9) 2 3)])), aI E (aZ0 q u1 30) 50 ((Q00 9) 0), aI E (aZ0 q u1 31) 12 ((Q00 9) 1), ((aZ0 q u1 32), .inr (2, [.ref (aZ0 q u1 33), .ref (aZ0 q u1 34), .int ((Q00 10) 2 0), .int ((Q00 10) 2 1), .int ((Q00 10) 2 2), .int ((Q00 10) 2 3)])), aI E (aZ0 q u1 33) 50 ((Q00 10) 0), aI E (aZ0 q u1 34) 12 ((Q00 10) 1), ((aZ0 q u1 35), .inr (1, [.ref (aZ0 q u1 36), .ref (aZ0 q u1 37), .int ((Q00 1) 2 0)])), aI E (aZ0 q u1 36) 80 ((Q00 1) 0), aI E (aZ0 q u1 37) 20 ((Q00 1) 1)]) hx hb hml hown hts hl.1 (kX8_init l D E q2 H.size) (cwI 0 hts gL_law_X8_init rfl rfl rfl (hts _ lkL_m2) (hts _ lkL_m3) (hts _ lkL_m4) rfl (by decide +kernel) ⟨Nat.le_of_ble_eq_true rfl, Nat.le_of_ble_eq_true rfl⟩) hP hD hS hA hK hN [38] [0, 1, 2, 3, 4, 5, 6, 7, 8, 9, 10, 11, 12, 13, 14, 15, 16, 17, 18, 19, 20, 21, 22, 23, 24, 25, 26, 27, 28, 29, 30, 31, 32, 33, 34, 35, 36, 37] [0, 1, 2, 3, 4, 5, 6, 7, 8, 9, 10, 11, 12, 13, 14, 15, 16, 17, 18, 19, 20, 21, 22, 23, 24, 25, 26, 27, 28, 29, 30, 31, 32, 33, 34, 35, 36, 37, 38, 39, 40, 41, 42, 43, 44, 45, 46] (by decide) rfl rfl (by decide) (by decide) (by decide) (fun _ => rfl) rfl rfl (Nat.le_of_ble_eq_true rfl) dL_law_12 ⟨Nat.le_of_ble_eq_true rfl, Nat.le_of_ble_eq_true rfl⟩ (fun u2 H locs hP hD hS => ?_)
  refine lv_astore_n (lv' := [(2, .ref q2), (1, .ref q), (0, .ref b)]) hx hb dL_law_15 rfl hl (by decide) rfl (fun ls hl => ?_)
  refine lv_iconst (v := 0) hx hb dL_law_16 (by decide) ?_
  refine lv_istore_n (lv' := [(3, .int 0), (2, .ref q2), (1, .ref q), (0, .ref b)]) hx hb dL_law_17 rfl hl (by decide) rfl (fun ls hl => ?_)
  exact law_loop hc CC hK hZ (L + 1) 0 (aZ0 q u1) (aZ0 q2 u2) Q00 M00 H locs ls _ _ (by omega) (by omega) (by decide) (by decide) hI0 hP hD hS (lv_sub hl [3, 2, 1, 0] rfl)
