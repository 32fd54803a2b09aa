/-! what the tables and the Statement give at the law's entry -/
theorem NY_start {s : State} {b : Nat} (hts : ∀ w ∈ lw_tbl, w.before #[Value.ref b] s = true) : NY s :=
  ⟨va_Nw.of rfl (hts (.methodLinkNest RX7 144 yX5_leavesIn "QuarterTiles") (by decide +kernel)), va_Nw.of rfl (hts (.methodLinkNest RX7 167 yX5_deepestIn "QuarterTiles") (by decide +kernel)), va_Nw.of rfl (hts (.methodLinkNest RX7 170 yX5_emptyLeavesIn "QuarterTiles") (by decide +kernel)), va_Nw.of rfl (hts (.methodLinkNest RX7 173 yX5_unevennessIn "QuarterTiles") (by decide +kernel)), va_Nw.of rfl (hts (.methodLinkNest RX7 191 yX5_leavesMeeting "QuarterTiles") (by decide +kernel)), va_Nw.of rfl (hts (.methodLinkNest RX7 195 yX5_tilesMeeting "QuarterTiles") (by decide +kernel))⟩
theorem NX_start {s : State} {b : Nat} (hts : ∀ w ∈ lw_tbl, w.before #[Value.ref b] s = true) : NX s :=
  ⟨va_Nw.of rfl (hts (.methodLinkNest RX0 17 yX3_init "QuarterTiles") (by decide +kernel)), va_Nw.of rfl (hts (.methodLinkNest RX4 21 yX3_init "QuarterTiles") (by decide +kernel)), va_Nw.of rfl (hts (.methodLinkNest RX5 11 yX3_init "QuarterTiles") (by decide +kernel)), va_Nw.of rfl (hts (.methodLinkNest RX7 9 yX5_init "QuarterTiles") (by decide +kernel)), va_Nw.of rfl (hts (.methodLinkNest RX7 32 yX2_init "QuarterTiles") (by decide +kernel)), va_AO.of (hts (.arrayOver (.object "QuarterTiles$Plan")) (by decide +kernel))⟩
set_option maxRecDepth 100000 in
set_option maxHeartbeats 4000000 in
theorem zSX_start {s : State} {b : Nat} (hts : ∀ w ∈ lw_tbl, w.before #[Value.ref b] s = true) (hgv : (Jvm.Cond.and given_1 narrow_1).before #[Value.ref b] s = true) : ∃ t : Nat → Nat, zSX t (fun q : Nat => s.heap.size ≤ q) s := by
  have hs := flat_of_before _ hgv
  have hAn : ∀ a : Nat, a < s.heap.size → ¬ (fun q : Nat => s.heap.size ≤ q) a := fun a h => Nat.not_le.mpr h
  obtain ⟨t0, e0, hT0⟩ := va_Tof (tm := (.static "QuarterTiles$Numbers" "STEP_X" "[I")) (ty := .int) (N := 8) (f := fun j => .int (stX j)) (A := fun q : Nat => s.heap.size ≤ q) (by decide) (hs (.arrayOf (.static "QuarterTiles$Numbers" "STEP_X" "[I") .int) (by decide +kernel)) (va_eqt (hs (.eq (.length (.static "QuarterTiles$Numbers" "STEP_X" "[I")) (.int 8)) (by decide +kernel))) (fun j hj => by
      rcases (show j = 0 ∨ j = 1 ∨ j = 2 ∨ j = 3 ∨ j = 4 ∨ j = 5 ∨ j = 6 ∨ j = 7 by omega) with rfl | rfl | rfl | rfl | rfl | rfl | rfl | rfl
      · exact va_eqt (hs (.eq (.elem (.static "QuarterTiles$Numbers" "STEP_X" "[I") (.int 0)) (.int (1))) (by decide +kernel))
      · exact va_eqt (hs (.eq (.elem (.static "QuarterTiles$Numbers" "STEP_X" "[I") (.int 1)) (.int (1))) (by decide +kernel))
      · exact va_eqt (hs (.eq (.elem (.static "QuarterTiles$Numbers" "STEP_X" "[I") (.int 2)) (.int (0))) (by decide +kernel))
      · exact va_eqt (hs (.eq (.elem (.static "QuarterTiles$Numbers" "STEP_X" "[I") (.int 3)) (.int (-1))) (by decide +kernel))
      · exact va_eqt (hs (.eq (.elem (.static "QuarterTiles$Numbers" "STEP_X" "[I") (.int 4)) (.int (-1))) (by decide +kernel))
      · exact va_eqt (hs (.eq (.elem (.static "QuarterTiles$Numbers" "STEP_X" "[I") (.int 5)) (.int (-1))) (by decide +kernel))
      · exact va_eqt (hs (.eq (.elem (.static "QuarterTiles$Numbers" "STEP_X" "[I") (.int 6)) (.int (0))) (by decide +kernel))
      · exact va_eqt (hs (.eq (.elem (.static "QuarterTiles$Numbers" "STEP_X" "[I") (.int 7)) (.int (1))) (by decide +kernel))) hAn
  have hZ0 := va_Zof (A := fun q : Nat => s.heap.size ≤ q) (hts (.laysStatic "QuarterTiles$Numbers" "STEP_X" "[I") (by decide +kernel)) (hts (.initialized "QuarterTiles$Numbers") (by decide +kernel)) e0 hAn
  obtain ⟨t1, e1, hT1⟩ := va_Tof (tm := (.static "QuarterTiles$Numbers" "STEP_Y" "[I")) (ty := .int) (N := 8) (f := fun j => .int (stY j)) (A := fun q : Nat => s.heap.size ≤ q) (by decide) (hs (.arrayOf (.static "QuarterTiles$Numbers" "STEP_Y" "[I") .int) (by decide +kernel)) (va_eqt (hs (.eq (.length (.static "QuarterTiles$Numbers" "STEP_Y" "[I")) (.int 8)) (by decide +kernel))) (fun j hj => by
      rcases (show j = 0 ∨ j = 1 ∨ j = 2 ∨ j = 3 ∨ j = 4 ∨ j = 5 ∨ j = 6 ∨ j = 7 by omega) with rfl | rfl | rfl | rfl | rfl | rfl | rfl | rfl
      · exact va_eqt (hs (.eq (.elem (.static "QuarterTiles$Numbers" "STEP_Y" "[I") (.int 0)) (.int (0))) (by decide +kernel))
      · exact va_eqt (hs (.eq (.elem (.static "QuarterTiles$Numbers" "STEP_Y" "[I") (.int 1)) (.int (1))) (by decide +kernel))
      · exact va_eqt (hs (.eq (.elem (.static "QuarterTiles$Numbers" "STEP_Y" "[I") (.int 2)) (.int (1))) (by decide +kernel))
      · exact va_eqt (hs (.eq (.elem (.static "QuarterTiles$Numbers" "STEP_Y" "[I") (.int 3)) (.int (1))) (by decide +kernel))
      · exact va_eqt (hs (.eq (.elem (.static "QuarterTiles$Numbers" "STEP_Y" "[I") (.int 4)) (.int (0))) (by decide +kernel))
      · exact va_eqt (hs (.eq (.elem (.static "QuarterTiles$Numbers" "STEP_Y" "[I") (.int 5)) (.int (-1))) (by decide +kernel))
      · exact va_eqt (hs (.eq (.elem (.static "QuarterTiles$Numbers" "STEP_Y" "[I") (.int 6)) (.int (-1))) (by decide +kernel))
      · exact va_eqt (hs (.eq (.elem (.static "QuarterTiles$Numbers" "STEP_Y" "[I") (.int 7)) (.int (-1))) (by decide +kernel))) hAn
  have hZ1 := va_Zof (A := fun q : Nat => s.heap.size ≤ q) (hts (.laysStatic "QuarterTiles$Numbers" "STEP_Y" "[I") (by decide +kernel)) (hts (.initialized "QuarterTiles$Numbers") (by decide +kernel)) e1 hAn
  obtain ⟨t2, e2, hT2⟩ := va_Tof (tm := (.static "QuarterTiles$Tree" "ONE_QUARTER_SEEN" "[I")) (ty := .int) (N := 4) (f := fun j => .int (stO j)) (A := fun q : Nat => s.heap.size ≤ q) (by decide) (hs (.arrayOf (.static "QuarterTiles$Tree" "ONE_QUARTER_SEEN" "[I") .int) (by decide +kernel)) (va_eqt (hs (.eq (.length (.static "QuarterTiles$Tree" "ONE_QUARTER_SEEN" "[I")) (.int 4)) (by decide +kernel))) (fun j hj => by
      rcases (show j = 0 ∨ j = 1 ∨ j = 2 ∨ j = 3 by omega) with rfl | rfl | rfl | rfl
      · exact va_eqt (hs (.eq (.elem (.static "QuarterTiles$Tree" "ONE_QUARTER_SEEN" "[I") (.int 0)) (.int (0))) (by decide +kernel))
      · exact va_eqt (hs (.eq (.elem (.static "QuarterTiles$Tree" "ONE_QUARTER_SEEN" "[I") (.int 1)) (.int (0))) (by decide +kernel))
      · exact va_eqt (hs (.eq (.elem (.static "QuarterTiles$Tree" "ONE_QUARTER_SEEN" "[I") (.int 2)) (.int (1))) (by decide +kernel))
      · exact va_eqt (hs (.eq (.elem (.static "QuarterTiles$Tree" "ONE_QUARTER_SEEN" "[I") (.int 3)) (.int (2))) (by decide +kernel))) hAn
  have hZ2 := va_Zof (A := fun q : Nat => s.heap.size ≤ q) (hts (.laysStatic "QuarterTiles$Tree" "ONE_QUARTER_SEEN" "[I") (by decide +kernel)) (hts (.initialized "QuarterTiles$Tree") (by decide +kernel)) e2 hAn
  obtain ⟨t3, e3, hT3⟩ := va_Tof (tm := (.static "QuarterTiles$Tree" "OTHER_QUARTER_SEEN" "[I")) (ty := .int) (N := 4) (f := fun j => .int (stU j)) (A := fun q : Nat => s.heap.size ≤ q) (by decide) (hs (.arrayOf (.static "QuarterTiles$Tree" "OTHER_QUARTER_SEEN" "[I") .int) (by decide +kernel)) (va_eqt (hs (.eq (.length (.static "QuarterTiles$Tree" "OTHER_QUARTER_SEEN" "[I")) (.int 4)) (by decide +kernel))) (fun j hj => by
      rcases (show j = 0 ∨ j = 1 ∨ j = 2 ∨ j = 3 by omega) with rfl | rfl | rfl | rfl
      · exact va_eqt (hs (.eq (.elem (.static "QuarterTiles$Tree" "OTHER_QUARTER_SEEN" "[I") (.int 0)) (.int (2))) (by decide +kernel))
      · exact va_eqt (hs (.eq (.elem (.static "QuarterTiles$Tree" "OTHER_QUARTER_SEEN" "[I") (.int 1)) (.int (1))) (by decide +kernel))
      · exact va_eqt (hs (.eq (.elem (.static "QuarterTiles$Tree" "OTHER_QUARTER_SEEN" "[I") (.int 2)) (.int (3))) (by decide +kernel))
      · exact va_eqt (hs (.eq (.elem (.static "QuarterTiles$Tree" "OTHER_QUARTER_SEEN" "[I") (.int 3)) (.int (3))) (by decide +kernel))) hAn
  have hZ3 := va_Zof (A := fun q : Nat => s.heap.size ≤ q) (hts (.laysStatic "QuarterTiles$Tree" "OTHER_QUARTER_SEEN" "[I") (by decide +kernel)) (hts (.initialized "QuarterTiles$Tree") (by decide +kernel)) e3 hAn
  exact ⟨fun k => match k with | 0 => t0 | 1 => t1 | 2 => t2 | _ => t3, hZ0, hT0, hZ1, hT1, hZ2, hT2, hZ3, hT3, NY_start hts, NX_start hts⟩
set_option maxRecDepth 100000 in
set_option maxHeartbeats 4000000 in
theorem known_start {s : State} {b : Nat} (hts : ∀ w ∈ lw_tbl, w.before #[Value.ref b] s = true) : ∃ (D : va_G) (E : Nat → ClassId), va_K D vwCl (tyE E) s := by
  obtain ⟨c0, i0, hk0⟩ := u_known (C := RX0) (T := TX0) (N := 2) (n := 2) hts inX0 (hts (.instantiable RX0 2) (by decide +kernel))
  obtain ⟨c1, i1, hk1⟩ := u_known (C := RX2) (T := TX2) (N := 3) (n := 3) hts inX2 (hts (.instantiable RX2 3) (by decide +kernel))
  obtain ⟨c2, i2, hk2⟩ := u_known (C := RX3) (T := TX3) (N := 6) (n := 6) hts inX3 (hts (.instantiable RX3 6) (by decide +kernel))
  obtain ⟨c3, i3, hk3⟩ := u_known (C := RX4) (T := TX4) (N := 2) (n := 2) hts inX4 (hts (.instantiable RX4 2) (by decide +kernel))
  obtain ⟨c4, i4, hk4⟩ := u_known (C := RX5) (T := TX5) (N := 2) (n := 2) hts inX5 (hts (.instantiable RX5 2) (by decide +kernel))
  obtain ⟨c5, i5, hk5⟩ := u_known (C := RX6) (T := TX6) (N := 4) (n := 4) hts inX6 (hts (.instantiable RX6 4) (by decide +kernel))
  obtain ⟨c6, i6, hk6⟩ := u_known (C := RX7) (T := TX7) (N := 4) (n := 4) hts inX7 (hts (.instantiable RX7 4) (by decide +kernel))
  obtain ⟨eI, kI, pI, f1I, f2I, f3I⟩ := Cond.arrayClass_spec (show (Cond.arrayClass .int).holds #[Value.ref b] _ _ s _ = true from hts (.arrayClass .int) (by decide +kernel))
  obtain ⟨eZ, kZ, pZ, f1Z, f2Z, f3Z⟩ := Cond.arrayClass_spec (show (Cond.arrayClass .boolean).holds #[Value.ref b] _ _ s _ = true from hts (.arrayClass .boolean) (by decide +kernel))
  obtain ⟨eL, kL, pL, f1L, f2L, f3L⟩ := Cond.arrayClass_spec (show (Cond.arrayClass .long).holds #[Value.ref b] _ _ s _ = true from hts (.arrayClass .long) (by decide +kernel))
  obtain ⟨comp, eP, kP, g1, g2, g3, g4, g5⟩ := Cond.arrayOver_spec (hts (.arrayOver (.object "QuarterTiles$Plan")) (by decide +kernel))
  refine ⟨(fun k => match k with | 0 => c0 | 1 => c1 | 2 => c2 | 3 => c3 | 4 => c4 | 5 => c5 | _ => c6, fun k => match k with | 0 => i0 | 1 => i1 | 2 => i2 | 3 => i3 | 4 => i4 | 5 => i5 | _ => i6), fun k => match k with | 0 => eI | 1 => eZ | 2 => eP | _ => eL, ?_, ?_⟩
  · intro k q hq
    match k, hq with
    | 0, hq => cases hq; exact hk0
    | 1, hq => cases hq; exact hk1
    | 2, hq => cases hq; exact hk2
    | 3, hq => cases hq; exact hk3
    | 4, hq => cases hq; exact hk4
    | 5, hq => cases hq; exact hk5
    | 6, hq => cases hq; exact hk6
    | k + 7, hq => simp [vwCl] at hq
  · intro k q hq
    match k, hq with
    | 0, hq => cases hq; exact ⟨fun N z => ⟨(fun k h => by cases h), kI, f2I, pI, f3I⟩, f1I⟩
    | 1, hq => cases hq; exact ⟨fun N z => ⟨(fun k h => by cases h), kZ, f2Z, pZ, f3Z⟩, f1Z⟩
    | 2, hq => cases hq; exact ⟨fun N z => ⟨(fun k h => by cases h), kP, g3, comp, g4⟩, kP, comp, g3, g4, g1, g5⟩
    | 3, hq => cases hq; exact ⟨fun N z => ⟨(fun k h => by cases h), kL, f2L, pL, f3L⟩, f1L⟩
    | k + 4, hq => simp [tyE] at hq
section NL
variable {p : Program} {l : Launch} {e : Env} {R : Room} {s : State} {m : MethodId} {args : Array Value} {below : List Frame} {meth : Method} {c : Code} {H : Heap} {locs : List Loc} {cells slots : Nat} {Q : State → Prop}
variable {cc : ByteArray} {pc : Nat} {ls : Array Slot} {rest st : List Value} {D : va_G} {cl : List vw_C} {A : Nat → Prop} {tys : List (ClassId × FieldType)} {W9 : va_W}
theorem m_newl (hexec : p.tables.exec = Jvm.exec) (hb : c.code = cc) (harr : (Cond.arrayClass (newarray.typeOf .long)).before args s = true) (hK : va_K D cl tys s) (t0 : Nat) {cA : ClassId} (ht : tys[t0]? = some (cA, .long)) (hP : va_P D cl W9 H) (hD : va_D A W9) (hS : va_S A s.heap H locs) (hA : ∀ q : Nat, s.heap.size ≤ q → A q)
    {n : Int32} {N9 : Nat} (hn : ¬ n < 0) (hN : n.toNatClampNeg = N9) (hbytes : N9 * componentBytes .long ≤ 536870912) (hcells : cells + 1 ≤ R.cells) (hslots : slots + N9 ≤ R.slots) (hdg : decode cc pc = .ok (.newarray .long, 2))
    (kk : ∀ (q : Nat) (H1 : Heap), va_P D cl (W9 ++ [(q, .inl (cA, N9, .inr (.inl (fun _ => 0))))]) H1 → va_D A (W9 ++ [(q, .inl (cA, N9, .inr (.inl (fun _ => 0))))]) → va_S A s.heap H1 locs → W p l e R s m args below meth c H1 locs (cells + 1) (slots + N9) Q (F0 m (pc + 2) ls (.ref q :: rest))) : W p l e R s m args below meth c H locs cells slots Q (F0 m pc ls (.int n :: rest)) := by
  refine va_newa (atype := .long) (ty := .long) (a0 := (N9, .inr (.inl (fun _ => 0)))) hexec hb harr rfl hK hP hD hS hA (fun cA => rfl) hn hN hbytes hcells hslots hdg (fun q cA1 H1 hK1 hP1 hD1 hS1 => ?_)
  have e : cA1 = cA := by
    have h1 := (hK1.2 tys.length (cA1, .long) (by simp)).2
    have h2 := (hK.2 t0 _ ht).2
    exact Option.some.inj ((show s.vm.findClass _ = some cA1 from h1).symm.trans h2)
  subst e
  exact kk q H1 hP1 hD1 hS1
end NL
theorem lkL_law_n0 : (.classLink RL 12 RX7 : Cond) ∈ wsL_law := by decide +kernel
theorem lkL_law_n1 : (.instantiable RX7 4 : Cond) ∈ wsL_law := by decide +kernel
theorem lkL_law_n2 : (.initialized RX7 : Cond) ∈ wsL_law := by decide +kernel
theorem lkL_law_n3 : (.methodLink RL 96 yX7_init : Cond) ∈ wsL_law := by decide +kernel
theorem lkL_law_n4 : (.instanceMethod yX7_init : Cond) ∈ wsL_law := by decide +kernel
theorem hiL_law_X7 : ∀ w ∈ wsX70, w ∈ wsL_law := by decide +kernel
theorem lkL_law_aL : (.arrayClass .long : Cond) ∈ wsL_law := by decide +kernel
set_option maxRecDepth 100000 in
set_option maxHeartbeats 4000000 in
/-- the law from its entry -/
theorem law_start {p : Program} {e : Env} {s : State} {m : MethodId} {below : List Frame} {meth : Method} {c : Code} (l : Launch) {b L : Nat} {xs : Nat → Int32} (hL : L ≤ 260) (C0 : lw_At p s m meth c b L xs) : W p l e room_1 s m #[Value.ref b] below meth c s.heap [] 0 0 (lw_Z below #[Value.ref b] s) (entryFrame m ([Value.ref b] : List Value).toArray 13) := by
  obtain ⟨hx, hb, hr, hml, hown, hts0, hX, hbl, hlocks, hgv⟩ := id C0
  have hts : ∀ w ∈ wsL_law, w.before #[Value.ref b] s = true := fun w h => hts0 w (wsL_law_in w h)
  obtain ⟨t, hZ⟩ := zSX_start hts0 hgv
  obtain ⟨D, E, hK⟩ := known_start hts0
  obtain ⟨Z1, Z2, A7, i1, i2, i3, i4⟩ := law_init
  have CC : CLq p s m meth c b L xs := ⟨hx, hb, hr, hml, hown, hts, hX, hbl, hL, hlocks⟩
  have hA : ∀ q : Nat, s.heap.size ≤ q → (fun q : Nat => s.heap.size ≤ q) q := fun _ h => h
  have hS : va_S (fun q : Nat => s.heap.size ≤ q) s.heap s.heap [] := va_S.rf
  have hP : va_P D vwCl [] s.heap := va_P_nil
  have hD : va_D (fun q : Nat => s.heap.size ≤ q) [] := va_D_nil
  have hl := lv_entry ([.ref b]) (n := 13) (Nat.le_of_ble_eq_true rfl)
  rw [lg_entry_eq]
  generalize (lg_sl ([.ref b]) ++ List.replicate (13 - (lg_sl ([.ref b])).length) Slot.unset).toArray = ls at hl ⊢
  have hl : lv_has ls 13 [(0, .ref b)] := hl
  refine t_S0 hx hb hml hown hts hl.1 (kL_corner l t D E _) (va_cwS 0 hts gL_law_L_corner rfl rfl rfl (by decide +kernel) ⟨Nat.le_of_ble_eq_true rfl, Nat.le_of_ble_eq_true rfl⟩) hP hD hS hA hK hZ (Nat.le_of_ble_eq_true rfl) dL_law_0 ⟨Nat.le_of_ble_eq_true rfl, Nat.le_of_ble_eq_true rfl⟩ (fun H locs hP hD hS => ?_)
  refine lv_if_eq (tgt := 18) hx hb dL_law_3 (by decide) (fun c9 => absurd c9 (by decide)) (fun _ => ?_)
  refine t_S0 hx hb hml hown hts hl.1 (kL_limits l t D E _) (va_cwS 0 hts gL_law_L_limits rfl rfl rfl (by decide +kernel) ⟨Nat.le_of_ble_eq_true rfl, Nat.le_of_ble_eq_true rfl⟩) hP hD hS hA hK hZ (Nat.le_of_ble_eq_true rfl) dL_law_6 ⟨Nat.le_of_ble_eq_true rfl, Nat.le_of_ble_eq_true rfl⟩ (fun H locs hP hD hS => ?_)
  refine lv_if_eq (tgt := 18) hx hb dL_law_9 (by decide) (fun c9 => absurd c9 (by decide)) (fun _ => ?_)
  refine t_S0 hx hb hml hown hts hl.1 (kL_texts l t D E _) (va_cwS 0 hts gL_law_L_texts rfl rfl rfl (by decide +kernel) ⟨Nat.le_of_ble_eq_true rfl, Nat.le_of_ble_eq_true rfl⟩) hP hD hS hA hK hZ (Nat.le_of_ble_eq_true rfl) dL_law_12 ⟨Nat.le_of_ble_eq_true rfl, Nat.le_of_ble_eq_true rfl⟩ (fun H locs hP hD hS => ?_)
  refine lv_if_ne (tgt := 20) hx hb dL_law_15 (by decide) (fun _ => ?_) (fun c9 => absurd c9 (by decide))
  refine va_new (D := D) (ci := 6) (fs := [.null, .null, .null, .null]) (C := RX7) (T := TX7) (N := 4) hx hb hts hiL_law_X7 tyX7 tyX7_ok hown (hts _ lkL_law_n0) (hts _ lkL_law_n1) (hts _ lkL_law_n2) hK hP hD hS hA rfl (fun j hj => by rcases (show j = 0 ∨ j = 1 ∨ j = 2 ∨ j = 3 by omega) with rfl | rfl | rfl | rfl <;> rfl) (Nat.le_of_ble_eq_true rfl) (Nat.le_of_ble_eq_true rfl) dL_law_20 (fun q H hP hD hS => ?_)
  refine lv_dup hx hb dL_law_23 rfl ?_
  refine m_IC (As := []) (rest := [.ref q]) (Wn := (fun u1 : Nat → Nat => (wQ E (aZ0 q u1) Q00))) (Wr := []) hx hb hml hown hts hl.1 (kX7_init l D E q H.size) (cwI 0 hts gL_law_X7_init rfl rfl rfl (hts _ lkL_law_n2) (hts _ lkL_law_n3) (hts _ lkL_law_n4) rfl (by decide +kernel) ⟨Nat.le_of_ble_eq_true rfl, Nat.le_of_ble_eq_true rfl⟩) hP hD hS hA hK hZ.2.2.2.2.2.2.2.2.2 [0] [] [0, 1, 2, 3, 4, 5, 6, 7, 8, 9, 10, 11, 12, 13, 14, 15, 16, 17, 18, 19, 20, 21, 22, 23, 24, 25, 26, 27, 28, 29, 30, 31, 32, 33, 34, 35, 36, 37] (by decide) rfl rfl (by decide) (by decide) (by decide) (fun _ => rfl) rfl rfl (Nat.le_of_ble_eq_true rfl) dL_law_24 ⟨Nat.le_of_ble_eq_true rfl, Nat.le_of_ble_eq_true rfl⟩ (fun u1 H locs hP hD hS => ?_)
  refine lv_astore_n (lv' := [(1, .ref q), (0, .ref b)]) hx hb dL_law_27 rfl hl (by decide) rfl (fun ls hl => ?_)
  refine lv_bipush (v := 64) hx hb dL_law_28 (by decide) ?_
  refine m_newl hx hb (hts _ lkL_law_aL) hK 3 rfl hP hD hS hA (N9 := 64) (by decide) (by decide) (Nat.le_of_ble_eq_true rfl) (Nat.le_of_ble_eq_true rfl) (Nat.le_of_ble_eq_true rfl) dL_law_30 (fun w H hP hD hS => ?_)
  refine lv_astore_n (lv' := [(2, .ref w), (1, .ref q), (0, .ref b)]) hx hb dL_law_32 rfl hl (by decide) rfl (fun ls hl => ?_)
  refine lv_iconst (v := 0) hx hb dL_law_33 (by decide) ?_
  refine lv_istore_n (lv' := [(3, .int 0), (2, .ref w), (1, .ref q), (0, .ref b)]) hx hb dL_law_34 rfl hl (by decide) rfl (fun ls hl => ?_)
  refine lv_aload_n hx hb dL_law_35 rfl (lv_at hl 2 rfl) ?_
  refine lv_bipush (v := 7) hx hb dL_law_36 (by decide) ?_
  refine lv_bipush (v := 7) hx hb dL_law_38 (by decide) ?_
  refine t1_VI (As := [.int (7:Int32), .int (7:Int32)]) (rest := []) (Z1 := Z1) hx hb hml hown hts hl.1 (kX7_point l D E (aZ0 q u1) H.size i1) (cwV 2 hts gL_law_X7_point rfl rfl rfl (by decide +kernel) ⟨Nat.le_of_ble_eq_true rfl, Nat.le_of_ble_eq_true rfl⟩) hP hD hS hA hK rfl rfl (Nat.le_of_ble_eq_true rfl) dL_law_40 ⟨Nat.le_of_ble_eq_true rfl, Nat.le_of_ble_eq_true rfl⟩ (fun u2 H locs hP hD hS => ?_)
  refine lv_iconst (v := 1) hx hb dL_law_43 (by decide) ?_
  refine lv_icmp_ne (tgt := 56) hx hb dL_law_44 (by decide) (fun c9 => absurd rfl c9) (fun _ => ?_)
  refine lv_aload_n hx hb dL_law_47 rfl (lv_at hl 2 rfl) ?_
  refine lv_iconst (v := 0) hx hb dL_law_48 (by decide) ?_
  refine t1_VI (As := [.int (0:Int32)]) (rest := []) (Z1 := Z2) hx hb hml hown hts hl.1 (kX7_save l D E (aZ0 q u2) H.size i2) (cwV 1 hts gL_law_X7_save rfl rfl rfl (by decide +kernel) ⟨Nat.le_of_ble_eq_true rfl, Nat.le_of_ble_eq_true rfl⟩) hP hD hS hA hK rfl rfl (Nat.le_of_ble_eq_true rfl) dL_law_49 ⟨Nat.le_of_ble_eq_true rfl, Nat.le_of_ble_eq_true rfl⟩ (fun u3 H locs hP hD hS => ?_)
  refine lv_iconst (v := 1) hx hb dL_law_52 (by decide) ?_
  refine lv_icmp_eq (tgt := 58) hx hb dL_law_53 (by decide) (fun _ => ?_) (fun c9 => absurd rfl c9)
  refine lv_aload_n hx hb dL_law_58 rfl (lv_at hl 2 rfl) ?_
  refine q_SL (As := [.ref q]) (rest := []) hx hb hml hown hts hl.1 (kL_seen l t D E q u3 i3) zSt_mv (va_cwS 1 hts gL_law_L_seen rfl rfl rfl (by decide +kernel) ⟨Nat.le_of_ble_eq_true rfl, Nat.le_of_ble_eq_true rfl⟩) (hP.sub (ws' := wQ E (aZ0 q u3) Z2) n38 rfl) hK (zSX_now hZ hS) rfl rfl (Nat.le_of_ble_eq_true rfl) dL_law_59 ⟨Nat.le_of_ble_eq_true rfl, Nat.le_of_ble_eq_true rfl⟩ ?_
  refine lv_lstore (lv' := [(4, .long (sv A7)), (3, .int 0), (2, .ref w), (1, .ref q), (0, .ref b)]) hx hb dL_law_62 hl (by decide) rfl (fun ls hl => ?_)
  refine lv_iconst (v := 0) hx hb dL_law_64 (by decide) ?_
  refine lv_istore (lv' := [(6, .int 0), (4, .long (sv A7)), (3, .int 0), (2, .ref w), (1, .ref q), (0, .ref b)]) hx hb dL_law_65 hl (by decide) rfl (fun ls hl => ?_)
  exact lp_loop CC hK hZ 22 0 0 (fun _ => 0) Z2 rfl (Nat.le_refl 0) (i4 _) u3 H locs ls hP hD hS (lv_sub hl [0, 2, 1, 3, 4, 5] rfl)
theorem whole_start {p : Program} {e : Env} {s : State} {m : MethodId} {below : List Frame} {meth : Method} {c : Code} (l : Launch) (_ : l.flags = flags0) {b L : Nat} {xs : Nat → Int32} (hL : L ≤ 260) (C0 : lw_At p s m meth c b L xs) : W p l e room_1 s m #[Value.ref b] below meth c s.heap [] 0 0 (lw_Z below #[Value.ref b] s) (entryFrame m ([Value.ref b] : List Value).toArray 13) := law_start l hL C0
