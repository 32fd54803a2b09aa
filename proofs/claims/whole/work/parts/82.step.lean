set_option maxRecDepth 100000 in
set_option maxHeartbeats 4000000 in
theorem law_step {p : Program} {e : Env} {s : State} {m : MethodId} {below : List Frame} {meth : Method} {c : Code} {l : Launch} {b L : Nat} {xs : Nat → Int32} {I : (Nat → FS) → FS → Prop} (hc : Coup I) (C0 : CL p s m meth c b L xs) {D : va_G} {E : Nat → ClassId} (hK : va_K D vwCl (tyE E) s) {t : Nat → Nat} (hZ : zSA t s) {i : Nat} (hi : i + 6 ≤ L) {a c1 : Nat → Nat} {Q : Nat → FS} {M : FS} {H : Heap} {locs : List Loc} {ls : Array Slot} {cells slots : Nat} (hcs : cells + 1 ≤ 600000) (hcs2 : slots + 4 ≤ 7302250) (hI : I Q M) (hP : va_P D vwCl ((wQ E a Q) ++ (wMod E c1 M)) H) (hD : va_D (fun q : Nat => s.heap.size ≤ q) ((wQ E a Q) ++ (wMod E c1 M))) (hS : va_S (fun q : Nat => s.heap.size ≤ q) s.heap H locs) (hl : lv_has ls 4 [(0, .ref b), (1, .ref (a 0)), (2, .ref (c1 0)), (3, .int (nI i))])
    (cont : LCont p l e s m below meth c D E I b i a c1 cells slots) : WL p l e s m below meth c b H locs cells slots 27 ls [] := by
  obtain ⟨hx, hb, hr, hml, hown, hts, hX, hbl, hL, hlocks⟩ := id C0
  have hbA : ¬ (fun q : Nat => s.heap.size ≤ q) b := Nat.not_le.mpr hbl
  refine lv_aload_n hx hb dL_law_27 rfl (lv_at hl 0 rfl) ?_
  refine lv_iload_n hx hb dL_law_28 rfl (lv_at hl 3 rfl) ?_
  refine l_ld0 hx hb hX hbl hbA hS hL hi dL_law_29 ?_
  refine lv_bipush (v := 31) hx hb dL_law_30 (by decide) ?_
  refine lv_iand hx hb dL_law_32 ?_
  rcases (Decidable.em ((xs i &&& 31) = 0)) with c_0 | c_0
  · refine lv_tableIn (tgt := 140) hx hb dL_law_33 (by rw [c_0]; decide) (by rw [c_0]; decide) (by rw [c_0]; rfl) (by decide) ?_
    exact law_c0 hc C0 hK hZ hi (by omega) (by omega) hI hP hD hS hl cont
  rcases (Decidable.em ((xs i &&& 31) = 1)) with c_1 | c_1
  · refine lv_tableIn (tgt := 173) hx hb dL_law_33 (by rw [c_1]; decide) (by rw [c_1]; decide) (by rw [c_1]; rfl) (by decide) ?_
    exact law_c1 hc C0 hK hZ hi (by omega) (by omega) hI hP hD hS hl cont
  rcases (Decidable.em ((xs i &&& 31) = 2)) with c_2 | c_2
  · refine lv_tableIn (tgt := 206) hx hb dL_law_33 (by rw [c_2]; decide) (by rw [c_2]; decide) (by rw [c_2]; rfl) (by decide) ?_
    exact law_c2 hc C0 hK hZ hi (by omega) (by omega) hI hP hD hS hl cont
  rcases (Decidable.em ((xs i &&& 31) = 3)) with c_3 | c_3
  · refine lv_tableIn (tgt := 229) hx hb dL_law_33 (by rw [c_3]; decide) (by rw [c_3]; decide) (by rw [c_3]; rfl) (by decide) ?_
    exact law_c3 hc C0 hK hZ hi (by omega) (by omega) hI hP hD hS hl cont
  rcases (Decidable.em ((xs i &&& 31) = 4)) with c_4 | c_4
  · refine lv_tableIn (tgt := 272) hx hb dL_law_33 (by rw [c_4]; decide) (by rw [c_4]; decide) (by rw [c_4]; rfl) (by decide) ?_
    exact law_c4 hc C0 hK hZ hi (by omega) (by omega) hI hP hD hS hl cont
  rcases (Decidable.em ((xs i &&& 31) = 5)) with c_5 | c_5
  · refine lv_tableIn (tgt := 321) hx hb dL_law_33 (by rw [c_5]; decide) (by rw [c_5]; decide) (by rw [c_5]; rfl) (by decide) ?_
    exact law_c5 hc C0 hK hZ hi (by omega) (by omega) hI hP hD hS hl cont
  rcases (Decidable.em ((xs i &&& 31) = 6)) with c_6 | c_6
  · refine lv_tableIn (tgt := 334) hx hb dL_law_33 (by rw [c_6]; decide) (by rw [c_6]; decide) (by rw [c_6]; rfl) (by decide) ?_
    exact law_c6 hc C0 hK hZ hi (by omega) (by omega) hI hP hD hS hl cont
  rcases (Decidable.em ((xs i &&& 31) = 7)) with c_7 | c_7
  · refine lv_tableIn (tgt := 367) hx hb dL_law_33 (by rw [c_7]; decide) (by rw [c_7]; decide) (by rw [c_7]; rfl) (by decide) ?_
    exact law_c7 hc C0 hK hZ hi (by omega) (by omega) hI hP hD hS hl cont
  rcases (Decidable.em ((xs i &&& 31) = 8)) with c_8 | c_8
  · refine lv_tableIn (tgt := 400) hx hb dL_law_33 (by rw [c_8]; decide) (by rw [c_8]; decide) (by rw [c_8]; rfl) (by decide) ?_
    exact law_c8 hc C0 hK hZ hi (by omega) (by omega) hI hP hD hS hl cont
  rcases (Decidable.em ((xs i &&& 31) = 9)) with c_9 | c_9
  · refine lv_tableIn (tgt := 433) hx hb dL_law_33 (by rw [c_9]; decide) (by rw [c_9]; decide) (by rw [c_9]; rfl) (by decide) ?_
    exact law_c9 hc C0 hK hZ hi (by omega) (by omega) hI hP hD hS hl cont
  rcases (Decidable.em ((xs i &&& 31) = 10)) with c_10 | c_10
  · refine lv_tableIn (tgt := 466) hx hb dL_law_33 (by rw [c_10]; decide) (by rw [c_10]; decide) (by rw [c_10]; rfl) (by decide) ?_
    exact law_c10 hc C0 hK hZ hi (by omega) (by omega) hI hP hD hS hl cont
  rcases (Decidable.em ((xs i &&& 31) = 11)) with c_11 | c_11
  · refine lv_tableIn (tgt := 509) hx hb dL_law_33 (by rw [c_11]; decide) (by rw [c_11]; decide) (by rw [c_11]; rfl) (by decide) ?_
    exact law_c11 hc C0 hK hZ hi (by omega) (by omega) hI hP hD hS hl cont
  rcases (Decidable.em ((xs i &&& 31) = 12)) with c_12 | c_12
  · refine lv_tableIn (tgt := 532) hx hb dL_law_33 (by rw [c_12]; decide) (by rw [c_12]; decide) (by rw [c_12]; rfl) (by decide) ?_
    exact law_c12 hc C0 hK hZ hi (by omega) (by omega) hI hP hD hS hl cont
  rcases (Decidable.em ((xs i &&& 31) = 13)) with c_13 | c_13
  · refine lv_tableIn (tgt := 555) hx hb dL_law_33 (by rw [c_13]; decide) (by rw [c_13]; decide) (by rw [c_13]; rfl) (by decide) ?_
    exact law_c13 hc C0 hK hZ hi (by omega) (by omega) hI hP hD hS hl cont
  rcases (Decidable.em ((xs i &&& 31) = 14)) with c_14 | c_14
  · refine lv_tableIn (tgt := 618) hx hb dL_law_33 (by rw [c_14]; decide) (by rw [c_14]; decide) (by rw [c_14]; rfl) (by decide) ?_
    exact law_c14 hc C0 hK hZ hi (by omega) (by omega) hI hP hD hS hl cont
  rcases (Decidable.em ((xs i &&& 31) = 15)) with c_15 | c_15
  · refine lv_tableIn (tgt := 661) hx hb dL_law_33 (by rw [c_15]; decide) (by rw [c_15]; decide) (by rw [c_15]; rfl) (by decide) ?_
    exact law_c15 hc C0 hK hZ hi (by omega) (by omega) hI hP hD hS hl cont
  rcases (Decidable.em ((xs i &&& 31) = 16)) with c_16 | c_16
  · refine lv_tableIn (tgt := 704) hx hb dL_law_33 (by rw [c_16]; decide) (by rw [c_16]; decide) (by rw [c_16]; rfl) (by decide) ?_
    exact law_c16 hc C0 hK hZ hi (by omega) (by omega) hI hP hD hS hl cont
  rcases (Decidable.em ((xs i &&& 31) = 17)) with c_17 | c_17
  · refine lv_tableIn (tgt := 727) hx hb dL_law_33 (by rw [c_17]; decide) (by rw [c_17]; decide) (by rw [c_17]; rfl) (by decide) ?_
    exact law_c17 hc C0 hK hZ hi (by omega) (by omega) hI hP hD hS hl cont
  rcases (Decidable.em ((xs i &&& 31) = 18)) with c_18 | c_18
  · refine lv_tableIn (tgt := 780) hx hb dL_law_33 (by rw [c_18]; decide) (by rw [c_18]; decide) (by rw [c_18]; rfl) (by decide) ?_
    exact law_c18 hc C0 hK hZ hi (by omega) (by omega) hI hP hD hS hl cont
  rcases (Decidable.em ((xs i &&& 31) = 19)) with c_19 | c_19
  · refine lv_tableIn (tgt := 793) hx hb dL_law_33 (by rw [c_19]; decide) (by rw [c_19]; decide) (by rw [c_19]; rfl) (by decide) ?_
    exact law_c19 hc C0 hK hZ hi (by omega) (by omega) hI hP hD hS hl cont
  rcases (Decidable.em ((xs i &&& 31) = 20)) with c_20 | c_20
  · refine lv_tableIn (tgt := 806) hx hb dL_law_33 (by rw [c_20]; decide) (by rw [c_20]; decide) (by rw [c_20]; rfl) (by decide) ?_
    exact law_c20 hc C0 hK hZ hi (by omega) (by omega) hI hP hD hS hl cont
  rcases (Decidable.em ((xs i &&& 31) = 21)) with c_21 | c_21
  · refine lv_tableIn (tgt := 819) hx hb dL_law_33 (by rw [c_21]; decide) (by rw [c_21]; decide) (by rw [c_21]; rfl) (by decide) ?_
    exact law_c21 hc C0 hK hZ hi (by omega) (by omega) hI hP hD hS hl cont
  rcases (Decidable.em ((xs i &&& 31) = 22)) with c_22 | c_22
  · refine lv_tableIn (tgt := 842) hx hb dL_law_33 (by rw [c_22]; decide) (by rw [c_22]; decide) (by rw [c_22]; rfl) (by decide) ?_
    exact law_c22 hc C0 hK hZ hi (by omega) (by omega) hI hP hD hS hl cont
  refine lv_tableOut (tgt := 865) hx hb dL_law_33 (q_tout (fun k h1 h2 hq => by
      rcases (show k = 0 ∨ k = 1 ∨ k = 2 ∨ k = 3 ∨ k = 4 ∨ k = 5 ∨ k = 6 ∨ k = 7 ∨ k = 8 ∨ k = 9 ∨ k = 10 ∨ k = 11 ∨ k = 12 ∨ k = 13 ∨ k = 14 ∨ k = 15 ∨ k = 16 ∨ k = 17 ∨ k = 18 ∨ k = 19 ∨ k = 20 ∨ k = 21 ∨ k = 22 by omega) with rfl | rfl | rfl | rfl | rfl | rfl | rfl | rfl | rfl | rfl | rfl | rfl | rfl | rfl | rfl | rfl | rfl | rfl | rfl | rfl | rfl | rfl | rfl
      · exact c_0 hq
      · exact c_1 hq
      · exact c_2 hq
      · exact c_3 hq
      · exact c_4 hq
      · exact c_5 hq
      · exact c_6 hq
      · exact c_7 hq
      · exact c_8 hq
      · exact c_9 hq
      · exact c_10 hq
      · exact c_11 hq
      · exact c_12 hq
      · exact c_13 hq
      · exact c_14 hq
      · exact c_15 hq
      · exact c_16 hq
      · exact c_17 hq
      · exact c_18 hq
      · exact c_19 hq
      · exact c_20 hq
      · exact c_21 hq
      · exact c_22 hq)) (by decide) ?_
  exact cont a c1 Q M H locs ls cells slots (by omega) (by omega) hI hP hD hS hl
