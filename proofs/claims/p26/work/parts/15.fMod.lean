def fX8_in  (x0 : Int32) (x1 : Int32) (x2 : Int32) : Option Int32 := (if x0 < x1 then bz (0:Int32) else (if x2 < x0 then bz (0:Int32) else bz (1:Int32)))
def fX8_isPlace  (x0 : Int32) (x1 : Int32) : Option Int32 := ((fX8_in x0 (0:Int32) (63:Int32)).bind fun r_1 => (if r_1 = 0 then bz (0:Int32) else ((fX8_in x1 (0:Int32) (63:Int32)).bind fun r_3 => (if r_3 = 0 then bz (0:Int32) else bz (1:Int32)))))
def fX8_pathOf_L4  (y0 : Int32) (y1 : Int32) : Nat → Int32 → Int32 → Option Int32
  | 0, _, _ => none
  | q + 1, y2, y3 => (if y3 < 0 then some y2 else (fX8_pathOf_L4 y0 y1 q) ((((4:Int32) * y2) + ((2:Int32) * ((y1 >>> (y3 &&& 31)) &&& (1:Int32)))) + ((y0 >>> (y3 &&& 31)) &&& (1:Int32))) (y3 + (-1)))
def fX8_pathOf  (x0 : Int32) (x1 : Int32) : Option Int32 := fX8_pathOf_L4 x0 x1 6000 (0:Int32) (5:Int32)
def fX8_coordinate_L4  (y0 : Int32) (y1 : Int32) : Nat → Int32 → Int32 → Option Int32
  | 0, _, _ => none
  | q + 1, y2, y3 => (if y3 < 0 then some y2 else (fX8_coordinate_L4 y0 y1 q) (((2:Int32) * y2) + ((y0 >>> ((((2:Int32) * y3) + y1) &&& 31)) &&& (1:Int32))) (y3 + (-1)))
def fX8_coordinate  (x0 : Int32) (x1 : Int32) : Option Int32 := fX8_coordinate_L4 x0 x1 6000 (0:Int32) (5:Int32)
def fX8_depthOf_L2  (y0 : Int32) : Nat → Int32 → Option Int32
  | 0, _ => none
  | q + 1, y1 => (if (6:Int32) < y1 then some (-6:Int32) else (if (y0 >>> (((2:Int32) * y1) &&& 31)) = (1:Int32) then some y1 else (fX8_depthOf_L2 y0 q) (y1 + 1)))
def fX8_depthOf  (x0 : Int32) : Option Int32 := fX8_depthOf_L2 x0 6000 (0:Int32)
def fX8_isNumber  (x0 : Int32) : Option Int32 := (if x0 ≤ 0 then bz (0:Int32) else ((fX8_depthOf x0).bind fun r_2 => (if r_2 = (-6:Int32) then bz (0:Int32) else bz (1:Int32))))
def fX8_tileOf  (x0 : Int32) (x1 : Int32) : Option Int32 := some (((4096:Int32) + x0) >>> (((2:Int32) * ((6:Int32) - x1)) &&& 31))
def fX8_firstOf  (x0 : Int32) : Option Int32 := ((fX8_depthOf x0).bind fun r_1 => some ((x0 <<< (((2:Int32) * ((6:Int32) - r_1)) &&& 31)) - (4096:Int32)))
def fX8_sizeOf  (x0 : Int32) : Option Int32 := ((fX8_depthOf x0).bind fun r_1 => some ((64:Int32) >>> (r_1 &&& 31)))
def fX8_pathAt (f0 : FA) (x1 : Int32) : Option Int32 := ((rd 116 f0 ((4:Int32) + ((2:Int32) * x1))).bind fun x_1 => ((rd 116 f0 (((4:Int32) + ((2:Int32) * x1)) + (1:Int32))).bind fun x_2 => ((fX8_pathOf x_1 x_2).bind fun r_3 => some r_3)))
def fX8_pointsIn_L10 (f0 : FA) (y1 : Int32) (y2 : Int32) : Nat → Int32 → Int32 → Option Int32
  | 0, _, _ => none
  | q + 1, y3, y4 => (if (f0 0) ≤ y4 then some y3 else ((fX8_pathAt f0 y4).bind fun r_3 => ((fX8_tileOf r_3 y2).bind fun r_4 => (if r_4 = y1 then (fX8_pointsIn_L10 f0 y1 y2 q) (y3 + (1:Int32)) (y4 + 1) else (fX8_pointsIn_L10 f0 y1 y2 q) (y3 + (0:Int32)) (y4 + 1)))))
def fX8_pointsIn (f0 : FA) (x1 : Int32) : Option Int32 := ((fX8_depthOf x1).bind fun r_1 => fX8_pointsIn_L10 f0 x1 r_1 6000 (0:Int32) (0:Int32))
def fX8_isOrdered_L4 (f0 : FA) (y1 : Int32) : Nat → Int32 → Int32 → Option Int32
  | 0, _, _ => none
  | q + 1, y2, y3 => (if (f0 3) ≤ y3 then bz y2 else (if y2 = 0 then ((rd 116 f0 ((104:Int32) + y3)).bind fun x_3 => (if x_3 = y1 then (fX8_isOrdered_L4 f0 y1 q) (1:Int32) (y3 + 1) else (fX8_isOrdered_L4 f0 y1 q) (0:Int32) (y3 + 1))) else (fX8_isOrdered_L4 f0 y1 q) (1:Int32) (y3 + 1)))
def fX8_isOrdered (f0 : FA) (x1 : Int32) : Option Int32 := fX8_isOrdered_L4 f0 x1 6000 (0:Int32) (0:Int32)
def fX8_isSplit (f0 : FA) (x1 : Int32) : Option Int32 := ((fX8_depthOf x1).bind fun r_1 => (if (f0 2) ≤ r_1 then bz (0:Int32) else ((fX8_isOrdered f0 x1).bind fun r_3 => (if r_3 = 0 then ((fX8_pointsIn f0 x1).bind fun r_5 => (if r_5 ≤ (f0 1) then bz (0:Int32) else bz (1:Int32))) else bz (1:Int32)))))
def fX8_leafOf_L2 (f0 : FA) (y1 : Int32) : Nat → Int32 → Option Int32
  | 0, _ => none
  | q + 1, y2 => ((fX8_tileOf y1 y2).bind fun r_1 => ((fX8_isSplit f0 r_1).bind fun r_2 => (if r_2 = 0 then ((fX8_tileOf y1 y2).bind fun r_4 => some r_4) else (fX8_leafOf_L2 f0 y1 q) (y2 + 1))))
def fX8_leafOf (f0 : FA) (x1 : Int32) : Option Int32 := fX8_leafOf_L2 f0 x1 6000 (0:Int32)
def fX8_isThere (f0 : FA) (x1 : Int32) : Option Int32 := ((fX8_firstOf x1).bind fun r_1 => ((fX8_leafOf f0 r_1).bind fun r_2 => ((fX8_depthOf r_2).bind fun r_3 => ((fX8_depthOf x1).bind fun r_4 => (if r_3 < r_4 then bz (0:Int32) else bz (1:Int32))))))
def fX8_pathsIn  (x0 : Int32) : Option Int32 := ((fX8_depthOf x0).bind fun r_1 => some ((4096:Int32) >>> (((2:Int32) * r_1) &&& 31)))
def fX8_leaves_L5 (f0 : FA) (y2 : Int32) : Nat → Int32 → Int32 → Option Int32
  | 0, _, _ => none
  | q + 1, y3, y4 => (if y2 ≤ y4 then some y3 else ((fX8_leafOf f0 y4).bind fun r_2 => ((fX8_pathsIn r_2).bind fun r_3 => (fX8_leaves_L5 f0 y2 q) (y3 + 1) (y4 + r_3))))
def fX8_leaves (f0 : FA) (x1 : Int32) (x2 : Int32) : Option Int32 := fX8_leaves_L5 f0 x2 6000 (0:Int32) x1
def fX8_allLeaves (f0 : FA)  : Option Int32 := ((fX8_leaves f0 (0:Int32) (4096:Int32)).bind fun r_1 => some r_1)
def fX8_isPoint (M0 : FS) (x1 : Int32) : Option Int32 := ((fX8_in x1 (0:Int32) (((M0 0) 0) - (1:Int32))).bind fun r_1 => bz r_1)
def fX8_pointAt_L6 (f0 : FA) (y1 : Int32) (y2 : Int32) : Nat → Int32 → Int32 → Option Int32
  | 0, _, _ => none
  | q + 1, y3, y4 => (if (f0 0) ≤ y4 then some y3 else ((rd 116 f0 ((4:Int32) + ((2:Int32) * y4))).bind fun x_2 => (if x_2 = y1 then ((rd 116 f0 (((4:Int32) + ((2:Int32) * y4)) + (1:Int32))).bind fun x_4 => (if x_4 = y2 then (fX8_pointAt_L6 f0 y1 y2 q) y4 (y4 + 1) else (fX8_pointAt_L6 f0 y1 y2 q) y3 (y4 + 1))) else (fX8_pointAt_L6 f0 y1 y2 q) y3 (y4 + 1))))
def fX8_pointAt (f0 : FA) (x1 : Int32) (x2 : Int32) : Option Int32 := fX8_pointAt_L6 f0 x1 x2 6000 (-6:Int32) (0:Int32)
def fX8_pointError (M0 : FS) (x1 : Int32) (x2 : Int32) : Option Int32 := ((fX8_isPlace x1 x2).bind fun r_1 => (if r_1 = 0 then some (-1:Int32) else ((fX8_pointAt (M0 0) x1 x2).bind fun r_3 => (if r_3 = (-6:Int32) then (if ((M0 0) 0) = (50:Int32) then some (-4:Int32) else some (0:Int32)) else some (-5:Int32)))))
def fX8_rankOf_L4 (M0 : FS) (y1 : Int32) : Nat → Int32 → Int32 → Option Int32
  | 0, _, _ => none
  | q + 1, y2, y3 => (if ((M0 0) 0) ≤ y3 then some y2 else ((fX8_pathAt (M0 0) y3).bind fun r_2 => ((fX8_pathAt (M0 0) y1).bind fun r_3 => (if r_3 ≤ r_2 then (fX8_rankOf_L4 M0 y1 q) (y2 + (0:Int32)) (y3 + 1) else (fX8_rankOf_L4 M0 y1 q) (y2 + (1:Int32)) (y3 + 1)))))
def fX8_rankOf (M0 : FS) (x1 : Int32) : Option Int32 := fX8_rankOf_L4 M0 x1 6000 (0:Int32) (0:Int32)
def fX8_of (M0 : FS) (x1 : Int32) (x2 : Int32) : Option Int32 := ((fX8_isPoint M0 x1).bind fun r_1 => (if r_1 = 0 then some (-1:Int32) else (if x2 = 0 then ((rd 116 (M0 0) (((4:Int32) + ((2:Int32) * x1)) + x2)).bind fun x_4 => some x_4) else (if x2 = 1 then ((rd 116 (M0 0) (((4:Int32) + ((2:Int32) * x1)) + x2)).bind fun x_6 => some x_6) else (if x2 = 2 then ((fX8_pathAt (M0 0) x1).bind fun r_8 => ((fX8_leafOf (M0 0) r_8).bind fun r_9 => some r_9)) else (if x2 = 3 then ((fX8_rankOf M0 x1).bind fun r_11 => some r_11) else some (-2:Int32)))))))
def fX8_leafAt (M0 : FS) (x1 : Int32) (x2 : Int32) : Option Int32 := ((fX8_isPlace x1 x2).bind fun r_1 => (if r_1 = 0 then some (-1:Int32) else ((fX8_pathOf x1 x2).bind fun r_3 => ((fX8_leafOf (M0 0) r_3).bind fun r_4 => some r_4))))
def fX8_whatIs (M0 : FS) (x1 : Int32) : Option Int32 := ((fX8_isThere (M0 0) x1).bind fun r_1 => (if r_1 = 0 then some (0:Int32) else ((fX8_isSplit (M0 0) x1).bind fun r_3 => (if r_3 = 0 then some (1:Int32) else some (2:Int32)))))
def fX8_leavesIn (M0 : FS) (x1 : Int32) : Option Int32 := ((fX8_firstOf x1).bind fun r_1 => ((fX8_isThere (M0 0) x1).bind fun r_2 => (if r_2 = 0 then some (0:Int32) else ((fX8_pathsIn x1).bind fun r_4 => ((fX8_leaves (M0 0) r_1 (r_1 + r_4)).bind fun r_5 => some r_5)))))
def fX8_tile (M0 : FS) (x1 : Int32) (x2 : Int32) : Option Int32 := ((fX8_isNumber x1).bind fun r_1 => (if r_1 = 0 then some (-1:Int32) else (if x2 = 0 then ((fX8_firstOf x1).bind fun r_4 => ((fX8_coordinate r_4 x2).bind fun r_5 => some r_5)) else (if x2 = 1 then ((fX8_firstOf x1).bind fun r_7 => ((fX8_coordinate r_7 x2).bind fun r_8 => some r_8)) else (if x2 = 2 then ((fX8_sizeOf x1).bind fun r_10 => some r_10) else (if x2 = 3 then ((fX8_depthOf x1).bind fun r_12 => some r_12) else (if x2 = 4 then ((fX8_pointsIn (M0 0) x1).bind fun r_14 => some r_14) else (if x2 = 5 then ((fX8_whatIs M0 x1).bind fun r_16 => some r_16) else (if x2 = 6 then ((fX8_isOrdered (M0 0) x1).bind fun r_18 => (if r_18 = 0 then some (0:Int32) else some (1:Int32))) else (if x2 = 7 then ((fX8_leavesIn M0 x1).bind fun r_21 => some r_21) else some (-2:Int32)))))))))))
def fX8_letter (M0 : FS) (x1 : Int32) (x2 : Int32) : Option Int32 := ((fX8_isNumber x1).bind fun r_1 => (if r_1 = 0 then some (-1:Int32) else ((fX8_depthOf x1).bind fun r_3 => ((fX8_in x2 (0:Int32) (r_3 - (1:Int32))).bind fun r_4 => (if r_4 = 0 then some (-1:Int32) else ((fX8_depthOf x1).bind fun r_6 => some ((x1 >>> (((2:Int32) * ((r_6 - (1:Int32)) - x2)) &&& 31)) &&& (3:Int32))))))))
def fX8_across  (x0 : Int32) : Option Int32 := (if x0 < (2:Int32) then some (1:Int32) else (if x0 = (7:Int32) then some (1:Int32) else (if x0 = (2:Int32) then some (0:Int32) else (if x0 = (6:Int32) then some (0:Int32) else some (-1:Int32)))))
def fX8_along  (x0 : Int32) : Option Int32 := ((fX8_in x0 (1:Int32) (3:Int32)).bind fun r_1 => (if r_1 = 0 then ((fX8_in x0 (5:Int32) (7:Int32)).bind fun r_3 => (if r_3 = 0 then some (0:Int32) else some (-1:Int32))) else some (1:Int32)))
def fX8_beside (M0 : FS) (x1 : Int32) (x2 : Int32) (x3 : Int32) : Option Int32 := ((fX8_isNumber x1).bind fun r_1 => (if r_1 = 0 then some (-1:Int32) else ((fX8_in x2 (0:Int32) (7:Int32)).bind fun r_3 => (if r_3 = 0 then some (-2:Int32) else ((fX8_in x3 (0:Int32) (1:Int32)).bind fun r_5 => (if r_5 = 0 then some (-2:Int32) else ((fX8_firstOf x1).bind fun r_7 => ((fX8_coordinate r_7 (0:Int32)).bind fun r_8 => ((fX8_sizeOf x1).bind fun r_9 => ((fX8_across x2).bind fun r_10 => ((fX8_coordinate r_7 (1:Int32)).bind fun r_11 => ((fX8_sizeOf x1).bind fun r_12 => ((fX8_along x2).bind fun r_13 => ((fX8_isPlace (r_8 + (r_9 * r_10)) (r_11 + (r_12 * r_13))).bind fun r_14 => (if r_14 = 0 then some (-6:Int32) else ((fX8_pathOf (r_8 + (r_9 * r_10)) (r_11 + (r_12 * r_13))).bind fun r_16 => ((fX8_depthOf x1).bind fun r_17 => ((fX8_tileOf r_16 r_17).bind fun r_18 => ((fX8_leafOf (M0 0) r_16).bind fun r_19 => (if x3 = 0 then some r_18 else ((fX8_depthOf r_19).bind fun r_21 => ((fX8_depthOf x1).bind fun r_22 => (if r_21 ≤ r_22 then some r_19 else some r_18)))))))))))))))))))))))
def fX8_pointsBetween_L6 (M0 : FS) (y1 : Int32) (y2 : Int32) (y3 : Int32) (y4 : Int32) : Nat → Int32 → Int32 → Option Int32
  | 0, _, _ => none
  | q + 1, y5, y6 => (if ((M0 0) 0) ≤ y6 then some y5 else ((rd 116 (M0 0) ((4:Int32) + ((2:Int32) * y6))).bind fun x_2 => ((fX8_in x_2 y1 y3).bind fun r_3 => (if r_3 = 0 then (fX8_pointsBetween_L6 M0 y1 y2 y3 y4 q) (y5 + (0:Int32)) (y6 + 1) else ((rd 116 (M0 0) (((4:Int32) + ((2:Int32) * y6)) + (1:Int32))).bind fun x_5 => ((fX8_in x_5 y2 y4).bind fun r_6 => (if r_6 = 0 then (fX8_pointsBetween_L6 M0 y1 y2 y3 y4 q) (y5 + (0:Int32)) (y6 + 1) else (fX8_pointsBetween_L6 M0 y1 y2 y3 y4 q) (y5 + (1:Int32)) (y6 + 1))))))))
def fX8_pointsBetween (M0 : FS) (x1 : Int32) (x2 : Int32) (x3 : Int32) (x4 : Int32) : Option Int32 := fX8_pointsBetween_L6 M0 x1 x2 x3 x4 6000 (0:Int32) (0:Int32)
def fX8_meetsWindow  (x0 : Int32) (x1 : Int32) (x2 : Int32) (x3 : Int32) (x4 : Int32) : Option Int32 := ((fX8_firstOf x0).bind fun r_1 => ((fX8_coordinate r_1 (0:Int32)).bind fun r_2 => ((fX8_coordinate r_1 (1:Int32)).bind fun r_3 => ((fX8_sizeOf x0).bind fun r_4 => (if x3 < r_2 then bz (0:Int32) else (if (r_2 + (r_4 - (1:Int32))) < x1 then bz (0:Int32) else (if x4 < r_3 then bz (0:Int32) else (if (r_3 + (r_4 - (1:Int32))) < x2 then bz (0:Int32) else bz (1:Int32)))))))))
def fX8_smallest_L2 (M0 : FS) (y1 : Int32) (y2 : Int32) : Nat → Int32 → Option Int32
  | 0, _ => none
  | q + 1, y3 => ((fX8_tileOf y1 y3).bind fun r_1 => ((fX8_isSplit (M0 0) r_1).bind fun r_2 => (if r_2 = 0 then ((fX8_tileOf y1 y3).bind fun r_4 => some r_4) else ((fX8_tileOf y1 (y3 + (1:Int32))).bind fun r_5 => ((fX8_tileOf y2 (y3 + (1:Int32))).bind fun r_6 => (if r_5 = r_6 then (fX8_smallest_L2 M0 y1 y2 q) (y3 + 1) else ((fX8_tileOf y1 y3).bind fun r_8 => some r_8)))))))
def fX8_smallest (M0 : FS) (x1 : Int32) (x2 : Int32) : Option Int32 := fX8_smallest_L2 M0 x1 x2 6000 (0:Int32)
def fX8_far (M0 : FS) (x1 : Int32) (x2 : Int32) (x3 : Int32) : Option Int32 := ((rd 116 (M0 0) ((4:Int32) + ((2:Int32) * x1))).bind fun x_1 => ((rd 116 (M0 0) (((4:Int32) + ((2:Int32) * x1)) + (1:Int32))).bind fun x_2 => some (((x_1 - x2) * (x_1 - x2)) + ((x_2 - x3) * (x_2 - x3)))))
def fX8_nearest_L29 (M0 : FS) (y1 : Int32) (y2 : Int32) (y3 : Int32) : Nat → Int32 → Int32 → Option Int32
  | 0, _, _ => none
  | q + 1, y4, y5 => (if ((M0 0) 0) ≤ y5 then (if y4 = (-6:Int32) then some y4 else (if y3 = 0 then some y4 else ((fX8_far M0 y4 y1 y2).bind fun r_8 => some r_8))) else (if y4 = (-6:Int32) then (fX8_nearest_L29 M0 y1 y2 y3 q) y5 (y5 + 1) else ((fX8_far M0 y5 y1 y2).bind fun r_10 => ((fX8_far M0 y4 y1 y2).bind fun r_11 => (if r_11 ≤ r_10 then (fX8_nearest_L29 M0 y1 y2 y3 q) y4 (y5 + 1) else (fX8_nearest_L29 M0 y1 y2 y3 q) y5 (y5 + 1))))))
def fX8_nearest (M0 : FS) (x1 : Int32) (x2 : Int32) (x3 : Int32) : Option Int32 := ((fX8_isPlace x1 x2).bind fun r_1 => (if r_1 = 0 then some (-1:Int32) else ((fX8_in x3 (0:Int32) (1:Int32)).bind fun r_3 => (if r_3 = 0 then some (-2:Int32) else fX8_nearest_L29 M0 x1 x2 x3 6000 (-6:Int32) (0:Int32)))))
def fX8_sees (M0 : FS) (x1 : Int32) (x2 : Int32) : Option Int32 := (if (M0 8 1) ≤ (M0 8 4) then bz (0:Int32) else ((rd 80 (M0 5) (M0 8 4)).bind fun x_2 => ((fX8_in x_2 x1 x2).bind fun r_3 => (if r_3 = 0 then bz (0:Int32) else bz (1:Int32)))))
