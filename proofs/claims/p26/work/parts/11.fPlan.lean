def fX3_isPoint (P0 : FS) (x1 : Int32) : Option Int32 := (if x1 < 0 then bz (0:Int32) else (if (P0 2 0) ≤ x1 then bz (0:Int32) else (if (50:Int32) ≤ x1 then bz (0:Int32) else bz (1:Int32))))
def fX3_placeOf (P0 : FS) (x1 : Int32) : Option Int32 := ((fX3_isPoint P0 x1).bind fun r_1 => (if r_1 = 0 then some (-6:Int32) else ((rd 50 (P0 0) x1).bind fun x_3 => some x_3)))
def fX3_pointAt_L2 (P0 : FS) (y1 : Int32) : Nat → Int32 → Option Int32
  | 0, _ => none
  | q + 1, y2 => (if (P0 2 0) ≤ y2 then some (-6:Int32) else ((fX3_placeOf P0 y2).bind fun r_2 => (if r_2 = y1 then some y2 else (fX3_pointAt_L2 P0 y1 q) (y2 + 1))))
def fX3_pointAt (P0 : FS) (x1 : Int32) : Option Int32 := fX3_pointAt_L2 P0 x1 6000 (0:Int32)
def fX3_errorOfPointAt (P0 : FS) (x1 : Int32) : Option Int32 := ((fX3_pointAt P0 x1).bind fun r_1 => (if r_1 = (-6:Int32) then (if (P0 2 0) < (50:Int32) then some (0:Int32) else some (-4:Int32)) else some (-5:Int32)))
def fX3_pointsBefore_L4 (P0 : FS) (y1 : Int32) : Nat → Int32 → Int32 → Option Int32
  | 0, _, _ => none
  | q + 1, y2, y3 => (if (P0 2 0) ≤ y3 then some y2 else ((fX3_placeOf P0 y3).bind fun r_2 => (if y1 ≤ r_2 then (fX3_pointsBefore_L4 P0 y1 q) y2 (y3 + 1) else (fX3_pointsBefore_L4 P0 y1 q) (y2 + 1) (y3 + 1))))
def fX3_pointsBefore (P0 : FS) (x1 : Int32) : Option Int32 := fX3_pointsBefore_L4 P0 x1 6000 (0:Int32) (0:Int32)
def fX3_pointsInside_L4 (P0 : FS) (w1 : FA) : Nat → Int32 → Int32 → Option Int32
  | 0, _, _ => none
  | q + 1, y2, y3 => (if (P0 2 0) ≤ y3 then some y2 else ((fX3_placeOf P0 y3).bind fun r_2 => ((fX6_meets w1 r_2 (6:Int32)).bind fun r_3 => (if r_3 = 0 then (fX3_pointsInside_L4 P0 w1 q) y2 (y3 + 1) else (fX3_pointsInside_L4 P0 w1 q) (y2 + 1) (y3 + 1)))))
def fX3_pointsInside (P0 : FS) (w1 : FA)  : Option Int32 := fX3_pointsInside_L4 P0 w1 6000 (0:Int32) (0:Int32)
def fX3_indexOfOrder_L2 (P0 : FS) (y1 : Int32) : Nat → Int32 → Option Int32
  | 0, _ => none
  | q + 1, y2 => (if (P0 2 1) ≤ y2 then some (-6:Int32) else (if (12:Int32) ≤ y2 then some (-6:Int32) else ((rd 12 (P0 1) y2).bind fun x_3 => (if x_3 = y1 then some y2 else (fX3_indexOfOrder_L2 P0 y1 q) (y2 + 1)))))
def fX3_indexOfOrder (P0 : FS) (x1 : Int32) : Option Int32 := fX3_indexOfOrder_L2 P0 x1 6000 (0:Int32)
def fX3_isOrdered (P0 : FS) (x1 : Int32) : Option Int32 := ((fX3_indexOfOrder P0 x1).bind fun r_1 => (if r_1 = (-6:Int32) then bz (0:Int32) else bz (1:Int32)))
def fX4_isSlot  (x0 : Int32) : Option Int32 := (if x0 < 0 then bz (0:Int32) else (if (2:Int32) ≤ x0 then bz (0:Int32) else bz (1:Int32)))
def fX4_isFilled (Q0 : Nat → FS) (x1 : Int32) : Option Int32 := ((fX4_isSlot x1).bind fun r_1 => (if r_1 = 0 then bz (0:Int32) else ((rd 2 (Q0 2 1) x1).bind fun x_3 => (if x_3 = 0 then bz (0:Int32) else bz (1:Int32)))))
