def fX1_isPlace  (x0 : Int32) (x1 : Int32) : Option Int32 := (if x0 < 0 then bz (0:Int32) else (if (64:Int32) ≤ x0 then bz (0:Int32) else (if x1 < 0 then bz (0:Int32) else (if (64:Int32) ≤ x1 then bz (0:Int32) else bz (1:Int32)))))
def fX1_placeAt_L6  (y0 : Int32) (y1 : Int32) : Nat → Int32 → Int32 → Option Int32
  | 0, _, _ => none
  | q + 1, y2, y3 => (if (6:Int32) ≤ y3 then some y2 else (fX1_placeAt_L6 y0 y1 q) ((y2 + (((y0 >>> (y3 &&& 31)) &&& (1:Int32)) <<< (((2:Int32) * y3) &&& 31))) + (((y1 >>> (y3 &&& 31)) &&& (1:Int32)) <<< ((((2:Int32) * y3) + (1:Int32)) &&& 31))) (y3 + 1))
def fX1_placeAt  (x0 : Int32) (x1 : Int32) : Option Int32 := fX1_placeAt_L6 x0 x1 6000 (4096:Int32) (0:Int32)
def fX1_depthOf_L2  (y0 : Int32) : Nat → Int32 → Option Int32
  | 0, _ => none
  | q + 1, y1 => (if (6:Int32) < y1 then some (-6:Int32) else (if (y0 >>> (((2:Int32) * y1) &&& 31)) = (1:Int32) then some y1 else (fX1_depthOf_L2 y0 q) (y1 + 1)))
def fX1_depthOf  (x0 : Int32) : Option Int32 := fX1_depthOf_L2 x0 6000 (0:Int32)
def fX1_sizeAt  (x0 : Int32) : Option Int32 := some ((64:Int32) >>> (x0 &&& 31))
def fX1_upTo  (x0 : Int32) (x1 : Int32) (x2 : Int32) : Option Int32 := some (x0 >>> (((2:Int32) * (x1 - x2)) &&& 31))
def fX1_leastPlace  (x0 : Int32) (x1 : Int32) : Option Int32 := some (x0 <<< (((2:Int32) * ((6:Int32) - x1)) &&& 31))
def fX1_everySecondBit_L4  (y0 : Int32) : Nat → Int32 → Int32 → Option Int32
  | 0, _, _ => none
  | q + 1, y1, y2 => (if (6:Int32) ≤ y2 then some y1 else (fX1_everySecondBit_L4 y0 q) (y1 + (((y0 >>> (((2:Int32) * y2) &&& 31)) &&& (1:Int32)) <<< (y2 &&& 31))) (y2 + 1))
def fX1_everySecondBit  (x0 : Int32) : Option Int32 := fX1_everySecondBit_L4 x0 6000 (0:Int32) (0:Int32)
def fX1_leastX  (x0 : Int32) (x1 : Int32) : Option Int32 := ((fX1_leastPlace x0 x1).bind fun r_1 => ((fX1_everySecondBit r_1).bind fun r_2 => some r_2))
def fX1_leastY  (x0 : Int32) (x1 : Int32) : Option Int32 := ((fX1_leastPlace x0 x1).bind fun r_1 => ((fX1_everySecondBit (r_1 >>> ((1:Int32) &&& 31))).bind fun r_2 => some r_2))
def fX1_nextTo  (x0 : Int32) (x1 : Int32) (x2 : Int32) : Option Int32 := (if x2 < 0 then some (-6:Int32) else (if x2 < (8:Int32) then ((fX1_sizeAt x1).bind fun r_3 => ((fX1_leastX x0 x1).bind fun r_4 => ((rd 8 stX x2).bind fun x_5 => ((fX1_leastY x0 x1).bind fun r_6 => ((rd 8 stY x2).bind fun x_7 => ((fX1_isPlace (r_4 + (x_5 * r_3)) (r_6 + (x_7 * r_3))).bind fun r_8 => (if r_8 = 0 then some (-6:Int32) else ((fX1_placeAt (r_4 + (x_5 * r_3)) (r_6 + (x_7 * r_3))).bind fun r_10 => ((fX1_upTo r_10 (6:Int32) x1).bind fun r_11 => some r_11))))))))) else some (-6:Int32)))
def fX1_squaresBetween  (x0 : Int32) (x1 : Int32) (x2 : Int32) : Option Int32 := ((fX1_leastX x0 (6:Int32)).bind fun r_1 => ((fX1_leastY x0 (6:Int32)).bind fun r_2 => some (((r_1 - x1) * (r_1 - x1)) + ((r_2 - x2) * (r_2 - x2)))))
def fX6_meets (w0 : FA) (x1 : Int32) (x2 : Int32) : Option Int32 := ((fX1_leastX x1 x2).bind fun r_1 => ((fX1_leastY x1 x2).bind fun r_2 => ((fX1_sizeAt x2).bind fun r_3 => (if (w0 2) < r_1 then bz (0:Int32) else (if (r_1 + r_3) ≤ (w0 0) then bz (0:Int32) else (if (w0 3) < r_2 then bz (0:Int32) else (if (r_2 + r_3) ≤ (w0 1) then bz (0:Int32) else bz (1:Int32))))))))
