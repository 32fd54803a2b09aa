def fX2_codeIn  (x0 : Int64) (x2 : Int32) : Option Int32 := some ((((x0.toUInt64 >>> (((8:Int32) * x2).toInt64.toUInt64 &&& Int64.toUInt64 63)).toInt64).toInt32) &&& (255:Int32))
def fX2_charactersIn_L45  (y0 : Int64) (y2 : Int32) : Nat → Int32 → Option Int32
  | 0, _ => none
  | q + 1, y3 => (if (8:Int32) ≤ y3 then (if y2 = 0 then some (-6:Int32) else some y2) else ((fX2_codeIn y0 y3).bind fun r_4 => (if r_4 = 0 then (fX2_charactersIn_L45 y0 y2 q) (y3 + 1) else some (-6:Int32))))
def fX2_charactersIn_L2  (y0 : Int64) : Nat → Int32 → Option Int32
  | 0, _ => none
  | q + 1, y2 => (if (8:Int32) ≤ y2 then fX2_charactersIn_L45 y0 y2 6000 y2 else ((fX2_codeIn y0 y2).bind fun r_6 => (if r_6 = 0 then fX2_charactersIn_L45 y0 y2 6000 y2 else ((fX2_codeIn y0 y2).bind fun r_8 => (if r_8 < (33:Int32) then some (-6:Int32) else (if r_8 ≤ (126:Int32) then (fX2_charactersIn_L2 y0 q) (y2 + 1) else some (-6:Int32)))))))
def fX2_charactersIn  (x0 : Int64) : Option Int32 := fX2_charactersIn_L2 x0 6000 (0:Int32)
def fX2_codeAt (S0 : FS) (x1 : Int32) : Option Int32 := (if x1 < 0 then some (0:Int32) else (if (S0 2 0) ≤ x1 then some (0:Int32) else (if (80:Int32) ≤ x1 then some (0:Int32) else ((rd 80 (S0 0) x1).bind fun x_4 => some x_4))))
def fX2_isDigit  (x0 : Int32) : Option Int32 := (if x0 < (48:Int32) then bz (0:Int32) else (if (57:Int32) < x0 then bz (0:Int32) else bz (1:Int32)))
def fX2_withDigit_L34  (z0 : Int32) : Option Int32 := (if (64:Int32) ≤ z0 then some (-1:Int32) else some z0)
def fX2_withDigit  (x0 : Int32) (x1 : Int32) : Option Int32 := ((fX2_isDigit x1).bind fun r_1 => (if r_1 = 0 then some (-1:Int32) else (if x0 = 0 then some (-1:Int32) else (if x0 = (-1:Int32) then fX2_withDigit_L34 (x1 - (48:Int32)) else fX2_withDigit_L34 ((((10:Int32) * x0) + x1) - (48:Int32))))))
def fX2_firstFault_L57 (S0 : FS) (g6 : Int32 → Int32 → Int32 → Option Int32) (y1 : Int32) (y2 : Int32) (y3 : Int32) (y4 : Int32) : Option Int32 := ((fX2_withDigit y1 y4).bind fun r_6 => (if r_6 = (-1:Int32) then some y3 else g6 r_6 y2 (y3 + 1)))
def fX2_firstFault_L39 (S0 : FS) (g6 : Int32 → Int32 → Int32 → Option Int32) (y1 : Int32) (y2 : Int32) (y3 : Int32) (y4 : Int32) (z0 : Int32) (z1 : Int32) : Option Int32 := (if z1 = z0 then (if y2 = 0 then g6 (-1:Int32) (1:Int32) (y3 + 1) else g6 (-1:Int32) (0:Int32) (y3 + 1)) else fX2_firstFault_L57 S0 g6 y1 y2 y3 y4)
def fX2_firstFault_L6 (S0 : FS) : Nat → Int32 → Int32 → Int32 → Option Int32
  | 0, _, _, _ => none
  | q + 1, y1, y2, y3 => (if (S0 2 0) ≤ y3 then (if y2 = 0 then some (S0 2 0) else (if y1 = (-1:Int32) then some (S0 2 0) else some (-6:Int32))) else ((fX2_codeAt S0 y3).bind fun r_4 => (if y1 = (-1:Int32) then fX2_firstFault_L57 S0 (fX2_firstFault_L6 S0 q) y1 y2 y3 r_4 else (if y2 = 0 then fX2_firstFault_L39 S0 (fX2_firstFault_L6 S0 q) y1 y2 y3 r_4 (44:Int32) r_4 else fX2_firstFault_L39 S0 (fX2_firstFault_L6 S0 q) y1 y2 y3 r_4 (59:Int32) r_4))))
def fX2_firstFault (S0 : FS)  : Option Int32 := fX2_firstFault_L6 S0 6000 (-1:Int32) (0:Int32) (0:Int32)
def fX2_placeTold (S0 : FS) (x1 : Int32) : Option Int32 := (if x1 < 0 then some (-6:Int32) else (if (20:Int32) ≤ x1 then some (-6:Int32) else ((rd 20 (S0 1) x1).bind fun x_3 => some x_3)))
