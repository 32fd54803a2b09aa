def fX2_append_L5  (y1 : Int64) : Nat → FS → Int32 → Option FS
  | 0, _, _ => none
  | q + 1, S0, y4 => (if y4 < 0 then some S0 else (if (80:Int32) ≤ (S0 2 0) then some S0 else ((fX2_codeIn y1 y4).bind fun r_3 => ((wr 80 (S0 0) (S0 2 0) r_3).bind fun f_4 => ((some (sr S0 0 f_4)).bind fun S0s_5 => ((some (sf S0s_5 2 0 ((S0s_5 2 0) + (1:Int32)))).bind fun S0s_6 => (fX2_append_L5 y1 q) S0s_6 (y4 + (-1))))))))
def fX2_append (S0 : FS) (x1 : Int64) (x3 : Int32) : Option FS := fX2_append_L5 x1 6000 S0 (x3 - (1:Int32))
def fX2_empty (S0 : FS)  : Option FS := ((some (sf S0 2 0 (0:Int32))).bind fun S0s_1 => some S0s_1)
def fX2_readPlaces_L9  : Nat → FS → Int32 → Int32 → Int32 → Int32 → Option (Int32 × FS)
  | 0, _, _, _, _, _ => none
  | q + 1, S0, y1, y2, y3, y4 => (if (S0 2 0) < y4 then some (y1, S0) else ((fX2_codeAt S0 y4).bind fun r_2 => ((fX2_isDigit r_2).bind fun r_3 => (if r_3 = 0 then (if r_2 = (44:Int32) then (fX2_readPlaces_L9 q) S0 y1 y3 (0:Int32) (y4 + 1) else (if (20:Int32) ≤ y1 then (fX2_readPlaces_L9 q) S0 y1 y2 y3 (y4 + 1) else ((fX1_placeAt y2 y3).bind fun r_7 => ((wr 20 (S0 1) y1 r_7).bind fun f_8 => ((some (sr S0 1 f_8)).bind fun S0s_9 => (fX2_readPlaces_L9 q) S0s_9 (y1 + 1) y2 (0:Int32) (y4 + 1)))))) else (fX2_readPlaces_L9 q) S0 y1 y2 ((((10:Int32) * y3) + r_2) - (48:Int32)) (y4 + 1)))))
def fX2_readPlaces (S0 : FS)  : Option (Int32 × FS) := fX2_readPlaces_L9 6000 S0 (0:Int32) (0:Int32) (0:Int32) (0:Int32)
