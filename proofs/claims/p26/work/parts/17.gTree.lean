def fX5_addToSums_L17  (y1 : Int32) (y2 : Int32) : Nat → FS → Int32 → Option FS
  | 0, _, _ => none
  | q + 1, T0, y3 => (if (6:Int32) < y3 then some T0 else ((fX1_upTo y1 (6:Int32) y3).bind fun r_4 => ((rd 8192 (T0 3) r_4).bind fun x_5 => ((wr 8192 (T0 3) r_4 (x_5 + y2)).bind fun f_6 => ((some (sr T0 3 f_6)).bind fun T0s_7 => (fX5_addToSums_L17 y1 y2 q) T0s_7 (y3 + 1))))))
def fX5_addToSums (T0 : FS) (x1 : Int32) (x2 : Int32) : Option FS := (if x1 < (4096:Int32) then some T0 else (if x1 < (8192:Int32) then fX5_addToSums_L17 x1 x2 6000 T0 (0:Int32) else some T0))
def fX5_addAllToSums_L2  (y1 : Int32) : Nat → FS → Int32 → Option FS
  | 0, _, _ => none
  | q + 1, T0, y2 => (if (T0 2 0) ≤ y2 then some T0 else ((fX3_placeOf T0 y2).bind fun r_2 => ((fX5_addToSums T0 r_2 y1).bind fun S_3 => (fX5_addAllToSums_L2 y1 q) S_3 (y2 + 1))))
def fX5_addAllToSums (T0 : FS) (x1 : Int32) : Option FS := fX5_addAllToSums_L2 x1 6000 T0 (0:Int32)
def fX5_show (T0 : FS) (P1 : FS)  : Option FS := ((fX5_addAllToSums T0 (-1:Int32)).bind fun S_1 => ((fX3_copyFrom S_1 P1).bind fun S_2 => ((some (sr S_2 3 (S_1 3))).bind fun T0s_3 => ((fX5_addAllToSums T0s_3 (1:Int32)).bind fun S_4 => some S_4))))
def fX5_addPoint (T0 : FS) (x1 : Int32) : Option FS := ((fX3_addPlace T0 x1).bind fun S_1 => ((some (sr S_1 3 (T0 3))).bind fun T0s_2 => ((fX5_addToSums T0s_2 x1 (1:Int32)).bind fun S_3 => some S_3)))
def fX5_removePoint (T0 : FS) (x1 : Int32) : Option FS := ((fX3_placeOf T0 x1).bind fun r_1 => ((fX5_addToSums T0 r_1 (-1:Int32)).bind fun S_2 => ((fX3_removePlace S_2 x1).bind fun S_3 => ((some (sr S_3 3 (S_2 3))).bind fun T0s_4 => some T0s_4))))
def fX5_shiftPoint (T0 : FS) (x1 : Int32) (x2 : Int32) : Option FS := ((fX3_placeOf T0 x1).bind fun r_1 => ((fX5_addToSums T0 r_1 (-1:Int32)).bind fun S_2 => ((fX3_changePlace S_2 x1 x2).bind fun S_3 => ((some (sr S_3 3 (S_2 3))).bind fun T0s_4 => ((fX5_addToSums T0s_4 x2 (1:Int32)).bind fun S_5 => some S_5)))))
def fX5_leavesIfPut (T0 : FS) (x1 : Int32) : Option (Int32 × FS) := ((fX5_addToSums T0 x1 (1:Int32)).bind fun S_1 => ((fX5_leaves S_1).bind fun r_2 => ((fX5_addToSums S_1 x1 (-1:Int32)).bind fun S_3 => some (r_2, S_3))))
def fX5_depthIfPut (T0 : FS) (x1 : Int32) : Option (Int32 × FS) := ((fX5_addToSums T0 x1 (1:Int32)).bind fun S_1 => ((fX5_depthOfLeafWith S_1 x1).bind fun r_2 => ((fX5_addToSums S_1 x1 (-1:Int32)).bind fun S_3 => some (r_2, S_3))))
def fX5_leastFullFor_L14  (y1 : Int32) (y2 : Int32) : Nat → FS → Int32 → Int32 → Option (Int32 × FS)
  | 0, _, _, _ => none
  | q + 1, T0, y3, y4 => (if (8:Int32) < y4 then ((some (sf T0 2 2 y2)).bind fun T0s_2 => some (y3, T0s_2)) else (if y3 = (-6:Int32) then ((some (sf T0 2 2 y4)).bind fun T0s_5 => ((fX5_leaves T0s_5).bind fun r_6 => (if y1 < r_6 then (fX5_leastFullFor_L14 y1 y2 q) T0s_5 y3 (y4 + 1) else (fX5_leastFullFor_L14 y1 y2 q) T0s_5 y4 (y4 + 1)))) else ((some (sf T0 2 2 y2)).bind fun T0s_4 => some (y3, T0s_4))))
def fX5_leastFullFor (T0 : FS) (x1 : Int32) : Option (Int32 × FS) := fX5_leastFullFor_L14 x1 (T0 2 2) 6000 T0 (-6:Int32) (1:Int32)
