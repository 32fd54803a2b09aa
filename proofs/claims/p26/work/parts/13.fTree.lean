def fX5_pointsIn (T0 : FS) (x1 : Int32) : Option Int32 := (if x1 < (1:Int32) then some (0:Int32) else (if (8192:Int32) ≤ x1 then some (0:Int32) else ((rd 8192 (T0 3) x1).bind fun x_3 => some x_3)))
def fX5_wouldBeSplit (T0 : FS) (x1 : Int32) (x2 : Int32) : Option Int32 := (if (T0 2 3) ≤ x2 then bz (0:Int32) else ((fX5_pointsIn T0 x1).bind fun r_2 => (if (T0 2 2) < r_2 then bz (1:Int32) else ((fX3_isOrdered T0 x1).bind fun r_4 => (if r_4 = 0 then bz (0:Int32) else bz (1:Int32))))))
def fX5_isThere_L2 (T0 : FS) (y1 : Int32) (y2 : Int32) : Nat → Int32 → Option Int32
  | 0, _ => none
  | q + 1, y3 => (if y2 ≤ y3 then bz (1:Int32) else ((fX1_upTo y1 y2 y3).bind fun r_2 => ((fX5_wouldBeSplit T0 r_2 y3).bind fun r_3 => (if r_3 = 0 then bz (0:Int32) else (fX5_isThere_L2 T0 y1 y2 q) (y3 + 1)))))
def fX5_isThere (T0 : FS) (x1 : Int32) (x2 : Int32) : Option Int32 := fX5_isThere_L2 T0 x1 x2 6000 (0:Int32)
def fX5_kindOf (T0 : FS) (x1 : Int32) (x2 : Int32) : Option Int32 := ((fX5_isThere T0 x1 x2).bind fun r_1 => (if r_1 = 0 then some (0:Int32) else ((fX5_wouldBeSplit T0 x1 x2).bind fun r_3 => (if r_3 = 0 then some (1:Int32) else some (2:Int32)))))
def fX5_depthOfLeafWith_L2 (T0 : FS) (y1 : Int32) : Nat → Int32 → Option Int32
  | 0, _ => none
  | q + 1, y2 => (if (6:Int32) ≤ y2 then some y2 else ((fX1_upTo y1 (6:Int32) y2).bind fun r_2 => ((fX5_wouldBeSplit T0 r_2 y2).bind fun r_3 => (if r_3 = 0 then some y2 else (fX5_depthOfLeafWith_L2 T0 y1 q) (y2 + 1)))))
def fX5_depthOfLeafWith (T0 : FS) (x1 : Int32) : Option Int32 := fX5_depthOfLeafWith_L2 T0 x1 6000 (0:Int32)
def fX5_leafWith (T0 : FS) (x1 : Int32) : Option Int32 := ((fX5_depthOfLeafWith T0 x1).bind fun r_1 => ((fX1_upTo x1 (6:Int32) r_1).bind fun r_2 => some r_2))
def fX5_smallestAround (T0 : FS) (x1 : Int32) (x2 : Int32) : Option Int32 := ((fX1_leastPlace x1 x2).bind fun r_1 => ((fX5_depthOfLeafWith T0 r_1).bind fun r_2 => ((fX1_upTo r_1 (6:Int32) (if r_2 < x2 then r_2 else x2)).bind fun r_3 => some r_3)))
def fX5_smallestWith_L31 (T0 : FS) (w1 : FA) (y2 : Int32) (y3 : Int32) : Nat → Int32 → Option Int32
  | 0, _ => none
  | q + 1, y4 => (if y4 ≤ 0 then ((fX1_upTo y2 (6:Int32) y4).bind fun r_5 => some r_5) else ((fX1_upTo y2 (6:Int32) y4).bind fun r_6 => ((fX1_upTo y3 (6:Int32) y4).bind fun r_7 => (if r_6 = r_7 then ((fX1_upTo y2 (6:Int32) y4).bind fun r_9 => some r_9) else (fX5_smallestWith_L31 T0 w1 y2 y3 q) (y4 + (-1))))))
def fX5_smallestWith (T0 : FS) (w1 : FA)  : Option Int32 := ((fX1_placeAt (w1 0) (w1 1)).bind fun r_1 => ((fX1_placeAt (w1 2) (w1 3)).bind fun r_2 => ((fX5_depthOfLeafWith T0 r_1).bind fun r_3 => fX5_smallestWith_L31 T0 w1 r_1 r_2 6000 r_3)))
def fX5_leavesIn_L22 (T0 : FS) (self : Int32 → Int32 → Option Int32) (y1 : Int32) (y2 : Int32) : Nat → Int32 → Int32 → Option Int32
  | 0, _, _ => none
  | q + 1, y3, y4 => (if (4:Int32) ≤ y4 then some y3 else ((self (((4:Int32) * y1) + y4) (y2 + (1:Int32))).bind fun r_5 => (fX5_leavesIn_L22 T0 self y1 y2 q) (y3 + r_5) (y4 + 1)))
def fX5_leavesIn_B (T0 : FS) (self : Int32 → Int32 → Option Int32) (x1 : Int32) (x2 : Int32) : Option Int32 := (if (6:Int32) ≤ x2 then some (1:Int32) else ((fX5_wouldBeSplit T0 x1 x2).bind fun r_2 => (if r_2 = 0 then some (1:Int32) else fX5_leavesIn_L22 T0 self x1 x2 6000 (0:Int32) (0:Int32))))
def fX5_leavesIn (T0 : FS) : Nat → Int32 → Int32 → Option Int32
  | 0, _, _ => none
  | dd + 1, x1, x2 => fX5_leavesIn_B T0 (fX5_leavesIn T0 dd) x1 x2
def fX5_leaves (T0 : FS)  : Option Int32 := ((fX5_leavesIn T0 8 (1:Int32) (0:Int32)).bind fun r_1 => some r_1)
def fX5_tiles (T0 : FS)  : Option Int32 := ((fX5_leaves T0).bind fun r_1 => some (r_1 + ((r_1 - (1:Int32)) / (3:Int32))))
def fX5_emptyLeavesIn_L15 (T0 : FS) (self : Int32 → Int32 → Option Int32) (y1 : Int32) : Option Int32 := ((fX5_pointsIn T0 y1).bind fun r_2 => (if r_2 = 0 then some (1:Int32) else some (0:Int32)))
def fX5_emptyLeavesIn_L34 (T0 : FS) (self : Int32 → Int32 → Option Int32) (y1 : Int32) (y2 : Int32) : Nat → Int32 → Int32 → Option Int32
  | 0, _, _ => none
  | q + 1, y3, y4 => (if (4:Int32) ≤ y4 then some y3 else ((self (((4:Int32) * y1) + y4) (y2 + (1:Int32))).bind fun r_7 => (fX5_emptyLeavesIn_L34 T0 self y1 y2 q) (y3 + r_7) (y4 + 1)))
def fX5_emptyLeavesIn_B (T0 : FS) (self : Int32 → Int32 → Option Int32) (x1 : Int32) (x2 : Int32) : Option Int32 := (if (6:Int32) ≤ x2 then fX5_emptyLeavesIn_L15 T0 self x1 else ((fX5_wouldBeSplit T0 x1 x2).bind fun r_4 => (if r_4 = 0 then fX5_emptyLeavesIn_L15 T0 self x1 else fX5_emptyLeavesIn_L34 T0 self x1 x2 6000 (0:Int32) (0:Int32))))
def fX5_emptyLeavesIn (T0 : FS) : Nat → Int32 → Int32 → Option Int32
  | 0, _, _ => none
  | dd + 1, x1, x2 => fX5_emptyLeavesIn_B T0 (fX5_emptyLeavesIn T0 dd) x1 x2
def fX5_deepestIn_L22 (T0 : FS) (self : Int32 → Int32 → Option Int32) (y1 : Int32) (y2 : Int32) : Nat → Int32 → Int32 → Option Int32
  | 0, _, _ => none
  | q + 1, y3, y4 => (if (4:Int32) ≤ y4 then some y3 else ((self (((4:Int32) * y1) + y4) (y2 + (1:Int32))).bind fun r_5 => (fX5_deepestIn_L22 T0 self y1 y2 q) (if y3 < r_5 then r_5 else y3) (y4 + 1)))
def fX5_deepestIn_B (T0 : FS) (self : Int32 → Int32 → Option Int32) (x1 : Int32) (x2 : Int32) : Option Int32 := (if (6:Int32) ≤ x2 then some x2 else ((fX5_wouldBeSplit T0 x1 x2).bind fun r_2 => (if r_2 = 0 then some x2 else fX5_deepestIn_L22 T0 self x1 x2 6000 (0:Int32) (0:Int32))))
def fX5_deepestIn (T0 : FS) : Nat → Int32 → Int32 → Option Int32
  | 0, _, _ => none
  | dd + 1, x1, x2 => fX5_deepestIn_B T0 (fX5_deepestIn T0 dd) x1 x2
def fX5_leavesMeeting_L34 (T0 : FS) (w1 : FA) (self : Int32 → Int32 → Option Int32) (y2 : Int32) (y3 : Int32) : Nat → Int32 → Int32 → Option Int32
  | 0, _, _ => none
  | q + 1, y4, y5 => (if (4:Int32) ≤ y5 then some y4 else ((self (((4:Int32) * y2) + y5) (y3 + (1:Int32))).bind fun r_7 => (fX5_leavesMeeting_L34 T0 w1 self y2 y3 q) (y4 + r_7) (y5 + 1)))
def fX5_leavesMeeting_B (T0 : FS) (w1 : FA) (self : Int32 → Int32 → Option Int32) (x2 : Int32) (x3 : Int32) : Option Int32 := ((fX6_meets w1 x2 x3).bind fun r_1 => (if r_1 = 0 then some (0:Int32) else (if (6:Int32) ≤ x3 then some (1:Int32) else ((fX5_wouldBeSplit T0 x2 x3).bind fun r_4 => (if r_4 = 0 then some (1:Int32) else fX5_leavesMeeting_L34 T0 w1 self x2 x3 6000 (0:Int32) (0:Int32))))))
def fX5_leavesMeeting (T0 : FS) (w1 : FA) : Nat → Int32 → Int32 → Option Int32
  | 0, _, _ => none
  | dd + 1, x2, x3 => fX5_leavesMeeting_B T0 w1 (fX5_leavesMeeting T0 w1 dd) x2 x3
def fX5_tilesMeeting_L32 (T0 : FS) (w1 : FA) (self : Int32 → Int32 → Option Int32) (y2 : Int32) (y3 : Int32) : Nat → Int32 → Int32 → Option Int32
  | 0, _, _ => none
  | q + 1, y4, y5 => (if (4:Int32) ≤ y5 then some y4 else ((self (((4:Int32) * y2) + y5) (y3 + (1:Int32))).bind fun r_7 => (fX5_tilesMeeting_L32 T0 w1 self y2 y3 q) (y4 + r_7) (y5 + 1)))
def fX5_tilesMeeting_B (T0 : FS) (w1 : FA) (self : Int32 → Int32 → Option Int32) (x2 : Int32) (x3 : Int32) : Option Int32 := ((fX6_meets w1 x2 x3).bind fun r_1 => (if r_1 = 0 then some (0:Int32) else (if (6:Int32) ≤ x3 then some (1:Int32) else ((fX5_wouldBeSplit T0 x2 x3).bind fun r_4 => (if r_4 = 0 then some (1:Int32) else fX5_tilesMeeting_L32 T0 w1 self x2 x3 6000 (1:Int32) (0:Int32))))))
def fX5_tilesMeeting (T0 : FS) (w1 : FA) : Nat → Int32 → Int32 → Option Int32
  | 0, _, _ => none
  | dd + 1, x2, x3 => fX5_tilesMeeting_B T0 w1 (fX5_tilesMeeting T0 w1 dd) x2 x3
def fX5_leavesSeen_B (T0 : FS) (self : Int32 → Int32 → Int32 → Option Int32) (x1 : Int32) (x2 : Int32) (x3 : Int32) : Option Int32 := (if (6:Int32) ≤ x2 then some (1:Int32) else ((fX5_wouldBeSplit T0 x1 x2).bind fun r_2 => (if r_2 = 0 then some (1:Int32) else (if (x3 / (2:Int32)) < 0 then some (0:Int32) else (if (4:Int32) ≤ (x3 / (2:Int32)) then some (0:Int32) else (if (x3 / (2:Int32)) < (4:Int32) then ((rd 4 stO (x3 / (2:Int32))).bind fun x_7 => ((self (((4:Int32) * x1) + x_7) (x2 + (1:Int32)) x3).bind fun r_8 => ((rd 4 stU (x3 / (2:Int32))).bind fun x_9 => ((self (((4:Int32) * x1) + x_9) (x2 + (1:Int32)) x3).bind fun r_10 => some (r_8 + r_10))))) else some (0:Int32)))))))
def fX5_leavesSeen (T0 : FS) : Nat → Int32 → Int32 → Int32 → Option Int32
  | 0, _, _, _ => none
  | dd + 1, x1, x2, x3 => fX5_leavesSeen_B T0 (fX5_leavesSeen T0 dd) x1 x2 x3
def fX5_neighboursOf_L5 (T0 : FS) (y1 : Int32) (y2 : Int32) : Nat → Int32 → Int32 → Option Int32
  | 0, _, _ => none
  | q + 1, y3, y4 => (if (8:Int32) ≤ y4 then some y3 else ((fX1_nextTo y1 y2 y4).bind fun r_2 => (if r_2 = (-6:Int32) then (fX5_neighboursOf_L5 T0 y1 y2 q) y3 (y4 + 2) else ((fX5_isThere T0 r_2 y2).bind fun r_4 => (if r_4 = 0 then (fX5_neighboursOf_L5 T0 y1 y2 q) (y3 + (1:Int32)) (y4 + 2) else ((fX5_leavesSeen T0 8 r_2 y2 y4).bind fun r_6 => (fX5_neighboursOf_L5 T0 y1 y2 q) (y3 + r_6) (y4 + 2)))))))
def fX5_neighboursOf (T0 : FS) (x1 : Int32) (x2 : Int32) : Option Int32 := fX5_neighboursOf_L5 T0 x1 x2 6000 (0:Int32) (0:Int32)
def fX5_greatestStepOutOf_L5 (T0 : FS) (y1 : Int32) (y2 : Int32) : Nat → Int32 → Int32 → Option Int32
  | 0, _, _ => none
  | q + 1, y3, y4 => (if (8:Int32) ≤ y4 then some y3 else ((fX1_nextTo y1 y2 y4).bind fun r_2 => (if r_2 = (-6:Int32) then (fX5_greatestStepOutOf_L5 T0 y1 y2 q) y3 (y4 + 2) else ((fX1_leastPlace r_2 y2).bind fun r_4 => ((fX5_depthOfLeafWith T0 r_4).bind fun r_5 => (fX5_greatestStepOutOf_L5 T0 y1 y2 q) (if y3 < (y2 - r_5) then (y2 - r_5) else y3) (y4 + 2))))))
def fX5_greatestStepOutOf (T0 : FS) (x1 : Int32) (x2 : Int32) : Option Int32 := fX5_greatestStepOutOf_L5 T0 x1 x2 6000 (0:Int32) (0:Int32)
def fX5_unevennessIn_L27 (T0 : FS) (self : Int32 → Int32 → Option Int32) (y1 : Int32) (y2 : Int32) : Nat → Int32 → Int32 → Option Int32
  | 0, _, _ => none
  | q + 1, y3, y4 => (if (4:Int32) ≤ y4 then some y3 else ((self (((4:Int32) * y1) + y4) (y2 + (1:Int32))).bind fun r_6 => (fX5_unevennessIn_L27 T0 self y1 y2 q) (if y3 < r_6 then r_6 else y3) (y4 + 1)))
def fX5_unevennessIn_B (T0 : FS) (self : Int32 → Int32 → Option Int32) (x1 : Int32) (x2 : Int32) : Option Int32 := (if (6:Int32) ≤ x2 then ((fX5_greatestStepOutOf T0 x1 x2).bind fun r_2 => some r_2) else ((fX5_wouldBeSplit T0 x1 x2).bind fun r_3 => (if r_3 = 0 then ((fX5_greatestStepOutOf T0 x1 x2).bind fun r_7 => some r_7) else fX5_unevennessIn_L27 T0 self x1 x2 6000 (0:Int32) (0:Int32))))
def fX5_unevennessIn (T0 : FS) : Nat → Int32 → Int32 → Option Int32
  | 0, _, _ => none
  | dd + 1, x1, x2 => fX5_unevennessIn_B T0 (fX5_unevennessIn T0 dd) x1 x2
