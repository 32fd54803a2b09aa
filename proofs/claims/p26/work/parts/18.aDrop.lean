/-- the six plans of the history, the oldest behind the others -/
def rotH (Q : Nat → FS) : Nat → FS := sq (sq (sq (sq (sq (sq Q 3 (Q 4)) 4 (Q 5)) 5 (Q 6)) 6 (Q 7)) 7 (Q 8)) 8 (Q 3)
def fX0_dropOldest (Q0 : Nat → FS) : Option (Nat → FS) := some (sq (rotH Q0) 2 (sf (Q0 2) 0 0 5))
/-- the place of the latest state, and the history without it -/
def fX0_takeLatest (Q0 : Nat → FS) : Option (Int32 × (Nat → FS)) := some ((if (0:Int32) < (Q0 2 0 0) - 1 then (Q0 2 0 0) - 1 else 0), sq Q0 2 (sf (Q0 2) 0 0 (if (0:Int32) < (Q0 2 0 0) - 1 then (Q0 2 0 0) - 1 else 0)))
def fX4_planIn (x1 : Int32) : Option Int32 := (fX4_isSlot x1).bind fun r => if r = 0 then some 0 else some x1
def w4 (a b c d : Int32) : FA := fun k => match k with
  | 0 => a
  | 1 => b
  | 2 => c
  | _ => d
abbrev rmW (f L c z : Nat) : Room := { frames := f, cells := c, slots := z, locals := L }
