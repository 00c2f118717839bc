/-- the two bytes at a place, as a number -/
def tw_r (f : Nat → Int32) (k : Int) : Int32 := (gr f k &&& 255) ||| ((gr f (k + 1) &&& 255) <<< ((8 : Int32) &&& 31))
def tw (f : Nat → Int32) (k : Int) : Int := (tw_r f k).toInt
