/-- where a sign stands in the text of signs -/
def ixF (x : Int32) : Nat → Nat → Int32
  | 0, _ => -1
  | n + 1, k => if sgB.getD k 0 = x then Int32.ofNat k else ixF x n (k + 1)
def sgI (c : Int32) : Int32 := ixF c.toInt8.toInt32 11 0
def sgZ (z : Int) : Int := (sgI (iI z)).toInt

