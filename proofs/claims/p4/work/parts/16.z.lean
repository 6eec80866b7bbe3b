/-! if v is k (folded, so that omega does not split it) -/
def Im (v k : Int) (P : Prop) : Prop := v = k → P
