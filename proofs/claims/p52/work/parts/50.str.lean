/-! the letters of the parts -/
def tx_l : List Int32 := [121, 109, 119, 100, 104, 105, 115]
def tx (k : Nat) : Int32 := tx_l.getD k 0
