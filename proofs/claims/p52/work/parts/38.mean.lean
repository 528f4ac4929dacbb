/-! mean -/
def sp_bit (z : Nat) (k : Nat) : Bool := decide (¬ (zI z &&& ((1 : Int32) <<< (zI k &&& 31))) = (0 : Int32))
theorem bit_tab : (List.range 256).all (fun z => (List.range 8).all (fun k => decide (((zI z &&& ((1 : Int32) <<< (zI k &&& 31))) = (0 : Int32)) ↔ ((zI z >>> (zI k &&& 31)) &&& (1 : Int32)) = (0 : Int32)))) = true := by decide +kernel
theorem bit_any : (List.range 256).all (fun z => decide (z = 0) || (List.range 8).any (fun k => sp_bit z k)) = true := by decide +kernel
theorem bit_iff {z k : Nat} (hz : z < 256) (hk : k < 8) : ((zI z &&& ((1 : Int32) <<< (zI k &&& 31))) = (0 : Int32)) ↔ ((zI z >>> (zI k &&& 31)) &&& (1 : Int32)) = (0 : Int32) := of_decide_eq_true (List.all_eq_true.mp (List.all_eq_true.mp bit_tab z (List.mem_range.mpr hz)) k (List.mem_range.mpr hk))
