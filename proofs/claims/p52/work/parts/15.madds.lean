/-! spans added: the reference -/
theorem z10' : ¬ (zI 1 = (0 : Int32)) := by decide
theorem z00' : zI 0 = (0 : Int32) := by decide
