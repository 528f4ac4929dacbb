/-! span -/
theorem BU.mono {u w : Int} {xv : Nat → Int} (h : BU u xv) (huw : u ≤ w) : BU w xv := by
  obtain ⟨h0, h1, h2⟩ := h
  have m0 : cM u ≤ cM w ∧ 0 ≤ cM u := by unfold cM; constructor <;> (repeat' split) <;> omega
  have m1 : cD u ≤ cD w ∧ 0 ≤ cD u := by unfold cD; constructor <;> (repeat' split) <;> omega
  have m2 : cS u ≤ cS w ∧ 0 ≤ cS u := by unfold cS; constructor <;> (repeat' split) <;> omega
  exact ⟨by omega, by omega, by omega⟩
