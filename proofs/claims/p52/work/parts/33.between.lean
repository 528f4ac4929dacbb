/-! between -/
def sp_m0 (st : Nat) (law x t G : Int) : Int := if st = 0 then 0 else sp_mm st law x t G
theorem m0_b {st : Nat} {law x t G : Int} (hx : 0 ≤ x ∧ x ≤ 3652058) (hG : 0 ≤ G ∧ G ≤ 315537897599) : -119988 ≤ sp_m0 st law x t G ∧ sp_m0 st law x t G ≤ 119988 := by
  unfold sp_m0
  have := mm_b (st := st) (law := law) (t := t) hx hG
  split <;> omega
theorem tdiv_d {L : Int} (h : -315537897599 ≤ L ∧ L ≤ 315537897599) : (-3652058 ≤ L.tdiv 86400 ∧ L.tdiv 86400 ≤ 3652058) ∧ -86399 ≤ L - L.tdiv 86400 * 86400 ∧ L - L.tdiv 86400 * 86400 ≤ 86399 := by
  by_cases h0 : 0 ≤ L
  · rw [tdiv_pos h0]; omega
  · rw [tdiv_neg (by omega)]; omega
