/-! a span added on both sides -/
/-! spans that come out -/
theorem mul_b2 {a t : Int} (h1 : sp_b1 a) (h2 : -2147483648 ≤ t ∧ t ≤ 2147483648) : -4611686018427387904 ≤ a * t ∧ a * t ≤ 4611686018427387904 := by
  have e1 : a * t ≤ 1000000000 * 2147483648 := by
    have h3 := Int.natAbs_mul a t
    have h4 : a.natAbs * t.natAbs ≤ 1000000000 * 2147483648 := Nat.mul_le_mul (by omega) (by omega)
    omega
  have e2 : -(1000000000 * 2147483648) ≤ a * t := by
    have h3 := Int.natAbs_mul a t
    have h4 : a.natAbs * t.natAbs ≤ 1000000000 * 2147483648 := Nat.mul_le_mul (by omega) (by omega)
    omega
  omega
theorem tdiv_f {s : Int} (h : -1000000000000 ≤ s ∧ s ≤ 1000000000000) : (-11574075 ≤ s.tdiv 86400 ∧ s.tdiv 86400 ≤ 11574075) ∧ -86399 ≤ s - s.tdiv 86400 * 86400 ∧ s - s.tdiv 86400 * 86400 ≤ 86399 := by
  by_cases h0 : 0 ≤ s
  · rw [tdiv_pos h0]; omega
  · rw [tdiv_neg (by omega)]; omega
