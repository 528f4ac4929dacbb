/-! moment -/
theorem mo_dnb {y m d : Int} (hy : 1 ≤ y ∧ y ≤ 9999) (hm : 1 ≤ m ∧ m ≤ 12) (hd : 1 ≤ d ∧ d ≤ sp_mlen y m) : 0 ≤ sp_dn y m d ∧ sp_dn y m d ≤ 3652058 := by
  have h1 := am_b y m
  have h2 := am_end y
  have h3 := sp_l31 y m hm.1 hm.2
  have h4 : sp_am y m + sp_mlen y m ≤ sp_am y 12 + 31 := by
    by_cases g : m = 12
    · subst g
      have := mlen_b y 12
      omega
    · have := am_step (y := y) hm.1 (by omega)
      have := am_le (y := y) (show 1 ≤ m + 1 by omega) (show m + 1 ≤ 12 by omega) (by omega)
      omega
  rw [sp_dn_am]
  unfold sp_yb at *
  omega
