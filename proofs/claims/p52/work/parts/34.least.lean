/-! least -/
def sp_ps (n d : Int) : Int := n / 12 + n % 12 + (d.natAbs : Int) / 7 + (d.natAbs : Int) % 7
theorem ps_b {n d : Int} (h1 : 0 ≤ n ∧ n ≤ 200000) (h2 : -4000000 ≤ d ∧ d ≤ 4000000) : 0 ≤ sp_ps n d ∧ sp_ps n d ≤ 1000000 := by
  unfold sp_ps
  omega
theorem e_ps (N : Nat) {n d : Int} (h1 : 0 ≤ n ∧ n ≤ 200000) (h2 : -4000000 ≤ d ∧ d ≤ 4000000) : fX9_phraseSize N (zI n) (zI d) = some (zI (sp_ps n d)) := by
  unfold fX9_phraseSize
  have eA : (if (0 : Int32) ≤ zI d then zI d else 0 - zI d) = zI (d.natAbs : Int) := by
    by_cases h : 0 ≤ d
    · rw [if_pos (i_ge' (b := 0) (by decide) (by omega))]; congr 1; omega
    · rw [if_neg (i_nge' (b := 0) (by decide) (by omega)), zl_0, zI_sub]; congr 1; omega
  obtain ⟨A, hA⟩ : ∃ A : Int, A = (d.natAbs : Int) := ⟨_, rfl⟩
  have bA : 0 ≤ A ∧ A ≤ 4000000 := by omega
  rw [if_pos (i_ge' (b := 0) (by decide) (by omega)), eA, nm_s, nm_s]
  unfold sp_ps
  rw [← hA, zl_12, zl_7, zI_div (by omega) (by omega) (by omega) (by omega), zI_mul, zI_sub, mod_fold, zI_div (by omega) (by omega) (by omega) (by omega), zI_mul, zI_sub, mod_fold, zI_add, zI_add, zI_add]
