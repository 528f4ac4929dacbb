/-! row: told alike, or beyond the row on both sides (then the class throws) -/
theorem p_row (N : Nat) (hN : 200000 ≤ N) (p1 : Int32) {ks tl : Int32} {nn j R : Nat → Int64} {i : Nat → Int32} (hR : RelR tl nn i R) :
    ∃ (r : Int64) (i' : Nat → Int32), fX10_row N p1 i j R = some (r, i') ∧ i' 4 = i 4 ∧ i' 6 = i 6 ∧ i' 8 = i 8 ∧ ((fX9_row N p1 ks tl nn = some r ∧ i' 9 = (0 : Int32)) ∨ (fX9_row N p1 ks tl nn = none ∧ (p1 < 0 ∨ ¬ p1 < tl) ∧ r = (0 : Int64) ∧ i' 9 = (1 : Int32))) := by
  obtain ⟨z, l1, v1, rfl⟩ := zI_of p1
  obtain ⟨n, hn, rfl, h8, hA⟩ := hR
  have e : ((i 8) - (1 : Int32)).toInt64 = zL ((n : Int) - 1) := by rw [h8, zl_1, zI_sub]; exact zI_toL (by omega) (by omega)
  unfold fX9_row fX10_row fX3_length fX3_at
  rw [e, show (0 : Int64) = zL 0 by decide, zI_toL l1 v1, e_in_m N (by omega) (by omega) (by omega) (by omega) (by omega) (by omega), bd1_s, bd1_s]
  by_cases g : 0 ≤ z ∧ z ≤ (n : Int) - 1
  · obtain ⟨k, rfl⟩ : ∃ k : Nat, z = (k : Int) := ⟨z.toNat, by omega⟩
    rw [if_pos g, if_neg z10, gi_z (by omega) (by omega) (by omega), zI_cl (by omega) (by omega), tn1]
    refine ⟨R k, _, rfl, by simp (disch := omega) only [upd_n], by simp (disch := omega) only [upd_n], by simp (disch := omega) only [upd_n], Or.inl ⟨?_, upd_s⟩⟩
    rw [if_neg (i_nlt (b := 0) (by decide) (by omega)), if_pos (i_lt rfl (by omega))]
    first
      | rw [if_neg (i_nlt (b := 0) (by decide) (by omega)), if_neg (i_nge' (b := 8) (by decide) (by omega)), gi_z (by omega) (by omega) (by omega), bd1_s, hA k (by omega)]
      | rw [gi_z (by omega) (by omega) (by omega), bd1_s, hA k (by omega)]
  · rw [if_neg g, if_pos z00]
    unfold fX10_lost
    rw [bd2_s]
    refine ⟨zL 0, _, rfl, by simp (disch := omega) only [upd_n], by simp (disch := omega) only [upd_n], by simp (disch := omega) only [upd_n], Or.inr ⟨?_, ?_, rfl, upd_s⟩⟩
    · by_cases g2 : z < 0
      · rw [if_pos (i_lt (b := 0) (by decide) (by omega))]
      · rw [if_neg (i_nlt (b := 0) (by decide) (by omega)), if_neg (i_nlt rfl (by omega))]
    · by_cases g2 : z < 0
      · exact Or.inl (i_lt (b := 0) (by decide) (by omega))
      · exact Or.inr (i_nlt rfl (by omega))
