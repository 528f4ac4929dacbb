/-! compare -/
theorem e_at (N : Nat) {κ : Nat} (h : κ < 8) (tl : Int32) (nn : Nat → Int64) : fX3_at N (zI κ) tl nn = some (nn κ) := by
  unfold fX3_at
  rw [if_neg (i_nlt (b := 0) (by decide) (by omega)), if_neg (i_nge' (b := 8) (by decide) (by omega)), gi_z (by omega) (by omega) (by omega), zI_cl (by omega) (by omega), tn1]
theorem e_put (N : Nat) {κ : Nat} (h : κ < 8) (x : Int64) (tl : Int32) (nn : Nat → Int64) : fX3_put N (zI κ) x tl nn = some (vp_updL nn κ x) := by
  unfold fX3_put
  rw [if_neg (i_nlt (b := 0) (by decide) (by omega)), if_neg (i_nge' (b := 8) (by decide) (by omega)), gi_z (by omega) (by omega) (by omega), zI_cl (by omega) (by omega), tn1]
def sp_bz (x : Int) : Int := if x = 0 then 0 else 1
def sp_bits (c : Nat → Int) : Int := sp_bz (c 0) + 2 * sp_bz (c 1) + 4 * sp_bz (c 2)
theorem pigeon : ∀ (m n : Nat) (e : Nat → Nat), (∀ k, k < n → e k < m) → (∀ k l, k < l → l < n → e k ≠ e l) → n ≤ m
  | 0, n, e, h1, h2 => by
    by_cases h : 0 < n
    · exact absurd (h1 0 h) (by omega)
    · omega
  | m + 1, n, e, h1, h2 => by
    by_cases h : ∃ k0, k0 < n ∧ e k0 = m
    · obtain ⟨k0, hk0, he⟩ := h
      have := pigeon m (n - 1) (fun k => if k < k0 then e k else e (k + 1)) (fun k hk => by
        show (if k < k0 then e k else e (k + 1)) < m
        split
        · rename_i hlt
          have a := h1 k (by omega)
          have b := h2 k k0 hlt hk0
          omega
        · rename_i hge
          have a := h1 (k + 1) (by omega)
          have b := h2 k0 (k + 1) (by omega) (by omega)
          omega) (fun k l hkl hl => by
        show (if k < k0 then e k else e (k + 1)) ≠ (if l < k0 then e l else e (l + 1))
        split
        · split
          · exact h2 k l hkl (by omega)
          · exact h2 k (l + 1) (by omega) (by omega)
        · rw [if_neg (by omega)]
          exact h2 (k + 1) (l + 1) (by omega) (by omega))
      omega
    · have := pigeon m n e (fun k hk => by
        have a := h1 k hk
        have b : e k ≠ m := fun hh => h ⟨k, hk, hh⟩
        omega) h2
      omega
def Seen (c s : Int) (many : Nat) (wu le : Nat → Int64) : Prop := many ≤ 16 ∧ ∃ ε : Nat → Nat, (∀ k, k < many → ε k < 16 ∧ wu k = zL (((ε k : Int) + c) * 86400 + s) ∧ le k = zL (((ε k : Int) + c) * 86400 + s) ∧ -400000000000 ≤ ((ε k : Int) + c) * 86400 + s ∧ ((ε k : Int) + c) * 86400 + s ≤ 400000000000) ∧ (∀ k l, k < l → l < many → ε k ≠ ε l)
