/-! workdays -/
theorem wk_key {x y k : Int} (h : 0 ≤ x ∧ x ≤ y ∧ y ≤ 3652058) (hk : 0 ≤ k ∧ k ≤ 6) : (y + 6 - k) / 7 - (x + 6 - k) / 7 = if (k - x % 7 + 7) % 7 < (y - x) % 7 then (y - x) / 7 + 1 else (y - x) / 7 := by
  have hk2 : k = 0 ∨ k = 1 ∨ k = 2 ∨ k = 3 ∨ k = 4 ∨ k = 5 ∨ k = 6 := by omega
  rcases hk2 with rfl | rfl | rfl | rfl | rfl | rfl | rfl <;> split <;> omega
/-! kept and gone back to -/
theorem l_becomes (N : Nat) {A B C D E : Nat → Int32} : ∀ (n k : Nat) (a b c d e : Nat → Int32), k ≤ 8 → (∀ q, q < k → a q = A q ∧ b q = B q ∧ c q = C q ∧ d q = D q ∧ e q = E q) → 9 - k ≤ n →
    ∃ a' b' c' d' e', fX4_becomes_l2 N A B C D E n (zI k) a b c d e = some (a', b', c', d', e') ∧ ∀ q, q < 8 → a' q = A q ∧ b' q = B q ∧ c' q = C q ∧ d' q = D q ∧ e' q = E q := by
  intro n
  induction n with
  | zero => intro k a b c d e h1 h2 hn; omega
  | succ n ih =>
    intro k a b c d e h1 h2 hn
    rw [fX4_becomes_l2_s]
    by_cases hd : 8 ≤ k
    · rw [if_pos (i_ge' (b := 8) (by decide) (by omega))]
      exact ⟨_, _, _, _, _, rfl, fun q hq => h2 q (by omega)⟩
    · have hk : k < 8 := by omega
      have e3 : zI k + (1 : Int32) = zI ((k + 1 : Nat) : Int) := by rw [zl_1, zI_add]; rfl
      rw [if_neg (i_nge' (b := 8) (by decide) (by omega)), e_dayAt N A hk, bd1_s, e_secondAt N B hk, bd1_s, e_putMoment N _ _ _ _ hk, bd2_s, e_monthsAt N C hk, bd1_s, e_daysAt N D hk, bd1_s, e_secondsAt N E hk, bd1_s, e_putSpan N _ _ _ _ _ _ hk, bd3_s, nm_s, e3]
      refine ih (k + 1) _ _ _ _ _ (by omega) (fun q hq => ?_) (by omega)
      by_cases e : q = k
      · subst e; simp only [upd_s]; exact ⟨trivial, trivial, trivial, trivial, trivial⟩
      · simp only [upd_n e]; exact h2 q (by omega)
theorem e_becomes (N : Nat) (hN : 200000 ≤ N) (a b c d e A B C D E : Nat → Int32) : ∃ a' b' c' d' e', fX4_becomes N a b c d e A B C D E = some (a', b', c', d', e') ∧ ∀ q, q < 8 → a' q = A q ∧ b' q = B q ∧ c' q = C q ∧ d' q = D q ∧ e' q = E q := by
  unfold fX4_becomes
  exact l_becomes N N 0 a b c d e (by omega) (fun q hq => by omega) (by omega)
def RelK (ks : Int32) (f2 g2 a2 b2 c2 i K : Nat → Int32) : Prop := (ks = zI 0 ∨ ks = zI 1) ∧ i 4 = ks ∧ ∃ dd ss mm da se : Nat → Int, (∀ k, k < 8 → f2 k = zI (dd k) ∧ g2 k = zI (ss k) ∧ K k = zI (dd k) ∧ K (8 + k) = zI (ss k) ∧ (0 ≤ dd k ∧ dd k ≤ 3652058) ∧ 0 ≤ ss k ∧ ss k ≤ 86399) ∧ (∀ k, k < 8 → a2 k = zI (mm k) ∧ b2 k = zI (da k) ∧ c2 k = zI (se k) ∧ K (16 + 3 * k) = zI (mm k) ∧ K (16 + (3 * k + 1)) = zI (da k) ∧ K (16 + (3 * k + 2)) = zI (se k) ∧ sp_b3 (mm k) (da k) (se k))
theorem tn8 (k : Nat) : (8 + (k : Int)).toNat = 8 + k := by omega
theorem tn16 (k : Nat) : (16 + (k : Int)).toNat = 16 + k := by omega
