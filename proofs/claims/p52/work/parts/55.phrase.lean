/-! phrase -/
def pw : Nat → Int
  | 0 => 0
  | 1 => 1
  | n + 2 => 10 * pw (n + 1)
theorem pw_s (e : Nat) : pw (e + 1) / 10 = pw e := by
  cases e with
  | zero => rfl
  | succ e => show 10 * pw (e + 1) / 10 = pw (e + 1); omega
theorem pw_m (e : Nat) (h : 1 ≤ e) : pw e * 10 = pw (e + 1) := by
  cases e with
  | zero => omega
  | succ e => show pw (e + 1) * 10 = 10 * pw (e + 1); omega
theorem pw_0 (e : Nat) : 0 ≤ pw e ∧ (1 ≤ e → 1 ≤ pw e) ∧ pw e ≤ pw (e + 1) := by
  induction e with
  | zero => exact ⟨by decide, fun h => by omega, by decide⟩
  | succ e ih =>
    have h := pw_m (e + 1) (by omega)
    have h2 : 1 ≤ pw (e + 1) := by
      cases e with
      | zero => decide
      | succ e => have := ih.2.1 (by omega); omega
    exact ⟨by omega, fun _ => h2, by omega⟩
theorem pw_le (a : Nat) : ∀ r, pw a ≤ pw (a + r)
  | 0 => Int.le_refl _
  | r + 1 => Int.le_trans (pw_le a r) (pw_0 (a + r)).2.2
theorem tx_v {k : Nat} (hk : k < 7) : ∃ v : Int, tx k = zI v ∧ 0 ≤ v ∧ v ≤ 127 := by
  have m7 : k = 0 ∨ k = 1 ∨ k = 2 ∨ k = 3 ∨ k = 4 ∨ k = 5 ∨ k = 6 := by omega
  rcases m7 with rfl | rfl | rfl | rfl | rfl | rfl | rfl
  · exact ⟨121, by decide, by omega, by omega⟩
  · exact ⟨109, by decide, by omega, by omega⟩
  · exact ⟨119, by decide, by omega, by omega⟩
  · exact ⟨100, by decide, by omega, by omega⟩
  · exact ⟨104, by decide, by omega, by omega⟩
  · exact ⟨105, by decide, by omega, by omega⟩
  · exact ⟨115, by decide, by omega, by omega⟩
theorem w_skip (N : Nat) {s : Int} {e : Nat} (h1 : s < pw (e + 1)) (hs : 0 ≤ s ∧ s ≤ 99999) (L ci : Int32) (cs : Nat → Int32) (f : Nat) : ∀ r, e + r ≤ 5 → fX6_putPart_l25 N (f + r) L (zI s) (zI (pw (e + r))) ci cs = fX6_putPart_l25 N f L (zI s) (zI (pw e)) ci cs := by
  intro r
  induction r with
  | zero => intro _; rfl
  | succ r ih =>
    intro hr
    have p1 := pw_le (e + 1) r
    rw [show e + 1 + r = e + (r + 1) by omega] at p1
    have p2 := pw_le (e + (r + 1)) (5 - (e + (r + 1)))
    rw [show e + (r + 1) + (5 - (e + (r + 1))) = 5 by omega, show pw 5 = 10000 from rfl] at p2
    have p3 := (pw_0 (e + (r + 1))).2.1 (by omega)
    have d1 : zI (pw (e + (r + 1))) / (10 : Int32) = zI (pw (e + r)) := by rw [zl_10, zI_div (by omega) (by omega) (by omega) (by omega)]; exact congrArg zI (pw_s (e + r))
    rw [show f + (r + 1) = (f + r) + 1 by omega, fX6_putPart_l25_s, if_neg (i_nle (b := 0) (by decide) (by omega)), if_pos (i_lt rfl (by omega)), nm_s, d1]
    exact ih (by omega)
/-! the seven values -/
def vo (m d s : Int) (x : Nat) : Int := if x = 0 then m.tdiv 12 else if x = 1 then m - m.tdiv 12 * 12 else if x = 2 then d.tdiv 7 else if x = 3 then d - d.tdiv 7 * 7 else if x = 4 then s.tdiv 3600 else if x = 5 then s.tdiv 60 - (s.tdiv 60).tdiv 60 * 60 else s - s.tdiv 60 * 60
theorem td_b {a : Int} (b : Int) (hb : b = 7 ∨ b = 12 ∨ b = 60 ∨ b = 3600) (ha : -1000000000 ≤ a ∧ a ≤ 1000000000) : (-1000000000 ≤ a.tdiv b ∧ a.tdiv b ≤ 1000000000) ∧ -99999 ≤ a - a.tdiv b * b ∧ a - a.tdiv b * b ≤ 99999 := by
  by_cases g : 0 ≤ a
  · rw [tdiv_pos g]; rcases hb with rfl | rfl | rfl | rfl <;> omega
  · rw [tdiv_neg (by omega)]; rcases hb with rfl | rfl | rfl | rfl <;> omega
theorem vo_s {m d s : Int} (h : sp_b3 m d s) {x : Nat} (hx : x = 1 ∨ x = 3 ∨ x = 5 ∨ x = 6) : -99999 ≤ vo m d s x ∧ vo m d s x ≤ 99999 := by
  obtain ⟨h1, h2, h3⟩ := h
  rcases hx with rfl | rfl | rfl | rfl
  · exact (td_b 12 (by omega) h1).2
  · exact (td_b 7 (by omega) h2).2
  · exact (td_b 60 (by omega) (td_b 60 (by omega) h3).1).2
  · exact (td_b 60 (by omega) h3).2
theorem vo_b {m d s : Int} (h : sp_b3 m d s) (x : Nat) : -1000000000 ≤ vo m d s x ∧ vo m d s x ≤ 1000000000 := by
  obtain ⟨h1, h2, h3⟩ := h
  have a1 := td_b 12 (by omega) h1
  have a2 := td_b 7 (by omega) h2
  have a3 := td_b 60 (by omega) h3
  have a4 := td_b 3600 (by omega) h3
  have a5 := td_b 60 (by omega) a3.1
  unfold vo
  repeat' split
  all_goals omega
theorem e_isShort (N : Nat) {v : Int} (h : -1000000000 ≤ v ∧ v ≤ 1000000000) : fX9_isShort N (zI v) = some (if -99999 ≤ v ∧ v ≤ 99999 then zI 1 else zI 0) := by
  unfold fX9_isShort
  by_cases g1 : v < -99999
  · rw [if_pos (i_lt (b := -99999) (by decide) (by omega)), if_neg (by omega)]; rfl
  · rw [if_neg (i_nlt (b := -99999) (by decide) (by omega))]
    by_cases g2 : 99999 < v
    · rw [if_pos (i_gt (b := 99999) (by decide) (by omega)), if_neg (by omega)]; rfl
    · rw [if_neg (i_ngt (b := 99999) (by decide) (by omega)), if_pos (by omega)]; rfl
