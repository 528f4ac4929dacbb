/-! phrase -/
def pw : Nat → Int
  | 0 => 0
  | 1 => 1
  | n + 2 => 10 * pw (n + 1)
theorem pw_s (e : Nat) : pw (e + 1) / 10 = pw e := by
  cases e with
  | zero => rfl
  | succ e => show 10 * pw (e + 1) / 10 = pw (e + 1); omega
theorem pw_m (e : Nat) (h : 1 ≤ e) : pw e * 10 = pw (e + 1) := by
  cases e with
  | zero => omega
  | succ e => show pw (e + 1) * 10 = 10 * pw (e + 1); omega
theorem pw_0 (e : Nat) : 0 ≤ pw e ∧ (1 ≤ e → 1 ≤ pw e) ∧ pw e ≤ pw (e + 1) := by
  induction e with
  | zero => exact ⟨by decide, fun h => by omega, by decide⟩
  | succ e ih =>
    have h := pw_m (e + 1) (by omega)
    have h2 : 1 ≤ pw (e + 1) := by
      cases e with
      | zero => decide
      | succ e => have := ih.2.1 (by omega); omega
    exact ⟨by omega, fun _ => h2, by omega⟩
theorem pw_le (a : Nat) : ∀ r, pw a ≤ pw (a + r)
  | 0 => Int.le_refl _
  | r + 1 => Int.le_trans (pw_le a r) (pw_0 (a + r)).2.2
theorem tx_v {k : Nat} (hk : k < 7) : ∃ v : Int, tx k = zI v ∧ 0 ≤ v ∧ v ≤ 127 := by
  have m7 : k = 0 ∨ k = 1 ∨ k = 2 ∨ k = 3 ∨ k = 4 ∨ k = 5 ∨ k = 6 := by omega
  rcases m7 with rfl | rfl | rfl | rfl | rfl | rfl | rfl
  · exact ⟨121, by decide, by omega, by omega⟩
  · exact ⟨109, by decide, by omega, by omega⟩
  · exact ⟨119, by decide, by omega, by omega⟩
  · exact ⟨100, by decide, by omega, by omega⟩
  · exact ⟨104, by decide, by omega, by omega⟩
  · exact ⟨105, by decide, by omega, by omega⟩
  · exact ⟨115, by decide, by omega, by omega⟩
theorem e_letter (N : Nat) {k : Nat} (hk : k < 7) : fX10_letter N (zI (k : Int)) = some (tx k) := by
  unfold fX10_letter
  rw [if_pos ⟨i_ge' (b := 0) (by decide) (by omega), i_lt (b := 7) (by decide) (by omega)⟩, zI_cl (by omega) (by omega), tn1]
theorem w_digs (N : Nat) {k : Nat} (hk : k < 7) {s : Int} (hs : 0 ≤ s ∧ s ≤ 99999) (j : Nat → Int64) : ∀ (e n : Nat) (ci : Int32) (cs i pg : Nat → Int32), PR n ci cs i pg → n + e + 1 ≤ 100 → e ≤ 5 → (1 ≤ e → pw e ≤ s) → ∀ f g, ∃ ci' cs' i' pg', fX6_putPart_l25 N (f + 1 + e) (tx k) (zI s) (zI (pw e)) ci cs = some (ci', cs') ∧ fX10_writesPart_l48 N j (g + 1 + e) (zI (k : Int)) (zI s) (zI (pw e)) i pg = some (i', pg') ∧ PR (n + e + 1) ci' cs' i' pg' ∧ FP i i' := by
  intro e
  induction e with
  | zero =>
    intro n ci cs i pg h hn he hp f g
    obtain ⟨v, hv, v1, v2⟩ := tx_v hk
    obtain ⟨ci', cs', i', pg', a1, b1, h1, f1⟩ := w_put N j h (by omega) hv ⟨v1, v2⟩
    refine ⟨ci', cs', i', pg', ?_, ?_, h1, f1⟩
    · rw [show f + 1 + 0 = f + 1 by omega, fX6_putPart_l25_s, if_pos (by decide), a1, bd2_s]
    · rw [show g + 1 + 0 = g + 1 by omega, fX10_writesPart_l48_s, if_pos (by decide), e_letter N hk, bd1_s, b1, bd2_s]
  | succ e ih =>
    intro n ci cs i pg h hn he hp f g
    have p0 := pw_0 (e + 1)
    have p1 := p0.2.1 (by omega)
    have p2 := hp (by omega)
    have p3 := pw_0 e
    have d1 : zI (pw (e + 1)) / (10 : Int32) = zI (pw e) := by rw [zl_10, zI_div (by omega) (by omega) (by omega) (by omega), pw_s]
    have q0 : 0 ≤ s / pw (e + 1) := Int.ediv_nonneg hs.1 (by omega)
    have q1 : s / pw (e + 1) ≤ s := Int.ediv_le_self _ hs.1
    have d2 : (48 : Int32) + (zI s / zI (pw (e + 1)) - zI s / zI (pw (e + 1)) / (10 : Int32) * (10 : Int32)) = zI (48 + s / pw (e + 1) % 10) := by
      rw [zI_div (by omega) (by omega) (by omega) (by omega), zl_10, zI_div (by omega) (by omega) (by omega) (by omega), zI_mul, zI_sub, zl_48, zI_add]; congr 1; omega
    obtain ⟨ci1, cs1, i1, pg1, a1, b1, h1, f1⟩ := w_put N j h (by omega) d2 (by omega)
    obtain ⟨ci2, cs2, i2, pg2, a2, b2, h2, f2⟩ := ih (n + 1) ci1 cs1 i1 pg1 h1 (by omega) (by omega) (fun _ => by omega) f g
    refine ⟨ci2, cs2, i2, pg2, ?_, ?_, by rw [show n + (e + 1) + 1 = n + 1 + e + 1 by omega]; exact h2, f1.tr f2⟩
    · rw [show f + 1 + (e + 1) = (f + 1 + e) + 1 by omega, fX6_putPart_l25_s, if_neg (i_nle (b := 0) (by decide) (by omega)), if_neg (i_nlt rfl (by omega)), a1, bd2_s, nm_s, d1, a2]
      unfold gn
      rw [if_neg (i_neq (b := 0) (by decide) (by omega))]
    · rw [show g + 1 + (e + 1) = (g + 1 + e) + 1 by omega, fX10_writesPart_l48_s, if_neg (i_nle (b := 0) (by decide) (by omega)), b1, bd2_s, nm_s, d1, b2]
      unfold gn
      rw [if_neg (i_neq (b := 0) (by decide) (by omega))]
theorem w_skip (N : Nat) {s : Int} {e : Nat} (h1 : s < pw (e + 1)) (hs : 0 ≤ s ∧ s ≤ 99999) (L ci : Int32) (cs : Nat → Int32) (f : Nat) : ∀ r, e + r ≤ 5 → fX6_putPart_l25 N (f + r) L (zI s) (zI (pw (e + r))) ci cs = fX6_putPart_l25 N f L (zI s) (zI (pw e)) ci cs := by
  intro r
  induction r with
  | zero => intro _; rfl
  | succ r ih =>
    intro hr
    have p1 := pw_le (e + 1) r
    rw [show e + 1 + r = e + (r + 1) by omega] at p1
    have p2 := pw_le (e + (r + 1)) (5 - (e + (r + 1)))
    rw [show e + (r + 1) + (5 - (e + (r + 1))) = 5 by omega, show pw 5 = 10000 from rfl] at p2
    have p3 := (pw_0 (e + (r + 1))).2.1 (by omega)
    have d1 : zI (pw (e + (r + 1))) / (10 : Int32) = zI (pw (e + r)) := by rw [zl_10, zI_div (by omega) (by omega) (by omega) (by omega)]; exact congrArg zI (pw_s (e + r))
    rw [show f + (r + 1) = (f + r) + 1 by omega, fX6_putPart_l25_s, if_neg (i_nle (b := 0) (by decide) (by omega)), if_pos (i_lt rfl (by omega)), nm_s, d1]
    exact ih (by omega)
theorem w_climb (N : Nat) {s : Int} (hs : 0 ≤ s ∧ s ≤ 99999) (j : Nat → Int64) (v2 : Int32) (i pg : Nat → Int32) (f : Nat) : ∀ (r e : Nat), 1 ≤ e → e + r ≤ 5 → pw (e + r) ≤ s → s < pw (e + r + 1) → fX10_writesPart_l29 N j (f + 1 + r) v2 (zI s) (zI (pw e)) i pg = fX10_writesPart_l48 N j N v2 (zI s) (zI (pw (e + r))) i pg := by
  intro r
  induction r with
  | zero =>
    intro e he h5 h1 h2
    have p0 := (pw_0 e).1
    have e1 : zI (pw e) * (10 : Int32) = zI (pw (e + 1)) := by rw [zl_10, zI_mul, pw_m e he]
    have p2 := pw_le e (5 - e)
    rw [show e + (5 - e) = 5 by omega, show pw 5 = 10000 from rfl] at p2
    have p3 := pw_m e he
    rw [show f + 1 + 0 = f + 1 by omega, fX10_writesPart_l29_s, e1, if_pos (i_lt rfl (by simp only [Nat.add_zero] at h2; omega))]; rfl
  | succ r ih =>
    intro e he h5 h1 h2
    have p0 := (pw_0 e).1
    have e1 : zI (pw e) * (10 : Int32) = zI (pw (e + 1)) := by rw [zl_10, zI_mul, pw_m e he]
    have p2 := pw_le (e + 1) r
    rw [show e + 1 + r = e + (r + 1) by omega] at p2
    have p3 := pw_m e he
    rw [show f + 1 + (r + 1) = (f + 1 + r) + 1 by omega, fX10_writesPart_l29_s, e1, if_neg (i_nlt rfl (by omega)), nm_s, ih (e + 1) (by omega) (by omega) (by rw [show e + 1 + r = e + (r + 1) by omega]; exact h1) (by rw [show e + 1 + r + 1 = e + (r + 1) + 1 by omega]; exact h2), show e + 1 + r = e + (r + 1) by omega]
theorem w_size (N : Nat) (hN : 20 ≤ N) {k : Nat} (hk : k < 7) {s : Int} (hs : 1 ≤ s ∧ s ≤ 99999) (j : Nat → Int64) {n : Nat} {ci : Int32} {cs i pg : Nat → Int32} (h : PR n ci cs i pg) (hn : n + 6 ≤ 100) : ∃ n' ci' cs' i' pg', n' ≤ n + 6 ∧ fX6_putPart_l25 N N (tx k) (zI s) (10000 : Int32) ci cs = some (ci', cs') ∧ fX10_writesPart_l29 N j N (zI (k : Int)) (zI s) (1 : Int32) i pg = some (i', pg') ∧ PR n' ci' cs' i' pg' ∧ FP i i' := by
  obtain ⟨e, e1, e5, a1, a2⟩ : ∃ e : Nat, 1 ≤ e ∧ e ≤ 5 ∧ pw e ≤ s ∧ s < pw (e + 1) := by
    by_cases g1 : s < 10
    · exact ⟨1, by omega, by omega, by show (1 : Int) ≤ s; omega, g1⟩
    by_cases g2 : s < 100
    · exact ⟨2, by omega, by omega, by show (10 : Int) ≤ s; omega, g2⟩
    by_cases g3 : s < 1000
    · exact ⟨3, by omega, by omega, by show (100 : Int) ≤ s; omega, g3⟩
    by_cases g4 : s < 10000
    · exact ⟨4, by omega, by omega, by show (1000 : Int) ≤ s; omega, g4⟩
    · exact ⟨5, by omega, by omega, by show (10000 : Int) ≤ s; omega, by show s < (100000 : Int); omega⟩
  obtain ⟨ci', cs', i', pg', b1, b2, b3, b4⟩ := w_digs N hk (s := s) (by omega) j e n ci cs i pg h (by omega) e5 (fun _ => a1) (N - 6) (N - 1 - e)
  refine ⟨n + e + 1, ci', cs', i', pg', by omega, ?_, ?_, b3, b4⟩
  · have S := w_skip N a2 (by omega) (tx k) ci cs (N - 6 + 1 + e) (5 - e) (by omega)
    rw [show N - 6 + 1 + e + (5 - e) = N by omega, show e + (5 - e) = 5 by omega, b1] at S
    exact S
  · have C := w_climb N (s := s) (by omega) j (zI (k : Int)) i pg (N - 1 - (e - 1)) (e - 1) 1 (by omega) (by omega) (by rw [show 1 + (e - 1) = e by omega]; exact a1) (by rw [show 1 + (e - 1) + 1 = e + 1 by omega]; exact a2)
    rw [show N - 1 - (e - 1) + 1 + (e - 1) = N by omega, show 1 + (e - 1) = e by omega] at C
    rw [show N - 1 - e + 1 + e = N by omega] at b2
    exact C.trans b2
theorem w_part (N : Nat) (hN : 20 ≤ N) {k : Nat} (hk : k < 7) {v : Int} (hv : -99999 ≤ v ∧ v ≤ 99999) (j : Nat → Int64) {n : Nat} {ci : Int32} {cs i pg : Nat → Int32} (h : PR n ci cs i pg) (hn : n + 7 ≤ 100) : ∃ n' ci' cs' i' pg', n' ≤ n + 7 ∧ fX6_putPart N (zI v) (tx k) ci cs = some (ci', cs') ∧ fX10_writesPart N (zI v) (zI (k : Int)) i j pg = some (i', pg') ∧ PR n' ci' cs' i' pg' ∧ FP i i' := by
  have k0 : (0 : Int32) ≤ zI v ↔ 0 ≤ v := by
    constructor
    · intro q
      by_cases g : 0 ≤ v
      · exact g
      · exact absurd q (i_nge' (b := 0) (by decide) (by omega))
    · intro q; exact i_ge' (b := 0) (by decide) (by omega)
  unfold fX6_putPart fX10_writesPart fX10_writesPart_j15
  by_cases g0 : v = 0
  · exact ⟨n, ci, cs, i, pg, by omega, by rw [if_pos (i_eq (b := 0) (by decide) g0)], by rw [if_pos (i_eq (b := 0) (by decide) g0)], h, fun _ _ => rfl⟩
  · rw [if_neg (i_neq (b := 0) (by decide) (by omega)), if_neg (i_neq (b := 0) (by decide) (by omega))]
    by_cases g1 : 0 ≤ v
    · obtain ⟨n', ci', cs', i', pg', a0, a1, a2, a3, a4⟩ := w_size N hN hk (s := v) (by omega) j h (by omega)
      refine ⟨n', ci', cs', i', pg', by omega, ?_, ?_, a3, a4⟩
      · rw [if_pos (k0.mpr g1), if_pos (k0.mpr g1), nm_s, a1]
      · rw [if_pos (k0.mpr g1), if_pos (k0.mpr g1), a2]
    · obtain ⟨ci1, cs1, i1, pg1, b1, b2, b3, b4⟩ := w_put N j h (by omega) (V := (45 : Int32)) (v := 45) (by decide) (by omega)
      obtain ⟨n', ci', cs', i', pg', a0, a1, a2, a3, a4⟩ := w_size N hN hk (s := -v) (by omega) j b3 (by omega)
      have e1 : (0 : Int32) - zI v = zI (-v) := by rw [zl_0, zI_sub]; congr 1; omega
      refine ⟨n', ci', cs', i', pg', by omega, ?_, ?_, a3, b4.tr a4⟩
      · rw [if_neg (fun q => g1 (k0.mp q)), b1, bd2_s, nm_s, if_neg (fun q => g1 (k0.mp q)), e1, a1]
      · rw [if_neg (fun q => g1 (k0.mp q)), b2, bd2_s, if_neg (fun q => g1 (k0.mp q)), nm_s, zI_neg, a2]
/-! the seven values -/
def vo (m d s : Int) (x : Nat) : Int := if x = 0 then m.tdiv 12 else if x = 1 then m - m.tdiv 12 * 12 else if x = 2 then d.tdiv 7 else if x = 3 then d - d.tdiv 7 * 7 else if x = 4 then s.tdiv 3600 else if x = 5 then s.tdiv 60 - (s.tdiv 60).tdiv 60 * 60 else s - s.tdiv 60 * 60
theorem td_b {a : Int} (b : Int) (hb : b = 7 ∨ b = 12 ∨ b = 60 ∨ b = 3600) (ha : -1000000000 ≤ a ∧ a ≤ 1000000000) : (-1000000000 ≤ a.tdiv b ∧ a.tdiv b ≤ 1000000000) ∧ -99999 ≤ a - a.tdiv b * b ∧ a - a.tdiv b * b ≤ 99999 := by
  by_cases g : 0 ≤ a
  · rw [tdiv_pos g]; rcases hb with rfl | rfl | rfl | rfl <;> omega
  · rw [tdiv_neg (by omega)]; rcases hb with rfl | rfl | rfl | rfl <;> omega
theorem vo_s {m d s : Int} (h : sp_b3 m d s) {x : Nat} (hx : x = 1 ∨ x = 3 ∨ x = 5 ∨ x = 6) : -99999 ≤ vo m d s x ∧ vo m d s x ≤ 99999 := by
  obtain ⟨h1, h2, h3⟩ := h
  rcases hx with rfl | rfl | rfl | rfl
  · exact (td_b 12 (by omega) h1).2
  · exact (td_b 7 (by omega) h2).2
  · exact (td_b 60 (by omega) (td_b 60 (by omega) h3).1).2
  · exact (td_b 60 (by omega) h3).2
theorem e_valueOf (N : Nat) {k : Nat} (hk : k < 8) {S : Nat → Int32} {m d s : Int} (h0 : S (3 * k) = zI m) (h1 : S (3 * k + 1) = zI d) (h2 : S (3 * k + 2) = zI s) (hb : sp_b3 m d s) (i : Nat → Int32) (j : Nat → Int64) {x : Nat} (hx : x < 7) : fX10_valueOf N (zI (k : Int)) (zI (x : Int)) i j S = some (zI (vo m d s x)) := by
  obtain ⟨b1, b2, b3⟩ := hb
  have c3 : (3 : Int32) * zI (k : Int) = zI (3 * k) := by rw [zl_3, zI_mul]
  have hpt := pt_b x
  unfold fX10_valueOf
  rw [e_part N hx, bd1_s, c3, zI_add, gi_z (by omega) (by omega) (by omega), zI_cl (by omega) (by omega), show (3 * (k : Int) + (pt x : Int)).toNat = 3 * k + pt x by omega, nm_s]
  have m7 : x = 0 ∨ x = 1 ∨ x = 2 ∨ x = 3 ∨ x = 4 ∨ x = 5 ∨ x = 6 := by omega
  have t12 := (td_b 12 (by omega) b1).1
  have t7 := (td_b 7 (by omega) b2).1
  have t60 := (td_b 60 (by omega) b3).1
  have y12 : zI m / (12 : Int32) = zI (m.tdiv 12) := by rw [zl_12, zI_tdiv (by omega) (by omega) (by omega) (by omega)]
  have y7 : zI d / (7 : Int32) = zI (d.tdiv 7) := by rw [zl_7, zI_tdiv (by omega) (by omega) (by omega) (by omega)]
  have y36 : zI s / (3600 : Int32) = zI (s.tdiv 3600) := by rw [zl_3600, zI_tdiv (by omega) (by omega) (by omega) (by omega)]
  have y60 : zI s / (60 : Int32) = zI (s.tdiv 60) := by rw [zl_60, zI_tdiv (by omega) (by omega) (by omega) (by omega)]
  have y66 : zI (s.tdiv 60) / (60 : Int32) = zI ((s.tdiv 60).tdiv 60) := by rw [zl_60, zI_tdiv (by omega) (by omega) (by omega) (by omega)]
  rcases m7 with rfl | rfl | rfl | rfl | rfl | rfl | rfl
  · rw [show 3 * k + pt 0 = 3 * k from rfl, h0, if_pos (by decide), y12]; rfl
  · rw [show 3 * k + pt 1 = 3 * k from rfl, h0, if_neg (by decide), if_pos (by decide), y12, zl_12, zI_mul, zI_sub]; rfl
  · rw [show 3 * k + pt 2 = 3 * k + 1 from rfl, h1, if_neg (by decide), if_neg (by decide), if_pos (by decide), y7]; rfl
  · rw [show 3 * k + pt 3 = 3 * k + 1 from rfl, h1, if_neg (by decide), if_neg (by decide), if_neg (by decide), if_pos (by decide), y7, zl_7, zI_mul, zI_sub]; rfl
  · rw [show 3 * k + pt 4 = 3 * k + 2 from rfl, h2, if_neg (by decide), if_neg (by decide), if_neg (by decide), if_neg (by decide), if_pos (by decide), y36]; rfl
  · rw [show 3 * k + pt 5 = 3 * k + 2 from rfl, h2, if_neg (by decide), if_neg (by decide), if_neg (by decide), if_neg (by decide), if_neg (by decide), if_pos (by decide), y60, y66, zl_60, zI_mul, zI_sub]; rfl
  · rw [show 3 * k + pt 6 = 3 * k + 2 from rfl, h2, if_neg (by decide), if_neg (by decide), if_neg (by decide), if_neg (by decide), if_neg (by decide), if_neg (by decide), y60, zl_60, zI_mul, zI_sub]; rfl
theorem vo_b {m d s : Int} (h : sp_b3 m d s) (x : Nat) : -1000000000 ≤ vo m d s x ∧ vo m d s x ≤ 1000000000 := by
  obtain ⟨h1, h2, h3⟩ := h
  have a1 := td_b 12 (by omega) h1
  have a2 := td_b 7 (by omega) h2
  have a3 := td_b 60 (by omega) h3
  have a4 := td_b 3600 (by omega) h3
  have a5 := td_b 60 (by omega) a3.1
  unfold vo
  repeat' split
  all_goals omega
theorem ph_step (N : Nat) (hN : 20 ≤ N) {k : Nat} (hk : k < 8) {S : Nat → Int32} {m d s : Int} (h0 : S (3 * k) = zI m) (h1 : S (3 * k + 1) = zI d) (h2 : S (3 * k + 2) = zI s) (hb : sp_b3 m d s) (j : Nat → Int64) {x : Nat} (hx : x < 7) (hv : -99999 ≤ vo m d s x ∧ vo m d s x ≤ 99999) {n : Nat} {ci : Int32} {cs i pg : Nat → Int32} (h : PR n ci cs i pg) (hn : n + 7 ≤ 100) (v2 : Int32) : ∃ n' ci' cs' i' pg', n' ≤ n + 7 ∧ fX6_putPart N (zI (vo m d s x)) (tx x) ci cs = some (ci', cs') ∧ PR n' ci' cs' i' pg' ∧ FP i i' ∧ ∀ f, fX10_phrase_l26 N j S (f + 1) (zI (k : Int)) v2 (zI (x : Int)) i pg = fX10_phrase_l26 N j S f (zI (k : Int)) v2 (zI ((x + 1 : Nat) : Int)) i' pg' := by
  obtain ⟨n', ci', cs', i', pg', a0, a1, a2, a3, a4⟩ := w_part N hN hx hv j h hn
  refine ⟨n', ci', cs', i', pg', a0, a1, a3, a4, fun f => ?_⟩
  have c1 : zI (x : Int) + (1 : Int32) = zI ((x + 1 : Nat) : Int) := by rw [zl_1, zI_add]; rfl
  rw [fX10_phrase_l26_s, if_neg (i_nge' (b := 7) (by decide) (by omega)), e_valueOf N hk h0 h1 h2 hb i j hx, bd1_s, zI_toL (by omega) (by omega), show (-99999 : Int64) = zL (-99999) by decide, show (99999 : Int64) = zL 99999 by decide, e_in_m N (by omega) (by omega) (by omega) (by omega) (by omega) (by omega), bd1_s, if_pos hv, if_neg z10, bd1_s, a2, bd2_s, nm_s, c1]
theorem ph_fail (N : Nat) {k : Nat} (hk : k < 8) {S : Nat → Int32} {m d s : Int} (h0 : S (3 * k) = zI m) (h1 : S (3 * k + 1) = zI d) (h2 : S (3 * k + 2) = zI s) (hb : sp_b3 m d s) (j : Nat → Int64) {x : Nat} (hx : x < 7) (hv : ¬ (-99999 ≤ vo m d s x ∧ vo m d s x ≤ 99999)) (i pg : Nat → Int32) (v2 : Int32) (f : Nat) : fX10_phrase_l26 N j S (f + 1) (zI (k : Int)) v2 (zI (x : Int)) i pg = some ((-2 : Int32), i, pg) := by
  have hb2 := vo_b hb x
  rw [fX10_phrase_l26_s, if_neg (i_nge' (b := 7) (by decide) (by omega)), e_valueOf N hk h0 h1 h2 hb i j hx, bd1_s, zI_toL (by omega) (by omega), show (-99999 : Int64) = zL (-99999) by decide, show (99999 : Int64) = zL 99999 by decide, e_in_m N (by omega) (by omega) (by omega) (by omega) (by omega) (by omega), bd1_s, if_neg hv, if_pos z00]
theorem e_isShort (N : Nat) {v : Int} (h : -1000000000 ≤ v ∧ v ≤ 1000000000) : fX9_isShort N (zI v) = some (if -99999 ≤ v ∧ v ≤ 99999 then zI 1 else zI 0) := by
  unfold fX9_isShort
  by_cases g1 : v < -99999
  · rw [if_pos (i_lt (b := -99999) (by decide) (by omega)), if_neg (by omega)]; rfl
  · rw [if_neg (i_nlt (b := -99999) (by decide) (by omega))]
    by_cases g2 : 99999 < v
    · rw [if_pos (i_gt (b := 99999) (by decide) (by omega)), if_neg (by omega)]; rfl
    · rw [if_neg (i_ngt (b := 99999) (by decide) (by omega)), if_pos (by omega)]; rfl
theorem p_phrase (N : Nat) (hN : 200000 ≤ N) (p1 : Int32) (p2 : Int32) {ks : Int32} {a : Nat → Int32} {b : Nat → Int32} {c : Nat → Int32} {ci : Int32} {cs : Nat → Int32} {i : Nat → Int32} {j : Nat → Int64} {S : Nat → Int32} {pg : Nat → Int32} {mm da se : Nat → Int} (hS : RelS mm da se a b c S) (hC : RelC ci) : 
    ∃ (r : Int32) (ci' : Int32) (cs' : Nat → Int32) (i' : Nat → Int32) (pg' : Nat → Int32), fX9_phrase N p1 p2 ks a b c ci cs = some (r, ci', cs') ∧ fX10_phrase N p1 p2 i j S pg = some (r, i', pg') ∧ RelC ci' ∧ i' 4 = i 4 ∧ i' 6 = i 6 ∧ i' 8 = i 8 := by
  obtain ⟨z1, l1, v1, rfl⟩ := zI_of p1
  obtain ⟨z2, l2, v2, rfl⟩ := zI_of p2
  by_cases q0 : 0 ≤ z1 ∧ z1 ≤ 7
  case neg =>
    refine ⟨(-1 : Int32), ci, cs, upd i 9 (zI 0), pg, ?_, ?_, hC, by simp (disch := omega) only [upd_n], by simp (disch := omega) only [upd_n], by simp (disch := omega) only [upd_n]⟩
    · unfold fX9_phrase
      rw [c_slot0 N l1 v1 q0, bd1_s, if_pos z00]
    · unfold fX10_phrase
      rw [m_slot0 N l1 v1 q0, bd1_s, if_pos z00]
      rfl
  obtain ⟨k1, hk1, rfl⟩ : ∃ k1 : Nat, k1 < 8 ∧ z1 = (k1 : Int) := ⟨z1.toNat, by omega, by omega⟩
  obtain ⟨s1, s2, s3, s4, s5, s6, s7⟩ := hS k1 hk1
  unfold fX9_phrase fX10_phrase
  rw [c_slot1 N q0, bd1_s, if_neg z10, m_slot1 N q0, bd1_s, if_neg z10]
  by_cases q1 : -1 ≤ z2
  case neg =>
    refine ⟨(-1 : Int32), ci, cs, upd i 9 (zI 0), pg, ?_, ?_, hC, by simp (disch := omega) only [upd_n], by simp (disch := omega) only [upd_n], by simp (disch := omega) only [upd_n]⟩
    · rw [if_neg (i_nge' (b := -1) (by decide) (by omega))]
    · rw [if_neg (i_nge' (b := -1) (by decide) (by omega))]; rfl
  rw [if_pos (i_ge' (b := -1) (by decide) (by omega)), if_pos (i_ge' (b := -1) (by decide) (by omega)), e_monthsAt N a hk1, bd1_s, e_daysAt N b hk1, bd1_s, e_secondsAt N c hk1, bd1_s, s1, s2, s3]
  obtain ⟨b1, b2, b3⟩ := s7
  have t12 := (td_b 12 (by omega) b1).1
  have t7 := (td_b 7 (by omega) b2).1
  have t36 := (td_b 3600 (by omega) b3).1
  have t60 := (td_b 60 (by omega) b3).1
  have y0 : zI (mm k1) / (12 : Int32) = zI (vo (mm k1) (da k1) (se k1) 0) := by rw [zl_12, zI_tdiv (by omega) (by omega) (by omega) (by omega)]; rfl
  have y1 : zI (mm k1) - zI (vo (mm k1) (da k1) (se k1) 0) * (12 : Int32) = zI (vo (mm k1) (da k1) (se k1) 1) := by rw [zl_12, zI_mul, zI_sub]; rfl
  have y2 : zI (da k1) / (7 : Int32) = zI (vo (mm k1) (da k1) (se k1) 2) := by rw [zl_7, zI_tdiv (by omega) (by omega) (by omega) (by omega)]; rfl
  have y3 : zI (da k1) - zI (vo (mm k1) (da k1) (se k1) 2) * (7 : Int32) = zI (vo (mm k1) (da k1) (se k1) 3) := by rw [zl_7, zI_mul, zI_sub]; rfl
  have y4 : zI (se k1) / (3600 : Int32) = zI (vo (mm k1) (da k1) (se k1) 4) := by rw [zl_3600, zI_tdiv (by omega) (by omega) (by omega) (by omega)]; rfl
  have y5 : zI (se k1) / (60 : Int32) - zI (se k1) / (60 : Int32) / (60 : Int32) * (60 : Int32) = zI (vo (mm k1) (da k1) (se k1) 5) := by rw [zl_60, zI_tdiv (by omega) (by omega) (by omega) (by omega), zI_tdiv (by omega) (by omega) (by omega) (by omega), zI_mul, zI_sub]; rfl
  have y6 : zI (se k1) - zI (se k1) / (60 : Int32) * (60 : Int32) = zI (vo (mm k1) (da k1) (se k1) 6) := by rw [zl_60, zI_tdiv (by omega) (by omega) (by omega) (by omega), zI_mul, zI_sub]; rfl
  have hb3 : sp_b3 (mm k1) (da k1) (se k1) := ⟨b1, b2, b3⟩
  obtain ⟨i0, hi0⟩ : ∃ i0, i0 = upd (upd i 9 (0 : Int32)) 28 (0 : Int32) := ⟨_, rfl⟩
  have i4 : i0 4 = i 4 := by rw [hi0]; simp (disch := omega) only [upd_n]
  have i6 : i0 6 = i 6 := by rw [hi0]; simp (disch := omega) only [upd_n]
  have i8 : i0 8 = i 8 := by rw [hi0]; simp (disch := omega) only [upd_n]
  obtain ⟨M, rfl⟩ : ∃ M, N = M + 1 + 1 + 1 + 1 + 1 + 1 + 1 + 1 := ⟨N - 8, by omega⟩
  obtain ⟨ci0, hc0, h0⟩ := w_begin (M + 1 + 1 + 1 + 1 + 1 + 1 + 1 + 1) cs i0 pg hC (by rw [hi0, upd_s])
  rw [← hi0, y0, y2, y4, y1, y3, y5, y6, hc0, e_isShort _ (vo_b hb3 0), bd1_s]
  have e00 : (0 : Int32) = zI ((0 : Nat) : Int) := by decide
  by_cases g0 : -99999 ≤ vo (mm k1) (da k1) (se k1) 0 ∧ vo (mm k1) (da k1) (se k1) 0 ≤ 99999
  case neg =>
    refine ⟨(-2 : Int32), ci, cs, i0, pg, ?_, ?_, hC, i4, i6, i8⟩
    · rw [if_neg g0, if_pos z00]
    · have F := ph_fail (M + 1 + 1 + 1 + 1 + 1 + 1 + 1 + 1) hk1 s4 s5 s6 hb3 j (x := 0) (by omega) g0 i0 pg (zI z2) (M + 1 + 1 + 1 + 1 + 1 + 1 + 1)
      rw [← e00] at F; exact F
  obtain ⟨n1, c1, d1, i1, p1, a1, r1, h1, f1, L1⟩ := ph_step (M + 1 + 1 + 1 + 1 + 1 + 1 + 1 + 1) (by omega) hk1 s4 s5 s6 hb3 j (x := 0) (by omega) g0 h0 (by omega) (zI z2)
  obtain ⟨n2, c2, d2, i2, p2, a2, r2, h2, f2, L2⟩ := ph_step (M + 1 + 1 + 1 + 1 + 1 + 1 + 1 + 1) (by omega) hk1 s4 s5 s6 hb3 j (x := 1) (by omega) (vo_s hb3 (by omega)) h1 (by omega) (zI z2)
  rw [if_pos g0, if_neg z10, e_isShort _ (vo_b hb3 2), bd1_s]
  have L02 : fX10_phrase_l26 (M + 1 + 1 + 1 + 1 + 1 + 1 + 1 + 1) j S (M + 1 + 1 + 1 + 1 + 1 + 1 + 1 + 1) (zI (k1 : Int)) (zI z2) (0 : Int32) i0 pg = fX10_phrase_l26 (M + 1 + 1 + 1 + 1 + 1 + 1 + 1 + 1) j S (M + 1 + 1 + 1 + 1 + 1 + 1) (zI (k1 : Int)) (zI z2) (zI ((2 : Nat) : Int)) i2 p2 := by
    rw [e00, L1, L2]
  rw [L02]
  have fa := f1.tr f2
  by_cases g2 : -99999 ≤ vo (mm k1) (da k1) (se k1) 2 ∧ vo (mm k1) (da k1) (se k1) 2 ≤ 99999
  case neg =>
    refine ⟨(-2 : Int32), ci, cs, i2, p2, ?_, ?_, hC, by rw [fa 4 (by omega), i4], by rw [fa 6 (by omega), i6], by rw [fa 8 (by omega), i8]⟩
    · rw [if_neg g2, if_pos z00]
    · exact ph_fail (M + 1 + 1 + 1 + 1 + 1 + 1 + 1 + 1) hk1 s4 s5 s6 hb3 j (x := 2) (by omega) g2 i2 p2 (zI z2) (M + 1 + 1 + 1 + 1 + 1)
  obtain ⟨n3, c3, d3, i3, p3, a3, r3, h3, f3, L3⟩ := ph_step (M + 1 + 1 + 1 + 1 + 1 + 1 + 1 + 1) (by omega) hk1 s4 s5 s6 hb3 j (x := 2) (by omega) g2 h2 (by omega) (zI z2)
  obtain ⟨n4, c4, d4, i4', p4, a4, r4, h4, f4, L4⟩ := ph_step (M + 1 + 1 + 1 + 1 + 1 + 1 + 1 + 1) (by omega) hk1 s4 s5 s6 hb3 j (x := 3) (by omega) (vo_s hb3 (by omega)) h3 (by omega) (zI z2)
  rw [if_pos g2, if_neg z10, e_isShort _ (vo_b hb3 4), bd1_s, L3, L4]
  have fb := fa.tr (f3.tr f4)
  by_cases g4 : -99999 ≤ vo (mm k1) (da k1) (se k1) 4 ∧ vo (mm k1) (da k1) (se k1) 4 ≤ 99999
  case neg =>
    refine ⟨(-2 : Int32), ci, cs, i4', p4, ?_, ?_, hC, by rw [fb 4 (by omega), i4], by rw [fb 6 (by omega), i6], by rw [fb 8 (by omega), i8]⟩
    · rw [if_neg g4, if_pos z00]
    · exact ph_fail (M + 1 + 1 + 1 + 1 + 1 + 1 + 1 + 1) hk1 s4 s5 s6 hb3 j (x := 4) (by omega) g4 i4' p4 (zI z2) (M + 1 + 1 + 1)
  obtain ⟨n5, c5, d5, i5, p5, a5, r5, h5, f5, L5⟩ := ph_step (M + 1 + 1 + 1 + 1 + 1 + 1 + 1 + 1) (by omega) hk1 s4 s5 s6 hb3 j (x := 4) (by omega) g4 h4 (by omega) (zI z2)
  obtain ⟨n6, c6, d6, i6', p6, a6, r6, h6, f6, L6⟩ := ph_step (M + 1 + 1 + 1 + 1 + 1 + 1 + 1 + 1) (by omega) hk1 s4 s5 s6 hb3 j (x := 5) (by omega) (vo_s hb3 (by omega)) h5 (by omega) (zI z2)
  obtain ⟨n7, c7, d7, i7, p7, a7, r7, h7, f7, L7⟩ := ph_step (M + 1 + 1 + 1 + 1 + 1 + 1 + 1 + 1) (by omega) hk1 s4 s5 s6 hb3 j (x := 6) (by omega) (vo_s hb3 (by omega)) h6 (by omega) (zI z2)
  have fc := fb.tr (f5.tr (f6.tr f7))
  rw [show tx 0 = (121 : Int32) from rfl] at r1
  rw [show tx 1 = (109 : Int32) from rfl] at r2
  rw [show tx 2 = (119 : Int32) from rfl] at r3
  rw [show tx 3 = (100 : Int32) from rfl] at r4
  rw [show tx 4 = (104 : Int32) from rfl] at r5
  rw [show tx 5 = (105 : Int32) from rfl] at r6
  rw [show tx 6 = (115 : Int32) from rfl] at r7
  rw [if_pos g4, if_neg z10, bd1_s, r1, bd2_s, r2, bd2_s, r3, bd2_s, r4, bd2_s, r5, bd2_s, r6, bd2_s, r7, bd2_s, L5, L6, L7, fX10_phrase_l26_s, if_pos (by decide)]
  have h7' := h7
  obtain ⟨n7b, e7, e28, -⟩ := h7'
  unfold fX6_length fX9_phrase_j215
  rw [bd1_s, e7, e28]
  by_cases g : n7 = 0
  · rw [if_pos (i_eq (b := 0) (by decide) (by omega)), if_pos (i_eq (b := 0) (by decide) (by omega)), ← e7]
    obtain ⟨c8, d8, i8', p8, r8, m8, h8, f8⟩ := w_put (M + 1 + 1 + 1 + 1 + 1 + 1 + 1 + 1) j h7 (by omega) (V := (48 : Int32)) (v := 48) (by decide) (by omega)
    obtain ⟨c9, d9, i9, p9, r9, m9, h9, f9⟩ := w_put (M + 1 + 1 + 1 + 1 + 1 + 1 + 1 + 1) j h8 (by omega) (V := (115 : Int32)) (v := 115) (by decide) (by omega)
    have fd := fc.tr (f8.tr f9)
    obtain ⟨r, w1, w2⟩ := w_sign (M + 1 + 1 + 1 + 1 + 1 + 1 + 1 + 1) j h9 (zI z2)
    refine ⟨r, c9, d9, i9, p9, ?_, ?_, h9.c, by rw [fd 4 (by omega), i4], by rw [fd 6 (by omega), i6], by rw [fd 8 (by omega), i8]⟩
    · rw [r8, bd2_s, r9, bd2_s]
      unfold fX6_length at w2 ⊢
      by_cases q : zI z2 = (-1 : Int32)
      · rw [if_pos q] at w2 ⊢; rw [w2, bd1_s]
      · rw [if_neg q] at w2 ⊢; rw [w2, bd1_s]
    · rw [m8, bd2_s, m9, bd2_s, w1, bd1_s]
  · rw [if_neg (i_neq (a := (n7 : Int)) (b := 0) (B := (0 : Int32)) (by decide) (by omega)), if_neg (i_neq (a := (n7 : Int)) (b := 0) (B := (0 : Int32)) (by decide) (by omega)), ← e7]
    obtain ⟨r, w1, w2⟩ := w_sign (M + 1 + 1 + 1 + 1 + 1 + 1 + 1 + 1) j h7 (zI z2)
    refine ⟨r, c7, d7, i7, p7, ?_, ?_, h7.c, by rw [fc 4 (by omega), i4], by rw [fc 6 (by omega), i6], by rw [fc 8 (by omega), i8]⟩
    · unfold fX6_length at w2
      try unfold fX6_length
      by_cases q : zI z2 = (-1 : Int32)
      · rw [if_pos q] at w2 ⊢; rw [w2, bd1_s]
      · rw [if_neg q] at w2 ⊢; rw [w2, bd1_s]
    · rw [w1, bd1_s]
