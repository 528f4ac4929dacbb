/-! the mean of two, the order of all, what is kept -/
theorem mean_st (N n : Nat) {ks : Int32} {f g : Nat → Int32} {tl : Int32} {nn : Nat → Int64} (v2 : Int64) (v4 v5 v6 : Int32) {v7 v8 : Int32} (h7 : ¬ (8 : Int32) ≤ v7) (hb : ((3 : Int32) &&& ((1 : Int32) <<< (v7 &&& 31))) = 0) (h8 : v7 + 1 = v8) : fX9_mean_l28 N ks f g (n + 1) 3 v2 v4 v5 v6 v7 tl nn = fX9_mean_l28 N ks f g n 3 v2 v4 v5 v6 v8 tl nn := by
  rw [fX9_mean_l28_s, if_neg h7, if_pos hb, nm_s, h8]
theorem inst_at (N : Nat) {f g : Nat → Int32} {dd ss : Nat → Int} (hM : DM dd ss f g) {p : Int32} {k : Nat} (e : p = zI k) (hk : k < 8) : fX4_instantAt N p f g = some (zL (dd k * 86400 + ss k)) := by
  subst e
  obtain ⟨f1, f2, f5, f6⟩ := hM k hk
  exact e_instantAt N f g hk f1 f2 (by omega) (by omega)
theorem s_mean (N : Nat) (hN : 200000 ≤ N) {ks tl : Int32} {nn : Nat → Int64} {f g : Nat → Int32} {dd ss : Nat → Int} (hM : DM dd ss f g) {A B : Int} (hA : A = dd 0 * 86400 + ss 0) (hB : B = dd 1 * 86400 + ss 1) :
    ∃ nn', fX9_mean N 3 ks f g tl nn = some (zI ((A + B) / 2 / 86400), zI 3, nn') ∧ nn' 1 = zL (if B < A then 1 else 0) := by
  have iA := inst_at N hM (p := 0) (k := 0) (by decide) (by omega)
  have iB := inst_at N hM (p := 1) (k := 1) (by decide) (by omega)
  obtain ⟨f1, f2, f5, f6⟩ := hM 0 (by omega)
  obtain ⟨g1, g2, g5, g6⟩ := hM 1 (by omega)
  rw [← hA] at iA
  rw [← hB] at iB
  obtain ⟨n, rfl⟩ : ∃ n, N = n + 9 := ⟨N - 9, by omega⟩
  unfold fX9_mean
  rw [if_neg (by decide), if_pos (by decide), fX9_mean_l28_s, if_neg (by decide), if_neg (by decide), iA, bd1_s, nm_s, nm_s, if_pos rfl]
  unfold fX9_mean_j91
  rw [if_pos rfl, nm_s, show (0 : Int32) + (1 : Int32) = 1 by decide, fX9_mean_l28_s, if_neg (by decide), if_neg (by decide), iB, bd1_s, nm_s, nm_s, if_neg (by decide), show (1 : Int32) + (1 : Int32) = 2 by decide, iA]
  simp only [bd1_s]
  have tail : ∀ (v : Int64) (v5 v6 : Int32), v = zL (A + B) → fX9_mean_l28 (n + 9) ks f g (n + 7) 3 v 2 v5 v6 2 tl nn = some (zI ((A + B) / 2 / 86400), zI 3, vp_updL (vp_updL (vp_updL nn 0 (zL ((A + B) / 2) - zL ((A + B) / 2) / 86400 * 86400)) 1 v5.toInt64) 2 v6.toInt64) := by
    intro v v5 v6 hv
    rw [mean_st (n + 9) (n + 6) v 2 v5 v6 (v8 := 3) (by decide) (by decide) (by decide), mean_st (n + 9) (n + 5) v 2 v5 v6 (v8 := 4) (by decide) (by decide) (by decide), mean_st (n + 9) (n + 4) v 2 v5 v6 (v8 := 5) (by decide) (by decide) (by decide), mean_st (n + 9) (n + 3) v 2 v5 v6 (v8 := 6) (by decide) (by decide) (by decide), mean_st (n + 9) (n + 2) v 2 v5 v6 (v8 := 7) (by decide) (by decide) (by decide), mean_st (n + 9) (n + 1) v 2 v5 v6 (v8 := 8) (by decide) (by decide) (by decide)]
    rw [fX9_mean_l28_s, if_pos (by decide), if_neg (by decide), show (2 : Int32).toInt64 = zL 2 by decide, gnl_z (by omega) (by omega), hv, zL_div (by omega) (by omega) (by omega) (by omega)]
    unfold fX9_mean_j143
    rw [e_tell3, bd2_s, zll_86400, zL_div (a := (A + B) / 2) (by omega) (by omega) (by omega) (by omega), zL_toI]
  have e0 : (0 : Int64) + zL A + zL B = zL (A + B) := by rw [zll_0, zL_add, zL_add, Int.zero_add]
  by_cases h : B < A
  · rw [if_neg (k_nge (by omega))]
    unfold fX9_mean_j91
    rw [if_neg (by decide), iB, iA]
    simp only [bd1_s]
    rw [if_pos (k_le (by omega)), nm_s, show (1 : Int32) + (1 : Int32) = 2 by decide, tail _ _ _ e0]
    exact ⟨_, rfl, by rw [if_pos h, updL_n (by omega), updL_s]; decide⟩
  · rw [if_pos (k_ge (by omega))]
    unfold fX9_mean_j91
    rw [if_neg (by decide), iB, iA]
    simp only [bd1_s]
    by_cases h2 : B ≤ A
    · rw [if_pos (k_le (by omega)), nm_s, show (1 : Int32) + (1 : Int32) = 2 by decide, tail _ _ _ e0]
      exact ⟨_, rfl, by rw [if_neg h, updL_n (by omega), updL_s]; decide⟩
    · rw [if_neg (k_nle (by omega)), nm_s, show (1 : Int32) + (1 : Int32) = 2 by decide, tail _ _ _ e0]
      exact ⟨_, rfl, by rw [if_neg h, updL_n (by omega), updL_s]; decide⟩
theorem rk_min {key : Nat → Int} {x y : Nat} (hx : x < 8) (hy : y < 8) (h : sp_rk key x = 0) : key x ≤ key y := by
  apply Int.not_lt.mp
  intro hl
  have := rk_mono (key := key) (x := y) (y := x) hy (decide_eq_true (Or.inl hl))
  omega
theorem s_sorts (N : Nat) (hN : 200000 ≤ N) {ks tl : Int32} {nn : Nat → Int64} {f g a b c : Nat → Int32} {dd ss : Nat → Int} (hM : DM dd ss f g) :
    ∃ (x : Nat) (nn' : Nat → Int64), fX9_sorts N ks f g a b c tl nn = some (zI x, zI 8, nn') ∧ x < 8 ∧ ∀ y, y < 8 → dd x * 86400 + ss x ≤ dd y * 86400 + ss y := by
  have hk : KeyC N ks f g a b c 0 (fun k => dd k * 86400 + ss k) := by
    intro X x k hx hk
    rw [if_pos rfl, inst_at N hM rfl hk, bd1_s, inst_at N hM rfl hx, bd1_s, zL_sub]
  obtain ⟨nn', e1, e2⟩ := e_ranked N hN (ks := ks) (a := a) (b := b) (c := c) 0 _ hk (fun y hy => by obtain ⟨f1, f2, f5, f6⟩ := hM y hy; show _ ≤ dd y * 86400 + ss y ∧ dd y * 86400 + ss y ≤ _; omega) tl nn
  obtain ⟨x, hx, hr⟩ := rk_sur (fun k => dd k * 86400 + ss k) (k := 0) (by omega)
  have e3 := e2 x hx
  rw [hr] at e3
  unfold fX9_sorts
  rw [e1, bd3_s, e3, zL_toI]
  exact ⟨x, nn', rfl, hx, fun y hy => rk_min (key := fun k => dd k * 86400 + ss k) hx hy hr⟩
theorem s_keeps (N : Nat) (hN : 200000 ≤ N) {ks : Int32} {f g a b c f2 g2 a2 b2 c2 : Nat → Int32} {dd ss mm da se : Nat → Int} (hM : DM dd ss f g) (hS : DS mm da se a b c) :
    ∃ f2' g2' a2' b2' c2', fX9_keeps N ks f g a b c f2 g2 a2 b2 c2 = some (1, 1, f2', g2', a2', b2', c2') ∧ DM dd ss f2' g2' ∧ DS mm da se a2' b2' c2' := by
  obtain ⟨a1, b1, c1, d1, e1, v1, v2⟩ := e_becomes N hN f2 g2 a2 b2 c2 f g a b c
  unfold fX9_keeps
  rw [v1, bd5_s]
  refine ⟨_, _, _, _, _, rfl, fun k hk => ?_, fun k hk => ?_⟩
  · obtain ⟨f1, f2, f5, f6⟩ := hM k hk
    obtain ⟨u1, u2, u3, u4, u5⟩ := v2 k hk
    exact ⟨by rw [u1, f1], by rw [u2, f2], f5, f6⟩
  · obtain ⟨s1, s2, s3, s7⟩ := hS k hk
    obtain ⟨u1, u2, u3, u4, u5⟩ := v2 k hk
    exact ⟨by rw [u3, s1], by rw [u4, s2], by rw [u5, s3], s7⟩
theorem s_back (N : Nat) (hN : 200000 ≤ N) {f g a b c f2 g2 a2 b2 c2 : Nat → Int32} {dd ss mm da se : Nat → Int} (hM : DM dd ss f2 g2) (hS : DS mm da se a2 b2 c2) :
    ∃ f' g' a' b' c', fX9_back N 1 f g a b c f2 g2 a2 b2 c2 = some (1, f', g', a', b', c') ∧ DM dd ss f' g' ∧ DS mm da se a' b' c' := by
  obtain ⟨a1, b1, c1, d1, e1, v1, v2⟩ := e_becomes N hN f g a b c f2 g2 a2 b2 c2
  unfold fX9_back
  rw [if_neg (by decide), v1, bd5_s]
  refine ⟨_, _, _, _, _, rfl, fun k hk => ?_, fun k hk => ?_⟩
  · obtain ⟨f1, f2, f5, f6⟩ := hM k hk
    obtain ⟨u1, u2, u3, u4, u5⟩ := v2 k hk
    exact ⟨by rw [u1, f1], by rw [u2, f2], f5, f6⟩
  · obtain ⟨s1, s2, s3, s7⟩ := hS k hk
    obtain ⟨u1, u2, u3, u4, u5⟩ := v2 k hk
    exact ⟨by rw [u3, s1], by rw [u4, s2], by rw [u5, s3], s7⟩
