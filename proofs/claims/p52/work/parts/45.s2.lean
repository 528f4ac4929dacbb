/-! spans added, differences: the class's calls alone -/
theorem s_add (N : Nat) {p1 p2 p3 p5 ks tl : Int32} {nn : Nat → Int64} {k1 k2 k5 : Nat} {law y u sh : Int} {f g a b c ad : Nat → Int32} {dd ss mm da se : Nat → Int} (hM : DM dd ss f g) (hS : DS mm da se a b c) (had : AdW ad) (e1 : p1 = zI k1) (e2 : p2 = zI k2) (e3 : p3 = zI law) (e5 : p5 = zI k5) (hk1 : k1 < 8) (hk2 : k2 < 8) (hk5 : k5 < 8) (hl : 0 ≤ law ∧ law ≤ 3) (hr : sp_add (mm k2) (da k2) (se k2) law 0 (dd k1) (ss k1) = some (y, u, sh)) :
    ∃ f' g' nn' ad', fX9_add N p1 p2 p3 0 p5 ks f g a b c tl nn ad = some (zI y, f', g', zI 2, nn', ad') ∧ DM (zup dd k5 y) (zup ss k5 u) f' g' ∧ AdW ad' := by
  subst e1; subst e2; subst e3; subst e5
  obtain ⟨f1, f2, f5, f6⟩ := hM k1 hk1
  obtain ⟨s1, s2, s3, s7⟩ := hS k2 hk2
  obtain ⟨a', r, w1, A1, g1⟩ := e_leads N (ord := 0) (had.adT (mm k2) (da k2) (se k2) law) s7 hl (by omega) f5 f6
  rcases g1 with ⟨y', u', sh', q1, rfl, a8, a9, a10, b1, b2, b3⟩ | ⟨q1, -⟩
  case inr => rw [hr] at q1; exact absurd q1 (by simp)
  rw [hr] at q1
  injection q1 with q1
  injection q1 with q2 q1
  injection q1 with q3 q4
  subst q2; subst q3; subst q4
  unfold fX9_add
  rw [c_slot1 N (by omega), bd1_s, if_neg z10, c_slot1 N (by omega), bd1_s, if_neg z10, c_law1 N hl, bd1_s, if_neg z10, zl_0, c_ord1 N (by omega), bd1_s, if_neg (show ¬ (zI 1 = zI 0) by decide), c_slot1 N (by omega), bd1_s, if_neg (show ¬ (zI 1 = zI 0) by decide)]
  rw [e_takesO N ad a b c hk2 s1 s2 s3 s7, bd2_s, e_dayAt N f hk1, bd1_s, e_secondAt N g hk1, bd1_s, f1, f2, w1, bd2_s, if_neg (show ¬ (zI 1 = zI 0) by decide), a8, a9, a10, e_putMoment N _ _ _ _ hk5, bd2_s, e_tell2, bd2_s]
  exact ⟨_, _, _, _, rfl, hM.up b1 b2, A1.w⟩
/-- no months: what comes is the sum of seconds -/
theorem add0 {d s law x t y u sh : Int} (h : sp_add 0 d s law 0 x t = some (y, u, sh)) : y * 86400 + u = x * 86400 + t + d * 86400 + s := by
  unfold sp_add at h
  rw [if_pos rfl, addM_0] at h
  simp only [Option.bind_some] at h
  unfold sp_Dy at h
  split at h
  · simp only [Option.bind_some] at h
    unfold sp_S at h
    split at h
    · simp only [Option.bind_some] at h
      injection h with h
      injection h with h1 h
      injection h with h2 h3
      omega
    · exact absurd h (by simp)
  · exact absurd h (by simp)
theorem l_stepsC (N : Nat) {ks : Int32} {f g a b c : Nat → Int32} {tl : Int32} {nn : Nat → Int64} {dd ss : Nat → Int} (hM : DM dd ss f g) {k6 : Nat} (hk6 : k6 < 8) {d s law n5 I : Int} (hb : sp_b3 0 d s) (hl : 0 ≤ law ∧ law ≤ 3) (h5 : 0 ≤ n5 ∧ n5 ≤ 10000) : ∀ (n : Nat) (w lk x t : Int) (ad : Nat → Int32), AdOK 0 d s law ad → (ad 8 = zI x ∧ ad 9 = zI t) → (0 ≤ x ∧ x ≤ 3652058) → (0 ≤ t ∧ t ≤ 86399) → (0 ≤ lk ∧ lk ≤ w) → w ≤ n5 → n5 - w < n → x * 86400 + t = I + w * (86400 * d + s) →
    ∃ (r : Int32) (f' g' : Nat → Int32) (tl' : Int32) (nn' : Nat → Int64) (ad' : Nat → Int32), fX9_steps_l96 N ks a b c n (zI 0) (zI n5) (zI k6) (zI lk) (zI w) f g tl nn ad = some (r, f', g', tl', nn', ad') ∧ AdW ad' ∧ ((r = zI (-2) ∧ DM dd ss f' g') ∨ ∃ y u, r = zI y ∧ (0 ≤ y ∧ y ≤ 3652058) ∧ (0 ≤ u ∧ u ≤ 86399) ∧ DM (zup dd k6 y) (zup ss k6 u) f' g' ∧ y * 86400 + u = I + n5 * (86400 * d + s))
  | 0, w, lk, x, t, ad, hA, had, hx, ht, hlk, hw, hn, hI => by omega
  | n + 1, w, lk, x, t, ad, hA, had, hx, ht, hlk, hw, hn, hI => by
    rw [fX9_steps_l96_s, had.1, had.2]
    by_cases hd : n5 ≤ w
    · have ew : w = n5 := by omega
      rw [if_pos (i_le rfl (by omega)), e_putMoment N _ _ _ _ hk6, bd2_s, e_tell2, bd2_s]
      exact ⟨_, _, _, _, _, _, rfl, hA.w, Or.inr ⟨x, t, rfl, hx, ht, hM.up hx ht, by rw [hI, ew]⟩⟩
    · rw [if_neg (i_nle rfl (by omega))]
      obtain ⟨a1, r1, w1, A1, g1⟩ := e_leads N (ord := 0) hA hb hl (by omega) hx ht
      rw [w1, bd2_s]
      rcases g1 with ⟨y, u, sh, q1, rfl, a8, a9, a10, b1, b2, b3⟩ | ⟨q1, rfl⟩
      · have e0 := add0 q1
        have eI : y * 86400 + u = I + (w + 1) * (86400 * d + s) := by rw [Int.add_mul]; omega
        rw [if_neg z10, a10]
        by_cases hs : sh ≤ 0
        · rw [if_pos (i_le (b := 0) (by decide) (by omega))]
          simp only [nm_s, zl_1, zI_add, Int.add_zero]
          exact l_stepsC N hM hk6 hb hl h5 n (w + 1) lk y u a1 A1 ⟨a8, a9⟩ b1 b2 (by omega) (by omega) (by omega) eI
        · rw [if_neg (i_nle (b := 0) (by decide) (by omega))]
          simp only [nm_s, zl_1, zI_add, Int.add_zero]
          exact l_stepsC N hM hk6 hb hl h5 n (w + 1) (lk + 1) y u a1 A1 ⟨a8, a9⟩ b1 b2 (by omega) (by omega) (by omega) eI
      · rw [if_pos z00]
        exact ⟨_, _, _, _, _, _, rfl, A1.w, Or.inl ⟨zl_m2, hM⟩⟩
theorem st_c (N : Nat) (a : Nat → Int32) (x t : Int) : fX0_stands N (zI x) (zI t) a = some (upd (upd (upd a 8 (zI x)) 9 (zI t)) 10 (zI 0)) := by
  unfold fX0_stands
  simp (disch := omega) only [zl_m2000000000, zl_m99999, zl_m10000, zl_m21, zl_m9, zl_m5, zl_m2, zl_m1, zl_0, zl_1, zl_2, zl_3, zl_4, zl_5, zl_6, zl_7, zl_8, zl_9, zl_10, zl_11, zl_12, zl_13, zl_14, zl_15, zl_16, zl_17, zl_18, zl_19, zl_23, zl_24, zl_28, zl_29, zl_30, zl_31, zl_45, zl_48, zl_57, zl_58, zl_59, zl_60, zl_84, zl_100, zl_101, zl_102, zl_103, zl_104, zl_105, zl_106, zl_107, zl_108, zl_109, zl_110, zl_111, zl_112, zl_113, zl_114, zl_115, zl_116, zl_117, zl_118, zl_119, zl_120, zl_121, zl_153, zl_255, zl_306, zl_365, zl_400, zl_1000, zl_1460, zl_3600, zl_9999, zl_10000, zl_30000, zl_36524, zl_86399, zl_86400, zl_99999, zl_119999, zl_146096, zl_146097, zl_1000000, zl_3652058, zll_m1000000000, zll_m1000009, zll_m1000002, zll_m2, zll_m1, zll_0, zll_1, zll_86400, zll_2629746, zll_1000000000, nm, bd1_s, bd2_s, bd3_s, bd4_s, bd5_s, bd6_s, if01, gz_1, gz_0, gz_if, cz_lt, cz_le, cz_gt, cz_ge, cz_eq, zI_add, zI_sub, zI_mul, zI_neg, zL_add, zL_sub, zL_mul, zL_neg, zI_lt, zI_le, zI_eq, zL_lt, zL_le, zL_eq, zI_toL, zL_toI, zI_div, zL_div, zI_cl, gi_z, mod_fold, upd_s, upd_n, updL_s, updL_n, ↓reduceIte, Int.reduceLT, Int.reduceLE, Int.reduceEq, Int.reduceAdd, Int.reduceSub, Int.reduceMul, Int.reduceNeg, Int.reduceToNat, eq_self, not_true_eq_false, not_false_eq_true, true_and, false_and, and_true, and_false, true_or, false_or, or_true, or_false]
theorem s_steps (N : Nat) (hN : 200000 ≤ N) {p1 p2 p3 p5 p6 ks tl : Int32} {nn : Nat → Int64} {k1 k2 k6 : Nat} {law n : Int} {f g a b c ad : Nat → Int32} {dd ss mm da se : Nat → Int} (hM : DM dd ss f g) (hS : DS mm da se a b c) (had : AdW ad) (e1 : p1 = zI k1) (e2 : p2 = zI k2) (e3 : p3 = zI law) (e5 : p5 = zI n) (e6 : p6 = zI k6) (hk1 : k1 < 8) (hk2 : k2 < 8) (hk6 : k6 < 8) (hl : 0 ≤ law ∧ law ≤ 3) (hn : 0 ≤ n ∧ n ≤ 10000) (h0 : mm k2 = 0) :
    ∃ (r : Int32) (f' g' : Nat → Int32) (tl' : Int32) (nn' : Nat → Int64) (ad' : Nat → Int32), fX9_steps N p1 p2 p3 0 p5 p6 ks f g a b c tl nn ad = some (r, f', g', tl', nn', ad') ∧ AdW ad' ∧ ((r = zI (-2) ∧ DM dd ss f' g') ∨ ∃ y u, r = zI y ∧ (0 ≤ y ∧ y ≤ 3652058) ∧ (0 ≤ u ∧ u ≤ 86399) ∧ DM (zup dd k6 y) (zup ss k6 u) f' g' ∧ y * 86400 + u = dd k1 * 86400 + ss k1 + n * (86400 * da k2 + se k2)) := by
  subst e1; subst e2; subst e3; subst e5; subst e6
  obtain ⟨f1, f2, f5, f6⟩ := hM k1 hk1
  obtain ⟨s1, s2, s3, s7⟩ := hS k2 hk2
  rw [h0] at s1 s7
  unfold fX9_steps
  rw [c_slot1 N (by omega), bd1_s, if_neg z10, c_slot1 N (by omega), bd1_s, if_neg z10, c_law1 N hl, bd1_s, if_neg z10, show (0 : Int32) = zI 0 from zl_0, c_ord1 N (by omega), bd1_s, if_neg (show ¬ (zI 1 = zI 0) by decide), c_slot1 N (by omega), bd1_s, if_neg (show ¬ (zI 1 = zI 0) by decide), if_neg (i_nlt (b := 0) rfl (by omega)), if_pos (i_le (b := 10000) (by decide) (by omega))]
  rw [e_takesO N ad a b c hk2 s1 s2 s3 s7, bd2_s, e_dayAt N f hk1, bd1_s, e_secondAt N g hk1, bd1_s, f1, f2, st_c, bd1_s]
  exact l_stepsC N (I := dd k1 * 86400 + ss k1) hM hk6 s7 hl hn N 0 0 (dd k1) (ss k1) _ ((had.adT _ _ _ _).cong fun k hk => by rw [upd_n (by omega), upd_n (by omega), upd_n (by omega)]) ⟨by simp (disch := omega) only [upd_n, upd_s], by simp (disch := omega) only [upd_n, upd_s]⟩ f5 f6 (by omega) (by omega) (by omega) (by omega)
theorem l_driftC (N : Nat) {ks : Int32} {f g a b c ot : Nat → Int32} {tl : Int32} {nn : Nat → Int64} {d s law n4 I J : Int} (hb : sp_b3 0 d s) (hl : 0 ≤ law ∧ law ≤ 3) (h4 : 0 ≤ n4 ∧ n4 ≤ 1000) (hot : AdW ot) (ho : ∃ y u, ot 8 = zI y ∧ ot 9 = zI u ∧ (0 ≤ y ∧ y ≤ 3652058) ∧ (0 ≤ u ∧ u ≤ 86399) ∧ y * 86400 + u = J) (hJ : J = I + n4 * (86400 * d + s)) : ∀ (n : Nat) (w x t : Int) (ad : Nat → Int32), AdOK 0 d s law ad → (ad 8 = zI x ∧ ad 9 = zI t) → (0 ≤ x ∧ x ≤ 3652058) → (0 ≤ t ∧ t ≤ 86399) → 0 ≤ w → w ≤ n4 → n4 - w < n → x * 86400 + t = I + w * (86400 * d + s) →
    ∃ (r : Int64) (tl' : Int32) (nn' : Nat → Int64) (ad' : Nat → Int32), fX9_drift_l132 N ks f g a b c n (zI n4) (zI w) tl nn ad ot = some (r, tl', nn', ad', ot) ∧ AdW ad' ∧ (r = zL (-1000002) ∨ r = zL 0)
  | 0, w, x, t, ad, hA, had, hx, ht, hw0, hw, hn, hI => by omega
  | n + 1, w, x, t, ad, hA, had, hx, ht, hw0, hw, hn, hI => by
    rw [fX9_drift_l132_s]
    by_cases hd : n4 ≤ w
    · have ew : w = n4 := by omega
      obtain ⟨y, u, o8, o9, ob1, ob2, oJ⟩ := ho
      rw [if_pos (i_le rfl (by omega)), e_instant N had.1 hx had.2 ht, bd1_s, e_instant N o8 ob1 o9 ob2, bd1_s, e_tell2, bd2_s]
      simp only [bd1_s, zL_sub]
      refine ⟨_, _, _, _, rfl, hA.w, Or.inr ?_⟩
      congr 1
      rw [hI, ew, oJ, hJ]
      omega
    · rw [if_neg (i_nle rfl (by omega)), had.1, had.2]
      obtain ⟨a1, r1, w1, A1, g1⟩ := e_leads N (ord := 0) hA hb hl (by omega) hx ht
      rw [show (0 : Int32) = zI 0 from zl_0, w1, bd2_s]
      rcases g1 with ⟨y, u, sh, q1, rfl, a8, a9, a10, b1, b2, b3⟩ | ⟨q1, rfl⟩
      · have e0 := add0 q1
        have eI : y * 86400 + u = I + (w + 1) * (86400 * d + s) := by rw [Int.add_mul]; omega
        rw [if_neg (show ¬ (zI 1 = zI 0) by decide), nm_s, zl_1, zI_add]
        exact l_driftC N hb hl h4 hot ho hJ n (w + 1) y u a1 A1 ⟨a8, a9⟩ b1 b2 (by omega) (by omega) (by omega) eI
      · rw [if_pos rfl]
        exact ⟨_, _, _, _, rfl, A1.w, Or.inl (by decide)⟩
theorem s_drift (N : Nat) (hN : 200000 ≤ N) {p1 p2 p3 p4 ks tl : Int32} {nn : Nat → Int64} {k1 k2 : Nat} {law n : Int} {f g a b c ad ot : Nat → Int32} {dd ss mm da se : Nat → Int} (hM : DM dd ss f g) (hS : DS mm da se a b c) (had : AdW ad) (hot : AdW ot) (e1 : p1 = zI k1) (e2 : p2 = zI k2) (e3 : p3 = zI law) (e4 : p4 = zI n) (hk1 : k1 < 8) (hk2 : k2 < 8) (hl : 0 ≤ law ∧ law ≤ 3) (hn : 0 ≤ n ∧ n ≤ 1000) (h0 : mm k2 = 0) (hB : sp_b3 0 (da k2 * n) (se k2 * n)) :
    ∃ (r : Int64) (tl' : Int32) (nn' : Nat → Int64) (ad' ot' : Nat → Int32), fX9_drift N p1 p2 p3 p4 ks f g a b c tl nn ad ot = some (r, tl', nn', ad', ot') ∧ AdW ad' ∧ AdW ot' ∧ (r = zL (-1000002) ∨ r = zL 0) := by
  subst e1; subst e2; subst e3; subst e4
  obtain ⟨f1, f2, f5, f6⟩ := hM k1 hk1
  obtain ⟨s1, s2, s3, s7⟩ := hS k2 hk2
  rw [h0] at s1 s7
  have hB' : sp_b3 (0 * n) (da k2 * n) (se k2 * n) := by rw [Int.zero_mul]; exact hB
  unfold fX9_drift
  rw [c_slot1 N (by omega), bd1_s, if_neg z10, c_slot1 N (by omega), bd1_s, if_neg z10, c_law1 N hl, bd1_s, if_neg z10, if_neg (i_nlt (b := 0) (by decide) (by omega)), if_pos (i_le (b := 1000) (by decide) (by omega))]
  rw [e_takes1 N ot a b c hk2 s1 s2 s3 s7 (by omega) hB', bd2_s, if_neg z10, e_dayAt N f hk1, bd1_s, e_secondAt N g hk1, bd1_s, f1, f2]
  obtain ⟨o1, r, w1, O1, g1⟩ := e_leads N (ord := 0) (hot.adT (0 * n) (da k2 * n) (se k2 * n) law) hB' hl (by omega) f5 f6
  rw [show (0 : Int32) = zI 0 from zl_0, w1, bd2_s]
  rcases g1 with ⟨y, u, sh, q1, rfl, a8, a9, a10, b1, b2, b3⟩ | ⟨q1, rfl⟩
  · have q1' := q1
    rw [Int.zero_mul] at q1'
    have e0 := add0 q1'
    have eJ : y * 86400 + u = dd k1 * 86400 + ss k1 + n * (86400 * da k2 + se k2) := by
      rw [Int.mul_add, ← Int.mul_assoc, Int.mul_comm n 86400, Int.mul_assoc, Int.mul_comm n, Int.mul_comm n]
      omega
    rw [if_neg (show ¬ (zI 1 = zI 0) by decide), e_takesO N ad a b c hk2 s1 s2 s3 s7, bd2_s]
    simp only [bd1_s, st_c]
    obtain ⟨r, tl', nn', ad', v1, v2, v3⟩ := l_driftC N (ks := ks) (f := f) (g := g) (a := a) (b := b) (c := c) (tl := tl) (nn := nn) (I := dd k1 * 86400 + ss k1) (J := y * 86400 + u) s7 hl hn O1.w ⟨y, u, a8, a9, b1, b2, rfl⟩ eJ N 0 (dd k1) (ss k1) (upd (upd (upd (adT ad 0 (da k2) (se k2) law) 8 (zI (dd k1))) 9 (zI (ss k1))) 10 (zI 0)) ((had.adT _ _ _ _).cong fun k hk => by rw [upd_n (by omega), upd_n (by omega), upd_n (by omega)]) ⟨by simp (disch := omega) only [upd_n, upd_s], by simp (disch := omega) only [upd_n, upd_s]⟩ f5 f6 (by omega) (by omega) (by omega) (by omega)
    rw [v1]
    exact ⟨_, _, _, _, _, rfl, v2, O1.w, v3⟩
  · rw [if_pos rfl]
    exact ⟨_, _, _, _, _, rfl, had, O1.w, Or.inl (by decide)⟩
theorem e_atC (N : Nat) {ks : Int32} {f g a b c ad : Nat → Int32} {dd ss mm da se : Nat → Int} (hM : DM dd ss f g) (hS : DS mm da se a b c) (had : AdW ad) {k1 k2 : Nat} (hk1 : k1 < 8) (hk2 : k2 < 8) {law n : Int} (hl : 0 ≤ law ∧ law ≤ 3) (hn : 0 ≤ n ∧ n ≤ 10000) :
    ∃ ad' r, fX9_leadsAtOnce N (zI k1) (zI k2) (zI law) (zI n) ks f g a b c ad = some (r, ad') ∧ AdW ad' ∧ ((∃ y u sh, sp_add (mm k2 * n) (da k2 * n) (se k2 * n) law 0 (dd k1) (ss k1) = some (y, u, sh) ∧ r = zI 1 ∧ ad' 8 = zI y ∧ ad' 9 = zI u ∧ (0 ≤ y ∧ y ≤ 3652058) ∧ (0 ≤ u ∧ u ≤ 86399)) ∨ (r = zI 0 ∧ (n = 0 → False))) := by
  obtain ⟨f1, f2, f5, f6⟩ := hM k1 hk1
  obtain ⟨s1, s2, s3, s7⟩ := hS k2 hk2
  unfold fX9_leadsAtOnce
  by_cases h : sp_b3 (mm k2 * n) (da k2 * n) (se k2 * n)
  · rw [e_takes1 N ad a b c hk2 s1 s2 s3 s7 (by omega) h, bd2_s, if_neg z10, e_dayAt N f hk1, bd1_s, e_secondAt N g hk1, bd1_s, f1, f2]
    obtain ⟨a1, r, w1, A1, g1⟩ := e_leads N (ord := 0) (had.adT (mm k2 * n) (da k2 * n) (se k2 * n) law) h hl (by omega) f5 f6
    rw [show (0 : Int32) = zI 0 from zl_0, w1, bd2_s]
    rcases g1 with ⟨y, u, sh, q1, rfl, a8, a9, a10, b1, b2, b3⟩ | ⟨q1, rfl⟩
    · rw [if_neg (show ¬ (zI 1 = zI 0) by decide)]
      exact ⟨_, _, rfl, A1.w, Or.inl ⟨y, u, sh, q1, zl_1, a8, a9, b1, b2⟩⟩
    · rw [if_pos rfl]
      refine ⟨_, _, rfl, A1.w, Or.inr ⟨rfl, fun h0 => ?_⟩⟩
      subst h0
      rw [Int.mul_zero, Int.mul_zero, Int.mul_zero] at q1
      unfold sp_add at q1
      rw [if_pos rfl, addM_0] at q1
      simp only [Option.bind_some] at q1
      unfold sp_Dy at q1
      rw [if_pos (by omega)] at q1
      simp only [Option.bind_some] at q1
      unfold sp_S at q1
      rw [if_pos (by omega)] at q1
      exact absurd q1 (by simp)
  · rw [e_takes0 N ad a b c hk2 s1 s2 s3 s7 (by omega) h, bd2_s, if_pos z00]
    refine ⟨_, _, rfl, had, Or.inr ⟨zl_0, fun h0 => h ?_⟩⟩
    subst h0
    rw [Int.mul_zero, Int.mul_zero, Int.mul_zero]
    decide
theorem l_nextC (N : Nat) {ks : Int32} {f g a b c : Nat → Int32} {tl : Int32} {nn : Nat → Int64} {dd ss mm da se : Nat → Int} (hM : DM dd ss f g) (hS : DS mm da se a b c) {k1 k2 : Nat} (hk1 : k1 < 8) (hk2 : k2 < 8) {law G : Int} (hG : 0 ≤ G ∧ G ≤ 315537897599) (hl : 0 ≤ law ∧ law ≤ 3) : ∀ (n : Nat) (w : Int) (ad : Nat → Int32), AdW ad → 1 ≤ w → w ≤ 10001 → 10001 - w < n →
    ∃ (v : Int) (tl' : Int32) (nn' : Nat → Int64) (ad' : Nat → Int32), fX9_next_l45 N ks f g a b c n (zI k1) (zI k2) (zI law) (zL G) (zI w) tl nn ad = some (zI v, tl', nn', ad') ∧ AdW ad' ∧ (v = -2 ∨ (1 ≤ v ∧ v ≤ 10000))
  | 0, w, ad, had, h1, h2, hn => by omega
  | n + 1, w, ad, had, h1, h2, hn => by
    rw [fX9_next_l45_s]
    by_cases hd : 10000 < w
    · rw [if_pos (i_gt (b := 10000) (by decide) (by omega))]
      exact ⟨-2, _, _, _, by rw [zl_m2], had, Or.inl rfl⟩
    · rw [if_neg (i_ngt (b := 10000) (by decide) (by omega))]
      obtain ⟨ad1, r1, w1, A1, w2⟩ := e_atC N (ks := ks) hM hS had hk1 hk2 (law := law) (n := w) hl (by omega)
      rw [w1, bd2_s]
      rcases w2 with ⟨y, u, sh, q1, rfl, a8, a9, b1, b2⟩ | ⟨rfl, -⟩
      · rw [if_neg z10, e_instant N a8 b1 a9 b2, bd1_s]
        by_cases hc : y * 86400 + u < G
        · rw [if_pos (k_lt (by omega)), nm_s, zl_1, zI_add]
          exact l_nextC N hM hS hk1 hk2 hG hl n (w + 1) ad1 A1 (by omega) (by omega) (by omega)
        · rw [if_neg (k_nlt (by omega)), a8, a9, e_tell2, bd2_s]
          exact ⟨w, _, _, _, rfl, A1, Or.inr ⟨by omega, by omega⟩⟩
      · rw [if_pos z00, nm_s, zl_1, zI_add]
        exact l_nextC N hM hS hk1 hk2 hG hl n (w + 1) ad1 A1 (by omega) (by omega) (by omega)
theorem s_next (N : Nat) (hN : 200000 ≤ N) {p1 p2 p3 p4 ks tl : Int32} {nn : Nat → Int64} {k1 k2 k4 : Nat} {law : Int} {f g a b c ad : Nat → Int32} {dd ss mm da se : Nat → Int} (hM : DM dd ss f g) (hS : DS mm da se a b c) (had : AdW ad) (e1 : p1 = zI k1) (e2 : p2 = zI k2) (e3 : p3 = zI law) (e4 : p4 = zI k4) (hk1 : k1 < 8) (hk2 : k2 < 8) (hk4 : k4 < 8) (hl : 0 ≤ law ∧ law ≤ 3) :
    ∃ (v : Int) (tl' : Int32) (nn' : Nat → Int64) (ad' : Nat → Int32), fX9_next N p1 p2 p3 p4 ks f g a b c tl nn ad = some (zI v, tl', nn', ad') ∧ AdW ad' ∧ (-2 ≤ v ∧ v ≤ 10000) ∧ (dd k4 * 86400 + ss k4 ≤ dd k1 * 86400 + ss k1 → v = 0) ∧ (dd k1 * 86400 + ss k1 < dd k4 * 86400 + ss k4 → v ≠ 0) := by
  subst e1; subst e2; subst e3; subst e4
  obtain ⟨f1, f2, f5, f6⟩ := hM k1 hk1
  obtain ⟨g1, g2, g5, g6⟩ := hM k4 hk4
  unfold fX9_next
  rw [c_slot1 N (by omega), bd1_s, if_neg z10, c_slot1 N (by omega), bd1_s, if_neg z10, c_law1 N hl, bd1_s, if_neg z10, c_slot1 N (by omega), bd1_s, if_neg z10, e_instantAt N f g hk4 g1 g2 (by omega) (by omega), bd1_s]
  obtain ⟨n, rfl⟩ : ∃ n, N = n + 1 := ⟨N - 1, by omega⟩
  rw [fX9_next_l45_s, show (0 : Int32) = zI 0 from zl_0, if_neg (i_ngt (b := 10000) (by decide) (by omega))]
  obtain ⟨ad1, r1, w1, A1, w2⟩ := e_atC (n + 1) (ks := ks) hM hS had hk1 hk2 (law := law) (n := 0) hl (by omega)
  rw [w1, bd2_s]
  rcases w2 with ⟨y, u, sh, q1, rfl, a8, a9, b1, b2⟩ | ⟨-, h0⟩
  case inr => exact (h0 rfl).elim
  rw [Int.mul_zero, Int.mul_zero, Int.mul_zero] at q1
  have e0 := add0 q1
  rw [if_neg (show ¬ (zI 1 = zI 0) by decide), e_instant (n + 1) a8 b1 a9 b2, bd1_s]
  by_cases hc : y * 86400 + u < dd k4 * 86400 + ss k4
  · rw [← zl_0, if_pos (k_lt (by omega)), zl_0, nm_s, zl_1, zI_add]
    obtain ⟨v, tl', nn', ad', v1, v2, v3⟩ := l_nextC (n + 1) (ks := ks) (tl := tl) (nn := nn) hM hS hk1 hk2 (G := dd k4 * 86400 + ss k4) (by omega) hl n (0 + 1) ad1 A1 (by omega) (by omega) (by omega)
    exact ⟨v, tl', nn', ad', v1, v2, by omega, by omega, by omega⟩
  · rw [← zl_0, if_neg (k_nlt (by omega)), zl_0, a8, a9, e_tell2, bd2_s]
    exact ⟨0, _, _, _, rfl, A1, by omega, by omega, by omega⟩
theorem s_comes (N : Nat) {ks : Int32} {a b c : Nat → Int32} {tl : Int32} {nn : Nat → Int64} {mm da se : Nat → Int} (hS : DS mm da se a b c) {k : Nat} (hk : k < 8) {x y z : Int} (h : sp_b3 x y z) :
    ∃ a' b' c' nn', fX9_comesToSpan N (zI k) (zL x) (zL y) (zL z) ks a b c tl nn = some (zI x, a', b', c', zI 3, nn') ∧ DS (zup mm k x) (zup da k y) (zup se k z) a' b' c' ∧ nn' 0 = zL x ∧ nn' 1 = zL y ∧ nn' 2 = zL z := by
  unfold fX9_comesToSpan
  rw [e_areBounded N (by omega) (by omega) (by omega), bd1_s, if_pos h, if_neg z10, zL_toI, zL_toI, zL_toI, e_putSpan N _ _ _ _ _ _ hk, bd3_s, e_tell3, bd2_s]
  exact ⟨_, _, _, _, rfl, hS.up h, by rw [updL_n (by omega), updL_n (by omega), updL_s], by rw [updL_n (by omega), updL_s], updL_s⟩
theorem s_sum (N : Nat) {p1 p2 p3 ks tl : Int32} {nn : Nat → Int64} {k1 k2 k3 : Nat} {a b c : Nat → Int32} {mm da se : Nat → Int} (hS : DS mm da se a b c) (e1 : p1 = zI k1) (e2 : p2 = zI k2) (e3 : p3 = zI k3) (hk1 : k1 < 8) (hk2 : k2 < 8) (hk3 : k3 < 8) (h : sp_b3 (mm k1 + mm k2) (da k1 + da k2) (se k1 + se k2)) :
    ∃ a' b' c' tl' nn', fX9_sum N p1 p2 p3 ks a b c tl nn = some (zI (mm k1 + mm k2), a', b', c', tl', nn') ∧ DS (zup mm k3 (mm k1 + mm k2)) (zup da k3 (da k1 + da k2)) (zup se k3 (se k1 + se k2)) a' b' c' := by
  subst e1; subst e2; subst e3
  obtain ⟨s1, s2, s3, s7⟩ := hS k1 hk1
  obtain ⟨t1, t2, t3, t7⟩ := hS k2 hk2
  unfold fX9_sum
  rw [c_slot1 N (by omega), bd1_s, if_neg z10, c_slot1 N (by omega), bd1_s, if_neg z10, c_slot1 N (by omega), bd1_s, if_neg z10]
  rw [e_monthsAt N a hk1, bd1_s, e_monthsAt N a hk2, bd1_s, e_daysAt N b hk1, bd1_s, e_daysAt N b hk2, bd1_s, e_secondsAt N c hk1, bd1_s, e_secondsAt N c hk2, bd1_s, s1, s2, s3, t1, t2, t3]
  rw [zI_toL (by omega) (by omega), zI_toL (by omega) (by omega), zI_toL (by omega) (by omega), zI_toL (by omega) (by omega), zI_toL (by omega) (by omega), zI_toL (by omega) (by omega), zL_add, zL_add, zL_add]
  obtain ⟨a', b', c', nn', w1, w2, -⟩ := s_comes N (ks := ks) (tl := tl) (nn := nn) hS hk3 h
  rw [w1, bd6_s]
  exact ⟨_, _, _, _, _, rfl, w2⟩
theorem s_turn (N : Nat) {p1 p2 ks tl : Int32} {nn : Nat → Int64} {k1 k2 : Nat} {a b c : Nat → Int32} {mm da se : Nat → Int} (hS : DS mm da se a b c) (e1 : p1 = zI k1) (e2 : p2 = zI k2) (hk1 : k1 < 8) (hk2 : k2 < 8) :
    ∃ a' b' c' tl' nn', fX9_turn N p1 p2 ks a b c tl nn = some (zI (-mm k1), a', b', c', tl', nn') ∧ DS (zup mm k2 (-mm k1)) (zup da k2 (-da k1)) (zup se k2 (-se k1)) a' b' c' := by
  subst e1; subst e2
  obtain ⟨s1, s2, s3, s7⟩ := hS k1 hk1
  unfold fX9_turn fX9_mult
  rw [c_slot1 N (by omega), bd1_s, if_neg z10, c_slot1 N (by omega), bd1_s, if_neg z10]
  rw [e_monthsAt N a hk1, bd1_s, e_daysAt N b hk1, bd1_s, e_secondsAt N c hk1, bd1_s, s1, s2, s3]
  rw [show (-1 : Int32).toInt64 = zL (-1) by decide, zI_toL (by omega) (by omega), zI_toL (by omega) (by omega), zI_toL (by omega) (by omega), zL_mul, zL_mul, zL_mul, show mm k1 * -1 = -mm k1 by omega, show da k1 * -1 = -da k1 by omega, show se k1 * -1 = -se k1 by omega]
  obtain ⟨a', b', c', nn', w1, w2, -⟩ := s_comes N (ks := ks) (tl := tl) (nn := nn) hS hk2 (x := -mm k1) (y := -da k1) (z := -se k1) (by unfold sp_b3 sp_b1 at s7 ⊢; omega)
  rw [w1]
  simp only [bd6_s]
  exact ⟨_, _, _, _, _, rfl, w2⟩
theorem s_even (N : Nat) {p1 p2 ks tl : Int32} {nn : Nat → Int64} {k1 k2 : Nat} {a b c : Nat → Int32} {mm da se : Nat → Int} (hS : DS mm da se a b c) (e1 : p1 = zI k1) (e2 : p2 = zI k2) (hk1 : k1 < 8) (hk2 : k2 < 8) (h : -900000000 ≤ da k1 ∧ da k1 ≤ 900000000) :
    ∃ a' b' c' tl' nn' d' s', fX9_even N p1 p2 ks a b c tl nn = some (zI (mm k1), a', b', c', tl', nn') ∧ DS (zup mm k2 (mm k1)) (zup da k2 d') (zup se k2 s') a' b' c' := by
  subst e1; subst e2
  obtain ⟨s1, s2, s3, s7⟩ := hS k1 hk1
  unfold fX9_even
  rw [c_slot1 N (by omega), bd1_s, if_neg z10, c_slot1 N (by omega), bd1_s, if_neg z10]
  rw [e_secondsAt N c hk1, bd1_s, e_monthsAt N a hk1, bd1_s, e_daysAt N b hk1, bd1_s, s1, s2, s3]
  have q := tdiv_f (s := se k1) (by omega)
  obtain ⟨Q, hQ⟩ : ∃ Q, Q = (se k1).tdiv 86400 := ⟨_, rfl⟩
  have t1 : zI (se k1) / zI 86400 = zI Q := by rw [zI_tdiv (by omega) (by omega) (by omega) (by omega), hQ]
  rw [← hQ] at q
  obtain ⟨a', b', c', nn', w1, w2, -⟩ := s_comes N (ks := ks) (tl := tl) (nn := nn) hS hk2 (x := mm k1) (y := da k1 + Q) (z := se k1 - Q * 86400) (by unfold sp_b3 sp_b1 at s7 ⊢; omega)
  simp (disch := omega) only [zl_86400, t1, nm_s, zI_mul, zI_sub, zL_add, zI_toL, w1, bd6_s]
  exact ⟨_, _, _, _, _, _, _, rfl, w2⟩
