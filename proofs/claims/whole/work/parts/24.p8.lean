/-! leaps -/
theorem l_leaps (N : Nat) {ks : Int32} {f F : Nat → Int32} {tl : Int32} {nn j R : Nat → Int64} {x y Y : Int} (hx : 0 ≤ x ∧ x ≤ 3652058) (hy : 0 ≤ y ∧ y ≤ 3652058) (hY : 1 ≤ Y ∧ Y ≤ 9999) : ∀ (n : Nat) (w m o t : Int) (i : Nat → Int32), RelR tl nn i R → 1 ≤ w → w ≤ 10000 → 0 ≤ m → m ≤ w → 10001 - w < n →
    ∃ (r : Int32) (tl' : Int32) (nn' : Nat → Int64) (i' : Nat → Int32) (R' : Nat → Int64), fX9_leaps_l87 N ks f n (zI x) (zI y) (zI Y) (zI m) (zI o) (zI t) (zI w) tl nn = some (r, tl', nn') ∧ fX10_leaps_l86 N j F n (zI x) (zI y) (zI Y) (zI m) (zI o) (zI t) (zI w) i R = some (r, i', R') ∧ RelR tl' nn' i' R' ∧ i' 4 = i 4 ∧ i' 6 = i 6 := by
  intro n
  induction n with
  | zero => intro w m o t i hR h1 h2 h3 h4 hn; omega
  | succ n ih =>
    intro w m o t i hR h1 h2 h3 h4 hn
    rw [fX9_leaps_l87_s, fX10_leaps_l86_s]
    by_cases hd : Y < w
    · rw [if_pos (i_gt rfl (by omega)), if_pos (i_gt rfl (by omega)), e_tell2, bd2_s, e_tellA, bd2_s]
      simp (disch := omega) only [zl_m2147483648, zl_m2000000000, zl_m99999, zl_m10000, zl_m21, zl_m9, zl_m5, zl_m2, zl_m1, zl_0, zl_1, zl_2, zl_3, zl_4, zl_5, zl_6, zl_7, zl_8, zl_9, zl_10, zl_11, zl_12, zl_13, zl_14, zl_15, zl_16, zl_17, zl_18, zl_19, zl_23, zl_24, zl_28, zl_29, zl_30, zl_31, zl_45, zl_48, zl_52, zl_57, zl_58, zl_59, zl_60, zl_84, zl_90, zl_100, zl_101, zl_102, zl_103, zl_104, zl_105, zl_106, zl_107, zl_108, zl_109, zl_110, zl_111, zl_112, zl_113, zl_114, zl_115, zl_116, zl_117, zl_118, zl_119, zl_120, zl_121, zl_127, zl_151, zl_153, zl_181, zl_212, zl_243, zl_255, zl_273, zl_304, zl_306, zl_334, zl_365, zl_400, zl_1000, zl_1023, zl_1100, zl_1460, zl_3600, zl_9999, zl_10000, zl_30000, zl_36524, zl_86399, zl_86400, zl_99999, zl_119999, zl_146096, zl_146097, zl_730119, zl_876215, zl_876216, zl_1000000, zl_3652058, zll_m9223372036854775808, zll_m1000000000, zll_m1000009, zll_m1000002, zll_m10000, zll_m5, zll_m2, zll_m1, zll_0, zll_1, zll_2, zll_3, zll_5, zll_6, zll_7, zll_12, zll_100, zll_255, zll_400, zll_1000, zll_9999, zll_10000, zll_86399, zll_86400, zll_120000, zll_146097, zll_2629746, zll_3652058, zll_1000000000, zll_9218868437227405312, zll_9221120237041090560, nm, bd1_t, bd2_t, bd3_t, bd4_t, bd5_t, bd6_t, if01, gz_1, gz_0, gz_if, cz_lt, cz_le, cz_gt, cz_ge, cz_eq, zI_add, zI_sub, zI_mul, zI_neg, zL_add, zL_sub, zL_mul, zL_neg, zI_lt, zI_le, zI_eq, zL_lt, zL_le, zL_eq, zI_toL, zL_toI, zI_div, zL_div, zI_cl, gi_z, mod_fold, upd_s, upd_n, updL_s, updL_n, ↓reduceIte, Int.reduceLT, Int.reduceLE, Int.reduceEq, Int.reduceAdd, Int.reduceSub, Int.reduceMul, Int.reduceNeg, Int.reduceToNat, eq_self, not_true_eq_false, not_false_eq_true, true_and, false_and, and_true, and_false, true_or, false_or, or_true, or_false, e_tellB]
      exact ⟨_, _, _, _, _, rfl, rfl, RelR.mk2 upd_s _ _, by simp (disch := omega) only [upd_n], by simp (disch := omega) only [upd_n]⟩
    · have db := dn_b (y := w) (m := 2) (by omega) (by omega) (by omega) (by omega)
      have d29 : sp_dn w 2 29 = sp_dn w 2 1 + 28 := by unfold sp_dn; omega
      have c1 : fX1_dayOf N (zI w) (2 : Int32) (29 : Int32) = some (zI (sp_dn w 2 29)) := e_dn N (m := 2) (d := 29) (by omega) (by omega) (by omega) (by omega) (by omega) (by omega)
      have c2 : fX10_dayOf N (zI w) (2 : Int32) (29 : Int32) = some (zI (sp_dn w 2 29)) := e_dn_m N (m := 2) (d := 29) (by omega) (by omega) (by omega) (by omega) (by omega) (by omega)
      rw [if_neg (i_ngt rfl (by omega)), if_neg (i_ngt rfl (by omega)), c1, bd1_s, e_isLeap N (by omega) (by omega), bd1_s, e_isLeap_m N (by omega) (by omega), bd1_s, c2, bd1_s]
      unfold fX10_leaps_j113
      obtain ⟨D, hD⟩ : ∃ D, D = sp_dn w 2 29 := ⟨_, rfl⟩
      rw [← hD]
      rw [← hD] at d29
      have bD : 0 ≤ D ∧ D ≤ 4000000 := by
        have := mlen_b w 2
        omega
      by_cases hL : sp_leap w
      · rw [if_pos hL, if_neg z10, if_neg z10]
        by_cases ha : D < x
        · rw [if_pos (i_lt rfl (by omega)), if_pos (i_lt rfl (by omega)), nm_s, nm_s, zl_1, zI_add]
          exact ih (w + 1) m o t i hR (by omega) (by omega) h3 (by omega) (by omega)
        · rw [if_neg (i_nlt (a := D) (b := x) rfl (by omega)), if_neg (i_nlt (a := D) (b := x) rfl (by omega))]
          by_cases hb : y < D
          · rw [if_pos (i_gt (a := D) (b := y) rfl (by omega)), if_neg (i_nle (a := D) (b := y) rfl (by omega)), nm_s, nm_s, zl_1, zI_add]
            exact ih (w + 1) m o t i hR (by omega) (by omega) h3 (by omega) (by omega)
          · rw [if_neg (i_ngt (a := D) (b := y) rfl (by omega)), if_pos (i_le (a := D) (b := y) rfl (by omega))]
            by_cases hm : m = 0
            · rw [if_pos (i_eq (b := 0) (by decide) hm), if_pos (i_eq (b := 0) (by decide) hm), nm_s, nm_s, nm_s, nm_s, zl_1, zI_add, zI_add]
              exact ih (w + 1) (m + 1) D D i hR (by omega) (by omega) (by omega) (by omega) (by omega)
            · rw [if_neg (i_neq (b := 0) (by decide) (by omega)), if_neg (i_neq (b := 0) (by decide) (by omega)), nm_s, nm_s, nm_s, nm_s, zl_1, zI_add, zI_add]
              exact ih (w + 1) (m + 1) o D i hR (by omega) (by omega) (by omega) (by omega) (by omega)
      · rw [if_neg hL, if_pos z00, if_pos z00, if_pos (show (-1 : Int32) < zI x from by rw [zl_m1, zI_lt (by omega) (by omega) (by omega) (by omega)]; omega), nm_s, nm_s, zl_1, zI_add]
        exact ih (w + 1) m o t i hR (by omega) (by omega) h3 (by omega) (by omega)
theorem p_leaps (N : Nat) (hN : 200000 ≤ N) (p1 : Int32) (p2 : Int32) {ks : Int32} {f : Nat → Int32} {tl : Int32} {nn : Nat → Int64} {i : Nat → Int32} {j : Nat → Int64} {F : Nat → Int32} {R : Nat → Int64} {g : Nat → Int32} {G : Nat → Int32} {dd ss : Nat → Int} (hM : RelM dd ss f g F G) (hR : RelR tl nn i R) : 
    ∃ (r : Int32) (tl' : Int32) (nn' : Nat → Int64) (i' : Nat → Int32) (R' : Nat → Int64), fX9_leaps N p1 p2 ks f tl nn = some (r, tl', nn') ∧ fX10_leaps N p1 p2 i j F R = some (r, i', R') ∧ RelR tl' nn' i' R' ∧ i' 4 = i 4 ∧ i' 6 = i 6 := by
  obtain ⟨z1, l1, v1, rfl⟩ := zI_of p1
  obtain ⟨z2, l2, v2, rfl⟩ := zI_of p2
  by_cases q0 : 0 ≤ z1 ∧ z1 ≤ 7
  case neg =>
    refine ⟨(-1 : Int32), tl, nn, upd i 9 (zI 0), R, ?_, ?_, hR.f9, upd_n (by omega), upd_n (by omega)⟩
    · unfold fX9_leaps
      rw [c_slot0 N l1 v1 q0, bd1_s, if_pos z00]
    · unfold fX10_leaps
      rw [m_slot0 N l1 v1 q0, bd1_s, if_pos z00]
      rfl
  by_cases q1 : 0 ≤ z2 ∧ z2 ≤ 7
  case neg =>
    refine ⟨(-1 : Int32), tl, nn, upd i 9 (zI 0), R, ?_, ?_, hR.f9, upd_n (by omega), upd_n (by omega)⟩
    · unfold fX9_leaps
      rw [c_slot1 N q0, bd1_s, if_neg z10]
      rw [c_slot0 N l2 v2 q1, bd1_s, if_pos z00]
    · unfold fX10_leaps
      rw [m_slot1 N q0, bd1_s, if_neg z10]
      rw [m_slot0 N l2 v2 q1, bd1_s, if_pos z00]
      rfl
  unfold fX9_leaps fX10_leaps
  rw [c_slot1 N q0, bd1_s, if_neg z10]
  rw [c_slot1 N q1, bd1_s, if_neg z10]
  rw [m_slot1 N q0, bd1_s, if_neg z10]
  rw [m_slot1 N q1, bd1_s, if_neg z10]
  obtain ⟨k1, hk1, rfl⟩ := slot_of q0
  obtain ⟨k2, hk2, rfl⟩ := slot_of q1
  obtain ⟨f1, f2, f3, f4, f5, f6⟩ := hM k1 hk1
  obtain ⟨a1, a2, a3, a4, a5, a6⟩ := hM k2 hk2
  rw [e_dayAt N f hk1, e_dayAt N f hk2, f1, a1]
  obtain ⟨X, hX⟩ : ∃ X, X = min (dd k1) (dd k2) := ⟨_, rfl⟩
  obtain ⟨Y, hY⟩ : ∃ Y, Y = max (dd k2) (dd k1) := ⟨_, rfl⟩
  have bX : 0 ≤ X ∧ X ≤ Y ∧ Y ≤ 3652058 := by omega
  simp (disch := omega) only [bd1_t, nm_t, gi_z, zI_cl, tn1, f3, a3, I_min, I_max]
  rw [← hX, ← hY]
  obtain ⟨g4, g5, g6, g7⟩ := sp_all (x := X) (by omega) (by omega)
  obtain ⟨g4', g5', g6', g7'⟩ := sp_all (x := Y) (by omega) (by omega)
  obtain ⟨d1, d2, d4⟩ := ymd (x := X) (by omega) (by omega)
  obtain ⟨d1', d2', d4'⟩ := ymd (x := Y) (by omega) (by omega)
  have ub := mlen_b (sp_Y X) (sp_M X)
  have ub' := mlen_b (sp_Y Y) (sp_M Y)
  rw [e_dateOf N (x := Y) (by omega) (by omega), bd1_s, e_dateOf N (x := X) (by omega) (by omega), bd1_s, e_dates N (by omega) _ j (x := Y) (by omega) (by omega), bd1_s, e_dates N (by omega) _ j (x := X) (by omega) (by omega), bd1_s]
  obtain ⟨i2, hi2⟩ : ∃ i2, i2 = upd (upd (upd (upd (upd (upd (upd i 9 (0 : Int32)) 10 (zI (sp_Y Y))) 11 (zI (sp_M Y))) 12 (zI (sp_D Y))) 10 (zI (sp_Y X))) 11 (zI (sp_M X))) 12 (zI (sp_D X)) := ⟨_, rfl⟩
  have i4 : i2 4 = i 4 := by rw [hi2]; simp (disch := omega) only [upd_n]
  have i6 : i2 6 = i 6 := by rw [hi2]; simp (disch := omega) only [upd_n]
  have i8 : i2 8 = i 8 := by rw [hi2]; simp (disch := omega) only [upd_n]
  have i10 : i2 10 = zI (sp_Y X) := by rw [hi2]; simp (disch := omega) only [upd_n, upd_s]
  have eY1 : (upd (upd (upd (upd i 9 (0 : Int32)) 10 (zI (sp_Y Y))) 11 (zI (sp_M Y))) 12 (zI (sp_D Y))) 10 = zI (sp_Y Y) := by simp (disch := omega) only [upd_n, upd_s]
  have e1 : zI (sp_Y Y * 10000 + sp_M Y * 100 + sp_D Y) / 10000 = zI (sp_Y Y) := by rw [zl_10000, zI_div (by omega) (by omega) (by omega) (by omega), d1']
  have e2 : zI (sp_Y X * 10000 + sp_M X * 100 + sp_D X) / 10000 = zI (sp_Y X) := by rw [zl_10000, zI_div (by omega) (by omega) (by omega) (by omega), d1]
  rw [eY1, ← hi2, i10, e1, e2, zl_m1, zl_0]
  obtain ⟨r, tl', nn', i', R', v1, v2, v3, v4, v5⟩ := l_leaps N (ks := ks) (f := f) (F := F) (j := j) (tl := tl) (nn := nn) (R := R) (x := X) (y := Y) (Y := sp_Y Y) (by omega) (by omega) g4' N (sp_Y X) 0 (-1) (-1) i2 (hR.cong i8) (by omega) (by omega) (by omega) (by omega) (by omega)
  exact ⟨r, tl', nn', i', R', v1, v2, v3, by rw [v4, i4], by rw [v5, i6]⟩
/-! shifts -/
theorem l_shifts (N : Nat) (hN : 200000 ≤ N) {ks : Int32} {f g F G : Nat → Int32} {tl : Int32} {nn j R : Nat → Int64} {dd ss : Nat → Int} (hM : RelM dd ss f g F G) {k1 k3 : Nat} (hk1 : k1 < 8) (hk3 : k3 < 8) {z2 : Int} (hz : -10000 ≤ z2 ∧ z2 ≤ 10000) : ∀ (n : Nat) (w x le p : Int) (i : Nat → Int32), RelR tl nn i R → (0 ≤ x ∧ x ≤ 3652058) → 0 ≤ le → le ≤ 10000 → 0 ≤ p → 0 ≤ w → w = 10000 - le + p → (0 ≤ z2 → (x % 7 ≤ 4 → 5 * p ≤ 2 * (10000 - le) + 8 - 2 * (x % 7)) ∧ (x % 7 = 5 → 5 * p ≤ 2 * (10000 - le) + 5) ∧ (x % 7 = 6 → 5 * p ≤ 2 * (10000 - le) + 10)) → (z2 < 0 → (x % 7 ≤ 4 → 5 * p ≤ 2 * (10000 - le) + 2 * (x % 7)) ∧ (x % 7 = 6 → 5 * p ≤ 2 * (10000 - le) + 5) ∧ (x % 7 = 5 → 5 * p ≤ 2 * (10000 - le) + 10)) → 30000 - w < n →
    ∀ (q : Int) (q2 : Int), q ≤ w → 0 ≤ q → q2 ≤ w → 0 ≤ q2 →
    ∃ (r : Int32) (f' : Nat → Int32) (g' : Nat → Int32) (tl' : Int32) (nn' : Nat → Int64) (i' : Nat → Int32) (F' : Nat → Int32) (G' : Nat → Int32) (R' : Nat → Int64) (dd' : Nat → Int) (ss' : Nat → Int), fX9_shifts_l63 N ks n (zI k1) (zI k3) (zI (if 0 ≤ z2 then 1 else -1)) (zI le) (zI x) (zI q2) (zI q) f g tl nn = some (r, f', g', tl', nn') ∧ fX10_shifts_l54 N j n (zI k1) (zI z2) (zI k3) (zI x) (zI le) (zI q2) i F G R = some (r, i', F', G', R') ∧ RelM dd' ss' f' g' F' G' ∧ RelR tl' nn' i' R' ∧ i' 4 = i 4 ∧ i' 6 = i 6 := by
  intro n
  induction n with
  | zero => intro w x le p i hR hx h1 h2 h3 h4 h5 h6 h7 hn; omega
  | succ n ih =>
    intro w x le p i hR hx h1 h2 h3 h4 h5 h6 h7 hn q q2 hq hq0 hq2 hq20
    obtain ⟨f1, f2, f3, f4, f5, f6⟩ := hM k1 hk1
    rw [fX9_shifts_l63_s, fX10_shifts_l54_s, if_neg (i_nge' (b := 30000) (by decide) (by omega))]
    by_cases hd : le ≤ 0
    · rw [if_pos (i_le (b := 0) (by decide) (by omega)), if_pos (i_le (b := 0) (by decide) (by omega))]
      unfold fX9_shifts_j118
      rw [e_secondAt N g hk1, bd1_s, f2, e_putMoment N _ _ _ _ hk3, bd2_s, e_tell1, bd2_s, gi_z (by omega) (by omega) (by omega), zI_cl (by omega) (by omega), tn1, f4, e_stands, bd1_s, e_comesTo N hk3, bd2_s, e_tellA, bd2_s]
      exact ⟨_, _, _, _, _, _, _, _, _, zup dd k3 x, zup ss k3 (ss k1), rfl, by rw [upd_n (by omega), upd_s, upd_s], hM.up hx f6, RelR.mk1 upd_s _, by simp (disch := omega) only [upd_n], by simp (disch := omega) only [upd_n]⟩
    · rw [if_neg (i_nle (b := 0) (by decide) (by omega)), if_neg (i_nle (b := 0) (by decide) (by omega))]
      obtain ⟨W, hW⟩ : ∃ W : Int, W = if 0 ≤ z2 then 1 else -1 := ⟨_, rfl⟩
      have bW : W = 1 ∧ 0 ≤ z2 ∨ W = -1 ∧ z2 < 0 := by
        by_cases h : 0 ≤ z2
        · rw [if_pos h] at hW; omega
        · rw [if_neg h] at hW; omega
      have c2 : (if (0 : Int32) ≤ zI z2 then fX10_shifts_j70 N j (fX10_shifts_l54 N j n) (zI k1) (zI z2) (zI k3) (zI le) (zI q2) (1 : Int32) (zI x) i F G R else fX10_shifts_j70 N j (fX10_shifts_l54 N j n) (zI k1) (zI z2) (zI k3) (zI le) (zI q2) (-1 : Int32) (zI x) i F G R) = fX10_shifts_j70 N j (fX10_shifts_l54 N j n) (zI k1) (zI z2) (zI k3) (zI le) (zI q2) (zI W) (zI x) i F G R := by
        rcases bW with ⟨e, h⟩ | ⟨e, h⟩
        · rw [if_pos (i_ge' (b := 0) (by decide) (by omega)), e, zl_1]
        · rw [if_neg (i_nge' (b := 0) (by decide) (by omega)), e, zl_m1]
      rw [c2, ← hW]
      rw [← hW] at ih
      unfold fX10_shifts_j70
      rw [nm_s, zI_add, nm_s (x := zI (x + W))]
      by_cases hday : 0 ≤ x + W ∧ x + W ≤ 3652058
      · rw [c_day1 N hday, bd1_s, if_neg z10, m_day1 N hday, bd1_s, if_neg z10, wd_c N (by omega), bd1_s]
        have e7 : zI (x + W) - zI (x + W) / 7 * 7 = zI ((x + W) % 7) := by
          simp (disch := omega) only [zl_m2147483648, zl_m2000000000, zl_m99999, zl_m10000, zl_m21, zl_m9, zl_m5, zl_m2, zl_m1, zl_0, zl_1, zl_2, zl_3, zl_4, zl_5, zl_6, zl_7, zl_8, zl_9, zl_10, zl_11, zl_12, zl_13, zl_14, zl_15, zl_16, zl_17, zl_18, zl_19, zl_23, zl_24, zl_28, zl_29, zl_30, zl_31, zl_45, zl_48, zl_52, zl_57, zl_58, zl_59, zl_60, zl_84, zl_90, zl_100, zl_101, zl_102, zl_103, zl_104, zl_105, zl_106, zl_107, zl_108, zl_109, zl_110, zl_111, zl_112, zl_113, zl_114, zl_115, zl_116, zl_117, zl_118, zl_119, zl_120, zl_121, zl_127, zl_151, zl_153, zl_181, zl_212, zl_243, zl_255, zl_273, zl_304, zl_306, zl_334, zl_365, zl_400, zl_1000, zl_1023, zl_1100, zl_1460, zl_3600, zl_9999, zl_10000, zl_30000, zl_36524, zl_86399, zl_86400, zl_99999, zl_119999, zl_146096, zl_146097, zl_730119, zl_876215, zl_876216, zl_1000000, zl_3652058, zll_m9223372036854775808, zll_m1000000000, zll_m1000009, zll_m1000002, zll_m10000, zll_m5, zll_m2, zll_m1, zll_0, zll_1, zll_2, zll_3, zll_5, zll_6, zll_7, zll_12, zll_100, zll_255, zll_400, zll_1000, zll_9999, zll_10000, zll_86399, zll_86400, zll_120000, zll_146097, zll_2629746, zll_3652058, zll_1000000000, zll_9218868437227405312, zll_9221120237041090560, nm, bd1_s, bd2_s, bd3_s, bd4_s, bd5_s, bd6_s, if01, gz_1, gz_0, gz_if, cz_lt, cz_le, cz_gt, cz_ge, cz_eq, zI_add, zI_sub, zI_mul, zI_neg, zL_add, zL_sub, zL_mul, zL_neg, zI_lt, zI_le, zI_eq, zL_lt, zL_le, zL_eq, zI_toL, zL_toI, zI_div, zL_div, zI_cl, gi_z, mod_fold, upd_s, upd_n, updL_s, updL_n, ↓reduceIte, Int.reduceLT, Int.reduceLE, Int.reduceEq, Int.reduceAdd, Int.reduceSub, Int.reduceMul, Int.reduceNeg, Int.reduceToNat, eq_self, not_true_eq_false, not_false_eq_true, true_and, false_and, and_true, and_false, true_or, false_or, or_true, or_false]
        have mv1 : W = 1 → (x % 7 ≤ 5 ∧ (x + W) % 7 = x % 7 + 1) ∨ (x % 7 = 6 ∧ (x + W) % 7 = 0) := by
          intro e; subst e; omega
        have mv2 : W = -1 → (1 ≤ x % 7 ∧ (x + W) % 7 = x % 7 - 1) ∨ (x % 7 = 0 ∧ (x + W) % 7 = 6) := by
          intro e; subst e; omega
        have rg : 0 ≤ x % 7 ∧ x % 7 ≤ 6 := by omega
        rw [e7]
        obtain ⟨V, hV⟩ : ∃ V, V = (x + W) % 7 := ⟨_, rfl⟩
        have ih2 := fun (w' le' p' : Int) => ih w' (x + W) le' p'
        rw [← hV] at mv1 mv2 ih2 ⊢
        obtain ⟨U, hU⟩ : ∃ U, U = x % 7 := ⟨_, rfl⟩
        rw [← hU] at mv1 mv2 rg h6 h7
        clear hV hU e7
        by_cases hw : 5 ≤ V
        · rw [if_pos (i_ge' (b := 5) (by decide) (by omega)), if_pos (i_ge' (b := 5) (by decide) (by omega)), nm_s, nm_s, nm_s, zl_1, zI_add, zI_add]
          exact ih2 (w + 1) le (p + 1) i hR hday h1 h2 (by omega) (by omega) (by omega) (by omega) (by omega) (by omega) (q + 1) (q2 + 1) (by omega) (by omega) (by omega) (by omega)
        · rw [if_neg (i_nge' (b := 5) (by decide) (by omega)), if_neg (i_nge' (b := 5) (by decide) (by omega)), nm_s, nm_s, nm_s, zl_m1, zI_add, zl_1, zI_add, show le + -1 = le - 1 by omega]
          exact ih2 (w + 1) (le - 1) p i hR hday (by omega) (by omega) (by omega) (by omega) (by omega) (by omega) (by omega) (by omega) (q + 1) q2 (by omega) (by omega) (by omega) (by omega)
      · rw [c_day0 N (by omega) (by omega) hday, bd1_s, if_pos z00, m_day0 N (by omega) (by omega) hday, bd1_s, if_pos z00]
        exact ⟨_, _, _, _, _, _, _, _, _, dd, ss, rfl, rfl, hM, hR, rfl, rfl⟩
theorem p_shifts (N : Nat) (hN : 200000 ≤ N) (p1 : Int32) (p2 : Int32) (p3 : Int32) {ks : Int32} {f : Nat → Int32} {g : Nat → Int32} {tl : Int32} {nn : Nat → Int64} {i : Nat → Int32} {j : Nat → Int64} {F : Nat → Int32} {G : Nat → Int32} {R : Nat → Int64} {dd ss : Nat → Int} (hM : RelM dd ss f g F G) (hR : RelR tl nn i R) : 
    ∃ (r : Int32) (f' : Nat → Int32) (g' : Nat → Int32) (tl' : Int32) (nn' : Nat → Int64) (i' : Nat → Int32) (F' : Nat → Int32) (G' : Nat → Int32) (R' : Nat → Int64) (dd' : Nat → Int) (ss' : Nat → Int), fX9_shifts N p1 p2 p3 ks f g tl nn = some (r, f', g', tl', nn') ∧ fX10_shifts N p1 p2 p3 i j F G R = some (r, i', F', G', R') ∧ RelM dd' ss' f' g' F' G' ∧ RelR tl' nn' i' R' ∧ i' 4 = i 4 ∧ i' 6 = i 6 := by
  obtain ⟨z1, l1, v1, rfl⟩ := zI_of p1
  obtain ⟨z2, l2, v2, rfl⟩ := zI_of p2
  obtain ⟨z3, l3, v3, rfl⟩ := zI_of p3
  by_cases q0 : 0 ≤ z1 ∧ z1 ≤ 7
  case neg =>
    refine ⟨(-1 : Int32), f, g, tl, nn, upd i 9 (zI 0), F, G, R, dd, ss, ?_, ?_, hM, hR.f9, upd_n (by omega), upd_n (by omega)⟩
    · unfold fX9_shifts
      rw [c_slot0 N l1 v1 q0, bd1_s, if_pos z00]
    · unfold fX10_shifts
      rw [m_slot0 N l1 v1 q0, bd1_s, if_pos z00]
      rfl
  by_cases q1 : -10000 ≤ z2 ∧ z2 ≤ 10000
  case neg =>
    refine ⟨(-1 : Int32), f, g, tl, nn, upd i 9 (zI 0), F, G, R, dd, ss, ?_, ?_, hM, hR.f9, upd_n (by omega), upd_n (by omega)⟩
    · unfold fX9_shifts
      rw [c_slot1 N q0, bd1_s, if_neg z10]
      rcases (show z2 < -10000 ∨ 10000 < z2 by omega) with w | w
      · rw [if_pos (i_lt (b := -10000) (by decide) (by omega))]
      · rw [if_neg (i_nlt (b := -10000) (by decide) (by omega)), if_pos (i_gt (b := 10000) (by decide) (by omega))]
    · unfold fX10_shifts
      rw [m_slot1 N q0, bd1_s, if_neg z10]
      rw [m_in0 N (lo := -10000) (hi := 10000) (by decide) (by decide) l2 v2 (by omega) q1, bd1_s, if_pos z00]
      rfl
  by_cases q2 : 0 ≤ z3 ∧ z3 ≤ 7
  case neg =>
    refine ⟨(-1 : Int32), f, g, tl, nn, upd i 9 (zI 0), F, G, R, dd, ss, ?_, ?_, hM, hR.f9, upd_n (by omega), upd_n (by omega)⟩
    · unfold fX9_shifts
      rw [c_slot1 N q0, bd1_s, if_neg z10]
      rw [if_neg (i_nlt (b := -10000) (by decide) (by omega)), if_neg (i_ngt (b := 10000) (by decide) (by omega))]
      rw [c_slot0 N l3 v3 q2, bd1_s, if_pos z00]
    · unfold fX10_shifts
      rw [m_slot1 N q0, bd1_s, if_neg z10]
      rw [m_in1 N (lo := -10000) (hi := 10000) (by decide) (by decide) (by omega) q1, bd1_s, if_neg z10]
      rw [m_slot0 N l3 v3 q2, bd1_s, if_pos z00]
      rfl
  unfold fX9_shifts fX10_shifts
  rw [c_slot1 N q0, bd1_s, if_neg z10]
  rw [if_neg (i_nlt (b := -10000) (by decide) (by omega)), if_neg (i_ngt (b := 10000) (by decide) (by omega))]
  rw [c_slot1 N q2, bd1_s, if_neg z10]
  rw [m_slot1 N q0, bd1_s, if_neg z10]
  rw [m_in1 N (lo := -10000) (hi := 10000) (by decide) (by decide) (by omega) q1, bd1_s, if_neg z10]
  rw [m_slot1 N q2, bd1_s, if_neg z10]
  obtain ⟨k1, hk1, rfl⟩ := slot_of q0
  obtain ⟨k3, hk3, rfl⟩ := slot_of q2
  obtain ⟨f1, f2, f3, f4, f5, f6⟩ := hM k1 hk1
  obtain ⟨A, hA⟩ : ∃ A : Int, A = if 0 ≤ z2 then z2 else -z2 := ⟨_, rfl⟩
  have bA : A = z2 ∧ 0 ≤ z2 ∨ A = -z2 ∧ z2 < 0 := by
    by_cases h : 0 ≤ z2
    · rw [if_pos h] at hA; omega
    · rw [if_neg h] at hA; omega
  obtain ⟨W, hW⟩ : ∃ W : Int, W = if 0 ≤ z2 then 1 else -1 := ⟨_, rfl⟩
  have sz : fX10_sizeOf N (zI z2).toInt64 = some (zL A) := by
    unfold fX10_sizeOf
    rw [zI_toL l2 v2, zll_0]
    rcases bA with ⟨e, h⟩ | ⟨e, h⟩
    · rw [if_pos (k_ge (by omega)), e]
    · rw [if_neg (k_nge (by omega)), e, zL_neg]
  have cl : (if (0 : Int32) ≤ zI z2 then fX9_shifts_j39 N ks (zI k1) (zI z2) (zI k3) (1 : Int32) f g tl nn else fX9_shifts_j39 N ks (zI k1) (zI z2) (zI k3) (-1 : Int32) f g tl nn) = fX9_shifts_l63 N ks N (zI k1) (zI k3) (zI W) (zI A) (zI (dd k1)) (zI 0) (zI 0) f g tl nn := by
    unfold fX9_shifts_j39
    rw [e_dayAt N f hk1, f1]
    by_cases h : 0 ≤ z2
    · rw [if_pos (i_ge' (b := 0) (by decide) (by omega)), if_pos (i_ge' (b := 0) (by decide) (by omega)), nm_s, bd1_s, hW, if_pos h, hA, if_pos h, zl_0, zl_1]
    · rw [if_neg (i_nge' (b := 0) (by decide) (by omega)), if_neg (i_nge' (b := 0) (by decide) (by omega)), nm_s, bd1_s, hW, if_neg h, hA, if_neg h, zl_0, zl_m1, zI_sub, show 0 - z2 = -z2 by omega]
  rw [cl, sz, gi_z (by omega) (by omega) (by omega), nm_s, zI_cl (by omega) (by omega), tn1, f3, bd1_s, nm_s, zL_toI, zl_0]
  have st := l_shifts N hN (ks := ks) (tl := tl) (nn := nn) (j := j) (R := R) hM hk1 hk3 q1 N (10000 - A) (dd k1) A 0 (upd i 9 (zI 0)) hR.f9 f5 (by omega) (by omega) (by omega) (by omega) (by omega) (by omega) (by omega) (by omega) 0 0 (by omega) (by omega) (by omega) (by omega)
  rw [← hW] at st
  obtain ⟨r, f', g', tl', nn', i', F', G', R', dd', ss', v1, v2, v3, v4, v5, v6⟩ := st
  exact ⟨r, f', g', tl', nn', i', F', G', R', dd', ss', v1, v2, v3, v4, by rw [v5]; simp (disch := omega) only [upd_n], by rw [v6]; simp (disch := omega) only [upd_n]⟩
