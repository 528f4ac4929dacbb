/-! workdays -/
theorem wk_key {x y k : Int} (h : 0 ≤ x ∧ x ≤ y ∧ y ≤ 3652058) (hk : 0 ≤ k ∧ k ≤ 6) : (y + 6 - k) / 7 - (x + 6 - k) / 7 = if (k - x % 7 + 7) % 7 < (y - x) % 7 then (y - x) / 7 + 1 else (y - x) / 7 := by
  have hk2 : k = 0 ∨ k = 1 ∨ k = 2 ∨ k = 3 ∨ k = 4 ∨ k = 5 ∨ k = 6 := by omega
  rcases hk2 with rfl | rfl | rfl | rfl | rfl | rfl | rfl <;> split <;> omega
theorem l_workdays (N : Nat) {ks : Int32} {f F : Nat → Int32} {j : Nat → Int64} {k1 k2 : Nat} (hk1 : k1 < 8) (hk2 : k2 < 8) {d1 d2 x y : Int} (c1 : f k1 = zI d1) (c2 : f k2 = zI d2) (c3 : F k1 = zI d1) (c4 : F k2 = zI d2) (h : 0 ≤ x ∧ x ≤ y ∧ y ≤ 3652058) (b1 : 0 ≤ d1 ∧ d1 ≤ 3652058) (b2 : 0 ≤ d2 ∧ d2 ≤ 3652058) : ∀ (n k : Nat) (m : Int) (nn R : Nat → Int64) (i : Nat → Int32), k ≤ 7 → Ag k nn R → i 8 = zI k → 8 - k ≤ n →
    ∃ (r : Int32) (tl' : Int32) (nn' : Nat → Int64) (i' : Nat → Int32) (R' : Nat → Int64), fX9_workdays_l88 N ks f n (zI k1) (zI k2) (zI x) (zI ((y - x) / 7)) (zI ((y - x) % 7)) (zI m) (zI k) (zI k) nn = some (r, tl', nn') ∧ fX10_workdays_l65 N j F n (zI k1) (zI k2) (zI x) (zI y) (zI m) (zI k) i R = some (r, i', R') ∧ RelR tl' nn' i' R' ∧ i' 4 = i 4 ∧ i' 6 = i 6 := by
  intro n
  induction n with
  | zero => intro k m nn R i h1 hA h8 hn; omega
  | succ n ih =>
    intro k m nn R i h1 hA h8 hn
    rw [fX9_workdays_l88_s, fX10_workdays_l65_s]
    by_cases hd : 7 ≤ k
    · rw [if_pos (i_ge' (b := 7) (by decide) (by omega)), if_pos (i_ge' (b := 7) (by decide) (by omega)), e_dayAt N f hk2, bd1_s, e_dayAt N f hk1, bd1_s, gi_z (by omega) (by omega) (by omega), gi_z (by omega) (by omega) (by omega), zI_cl (by omega) (by omega), zI_cl (by omega) (by omega), tn1, tn1, c1, c2, c3, c4]
      have hRR : RelR (zI k) nn i R := ⟨k, by omega, rfl, h8, hA⟩
      by_cases hc : d1 ≤ d2
      · rw [if_pos (i_le rfl (by omega)), if_pos (i_le rfl (by omega))]
        exact ⟨_, _, _, _, _, rfl, rfl, hRR, rfl, rfl⟩
      · rw [if_neg (i_nle rfl (by omega)), if_neg (i_nle rfl (by omega))]
        exact ⟨_, _, _, _, _, rfl, rfl, hRR, rfl, rfl⟩
    · rw [if_neg (i_nge' (b := 7) (by decide) (by omega)), if_neg (i_nge' (b := 7) (by decide) (by omega)), wd_c N (by omega), bd1_s]
      have key := wk_key h (k := k) (by omega)
      obtain ⟨A, hA'⟩ : ∃ A : Int, A = if ((k : Int) - x % 7 + 7) % 7 < (y - x) % 7 then (y - x) / 7 + 1 else (y - x) / 7 := ⟨_, rfl⟩
      rw [← hA'] at key
      have e1 : (zI k - zI (x % 7) + 7) - (zI k - zI (x % 7) + 7) / 7 * 7 = zI (((k : Int) - x % 7 + 7) % 7) := by
        simp (disch := omega) only [zl_m2147483648, zl_m2000000000, zl_m99999, zl_m10000, zl_m21, zl_m9, zl_m5, zl_m2, zl_m1, zl_0, zl_1, zl_2, zl_3, zl_4, zl_5, zl_6, zl_7, zl_8, zl_9, zl_10, zl_11, zl_12, zl_13, zl_14, zl_15, zl_16, zl_17, zl_18, zl_19, zl_23, zl_24, zl_28, zl_29, zl_30, zl_31, zl_45, zl_48, zl_52, zl_57, zl_58, zl_59, zl_60, zl_84, zl_90, zl_100, zl_101, zl_102, zl_103, zl_104, zl_105, zl_106, zl_107, zl_108, zl_109, zl_110, zl_111, zl_112, zl_113, zl_114, zl_115, zl_116, zl_117, zl_118, zl_119, zl_120, zl_121, zl_127, zl_151, zl_153, zl_181, zl_212, zl_243, zl_255, zl_273, zl_304, zl_306, zl_334, zl_365, zl_400, zl_1000, zl_1023, zl_1100, zl_1460, zl_3600, zl_9999, zl_10000, zl_30000, zl_36524, zl_86399, zl_86400, zl_99999, zl_119999, zl_146096, zl_146097, zl_730119, zl_876215, zl_876216, zl_1000000, zl_3652058, zll_m9223372036854775808, zll_m1000000000, zll_m1000009, zll_m1000002, zll_m10000, zll_m5, zll_m2, zll_m1, zll_0, zll_1, zll_2, zll_3, zll_5, zll_6, zll_7, zll_12, zll_100, zll_255, zll_400, zll_1000, zll_9999, zll_10000, zll_86399, zll_86400, zll_120000, zll_146097, zll_2629746, zll_3652058, zll_1000000000, zll_9218868437227405312, zll_9221120237041090560, nm, bd1_t, bd2_t, bd3_t, bd4_t, bd5_t, bd6_t, if01, gz_1, gz_0, gz_if, cz_lt, cz_le, cz_gt, cz_ge, cz_eq, zI_add, zI_sub, zI_mul, zI_neg, zL_add, zL_sub, zL_mul, zL_neg, zI_lt, zI_le, zI_eq, zL_lt, zL_le, zL_eq, zI_toL, zL_toI, zI_div, zL_div, zI_cl, gi_z, mod_fold, upd_s, upd_n, updL_s, updL_n, ↓reduceIte, Int.reduceLT, Int.reduceLE, Int.reduceEq, Int.reduceAdd, Int.reduceSub, Int.reduceMul, Int.reduceNeg, Int.reduceToNat, eq_self, not_true_eq_false, not_false_eq_true, true_and, false_and, and_true, and_false, true_or, false_or, or_true, or_false]
      have e2 : (zI y + 6 - zI k) / 7 - (zI x + 6 - zI k) / 7 = zI A := by
        rw [← key]
        simp (disch := omega) only [zl_m2147483648, zl_m2000000000, zl_m99999, zl_m10000, zl_m21, zl_m9, zl_m5, zl_m2, zl_m1, zl_0, zl_1, zl_2, zl_3, zl_4, zl_5, zl_6, zl_7, zl_8, zl_9, zl_10, zl_11, zl_12, zl_13, zl_14, zl_15, zl_16, zl_17, zl_18, zl_19, zl_23, zl_24, zl_28, zl_29, zl_30, zl_31, zl_45, zl_48, zl_52, zl_57, zl_58, zl_59, zl_60, zl_84, zl_90, zl_100, zl_101, zl_102, zl_103, zl_104, zl_105, zl_106, zl_107, zl_108, zl_109, zl_110, zl_111, zl_112, zl_113, zl_114, zl_115, zl_116, zl_117, zl_118, zl_119, zl_120, zl_121, zl_127, zl_151, zl_153, zl_181, zl_212, zl_243, zl_255, zl_273, zl_304, zl_306, zl_334, zl_365, zl_400, zl_1000, zl_1023, zl_1100, zl_1460, zl_3600, zl_9999, zl_10000, zl_30000, zl_36524, zl_86399, zl_86400, zl_99999, zl_119999, zl_146096, zl_146097, zl_730119, zl_876215, zl_876216, zl_1000000, zl_3652058, zll_m9223372036854775808, zll_m1000000000, zll_m1000009, zll_m1000002, zll_m10000, zll_m5, zll_m2, zll_m1, zll_0, zll_1, zll_2, zll_3, zll_5, zll_6, zll_7, zll_12, zll_100, zll_255, zll_400, zll_1000, zll_9999, zll_10000, zll_86399, zll_86400, zll_120000, zll_146097, zll_2629746, zll_3652058, zll_1000000000, zll_9218868437227405312, zll_9221120237041090560, nm, bd1_t, bd2_t, bd3_t, bd4_t, bd5_t, bd6_t, if01, gz_1, gz_0, gz_if, cz_lt, cz_le, cz_gt, cz_ge, cz_eq, zI_add, zI_sub, zI_mul, zI_neg, zL_add, zL_sub, zL_mul, zL_neg, zI_lt, zI_le, zI_eq, zL_lt, zL_le, zL_eq, zI_toL, zL_toI, zI_div, zL_div, zI_cl, gi_z, mod_fold, upd_s, upd_n, updL_s, updL_n, ↓reduceIte, Int.reduceLT, Int.reduceLE, Int.reduceEq, Int.reduceAdd, Int.reduceSub, Int.reduceMul, Int.reduceNeg, Int.reduceToNat, eq_self, not_true_eq_false, not_false_eq_true, true_and, false_and, and_true, and_false, true_or, false_or, or_true, or_false]
      rw [e1, nm_s, e2, nm_s (x := zI A), e_tell N h8 (by omega), bd2_s]
      have c5 : (if zI ((y - x) % 7) ≤ zI (((k : Int) - x % 7 + 7) % 7) then fX9_workdays_j126 N ks f (fX9_workdays_l88 N ks f n) (zI k1) (zI k2) (zI x) (zI ((y - x) / 7)) (zI ((y - x) % 7)) (zI m) (zI k) (zI ((y - x) / 7)) (zI k) nn else fX9_workdays_j126 N ks f (fX9_workdays_l88 N ks f n) (zI k1) (zI k2) (zI x) (zI ((y - x) / 7)) (zI ((y - x) % 7)) (zI m) (zI k) (zI ((y - x) / 7) + 1) (zI k) nn) = fX9_workdays_j126 N ks f (fX9_workdays_l88 N ks f n) (zI k1) (zI k2) (zI x) (zI ((y - x) / 7)) (zI ((y - x) % 7)) (zI m) (zI k) (zI A) (zI k) nn := by
        by_cases hc : ((k : Int) - x % 7 + 7) % 7 < (y - x) % 7
        · rw [if_neg (i_nle rfl (by omega)), hA', if_pos hc, zl_1, zI_add]
        · rw [if_pos (i_le rfl (by omega)), hA', if_neg hc]
      rw [c5]
      unfold fX9_workdays_j126
      rw [e_push N (by omega), bd2_s]
      have i1 : ∀ v : Int32, (upd i 8 v) 4 = i 4 ∧ (upd i 8 v) 6 = i 6 := fun v => ⟨upd_n (by omega), upd_n (by omega)⟩
      have e3 : zI k + (1 : Int32) = zI ((k + 1 : Nat) : Int) := by rw [zl_1, zI_add]; rfl
      by_cases hs : 5 ≤ k
      · rw [if_pos (i_ge' (b := 5) (by decide) (by omega)), if_pos (i_ge' (b := 5) (by decide) (by omega)), nm_s, nm_s, nm_s, e3, zl_0, zI_add, Int.add_zero]
        obtain ⟨r, tl', nn', i', R', v1, v2, v3, v4, v5⟩ := ih (k + 1) m (vp_updL nn k (zI A).toInt64) (vp_updL R k (zI A).toInt64) (upd i 8 (zI ((k + 1 : Nat) : Int))) (by omega) (hA.up _) upd_s (by omega)
        exact ⟨r, tl', nn', i', R', v1, v2, v3, by rw [v4, (i1 _).1], by rw [v5, (i1 _).2]⟩
      · rw [if_neg (i_nge' (b := 5) (by decide) (by omega)), if_neg (i_nge' (b := 5) (by decide) (by omega)), nm_s, nm_s, nm_s, nm_s, e3, zI_add]
        obtain ⟨r, tl', nn', i', R', v1, v2, v3, v4, v5⟩ := ih (k + 1) (m + A) (vp_updL nn k (zI A).toInt64) (vp_updL R k (zI A).toInt64) (upd i 8 (zI ((k + 1 : Nat) : Int))) (by omega) (hA.up _) upd_s (by omega)
        exact ⟨r, tl', nn', i', R', v1, v2, v3, by rw [v4, (i1 _).1], by rw [v5, (i1 _).2]⟩
theorem p_workdays (N : Nat) (hN : 200000 ≤ N) (p1 : Int32) (p2 : Int32) {ks : Int32} {f : Nat → Int32} {tl : Int32} {nn : Nat → Int64} {i : Nat → Int32} {j : Nat → Int64} {F : Nat → Int32} {R : Nat → Int64} {g : Nat → Int32} {G : Nat → Int32} {dd ss : Nat → Int} (hM : RelM dd ss f g F G) (hR : RelR tl nn i R) : 
    ∃ (r : Int32) (tl' : Int32) (nn' : Nat → Int64) (i' : Nat → Int32) (R' : Nat → Int64), fX9_workdays N p1 p2 ks f tl nn = some (r, tl', nn') ∧ fX10_workdays N p1 p2 i j F R = some (r, i', R') ∧ RelR tl' nn' i' R' ∧ i' 4 = i 4 ∧ i' 6 = i 6 := by
  obtain ⟨z1, l1, v1, rfl⟩ := zI_of p1
  obtain ⟨z2, l2, v2, rfl⟩ := zI_of p2
  by_cases q0 : 0 ≤ z1 ∧ z1 ≤ 7
  case neg =>
    refine ⟨(-1 : Int32), tl, nn, upd i 9 (zI 0), R, ?_, ?_, hR.f9, upd_n (by omega), upd_n (by omega)⟩
    · unfold fX9_workdays
      rw [c_slot0 N l1 v1 q0, bd1_s, if_pos z00]
    · unfold fX10_workdays
      rw [m_slot0 N l1 v1 q0, bd1_s, if_pos z00]
      rfl
  by_cases q1 : 0 ≤ z2 ∧ z2 ≤ 7
  case neg =>
    refine ⟨(-1 : Int32), tl, nn, upd i 9 (zI 0), R, ?_, ?_, hR.f9, upd_n (by omega), upd_n (by omega)⟩
    · unfold fX9_workdays
      rw [c_slot1 N q0, bd1_s, if_neg z10]
      rw [c_slot0 N l2 v2 q1, bd1_s, if_pos z00]
    · unfold fX10_workdays
      rw [m_slot1 N q0, bd1_s, if_neg z10]
      rw [m_slot0 N l2 v2 q1, bd1_s, if_pos z00]
      rfl
  unfold fX9_workdays fX10_workdays
  rw [c_slot1 N q0, bd1_s, if_neg z10]
  rw [c_slot1 N q1, bd1_s, if_neg z10]
  rw [m_slot1 N q0, bd1_s, if_neg z10]
  rw [m_slot1 N q1, bd1_s, if_neg z10]
  obtain ⟨k1, hk1, rfl⟩ := slot_of q0
  obtain ⟨k2, hk2, rfl⟩ := slot_of q1
  obtain ⟨f1, f2, f3, f4, f5, f6⟩ := hM k1 hk1
  obtain ⟨a1, a2, a3, a4, a5, a6⟩ := hM k2 hk2
  rw [e_dayAt N f hk1, e_dayAt N f hk2, f1, a1]
  obtain ⟨X, hX⟩ : ∃ X, X = min (dd k1) (dd k2) := ⟨_, rfl⟩
  obtain ⟨Y, hY⟩ : ∃ Y, Y = max (dd k2) (dd k1) := ⟨_, rfl⟩
  have bX : 0 ≤ X ∧ X ≤ Y ∧ Y ≤ 3652058 := by omega
  unfold fX3_begin
  simp (disch := omega) only [bd1_t, nm_t, gi_z, zI_cl, tn1, f3, a3, I_min, I_max]
  rw [← hX, ← hY]
  have e1 : (zI Y - zI X) / 7 = zI ((Y - X) / 7) := by
    simp (disch := omega) only [zl_m2147483648, zl_m2000000000, zl_m99999, zl_m10000, zl_m21, zl_m9, zl_m5, zl_m2, zl_m1, zl_0, zl_1, zl_2, zl_3, zl_4, zl_5, zl_6, zl_7, zl_8, zl_9, zl_10, zl_11, zl_12, zl_13, zl_14, zl_15, zl_16, zl_17, zl_18, zl_19, zl_23, zl_24, zl_28, zl_29, zl_30, zl_31, zl_45, zl_48, zl_52, zl_57, zl_58, zl_59, zl_60, zl_84, zl_90, zl_100, zl_101, zl_102, zl_103, zl_104, zl_105, zl_106, zl_107, zl_108, zl_109, zl_110, zl_111, zl_112, zl_113, zl_114, zl_115, zl_116, zl_117, zl_118, zl_119, zl_120, zl_121, zl_127, zl_151, zl_153, zl_181, zl_212, zl_243, zl_255, zl_273, zl_304, zl_306, zl_334, zl_365, zl_400, zl_1000, zl_1023, zl_1100, zl_1460, zl_3600, zl_9999, zl_10000, zl_30000, zl_36524, zl_86399, zl_86400, zl_99999, zl_119999, zl_146096, zl_146097, zl_730119, zl_876215, zl_876216, zl_1000000, zl_3652058, zll_m9223372036854775808, zll_m1000000000, zll_m1000009, zll_m1000002, zll_m10000, zll_m5, zll_m2, zll_m1, zll_0, zll_1, zll_2, zll_3, zll_5, zll_6, zll_7, zll_12, zll_100, zll_255, zll_400, zll_1000, zll_9999, zll_10000, zll_86399, zll_86400, zll_120000, zll_146097, zll_2629746, zll_3652058, zll_1000000000, zll_9218868437227405312, zll_9221120237041090560, nm, bd1_t, bd2_t, bd3_t, bd4_t, bd5_t, bd6_t, if01, gz_1, gz_0, gz_if, cz_lt, cz_le, cz_gt, cz_ge, cz_eq, zI_add, zI_sub, zI_mul, zI_neg, zL_add, zL_sub, zL_mul, zL_neg, zI_lt, zI_le, zI_eq, zL_lt, zL_le, zL_eq, zI_toL, zL_toI, zI_div, zL_div, zI_cl, gi_z, mod_fold, upd_s, upd_n, updL_s, updL_n, ↓reduceIte, Int.reduceLT, Int.reduceLE, Int.reduceEq, Int.reduceAdd, Int.reduceSub, Int.reduceMul, Int.reduceNeg, Int.reduceToNat, eq_self, not_true_eq_false, not_false_eq_true, true_and, false_and, and_true, and_false, true_or, false_or, or_true, or_false]
  have e2 : (zI Y - zI X) - zI ((Y - X) / 7) * 7 = zI ((Y - X) % 7) := by
    simp (disch := omega) only [zl_m2147483648, zl_m2000000000, zl_m99999, zl_m10000, zl_m21, zl_m9, zl_m5, zl_m2, zl_m1, zl_0, zl_1, zl_2, zl_3, zl_4, zl_5, zl_6, zl_7, zl_8, zl_9, zl_10, zl_11, zl_12, zl_13, zl_14, zl_15, zl_16, zl_17, zl_18, zl_19, zl_23, zl_24, zl_28, zl_29, zl_30, zl_31, zl_45, zl_48, zl_52, zl_57, zl_58, zl_59, zl_60, zl_84, zl_90, zl_100, zl_101, zl_102, zl_103, zl_104, zl_105, zl_106, zl_107, zl_108, zl_109, zl_110, zl_111, zl_112, zl_113, zl_114, zl_115, zl_116, zl_117, zl_118, zl_119, zl_120, zl_121, zl_127, zl_151, zl_153, zl_181, zl_212, zl_243, zl_255, zl_273, zl_304, zl_306, zl_334, zl_365, zl_400, zl_1000, zl_1023, zl_1100, zl_1460, zl_3600, zl_9999, zl_10000, zl_30000, zl_36524, zl_86399, zl_86400, zl_99999, zl_119999, zl_146096, zl_146097, zl_730119, zl_876215, zl_876216, zl_1000000, zl_3652058, zll_m9223372036854775808, zll_m1000000000, zll_m1000009, zll_m1000002, zll_m10000, zll_m5, zll_m2, zll_m1, zll_0, zll_1, zll_2, zll_3, zll_5, zll_6, zll_7, zll_12, zll_100, zll_255, zll_400, zll_1000, zll_9999, zll_10000, zll_86399, zll_86400, zll_120000, zll_146097, zll_2629746, zll_3652058, zll_1000000000, zll_9218868437227405312, zll_9221120237041090560, nm, bd1_t, bd2_t, bd3_t, bd4_t, bd5_t, bd6_t, if01, gz_1, gz_0, gz_if, cz_lt, cz_le, cz_gt, cz_ge, cz_eq, zI_add, zI_sub, zI_mul, zI_neg, zL_add, zL_sub, zL_mul, zL_neg, zI_lt, zI_le, zI_eq, zL_lt, zL_le, zL_eq, zI_toL, zL_toI, zI_div, zL_div, zI_cl, gi_z, mod_fold, upd_s, upd_n, updL_s, updL_n, ↓reduceIte, Int.reduceLT, Int.reduceLE, Int.reduceEq, Int.reduceAdd, Int.reduceSub, Int.reduceMul, Int.reduceNeg, Int.reduceToNat, eq_self, not_true_eq_false, not_false_eq_true, true_and, false_and, and_true, and_false, true_or, false_or, or_true, or_false]
  rw [e1, e2]
  obtain ⟨r, tl', nn', i', R', v1, v2, v3, v4, v5⟩ := l_workdays N (ks := ks) (j := j) hk1 hk2 f1 a1 f3 a3 bX f5 a5 N 0 0 nn R (upd (upd i 9 (0 : Int32)) 8 (0 : Int32)) (by omega) (Ag.zero nn R) upd_s (by omega)
  exact ⟨r, tl', nn', i', R', v1, v2, v3, by rw [v4]; simp (disch := omega) only [upd_n], by rw [v5]; simp (disch := omega) only [upd_n]⟩
/-! kept and gone back to -/
theorem l_becomes (N : Nat) {A B C D E : Nat → Int32} : ∀ (n k : Nat) (a b c d e : Nat → Int32), k ≤ 8 → (∀ q, q < k → a q = A q ∧ b q = B q ∧ c q = C q ∧ d q = D q ∧ e q = E q) → 9 - k ≤ n →
    ∃ a' b' c' d' e', fX4_becomes_l2 N A B C D E n (zI k) a b c d e = some (a', b', c', d', e') ∧ ∀ q, q < 8 → a' q = A q ∧ b' q = B q ∧ c' q = C q ∧ d' q = D q ∧ e' q = E q := by
  intro n
  induction n with
  | zero => intro k a b c d e h1 h2 hn; omega
  | succ n ih =>
    intro k a b c d e h1 h2 hn
    rw [fX4_becomes_l2_s]
    by_cases hd : 8 ≤ k
    · rw [if_pos (i_ge' (b := 8) (by decide) (by omega))]
      exact ⟨_, _, _, _, _, rfl, fun q hq => h2 q (by omega)⟩
    · have hk : k < 8 := by omega
      have e3 : zI k + (1 : Int32) = zI ((k + 1 : Nat) : Int) := by rw [zl_1, zI_add]; rfl
      rw [if_neg (i_nge' (b := 8) (by decide) (by omega)), e_dayAt N A hk, bd1_s, e_secondAt N B hk, bd1_s, e_putMoment N _ _ _ _ hk, bd2_s, e_monthsAt N C hk, bd1_s, e_daysAt N D hk, bd1_s, e_secondsAt N E hk, bd1_s, e_putSpan N _ _ _ _ _ _ hk, bd3_s, nm_s, e3]
      refine ih (k + 1) _ _ _ _ _ (by omega) (fun q hq => ?_) (by omega)
      by_cases e : q = k
      · subst e; simp only [upd_s]; exact ⟨trivial, trivial, trivial, trivial, trivial⟩
      · simp only [upd_n e]; exact h2 q (by omega)
theorem e_becomes (N : Nat) (hN : 200000 ≤ N) (a b c d e A B C D E : Nat → Int32) : ∃ a' b' c' d' e', fX4_becomes N a b c d e A B C D E = some (a', b', c', d', e') ∧ ∀ q, q < 8 → a' q = A q ∧ b' q = B q ∧ c' q = C q ∧ d' q = D q ∧ e' q = E q := by
  unfold fX4_becomes
  exact l_becomes N N 0 a b c d e (by omega) (fun q hq => by omega) (by omega)
def RelK (ks : Int32) (f2 g2 a2 b2 c2 i K : Nat → Int32) : Prop := (ks = zI 0 ∨ ks = zI 1) ∧ i 4 = ks ∧ ∃ dd ss mm da se : Nat → Int, (∀ k, k < 8 → f2 k = zI (dd k) ∧ g2 k = zI (ss k) ∧ K k = zI (dd k) ∧ K (8 + k) = zI (ss k) ∧ (0 ≤ dd k ∧ dd k ≤ 3652058) ∧ 0 ≤ ss k ∧ ss k ≤ 86399) ∧ (∀ k, k < 8 → a2 k = zI (mm k) ∧ b2 k = zI (da k) ∧ c2 k = zI (se k) ∧ K (16 + 3 * k) = zI (mm k) ∧ K (16 + (3 * k + 1)) = zI (da k) ∧ K (16 + (3 * k + 2)) = zI (se k) ∧ sp_b3 (mm k) (da k) (se k))
theorem tn8 (k : Nat) : (8 + (k : Int)).toNat = 8 + k := by omega
theorem tn16 (k : Nat) : (16 + (k : Int)).toNat = 16 + k := by omega
theorem l_keeps24 (N : Nat) {F G S : Nat → Int32} {j : Nat → Int64} : ∀ (n k : Nat) (i K : Nat → Int32), k ≤ 24 → (∀ q, q < k → K (16 + q) = S q) → 25 - k ≤ n →
    ∃ K', fX10_keeps_l48 N j F G S n (zI k) i K = some (1, upd i 4 1, K') ∧ (∀ q, q < 24 → K' (16 + q) = S q) ∧ ∀ q, q < 16 → K' q = K q := by
  intro n
  induction n with
  | zero => intro k i K h1 h2 hn; omega
  | succ n ih =>
    intro k i K h1 h2 hn
    rw [fX10_keeps_l48_s]
    by_cases hd : 24 ≤ k
    · rw [if_pos (i_ge' (b := 24) (by decide) (by omega))]
      exact ⟨_, rfl, fun q hq => h2 q (by omega), fun q hq => rfl⟩
    · have e3 : zI k + (1 : Int32) = zI ((k + 1 : Nat) : Int) := by rw [zl_1, zI_add]; rfl
      have e4 : (16 : Int32) + zI k = zI (16 + k) := by rw [zl_16, zI_add]
      rw [if_neg (i_nge' (b := 24) (by decide) (by omega)), e4, gi_z (by omega) (by omega) (by omega), gi_z (by omega) (by omega) (by omega), nm_s, e3, zI_cl (by omega) (by omega), zI_cl (by omega) (by omega), tn1, tn16]
      obtain ⟨K', v1, v2, v3⟩ := ih (k + 1) i (upd K (16 + k) (S k)) (by omega) (fun q hq => by
        by_cases e : q = k
        · subst e; rw [upd_s]
        · rw [upd_n (by omega)]; exact h2 q (by omega)) (by omega)
      exact ⟨K', v1, v2, fun q hq => by rw [v3 q hq, upd_n (by omega)]⟩
theorem l_keeps8 (N : Nat) (hN : 200000 ≤ N) {F G S : Nat → Int32} {j : Nat → Int64} : ∀ (n k : Nat) (i K : Nat → Int32), k ≤ 8 → (∀ q, q < k → K q = F q ∧ K (8 + q) = G q) → 9 - k ≤ n →
    ∃ K', fX10_keeps_l7 N j F G S n (zI k) i K = some (1, upd i 4 1, K') ∧ (∀ q, q < 24 → K' (16 + q) = S q) ∧ ∀ q, q < 8 → K' q = F q ∧ K' (8 + q) = G q := by
  intro n
  induction n with
  | zero => intro k i K h1 h2 hn; omega
  | succ n ih =>
    intro k i K h1 h2 hn
    rw [fX10_keeps_l7_s]
    by_cases hd : 8 ≤ k
    · rw [if_pos (i_ge' (b := 8) (by decide) (by omega))]
      obtain ⟨K', v1, v2, v3⟩ := l_keeps24 N (F := F) (G := G) (S := S) (j := j) N 0 i K (by omega) (fun q hq => by omega) (by omega)
      refine ⟨K', v1, v2, fun q hq => ?_⟩
      rw [v3 q (by omega), v3 (8 + q) (by omega)]
      exact h2 q (by omega)
    · have e3 : zI k + (1 : Int32) = zI ((k + 1 : Nat) : Int) := by rw [zl_1, zI_add]; rfl
      have e4 : (8 : Int32) + zI k = zI (8 + k) := by rw [zl_8, zI_add]
      rw [if_neg (i_nge' (b := 8) (by decide) (by omega)), e4]
      rw [gi_z (by omega) (by omega) (by omega), gi_z (by omega) (by omega) (by omega), gi_z (by omega) (by omega) (by omega), gi_z (by omega) (by omega) (by omega), nm_s, e3, zI_cl (by omega) (by omega), zI_cl (by omega) (by omega), tn1, tn8]
      refine ih (k + 1) i _ (by omega) (fun q hq => ?_) (by omega)
      by_cases e : q = k
      · subst e; rw [upd_s, upd_n (by omega), upd_s]; exact ⟨rfl, rfl⟩
      · rw [upd_n (by omega), upd_n (by omega), upd_n (by omega), upd_n (by omega)]; exact h2 q (by omega)
theorem p_keeps (N : Nat) (hN : 200000 ≤ N)  {ks : Int32} {f : Nat → Int32} {g : Nat → Int32} {a : Nat → Int32} {b : Nat → Int32} {c : Nat → Int32} {f2 : Nat → Int32} {g2 : Nat → Int32} {a2 : Nat → Int32} {b2 : Nat → Int32} {c2 : Nat → Int32} {i : Nat → Int32} {j : Nat → Int64} {F : Nat → Int32} {G : Nat → Int32} {S : Nat → Int32} {K : Nat → Int32} {dd ss mm da se : Nat → Int} (hM : RelM dd ss f g F G) (hS : RelS mm da se a b c S) (hK : RelK ks f2 g2 a2 b2 c2 i K) : 
    ∃ (r : Int32) (ks' : Int32) (f2' : Nat → Int32) (g2' : Nat → Int32) (a2' : Nat → Int32) (b2' : Nat → Int32) (c2' : Nat → Int32) (i' : Nat → Int32) (K' : Nat → Int32), fX9_keeps N ks f g a b c f2 g2 a2 b2 c2 = some (r, ks', f2', g2', a2', b2', c2') ∧ fX10_keeps N i j F G S K = some (r, i', K') ∧ RelK ks' f2' g2' a2' b2' c2' i' K' ∧ i' 6 = i 6 ∧ i' 8 = i 8 := by
  obtain ⟨a1, b1, c1, d1, e1, v1, v2⟩ := e_becomes N hN f2 g2 a2 b2 c2 f g a b c
  obtain ⟨K', w1, w2, w3⟩ := l_keeps8 N hN (F := F) (G := G) (S := S) (j := j) N 0 (upd i 9 (0 : Int32)) K (by omega) (fun q hq => by omega) (by omega)
  unfold fX9_keeps fX10_keeps
  rw [v1, bd5_s]
  refine ⟨_, _, _, _, _, _, _, _, _, rfl, w1, ?_, by simp (disch := omega) only [upd_n], by simp (disch := omega) only [upd_n]⟩
  refine ⟨Or.inr zl_1, upd_s, dd, ss, mm, da, se, fun k hk => ?_, fun k hk => ?_⟩
  · obtain ⟨f1, f2, f3, f4, f5, f6⟩ := hM k hk
    obtain ⟨u1, u2, u3, u4, u5⟩ := v2 k hk
    obtain ⟨x1, x2⟩ := w3 k hk
    exact ⟨by rw [u1, f1], by rw [u2, f2], by rw [x1, f3], by rw [x2, f4], f5, f6⟩
  · obtain ⟨s1, s2, s3, s4, s5, s6, s7⟩ := hS k hk
    obtain ⟨u1, u2, u3, u4, u5⟩ := v2 k hk
    exact ⟨by rw [u3, s1], by rw [u4, s2], by rw [u5, s3], by rw [w2 (3 * k) (by omega), s4], by rw [w2 (3 * k + 1) (by omega), s5], by rw [w2 (3 * k + 2) (by omega), s6], s7⟩
theorem l_back24 (N : Nat) {K : Nat → Int32} {j : Nat → Int64} : ∀ (n k : Nat) (i F G S : Nat → Int32), k ≤ 24 → (∀ q, q < k → S q = K (16 + q)) → 25 - k ≤ n →
    ∃ S', fX10_back_l57 N j K n (zI k) i F G S = some (1, i, F, G, S') ∧ (∀ q, q < 24 → S' q = K (16 + q)) := by
  intro n
  induction n with
  | zero => intro k i F G S h1 h2 hn; omega
  | succ n ih =>
    intro k i F G S h1 h2 hn
    rw [fX10_back_l57_s]
    by_cases hd : 24 ≤ k
    · rw [if_pos (i_ge' (b := 24) (by decide) (by omega))]
      exact ⟨_, rfl, fun q hq => h2 q (by omega)⟩
    · have e3 : zI k + (1 : Int32) = zI ((k + 1 : Nat) : Int) := by rw [zl_1, zI_add]; rfl
      have e4 : (16 : Int32) + zI k = zI (16 + k) := by rw [zl_16, zI_add]
      rw [if_neg (i_nge' (b := 24) (by decide) (by omega)), e4, gi_z (by omega) (by omega) (by omega), gi_z (by omega) (by omega) (by omega), nm_s, e3, zI_cl (by omega) (by omega), zI_cl (by omega) (by omega), tn1, tn16]
      refine ih (k + 1) i F G _ (by omega) (fun q hq => ?_) (by omega)
      by_cases e : q = k
      · subst e; rw [upd_s]
      · rw [upd_n (by omega)]; exact h2 q (by omega)
theorem l_back8 (N : Nat) (hN : 200000 ≤ N) {K : Nat → Int32} {j : Nat → Int64} : ∀ (n k : Nat) (i F G S : Nat → Int32), k ≤ 8 → (∀ q, q < k → F q = K q ∧ G q = K (8 + q)) → 9 - k ≤ n →
    ∃ F' G' S', fX10_back_l16 N j K n (zI k) i F G S = some (1, i, F', G', S') ∧ (∀ q, q < 24 → S' q = K (16 + q)) ∧ ∀ q, q < 8 → F' q = K q ∧ G' q = K (8 + q) := by
  intro n
  induction n with
  | zero => intro k i F G S h1 h2 hn; omega
  | succ n ih =>
    intro k i F G S h1 h2 hn
    rw [fX10_back_l16_s]
    by_cases hd : 8 ≤ k
    · rw [if_pos (i_ge' (b := 8) (by decide) (by omega))]
      obtain ⟨S', v1, v2⟩ := l_back24 N (K := K) (j := j) N 0 i F G S (by omega) (fun q hq => by omega) (by omega)
      exact ⟨F, G, S', v1, v2, fun q hq => h2 q (by omega)⟩
    · have e3 : zI k + (1 : Int32) = zI ((k + 1 : Nat) : Int) := by rw [zl_1, zI_add]; rfl
      have e4 : (8 : Int32) + zI k = zI (8 + k) := by rw [zl_8, zI_add]
      rw [if_neg (i_nge' (b := 8) (by decide) (by omega)), e4]
      rw [gi_z (by omega) (by omega) (by omega), gi_z (by omega) (by omega) (by omega), gi_z (by omega) (by omega) (by omega), gi_z (by omega) (by omega) (by omega), nm_s, e3, zI_cl (by omega) (by omega), zI_cl (by omega) (by omega), tn1, tn8]
      refine ih (k + 1) i _ _ S (by omega) (fun q hq => ?_) (by omega)
      by_cases e : q = k
      · subst e; rw [upd_s, upd_s]; exact ⟨rfl, rfl⟩
      · rw [upd_n (by omega), upd_n (by omega)]; exact h2 q (by omega)
theorem p_back (N : Nat) (hN : 200000 ≤ N)  {ks : Int32} {f : Nat → Int32} {g : Nat → Int32} {a : Nat → Int32} {b : Nat → Int32} {c : Nat → Int32} {f2 : Nat → Int32} {g2 : Nat → Int32} {a2 : Nat → Int32} {b2 : Nat → Int32} {c2 : Nat → Int32} {i : Nat → Int32} {j : Nat → Int64} {F : Nat → Int32} {G : Nat → Int32} {S : Nat → Int32} {K : Nat → Int32} {dd ss mm da se : Nat → Int} (hM : RelM dd ss f g F G) (hS : RelS mm da se a b c S) (hK : RelK ks f2 g2 a2 b2 c2 i K) : 
    ∃ (r : Int32) (f' : Nat → Int32) (g' : Nat → Int32) (a' : Nat → Int32) (b' : Nat → Int32) (c' : Nat → Int32) (i' : Nat → Int32) (F' : Nat → Int32) (G' : Nat → Int32) (S' : Nat → Int32) (dd' : Nat → Int) (ss' : Nat → Int) (mm' : Nat → Int) (da' : Nat → Int) (se' : Nat → Int), fX9_back N ks f g a b c f2 g2 a2 b2 c2 = some (r, f', g', a', b', c') ∧ fX10_back N i j F G S K = some (r, i', F', G', S') ∧ RelM dd' ss' f' g' F' G' ∧ RelS mm' da' se' a' b' c' S' ∧ i' 4 = i 4 ∧ i' 6 = i 6 ∧ i' 8 = i 8 := by
  obtain ⟨hk, hk4, dd2, ss2, mm2, da2, se2, kM, kS⟩ := hK
  unfold fX9_back fX10_back
  rw [hk4]
  rcases hk with rfl | rfl
  · rw [if_pos z00, if_pos z00]
    exact ⟨_, _, _, _, _, _, _, _, _, _, dd, ss, mm, da, se, rfl, rfl, hM, hS, by simp (disch := omega) only [upd_n, hk4], by simp (disch := omega) only [upd_n], by simp (disch := omega) only [upd_n]⟩
  · rw [if_neg z10, if_neg z10]
    obtain ⟨a1, b1, c1, d1, e1, v1, v2⟩ := e_becomes N hN f g a b c f2 g2 a2 b2 c2
    obtain ⟨F', G', S', w1, w2, w3⟩ := l_back8 N hN (K := K) (j := j) N 0 (upd i 9 (0 : Int32)) F G S (by omega) (fun q hq => by omega) (by omega)
    rw [v1, bd5_s]
    refine ⟨_, _, _, _, _, _, _, _, _, _, dd2, ss2, mm2, da2, se2, rfl, w1, ?_, ?_, by simp (disch := omega) only [upd_n, hk4], by simp (disch := omega) only [upd_n], by simp (disch := omega) only [upd_n]⟩
    · intro k hk
      obtain ⟨f1, f2, f3, f4, f5, f6⟩ := kM k hk
      obtain ⟨u1, u2, u3, u4, u5⟩ := v2 k hk
      obtain ⟨x1, x2⟩ := w3 k hk
      exact ⟨by rw [u1, f1], by rw [u2, f2], by rw [x1, f3], by rw [x2, f4], f5, f6⟩
    · intro k hk
      obtain ⟨s1, s2, s3, s4, s5, s6, s7⟩ := kS k hk
      obtain ⟨u1, u2, u3, u4, u5⟩ := v2 k hk
      exact ⟨by rw [u3, s1], by rw [u4, s2], by rw [u5, s3], by rw [w2 (3 * k) (by omega), s4], by rw [w2 (3 * k + 1) (by omega), s5], by rw [w2 (3 * k + 2) (by omega), s6], s7⟩
