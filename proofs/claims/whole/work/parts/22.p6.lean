/-! nth, whole -/
theorem wd_c (N : Nat) {x : Int} (h : 0 ≤ x ∧ x ≤ 2147483647) : fX1_weekdayOf N (zI x) = some (zI (x % 7)) := by
  unfold fX1_weekdayOf
  simp (disch := omega) only [zl_m2147483648, zl_m2000000000, zl_m99999, zl_m10000, zl_m21, zl_m9, zl_m5, zl_m2, zl_m1, zl_0, zl_1, zl_2, zl_3, zl_4, zl_5, zl_6, zl_7, zl_8, zl_9, zl_10, zl_11, zl_12, zl_13, zl_14, zl_15, zl_16, zl_17, zl_18, zl_19, zl_23, zl_24, zl_28, zl_29, zl_30, zl_31, zl_45, zl_48, zl_52, zl_57, zl_58, zl_59, zl_60, zl_84, zl_90, zl_100, zl_101, zl_102, zl_103, zl_104, zl_105, zl_106, zl_107, zl_108, zl_109, zl_110, zl_111, zl_112, zl_113, zl_114, zl_115, zl_116, zl_117, zl_118, zl_119, zl_120, zl_121, zl_127, zl_151, zl_153, zl_181, zl_212, zl_243, zl_255, zl_273, zl_304, zl_306, zl_334, zl_365, zl_400, zl_1000, zl_1023, zl_1100, zl_1460, zl_3600, zl_9999, zl_10000, zl_30000, zl_36524, zl_86399, zl_86400, zl_99999, zl_119999, zl_146096, zl_146097, zl_730119, zl_876215, zl_876216, zl_1000000, zl_3652058, zll_m9223372036854775808, zll_m1000000000, zll_m1000009, zll_m1000002, zll_m10000, zll_m5, zll_m2, zll_m1, zll_0, zll_1, zll_2, zll_3, zll_5, zll_6, zll_7, zll_12, zll_100, zll_255, zll_400, zll_1000, zll_9999, zll_10000, zll_86399, zll_86400, zll_120000, zll_146097, zll_2629746, zll_3652058, zll_1000000000, zll_9218868437227405312, zll_9221120237041090560, nm, bd1_s, bd2_s, bd3_s, bd4_s, bd5_s, bd6_s, if01, gz_1, gz_0, gz_if, cz_lt, cz_le, cz_gt, cz_ge, cz_eq, zI_add, zI_sub, zI_mul, zI_neg, zL_add, zL_sub, zL_mul, zL_neg, zI_lt, zI_le, zI_eq, zL_lt, zL_le, zL_eq, zI_toL, zL_toI, zI_div, zL_div, zI_cl, gi_z, mod_fold, upd_s, upd_n, updL_s, updL_n, ↓reduceIte, Int.reduceLT, Int.reduceLE, Int.reduceEq, Int.reduceAdd, Int.reduceSub, Int.reduceMul, Int.reduceNeg, Int.reduceToNat, eq_self, not_true_eq_false, not_false_eq_true, true_and, false_and, and_true, and_false, true_or, false_or, or_true, or_false]
theorem p_nth (N : Nat) (hN : 200000 ≤ N) (p1 : Int32) (p2 : Int32) (p3 : Int32) (p4 : Int32) {ks : Int32} {i : Nat → Int32} {j : Nat → Int64}  : 
    ∃ (r : Int32) (i' : Nat → Int32), fX9_nth N p1 p2 p3 p4 ks = some r ∧ fX10_nth N p1 p2 p3 p4 i j = some (r, i') ∧ i' 4 = i 4 ∧ i' 6 = i 6 ∧ i' 8 = i 8 := by
  obtain ⟨z1, l1, v1, rfl⟩ := zI_of p1
  obtain ⟨z2, l2, v2, rfl⟩ := zI_of p2
  obtain ⟨z3, l3, v3, rfl⟩ := zI_of p3
  obtain ⟨z4, l4, v4, rfl⟩ := zI_of p4
  by_cases q0 : 1 ≤ z1 ∧ z1 ≤ 9999
  case neg =>
    refine ⟨(-1 : Int32), upd i 9 (zI 0), ?_, ?_, upd_n (by omega), upd_n (by omega), upd_n (by omega)⟩
    · unfold fX9_nth
      rw [c_year0 N l1 v1 q0, bd1_s, if_pos z00]
    · unfold fX10_nth
      rw [m_in0 N (lo := 1) (hi := 9999) (by decide) (by decide) l1 v1 (by omega) q0, bd1_s, if_pos z00]
      rfl
  by_cases q1 : 1 ≤ z2 ∧ z2 ≤ 12
  case neg =>
    refine ⟨(-1 : Int32), upd i 9 (zI 0), ?_, ?_, upd_n (by omega), upd_n (by omega), upd_n (by omega)⟩
    · unfold fX9_nth
      rw [c_year1 N q0, bd1_s, if_neg z10]
      rw [c_month0 N l2 v2 q1, bd1_s, if_pos z00]
    · unfold fX10_nth
      rw [m_in1 N (lo := 1) (hi := 9999) (by decide) (by decide) (by omega) q0, bd1_s, if_neg z10]
      rw [m_in0 N (lo := 1) (hi := 12) (by decide) (by decide) l2 v2 (by omega) q1, bd1_s, if_pos z00]
      rfl
  by_cases q2 : 0 ≤ z3 ∧ z3 ≤ 6
  case neg =>
    refine ⟨(-1 : Int32), upd i 9 (zI 0), ?_, ?_, upd_n (by omega), upd_n (by omega), upd_n (by omega)⟩
    · unfold fX9_nth
      rw [c_year1 N q0, bd1_s, if_neg z10]
      rw [c_month1 N q1, bd1_s, if_neg z10]
      rw [c_wd0 N l3 v3 q2, bd1_s, if_pos z00]
    · unfold fX10_nth
      rw [m_in1 N (lo := 1) (hi := 9999) (by decide) (by decide) (by omega) q0, bd1_s, if_neg z10]
      rw [m_in1 N (lo := 1) (hi := 12) (by decide) (by decide) (by omega) q1, bd1_s, if_neg z10]
      rw [m_in0 N (lo := 0) (hi := 6) (by decide) (by decide) l3 v3 (by omega) q2, bd1_s, if_pos z00]
      rfl
  unfold fX9_nth fX10_nth
  rw [c_year1 N q0, bd1_s, if_neg z10]
  rw [c_month1 N q1, bd1_s, if_neg z10]
  rw [c_wd1 N q2, bd1_s, if_neg z10]
  rw [m_in1 N (lo := 1) (hi := 9999) (by decide) (by decide) (by omega) q0, bd1_s, if_neg z10]
  rw [m_in1 N (lo := 1) (hi := 12) (by decide) (by decide) (by omega) q1, bd1_s, if_neg z10]
  rw [m_in1 N (lo := 0) (hi := 6) (by decide) (by decide) (by omega) q2, bd1_s, if_neg z10]
  by_cases qn : -5 ≤ z4 ∧ z4 ≤ 5
  case neg =>
    refine ⟨(-1 : Int32), upd i 9 (zI 0), ?_, ?_, by simp (disch := omega) only [upd_n], by simp (disch := omega) only [upd_n], by simp (disch := omega) only [upd_n]⟩
    · rcases (show z4 < -5 ∨ 5 < z4 by omega) with w | w
      · rw [if_neg (i_neq (b := 0) (by decide) (by omega)), if_pos (i_lt (b := -5) (by decide) (by omega))]
      · rw [if_neg (i_neq (b := 0) (by decide) (by omega)), if_neg (i_nlt (b := -5) (by decide) (by omega)), if_neg (i_nle (b := 5) (by decide) (by omega))]
    · rw [m_in0 N (lo := -5) (hi := 5) (by decide) (by decide) l4 v4 (by omega) qn, bd1_s, if_pos z00]
      rfl
  rw [m_in1 N (lo := -5) (hi := 5) (by decide) (by decide) (by omega) qn, bd1_s, if_neg z10]
  by_cases q0' : z4 = 0
  · rw [if_pos (i_eq (b := 0) (by decide) q0'), if_pos (i_eq (b := 0) (by decide) q0')]
    exact ⟨_, _, rfl, rfl, by simp (disch := omega) only [upd_n], by simp (disch := omega) only [upd_n], by simp (disch := omega) only [upd_n]⟩
  rw [if_neg (i_neq (b := 0) (by decide) (by omega)), if_neg (i_neq (b := 0) (by decide) (by omega)), if_neg (i_nlt (b := -5) (by decide) (by omega)), if_pos (i_le (b := 5) (by decide) (by omega))]
  have b := dn_b q0.1 q0.2 q1.1 q1.2
  have b2 := mlen_b z1 z2
  rw [show (1 : Int32) = zI 1 from zl_1, e_dn N (by omega) (by omega) (by omega) (by omega) (by omega) (by omega), bd1_s, e_dn_m N (by omega) (by omega) (by omega) (by omega) (by omega) (by omega), bd1_s, e_mlen N (by omega) (by omega) (by omega) (by omega), bd1_s, e_mlen_m N (by omega) (by omega) (by omega) (by omega), bd1_s, zI_add, zI_sub, nm_s, nm_s]
  obtain ⟨A, hA⟩ : ∃ A, A = sp_dn z1 z2 1 := ⟨_, rfl⟩
  obtain ⟨L, hL⟩ : ∃ L, L = sp_mlen z1 z2 := ⟨_, rfl⟩
  rw [← hA, ← hL] at b ⊢
  rw [← hL] at b2
  have fin : ∀ T : Int, -1000000 ≤ T → T ≤ 10000000 → ∃ (r : Int32) (i' : Nat → Int32), fX9_nth_j117 N ks (zI A) (zI (A + L - 1)) (zI T) = some r ∧ fX10_nth_j139 N j (zI A) (zI (A + L - 1)) (zI T) (upd i 9 (zI 0)) = some (r, i') ∧ i' 4 = i 4 ∧ i' 6 = i 6 ∧ i' 8 = i 8 := by
    intro T t1 t2
    unfold fX9_nth_j117 fX10_nth_j139
    rw [zI_toL (a := T) (by omega) (by omega), zI_toL (a := A) (by omega) (by omega), zI_toL (a := A + L - 1) (by omega) (by omega), e_in_m N (by omega) (by omega) (by omega) (by omega) (by omega) (by omega), bd1_s]
    by_cases h : A ≤ T ∧ T ≤ A + L - 1
    · rw [if_pos h, if_neg z10, if_neg (i_nlt rfl (by omega)), if_pos (i_le rfl (by omega))]
      exact ⟨_, _, rfl, rfl, by simp (disch := omega) only [upd_n], by simp (disch := omega) only [upd_n], by simp (disch := omega) only [upd_n]⟩
    · rw [if_neg h, if_pos z00]
      refine ⟨(-2 : Int32), _, ?_, rfl, by simp (disch := omega) only [upd_n], by simp (disch := omega) only [upd_n], by simp (disch := omega) only [upd_n]⟩
      by_cases h1 : T < A
      · rw [if_pos (i_lt rfl (by omega))]
      · rw [if_neg (i_nlt rfl (by omega)), if_neg (i_nle rfl (by omega))]
  by_cases hp : z4 ≤ 0
  · rw [if_pos (i_le (b := 0) (by decide) (by omega)), if_pos (i_le (b := 0) (by decide) (by omega)), wd_c N (by omega), bd1_s]
    have e1 : (zI (A + L - 1) - ((zI ((A + L - 1) % 7) - zI z3 + 7) - (zI ((A + L - 1) % 7) - zI z3 + 7) / 7 * 7)) + 7 * (zI z4 + zI 1) = zI (A + L - 1 - ((A + L - 1) % 7 - z3 + 7) % 7 + 7 * (z4 + 1)) := by
      simp (disch := omega) only [zl_m2147483648, zl_m2000000000, zl_m99999, zl_m10000, zl_m21, zl_m9, zl_m5, zl_m2, zl_m1, zl_0, zl_1, zl_2, zl_3, zl_4, zl_5, zl_6, zl_7, zl_8, zl_9, zl_10, zl_11, zl_12, zl_13, zl_14, zl_15, zl_16, zl_17, zl_18, zl_19, zl_23, zl_24, zl_28, zl_29, zl_30, zl_31, zl_45, zl_48, zl_52, zl_57, zl_58, zl_59, zl_60, zl_84, zl_90, zl_100, zl_101, zl_102, zl_103, zl_104, zl_105, zl_106, zl_107, zl_108, zl_109, zl_110, zl_111, zl_112, zl_113, zl_114, zl_115, zl_116, zl_117, zl_118, zl_119, zl_120, zl_121, zl_127, zl_151, zl_153, zl_181, zl_212, zl_243, zl_255, zl_273, zl_304, zl_306, zl_334, zl_365, zl_400, zl_1000, zl_1023, zl_1100, zl_1460, zl_3600, zl_9999, zl_10000, zl_30000, zl_36524, zl_86399, zl_86400, zl_99999, zl_119999, zl_146096, zl_146097, zl_730119, zl_876215, zl_876216, zl_1000000, zl_3652058, zll_m9223372036854775808, zll_m1000000000, zll_m1000009, zll_m1000002, zll_m10000, zll_m5, zll_m2, zll_m1, zll_0, zll_1, zll_2, zll_3, zll_5, zll_6, zll_7, zll_12, zll_100, zll_255, zll_400, zll_1000, zll_9999, zll_10000, zll_86399, zll_86400, zll_120000, zll_146097, zll_2629746, zll_3652058, zll_1000000000, zll_9218868437227405312, zll_9221120237041090560, nm, bd1_s, bd2_s, bd3_s, bd4_s, bd5_s, bd6_s, if01, gz_1, gz_0, gz_if, cz_lt, cz_le, cz_gt, cz_ge, cz_eq, zI_add, zI_sub, zI_mul, zI_neg, zL_add, zL_sub, zL_mul, zL_neg, zI_lt, zI_le, zI_eq, zL_lt, zL_le, zL_eq, zI_toL, zL_toI, zI_div, zL_div, zI_cl, gi_z, mod_fold, upd_s, upd_n, updL_s, updL_n, ↓reduceIte, Int.reduceLT, Int.reduceLE, Int.reduceEq, Int.reduceAdd, Int.reduceSub, Int.reduceMul, Int.reduceNeg, Int.reduceToNat, eq_self, not_true_eq_false, not_false_eq_true, true_and, false_and, and_true, and_false, true_or, false_or, or_true, or_false]
    have e2 : zI (A + L - 1) - zI (A + L - 1) / 7 * 7 = zI ((A + L - 1) % 7) := by
      simp (disch := omega) only [zl_m2147483648, zl_m2000000000, zl_m99999, zl_m10000, zl_m21, zl_m9, zl_m5, zl_m2, zl_m1, zl_0, zl_1, zl_2, zl_3, zl_4, zl_5, zl_6, zl_7, zl_8, zl_9, zl_10, zl_11, zl_12, zl_13, zl_14, zl_15, zl_16, zl_17, zl_18, zl_19, zl_23, zl_24, zl_28, zl_29, zl_30, zl_31, zl_45, zl_48, zl_52, zl_57, zl_58, zl_59, zl_60, zl_84, zl_90, zl_100, zl_101, zl_102, zl_103, zl_104, zl_105, zl_106, zl_107, zl_108, zl_109, zl_110, zl_111, zl_112, zl_113, zl_114, zl_115, zl_116, zl_117, zl_118, zl_119, zl_120, zl_121, zl_127, zl_151, zl_153, zl_181, zl_212, zl_243, zl_255, zl_273, zl_304, zl_306, zl_334, zl_365, zl_400, zl_1000, zl_1023, zl_1100, zl_1460, zl_3600, zl_9999, zl_10000, zl_30000, zl_36524, zl_86399, zl_86400, zl_99999, zl_119999, zl_146096, zl_146097, zl_730119, zl_876215, zl_876216, zl_1000000, zl_3652058, zll_m9223372036854775808, zll_m1000000000, zll_m1000009, zll_m1000002, zll_m10000, zll_m5, zll_m2, zll_m1, zll_0, zll_1, zll_2, zll_3, zll_5, zll_6, zll_7, zll_12, zll_100, zll_255, zll_400, zll_1000, zll_9999, zll_10000, zll_86399, zll_86400, zll_120000, zll_146097, zll_2629746, zll_3652058, zll_1000000000, zll_9218868437227405312, zll_9221120237041090560, nm, bd1_s, bd2_s, bd3_s, bd4_s, bd5_s, bd6_s, if01, gz_1, gz_0, gz_if, cz_lt, cz_le, cz_gt, cz_ge, cz_eq, zI_add, zI_sub, zI_mul, zI_neg, zL_add, zL_sub, zL_mul, zL_neg, zI_lt, zI_le, zI_eq, zL_lt, zL_le, zL_eq, zI_toL, zL_toI, zI_div, zL_div, zI_cl, gi_z, mod_fold, upd_s, upd_n, updL_s, updL_n, ↓reduceIte, Int.reduceLT, Int.reduceLE, Int.reduceEq, Int.reduceAdd, Int.reduceSub, Int.reduceMul, Int.reduceNeg, Int.reduceToNat, eq_self, not_true_eq_false, not_false_eq_true, true_and, false_and, and_true, and_false, true_or, false_or, or_true, or_false]
    rw [e2, e1]
    exact fin _ (by omega) (by omega)
  · rw [if_neg (i_nle (b := 0) (by decide) (by omega)), if_neg (i_nle (b := 0) (by decide) (by omega)), wd_c N (by omega), bd1_s]
    have e1 : (zI A + ((zI z3 - zI (A % 7) + 7) - (zI z3 - zI (A % 7) + 7) / 7 * 7)) + 7 * (zI z4 - zI 1) = zI (A + (z3 - A % 7 + 7) % 7 + 7 * (z4 - 1)) := by
      simp (disch := omega) only [zl_m2147483648, zl_m2000000000, zl_m99999, zl_m10000, zl_m21, zl_m9, zl_m5, zl_m2, zl_m1, zl_0, zl_1, zl_2, zl_3, zl_4, zl_5, zl_6, zl_7, zl_8, zl_9, zl_10, zl_11, zl_12, zl_13, zl_14, zl_15, zl_16, zl_17, zl_18, zl_19, zl_23, zl_24, zl_28, zl_29, zl_30, zl_31, zl_45, zl_48, zl_52, zl_57, zl_58, zl_59, zl_60, zl_84, zl_90, zl_100, zl_101, zl_102, zl_103, zl_104, zl_105, zl_106, zl_107, zl_108, zl_109, zl_110, zl_111, zl_112, zl_113, zl_114, zl_115, zl_116, zl_117, zl_118, zl_119, zl_120, zl_121, zl_127, zl_151, zl_153, zl_181, zl_212, zl_243, zl_255, zl_273, zl_304, zl_306, zl_334, zl_365, zl_400, zl_1000, zl_1023, zl_1100, zl_1460, zl_3600, zl_9999, zl_10000, zl_30000, zl_36524, zl_86399, zl_86400, zl_99999, zl_119999, zl_146096, zl_146097, zl_730119, zl_876215, zl_876216, zl_1000000, zl_3652058, zll_m9223372036854775808, zll_m1000000000, zll_m1000009, zll_m1000002, zll_m10000, zll_m5, zll_m2, zll_m1, zll_0, zll_1, zll_2, zll_3, zll_5, zll_6, zll_7, zll_12, zll_100, zll_255, zll_400, zll_1000, zll_9999, zll_10000, zll_86399, zll_86400, zll_120000, zll_146097, zll_2629746, zll_3652058, zll_1000000000, zll_9218868437227405312, zll_9221120237041090560, nm, bd1_s, bd2_s, bd3_s, bd4_s, bd5_s, bd6_s, if01, gz_1, gz_0, gz_if, cz_lt, cz_le, cz_gt, cz_ge, cz_eq, zI_add, zI_sub, zI_mul, zI_neg, zL_add, zL_sub, zL_mul, zL_neg, zI_lt, zI_le, zI_eq, zL_lt, zL_le, zL_eq, zI_toL, zL_toI, zI_div, zL_div, zI_cl, gi_z, mod_fold, upd_s, upd_n, updL_s, updL_n, ↓reduceIte, Int.reduceLT, Int.reduceLE, Int.reduceEq, Int.reduceAdd, Int.reduceSub, Int.reduceMul, Int.reduceNeg, Int.reduceToNat, eq_self, not_true_eq_false, not_false_eq_true, true_and, false_and, and_true, and_false, true_or, false_or, or_true, or_false]
    have e2 : zI A - zI A / 7 * 7 = zI (A % 7) := by
      simp (disch := omega) only [zl_m2147483648, zl_m2000000000, zl_m99999, zl_m10000, zl_m21, zl_m9, zl_m5, zl_m2, zl_m1, zl_0, zl_1, zl_2, zl_3, zl_4, zl_5, zl_6, zl_7, zl_8, zl_9, zl_10, zl_11, zl_12, zl_13, zl_14, zl_15, zl_16, zl_17, zl_18, zl_19, zl_23, zl_24, zl_28, zl_29, zl_30, zl_31, zl_45, zl_48, zl_52, zl_57, zl_58, zl_59, zl_60, zl_84, zl_90, zl_100, zl_101, zl_102, zl_103, zl_104, zl_105, zl_106, zl_107, zl_108, zl_109, zl_110, zl_111, zl_112, zl_113, zl_114, zl_115, zl_116, zl_117, zl_118, zl_119, zl_120, zl_121, zl_127, zl_151, zl_153, zl_181, zl_212, zl_243, zl_255, zl_273, zl_304, zl_306, zl_334, zl_365, zl_400, zl_1000, zl_1023, zl_1100, zl_1460, zl_3600, zl_9999, zl_10000, zl_30000, zl_36524, zl_86399, zl_86400, zl_99999, zl_119999, zl_146096, zl_146097, zl_730119, zl_876215, zl_876216, zl_1000000, zl_3652058, zll_m9223372036854775808, zll_m1000000000, zll_m1000009, zll_m1000002, zll_m10000, zll_m5, zll_m2, zll_m1, zll_0, zll_1, zll_2, zll_3, zll_5, zll_6, zll_7, zll_12, zll_100, zll_255, zll_400, zll_1000, zll_9999, zll_10000, zll_86399, zll_86400, zll_120000, zll_146097, zll_2629746, zll_3652058, zll_1000000000, zll_9218868437227405312, zll_9221120237041090560, nm, bd1_s, bd2_s, bd3_s, bd4_s, bd5_s, bd6_s, if01, gz_1, gz_0, gz_if, cz_lt, cz_le, cz_gt, cz_ge, cz_eq, zI_add, zI_sub, zI_mul, zI_neg, zL_add, zL_sub, zL_mul, zL_neg, zI_lt, zI_le, zI_eq, zL_lt, zL_le, zL_eq, zI_toL, zL_toI, zI_div, zL_div, zI_cl, gi_z, mod_fold, upd_s, upd_n, updL_s, updL_n, ↓reduceIte, Int.reduceLT, Int.reduceLE, Int.reduceEq, Int.reduceAdd, Int.reduceSub, Int.reduceMul, Int.reduceNeg, Int.reduceToNat, eq_self, not_true_eq_false, not_false_eq_true, true_and, false_and, and_true, and_false, true_or, false_or, or_true, or_false]
    rw [e2, e1]
    exact fin _ (by omega) (by omega)
theorem mi_le {x y : Int} (h1 : 0 ≤ x) (h2 : x ≤ y) (h3 : y ≤ 3652058) : sp_mi x ≤ sp_mi y := by
  obtain ⟨a1, a2, a3, a4, a5⟩ := mi_all (x := x) (by omega) (by omega)
  obtain ⟨b1, b2, b3, b4, b5⟩ := mi_all (x := y) (by omega) (by omega)
  by_cases h : sp_mi x ≤ sp_mi y
  · exact h
  · have := first_le (a := sp_mi y + 1) (b := sp_mi x) (by omega)
    have := first_step (sp_mi y)
    omega
theorem p_whole (N : Nat) (hN : 200000 ≤ N) (p1 : Int32) (p2 : Int32) {ks : Int32} {f : Nat → Int32} {tl : Int32} {nn : Nat → Int64} {i : Nat → Int32} {j : Nat → Int64} {F : Nat → Int32} {R : Nat → Int64} {g : Nat → Int32} {G : Nat → Int32} {dd ss : Nat → Int} (hM : RelM dd ss f g F G) (hR : RelR tl nn i R) : 
    ∃ (r : Int32) (tl' : Int32) (nn' : Nat → Int64) (i' : Nat → Int32) (R' : Nat → Int64), fX9_whole N p1 p2 ks f tl nn = some (r, tl', nn') ∧ fX10_whole N p1 p2 i j F R = some (r, i', R') ∧ RelR tl' nn' i' R' ∧ i' 4 = i 4 ∧ i' 6 = i 6 := by
  obtain ⟨z1, l1, v1, rfl⟩ := zI_of p1
  obtain ⟨z2, l2, v2, rfl⟩ := zI_of p2
  by_cases q0 : 0 ≤ z1 ∧ z1 ≤ 7
  case neg =>
    refine ⟨(-1 : Int32), tl, nn, upd i 9 (zI 0), R, ?_, ?_, hR.f9, upd_n (by omega), upd_n (by omega)⟩
    · unfold fX9_whole
      rw [c_slot0 N l1 v1 q0, bd1_s, if_pos z00]
    · unfold fX10_whole
      rw [m_slot0 N l1 v1 q0, bd1_s, if_pos z00]
      rfl
  by_cases q1 : 0 ≤ z2 ∧ z2 ≤ 7
  case neg =>
    refine ⟨(-1 : Int32), tl, nn, upd i 9 (zI 0), R, ?_, ?_, hR.f9, upd_n (by omega), upd_n (by omega)⟩
    · unfold fX9_whole
      rw [c_slot1 N q0, bd1_s, if_neg z10]
      rw [c_slot0 N l2 v2 q1, bd1_s, if_pos z00]
    · unfold fX10_whole
      rw [m_slot1 N q0, bd1_s, if_neg z10]
      rw [m_slot0 N l2 v2 q1, bd1_s, if_pos z00]
      rfl
  unfold fX9_whole fX10_whole
  rw [c_slot1 N q0, bd1_s, if_neg z10]
  rw [c_slot1 N q1, bd1_s, if_neg z10]
  rw [m_slot1 N q0, bd1_s, if_neg z10]
  rw [m_slot1 N q1, bd1_s, if_neg z10]
  obtain ⟨k1, hk1, rfl⟩ := slot_of q0
  obtain ⟨k2, hk2, rfl⟩ := slot_of q1
  obtain ⟨f1, f2, f3, f4, f5, f6⟩ := hM k1 hk1
  obtain ⟨a1, a2, a3, a4, a5, a6⟩ := hM k2 hk2
  rw [e_dayAt N f hk1, e_dayAt N f hk2, f1, a1]
  obtain ⟨X, hX⟩ : ∃ X, X = min (dd k1) (dd k2) := ⟨_, rfl⟩
  obtain ⟨Y, hY⟩ : ∃ Y, Y = max (dd k2) (dd k1) := ⟨_, rfl⟩
  have bX : 0 ≤ X ∧ X ≤ Y ∧ Y ≤ 3652058 := by omega
  simp (disch := omega) only [bd1_s, nm_s, gi_z, zI_cl, tn1, f3, a3, I_min, I_max]
  rw [← hX, ← hY]
  obtain ⟨x1, x2, x3, x4, x5⟩ := mi_all (x := X) (by omega) (by omega)
  obtain ⟨y1, y2, y3, y4, y5⟩ := mi_all (x := Y) (by omega) (by omega)
  obtain ⟨g4, g5, g6, g7⟩ := sp_all (x := X) (by omega) (by omega)
  obtain ⟨g4', g5', g6', g7'⟩ := sp_all (x := Y) (by omega) (by omega)
  have mX : fX1_monthOf N (zI X) = some (zI (sp_mi X)) := e_monthOf N (by omega) (by omega)
  have mY : fX1_monthOf N (zI Y) = some (zI (sp_mi Y)) := e_monthOf N (by omega) (by omega)
  have bm := gl_b (sp_mi X)
  have bm' := gl_b (sp_mi Y)
  have st := first_step (sp_mi X)
  have ml := mi_le bX.1 bX.2.1 bX.2.2
  have fX := first_b (g := sp_mi X) (by omega) (by omega)
  have fY := first_b (g := sp_mi Y) (by omega) (by omega)
  have e1 : 12 * sp_Y X + sp_M X - 1 = sp_mi X := by unfold sp_mi; omega
  have e2 : 12 * sp_Y Y + sp_M Y - 1 = sp_mi Y := by unfold sp_mi; omega
  rw [mX, bd1_s, e_firstOf N (by omega) (by omega), bd1_s, e_dates N (by omega) _ j (x := Y) (by omega) (by omega), bd1_s]
  rw [show zI X = zI X from rfl]
  unfold fX9_whole_j75 fX10_whole_j144 fX10_whole_j179
  rw [mY]
  simp only [bd1_s]
  obtain ⟨i2, hi2⟩ : ∃ i2, i2 = upd (upd (upd (upd (upd (upd (upd i 9 (0 : Int32)) 10 (zI (sp_Y Y))) 11 (zI (sp_M Y))) 12 (zI (sp_D Y))) 10 (zI (sp_Y X))) 11 (zI (sp_M X))) 12 (zI (sp_D X)) := ⟨_, rfl⟩
  have i4 : i2 4 = i 4 := by rw [hi2]; simp (disch := omega) only [upd_n]
  have i6 : i2 6 = i 6 := by rw [hi2]; simp (disch := omega) only [upd_n]
  have i10 : i2 10 = zI (sp_Y X) := by rw [hi2]; simp (disch := omega) only [upd_n, upd_s]
  have i11 : i2 11 = zI (sp_M X) := by rw [hi2]; simp (disch := omega) only [upd_n, upd_s]
  have i12 : i2 12 = zI (sp_D X) := by rw [hi2]; simp (disch := omega) only [upd_n, upd_s]
  have eY1 : (upd (upd (upd (upd i 9 (0 : Int32)) 10 (zI (sp_Y Y))) 11 (zI (sp_M Y))) 12 (zI (sp_D Y))) 10 = zI (sp_Y Y) := by simp (disch := omega) only [upd_n, upd_s]
  have eY2 : (upd (upd (upd (upd i 9 (0 : Int32)) 10 (zI (sp_Y Y))) 11 (zI (sp_M Y))) 12 (zI (sp_D Y))) 11 = zI (sp_M Y) := by simp (disch := omega) only [upd_n, upd_s]
  have eY3 : (upd (upd (upd (upd i 9 (0 : Int32)) 10 (zI (sp_Y Y))) 11 (zI (sp_M Y))) 12 (zI (sp_D Y))) 12 = zI (sp_D Y) := by simp (disch := omega) only [upd_n, upd_s]
  rw [eY1, eY2, eY3, e_dates N (by omega) _ j (x := X) (by omega) (by omega), bd1_s, ← hi2, i10, i11, i12]
  by_cases hD : sp_D X = 1
  · -- from its month's first day on
    rw [if_pos (i_le rfl (by omega)), if_pos (i_le (b := 1) (by decide) (by omega))]
    have fe : sp_first (sp_mi X) = X := by omega
    by_cases hm : sp_mi X < sp_mi Y
    · have p1 : 0 < sp_mi Y - sp_mi X := by omega
      have p2 : ¬ (sp_mi Y - sp_mi X = 0) := by omega
      simp (disch := omega) only [zl_m2147483648, zl_m2000000000, zl_m99999, zl_m10000, zl_m21, zl_m9, zl_m5, zl_m2, zl_m1, zl_0, zl_1, zl_2, zl_3, zl_4, zl_5, zl_6, zl_7, zl_8, zl_9, zl_10, zl_11, zl_12, zl_13, zl_14, zl_15, zl_16, zl_17, zl_18, zl_19, zl_23, zl_24, zl_28, zl_29, zl_30, zl_31, zl_45, zl_48, zl_52, zl_57, zl_58, zl_59, zl_60, zl_84, zl_90, zl_100, zl_101, zl_102, zl_103, zl_104, zl_105, zl_106, zl_107, zl_108, zl_109, zl_110, zl_111, zl_112, zl_113, zl_114, zl_115, zl_116, zl_117, zl_118, zl_119, zl_120, zl_121, zl_127, zl_151, zl_153, zl_181, zl_212, zl_243, zl_255, zl_273, zl_304, zl_306, zl_334, zl_365, zl_400, zl_1000, zl_1023, zl_1100, zl_1460, zl_3600, zl_9999, zl_10000, zl_30000, zl_36524, zl_86399, zl_86400, zl_99999, zl_119999, zl_146096, zl_146097, zl_730119, zl_876215, zl_876216, zl_1000000, zl_3652058, zll_m9223372036854775808, zll_m1000000000, zll_m1000009, zll_m1000002, zll_m10000, zll_m5, zll_m2, zll_m1, zll_0, zll_1, zll_2, zll_3, zll_5, zll_6, zll_7, zll_12, zll_100, zll_255, zll_400, zll_1000, zll_9999, zll_10000, zll_86399, zll_86400, zll_120000, zll_146097, zll_2629746, zll_3652058, zll_1000000000, zll_9218868437227405312, zll_9221120237041090560, nm, bd1_s, bd2_s, bd3_s, bd4_s, bd5_s, bd6_s, if01, gz_1, gz_0, gz_if, cz_lt, cz_le, cz_gt, cz_ge, cz_eq, zI_add, zI_sub, zI_mul, zI_neg, zL_add, zL_sub, zL_mul, zL_neg, zI_lt, zI_le, zI_eq, zL_lt, zL_le, zL_eq, zI_toL, zL_toI, zI_div, zL_div, zI_cl, gi_z, mod_fold, upd_s, upd_n, updL_s, updL_n, ↓reduceIte, Int.reduceLT, Int.reduceLE, Int.reduceEq, Int.reduceAdd, Int.reduceSub, Int.reduceMul, Int.reduceNeg, Int.reduceToNat, eq_self, not_true_eq_false, not_false_eq_true, true_and, false_and, and_true, and_false, true_or, false_or, or_true, or_false, e1, e2, e_firstOf, e_tell2, hm, fe, p1, p2, e_tellB]
      refine ⟨_, _, _, _, _, rfl, rfl, ?_, ?_, ?_⟩
      · have q1 : Y - sp_first (sp_mi Y) = Y - (Y - sp_D Y + 1) := by omega
        rw [q1]
        exact RelR.mk2 upd_s _ _
      · rw [upd_n (by omega), i4]
      · rw [upd_n (by omega), i6]
    · have hm2 : sp_mi Y = sp_mi X := by omega
      simp (disch := omega) only [zl_m2147483648, zl_m2000000000, zl_m99999, zl_m10000, zl_m21, zl_m9, zl_m5, zl_m2, zl_m1, zl_0, zl_1, zl_2, zl_3, zl_4, zl_5, zl_6, zl_7, zl_8, zl_9, zl_10, zl_11, zl_12, zl_13, zl_14, zl_15, zl_16, zl_17, zl_18, zl_19, zl_23, zl_24, zl_28, zl_29, zl_30, zl_31, zl_45, zl_48, zl_52, zl_57, zl_58, zl_59, zl_60, zl_84, zl_90, zl_100, zl_101, zl_102, zl_103, zl_104, zl_105, zl_106, zl_107, zl_108, zl_109, zl_110, zl_111, zl_112, zl_113, zl_114, zl_115, zl_116, zl_117, zl_118, zl_119, zl_120, zl_121, zl_127, zl_151, zl_153, zl_181, zl_212, zl_243, zl_255, zl_273, zl_304, zl_306, zl_334, zl_365, zl_400, zl_1000, zl_1023, zl_1100, zl_1460, zl_3600, zl_9999, zl_10000, zl_30000, zl_36524, zl_86399, zl_86400, zl_99999, zl_119999, zl_146096, zl_146097, zl_730119, zl_876215, zl_876216, zl_1000000, zl_3652058, zll_m9223372036854775808, zll_m1000000000, zll_m1000009, zll_m1000002, zll_m10000, zll_m5, zll_m2, zll_m1, zll_0, zll_1, zll_2, zll_3, zll_5, zll_6, zll_7, zll_12, zll_100, zll_255, zll_400, zll_1000, zll_9999, zll_10000, zll_86399, zll_86400, zll_120000, zll_146097, zll_2629746, zll_3652058, zll_1000000000, zll_9218868437227405312, zll_9221120237041090560, nm, bd1_s, bd2_s, bd3_s, bd4_s, bd5_s, bd6_s, if01, gz_1, gz_0, gz_if, cz_lt, cz_le, cz_gt, cz_ge, cz_eq, zI_add, zI_sub, zI_mul, zI_neg, zL_add, zL_sub, zL_mul, zL_neg, zI_lt, zI_le, zI_eq, zL_lt, zL_le, zL_eq, zI_toL, zL_toI, zI_div, zL_div, zI_cl, gi_z, mod_fold, upd_s, upd_n, updL_s, updL_n, ↓reduceIte, Int.reduceLT, Int.reduceLE, Int.reduceEq, Int.reduceAdd, Int.reduceSub, Int.reduceMul, Int.reduceNeg, Int.reduceToNat, eq_self, not_true_eq_false, not_false_eq_true, true_and, false_and, and_true, and_false, true_or, false_or, or_true, or_false, e1, e2, e_firstOf, e_tell2, hm, hm2, Int.sub_self, Int.lt_irrefl, e_tellB]
      exact ⟨_, _, _, _, _, rfl, rfl, RelR.mk2 upd_s _ _, by rw [upd_n (by omega), i4], by rw [upd_n (by omega), i6]⟩
  · rw [if_neg (i_nle rfl (by omega)), if_neg (i_nle (b := 1) (by decide) (by omega)), e_mlen_m N (by omega) (by omega) (by omega) (by omega), bd1_s, ← x3]
    have fe : X - sp_D X + 1 + sp_gl (sp_mi X) = sp_first (sp_mi X + 1) := by omega
    have fb := first_b (g := sp_mi X + 1) (by omega) (by omega)
    by_cases hm : sp_mi X + 1 < sp_mi Y
    · have p1 : 0 < sp_mi Y - (sp_mi X + 1) := by omega
      have p2 : ¬ (sp_mi Y - (sp_mi X + 1) = 0) := by omega
      simp (disch := omega) only [zl_m2147483648, zl_m2000000000, zl_m99999, zl_m10000, zl_m21, zl_m9, zl_m5, zl_m2, zl_m1, zl_0, zl_1, zl_2, zl_3, zl_4, zl_5, zl_6, zl_7, zl_8, zl_9, zl_10, zl_11, zl_12, zl_13, zl_14, zl_15, zl_16, zl_17, zl_18, zl_19, zl_23, zl_24, zl_28, zl_29, zl_30, zl_31, zl_45, zl_48, zl_52, zl_57, zl_58, zl_59, zl_60, zl_84, zl_90, zl_100, zl_101, zl_102, zl_103, zl_104, zl_105, zl_106, zl_107, zl_108, zl_109, zl_110, zl_111, zl_112, zl_113, zl_114, zl_115, zl_116, zl_117, zl_118, zl_119, zl_120, zl_121, zl_127, zl_151, zl_153, zl_181, zl_212, zl_243, zl_255, zl_273, zl_304, zl_306, zl_334, zl_365, zl_400, zl_1000, zl_1023, zl_1100, zl_1460, zl_3600, zl_9999, zl_10000, zl_30000, zl_36524, zl_86399, zl_86400, zl_99999, zl_119999, zl_146096, zl_146097, zl_730119, zl_876215, zl_876216, zl_1000000, zl_3652058, zll_m9223372036854775808, zll_m1000000000, zll_m1000009, zll_m1000002, zll_m10000, zll_m5, zll_m2, zll_m1, zll_0, zll_1, zll_2, zll_3, zll_5, zll_6, zll_7, zll_12, zll_100, zll_255, zll_400, zll_1000, zll_9999, zll_10000, zll_86399, zll_86400, zll_120000, zll_146097, zll_2629746, zll_3652058, zll_1000000000, zll_9218868437227405312, zll_9221120237041090560, nm, bd1_s, bd2_s, bd3_s, bd4_s, bd5_s, bd6_s, if01, gz_1, gz_0, gz_if, cz_lt, cz_le, cz_gt, cz_ge, cz_eq, zI_add, zI_sub, zI_mul, zI_neg, zL_add, zL_sub, zL_mul, zL_neg, zI_lt, zI_le, zI_eq, zL_lt, zL_le, zL_eq, zI_toL, zL_toI, zI_div, zL_div, zI_cl, gi_z, mod_fold, upd_s, upd_n, updL_s, updL_n, ↓reduceIte, Int.reduceLT, Int.reduceLE, Int.reduceEq, Int.reduceAdd, Int.reduceSub, Int.reduceMul, Int.reduceNeg, Int.reduceToNat, eq_self, not_true_eq_false, not_false_eq_true, true_and, false_and, and_true, and_false, true_or, false_or, or_true, or_false, e1, e2, e_firstOf, e_tell2, hm, fe, p1, p2, e_tellB]
      refine ⟨_, _, _, _, _, rfl, rfl, ?_, ?_, ?_⟩
      · have q1 : Y - sp_first (sp_mi Y) = Y - (Y - sp_D Y + 1) := by omega
        rw [q1]
        exact RelR.mk2 upd_s _ _
      · rw [upd_n (by omega), i4]
      · rw [upd_n (by omega), i6]
    · have p3 : ¬ (0 < sp_mi Y - (sp_mi X + 1)) := by omega
      simp (disch := omega) only [zl_m2147483648, zl_m2000000000, zl_m99999, zl_m10000, zl_m21, zl_m9, zl_m5, zl_m2, zl_m1, zl_0, zl_1, zl_2, zl_3, zl_4, zl_5, zl_6, zl_7, zl_8, zl_9, zl_10, zl_11, zl_12, zl_13, zl_14, zl_15, zl_16, zl_17, zl_18, zl_19, zl_23, zl_24, zl_28, zl_29, zl_30, zl_31, zl_45, zl_48, zl_52, zl_57, zl_58, zl_59, zl_60, zl_84, zl_90, zl_100, zl_101, zl_102, zl_103, zl_104, zl_105, zl_106, zl_107, zl_108, zl_109, zl_110, zl_111, zl_112, zl_113, zl_114, zl_115, zl_116, zl_117, zl_118, zl_119, zl_120, zl_121, zl_127, zl_151, zl_153, zl_181, zl_212, zl_243, zl_255, zl_273, zl_304, zl_306, zl_334, zl_365, zl_400, zl_1000, zl_1023, zl_1100, zl_1460, zl_3600, zl_9999, zl_10000, zl_30000, zl_36524, zl_86399, zl_86400, zl_99999, zl_119999, zl_146096, zl_146097, zl_730119, zl_876215, zl_876216, zl_1000000, zl_3652058, zll_m9223372036854775808, zll_m1000000000, zll_m1000009, zll_m1000002, zll_m10000, zll_m5, zll_m2, zll_m1, zll_0, zll_1, zll_2, zll_3, zll_5, zll_6, zll_7, zll_12, zll_100, zll_255, zll_400, zll_1000, zll_9999, zll_10000, zll_86399, zll_86400, zll_120000, zll_146097, zll_2629746, zll_3652058, zll_1000000000, zll_9218868437227405312, zll_9221120237041090560, nm, bd1_s, bd2_s, bd3_s, bd4_s, bd5_s, bd6_s, if01, gz_1, gz_0, gz_if, cz_lt, cz_le, cz_gt, cz_ge, cz_eq, zI_add, zI_sub, zI_mul, zI_neg, zL_add, zL_sub, zL_mul, zL_neg, zI_lt, zI_le, zI_eq, zL_lt, zL_le, zL_eq, zI_toL, zL_toI, zI_div, zL_div, zI_cl, gi_z, mod_fold, upd_s, upd_n, updL_s, updL_n, ↓reduceIte, Int.reduceLT, Int.reduceLE, Int.reduceEq, Int.reduceAdd, Int.reduceSub, Int.reduceMul, Int.reduceNeg, Int.reduceToNat, eq_self, not_true_eq_false, not_false_eq_true, true_and, false_and, and_true, and_false, true_or, false_or, or_true, or_false, e1, e2, e_firstOf, e_tell2, hm, p3, e_tellB]
      exact ⟨_, _, _, _, _, rfl, rfl, RelR.mk2 upd_s _ _, by rw [upd_n (by omega), i4], by rw [upd_n (by omega), i6]⟩
