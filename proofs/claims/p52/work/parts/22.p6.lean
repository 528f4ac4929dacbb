/-! nth, whole -/
theorem wd_c (N : Nat) {x : Int} (h : 0 ≤ x ∧ x ≤ 2147483647) : fX1_weekdayOf N (zI x) = some (zI (x % 7)) := by
  unfold fX1_weekdayOf
  simp (disch := omega) only [zl_m2000000000, zl_m99999, zl_m10000, zl_m21, zl_m9, zl_m5, zl_m2, zl_m1, zl_0, zl_1, zl_2, zl_3, zl_4, zl_5, zl_6, zl_7, zl_8, zl_9, zl_10, zl_11, zl_12, zl_13, zl_14, zl_15, zl_16, zl_17, zl_18, zl_19, zl_23, zl_24, zl_28, zl_29, zl_30, zl_31, zl_45, zl_48, zl_57, zl_58, zl_59, zl_60, zl_84, zl_100, zl_101, zl_102, zl_103, zl_104, zl_105, zl_106, zl_107, zl_108, zl_109, zl_110, zl_111, zl_112, zl_113, zl_114, zl_115, zl_116, zl_117, zl_118, zl_119, zl_120, zl_121, zl_153, zl_255, zl_306, zl_365, zl_400, zl_1000, zl_1460, zl_3600, zl_9999, zl_10000, zl_30000, zl_36524, zl_86399, zl_86400, zl_99999, zl_119999, zl_146096, zl_146097, zl_1000000, zl_3652058, zll_m1000000000, zll_m1000009, zll_m1000002, zll_m2, zll_m1, zll_0, zll_1, zll_86400, zll_2629746, zll_1000000000, nm, bd1_s, bd2_s, bd3_s, bd4_s, bd5_s, bd6_s, if01, gz_1, gz_0, gz_if, cz_lt, cz_le, cz_gt, cz_ge, cz_eq, zI_add, zI_sub, zI_mul, zI_neg, zL_add, zL_sub, zL_mul, zL_neg, zI_lt, zI_le, zI_eq, zL_lt, zL_le, zL_eq, zI_toL, zL_toI, zI_div, zL_div, zI_cl, gi_z, mod_fold, upd_s, upd_n, updL_s, updL_n, ↓reduceIte, Int.reduceLT, Int.reduceLE, Int.reduceEq, Int.reduceAdd, Int.reduceSub, Int.reduceMul, Int.reduceNeg, Int.reduceToNat, eq_self, not_true_eq_false, not_false_eq_true, true_and, false_and, and_true, and_false, true_or, false_or, or_true, or_false]
theorem mi_le {x y : Int} (h1 : 0 ≤ x) (h2 : x ≤ y) (h3 : y ≤ 3652058) : sp_mi x ≤ sp_mi y := by
  obtain ⟨a1, a2, a3, a4, a5⟩ := mi_all (x := x) (by omega) (by omega)
  obtain ⟨b1, b2, b3, b4, b5⟩ := mi_all (x := y) (by omega) (by omega)
  by_cases h : sp_mi x ≤ sp_mi y
  · exact h
  · have := first_le (a := sp_mi y + 1) (b := sp_mi x) (by omega)
    have := first_step (sp_mi y)
    omega
