/-! slots set and asked -/
theorem dn_11 (y : Int) : sp_dn y 1 1 = sp_yb y := by
  unfold sp_dn sp_ahead
  rw [if_pos rfl, if_neg (by omega)]
  omega
theorem dn_first {y m : Int} (h3 : 1 ≤ m) (h4 : m ≤ 12) : sp_dn y m 1 = sp_first (12 * y + m - 1) := by
  unfold sp_first
  rw [show (12 * y + m - 1) / 12 = y by omega, show (12 * y + m - 1) % 12 + 1 = m by omega]
theorem dn_b {y m : Int} (h1 : 1 ≤ y) (h2 : y ≤ 9999) (h3 : 1 ≤ m) (h4 : m ≤ 12) : 0 ≤ sp_dn y m 1 ∧ sp_dn y m 1 + sp_mlen y m ≤ 3652059 := by
  have a := first_b (g := 12 * y + m - 1) (by omega) (by omega)
  have b := first_b (g := 12 * y + m - 1 + 1) (by omega) (by omega)
  have c := first_step (12 * y + m - 1)
  have e : sp_gl (12 * y + m - 1) = sp_mlen y m := by
    unfold sp_gl
    rw [show (12 * y + m - 1) / 12 = y by omega, show (12 * y + m - 1) % 12 + 1 = m by omega]
  rw [dn_first h3 h4]
  omega
theorem yb_b {x : Int} (h1 : 0 ≤ x) (h2 : x ≤ 3652058) : 0 ≤ sp_yb (sp_Y x) ∧ sp_yb (sp_Y x) ≤ x := by
  obtain ⟨g4, g5, g6, g7⟩ := sp_all h1 h2
  obtain ⟨g8, g9, g10⟩ := sp_in h1 h2
  refine ⟨by unfold sp_yb; omega, g8⟩
theorem ymd {x : Int} (h1 : 0 ≤ x) (h2 : x ≤ 3652058) : (sp_Y x * 10000 + sp_M x * 100 + sp_D x) / 10000 = sp_Y x ∧ (sp_Y x * 10000 + sp_M x * 100 + sp_D x) / 100 % 100 = sp_M x ∧ (sp_Y x * 10000 + sp_M x * 100 + sp_D x) % 100 = sp_D x := by
  obtain ⟨g4, g5, g6, g7⟩ := sp_all h1 h2
  have := mlen_b (sp_Y x) (sp_M x)
  omega
theorem c_year (N : Nat) {z : Int} (h1 : -2147483648 ≤ z) (h2 : z ≤ 2147483647) : fX1_isYear N (zI z) = some (if 1 ≤ z ∧ z ≤ 9999 then zI 1 else zI 0) := by
  unfold fX1_isYear
  simp (disch := omega) only [zl_m2000000000, zl_m99999, zl_m10000, zl_m21, zl_m9, zl_m5, zl_m2, zl_m1, zl_0, zl_1, zl_2, zl_3, zl_4, zl_5, zl_6, zl_7, zl_8, zl_9, zl_10, zl_11, zl_12, zl_13, zl_14, zl_15, zl_16, zl_17, zl_18, zl_19, zl_23, zl_24, zl_28, zl_29, zl_30, zl_31, zl_45, zl_48, zl_57, zl_58, zl_59, zl_60, zl_84, zl_100, zl_101, zl_102, zl_103, zl_104, zl_105, zl_106, zl_107, zl_108, zl_109, zl_110, zl_111, zl_112, zl_113, zl_114, zl_115, zl_116, zl_117, zl_118, zl_119, zl_120, zl_121, zl_153, zl_255, zl_306, zl_365, zl_400, zl_1000, zl_1460, zl_3600, zl_9999, zl_10000, zl_30000, zl_36524, zl_86399, zl_86400, zl_99999, zl_119999, zl_146096, zl_146097, zl_1000000, zl_3652058, zll_m1000000000, zll_m1000009, zll_m1000002, zll_m2, zll_m1, zll_0, zll_1, zll_86400, zll_2629746, zll_1000000000, nm, bd1_s, bd2_s, bd3_s, bd4_s, bd5_s, bd6_s, if01, gz_1, gz_0, gz_if, cz_lt, cz_le, cz_gt, cz_ge, cz_eq, zI_add, zI_sub, zI_mul, zI_neg, zL_add, zL_sub, zL_mul, zL_neg, zI_lt, zI_le, zI_eq, zL_lt, zL_le, zL_eq, zI_toL, zL_toI, zI_div, zL_div, zI_cl, gi_z, mod_fold, upd_s, upd_n, updL_s, updL_n, ↓reduceIte, Int.reduceLT, Int.reduceLE, Int.reduceEq, Int.reduceAdd, Int.reduceSub, Int.reduceMul, Int.reduceNeg, Int.reduceToNat, eq_self, not_true_eq_false, not_false_eq_true, true_and, false_and, and_true, and_false, true_or, false_or, or_true, or_false]
  repeat' split
  all_goals first | rfl | (exfalso; omega)
theorem c_month (N : Nat) {z : Int} (h1 : -2147483648 ≤ z) (h2 : z ≤ 2147483647) : fX1_isMonth N (zI z) = some (if 1 ≤ z ∧ z ≤ 12 then zI 1 else zI 0) := by
  unfold fX1_isMonth
  simp (disch := omega) only [zl_m2000000000, zl_m99999, zl_m10000, zl_m21, zl_m9, zl_m5, zl_m2, zl_m1, zl_0, zl_1, zl_2, zl_3, zl_4, zl_5, zl_6, zl_7, zl_8, zl_9, zl_10, zl_11, zl_12, zl_13, zl_14, zl_15, zl_16, zl_17, zl_18, zl_19, zl_23, zl_24, zl_28, zl_29, zl_30, zl_31, zl_45, zl_48, zl_57, zl_58, zl_59, zl_60, zl_84, zl_100, zl_101, zl_102, zl_103, zl_104, zl_105, zl_106, zl_107, zl_108, zl_109, zl_110, zl_111, zl_112, zl_113, zl_114, zl_115, zl_116, zl_117, zl_118, zl_119, zl_120, zl_121, zl_153, zl_255, zl_306, zl_365, zl_400, zl_1000, zl_1460, zl_3600, zl_9999, zl_10000, zl_30000, zl_36524, zl_86399, zl_86400, zl_99999, zl_119999, zl_146096, zl_146097, zl_1000000, zl_3652058, zll_m1000000000, zll_m1000009, zll_m1000002, zll_m2, zll_m1, zll_0, zll_1, zll_86400, zll_2629746, zll_1000000000, nm, bd1_s, bd2_s, bd3_s, bd4_s, bd5_s, bd6_s, if01, gz_1, gz_0, gz_if, cz_lt, cz_le, cz_gt, cz_ge, cz_eq, zI_add, zI_sub, zI_mul, zI_neg, zL_add, zL_sub, zL_mul, zL_neg, zI_lt, zI_le, zI_eq, zL_lt, zL_le, zL_eq, zI_toL, zL_toI, zI_div, zL_div, zI_cl, gi_z, mod_fold, upd_s, upd_n, updL_s, updL_n, ↓reduceIte, Int.reduceLT, Int.reduceLE, Int.reduceEq, Int.reduceAdd, Int.reduceSub, Int.reduceMul, Int.reduceNeg, Int.reduceToNat, eq_self, not_true_eq_false, not_false_eq_true, true_and, false_and, and_true, and_false, true_or, false_or, or_true, or_false]
  repeat' split
  all_goals first | rfl | (exfalso; omega)
theorem c_year1 (N : Nat) {z : Int} (h : 1 ≤ z ∧ z ≤ 9999) : fX1_isYear N (zI z) = some (zI 1) := by rw [c_year N (by omega) (by omega), if_pos h]
theorem c_year0 (N : Nat) {z : Int} (h1 : -2147483648 ≤ z) (h2 : z ≤ 2147483647) (h : ¬ (1 ≤ z ∧ z ≤ 9999)) : fX1_isYear N (zI z) = some (zI 0) := by rw [c_year N h1 h2, if_neg h]
theorem c_month1 (N : Nat) {z : Int} (h : 1 ≤ z ∧ z ≤ 12) : fX1_isMonth N (zI z) = some (zI 1) := by rw [c_month N (by omega) (by omega), if_pos h]
theorem c_month0 (N : Nat) {z : Int} (h1 : -2147483648 ≤ z) (h2 : z ≤ 2147483647) (h : ¬ (1 ≤ z ∧ z ≤ 12)) : fX1_isMonth N (zI z) = some (zI 0) := by rw [c_month N h1 h2, if_neg h]
