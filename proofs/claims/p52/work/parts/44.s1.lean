/-! the class's calls alone: what each answers -/
def DM (dd ss : Nat → Int) (f g : Nat → Int32) : Prop := ∀ k, k < 8 → f k = zI (dd k) ∧ g k = zI (ss k) ∧ (0 ≤ dd k ∧ dd k ≤ 3652058) ∧ 0 ≤ ss k ∧ ss k ≤ 86399
def DS (mm da se : Nat → Int) (a b c : Nat → Int32) : Prop := ∀ k, k < 8 → a k = zI (mm k) ∧ b k = zI (da k) ∧ c k = zI (se k) ∧ sp_b3 (mm k) (da k) (se k)
theorem DM.up {dd ss : Nat → Int} {f g : Nat → Int32} (h : DM dd ss f g) {k : Nat} {x t : Int} (h1 : 0 ≤ x ∧ x ≤ 3652058) (h2 : 0 ≤ t ∧ t ≤ 86399) : DM (zup dd k x) (zup ss k t) (upd f k (zI x)) (upd g k (zI t)) := by
  intro j hj
  by_cases e : j = k
  · subst e
    rw [zup_s, zup_s, upd_s, upd_s]
    exact ⟨rfl, rfl, h1, h2⟩
  · rw [zup_n e, zup_n e, upd_n e, upd_n e]
    exact h j hj
theorem DS.up {mm da se : Nat → Int} {a b c : Nat → Int32} (h : DS mm da se a b c) {k : Nat} {x y z : Int} (h1 : sp_b3 x y z) : DS (zup mm k x) (zup da k y) (zup se k z) (upd a k (zI x)) (upd b k (zI y)) (upd c k (zI z)) := by
  intro j hj
  by_cases e : j = k
  · subst e
    rw [zup_s, zup_s, zup_s, upd_s, upd_s, upd_s]
    exact ⟨rfl, rfl, rfl, h1⟩
  · rw [zup_n e, zup_n e, zup_n e, upd_n e, upd_n e, upd_n e]
    exact h j hj
theorem s_sets (N : Nat) {p1 p2 p3 ks : Int32} {k : Nat} {x t : Int} {f g : Nat → Int32} {dd ss : Nat → Int} (hM : DM dd ss f g) (e1 : p1 = zI k) (e2 : p2 = zI x) (e3 : p3 = zI t) (hk : k < 8) (hx : 0 ≤ x ∧ x ≤ 3652058) (ht : 0 ≤ t ∧ t ≤ 86399) :
    ∃ f' g', fX9_sets N p1 p2 p3 ks f g = some (zI (dd k), f', g') ∧ DM (zup dd k x) (zup ss k t) f' g' := by
  subst e1; subst e2; subst e3
  obtain ⟨f1, f2, f5, f6⟩ := hM k hk
  unfold fX9_sets
  rw [c_slot1 N (by omega), bd1_s, if_neg z10, c_day1 N hx, bd1_s, if_neg z10, if_neg (i_nlt (b := 0) (by decide) (by omega)), if_pos (i_lt (b := 86400) (by decide) (by omega)), e_dayAt N f hk, bd1_s, e_putMoment N _ _ _ _ hk, bd2_s, f1]
  exact ⟨_, _, rfl, hM.up hx ht⟩
theorem s_parts (N : Nat) {p1 p2 p3 p4 ks : Int32} {k : Nat} {x y z : Int} {a b c : Nat → Int32} {mm da se : Nat → Int} (hS : DS mm da se a b c) (e1 : p1 = zI k) (e2 : p2 = zI x) (e3 : p3 = zI y) (e4 : p4 = zI z) (hk : k < 8) (h : sp_b3 x y z) :
    ∃ a' b' c', fX9_parts N p1 p2 p3 p4 ks a b c = some (1, a', b', c') ∧ DS (zup mm k x) (zup da k y) (zup se k z) a' b' c' := by
  subst e1; subst e2; subst e3; subst e4
  unfold fX9_parts
  rw [c_slot1 N (by omega), bd1_s, if_neg z10, zI_toL (by omega) (by omega), zI_toL (by omega) (by omega), zI_toL (by omega) (by omega), e_areBounded N (by omega) (by omega) (by omega), bd1_s, if_pos h, if_neg z10, e_putSpan N _ _ _ _ _ _ hk, bd3_s]
  exact ⟨_, _, _, rfl, hS.up h⟩
theorem s_mI0 (N : Nat) {p1 ks : Int32} {k : Nat} {f g : Nat → Int32} {dd ss : Nat → Int} (hM : DM dd ss f g) (e1 : p1 = zI k) (hk : k < 8) : fX9_momentIs N p1 0 ks f g = some (zI (dd k)) := by
  subst e1
  obtain ⟨f1, f2, f5, f6⟩ := hM k hk
  obtain ⟨d1, d2, d4⟩ := ymd f5.1 f5.2
  obtain ⟨g4, g5, g6, g7⟩ := sp_all f5.1 f5.2
  have g8 := mlen_b (sp_Y (dd k)) (sp_M (dd k))
  unfold fX9_momentIs
  rw [c_slot1 N (by omega), bd1_s, if_neg z10, e_dayAt N f hk, bd1_s, f1, e_dateOf N f5.1 f5.2, bd1_s, e_secondAt N g hk]
  simp (disch := omega) only [zl_m2000000000, zl_m99999, zl_m10000, zl_m21, zl_m9, zl_m5, zl_m2, zl_m1, zl_0, zl_1, zl_2, zl_3, zl_4, zl_5, zl_6, zl_7, zl_8, zl_9, zl_10, zl_11, zl_12, zl_13, zl_14, zl_15, zl_16, zl_17, zl_18, zl_19, zl_23, zl_24, zl_28, zl_29, zl_30, zl_31, zl_45, zl_48, zl_57, zl_58, zl_59, zl_60, zl_84, zl_100, zl_101, zl_102, zl_103, zl_104, zl_105, zl_106, zl_107, zl_108, zl_109, zl_110, zl_111, zl_112, zl_113, zl_114, zl_115, zl_116, zl_117, zl_118, zl_119, zl_120, zl_121, zl_153, zl_255, zl_306, zl_365, zl_400, zl_1000, zl_1460, zl_3600, zl_9999, zl_10000, zl_30000, zl_36524, zl_86399, zl_86400, zl_99999, zl_119999, zl_146096, zl_146097, zl_1000000, zl_3652058, zll_m1000000000, zll_m1000009, zll_m1000002, zll_m2, zll_m1, zll_0, zll_1, zll_86400, zll_2629746, zll_1000000000, nm, bd1_s, bd2_s, bd3_s, bd4_s, bd5_s, bd6_s, if01, gz_1, gz_0, gz_if, cz_lt, cz_le, cz_gt, cz_ge, cz_eq, zI_add, zI_sub, zI_mul, zI_neg, zL_add, zL_sub, zL_mul, zL_neg, zI_lt, zI_le, zI_eq, zL_lt, zL_le, zL_eq, zI_toL, zL_toI, zI_div, zL_div, zI_cl, gi_z, mod_fold, upd_s, upd_n, updL_s, updL_n, ↓reduceIte, Int.reduceLT, Int.reduceLE, Int.reduceEq, Int.reduceAdd, Int.reduceSub, Int.reduceMul, Int.reduceNeg, Int.reduceToNat, eq_self, not_true_eq_false, not_false_eq_true, true_and, false_and, and_true, and_false, true_or, false_or, or_true, or_false, d1, d2, f1, f2]
theorem s_mI1 (N : Nat) {p1 ks : Int32} {k : Nat} {f g : Nat → Int32} {dd ss : Nat → Int} (hM : DM dd ss f g) (e1 : p1 = zI k) (hk : k < 8) : fX9_momentIs N p1 1 ks f g = some (zI (ss k)) := by
  subst e1
  obtain ⟨f1, f2, f5, f6⟩ := hM k hk
  obtain ⟨d1, d2, d4⟩ := ymd f5.1 f5.2
  obtain ⟨g4, g5, g6, g7⟩ := sp_all f5.1 f5.2
  have g8 := mlen_b (sp_Y (dd k)) (sp_M (dd k))
  unfold fX9_momentIs
  rw [c_slot1 N (by omega), bd1_s, if_neg z10, e_dayAt N f hk, bd1_s, f1, e_dateOf N f5.1 f5.2, bd1_s, e_secondAt N g hk]
  simp (disch := omega) only [zl_m2000000000, zl_m99999, zl_m10000, zl_m21, zl_m9, zl_m5, zl_m2, zl_m1, zl_0, zl_1, zl_2, zl_3, zl_4, zl_5, zl_6, zl_7, zl_8, zl_9, zl_10, zl_11, zl_12, zl_13, zl_14, zl_15, zl_16, zl_17, zl_18, zl_19, zl_23, zl_24, zl_28, zl_29, zl_30, zl_31, zl_45, zl_48, zl_57, zl_58, zl_59, zl_60, zl_84, zl_100, zl_101, zl_102, zl_103, zl_104, zl_105, zl_106, zl_107, zl_108, zl_109, zl_110, zl_111, zl_112, zl_113, zl_114, zl_115, zl_116, zl_117, zl_118, zl_119, zl_120, zl_121, zl_153, zl_255, zl_306, zl_365, zl_400, zl_1000, zl_1460, zl_3600, zl_9999, zl_10000, zl_30000, zl_36524, zl_86399, zl_86400, zl_99999, zl_119999, zl_146096, zl_146097, zl_1000000, zl_3652058, zll_m1000000000, zll_m1000009, zll_m1000002, zll_m2, zll_m1, zll_0, zll_1, zll_86400, zll_2629746, zll_1000000000, nm, bd1_s, bd2_s, bd3_s, bd4_s, bd5_s, bd6_s, if01, gz_1, gz_0, gz_if, cz_lt, cz_le, cz_gt, cz_ge, cz_eq, zI_add, zI_sub, zI_mul, zI_neg, zL_add, zL_sub, zL_mul, zL_neg, zI_lt, zI_le, zI_eq, zL_lt, zL_le, zL_eq, zI_toL, zL_toI, zI_div, zL_div, zI_cl, gi_z, mod_fold, upd_s, upd_n, updL_s, updL_n, ↓reduceIte, Int.reduceLT, Int.reduceLE, Int.reduceEq, Int.reduceAdd, Int.reduceSub, Int.reduceMul, Int.reduceNeg, Int.reduceToNat, eq_self, not_true_eq_false, not_false_eq_true, true_and, false_and, and_true, and_false, true_or, false_or, or_true, or_false, d1, d2, f1, f2]
theorem s_mI2 (N : Nat) {p1 ks : Int32} {k : Nat} {f g : Nat → Int32} {dd ss : Nat → Int} (hM : DM dd ss f g) (e1 : p1 = zI k) (hk : k < 8) : fX9_momentIs N p1 2 ks f g = some (zI (sp_Y (dd k) * 10000 + sp_M (dd k) * 100 + sp_D (dd k))) := by
  subst e1
  obtain ⟨f1, f2, f5, f6⟩ := hM k hk
  obtain ⟨d1, d2, d4⟩ := ymd f5.1 f5.2
  obtain ⟨g4, g5, g6, g7⟩ := sp_all f5.1 f5.2
  have g8 := mlen_b (sp_Y (dd k)) (sp_M (dd k))
  unfold fX9_momentIs
  rw [c_slot1 N (by omega), bd1_s, if_neg z10, e_dayAt N f hk, bd1_s, f1, e_dateOf N f5.1 f5.2, bd1_s, e_secondAt N g hk]
  simp (disch := omega) only [zl_m2000000000, zl_m99999, zl_m10000, zl_m21, zl_m9, zl_m5, zl_m2, zl_m1, zl_0, zl_1, zl_2, zl_3, zl_4, zl_5, zl_6, zl_7, zl_8, zl_9, zl_10, zl_11, zl_12, zl_13, zl_14, zl_15, zl_16, zl_17, zl_18, zl_19, zl_23, zl_24, zl_28, zl_29, zl_30, zl_31, zl_45, zl_48, zl_57, zl_58, zl_59, zl_60, zl_84, zl_100, zl_101, zl_102, zl_103, zl_104, zl_105, zl_106, zl_107, zl_108, zl_109, zl_110, zl_111, zl_112, zl_113, zl_114, zl_115, zl_116, zl_117, zl_118, zl_119, zl_120, zl_121, zl_153, zl_255, zl_306, zl_365, zl_400, zl_1000, zl_1460, zl_3600, zl_9999, zl_10000, zl_30000, zl_36524, zl_86399, zl_86400, zl_99999, zl_119999, zl_146096, zl_146097, zl_1000000, zl_3652058, zll_m1000000000, zll_m1000009, zll_m1000002, zll_m2, zll_m1, zll_0, zll_1, zll_86400, zll_2629746, zll_1000000000, nm, bd1_s, bd2_s, bd3_s, bd4_s, bd5_s, bd6_s, if01, gz_1, gz_0, gz_if, cz_lt, cz_le, cz_gt, cz_ge, cz_eq, zI_add, zI_sub, zI_mul, zI_neg, zL_add, zL_sub, zL_mul, zL_neg, zI_lt, zI_le, zI_eq, zL_lt, zL_le, zL_eq, zI_toL, zL_toI, zI_div, zL_div, zI_cl, gi_z, mod_fold, upd_s, upd_n, updL_s, updL_n, ↓reduceIte, Int.reduceLT, Int.reduceLE, Int.reduceEq, Int.reduceAdd, Int.reduceSub, Int.reduceMul, Int.reduceNeg, Int.reduceToNat, eq_self, not_true_eq_false, not_false_eq_true, true_and, false_and, and_true, and_false, true_or, false_or, or_true, or_false, d1, d2, f1, f2]
theorem s_mI3 (N : Nat) {p1 ks : Int32} {k : Nat} {f g : Nat → Int32} {dd ss : Nat → Int} (hM : DM dd ss f g) (e1 : p1 = zI k) (hk : k < 8) : fX9_momentIs N p1 3 ks f g = some (zI (dd k % 7)) := by
  subst e1
  obtain ⟨f1, f2, f5, f6⟩ := hM k hk
  obtain ⟨d1, d2, d4⟩ := ymd f5.1 f5.2
  obtain ⟨g4, g5, g6, g7⟩ := sp_all f5.1 f5.2
  have g8 := mlen_b (sp_Y (dd k)) (sp_M (dd k))
  unfold fX9_momentIs
  rw [c_slot1 N (by omega), bd1_s, if_neg z10, e_dayAt N f hk, bd1_s, f1, e_dateOf N f5.1 f5.2, bd1_s, e_secondAt N g hk]
  unfold fX1_weekdayOf
  simp (disch := omega) only [zl_m2000000000, zl_m99999, zl_m10000, zl_m21, zl_m9, zl_m5, zl_m2, zl_m1, zl_0, zl_1, zl_2, zl_3, zl_4, zl_5, zl_6, zl_7, zl_8, zl_9, zl_10, zl_11, zl_12, zl_13, zl_14, zl_15, zl_16, zl_17, zl_18, zl_19, zl_23, zl_24, zl_28, zl_29, zl_30, zl_31, zl_45, zl_48, zl_57, zl_58, zl_59, zl_60, zl_84, zl_100, zl_101, zl_102, zl_103, zl_104, zl_105, zl_106, zl_107, zl_108, zl_109, zl_110, zl_111, zl_112, zl_113, zl_114, zl_115, zl_116, zl_117, zl_118, zl_119, zl_120, zl_121, zl_153, zl_255, zl_306, zl_365, zl_400, zl_1000, zl_1460, zl_3600, zl_9999, zl_10000, zl_30000, zl_36524, zl_86399, zl_86400, zl_99999, zl_119999, zl_146096, zl_146097, zl_1000000, zl_3652058, zll_m1000000000, zll_m1000009, zll_m1000002, zll_m2, zll_m1, zll_0, zll_1, zll_86400, zll_2629746, zll_1000000000, nm, bd1_s, bd2_s, bd3_s, bd4_s, bd5_s, bd6_s, if01, gz_1, gz_0, gz_if, cz_lt, cz_le, cz_gt, cz_ge, cz_eq, zI_add, zI_sub, zI_mul, zI_neg, zL_add, zL_sub, zL_mul, zL_neg, zI_lt, zI_le, zI_eq, zL_lt, zL_le, zL_eq, zI_toL, zL_toI, zI_div, zL_div, zI_cl, gi_z, mod_fold, upd_s, upd_n, updL_s, updL_n, ↓reduceIte, Int.reduceLT, Int.reduceLE, Int.reduceEq, Int.reduceAdd, Int.reduceSub, Int.reduceMul, Int.reduceNeg, Int.reduceToNat, eq_self, not_true_eq_false, not_false_eq_true, true_and, false_and, and_true, and_false, true_or, false_or, or_true, or_false, d1, d2, f1, f2]
theorem s_sI0 (N : Nat) {p1 ks : Int32} {k : Nat} {a b c : Nat → Int32} {mm da se : Nat → Int} (hS : DS mm da se a b c) (e1 : p1 = zI k) (hk : k < 8) : fX9_spanIs N p1 0 ks a b c = some (zI (mm k)) := by
  subst e1
  obtain ⟨s1, s2, s3, s7⟩ := hS k hk
  unfold fX9_spanIs
  rw [c_slot1 N (by omega), bd1_s, if_neg z10, e_monthsAt N a hk, e_daysAt N b hk, e_secondsAt N c hk, s1, s2, s3]
  simp (disch := omega) only [zl_m2000000000, zl_m99999, zl_m10000, zl_m21, zl_m9, zl_m5, zl_m2, zl_m1, zl_0, zl_1, zl_2, zl_3, zl_4, zl_5, zl_6, zl_7, zl_8, zl_9, zl_10, zl_11, zl_12, zl_13, zl_14, zl_15, zl_16, zl_17, zl_18, zl_19, zl_23, zl_24, zl_28, zl_29, zl_30, zl_31, zl_45, zl_48, zl_57, zl_58, zl_59, zl_60, zl_84, zl_100, zl_101, zl_102, zl_103, zl_104, zl_105, zl_106, zl_107, zl_108, zl_109, zl_110, zl_111, zl_112, zl_113, zl_114, zl_115, zl_116, zl_117, zl_118, zl_119, zl_120, zl_121, zl_153, zl_255, zl_306, zl_365, zl_400, zl_1000, zl_1460, zl_3600, zl_9999, zl_10000, zl_30000, zl_36524, zl_86399, zl_86400, zl_99999, zl_119999, zl_146096, zl_146097, zl_1000000, zl_3652058, zll_m1000000000, zll_m1000009, zll_m1000002, zll_m2, zll_m1, zll_0, zll_1, zll_86400, zll_2629746, zll_1000000000, nm, bd1_s, bd2_s, bd3_s, bd4_s, bd5_s, bd6_s, if01, gz_1, gz_0, gz_if, cz_lt, cz_le, cz_gt, cz_ge, cz_eq, zI_add, zI_sub, zI_mul, zI_neg, zL_add, zL_sub, zL_mul, zL_neg, zI_lt, zI_le, zI_eq, zL_lt, zL_le, zL_eq, zI_toL, zL_toI, zI_div, zL_div, zI_cl, gi_z, mod_fold, upd_s, upd_n, updL_s, updL_n, ↓reduceIte, Int.reduceLT, Int.reduceLE, Int.reduceEq, Int.reduceAdd, Int.reduceSub, Int.reduceMul, Int.reduceNeg, Int.reduceToNat, eq_self, not_true_eq_false, not_false_eq_true, true_and, false_and, and_true, and_false, true_or, false_or, or_true, or_false]
theorem s_sI1 (N : Nat) {p1 ks : Int32} {k : Nat} {a b c : Nat → Int32} {mm da se : Nat → Int} (hS : DS mm da se a b c) (e1 : p1 = zI k) (hk : k < 8) : fX9_spanIs N p1 1 ks a b c = some (zI (da k)) := by
  subst e1
  obtain ⟨s1, s2, s3, s7⟩ := hS k hk
  unfold fX9_spanIs
  rw [c_slot1 N (by omega), bd1_s, if_neg z10, e_monthsAt N a hk, e_daysAt N b hk, e_secondsAt N c hk, s1, s2, s3]
  simp (disch := omega) only [zl_m2000000000, zl_m99999, zl_m10000, zl_m21, zl_m9, zl_m5, zl_m2, zl_m1, zl_0, zl_1, zl_2, zl_3, zl_4, zl_5, zl_6, zl_7, zl_8, zl_9, zl_10, zl_11, zl_12, zl_13, zl_14, zl_15, zl_16, zl_17, zl_18, zl_19, zl_23, zl_24, zl_28, zl_29, zl_30, zl_31, zl_45, zl_48, zl_57, zl_58, zl_59, zl_60, zl_84, zl_100, zl_101, zl_102, zl_103, zl_104, zl_105, zl_106, zl_107, zl_108, zl_109, zl_110, zl_111, zl_112, zl_113, zl_114, zl_115, zl_116, zl_117, zl_118, zl_119, zl_120, zl_121, zl_153, zl_255, zl_306, zl_365, zl_400, zl_1000, zl_1460, zl_3600, zl_9999, zl_10000, zl_30000, zl_36524, zl_86399, zl_86400, zl_99999, zl_119999, zl_146096, zl_146097, zl_1000000, zl_3652058, zll_m1000000000, zll_m1000009, zll_m1000002, zll_m2, zll_m1, zll_0, zll_1, zll_86400, zll_2629746, zll_1000000000, nm, bd1_s, bd2_s, bd3_s, bd4_s, bd5_s, bd6_s, if01, gz_1, gz_0, gz_if, cz_lt, cz_le, cz_gt, cz_ge, cz_eq, zI_add, zI_sub, zI_mul, zI_neg, zL_add, zL_sub, zL_mul, zL_neg, zI_lt, zI_le, zI_eq, zL_lt, zL_le, zL_eq, zI_toL, zL_toI, zI_div, zL_div, zI_cl, gi_z, mod_fold, upd_s, upd_n, updL_s, updL_n, ↓reduceIte, Int.reduceLT, Int.reduceLE, Int.reduceEq, Int.reduceAdd, Int.reduceSub, Int.reduceMul, Int.reduceNeg, Int.reduceToNat, eq_self, not_true_eq_false, not_false_eq_true, true_and, false_and, and_true, and_false, true_or, false_or, or_true, or_false]
theorem s_sI2 (N : Nat) {p1 ks : Int32} {k : Nat} {a b c : Nat → Int32} {mm da se : Nat → Int} (hS : DS mm da se a b c) (e1 : p1 = zI k) (hk : k < 8) : fX9_spanIs N p1 2 ks a b c = some (zI (se k)) := by
  subst e1
  obtain ⟨s1, s2, s3, s7⟩ := hS k hk
  unfold fX9_spanIs
  rw [c_slot1 N (by omega), bd1_s, if_neg z10, e_monthsAt N a hk, e_daysAt N b hk, e_secondsAt N c hk, s1, s2, s3]
  simp (disch := omega) only [zl_m2000000000, zl_m99999, zl_m10000, zl_m21, zl_m9, zl_m5, zl_m2, zl_m1, zl_0, zl_1, zl_2, zl_3, zl_4, zl_5, zl_6, zl_7, zl_8, zl_9, zl_10, zl_11, zl_12, zl_13, zl_14, zl_15, zl_16, zl_17, zl_18, zl_19, zl_23, zl_24, zl_28, zl_29, zl_30, zl_31, zl_45, zl_48, zl_57, zl_58, zl_59, zl_60, zl_84, zl_100, zl_101, zl_102, zl_103, zl_104, zl_105, zl_106, zl_107, zl_108, zl_109, zl_110, zl_111, zl_112, zl_113, zl_114, zl_115, zl_116, zl_117, zl_118, zl_119, zl_120, zl_121, zl_153, zl_255, zl_306, zl_365, zl_400, zl_1000, zl_1460, zl_3600, zl_9999, zl_10000, zl_30000, zl_36524, zl_86399, zl_86400, zl_99999, zl_119999, zl_146096, zl_146097, zl_1000000, zl_3652058, zll_m1000000000, zll_m1000009, zll_m1000002, zll_m2, zll_m1, zll_0, zll_1, zll_86400, zll_2629746, zll_1000000000, nm, bd1_s, bd2_s, bd3_s, bd4_s, bd5_s, bd6_s, if01, gz_1, gz_0, gz_if, cz_lt, cz_le, cz_gt, cz_ge, cz_eq, zI_add, zI_sub, zI_mul, zI_neg, zL_add, zL_sub, zL_mul, zL_neg, zI_lt, zI_le, zI_eq, zL_lt, zL_le, zL_eq, zI_toL, zL_toI, zI_div, zL_div, zI_cl, gi_z, mod_fold, upd_s, upd_n, updL_s, updL_n, ↓reduceIte, Int.reduceLT, Int.reduceLE, Int.reduceEq, Int.reduceAdd, Int.reduceSub, Int.reduceMul, Int.reduceNeg, Int.reduceToNat, eq_self, not_true_eq_false, not_false_eq_true, true_and, false_and, and_true, and_false, true_or, false_or, or_true, or_false]
def sp_date (x : Int) : Int := sp_Y x * 10000 + sp_M x * 100 + sp_D x
theorem s_date (N : Nat) {p1 ks : Int32} {x : Int} (e1 : p1 = zI x) (hx : 0 ≤ x ∧ x ≤ 3652058) : fX9_date N p1 ks = some (zI (sp_date x)) := by
  subst e1
  unfold fX9_date
  rw [c_day1 N hx, bd1_s, if_neg z10, e_dateOf N hx.1 hx.2, bd1_s]
  rfl
theorem s_day (N : Nat) {p1 ks : Int32} {x : Int} (e1 : p1 = zI (sp_date x)) (hx : 0 ≤ x ∧ x ≤ 3652058) : fX9_day N p1 ks = some (zI x) := by
  subst e1
  obtain ⟨g4, g5, g6, g7⟩ := sp_all hx.1 hx.2
  have g8 := mlen_b (sp_Y x) (sp_M x)
  obtain ⟨d1, d2, d4⟩ := ymd hx.1 hx.2
  obtain ⟨z1, hz⟩ : ∃ z1, z1 = sp_date x := ⟨_, rfl⟩
  have hz' : z1 = sp_Y x * 10000 + sp_M x * 100 + sp_D x := hz
  rw [← hz'] at d1 d2 d4
  rw [← hz]
  have b : 0 ≤ z1 ∧ z1 ≤ 100000000 := by omega
  unfold fX9_day
  have e1 : zI z1 / 10000 = zI (sp_Y x) := by rw [zl_10000, zI_div (by omega) (by omega) (by omega) (by omega), d1]
  have e2 : zI z1 / 100 = zI (z1 / 100) := by rw [zl_100, zI_div (by omega) (by omega) (by omega) (by omega)]
  have e3 : zI z1 / 100 - zI z1 / 100 / 100 * 100 = zI (sp_M x) := by rw [e2, zl_100, zI_div (by omega) (by omega) (by omega) (by omega), zI_mul, zI_sub, mod_fold, d2]
  have e4 : zI z1 - zI z1 / 100 * 100 = zI (sp_D x) := by rw [e2, zl_100, zI_mul, zI_sub, mod_fold, d4]
  rw [if_pos (by rw [zl_0, zI_le (by omega) (by omega) (by omega) (by omega)]; exact b.1), e3, e4, e1, nm_s, nm_s, nm_s]
  rw [c_year1 N g4, bd1_s, if_neg z10, c_month1 N g5, bd1_s, if_neg z10]
  rw [if_neg (i_nlt (b := 1) (by decide) (by omega)), e_mlen N (by omega) (by omega) (by omega) (by omega), bd1_s, if_pos (i_le rfl (by omega)), e_dn N (by omega) (by omega) (by omega) (by omega) (by omega) (by omega), bd1_s, g7]
def sp_th (x : Int) : Int := x - x % 7 + 3
theorem s_week (N : Nat) {p1 ks tl : Int32} {nn : Nat → Int64} {x : Int} (e1 : p1 = zI x) (hx : 0 ≤ x ∧ x ≤ 3652058) : ∃ nn', fX9_week N p1 ks tl nn = some (zI ((sp_th x - sp_yb (sp_Y (sp_th x))) / 7 + 1), zI 1, nn') ∧ nn' 0 = zL (sp_Y (sp_th x)) := by
  subst e1
  have t1 : 0 ≤ x - x % 7 + 3 ∧ x - x % 7 + 3 ≤ 3652058 := by omega
  obtain ⟨g4, g5, g6, g7⟩ := sp_all t1.1 t1.2
  have g8 := mlen_b (sp_Y (x - x % 7 + 3)) (sp_M (x - x % 7 + 3))
  obtain ⟨d1, d2, d4⟩ := ymd t1.1 t1.2
  have d5 := dn_11 (sp_Y (x - x % 7 + 3))
  have d6 := yb_b t1.1 t1.2
  unfold sp_th
  have wd : fX1_weekdayOf N (zI x) = some (zI (x % 7)) := by
    unfold fX1_weekdayOf
    simp (disch := omega) only [zl_m2000000000, zl_m99999, zl_m10000, zl_m21, zl_m9, zl_m5, zl_m2, zl_m1, zl_0, zl_1, zl_2, zl_3, zl_4, zl_5, zl_6, zl_7, zl_8, zl_9, zl_10, zl_11, zl_12, zl_13, zl_14, zl_15, zl_16, zl_17, zl_18, zl_19, zl_23, zl_24, zl_28, zl_29, zl_30, zl_31, zl_45, zl_48, zl_57, zl_58, zl_59, zl_60, zl_84, zl_100, zl_101, zl_102, zl_103, zl_104, zl_105, zl_106, zl_107, zl_108, zl_109, zl_110, zl_111, zl_112, zl_113, zl_114, zl_115, zl_116, zl_117, zl_118, zl_119, zl_120, zl_121, zl_153, zl_255, zl_306, zl_365, zl_400, zl_1000, zl_1460, zl_3600, zl_9999, zl_10000, zl_30000, zl_36524, zl_86399, zl_86400, zl_99999, zl_119999, zl_146096, zl_146097, zl_1000000, zl_3652058, zll_m1000000000, zll_m1000009, zll_m1000002, zll_m2, zll_m1, zll_0, zll_1, zll_86400, zll_2629746, zll_1000000000, nm, bd1_s, bd2_s, bd3_s, bd4_s, bd5_s, bd6_s, if01, gz_1, gz_0, gz_if, cz_lt, cz_le, cz_gt, cz_ge, cz_eq, zI_add, zI_sub, zI_mul, zI_neg, zL_add, zL_sub, zL_mul, zL_neg, zI_lt, zI_le, zI_eq, zL_lt, zL_le, zL_eq, zI_toL, zL_toI, zI_div, zL_div, zI_cl, gi_z, mod_fold, upd_s, upd_n, updL_s, updL_n, ↓reduceIte, Int.reduceLT, Int.reduceLE, Int.reduceEq, Int.reduceAdd, Int.reduceSub, Int.reduceMul, Int.reduceNeg, Int.reduceToNat, eq_self, not_true_eq_false, not_false_eq_true, true_and, false_and, and_true, and_false, true_or, false_or, or_true, or_false]
  unfold fX9_week
  rw [c_day1 N hx, bd1_s, if_neg z10]
  simp (disch := omega) only [zl_m2000000000, zl_m99999, zl_m10000, zl_m21, zl_m9, zl_m5, zl_m2, zl_m1, zl_0, zl_1, zl_2, zl_3, zl_4, zl_5, zl_6, zl_7, zl_8, zl_9, zl_10, zl_11, zl_12, zl_13, zl_14, zl_15, zl_16, zl_17, zl_18, zl_19, zl_23, zl_24, zl_28, zl_29, zl_30, zl_31, zl_45, zl_48, zl_57, zl_58, zl_59, zl_60, zl_84, zl_100, zl_101, zl_102, zl_103, zl_104, zl_105, zl_106, zl_107, zl_108, zl_109, zl_110, zl_111, zl_112, zl_113, zl_114, zl_115, zl_116, zl_117, zl_118, zl_119, zl_120, zl_121, zl_153, zl_255, zl_306, zl_365, zl_400, zl_1000, zl_1460, zl_3600, zl_9999, zl_10000, zl_30000, zl_36524, zl_86399, zl_86400, zl_99999, zl_119999, zl_146096, zl_146097, zl_1000000, zl_3652058, zll_m1000000000, zll_m1000009, zll_m1000002, zll_m2, zll_m1, zll_0, zll_1, zll_86400, zll_2629746, zll_1000000000, nm, bd1_s, bd2_s, bd3_s, bd4_s, bd5_s, bd6_s, if01, gz_1, gz_0, gz_if, cz_lt, cz_le, cz_gt, cz_ge, cz_eq, zI_add, zI_sub, zI_mul, zI_neg, zL_add, zL_sub, zL_mul, zL_neg, zI_lt, zI_le, zI_eq, zL_lt, zL_le, zL_eq, zI_toL, zL_toI, zI_div, zL_div, zI_cl, gi_z, mod_fold, upd_s, upd_n, updL_s, updL_n, ↓reduceIte, Int.reduceLT, Int.reduceLE, Int.reduceEq, Int.reduceAdd, Int.reduceSub, Int.reduceMul, Int.reduceNeg, Int.reduceToNat, eq_self, not_true_eq_false, not_false_eq_true, true_and, false_and, and_true, and_false, true_or, false_or, or_true, or_false, wd, e_dateOf, d1, d5, e_tell1, e_dn]
  exact ⟨_, rfl, updL_s⟩
theorem week_ok {x : Int} (hx : 7 ≤ x ∧ x ≤ 3652058) : (1 ≤ (sp_th x - sp_yb (sp_Y (sp_th x))) / 7 + 1 ∧ (sp_th x - sp_yb (sp_Y (sp_th x))) / 7 + 1 ≤ 53) ∧ (((sp_th (x - 7) - sp_yb (sp_Y (sp_th (x - 7)))) / 7 + 1 = (sp_th x - sp_yb (sp_Y (sp_th x))) / 7 + 1 - 1 ∧ sp_Y (sp_th (x - 7)) = sp_Y (sp_th x)) ∨ ((sp_th (x - 7) - sp_yb (sp_Y (sp_th (x - 7)))) / 7 + 1 ≠ (sp_th x - sp_yb (sp_Y (sp_th x))) / 7 + 1 - 1 ∧ (sp_th x - sp_yb (sp_Y (sp_th x))) / 7 + 1 = 1 ∧ 51 < (sp_th (x - 7) - sp_yb (sp_Y (sp_th (x - 7)))) / 7 + 1 ∧ sp_Y (sp_th (x - 7)) = sp_Y (sp_th x) - 1)) := by
  have e : sp_th (x - 7) = sp_th x - 7 := by unfold sp_th; omega
  have b : 7 ≤ sp_th x ∧ sp_th x ≤ 3652058 := by unfold sp_th; omega
  rw [e]
  generalize sp_th x = t at b ⊢
  obtain ⟨a1, a2, a3⟩ := sp_in (x := t) (by omega) (by omega)
  obtain ⟨b1, b2, b3⟩ := sp_in (x := t - 7) (by omega) (by omega)
  have c1 : sp_yb (sp_Y t + 1) ≤ sp_yb (sp_Y t) + 366 := by unfold sp_yb; omega
  have c2 : sp_yb (sp_Y (t - 7) + 1) ≤ sp_yb (sp_Y (t - 7)) + 366 ∧ sp_yb (sp_Y (t - 7)) + 365 ≤ sp_yb (sp_Y (t - 7) + 1) := by unfold sp_yb; omega
  rcases (show sp_Y (t - 7) < sp_Y t ∨ sp_Y (t - 7) = sp_Y t ∨ sp_Y t < sp_Y (t - 7) by omega) with h | h | h
  · by_cases h2 : sp_Y (t - 7) + 1 = sp_Y t
    · rw [h2] at c2 b2
      omega
    · have := yb_lt (a := sp_Y (t - 7) + 1) (b := sp_Y t) (by omega)
      omega
  · rw [h] at c2 b1 b2 ⊢
    omega
  · have := yb_le (a := sp_Y t + 1) (b := sp_Y (t - 7)) (by omega)
    omega
theorem s_row (N : Nat) {p1 ks tl : Int32} {nn : Nat → Int64} {k n : Nat} (e1 : p1 = zI k) (e2 : tl = zI n) (hk : k < n) (hn : n ≤ 8) : fX9_row N p1 ks tl nn = some (nn k) := by
  subst e1; subst e2
  unfold fX9_row fX3_length fX3_at
  simp (disch := omega) only [zl_m2000000000, zl_m99999, zl_m10000, zl_m21, zl_m9, zl_m5, zl_m2, zl_m1, zl_0, zl_1, zl_2, zl_3, zl_4, zl_5, zl_6, zl_7, zl_8, zl_9, zl_10, zl_11, zl_12, zl_13, zl_14, zl_15, zl_16, zl_17, zl_18, zl_19, zl_23, zl_24, zl_28, zl_29, zl_30, zl_31, zl_45, zl_48, zl_57, zl_58, zl_59, zl_60, zl_84, zl_100, zl_101, zl_102, zl_103, zl_104, zl_105, zl_106, zl_107, zl_108, zl_109, zl_110, zl_111, zl_112, zl_113, zl_114, zl_115, zl_116, zl_117, zl_118, zl_119, zl_120, zl_121, zl_153, zl_255, zl_306, zl_365, zl_400, zl_1000, zl_1460, zl_3600, zl_9999, zl_10000, zl_30000, zl_36524, zl_86399, zl_86400, zl_99999, zl_119999, zl_146096, zl_146097, zl_1000000, zl_3652058, zll_m1000000000, zll_m1000009, zll_m1000002, zll_m2, zll_m1, zll_0, zll_1, zll_86400, zll_2629746, zll_1000000000, nm, bd1_s, bd2_s, bd3_s, bd4_s, bd5_s, bd6_s, if01, gz_1, gz_0, gz_if, cz_lt, cz_le, cz_gt, cz_ge, cz_eq, zI_add, zI_sub, zI_mul, zI_neg, zL_add, zL_sub, zL_mul, zL_neg, zI_lt, zI_le, zI_eq, zL_lt, zL_le, zL_eq, zI_toL, zL_toI, zI_div, zL_div, zI_cl, gi_z, mod_fold, upd_s, upd_n, updL_s, updL_n, ↓reduceIte, Int.reduceLT, Int.reduceLE, Int.reduceEq, Int.reduceAdd, Int.reduceSub, Int.reduceMul, Int.reduceNeg, Int.reduceToNat, eq_self, not_true_eq_false, not_false_eq_true, true_and, false_and, and_true, and_false, true_or, false_or, or_true, or_false, tn1]
  rw [if_neg (by omega), if_pos (by omega), if_neg (by omega), if_neg (by omega), bd1_s]
