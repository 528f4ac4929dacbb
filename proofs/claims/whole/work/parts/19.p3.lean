/-! calls of one stroke -/
theorem L_min {a b : Int} (h1 : -4611686018427387904 ≤ a ∧ a ≤ 4611686018427387904) (h2 : -4611686018427387904 ≤ b ∧ b ≤ 4611686018427387904) : (if zL b < zL a then zL b else zL a) = zL (min a b) := by
  simp (disch := omega) only [zL_lt]
  by_cases h : b < a
  · rw [if_pos h]; congr 1; omega
  · rw [if_neg h]; congr 1; omega
theorem L_max {a b : Int} (h1 : -4611686018427387904 ≤ a ∧ a ≤ 4611686018427387904) (h2 : -4611686018427387904 ≤ b ∧ b ≤ 4611686018427387904) : (if zL b < zL a then zL a else zL b) = zL (max a b) := by
  simp (disch := omega) only [zL_lt]
  by_cases h : b < a
  · rw [if_pos h]; congr 1; omega
  · rw [if_neg h]; congr 1; omega
theorem I_min {a b : Int} (h1 : -2147483648 ≤ a ∧ a ≤ 2147483647) (h2 : -2147483648 ≤ b ∧ b ≤ 2147483647) : (if zI b < zI a then zI b else zI a) = zI (min a b) := by
  simp (disch := omega) only [zI_lt]
  by_cases h : b < a
  · rw [if_pos h]; congr 1; omega
  · rw [if_neg h]; congr 1; omega
theorem I_max {a b : Int} (h1 : -2147483648 ≤ a ∧ a ≤ 2147483647) (h2 : -2147483648 ≤ b ∧ b ≤ 2147483647) : (if zI b < zI a then zI a else zI b) = zI (max a b) := by
  simp (disch := omega) only [zI_lt]
  by_cases h : b < a
  · rw [if_pos h]; congr 1; omega
  · rw [if_neg h]; congr 1; omega
theorem L_pos {a : Int} (h1 : -4611686018427387904 ≤ a ∧ a ≤ 4611686018427387904) : (if zL 0 < zL a then zL a else zL 0) = zL (max a 0) := L_max h1 (by omega)
theorem L_pos2 {a : Int} (h1 : -4611686018427387904 ≤ a ∧ a ≤ 4611686018427387904) : (if zL a < zL 0 then zL 0 else zL a) = zL (max a 0) := by
  rw [L_max (by omega) h1]; congr 1; omega
theorem p_overlaps (N : Nat) (hN : 200000 ≤ N) (p1 : Int32) (p2 : Int32) (p3 : Int32) (p4 : Int32) {ks : Int32} {f : Nat → Int32} {g : Nat → Int32} {tl : Int32} {nn : Nat → Int64} {i : Nat → Int32} {j : Nat → Int64} {F : Nat → Int32} {G : Nat → Int32} {R : Nat → Int64} {dd ss : Nat → Int} (hM : RelM dd ss f g F G) (hR : RelR tl nn i R) : 
    ∃ (r : Int64) (tl' : Int32) (nn' : Nat → Int64) (i' : Nat → Int32) (R' : Nat → Int64), fX9_overlaps N p1 p2 p3 p4 ks f g tl nn = some (r, tl', nn') ∧ fX10_overlaps N p1 p2 p3 p4 i j F G R = some (r, i', R') ∧ RelR tl' nn' i' R' ∧ i' 4 = i 4 ∧ i' 6 = i 6 := by
  obtain ⟨z1, l1, v1, rfl⟩ := zI_of p1
  obtain ⟨z2, l2, v2, rfl⟩ := zI_of p2
  obtain ⟨z3, l3, v3, rfl⟩ := zI_of p3
  obtain ⟨z4, l4, v4, rfl⟩ := zI_of p4
  by_cases q0 : 0 ≤ z1 ∧ z1 ≤ 7
  case neg =>
    refine ⟨(-1 : Int64), tl, nn, upd i 9 (zI 0), R, ?_, ?_, hR.f9, upd_n (by omega), upd_n (by omega)⟩
    · unfold fX9_overlaps
      rw [c_slot0 N l1 v1 q0, bd1_s, if_pos z00]
    · unfold fX10_overlaps
      rw [m_slot0 N l1 v1 q0, bd1_s, if_pos z00]
      rfl
  by_cases q1 : 0 ≤ z2 ∧ z2 ≤ 7
  case neg =>
    refine ⟨(-1 : Int64), tl, nn, upd i 9 (zI 0), R, ?_, ?_, hR.f9, upd_n (by omega), upd_n (by omega)⟩
    · unfold fX9_overlaps
      rw [c_slot1 N q0, bd1_s, if_neg z10]
      rw [c_slot0 N l2 v2 q1, bd1_s, if_pos z00]
    · unfold fX10_overlaps
      rw [m_slot1 N q0, bd1_s, if_neg z10]
      rw [m_slot0 N l2 v2 q1, bd1_s, if_pos z00]
      rfl
  by_cases q2 : 0 ≤ z3 ∧ z3 ≤ 7
  case neg =>
    refine ⟨(-1 : Int64), tl, nn, upd i 9 (zI 0), R, ?_, ?_, hR.f9, upd_n (by omega), upd_n (by omega)⟩
    · unfold fX9_overlaps
      rw [c_slot1 N q0, bd1_s, if_neg z10]
      rw [c_slot1 N q1, bd1_s, if_neg z10]
      rw [c_slot0 N l3 v3 q2, bd1_s, if_pos z00]
    · unfold fX10_overlaps
      rw [m_slot1 N q0, bd1_s, if_neg z10]
      rw [m_slot1 N q1, bd1_s, if_neg z10]
      rw [m_slot0 N l3 v3 q2, bd1_s, if_pos z00]
      rfl
  by_cases q3 : 0 ≤ z4 ∧ z4 ≤ 7
  case neg =>
    refine ⟨(-1 : Int64), tl, nn, upd i 9 (zI 0), R, ?_, ?_, hR.f9, upd_n (by omega), upd_n (by omega)⟩
    · unfold fX9_overlaps
      rw [c_slot1 N q0, bd1_s, if_neg z10]
      rw [c_slot1 N q1, bd1_s, if_neg z10]
      rw [c_slot1 N q2, bd1_s, if_neg z10]
      rw [c_slot0 N l4 v4 q3, bd1_s, if_pos z00]
    · unfold fX10_overlaps
      rw [m_slot1 N q0, bd1_s, if_neg z10]
      rw [m_slot1 N q1, bd1_s, if_neg z10]
      rw [m_slot1 N q2, bd1_s, if_neg z10]
      rw [m_slot0 N l4 v4 q3, bd1_s, if_pos z00]
      rfl
  unfold fX9_overlaps fX10_overlaps
  rw [c_slot1 N q0, bd1_s, if_neg z10]
  rw [c_slot1 N q1, bd1_s, if_neg z10]
  rw [c_slot1 N q2, bd1_s, if_neg z10]
  rw [c_slot1 N q3, bd1_s, if_neg z10]
  rw [m_slot1 N q0, bd1_s, if_neg z10]
  rw [m_slot1 N q1, bd1_s, if_neg z10]
  rw [m_slot1 N q2, bd1_s, if_neg z10]
  rw [m_slot1 N q3, bd1_s, if_neg z10]
  obtain ⟨k1, hk1, rfl⟩ := slot_of q0
  obtain ⟨k2, hk2, rfl⟩ := slot_of q1
  obtain ⟨k3, hk3, rfl⟩ := slot_of q2
  obtain ⟨k4, hk4, rfl⟩ := slot_of q3
  obtain ⟨f1, f2, f3, f4, f5, f6⟩ := hM k1 hk1
  obtain ⟨a1, a2, a3, a4, a5, a6⟩ := hM k2 hk2
  obtain ⟨b1, b2, b3, b4, b5, b6⟩ := hM k3 hk3
  obtain ⟨c1, c2, c3, c4, c5, c6⟩ := hM k4 hk4
  rw [e_instantAt N f g hk1 f1 f2 (by omega) (by omega), e_instantAt N f g hk2 a1 a2 (by omega) (by omega), e_instantAt N f g hk3 b1 b2 (by omega) (by omega), e_instantAt N f g hk4 c1 c2 (by omega) (by omega)]
  rw [e_instantOf_m N hk1 _ F G j f3 f4 f5 f6, e_instantOf_m N hk2 _ F G j a3 a4 a5 a6, e_instantOf_m N hk3 _ F G j b3 b4 b5 b6, e_instantOf_m N hk4 _ F G j c3 c4 c5 c6]
  obtain ⟨A, hA⟩ : ∃ A, A = dd k1 * 86400 + ss k1 := ⟨_, rfl⟩
  obtain ⟨B, hB⟩ : ∃ B, B = dd k2 * 86400 + ss k2 := ⟨_, rfl⟩
  obtain ⟨C, hC⟩ : ∃ C, C = dd k3 * 86400 + ss k3 := ⟨_, rfl⟩
  obtain ⟨D, hD⟩ : ∃ D, D = dd k4 * 86400 + ss k4 := ⟨_, rfl⟩
  rw [← hA, ← hB, ← hC, ← hD]
  simp (disch := omega) only [bd1_s, nm_s, L_min, L_max, zll_0, L_pos, L_pos2, Int.max_comm 0, zL_sub, zl_0, e_tell2, e_tellB, bd2_s, upd_s, upd_u, Int.reduceAdd, Int.reduceToNat]
  exact ⟨_, _, _, _, _, rfl, rfl, RelR.mk2 upd_s _ _, by simp (disch := omega) only [upd_n], by simp (disch := omega) only [upd_n]⟩
theorem e_putInstant (N : Nat) (f g : Nat → Int32) {k : Nat} {x t : Int} (h : k < 8) (h1 : 0 ≤ x ∧ x ≤ 3652058) (h2 : 0 ≤ t ∧ t ≤ 86399) : fX4_putInstant N (zI k) (zL (x * 86400 + t)) f g = some (upd f k (zI x), upd g k (zI t)) := by
  have e1 : (x * 86400 + t) / 86400 = x := by omega
  have e2 : (x * 86400 + t) % 86400 = t := by omega
  have e3 : x * 86400 + t - x * 86400 = t := by omega
  unfold fX4_putInstant
  simp (disch := omega) only [zl_m2147483648, zl_m2000000000, zl_m99999, zl_m10000, zl_m21, zl_m9, zl_m5, zl_m2, zl_m1, zl_0, zl_1, zl_2, zl_3, zl_4, zl_5, zl_6, zl_7, zl_8, zl_9, zl_10, zl_11, zl_12, zl_13, zl_14, zl_15, zl_16, zl_17, zl_18, zl_19, zl_23, zl_24, zl_28, zl_29, zl_30, zl_31, zl_45, zl_48, zl_52, zl_57, zl_58, zl_59, zl_60, zl_84, zl_90, zl_100, zl_101, zl_102, zl_103, zl_104, zl_105, zl_106, zl_107, zl_108, zl_109, zl_110, zl_111, zl_112, zl_113, zl_114, zl_115, zl_116, zl_117, zl_118, zl_119, zl_120, zl_121, zl_127, zl_151, zl_153, zl_181, zl_212, zl_243, zl_255, zl_273, zl_304, zl_306, zl_334, zl_365, zl_400, zl_1000, zl_1023, zl_1100, zl_1460, zl_3600, zl_9999, zl_10000, zl_30000, zl_36524, zl_86399, zl_86400, zl_99999, zl_119999, zl_146096, zl_146097, zl_730119, zl_876215, zl_876216, zl_1000000, zl_3652058, zll_m9223372036854775808, zll_m1000000000, zll_m1000009, zll_m1000002, zll_m10000, zll_m5, zll_m2, zll_m1, zll_0, zll_1, zll_2, zll_3, zll_5, zll_6, zll_7, zll_12, zll_100, zll_255, zll_400, zll_1000, zll_9999, zll_10000, zll_86399, zll_86400, zll_120000, zll_146097, zll_2629746, zll_3652058, zll_1000000000, zll_9218868437227405312, zll_9221120237041090560, nm, bd1_s, bd2_s, bd3_s, bd4_s, bd5_s, bd6_s, if01, gz_1, gz_0, gz_if, cz_lt, cz_le, cz_gt, cz_ge, cz_eq, zI_add, zI_sub, zI_mul, zI_neg, zL_add, zL_sub, zL_mul, zL_neg, zI_lt, zI_le, zI_eq, zL_lt, zL_le, zL_eq, zI_toL, zL_toI, zI_div, zL_div, zI_cl, gi_z, mod_fold, upd_s, upd_n, updL_s, updL_n, ↓reduceIte, Int.reduceLT, Int.reduceLE, Int.reduceEq, Int.reduceAdd, Int.reduceSub, Int.reduceMul, Int.reduceNeg, Int.reduceToNat, eq_self, not_true_eq_false, not_false_eq_true, true_and, false_and, and_true, and_false, true_or, false_or, or_true, or_false, e1, e2, e3, e_putMoment]
/-- what a moment is cut down to -/
def sp_fs (w t : Int) : Int := if w = 0 then t - t % 60 else if w = 1 then t - t % 3600 else 0
def sp_fd (w x : Int) : Int := if w = 3 then x - x % 7 else if w = 4 then x - sp_D x + 1 else if w = 5 then sp_yb (sp_Y x) else x
theorem fs_b {w t : Int} (h : 0 ≤ t ∧ t ≤ 86399) : 0 ≤ sp_fs w t ∧ sp_fs w t ≤ 86399 := by
  unfold sp_fs; split
  · omega
  · split <;> omega
theorem fd_b {w x : Int} (h : 0 ≤ x ∧ x ≤ 3652058) : 0 ≤ sp_fd w x ∧ sp_fd w x ≤ 3652058 := by
  obtain ⟨a1, a2, a3, a4, a5⟩ := mi_all h.1 h.2
  have a := first_b (g := sp_mi x) (by omega) (by omega)
  have b := yb_b h.1 h.2
  unfold sp_fd; split
  · omega
  · split
    · omega
    · split <;> omega
theorem e_floorOf (N : Nat) {x t w : Int} (h1 : 0 ≤ x ∧ x ≤ 3652058) (h2 : 0 ≤ t ∧ t ≤ 86399) (hw : 0 ≤ w ∧ w ≤ 5) : fX9_floorOf N (zI x) (zI t) (zI w) = some (zL (sp_fd w x * 86400 + sp_fs w t)) := by
  obtain ⟨g4, g5, g6, g7⟩ := sp_all h1.1 h1.2
  have g8 := mlen_b (sp_Y x) (sp_M x)
  obtain ⟨d1, d2, d4⟩ := ymd h1.1 h1.2
  have d5 := dn_11 (sp_Y x)
  have d6 := yb_b h1.1 h1.2
  obtain ⟨a1, a2, a3, a4, a5⟩ := mi_all h1.1 h1.2
  have a6 := first_b (g := sp_mi x) (by omega) (by omega)
  have mo : fX1_monthOf N (zI x) = some (zI (sp_mi x)) := e_monthOf N h1.1 h1.2
  have wd : fX1_weekdayOf N (zI x) = some (zI (x % 7)) := by
    unfold fX1_weekdayOf
    simp (disch := omega) only [zl_m2147483648, zl_m2000000000, zl_m99999, zl_m10000, zl_m21, zl_m9, zl_m5, zl_m2, zl_m1, zl_0, zl_1, zl_2, zl_3, zl_4, zl_5, zl_6, zl_7, zl_8, zl_9, zl_10, zl_11, zl_12, zl_13, zl_14, zl_15, zl_16, zl_17, zl_18, zl_19, zl_23, zl_24, zl_28, zl_29, zl_30, zl_31, zl_45, zl_48, zl_52, zl_57, zl_58, zl_59, zl_60, zl_84, zl_90, zl_100, zl_101, zl_102, zl_103, zl_104, zl_105, zl_106, zl_107, zl_108, zl_109, zl_110, zl_111, zl_112, zl_113, zl_114, zl_115, zl_116, zl_117, zl_118, zl_119, zl_120, zl_121, zl_127, zl_151, zl_153, zl_181, zl_212, zl_243, zl_255, zl_273, zl_304, zl_306, zl_334, zl_365, zl_400, zl_1000, zl_1023, zl_1100, zl_1460, zl_3600, zl_9999, zl_10000, zl_30000, zl_36524, zl_86399, zl_86400, zl_99999, zl_119999, zl_146096, zl_146097, zl_730119, zl_876215, zl_876216, zl_1000000, zl_3652058, zll_m9223372036854775808, zll_m1000000000, zll_m1000009, zll_m1000002, zll_m10000, zll_m5, zll_m2, zll_m1, zll_0, zll_1, zll_2, zll_3, zll_5, zll_6, zll_7, zll_12, zll_100, zll_255, zll_400, zll_1000, zll_9999, zll_10000, zll_86399, zll_86400, zll_120000, zll_146097, zll_2629746, zll_3652058, zll_1000000000, zll_9218868437227405312, zll_9221120237041090560, nm, bd1_s, bd2_s, bd3_s, bd4_s, bd5_s, bd6_s, if01, gz_1, gz_0, gz_if, cz_lt, cz_le, cz_gt, cz_ge, cz_eq, zI_add, zI_sub, zI_mul, zI_neg, zL_add, zL_sub, zL_mul, zL_neg, zI_lt, zI_le, zI_eq, zL_lt, zL_le, zL_eq, zI_toL, zL_toI, zI_div, zL_div, zI_cl, gi_z, mod_fold, upd_s, upd_n, updL_s, updL_n, ↓reduceIte, Int.reduceLT, Int.reduceLE, Int.reduceEq, Int.reduceAdd, Int.reduceSub, Int.reduceMul, Int.reduceNeg, Int.reduceToNat, eq_self, not_true_eq_false, not_false_eq_true, true_and, false_and, and_true, and_false, true_or, false_or, or_true, or_false]
  have fi := e_firstOf N (g := sp_mi x) (by omega) (by omega)
  rw [a2] at fi
  unfold fX9_floorOf
  rw [e_dateOf N h1.1 h1.2, bd1_s]
  rcases (show w = 0 ∨ w = 1 ∨ w = 2 ∨ w = 3 ∨ w = 4 ∨ w = 5 by omega) with rfl | rfl | rfl | rfl | rfl | rfl
  · simp (disch := omega) only [zl_m2147483648, zl_m2000000000, zl_m99999, zl_m10000, zl_m21, zl_m9, zl_m5, zl_m2, zl_m1, zl_0, zl_1, zl_2, zl_3, zl_4, zl_5, zl_6, zl_7, zl_8, zl_9, zl_10, zl_11, zl_12, zl_13, zl_14, zl_15, zl_16, zl_17, zl_18, zl_19, zl_23, zl_24, zl_28, zl_29, zl_30, zl_31, zl_45, zl_48, zl_52, zl_57, zl_58, zl_59, zl_60, zl_84, zl_90, zl_100, zl_101, zl_102, zl_103, zl_104, zl_105, zl_106, zl_107, zl_108, zl_109, zl_110, zl_111, zl_112, zl_113, zl_114, zl_115, zl_116, zl_117, zl_118, zl_119, zl_120, zl_121, zl_127, zl_151, zl_153, zl_181, zl_212, zl_243, zl_255, zl_273, zl_304, zl_306, zl_334, zl_365, zl_400, zl_1000, zl_1023, zl_1100, zl_1460, zl_3600, zl_9999, zl_10000, zl_30000, zl_36524, zl_86399, zl_86400, zl_99999, zl_119999, zl_146096, zl_146097, zl_730119, zl_876215, zl_876216, zl_1000000, zl_3652058, zll_m9223372036854775808, zll_m1000000000, zll_m1000009, zll_m1000002, zll_m10000, zll_m5, zll_m2, zll_m1, zll_0, zll_1, zll_2, zll_3, zll_5, zll_6, zll_7, zll_12, zll_100, zll_255, zll_400, zll_1000, zll_9999, zll_10000, zll_86399, zll_86400, zll_120000, zll_146097, zll_2629746, zll_3652058, zll_1000000000, zll_9218868437227405312, zll_9221120237041090560, nm, bd1_s, bd2_s, bd3_s, bd4_s, bd5_s, bd6_s, if01, gz_1, gz_0, gz_if, cz_lt, cz_le, cz_gt, cz_ge, cz_eq, zI_add, zI_sub, zI_mul, zI_neg, zL_add, zL_sub, zL_mul, zL_neg, zI_lt, zI_le, zI_eq, zL_lt, zL_le, zL_eq, zI_toL, zL_toI, zI_div, zL_div, zI_cl, gi_z, mod_fold, upd_s, upd_n, updL_s, updL_n, ↓reduceIte, Int.reduceLT, Int.reduceLE, Int.reduceEq, Int.reduceAdd, Int.reduceSub, Int.reduceMul, Int.reduceNeg, Int.reduceToNat, eq_self, not_true_eq_false, not_false_eq_true, true_and, false_and, and_true, and_false, true_or, false_or, or_true, or_false, d1, e_instantOf]
    rfl
  · simp (disch := omega) only [zl_m2147483648, zl_m2000000000, zl_m99999, zl_m10000, zl_m21, zl_m9, zl_m5, zl_m2, zl_m1, zl_0, zl_1, zl_2, zl_3, zl_4, zl_5, zl_6, zl_7, zl_8, zl_9, zl_10, zl_11, zl_12, zl_13, zl_14, zl_15, zl_16, zl_17, zl_18, zl_19, zl_23, zl_24, zl_28, zl_29, zl_30, zl_31, zl_45, zl_48, zl_52, zl_57, zl_58, zl_59, zl_60, zl_84, zl_90, zl_100, zl_101, zl_102, zl_103, zl_104, zl_105, zl_106, zl_107, zl_108, zl_109, zl_110, zl_111, zl_112, zl_113, zl_114, zl_115, zl_116, zl_117, zl_118, zl_119, zl_120, zl_121, zl_127, zl_151, zl_153, zl_181, zl_212, zl_243, zl_255, zl_273, zl_304, zl_306, zl_334, zl_365, zl_400, zl_1000, zl_1023, zl_1100, zl_1460, zl_3600, zl_9999, zl_10000, zl_30000, zl_36524, zl_86399, zl_86400, zl_99999, zl_119999, zl_146096, zl_146097, zl_730119, zl_876215, zl_876216, zl_1000000, zl_3652058, zll_m9223372036854775808, zll_m1000000000, zll_m1000009, zll_m1000002, zll_m10000, zll_m5, zll_m2, zll_m1, zll_0, zll_1, zll_2, zll_3, zll_5, zll_6, zll_7, zll_12, zll_100, zll_255, zll_400, zll_1000, zll_9999, zll_10000, zll_86399, zll_86400, zll_120000, zll_146097, zll_2629746, zll_3652058, zll_1000000000, zll_9218868437227405312, zll_9221120237041090560, nm, bd1_s, bd2_s, bd3_s, bd4_s, bd5_s, bd6_s, if01, gz_1, gz_0, gz_if, cz_lt, cz_le, cz_gt, cz_ge, cz_eq, zI_add, zI_sub, zI_mul, zI_neg, zL_add, zL_sub, zL_mul, zL_neg, zI_lt, zI_le, zI_eq, zL_lt, zL_le, zL_eq, zI_toL, zL_toI, zI_div, zL_div, zI_cl, gi_z, mod_fold, upd_s, upd_n, updL_s, updL_n, ↓reduceIte, Int.reduceLT, Int.reduceLE, Int.reduceEq, Int.reduceAdd, Int.reduceSub, Int.reduceMul, Int.reduceNeg, Int.reduceToNat, eq_self, not_true_eq_false, not_false_eq_true, true_and, false_and, and_true, and_false, true_or, false_or, or_true, or_false, d1, e_instantOf]
    rfl
  · simp (disch := omega) only [zl_m2147483648, zl_m2000000000, zl_m99999, zl_m10000, zl_m21, zl_m9, zl_m5, zl_m2, zl_m1, zl_0, zl_1, zl_2, zl_3, zl_4, zl_5, zl_6, zl_7, zl_8, zl_9, zl_10, zl_11, zl_12, zl_13, zl_14, zl_15, zl_16, zl_17, zl_18, zl_19, zl_23, zl_24, zl_28, zl_29, zl_30, zl_31, zl_45, zl_48, zl_52, zl_57, zl_58, zl_59, zl_60, zl_84, zl_90, zl_100, zl_101, zl_102, zl_103, zl_104, zl_105, zl_106, zl_107, zl_108, zl_109, zl_110, zl_111, zl_112, zl_113, zl_114, zl_115, zl_116, zl_117, zl_118, zl_119, zl_120, zl_121, zl_127, zl_151, zl_153, zl_181, zl_212, zl_243, zl_255, zl_273, zl_304, zl_306, zl_334, zl_365, zl_400, zl_1000, zl_1023, zl_1100, zl_1460, zl_3600, zl_9999, zl_10000, zl_30000, zl_36524, zl_86399, zl_86400, zl_99999, zl_119999, zl_146096, zl_146097, zl_730119, zl_876215, zl_876216, zl_1000000, zl_3652058, zll_m9223372036854775808, zll_m1000000000, zll_m1000009, zll_m1000002, zll_m10000, zll_m5, zll_m2, zll_m1, zll_0, zll_1, zll_2, zll_3, zll_5, zll_6, zll_7, zll_12, zll_100, zll_255, zll_400, zll_1000, zll_9999, zll_10000, zll_86399, zll_86400, zll_120000, zll_146097, zll_2629746, zll_3652058, zll_1000000000, zll_9218868437227405312, zll_9221120237041090560, nm, bd1_s, bd2_s, bd3_s, bd4_s, bd5_s, bd6_s, if01, gz_1, gz_0, gz_if, cz_lt, cz_le, cz_gt, cz_ge, cz_eq, zI_add, zI_sub, zI_mul, zI_neg, zL_add, zL_sub, zL_mul, zL_neg, zI_lt, zI_le, zI_eq, zL_lt, zL_le, zL_eq, zI_toL, zL_toI, zI_div, zL_div, zI_cl, gi_z, mod_fold, upd_s, upd_n, updL_s, updL_n, ↓reduceIte, Int.reduceLT, Int.reduceLE, Int.reduceEq, Int.reduceAdd, Int.reduceSub, Int.reduceMul, Int.reduceNeg, Int.reduceToNat, eq_self, not_true_eq_false, not_false_eq_true, true_and, false_and, and_true, and_false, true_or, false_or, or_true, or_false, d1, e_instantOf]
    rfl
  · simp (disch := omega) only [zl_m2147483648, zl_m2000000000, zl_m99999, zl_m10000, zl_m21, zl_m9, zl_m5, zl_m2, zl_m1, zl_0, zl_1, zl_2, zl_3, zl_4, zl_5, zl_6, zl_7, zl_8, zl_9, zl_10, zl_11, zl_12, zl_13, zl_14, zl_15, zl_16, zl_17, zl_18, zl_19, zl_23, zl_24, zl_28, zl_29, zl_30, zl_31, zl_45, zl_48, zl_52, zl_57, zl_58, zl_59, zl_60, zl_84, zl_90, zl_100, zl_101, zl_102, zl_103, zl_104, zl_105, zl_106, zl_107, zl_108, zl_109, zl_110, zl_111, zl_112, zl_113, zl_114, zl_115, zl_116, zl_117, zl_118, zl_119, zl_120, zl_121, zl_127, zl_151, zl_153, zl_181, zl_212, zl_243, zl_255, zl_273, zl_304, zl_306, zl_334, zl_365, zl_400, zl_1000, zl_1023, zl_1100, zl_1460, zl_3600, zl_9999, zl_10000, zl_30000, zl_36524, zl_86399, zl_86400, zl_99999, zl_119999, zl_146096, zl_146097, zl_730119, zl_876215, zl_876216, zl_1000000, zl_3652058, zll_m9223372036854775808, zll_m1000000000, zll_m1000009, zll_m1000002, zll_m10000, zll_m5, zll_m2, zll_m1, zll_0, zll_1, zll_2, zll_3, zll_5, zll_6, zll_7, zll_12, zll_100, zll_255, zll_400, zll_1000, zll_9999, zll_10000, zll_86399, zll_86400, zll_120000, zll_146097, zll_2629746, zll_3652058, zll_1000000000, zll_9218868437227405312, zll_9221120237041090560, nm, bd1_s, bd2_s, bd3_s, bd4_s, bd5_s, bd6_s, if01, gz_1, gz_0, gz_if, cz_lt, cz_le, cz_gt, cz_ge, cz_eq, zI_add, zI_sub, zI_mul, zI_neg, zL_add, zL_sub, zL_mul, zL_neg, zI_lt, zI_le, zI_eq, zL_lt, zL_le, zL_eq, zI_toL, zL_toI, zI_div, zL_div, zI_cl, gi_z, mod_fold, upd_s, upd_n, updL_s, updL_n, ↓reduceIte, Int.reduceLT, Int.reduceLE, Int.reduceEq, Int.reduceAdd, Int.reduceSub, Int.reduceMul, Int.reduceNeg, Int.reduceToNat, eq_self, not_true_eq_false, not_false_eq_true, true_and, false_and, and_true, and_false, true_or, false_or, or_true, or_false, d1, wd, e_instantOf]
    rfl
  · simp (disch := omega) only [zl_m2147483648, zl_m2000000000, zl_m99999, zl_m10000, zl_m21, zl_m9, zl_m5, zl_m2, zl_m1, zl_0, zl_1, zl_2, zl_3, zl_4, zl_5, zl_6, zl_7, zl_8, zl_9, zl_10, zl_11, zl_12, zl_13, zl_14, zl_15, zl_16, zl_17, zl_18, zl_19, zl_23, zl_24, zl_28, zl_29, zl_30, zl_31, zl_45, zl_48, zl_52, zl_57, zl_58, zl_59, zl_60, zl_84, zl_90, zl_100, zl_101, zl_102, zl_103, zl_104, zl_105, zl_106, zl_107, zl_108, zl_109, zl_110, zl_111, zl_112, zl_113, zl_114, zl_115, zl_116, zl_117, zl_118, zl_119, zl_120, zl_121, zl_127, zl_151, zl_153, zl_181, zl_212, zl_243, zl_255, zl_273, zl_304, zl_306, zl_334, zl_365, zl_400, zl_1000, zl_1023, zl_1100, zl_1460, zl_3600, zl_9999, zl_10000, zl_30000, zl_36524, zl_86399, zl_86400, zl_99999, zl_119999, zl_146096, zl_146097, zl_730119, zl_876215, zl_876216, zl_1000000, zl_3652058, zll_m9223372036854775808, zll_m1000000000, zll_m1000009, zll_m1000002, zll_m10000, zll_m5, zll_m2, zll_m1, zll_0, zll_1, zll_2, zll_3, zll_5, zll_6, zll_7, zll_12, zll_100, zll_255, zll_400, zll_1000, zll_9999, zll_10000, zll_86399, zll_86400, zll_120000, zll_146097, zll_2629746, zll_3652058, zll_1000000000, zll_9218868437227405312, zll_9221120237041090560, nm, bd1_s, bd2_s, bd3_s, bd4_s, bd5_s, bd6_s, if01, gz_1, gz_0, gz_if, cz_lt, cz_le, cz_gt, cz_ge, cz_eq, zI_add, zI_sub, zI_mul, zI_neg, zL_add, zL_sub, zL_mul, zL_neg, zI_lt, zI_le, zI_eq, zL_lt, zL_le, zL_eq, zI_toL, zL_toI, zI_div, zL_div, zI_cl, gi_z, mod_fold, upd_s, upd_n, updL_s, updL_n, ↓reduceIte, Int.reduceLT, Int.reduceLE, Int.reduceEq, Int.reduceAdd, Int.reduceSub, Int.reduceMul, Int.reduceNeg, Int.reduceToNat, eq_self, not_true_eq_false, not_false_eq_true, true_and, false_and, and_true, and_false, true_or, false_or, or_true, or_false, d1, mo, fi, e_instantOf]
    rfl
  · simp (disch := omega) only [zl_m2147483648, zl_m2000000000, zl_m99999, zl_m10000, zl_m21, zl_m9, zl_m5, zl_m2, zl_m1, zl_0, zl_1, zl_2, zl_3, zl_4, zl_5, zl_6, zl_7, zl_8, zl_9, zl_10, zl_11, zl_12, zl_13, zl_14, zl_15, zl_16, zl_17, zl_18, zl_19, zl_23, zl_24, zl_28, zl_29, zl_30, zl_31, zl_45, zl_48, zl_52, zl_57, zl_58, zl_59, zl_60, zl_84, zl_90, zl_100, zl_101, zl_102, zl_103, zl_104, zl_105, zl_106, zl_107, zl_108, zl_109, zl_110, zl_111, zl_112, zl_113, zl_114, zl_115, zl_116, zl_117, zl_118, zl_119, zl_120, zl_121, zl_127, zl_151, zl_153, zl_181, zl_212, zl_243, zl_255, zl_273, zl_304, zl_306, zl_334, zl_365, zl_400, zl_1000, zl_1023, zl_1100, zl_1460, zl_3600, zl_9999, zl_10000, zl_30000, zl_36524, zl_86399, zl_86400, zl_99999, zl_119999, zl_146096, zl_146097, zl_730119, zl_876215, zl_876216, zl_1000000, zl_3652058, zll_m9223372036854775808, zll_m1000000000, zll_m1000009, zll_m1000002, zll_m10000, zll_m5, zll_m2, zll_m1, zll_0, zll_1, zll_2, zll_3, zll_5, zll_6, zll_7, zll_12, zll_100, zll_255, zll_400, zll_1000, zll_9999, zll_10000, zll_86399, zll_86400, zll_120000, zll_146097, zll_2629746, zll_3652058, zll_1000000000, zll_9218868437227405312, zll_9221120237041090560, nm, bd1_s, bd2_s, bd3_s, bd4_s, bd5_s, bd6_s, if01, gz_1, gz_0, gz_if, cz_lt, cz_le, cz_gt, cz_ge, cz_eq, zI_add, zI_sub, zI_mul, zI_neg, zL_add, zL_sub, zL_mul, zL_neg, zI_lt, zI_le, zI_eq, zL_lt, zL_le, zL_eq, zI_toL, zL_toI, zI_div, zL_div, zI_cl, gi_z, mod_fold, upd_s, upd_n, updL_s, updL_n, ↓reduceIte, Int.reduceLT, Int.reduceLE, Int.reduceEq, Int.reduceAdd, Int.reduceSub, Int.reduceMul, Int.reduceNeg, Int.reduceToNat, eq_self, not_true_eq_false, not_false_eq_true, true_and, false_and, and_true, and_false, true_or, false_or, or_true, or_false, d1, e_dn, d5, e_instantOf]
    rfl
theorem e_fl143 (N : Nat) {i F G : Nat → Int32} {j R : Nat → Int64} {k : Nat} (hk : k < 8) {d s A : Int} (h1 : 0 ≤ d ∧ d ≤ 3652058) (h2 : 0 ≤ s ∧ s ≤ 86399) : fX10_floors_j143 N j (zI k) (zL A) (zI d) (zI s) i F G R = some (zI d, upd (upd (upd i 13 (zI d)) 14 (zI s)) 8 (zI 2), upd F k (zI d), upd G k (zI s), vp_updL (vp_updL R 0 (zL s)) 1 (zL (A - (d * 86400 + s)))) := by
  unfold fX10_floors_j143
  rw [e_stands, bd1_s, e_comesTo N hk, bd2_s, e_tellA, bd2_s, e_instant_m N j (x := d) (t := s) (by rw [upd_n (by omega), upd_n (by omega), upd_s]) (by rw [upd_n (by omega), upd_s]) h1 h2, bd1_s]
  simp (disch := omega) only [zl_m2147483648, zl_m2000000000, zl_m99999, zl_m10000, zl_m21, zl_m9, zl_m5, zl_m2, zl_m1, zl_0, zl_1, zl_2, zl_3, zl_4, zl_5, zl_6, zl_7, zl_8, zl_9, zl_10, zl_11, zl_12, zl_13, zl_14, zl_15, zl_16, zl_17, zl_18, zl_19, zl_23, zl_24, zl_28, zl_29, zl_30, zl_31, zl_45, zl_48, zl_52, zl_57, zl_58, zl_59, zl_60, zl_84, zl_90, zl_100, zl_101, zl_102, zl_103, zl_104, zl_105, zl_106, zl_107, zl_108, zl_109, zl_110, zl_111, zl_112, zl_113, zl_114, zl_115, zl_116, zl_117, zl_118, zl_119, zl_120, zl_121, zl_127, zl_151, zl_153, zl_181, zl_212, zl_243, zl_255, zl_273, zl_304, zl_306, zl_334, zl_365, zl_400, zl_1000, zl_1023, zl_1100, zl_1460, zl_3600, zl_9999, zl_10000, zl_30000, zl_36524, zl_86399, zl_86400, zl_99999, zl_119999, zl_146096, zl_146097, zl_730119, zl_876215, zl_876216, zl_1000000, zl_3652058, zll_m9223372036854775808, zll_m1000000000, zll_m1000009, zll_m1000002, zll_m10000, zll_m5, zll_m2, zll_m1, zll_0, zll_1, zll_2, zll_3, zll_5, zll_6, zll_7, zll_12, zll_100, zll_255, zll_400, zll_1000, zll_9999, zll_10000, zll_86399, zll_86400, zll_120000, zll_146097, zll_2629746, zll_3652058, zll_1000000000, zll_9218868437227405312, zll_9221120237041090560, nm, bd1_s, bd2_s, bd3_s, bd4_s, bd5_s, bd6_s, if01, gz_1, gz_0, gz_if, cz_lt, cz_le, cz_gt, cz_ge, cz_eq, zI_add, zI_sub, zI_mul, zI_neg, zL_add, zL_sub, zL_mul, zL_neg, zI_lt, zI_le, zI_eq, zL_lt, zL_le, zL_eq, zI_toL, zL_toI, zI_div, zL_div, zI_cl, gi_z, mod_fold, upd_s, upd_n, updL_s, updL_n, ↓reduceIte, Int.reduceLT, Int.reduceLE, Int.reduceEq, Int.reduceAdd, Int.reduceSub, Int.reduceMul, Int.reduceNeg, Int.reduceToNat, eq_self, not_true_eq_false, not_false_eq_true, true_and, false_and, and_true, and_false, true_or, false_or, or_true, or_false, e_tellB]
theorem e_fl90 (N : Nat) (hN : 20000 ≤ N) {i F G : Nat → Int32} {j R : Nat → Int64} {k : Nat} (hk : k < 8) {x t w A : Int} (h1 : 0 ≤ x ∧ x ≤ 3652058) (h2 : 0 ≤ t ∧ t ≤ 86399) (hw : 0 ≤ w ∧ w ≤ 5) : ∃ i', fX10_floors_j90 N j (zI w) (zI k) (zL A) (zI x) (zI t) i F G R = some (zI (sp_fd w x), i', upd F k (zI (sp_fd w x)), upd G k (zI t), vp_updL (vp_updL R 0 (zL t)) 1 (zL (A - (sp_fd w x * 86400 + t)))) ∧ i' 4 = i 4 ∧ i' 6 = i 6 ∧ i' 8 = zI 2 := by
  obtain ⟨g4, g5, g6, g7⟩ := sp_all h1.1 h1.2
  have g8 := mlen_b (sp_Y x) (sp_M x)
  have b := fd_b (w := w) h1
  have b3 := fd_b (w := 3) h1
  have b4 := fd_b (w := 4) h1
  have b5 := fd_b (w := 5) h1
  unfold fX10_floors_j90
  rw [e_dates N hN _ j h1.1 h1.2, bd1_s]
  unfold fX10_floors_j113 fX10_floors_j129
  rcases (show w = 3 ∨ w = 4 ∨ w = 5 ∨ (w ≠ 3 ∧ w ≠ 4 ∧ w ≠ 5) by omega) with rfl | rfl | rfl | ⟨n3, n4, n5⟩
  · have e : sp_fd 3 x = x - x % 7 := rfl
    rw [e] at b3 ⊢
    simp (disch := omega) only [zl_m2147483648, zl_m2000000000, zl_m99999, zl_m10000, zl_m21, zl_m9, zl_m5, zl_m2, zl_m1, zl_0, zl_1, zl_2, zl_3, zl_4, zl_5, zl_6, zl_7, zl_8, zl_9, zl_10, zl_11, zl_12, zl_13, zl_14, zl_15, zl_16, zl_17, zl_18, zl_19, zl_23, zl_24, zl_28, zl_29, zl_30, zl_31, zl_45, zl_48, zl_52, zl_57, zl_58, zl_59, zl_60, zl_84, zl_90, zl_100, zl_101, zl_102, zl_103, zl_104, zl_105, zl_106, zl_107, zl_108, zl_109, zl_110, zl_111, zl_112, zl_113, zl_114, zl_115, zl_116, zl_117, zl_118, zl_119, zl_120, zl_121, zl_127, zl_151, zl_153, zl_181, zl_212, zl_243, zl_255, zl_273, zl_304, zl_306, zl_334, zl_365, zl_400, zl_1000, zl_1023, zl_1100, zl_1460, zl_3600, zl_9999, zl_10000, zl_30000, zl_36524, zl_86399, zl_86400, zl_99999, zl_119999, zl_146096, zl_146097, zl_730119, zl_876215, zl_876216, zl_1000000, zl_3652058, zll_m9223372036854775808, zll_m1000000000, zll_m1000009, zll_m1000002, zll_m10000, zll_m5, zll_m2, zll_m1, zll_0, zll_1, zll_2, zll_3, zll_5, zll_6, zll_7, zll_12, zll_100, zll_255, zll_400, zll_1000, zll_9999, zll_10000, zll_86399, zll_86400, zll_120000, zll_146097, zll_2629746, zll_3652058, zll_1000000000, zll_9218868437227405312, zll_9221120237041090560, nm, bd1_s, bd2_s, bd3_s, bd4_s, bd5_s, bd6_s, if01, gz_1, gz_0, gz_if, cz_lt, cz_le, cz_gt, cz_ge, cz_eq, zI_add, zI_sub, zI_mul, zI_neg, zL_add, zL_sub, zL_mul, zL_neg, zI_lt, zI_le, zI_eq, zL_lt, zL_le, zL_eq, zI_toL, zL_toI, zI_div, zL_div, zI_cl, gi_z, mod_fold, upd_s, upd_n, updL_s, updL_n, ↓reduceIte, Int.reduceLT, Int.reduceLE, Int.reduceEq, Int.reduceAdd, Int.reduceSub, Int.reduceMul, Int.reduceNeg, Int.reduceToNat, eq_self, not_true_eq_false, not_false_eq_true, true_and, false_and, and_true, and_false, true_or, false_or, or_true, or_false, e_fl143]
    exact ⟨_, rfl, by simp (disch := omega) only [upd_n], by simp (disch := omega) only [upd_n], upd_s⟩
  · have e : sp_fd 4 x = x - sp_D x + 1 := rfl
    have e2 : x - (sp_D x - 1) = x - sp_D x + 1 := by omega
    rw [e] at b4 ⊢
    simp (disch := omega) only [zl_m2147483648, zl_m2000000000, zl_m99999, zl_m10000, zl_m21, zl_m9, zl_m5, zl_m2, zl_m1, zl_0, zl_1, zl_2, zl_3, zl_4, zl_5, zl_6, zl_7, zl_8, zl_9, zl_10, zl_11, zl_12, zl_13, zl_14, zl_15, zl_16, zl_17, zl_18, zl_19, zl_23, zl_24, zl_28, zl_29, zl_30, zl_31, zl_45, zl_48, zl_52, zl_57, zl_58, zl_59, zl_60, zl_84, zl_90, zl_100, zl_101, zl_102, zl_103, zl_104, zl_105, zl_106, zl_107, zl_108, zl_109, zl_110, zl_111, zl_112, zl_113, zl_114, zl_115, zl_116, zl_117, zl_118, zl_119, zl_120, zl_121, zl_127, zl_151, zl_153, zl_181, zl_212, zl_243, zl_255, zl_273, zl_304, zl_306, zl_334, zl_365, zl_400, zl_1000, zl_1023, zl_1100, zl_1460, zl_3600, zl_9999, zl_10000, zl_30000, zl_36524, zl_86399, zl_86400, zl_99999, zl_119999, zl_146096, zl_146097, zl_730119, zl_876215, zl_876216, zl_1000000, zl_3652058, zll_m9223372036854775808, zll_m1000000000, zll_m1000009, zll_m1000002, zll_m10000, zll_m5, zll_m2, zll_m1, zll_0, zll_1, zll_2, zll_3, zll_5, zll_6, zll_7, zll_12, zll_100, zll_255, zll_400, zll_1000, zll_9999, zll_10000, zll_86399, zll_86400, zll_120000, zll_146097, zll_2629746, zll_3652058, zll_1000000000, zll_9218868437227405312, zll_9221120237041090560, nm, bd1_s, bd2_s, bd3_s, bd4_s, bd5_s, bd6_s, if01, gz_1, gz_0, gz_if, cz_lt, cz_le, cz_gt, cz_ge, cz_eq, zI_add, zI_sub, zI_mul, zI_neg, zL_add, zL_sub, zL_mul, zL_neg, zI_lt, zI_le, zI_eq, zL_lt, zL_le, zL_eq, zI_toL, zL_toI, zI_div, zL_div, zI_cl, gi_z, mod_fold, upd_s, upd_n, updL_s, updL_n, ↓reduceIte, Int.reduceLT, Int.reduceLE, Int.reduceEq, Int.reduceAdd, Int.reduceSub, Int.reduceMul, Int.reduceNeg, Int.reduceToNat, eq_self, not_true_eq_false, not_false_eq_true, true_and, false_and, and_true, and_false, true_or, false_or, or_true, or_false, e_fl143, e2]
    exact ⟨_, rfl, by simp (disch := omega) only [upd_n], by simp (disch := omega) only [upd_n], upd_s⟩
  · have e : sp_fd 5 x = sp_yb (sp_Y x) := rfl
    rw [e] at b5 ⊢
    simp (disch := omega) only [zl_m2147483648, zl_m2000000000, zl_m99999, zl_m10000, zl_m21, zl_m9, zl_m5, zl_m2, zl_m1, zl_0, zl_1, zl_2, zl_3, zl_4, zl_5, zl_6, zl_7, zl_8, zl_9, zl_10, zl_11, zl_12, zl_13, zl_14, zl_15, zl_16, zl_17, zl_18, zl_19, zl_23, zl_24, zl_28, zl_29, zl_30, zl_31, zl_45, zl_48, zl_52, zl_57, zl_58, zl_59, zl_60, zl_84, zl_90, zl_100, zl_101, zl_102, zl_103, zl_104, zl_105, zl_106, zl_107, zl_108, zl_109, zl_110, zl_111, zl_112, zl_113, zl_114, zl_115, zl_116, zl_117, zl_118, zl_119, zl_120, zl_121, zl_127, zl_151, zl_153, zl_181, zl_212, zl_243, zl_255, zl_273, zl_304, zl_306, zl_334, zl_365, zl_400, zl_1000, zl_1023, zl_1100, zl_1460, zl_3600, zl_9999, zl_10000, zl_30000, zl_36524, zl_86399, zl_86400, zl_99999, zl_119999, zl_146096, zl_146097, zl_730119, zl_876215, zl_876216, zl_1000000, zl_3652058, zll_m9223372036854775808, zll_m1000000000, zll_m1000009, zll_m1000002, zll_m10000, zll_m5, zll_m2, zll_m1, zll_0, zll_1, zll_2, zll_3, zll_5, zll_6, zll_7, zll_12, zll_100, zll_255, zll_400, zll_1000, zll_9999, zll_10000, zll_86399, zll_86400, zll_120000, zll_146097, zll_2629746, zll_3652058, zll_1000000000, zll_9218868437227405312, zll_9221120237041090560, nm, bd1_s, bd2_s, bd3_s, bd4_s, bd5_s, bd6_s, if01, gz_1, gz_0, gz_if, cz_lt, cz_le, cz_gt, cz_ge, cz_eq, zI_add, zI_sub, zI_mul, zI_neg, zL_add, zL_sub, zL_mul, zL_neg, zI_lt, zI_le, zI_eq, zL_lt, zL_le, zL_eq, zI_toL, zL_toI, zI_div, zL_div, zI_cl, gi_z, mod_fold, upd_s, upd_n, updL_s, updL_n, ↓reduceIte, Int.reduceLT, Int.reduceLE, Int.reduceEq, Int.reduceAdd, Int.reduceSub, Int.reduceMul, Int.reduceNeg, Int.reduceToNat, eq_self, not_true_eq_false, not_false_eq_true, true_and, false_and, and_true, and_false, true_or, false_or, or_true, or_false, e_fl143, e_yb]
    exact ⟨_, rfl, by simp (disch := omega) only [upd_n], by simp (disch := omega) only [upd_n], upd_s⟩
  · have e : sp_fd w x = x := by unfold sp_fd; rw [if_neg n3, if_neg n4, if_neg n5]
    rw [e]
    simp (disch := omega) only [zl_m2147483648, zl_m2000000000, zl_m99999, zl_m10000, zl_m21, zl_m9, zl_m5, zl_m2, zl_m1, zl_0, zl_1, zl_2, zl_3, zl_4, zl_5, zl_6, zl_7, zl_8, zl_9, zl_10, zl_11, zl_12, zl_13, zl_14, zl_15, zl_16, zl_17, zl_18, zl_19, zl_23, zl_24, zl_28, zl_29, zl_30, zl_31, zl_45, zl_48, zl_52, zl_57, zl_58, zl_59, zl_60, zl_84, zl_90, zl_100, zl_101, zl_102, zl_103, zl_104, zl_105, zl_106, zl_107, zl_108, zl_109, zl_110, zl_111, zl_112, zl_113, zl_114, zl_115, zl_116, zl_117, zl_118, zl_119, zl_120, zl_121, zl_127, zl_151, zl_153, zl_181, zl_212, zl_243, zl_255, zl_273, zl_304, zl_306, zl_334, zl_365, zl_400, zl_1000, zl_1023, zl_1100, zl_1460, zl_3600, zl_9999, zl_10000, zl_30000, zl_36524, zl_86399, zl_86400, zl_99999, zl_119999, zl_146096, zl_146097, zl_730119, zl_876215, zl_876216, zl_1000000, zl_3652058, zll_m9223372036854775808, zll_m1000000000, zll_m1000009, zll_m1000002, zll_m10000, zll_m5, zll_m2, zll_m1, zll_0, zll_1, zll_2, zll_3, zll_5, zll_6, zll_7, zll_12, zll_100, zll_255, zll_400, zll_1000, zll_9999, zll_10000, zll_86399, zll_86400, zll_120000, zll_146097, zll_2629746, zll_3652058, zll_1000000000, zll_9218868437227405312, zll_9221120237041090560, nm, bd1_s, bd2_s, bd3_s, bd4_s, bd5_s, bd6_s, if01, gz_1, gz_0, gz_if, cz_lt, cz_le, cz_gt, cz_ge, cz_eq, zI_add, zI_sub, zI_mul, zI_neg, zL_add, zL_sub, zL_mul, zL_neg, zI_lt, zI_le, zI_eq, zL_lt, zL_le, zL_eq, zI_toL, zL_toI, zI_div, zL_div, zI_cl, gi_z, mod_fold, upd_s, upd_n, updL_s, updL_n, ↓reduceIte, Int.reduceLT, Int.reduceLE, Int.reduceEq, Int.reduceAdd, Int.reduceSub, Int.reduceMul, Int.reduceNeg, Int.reduceToNat, eq_self, not_true_eq_false, not_false_eq_true, true_and, false_and, and_true, and_false, true_or, false_or, or_true, or_false, n3, n4, n5, e_fl143]
    exact ⟨_, rfl, by simp (disch := omega) only [upd_n], by simp (disch := omega) only [upd_n], upd_s⟩
theorem p_floors (N : Nat) (hN : 200000 ≤ N) (p1 : Int32) (p2 : Int32) (p3 : Int32) {ks : Int32} {f : Nat → Int32} {g : Nat → Int32} {tl : Int32} {nn : Nat → Int64} {i : Nat → Int32} {j : Nat → Int64} {F : Nat → Int32} {G : Nat → Int32} {R : Nat → Int64} {dd ss : Nat → Int} (hM : RelM dd ss f g F G) (hR : RelR tl nn i R) : 
    ∃ (r : Int32) (f' : Nat → Int32) (g' : Nat → Int32) (tl' : Int32) (nn' : Nat → Int64) (i' : Nat → Int32) (F' : Nat → Int32) (G' : Nat → Int32) (R' : Nat → Int64) (dd' : Nat → Int) (ss' : Nat → Int), fX9_floors N p1 p2 p3 ks f g tl nn = some (r, f', g', tl', nn') ∧ fX10_floors N p1 p2 p3 i j F G R = some (r, i', F', G', R') ∧ RelM dd' ss' f' g' F' G' ∧ RelR tl' nn' i' R' ∧ i' 4 = i 4 ∧ i' 6 = i 6 := by
  obtain ⟨z1, l1, v1, rfl⟩ := zI_of p1
  obtain ⟨z2, l2, v2, rfl⟩ := zI_of p2
  obtain ⟨z3, l3, v3, rfl⟩ := zI_of p3
  by_cases q0 : 0 ≤ z1 ∧ z1 ≤ 7
  case neg =>
    refine ⟨(-1 : Int32), f, g, tl, nn, upd i 9 (zI 0), F, G, R, dd, ss, ?_, ?_, hM, hR.f9, upd_n (by omega), upd_n (by omega)⟩
    · unfold fX9_floors
      rw [c_slot0 N l1 v1 q0, bd1_s, if_pos z00]
    · unfold fX10_floors
      rw [m_slot0 N l1 v1 q0, bd1_s, if_pos z00]
      rfl
  by_cases q1 : 0 ≤ z2 ∧ z2 ≤ 5
  case neg =>
    refine ⟨(-1 : Int32), f, g, tl, nn, upd i 9 (zI 0), F, G, R, dd, ss, ?_, ?_, hM, hR.f9, upd_n (by omega), upd_n (by omega)⟩
    · unfold fX9_floors
      rw [c_slot1 N q0, bd1_s, if_neg z10]
      rcases (show z2 < 0 ∨ 5 < z2 by omega) with w | w
      · rw [if_pos (i_lt (b := 0) (by decide) (by omega))]
      · rw [if_neg (i_nlt (b := 0) (by decide) (by omega)), if_pos (i_gt (b := 5) (by decide) (by omega))]
    · unfold fX10_floors
      rw [m_slot1 N q0, bd1_s, if_neg z10]
      rw [m_in0 N (lo := 0) (hi := 5) (by decide) (by decide) l2 v2 (by omega) q1, bd1_s, if_pos z00]
      rfl
  by_cases q2 : 0 ≤ z3 ∧ z3 ≤ 7
  case neg =>
    refine ⟨(-1 : Int32), f, g, tl, nn, upd i 9 (zI 0), F, G, R, dd, ss, ?_, ?_, hM, hR.f9, upd_n (by omega), upd_n (by omega)⟩
    · unfold fX9_floors
      rw [c_slot1 N q0, bd1_s, if_neg z10]
      rw [if_neg (i_nlt (b := 0) (by decide) (by omega)), if_neg (i_ngt (b := 5) (by decide) (by omega))]
      rw [c_slot0 N l3 v3 q2, bd1_s, if_pos z00]
    · unfold fX10_floors
      rw [m_slot1 N q0, bd1_s, if_neg z10]
      rw [m_in1 N (lo := 0) (hi := 5) (by decide) (by decide) (by omega) q1, bd1_s, if_neg z10]
      rw [m_slot0 N l3 v3 q2, bd1_s, if_pos z00]
      rfl
  unfold fX9_floors fX10_floors
  rw [c_slot1 N q0, bd1_s, if_neg z10]
  rw [if_neg (i_nlt (b := 0) (by decide) (by omega)), if_neg (i_ngt (b := 5) (by decide) (by omega))]
  rw [c_slot1 N q2, bd1_s, if_neg z10]
  rw [m_slot1 N q0, bd1_s, if_neg z10]
  rw [m_in1 N (lo := 0) (hi := 5) (by decide) (by decide) (by omega) q1, bd1_s, if_neg z10]
  rw [m_slot1 N q2, bd1_s, if_neg z10]
  obtain ⟨k1, hk1, rfl⟩ := slot_of q0
  obtain ⟨k3, hk3, rfl⟩ := slot_of q2
  obtain ⟨f1, f2, f3, f4, f5, f6⟩ := hM k1 hk1
  have b1 := fd_b (w := z2) f5
  have b2 := fs_b (w := z2) f6
  obtain ⟨i', v1, v2, v3, v4⟩ := e_fl90 N (by omega) (i := upd i 9 (zI 0)) (F := F) (G := G) (j := j) (R := R) hk3 (x := dd k1) (t := sp_fs z2 (ss k1)) (w := z2) (A := dd k1 * 86400 + ss k1) f5 b2 q1
  have key : (bd1 (fX10_instantOf N (zI k1) (upd i 9 0) j F G) fun r32 => gi (zI k1) 8 (nm (F (zI k1).toNatClampNeg) fun z35 => (if zI z2 = (0 : Int32) then (gi (zI k1) 8 (fX10_floors_j90 N j (zI z2) (zI k3) r32 z35 (((G (zI k1).toNatClampNeg) / (60 : Int32)) * (60 : Int32)) (upd i 9 0) F G R)) else (if zI z2 = (1 : Int32) then (gi (zI k1) 8 (fX10_floors_j90 N j (zI z2) (zI k3) r32 z35 (((G (zI k1).toNatClampNeg) / (3600 : Int32)) * (3600 : Int32)) (upd i 9 0) F G R)) else (fX10_floors_j90 N j (zI z2) (zI k3) r32 z35 (0 : Int32) (upd i 9 0) F G R))))) = fX10_floors_j90 N j (zI z2) (zI k3) (zL (dd k1 * 86400 + ss k1)) (zI (dd k1)) (zI (sp_fs z2 (ss k1))) (upd i 9 (zI 0)) F G R := by
    rw [e_instantOf_m N hk1 _ F G j f3 f4 f5 f6, bd1_s, gi_z (by omega) (by omega) (by omega), nm_s, zI_cl (by omega) (by omega), tn1, f3, f4, gi_z (by omega) (by omega) (by omega)]
    have m1 : ss k1 / 60 * 60 = ss k1 - ss k1 % 60 := by omega
    have m2 : ss k1 / 3600 * 3600 = ss k1 - ss k1 % 3600 := by omega
    unfold sp_fs
    rcases (show z2 = 0 ∨ z2 = 1 ∨ (z2 ≠ 0 ∧ z2 ≠ 1) by omega) with rfl | rfl | ⟨n0, n1⟩
    · simp (disch := omega) only [zl_m2147483648, zl_m2000000000, zl_m99999, zl_m10000, zl_m21, zl_m9, zl_m5, zl_m2, zl_m1, zl_0, zl_1, zl_2, zl_3, zl_4, zl_5, zl_6, zl_7, zl_8, zl_9, zl_10, zl_11, zl_12, zl_13, zl_14, zl_15, zl_16, zl_17, zl_18, zl_19, zl_23, zl_24, zl_28, zl_29, zl_30, zl_31, zl_45, zl_48, zl_52, zl_57, zl_58, zl_59, zl_60, zl_84, zl_90, zl_100, zl_101, zl_102, zl_103, zl_104, zl_105, zl_106, zl_107, zl_108, zl_109, zl_110, zl_111, zl_112, zl_113, zl_114, zl_115, zl_116, zl_117, zl_118, zl_119, zl_120, zl_121, zl_127, zl_151, zl_153, zl_181, zl_212, zl_243, zl_255, zl_273, zl_304, zl_306, zl_334, zl_365, zl_400, zl_1000, zl_1023, zl_1100, zl_1460, zl_3600, zl_9999, zl_10000, zl_30000, zl_36524, zl_86399, zl_86400, zl_99999, zl_119999, zl_146096, zl_146097, zl_730119, zl_876215, zl_876216, zl_1000000, zl_3652058, zll_m9223372036854775808, zll_m1000000000, zll_m1000009, zll_m1000002, zll_m10000, zll_m5, zll_m2, zll_m1, zll_0, zll_1, zll_2, zll_3, zll_5, zll_6, zll_7, zll_12, zll_100, zll_255, zll_400, zll_1000, zll_9999, zll_10000, zll_86399, zll_86400, zll_120000, zll_146097, zll_2629746, zll_3652058, zll_1000000000, zll_9218868437227405312, zll_9221120237041090560, nm, bd1_s, bd2_s, bd3_s, bd4_s, bd5_s, bd6_s, if01, gz_1, gz_0, gz_if, cz_lt, cz_le, cz_gt, cz_ge, cz_eq, zI_add, zI_sub, zI_mul, zI_neg, zL_add, zL_sub, zL_mul, zL_neg, zI_lt, zI_le, zI_eq, zL_lt, zL_le, zL_eq, zI_toL, zL_toI, zI_div, zL_div, zI_cl, gi_z, mod_fold, upd_s, upd_n, updL_s, updL_n, ↓reduceIte, Int.reduceLT, Int.reduceLE, Int.reduceEq, Int.reduceAdd, Int.reduceSub, Int.reduceMul, Int.reduceNeg, Int.reduceToNat, eq_self, not_true_eq_false, not_false_eq_true, true_and, false_and, and_true, and_false, true_or, false_or, or_true, or_false, m1]
    · simp (disch := omega) only [zl_m2147483648, zl_m2000000000, zl_m99999, zl_m10000, zl_m21, zl_m9, zl_m5, zl_m2, zl_m1, zl_0, zl_1, zl_2, zl_3, zl_4, zl_5, zl_6, zl_7, zl_8, zl_9, zl_10, zl_11, zl_12, zl_13, zl_14, zl_15, zl_16, zl_17, zl_18, zl_19, zl_23, zl_24, zl_28, zl_29, zl_30, zl_31, zl_45, zl_48, zl_52, zl_57, zl_58, zl_59, zl_60, zl_84, zl_90, zl_100, zl_101, zl_102, zl_103, zl_104, zl_105, zl_106, zl_107, zl_108, zl_109, zl_110, zl_111, zl_112, zl_113, zl_114, zl_115, zl_116, zl_117, zl_118, zl_119, zl_120, zl_121, zl_127, zl_151, zl_153, zl_181, zl_212, zl_243, zl_255, zl_273, zl_304, zl_306, zl_334, zl_365, zl_400, zl_1000, zl_1023, zl_1100, zl_1460, zl_3600, zl_9999, zl_10000, zl_30000, zl_36524, zl_86399, zl_86400, zl_99999, zl_119999, zl_146096, zl_146097, zl_730119, zl_876215, zl_876216, zl_1000000, zl_3652058, zll_m9223372036854775808, zll_m1000000000, zll_m1000009, zll_m1000002, zll_m10000, zll_m5, zll_m2, zll_m1, zll_0, zll_1, zll_2, zll_3, zll_5, zll_6, zll_7, zll_12, zll_100, zll_255, zll_400, zll_1000, zll_9999, zll_10000, zll_86399, zll_86400, zll_120000, zll_146097, zll_2629746, zll_3652058, zll_1000000000, zll_9218868437227405312, zll_9221120237041090560, nm, bd1_s, bd2_s, bd3_s, bd4_s, bd5_s, bd6_s, if01, gz_1, gz_0, gz_if, cz_lt, cz_le, cz_gt, cz_ge, cz_eq, zI_add, zI_sub, zI_mul, zI_neg, zL_add, zL_sub, zL_mul, zL_neg, zI_lt, zI_le, zI_eq, zL_lt, zL_le, zL_eq, zI_toL, zL_toI, zI_div, zL_div, zI_cl, gi_z, mod_fold, upd_s, upd_n, updL_s, updL_n, ↓reduceIte, Int.reduceLT, Int.reduceLE, Int.reduceEq, Int.reduceAdd, Int.reduceSub, Int.reduceMul, Int.reduceNeg, Int.reduceToNat, eq_self, not_true_eq_false, not_false_eq_true, true_and, false_and, and_true, and_false, true_or, false_or, or_true, or_false, m2]
    · simp (disch := omega) only [zl_m2147483648, zl_m2000000000, zl_m99999, zl_m10000, zl_m21, zl_m9, zl_m5, zl_m2, zl_m1, zl_0, zl_1, zl_2, zl_3, zl_4, zl_5, zl_6, zl_7, zl_8, zl_9, zl_10, zl_11, zl_12, zl_13, zl_14, zl_15, zl_16, zl_17, zl_18, zl_19, zl_23, zl_24, zl_28, zl_29, zl_30, zl_31, zl_45, zl_48, zl_52, zl_57, zl_58, zl_59, zl_60, zl_84, zl_90, zl_100, zl_101, zl_102, zl_103, zl_104, zl_105, zl_106, zl_107, zl_108, zl_109, zl_110, zl_111, zl_112, zl_113, zl_114, zl_115, zl_116, zl_117, zl_118, zl_119, zl_120, zl_121, zl_127, zl_151, zl_153, zl_181, zl_212, zl_243, zl_255, zl_273, zl_304, zl_306, zl_334, zl_365, zl_400, zl_1000, zl_1023, zl_1100, zl_1460, zl_3600, zl_9999, zl_10000, zl_30000, zl_36524, zl_86399, zl_86400, zl_99999, zl_119999, zl_146096, zl_146097, zl_730119, zl_876215, zl_876216, zl_1000000, zl_3652058, zll_m9223372036854775808, zll_m1000000000, zll_m1000009, zll_m1000002, zll_m10000, zll_m5, zll_m2, zll_m1, zll_0, zll_1, zll_2, zll_3, zll_5, zll_6, zll_7, zll_12, zll_100, zll_255, zll_400, zll_1000, zll_9999, zll_10000, zll_86399, zll_86400, zll_120000, zll_146097, zll_2629746, zll_3652058, zll_1000000000, zll_9218868437227405312, zll_9221120237041090560, nm, bd1_s, bd2_s, bd3_s, bd4_s, bd5_s, bd6_s, if01, gz_1, gz_0, gz_if, cz_lt, cz_le, cz_gt, cz_ge, cz_eq, zI_add, zI_sub, zI_mul, zI_neg, zL_add, zL_sub, zL_mul, zL_neg, zI_lt, zI_le, zI_eq, zL_lt, zL_le, zL_eq, zI_toL, zL_toI, zI_div, zL_div, zI_cl, gi_z, mod_fold, upd_s, upd_n, updL_s, updL_n, ↓reduceIte, Int.reduceLT, Int.reduceLE, Int.reduceEq, Int.reduceAdd, Int.reduceSub, Int.reduceMul, Int.reduceNeg, Int.reduceToNat, eq_self, not_true_eq_false, not_false_eq_true, true_and, false_and, and_true, and_false, true_or, false_or, or_true, or_false, n0, n1]
  rw [key, v1]
  rw [e_instantAt N f g hk1 f1 f2 (by omega) (by omega), bd1_s, e_dayAt N f hk1, bd1_s, e_secondAt N g hk1, bd1_s, f1, f2, e_floorOf N f5 f6 q1, bd1_s, e_putInstant N f g hk3 b1 b2, bd2_s, e_secondAt N _ hk3, bd1_s, upd_s, e_tell2, bd2_s, e_dayAt N _ hk3, bd1_s, upd_s, zI_toL (by omega) (by omega), zL_sub]
  exact ⟨_, _, _, _, _, _, _, _, _, zup dd k3 (sp_fd z2 (dd k1)), zup ss k3 (sp_fs z2 (ss k1)), rfl, rfl, hM.up b1 b2, RelR.mk2 v4 _ _, by rw [v2]; simp (disch := omega) only [upd_n], by rw [v3]; simp (disch := omega) only [upd_n]⟩
theorem part_key {A B k n : Int} (h1 : 0 ≤ A ∧ A ≤ 315537897599) (h2 : 0 ≤ B ∧ B ≤ 315537897599) (hk : 0 ≤ k ∧ k ≤ n) (hn : 1 ≤ n ∧ n ≤ 1000) : (-315537897599000 ≤ (B - A) * k ∧ (B - A) * k ≤ 315537897599000) ∧ 0 ≤ A + ((B - A) * k).tdiv n ∧ A + ((B - A) * k).tdiv n ≤ 315537897599 := by
  by_cases hs : A ≤ B
  · have e1 : 0 ≤ (B - A) * k := Int.mul_nonneg (by omega) (by omega)
    have e2 : (B - A) * k ≤ (B - A) * n := Int.mul_le_mul_of_nonneg_left (by omega) (by omega)
    have e3 : (B - A) * n ≤ (B - A) * 1000 := Int.mul_le_mul_of_nonneg_left (by omega) (by omega)
    have e4 : (B - A) * k / n ≤ B - A := Int.ediv_le_of_le_mul (by omega) e2
    have e5 : 0 ≤ (B - A) * k / n := Int.ediv_nonneg e1 (by omega)
    rw [tdiv_pos e1]
    omega
  · have e0 : (B - A) * k = -((A - B) * k) := by rw [← Int.neg_mul]; congr 1; omega
    have e1 : 0 ≤ (A - B) * k := Int.mul_nonneg (by omega) (by omega)
    have e2 : (A - B) * k ≤ (A - B) * n := Int.mul_le_mul_of_nonneg_left (by omega) (by omega)
    have e3 : (A - B) * n ≤ (A - B) * 1000 := Int.mul_le_mul_of_nonneg_left (by omega) (by omega)
    have e4 : (A - B) * k / n ≤ A - B := Int.ediv_le_of_le_mul (by omega) e2
    have e5 : 0 ≤ (A - B) * k / n := Int.ediv_nonneg e1 (by omega)
    rw [e0, tdiv_neg (by omega), Int.neg_neg]
    omega
theorem gnl_z {β : Type} {b : Int} {x : Option β} (h1 : 0 < b) (h2 : b ≤ 9223372036854775807) : gnl (zL b) x = x := by
  unfold gnl
  rw [if_neg]
  rw [show (0 : Int64) = zL 0 by decide, zL_eq (by omega) (by omega) (by omega) (by omega)]
  omega
theorem p_part (N : Nat) (hN : 200000 ≤ N) (p1 : Int32) (p2 : Int32) (p3 : Int32) (p4 : Int32) (p5 : Int32) {ks : Int32} {f : Nat → Int32} {g : Nat → Int32} {tl : Int32} {nn : Nat → Int64} {i : Nat → Int32} {j : Nat → Int64} {F : Nat → Int32} {G : Nat → Int32} {R : Nat → Int64} {dd ss : Nat → Int} (hM : RelM dd ss f g F G) (hR : RelR tl nn i R) : 
    ∃ (r : Int32) (f' : Nat → Int32) (g' : Nat → Int32) (tl' : Int32) (nn' : Nat → Int64) (i' : Nat → Int32) (F' : Nat → Int32) (G' : Nat → Int32) (R' : Nat → Int64) (dd' : Nat → Int) (ss' : Nat → Int), fX9_part N p1 p2 p3 p4 p5 ks f g tl nn = some (r, f', g', tl', nn') ∧ fX10_part N p1 p2 p3 p4 p5 i j F G R = some (r, i', F', G', R') ∧ RelM dd' ss' f' g' F' G' ∧ RelR tl' nn' i' R' ∧ i' 4 = i 4 ∧ i' 6 = i 6 := by
  obtain ⟨z1, l1, v1, rfl⟩ := zI_of p1
  obtain ⟨z2, l2, v2, rfl⟩ := zI_of p2
  obtain ⟨z3, l3, v3, rfl⟩ := zI_of p3
  obtain ⟨z4, l4, v4, rfl⟩ := zI_of p4
  obtain ⟨z5, l5, v5, rfl⟩ := zI_of p5
  by_cases q0 : 0 ≤ z1 ∧ z1 ≤ 7
  case neg =>
    refine ⟨(-1 : Int32), f, g, tl, nn, upd i 9 (zI 0), F, G, R, dd, ss, ?_, ?_, hM, hR.f9, upd_n (by omega), upd_n (by omega)⟩
    · unfold fX9_part
      rw [c_slot0 N l1 v1 q0, bd1_s, if_pos z00]
    · unfold fX10_part
      rw [m_slot0 N l1 v1 q0, bd1_s, if_pos z00]
      rfl
  by_cases q1 : 0 ≤ z2 ∧ z2 ≤ 7
  case neg =>
    refine ⟨(-1 : Int32), f, g, tl, nn, upd i 9 (zI 0), F, G, R, dd, ss, ?_, ?_, hM, hR.f9, upd_n (by omega), upd_n (by omega)⟩
    · unfold fX9_part
      rw [c_slot1 N q0, bd1_s, if_neg z10]
      rw [c_slot0 N l2 v2 q1, bd1_s, if_pos z00]
    · unfold fX10_part
      rw [m_slot1 N q0, bd1_s, if_neg z10]
      rw [m_slot0 N l2 v2 q1, bd1_s, if_pos z00]
      rfl
  unfold fX9_part fX10_part
  rw [c_slot1 N q0, bd1_s, if_neg z10]
  rw [c_slot1 N q1, bd1_s, if_neg z10]
  rw [m_slot1 N q0, bd1_s, if_neg z10]
  rw [m_slot1 N q1, bd1_s, if_neg z10]
  obtain ⟨k1, hk1, rfl⟩ := slot_of q0
  obtain ⟨k2, hk2, rfl⟩ := slot_of q1
  by_cases qn : 1 ≤ z4 ∧ z4 ≤ 1000
  case neg =>
    refine ⟨(-1 : Int32), f, g, tl, nn, upd i 9 (zI 0), F, G, R, dd, ss, ?_, ?_, hM, hR.f9, by simp (disch := omega) only [upd_n], by simp (disch := omega) only [upd_n]⟩
    · rcases (show z4 < 1 ∨ 1000 < z4 by omega) with w | w
      · rw [if_pos (i_lt (b := 1) (by decide) (by omega))]
      · rw [if_neg (i_nlt (b := 1) (by decide) (by omega)), if_pos (i_gt (b := 1000) (by decide) (by omega))]
    · rw [m_in0 N (lo := 1) (hi := 1000) (by decide) (by decide) l4 v4 (by omega) qn, bd1_s, if_pos z00]
      rfl
  rw [if_neg (i_nlt (b := 1) (by decide) (by omega)), if_neg (i_ngt (b := 1000) (by decide) (by omega)), m_in1 N (lo := 1) (hi := 1000) (by decide) (by decide) (by omega) qn, bd1_s, if_neg z10]
  by_cases qk : 0 ≤ z3 ∧ z3 ≤ z4
  case neg =>
    refine ⟨(-1 : Int32), f, g, tl, nn, upd i 9 (zI 0), F, G, R, dd, ss, ?_, ?_, hM, hR.f9, by simp (disch := omega) only [upd_n], by simp (disch := omega) only [upd_n]⟩
    · rcases (show z3 < 0 ∨ z4 < z3 by omega) with w | w
      · rw [if_pos (i_lt (b := 0) (by decide) (by omega))]
      · rw [if_neg (i_nlt (b := 0) (by decide) (by omega)), if_pos (i_gt rfl (by omega))]
    · rw [m_in0 N (lo := 0) (hi := z4) (by decide) (zI_toL l4 v4) l3 v3 (by omega) qk, bd1_s, if_pos z00]
      rfl
  rw [if_neg (i_nlt (b := 0) (by decide) (by omega)), if_neg (i_ngt rfl (by omega)), m_in1 N (lo := 0) (hi := z4) (by decide) (zI_toL l4 v4) (by omega) qk, bd1_s, if_neg z10]
  by_cases q5 : 0 ≤ z5 ∧ z5 ≤ 7
  case neg =>
    refine ⟨(-1 : Int32), f, g, tl, nn, upd i 9 (zI 0), F, G, R, dd, ss, ?_, ?_, hM, hR.f9, by simp (disch := omega) only [upd_n], by simp (disch := omega) only [upd_n]⟩
    · rw [c_slot0 N l5 v5 q5, bd1_s, if_pos z00]
    · rw [m_slot0 N l5 v5 q5, bd1_s, if_pos z00]
      rfl
  rw [c_slot1 N q5, bd1_s, if_neg z10, m_slot1 N q5, bd1_s, if_neg z10]
  obtain ⟨k5, hk5, rfl⟩ := slot_of q5
  obtain ⟨f1, f2, f3, f4, f5, f6⟩ := hM k1 hk1
  obtain ⟨a1, a2, a3, a4, a5, a6⟩ := hM k2 hk2
  have pk := part_key (A := dd k1 * 86400 + ss k1) (B := dd k2 * 86400 + ss k2) (by omega) (by omega) qk qn
  rw [e_instantAt N f g hk1 f1 f2 (by omega) (by omega), e_instantAt N f g hk2 a1 a2 (by omega) (by omega)]
  rw [e_instantOf_m N hk1 _ F G j f3 f4 f5 f6, e_instantOf_m N hk2 _ F G j a3 a4 a5 a6]
  rw [zI_toL l3 v3, zI_toL l4 v4]
  obtain ⟨A, hA⟩ : ∃ A, A = dd k1 * 86400 + ss k1 := ⟨_, rfl⟩
  obtain ⟨B, hB⟩ : ∃ B, B = dd k2 * 86400 + ss k2 := ⟨_, rfl⟩
  rw [← hA, ← hB] at pk ⊢
  obtain ⟨Q, hQ⟩ : ∃ Q, Q = ((B - A) * z3).tdiv z4 := ⟨_, rfl⟩
  have dv : (zL B - zL A) * zL z3 / zL z4 = zL Q := by
    rw [zL_sub, zL_mul, zL_tdiv (by omega) (by omega) (by omega) (by omega), hQ]
  rw [← hQ] at pk
  simp only [bd1_s]
  rw [gnl_z (by omega) (by omega), gnl_z (by omega) (by omega), dv, nm_s, nm_s, zL_add]
  have e1 : A + Q = (A + Q) / 86400 * 86400 + (A + Q) % 86400 := by omega
  have b1 : 0 ≤ (A + Q) / 86400 ∧ (A + Q) / 86400 ≤ 3652058 := by omega
  have b2 : 0 ≤ (A + Q) % 86400 ∧ (A + Q) % 86400 ≤ 86399 := by omega
  have pI : fX4_putInstant N (zI k5) (zL (A + Q)) f g = some (upd f k5 (zI ((A + Q) / 86400)), upd g k5 (zI ((A + Q) % 86400))) := by
    have := e_putInstant N f g hk5 b1 b2
    rw [← e1] at this
    exact this
  rw [pI, bd2_s, e_secondAt N _ hk5, bd1_s, upd_s, e_tell1, bd2_s, e_dayAt N _ hk5, bd1_s, upd_s]
  simp (disch := omega) only [zl_m2147483648, zl_m2000000000, zl_m99999, zl_m10000, zl_m21, zl_m9, zl_m5, zl_m2, zl_m1, zl_0, zl_1, zl_2, zl_3, zl_4, zl_5, zl_6, zl_7, zl_8, zl_9, zl_10, zl_11, zl_12, zl_13, zl_14, zl_15, zl_16, zl_17, zl_18, zl_19, zl_23, zl_24, zl_28, zl_29, zl_30, zl_31, zl_45, zl_48, zl_52, zl_57, zl_58, zl_59, zl_60, zl_84, zl_90, zl_100, zl_101, zl_102, zl_103, zl_104, zl_105, zl_106, zl_107, zl_108, zl_109, zl_110, zl_111, zl_112, zl_113, zl_114, zl_115, zl_116, zl_117, zl_118, zl_119, zl_120, zl_121, zl_127, zl_151, zl_153, zl_181, zl_212, zl_243, zl_255, zl_273, zl_304, zl_306, zl_334, zl_365, zl_400, zl_1000, zl_1023, zl_1100, zl_1460, zl_3600, zl_9999, zl_10000, zl_30000, zl_36524, zl_86399, zl_86400, zl_99999, zl_119999, zl_146096, zl_146097, zl_730119, zl_876215, zl_876216, zl_1000000, zl_3652058, zll_m9223372036854775808, zll_m1000000000, zll_m1000009, zll_m1000002, zll_m10000, zll_m5, zll_m2, zll_m1, zll_0, zll_1, zll_2, zll_3, zll_5, zll_6, zll_7, zll_12, zll_100, zll_255, zll_400, zll_1000, zll_9999, zll_10000, zll_86399, zll_86400, zll_120000, zll_146097, zll_2629746, zll_3652058, zll_1000000000, zll_9218868437227405312, zll_9221120237041090560, nm, bd1_s, bd2_s, bd3_s, bd4_s, bd5_s, bd6_s, if01, gz_1, gz_0, gz_if, cz_lt, cz_le, cz_gt, cz_ge, cz_eq, zI_add, zI_sub, zI_mul, zI_neg, zL_add, zL_sub, zL_mul, zL_neg, zI_lt, zI_le, zI_eq, zL_lt, zL_le, zL_eq, zI_toL, zL_toI, zI_div, zL_div, zI_cl, gi_z, mod_fold, upd_s, upd_n, updL_s, updL_n, ↓reduceIte, Int.reduceLT, Int.reduceLE, Int.reduceEq, Int.reduceAdd, Int.reduceSub, Int.reduceMul, Int.reduceNeg, Int.reduceToNat, eq_self, not_true_eq_false, not_false_eq_true, true_and, false_and, and_true, and_false, true_or, false_or, or_true, or_false, e_stands, e_comesTo, e_tellB]
  exact ⟨_, _, _, _, _, _, _, _, _, zup dd k5 ((A + Q) / 86400), zup ss k5 ((A + Q) % 86400), rfl, rfl, hM.up b1 b2, RelR.mk1 upd_s _, by simp (disch := omega) only [upd_n], by simp (disch := omega) only [upd_n]⟩
