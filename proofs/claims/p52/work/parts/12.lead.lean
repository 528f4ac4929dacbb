/-! months by their numbers -/
def sp_gl (g : Int) : Int := sp_mlen (g / 12) (g % 12 + 1)
def sp_mi (x : Int) : Int := 12 * sp_Y x + sp_M x - 1
theorem gl_b (g : Int) : 28 ≤ sp_gl g ∧ sp_gl g ≤ 31 := mlen_b _ _
theorem am_1 (y : Int) : sp_am y 1 = 0 := by unfold sp_am sp_ahead; simp
theorem first_step (g : Int) : sp_first (g + 1) = sp_first g + sp_gl g := by
  unfold sp_first sp_gl
  rw [sp_dn_am, sp_dn_am]
  by_cases h : g % 12 = 11
  · have e1 : (g + 1) / 12 = g / 12 + 1 := by omega
    have e2 : (g + 1) % 12 + 1 = 1 := by omega
    have e3 : g % 12 + 1 = 12 := by omega
    have a := am_end (g / 12)
    have b : sp_mlen (g / 12) 12 = 31 := by unfold sp_mlen; simp
    rw [e1, e2, e3, am_1, b]
    omega
  · have e1 : (g + 1) / 12 = g / 12 := by omega
    have e2 : (g + 1) % 12 + 1 = g % 12 + 1 + 1 := by omega
    have a := am_step (y := g / 12) (m := g % 12 + 1) (by omega) (by omega)
    rw [e1, e2, a]
    omega
theorem first_mono (g : Int) : ∀ n : Nat, sp_first g + 28 * n ≤ sp_first (g + n)
  | 0 => by simp
  | n + 1 => by
    have h := first_mono g n
    have h2 := first_step (g + n)
    have h3 := gl_b (g + n)
    have e : g + ((n + 1 : Nat) : Int) = g + n + 1 := by omega
    rw [e]
    omega
theorem first_le {a b : Int} (h : a ≤ b) : sp_first a + 28 * (b - a) ≤ sp_first b := by
  have h2 := first_mono a (b - a).toNat
  have e : a + ((b - a).toNat : Int) = b := by omega
  rw [e] at h2
  omega
theorem first_12 : sp_first 12 = 0 := by decide
theorem first_top : sp_first 120000 = 3652059 := by decide
theorem first_b {g : Int} (h1 : 12 ≤ g) (h2 : g ≤ 120000) : 0 ≤ sp_first g ∧ sp_first g ≤ 3652059 := by
  have a := first_le h1
  have b := first_le h2
  rw [first_12] at a
  rw [first_top] at b
  omega
theorem mi_all {x : Int} (h1 : 0 ≤ x) (h2 : x ≤ 3652058) : (12 ≤ sp_mi x ∧ sp_mi x ≤ 119999) ∧ sp_first (sp_mi x) = x - sp_D x + 1 ∧ sp_gl (sp_mi x) = sp_mlen (sp_Y x) (sp_M x) ∧ 1 ≤ sp_D x ∧ sp_D x ≤ sp_gl (sp_mi x) := by
  obtain ⟨g4, g5, g6, g7⟩ := sp_all h1 h2
  have e1 : sp_mi x / 12 = sp_Y x := by unfold sp_mi; omega
  have e2 : sp_mi x % 12 + 1 = sp_M x := by unfold sp_mi; omega
  have e3 : sp_gl (sp_mi x) = sp_mlen (sp_Y x) (sp_M x) := by unfold sp_gl; rw [e1, e2]
  refine ⟨by unfold sp_mi; omega, ?_, e3, g6.1, by rw [e3]; exact g6.2⟩
  unfold sp_first
  rw [e1, e2]
  unfold sp_dn at g7 ⊢
  omega
theorem mi_uniq {x g : Int} (h1 : 0 ≤ x) (h2 : x ≤ 3652058) (h3 : sp_first g ≤ x) (h4 : x < sp_first g + sp_gl g) : g = sp_mi x := by
  obtain ⟨a1, a2, a3, a4, a5⟩ := mi_all h1 h2
  have b1 := first_step g
  have b2 := first_step (sp_mi x)
  by_cases c1 : g < sp_mi x
  · have := first_le (a := g + 1) (b := sp_mi x) (by omega); omega
  · by_cases c2 : sp_mi x < g
    · have := first_le (a := sp_mi x + 1) (b := g) (by omega); omega
    · omega
/-! months added, by a law -/
def sp_sh (x g : Int) : Int := if sp_gl g < sp_D x then sp_D x - sp_gl g else 0
def sp_dd (law x g : Int) : Int := if (law = 2 ∧ sp_D x = sp_gl (sp_mi x)) ∨ (sp_gl g < sp_D x ∧ law ≠ 1) then sp_gl g else sp_D x
def sp_addM (m law x : Int) : Option (Int × Int) :=
  if m = 0 then some (x, 0)
  else if sp_mi x + m < 12 ∨ 119999 < sp_mi x + m then none
  else if sp_gl (sp_mi x + m) < sp_D x ∧ law = 3 then none
  else if 0 ≤ sp_first (sp_mi x + m) + sp_dd law x (sp_mi x + m) - 1 ∧ sp_first (sp_mi x + m) + sp_dd law x (sp_mi x + m) - 1 ≤ 3652058 then some (sp_first (sp_mi x + m) + sp_dd law x (sp_mi x + m) - 1, sp_sh x (sp_mi x + m))
  else none
def AdC (m g : Int) (a : Nat → Int32) : Prop := a 5 = zI (sp_gl g) ∧ ((g + m < 12 ∨ 119999 < g + m) ∧ a 7 = zI 0 ∨ (12 ≤ g + m ∧ g + m ≤ 119999) ∧ a 6 = zI (sp_first (g + m)) ∧ a 7 = zI (sp_gl (g + m)))
def AdW (a : Nat → Int32) : Prop := ∃ F : Int, a 4 = zI F ∧ 0 ≤ F ∧ F ≤ 3652058
def AdOK (m d s law : Int) (a : Nat → Int32) : Prop := a 0 = zI m ∧ a 1 = zI d ∧ a 2 = zI s ∧ a 3 = zI law ∧ ∃ F : Int, a 4 = zI F ∧ (0 ≤ F ∧ F ≤ 3652058) ∧ (a 5 = zI 0 ∨ ∃ g : Int, (12 ≤ g ∧ g ≤ 119999) ∧ F = sp_first g ∧ AdC m g a)
theorem AdOK.w {m d s law : Int} {a : Nat → Int32} (h : AdOK m d s law a) : AdW a := by
  obtain ⟨-, -, -, -, F, h1, h2, -⟩ := h
  exact ⟨F, h1, h2⟩
theorem AdW.takes {a : Nat → Int32} (h : AdW a) (m d s law : Int) : AdOK m d s law (upd (upd (upd (upd (upd a 0 (zI m)) 1 (zI d)) 2 (zI s)) 3 (zI law)) 5 (zI 0)) := by
  obtain ⟨F, h1, h2⟩ := h
  refine ⟨rfl, rfl, rfl, rfl, F, ?_, h2, Or.inl rfl⟩
  simp (disch := omega) only [zl_m2000000000, zl_m99999, zl_m10000, zl_m21, zl_m9, zl_m5, zl_m2, zl_m1, zl_0, zl_1, zl_2, zl_3, zl_4, zl_5, zl_6, zl_7, zl_8, zl_9, zl_10, zl_11, zl_12, zl_13, zl_14, zl_15, zl_16, zl_17, zl_18, zl_19, zl_23, zl_24, zl_28, zl_29, zl_30, zl_31, zl_45, zl_48, zl_57, zl_58, zl_59, zl_60, zl_84, zl_100, zl_101, zl_102, zl_103, zl_104, zl_105, zl_106, zl_107, zl_108, zl_109, zl_110, zl_111, zl_112, zl_113, zl_114, zl_115, zl_116, zl_117, zl_118, zl_119, zl_120, zl_121, zl_153, zl_255, zl_306, zl_365, zl_400, zl_1000, zl_1460, zl_3600, zl_9999, zl_10000, zl_30000, zl_36524, zl_86399, zl_86400, zl_99999, zl_119999, zl_146096, zl_146097, zl_1000000, zl_3652058, zll_m1000000000, zll_m1000009, zll_m1000002, zll_m2, zll_m1, zll_0, zll_1, zll_86400, zll_2629746, zll_1000000000, nm, bd1_s, bd2_s, bd3_s, bd4_s, bd5_s, bd6_s, if01, gz_1, gz_0, gz_if, cz_lt, cz_le, cz_gt, cz_ge, cz_eq, zI_add, zI_sub, zI_mul, zI_neg, zL_add, zL_sub, zL_mul, zL_neg, zI_lt, zI_le, zI_eq, zL_lt, zL_le, zL_eq, zI_toL, zL_toI, zI_div, zL_div, zI_cl, gi_z, mod_fold, upd_s, upd_n, updL_s, updL_n, ↓reduceIte, Int.reduceLT, Int.reduceLE, Int.reduceEq, Int.reduceAdd, Int.reduceSub, Int.reduceMul, Int.reduceNeg, Int.reduceToNat, eq_self, not_true_eq_false, not_false_eq_true, true_and, false_and, and_true, and_false, true_or, false_or, or_true, or_false, h1]
theorem e_lookUp (N : Nat) {a : Nat → Int32} {m x : Int} (h0 : a 0 = zI m) (hm : sp_b1 m) (h8 : a 8 = zI x) (h1 : 0 ≤ x) (h2 : x ≤ 3652058) : ∃ a', fX0_lookUp N a = some a' ∧ (∀ k, k < 4 ∨ 7 < k → a' k = a k) ∧ a' 4 = zI (sp_first (sp_mi x)) ∧ AdC m (sp_mi x) a' := by
  obtain ⟨a1, a2, a3, a4, a5⟩ := mi_all h1 h2
  have b1 := first_step (sp_mi x)
  have e1 : fX1_monthOf N (zI x) = some (zI (sp_mi x)) := e_monthOf N h1 h2
  unfold fX0_lookUp
  by_cases hr : sp_mi x + m < 12 ∨ 119999 < sp_mi x + m
  · refine ⟨upd (upd (upd a 4 (zI (sp_first (sp_mi x)))) 5 (zI (sp_gl (sp_mi x)))) 7 (zI 0), ?_, ?_, ?_, ?_, Or.inl ⟨hr, rfl⟩⟩
    · simp (disch := omega) only [zl_m2000000000, zl_m99999, zl_m10000, zl_m21, zl_m9, zl_m5, zl_m2, zl_m1, zl_0, zl_1, zl_2, zl_3, zl_4, zl_5, zl_6, zl_7, zl_8, zl_9, zl_10, zl_11, zl_12, zl_13, zl_14, zl_15, zl_16, zl_17, zl_18, zl_19, zl_23, zl_24, zl_28, zl_29, zl_30, zl_31, zl_45, zl_48, zl_57, zl_58, zl_59, zl_60, zl_84, zl_100, zl_101, zl_102, zl_103, zl_104, zl_105, zl_106, zl_107, zl_108, zl_109, zl_110, zl_111, zl_112, zl_113, zl_114, zl_115, zl_116, zl_117, zl_118, zl_119, zl_120, zl_121, zl_153, zl_255, zl_306, zl_365, zl_400, zl_1000, zl_1460, zl_3600, zl_9999, zl_10000, zl_30000, zl_36524, zl_86399, zl_86400, zl_99999, zl_119999, zl_146096, zl_146097, zl_1000000, zl_3652058, zll_m1000000000, zll_m1000009, zll_m1000002, zll_m2, zll_m1, zll_0, zll_1, zll_86400, zll_2629746, zll_1000000000, nm, bd1_s, bd2_s, bd3_s, bd4_s, bd5_s, bd6_s, if01, gz_1, gz_0, gz_if, cz_lt, cz_le, cz_gt, cz_ge, cz_eq, zI_add, zI_sub, zI_mul, zI_neg, zL_add, zL_sub, zL_mul, zL_neg, zI_lt, zI_le, zI_eq, zL_lt, zL_le, zL_eq, zI_toL, zL_toI, zI_div, zL_div, zI_cl, gi_z, mod_fold, upd_s, upd_n, updL_s, updL_n, ↓reduceIte, Int.reduceLT, Int.reduceLE, Int.reduceEq, Int.reduceAdd, Int.reduceSub, Int.reduceMul, Int.reduceNeg, Int.reduceToNat, eq_self, not_true_eq_false, not_false_eq_true, true_and, false_and, and_true, and_false, true_or, false_or, or_true, or_false, h8, e1, e_firstOf, h0, b1]
      rw [show sp_first (sp_mi x) + sp_gl (sp_mi x) - sp_first (sp_mi x) = sp_gl (sp_mi x) by omega]
      by_cases hr2 : sp_mi x + m < 12
      · rw [if_pos hr2]
      · rw [if_neg hr2, if_neg (by omega)]
    · intro k hk
      rw [upd_n (by omega), upd_n (by omega), upd_n (by omega)]
    · simp (disch := omega) only [zl_m2000000000, zl_m99999, zl_m10000, zl_m21, zl_m9, zl_m5, zl_m2, zl_m1, zl_0, zl_1, zl_2, zl_3, zl_4, zl_5, zl_6, zl_7, zl_8, zl_9, zl_10, zl_11, zl_12, zl_13, zl_14, zl_15, zl_16, zl_17, zl_18, zl_19, zl_23, zl_24, zl_28, zl_29, zl_30, zl_31, zl_45, zl_48, zl_57, zl_58, zl_59, zl_60, zl_84, zl_100, zl_101, zl_102, zl_103, zl_104, zl_105, zl_106, zl_107, zl_108, zl_109, zl_110, zl_111, zl_112, zl_113, zl_114, zl_115, zl_116, zl_117, zl_118, zl_119, zl_120, zl_121, zl_153, zl_255, zl_306, zl_365, zl_400, zl_1000, zl_1460, zl_3600, zl_9999, zl_10000, zl_30000, zl_36524, zl_86399, zl_86400, zl_99999, zl_119999, zl_146096, zl_146097, zl_1000000, zl_3652058, zll_m1000000000, zll_m1000009, zll_m1000002, zll_m2, zll_m1, zll_0, zll_1, zll_86400, zll_2629746, zll_1000000000, nm, bd1_s, bd2_s, bd3_s, bd4_s, bd5_s, bd6_s, if01, gz_1, gz_0, gz_if, cz_lt, cz_le, cz_gt, cz_ge, cz_eq, zI_add, zI_sub, zI_mul, zI_neg, zL_add, zL_sub, zL_mul, zL_neg, zI_lt, zI_le, zI_eq, zL_lt, zL_le, zL_eq, zI_toL, zL_toI, zI_div, zL_div, zI_cl, gi_z, mod_fold, upd_s, upd_n, updL_s, updL_n, ↓reduceIte, Int.reduceLT, Int.reduceLE, Int.reduceEq, Int.reduceAdd, Int.reduceSub, Int.reduceMul, Int.reduceNeg, Int.reduceToNat, eq_self, not_true_eq_false, not_false_eq_true, true_and, false_and, and_true, and_false, true_or, false_or, or_true, or_false]
    · simp (disch := omega) only [zl_m2000000000, zl_m99999, zl_m10000, zl_m21, zl_m9, zl_m5, zl_m2, zl_m1, zl_0, zl_1, zl_2, zl_3, zl_4, zl_5, zl_6, zl_7, zl_8, zl_9, zl_10, zl_11, zl_12, zl_13, zl_14, zl_15, zl_16, zl_17, zl_18, zl_19, zl_23, zl_24, zl_28, zl_29, zl_30, zl_31, zl_45, zl_48, zl_57, zl_58, zl_59, zl_60, zl_84, zl_100, zl_101, zl_102, zl_103, zl_104, zl_105, zl_106, zl_107, zl_108, zl_109, zl_110, zl_111, zl_112, zl_113, zl_114, zl_115, zl_116, zl_117, zl_118, zl_119, zl_120, zl_121, zl_153, zl_255, zl_306, zl_365, zl_400, zl_1000, zl_1460, zl_3600, zl_9999, zl_10000, zl_30000, zl_36524, zl_86399, zl_86400, zl_99999, zl_119999, zl_146096, zl_146097, zl_1000000, zl_3652058, zll_m1000000000, zll_m1000009, zll_m1000002, zll_m2, zll_m1, zll_0, zll_1, zll_86400, zll_2629746, zll_1000000000, nm, bd1_s, bd2_s, bd3_s, bd4_s, bd5_s, bd6_s, if01, gz_1, gz_0, gz_if, cz_lt, cz_le, cz_gt, cz_ge, cz_eq, zI_add, zI_sub, zI_mul, zI_neg, zL_add, zL_sub, zL_mul, zL_neg, zI_lt, zI_le, zI_eq, zL_lt, zL_le, zL_eq, zI_toL, zL_toI, zI_div, zL_div, zI_cl, gi_z, mod_fold, upd_s, upd_n, updL_s, updL_n, ↓reduceIte, Int.reduceLT, Int.reduceLE, Int.reduceEq, Int.reduceAdd, Int.reduceSub, Int.reduceMul, Int.reduceNeg, Int.reduceToNat, eq_self, not_true_eq_false, not_false_eq_true, true_and, false_and, and_true, and_false, true_or, false_or, or_true, or_false]
  · have b2 := first_step (sp_mi x + m)
    refine ⟨upd (upd (upd (upd a 4 (zI (sp_first (sp_mi x)))) 5 (zI (sp_gl (sp_mi x)))) 6 (zI (sp_first (sp_mi x + m)))) 7 (zI (sp_gl (sp_mi x + m))), ?_, ?_, ?_, ?_, Or.inr ⟨by omega, ?_, rfl⟩⟩
    · simp (disch := omega) only [zl_m2000000000, zl_m99999, zl_m10000, zl_m21, zl_m9, zl_m5, zl_m2, zl_m1, zl_0, zl_1, zl_2, zl_3, zl_4, zl_5, zl_6, zl_7, zl_8, zl_9, zl_10, zl_11, zl_12, zl_13, zl_14, zl_15, zl_16, zl_17, zl_18, zl_19, zl_23, zl_24, zl_28, zl_29, zl_30, zl_31, zl_45, zl_48, zl_57, zl_58, zl_59, zl_60, zl_84, zl_100, zl_101, zl_102, zl_103, zl_104, zl_105, zl_106, zl_107, zl_108, zl_109, zl_110, zl_111, zl_112, zl_113, zl_114, zl_115, zl_116, zl_117, zl_118, zl_119, zl_120, zl_121, zl_153, zl_255, zl_306, zl_365, zl_400, zl_1000, zl_1460, zl_3600, zl_9999, zl_10000, zl_30000, zl_36524, zl_86399, zl_86400, zl_99999, zl_119999, zl_146096, zl_146097, zl_1000000, zl_3652058, zll_m1000000000, zll_m1000009, zll_m1000002, zll_m2, zll_m1, zll_0, zll_1, zll_86400, zll_2629746, zll_1000000000, nm, bd1_s, bd2_s, bd3_s, bd4_s, bd5_s, bd6_s, if01, gz_1, gz_0, gz_if, cz_lt, cz_le, cz_gt, cz_ge, cz_eq, zI_add, zI_sub, zI_mul, zI_neg, zL_add, zL_sub, zL_mul, zL_neg, zI_lt, zI_le, zI_eq, zL_lt, zL_le, zL_eq, zI_toL, zL_toI, zI_div, zL_div, zI_cl, gi_z, mod_fold, upd_s, upd_n, updL_s, updL_n, ↓reduceIte, Int.reduceLT, Int.reduceLE, Int.reduceEq, Int.reduceAdd, Int.reduceSub, Int.reduceMul, Int.reduceNeg, Int.reduceToNat, eq_self, not_true_eq_false, not_false_eq_true, true_and, false_and, and_true, and_false, true_or, false_or, or_true, or_false, h8, e1, e_firstOf, h0, b1, b2]
      rw [if_neg (by omega), if_pos (by omega)]
      rw [show sp_first (sp_mi x) + sp_gl (sp_mi x) - sp_first (sp_mi x) = sp_gl (sp_mi x) by omega]
      rw [show sp_first (sp_mi x + m) + sp_gl (sp_mi x + m) - sp_first (sp_mi x + m) = sp_gl (sp_mi x + m) by omega]
    · intro k hk
      rw [upd_n (by omega), upd_n (by omega), upd_n (by omega), upd_n (by omega)]
    · simp (disch := omega) only [zl_m2000000000, zl_m99999, zl_m10000, zl_m21, zl_m9, zl_m5, zl_m2, zl_m1, zl_0, zl_1, zl_2, zl_3, zl_4, zl_5, zl_6, zl_7, zl_8, zl_9, zl_10, zl_11, zl_12, zl_13, zl_14, zl_15, zl_16, zl_17, zl_18, zl_19, zl_23, zl_24, zl_28, zl_29, zl_30, zl_31, zl_45, zl_48, zl_57, zl_58, zl_59, zl_60, zl_84, zl_100, zl_101, zl_102, zl_103, zl_104, zl_105, zl_106, zl_107, zl_108, zl_109, zl_110, zl_111, zl_112, zl_113, zl_114, zl_115, zl_116, zl_117, zl_118, zl_119, zl_120, zl_121, zl_153, zl_255, zl_306, zl_365, zl_400, zl_1000, zl_1460, zl_3600, zl_9999, zl_10000, zl_30000, zl_36524, zl_86399, zl_86400, zl_99999, zl_119999, zl_146096, zl_146097, zl_1000000, zl_3652058, zll_m1000000000, zll_m1000009, zll_m1000002, zll_m2, zll_m1, zll_0, zll_1, zll_86400, zll_2629746, zll_1000000000, nm, bd1_s, bd2_s, bd3_s, bd4_s, bd5_s, bd6_s, if01, gz_1, gz_0, gz_if, cz_lt, cz_le, cz_gt, cz_ge, cz_eq, zI_add, zI_sub, zI_mul, zI_neg, zL_add, zL_sub, zL_mul, zL_neg, zI_lt, zI_le, zI_eq, zL_lt, zL_le, zL_eq, zI_toL, zL_toI, zI_div, zL_div, zI_cl, gi_z, mod_fold, upd_s, upd_n, updL_s, updL_n, ↓reduceIte, Int.reduceLT, Int.reduceLE, Int.reduceEq, Int.reduceAdd, Int.reduceSub, Int.reduceMul, Int.reduceNeg, Int.reduceToNat, eq_self, not_true_eq_false, not_false_eq_true, true_and, false_and, and_true, and_false, true_or, false_or, or_true, or_false]
    · simp (disch := omega) only [zl_m2000000000, zl_m99999, zl_m10000, zl_m21, zl_m9, zl_m5, zl_m2, zl_m1, zl_0, zl_1, zl_2, zl_3, zl_4, zl_5, zl_6, zl_7, zl_8, zl_9, zl_10, zl_11, zl_12, zl_13, zl_14, zl_15, zl_16, zl_17, zl_18, zl_19, zl_23, zl_24, zl_28, zl_29, zl_30, zl_31, zl_45, zl_48, zl_57, zl_58, zl_59, zl_60, zl_84, zl_100, zl_101, zl_102, zl_103, zl_104, zl_105, zl_106, zl_107, zl_108, zl_109, zl_110, zl_111, zl_112, zl_113, zl_114, zl_115, zl_116, zl_117, zl_118, zl_119, zl_120, zl_121, zl_153, zl_255, zl_306, zl_365, zl_400, zl_1000, zl_1460, zl_3600, zl_9999, zl_10000, zl_30000, zl_36524, zl_86399, zl_86400, zl_99999, zl_119999, zl_146096, zl_146097, zl_1000000, zl_3652058, zll_m1000000000, zll_m1000009, zll_m1000002, zll_m2, zll_m1, zll_0, zll_1, zll_86400, zll_2629746, zll_1000000000, nm, bd1_s, bd2_s, bd3_s, bd4_s, bd5_s, bd6_s, if01, gz_1, gz_0, gz_if, cz_lt, cz_le, cz_gt, cz_ge, cz_eq, zI_add, zI_sub, zI_mul, zI_neg, zL_add, zL_sub, zL_mul, zL_neg, zI_lt, zI_le, zI_eq, zL_lt, zL_le, zL_eq, zI_toL, zL_toI, zI_div, zL_div, zI_cl, gi_z, mod_fold, upd_s, upd_n, updL_s, updL_n, ↓reduceIte, Int.reduceLT, Int.reduceLE, Int.reduceEq, Int.reduceAdd, Int.reduceSub, Int.reduceMul, Int.reduceNeg, Int.reduceToNat, eq_self, not_true_eq_false, not_false_eq_true, true_and, false_and, and_true, and_false, true_or, false_or, or_true, or_false]
    · simp (disch := omega) only [zl_m2000000000, zl_m99999, zl_m10000, zl_m21, zl_m9, zl_m5, zl_m2, zl_m1, zl_0, zl_1, zl_2, zl_3, zl_4, zl_5, zl_6, zl_7, zl_8, zl_9, zl_10, zl_11, zl_12, zl_13, zl_14, zl_15, zl_16, zl_17, zl_18, zl_19, zl_23, zl_24, zl_28, zl_29, zl_30, zl_31, zl_45, zl_48, zl_57, zl_58, zl_59, zl_60, zl_84, zl_100, zl_101, zl_102, zl_103, zl_104, zl_105, zl_106, zl_107, zl_108, zl_109, zl_110, zl_111, zl_112, zl_113, zl_114, zl_115, zl_116, zl_117, zl_118, zl_119, zl_120, zl_121, zl_153, zl_255, zl_306, zl_365, zl_400, zl_1000, zl_1460, zl_3600, zl_9999, zl_10000, zl_30000, zl_36524, zl_86399, zl_86400, zl_99999, zl_119999, zl_146096, zl_146097, zl_1000000, zl_3652058, zll_m1000000000, zll_m1000009, zll_m1000002, zll_m2, zll_m1, zll_0, zll_1, zll_86400, zll_2629746, zll_1000000000, nm, bd1_s, bd2_s, bd3_s, bd4_s, bd5_s, bd6_s, if01, gz_1, gz_0, gz_if, cz_lt, cz_le, cz_gt, cz_ge, cz_eq, zI_add, zI_sub, zI_mul, zI_neg, zL_add, zL_sub, zL_mul, zL_neg, zI_lt, zI_le, zI_eq, zL_lt, zL_le, zL_eq, zI_toL, zL_toI, zI_div, zL_div, zI_cl, gi_z, mod_fold, upd_s, upd_n, updL_s, updL_n, ↓reduceIte, Int.reduceLT, Int.reduceLE, Int.reduceEq, Int.reduceAdd, Int.reduceSub, Int.reduceMul, Int.reduceNeg, Int.reduceToNat, eq_self, not_true_eq_false, not_false_eq_true, true_and, false_and, and_true, and_false, true_or, false_or, or_true, or_false]

