/-! spans added: the reference -/
theorem z10' : ¬ (zI 1 = (0 : Int32)) := by decide
theorem z00' : zI 0 = (0 : Int32) := by decide
theorem e_addsMonths (N : Nat) (hN : 20000 ≤ N) {i : Nat → Int32} {j : Nat → Int64} {m law x t : Int} (hm : sp_b1 m) (hl : 0 ≤ law ∧ law ≤ 3) (h13 : i 13 = zI x) (h1 : 0 ≤ x ∧ x ≤ 3652058) (h14 : i 14 = zI t) :
    ∃ i' r, fX10_addsMonths N (zL m) (zI law) i j = some (r, i') ∧ (∀ k, k < 10 ∨ 15 < k → i' k = i k) ∧ i' 14 = zI t ∧ ((∃ y sh, sp_addM m law x = some (y, sh) ∧ r = zI 1 ∧ i' 13 = zI y ∧ i' 15 = zI sh) ∨ (sp_addM m law x = none ∧ r = zI 0)) := by
  obtain ⟨a1, a2, a3, a4, a5⟩ := mi_all h1.1 h1.2
  obtain ⟨g4, g5, g6, g7⟩ := sp_all h1.1 h1.2
  by_cases h0 : m = 0
  · refine ⟨upd i 15 (zI 0), zI 1, ?_, fun k hk => upd_n (by omega), by rw [upd_n (by omega), h14], Or.inl ⟨x, 0, if_pos h0, rfl, by rw [upd_n (by omega), h13], upd_s⟩⟩
    unfold fX10_addsMonths
    simp (disch := omega) only [zl_m2147483648, zl_m2000000000, zl_m99999, zl_m10000, zl_m21, zl_m9, zl_m5, zl_m2, zl_m1, zl_0, zl_1, zl_2, zl_3, zl_4, zl_5, zl_6, zl_7, zl_8, zl_9, zl_10, zl_11, zl_12, zl_13, zl_14, zl_15, zl_16, zl_17, zl_18, zl_19, zl_23, zl_24, zl_28, zl_29, zl_30, zl_31, zl_45, zl_48, zl_52, zl_57, zl_58, zl_59, zl_60, zl_84, zl_90, zl_100, zl_101, zl_102, zl_103, zl_104, zl_105, zl_106, zl_107, zl_108, zl_109, zl_110, zl_111, zl_112, zl_113, zl_114, zl_115, zl_116, zl_117, zl_118, zl_119, zl_120, zl_121, zl_127, zl_151, zl_153, zl_181, zl_212, zl_243, zl_255, zl_273, zl_304, zl_306, zl_334, zl_365, zl_400, zl_1000, zl_1023, zl_1100, zl_1460, zl_3600, zl_9999, zl_10000, zl_30000, zl_36524, zl_86399, zl_86400, zl_99999, zl_119999, zl_146096, zl_146097, zl_730119, zl_876215, zl_876216, zl_1000000, zl_3652058, zll_m9223372036854775808, zll_m1000000000, zll_m1000009, zll_m1000002, zll_m10000, zll_m5, zll_m2, zll_m1, zll_0, zll_1, zll_2, zll_3, zll_5, zll_6, zll_7, zll_12, zll_100, zll_255, zll_400, zll_1000, zll_9999, zll_10000, zll_86399, zll_86400, zll_120000, zll_146097, zll_2629746, zll_3652058, zll_1000000000, zll_9218868437227405312, zll_9221120237041090560, nm, bd1_s, bd2_s, bd3_s, bd4_s, bd5_s, bd6_s, if01, gz_1, gz_0, gz_if, cz_lt, cz_le, cz_gt, cz_ge, cz_eq, zI_add, zI_sub, zI_mul, zI_neg, zL_add, zL_sub, zL_mul, zL_neg, zI_lt, zI_le, zI_eq, zL_lt, zL_le, zL_eq, zI_toL, zL_toI, zI_div, zL_div, zI_cl, gi_z, mod_fold, upd_s, upd_n, updL_s, updL_n, ↓reduceIte, Int.reduceLT, Int.reduceLE, Int.reduceEq, Int.reduceAdd, Int.reduceSub, Int.reduceMul, Int.reduceNeg, Int.reduceToNat, eq_self, not_true_eq_false, not_false_eq_true, true_and, false_and, and_true, and_false, true_or, false_or, or_true, or_false, h0]
  · obtain ⟨c, hc⟩ : ∃ c, c = upd (upd (upd (upd i 15 (zI 0)) 10 (zI (sp_Y x))) 11 (zI (sp_M x))) 12 (zI (sp_D x)) := ⟨_, rfl⟩
    have hd : fX10_dates N (i 13) (upd i 15 (zI 0)) j = some c := by rw [h13, e_dates N hN _ j h1.1 h1.2, hc]
    have c10 : c 10 = zI (sp_Y x) := by rw [hc, upd_n (by omega), upd_n (by omega), upd_s]
    have c11 : c 11 = zI (sp_M x) := by rw [hc, upd_n (by omega), upd_s]
    have c12 : c 12 = zI (sp_D x) := by rw [hc, upd_s]
    have c13 : c 13 = zI x := by rw [hc, upd_n (by omega), upd_n (by omega), upd_n (by omega), upd_n (by omega), h13]
    have c14 : c 14 = zI t := by rw [hc, upd_n (by omega), upd_n (by omega), upd_n (by omega), upd_n (by omega), h14]
    have cf : ∀ k, k < 10 ∨ 15 < k → c k = i k := fun k hk => by rw [hc, upd_n (by omega), upd_n (by omega), upd_n (by omega), upd_n (by omega)]
    have eat : 12 * sp_Y x + sp_M x - 1 + m = sp_mi x + m := by unfold sp_mi; omega
    by_cases hr : sp_mi x + m < 12 ∨ 119999 < sp_mi x + m
    · refine ⟨c, zI 0, ?_, cf, c14, Or.inr ⟨by unfold sp_addM; rw [if_neg h0, if_pos hr], rfl⟩⟩
      unfold fX10_addsMonths
      rw [zl_0, hd]
      simp (disch := omega) only [zl_m2147483648, zl_m2000000000, zl_m99999, zl_m10000, zl_m21, zl_m9, zl_m5, zl_m2, zl_m1, zl_0, zl_1, zl_2, zl_3, zl_4, zl_5, zl_6, zl_7, zl_8, zl_9, zl_10, zl_11, zl_12, zl_13, zl_14, zl_15, zl_16, zl_17, zl_18, zl_19, zl_23, zl_24, zl_28, zl_29, zl_30, zl_31, zl_45, zl_48, zl_52, zl_57, zl_58, zl_59, zl_60, zl_84, zl_90, zl_100, zl_101, zl_102, zl_103, zl_104, zl_105, zl_106, zl_107, zl_108, zl_109, zl_110, zl_111, zl_112, zl_113, zl_114, zl_115, zl_116, zl_117, zl_118, zl_119, zl_120, zl_121, zl_127, zl_151, zl_153, zl_181, zl_212, zl_243, zl_255, zl_273, zl_304, zl_306, zl_334, zl_365, zl_400, zl_1000, zl_1023, zl_1100, zl_1460, zl_3600, zl_9999, zl_10000, zl_30000, zl_36524, zl_86399, zl_86400, zl_99999, zl_119999, zl_146096, zl_146097, zl_730119, zl_876215, zl_876216, zl_1000000, zl_3652058, zll_m9223372036854775808, zll_m1000000000, zll_m1000009, zll_m1000002, zll_m10000, zll_m5, zll_m2, zll_m1, zll_0, zll_1, zll_2, zll_3, zll_5, zll_6, zll_7, zll_12, zll_100, zll_255, zll_400, zll_1000, zll_9999, zll_10000, zll_86399, zll_86400, zll_120000, zll_146097, zll_2629746, zll_3652058, zll_1000000000, zll_9218868437227405312, zll_9221120237041090560, nm, bd1_s, bd2_s, bd3_s, bd4_s, bd5_s, bd6_s, if01, gz_1, gz_0, gz_if, cz_lt, cz_le, cz_gt, cz_ge, cz_eq, zI_add, zI_sub, zI_mul, zI_neg, zL_add, zL_sub, zL_mul, zL_neg, zI_lt, zI_le, zI_eq, zL_lt, zL_le, zL_eq, zI_toL, zL_toI, zI_div, zL_div, zI_cl, gi_z, mod_fold, upd_s, upd_n, updL_s, updL_n, ↓reduceIte, Int.reduceLT, Int.reduceLE, Int.reduceEq, Int.reduceAdd, Int.reduceSub, Int.reduceMul, Int.reduceNeg, Int.reduceToNat, eq_self, not_true_eq_false, not_false_eq_true, true_and, false_and, and_true, and_false, true_or, false_or, or_true, or_false, h0, c10, c11, eat]
      by_cases hr2 : sp_mi x + m < 12
      · rw [if_pos hr2]
      · rw [if_neg hr2, if_neg (by omega)]
    · obtain ⟨g, hg⟩ : ∃ g, g = sp_mi x + m := ⟨_, rfl⟩
      rw [← hg] at eat hr
      have hgl : sp_mlen (g / 12) (g % 12 + 1) = sp_gl g := rfl
      have b1 := gl_b (sp_mi x)
      have b2 := gl_b g
      have b3 := first_b (g := g) (by omega) (by omega)
      have hdn : ∀ d : Int, -1000 ≤ d → d ≤ 1000 → fX10_dayOf N (zI (g / 12)) (zI (g % 12 + 1)) (zI d) = some (zI (sp_first g + d - 1)) := fun d d1 d2 => by
        rw [e_dn_m N (by omega) (by omega) (by omega) (by omega) (by omega) (by omega)]
        congr 2
        unfold sp_first sp_dn; omega
      obtain ⟨G, hG⟩ : ∃ G, G = sp_gl g := ⟨_, rfl⟩
      obtain ⟨F, hF⟩ : ∃ F, F = sp_first g := ⟨_, rfl⟩
      obtain ⟨L, hL⟩ : ∃ L, L = sp_gl (sp_mi x) := ⟨_, rfl⟩
      obtain ⟨Dx, hDx⟩ : ∃ Dx, Dx = sp_D x := ⟨_, rfl⟩
      have f1 : sp_sh x g = if G < Dx then Dx - G else 0 := by rw [hG, hDx]; rfl
      have f2 : sp_dd law x g = if (law = 2 ∧ Dx = L) ∨ (G < Dx ∧ law ≠ 1) then G else Dx := by rw [hG, hDx, hL]; rfl
      have f3 : sp_addM m law x = (if sp_gl g < sp_D x ∧ law = 3 then none else if 0 ≤ sp_first g + sp_dd law x g - 1 ∧ sp_first g + sp_dd law x g - 1 ≤ 3652058 then some (sp_first g + sp_dd law x g - 1, sp_sh x g) else none) := by
        unfold sp_addM; rw [if_neg h0, ← hg, if_neg hr]
      rw [f3, f1, f2, ← hG, ← hF, ← hDx]
      rw [a3] at hL
      rw [← hG] at hgl b2
      rw [← hF] at hdn b3
      rw [← hDx] at c12 g6
      rw [a3, ← hL] at b1
      rw [← hL] at g6
      have k1 : fX10_addsMonths N (zL m) (zI law) i j = fX10_addsMonths_j114 N j (zI law) (zI (g / 12)) (zI (g % 12 + 1)) (zI G) (if Dx = L then zI 1 else zI 0) c := by
        unfold fX10_addsMonths
        rw [zl_0, hd]
        simp (disch := omega) only [zl_m2147483648, zl_m2000000000, zl_m99999, zl_m10000, zl_m21, zl_m9, zl_m5, zl_m2, zl_m1, zl_0, zl_1, zl_2, zl_3, zl_4, zl_5, zl_6, zl_7, zl_8, zl_9, zl_10, zl_11, zl_12, zl_13, zl_14, zl_15, zl_16, zl_17, zl_18, zl_19, zl_23, zl_24, zl_28, zl_29, zl_30, zl_31, zl_45, zl_48, zl_52, zl_57, zl_58, zl_59, zl_60, zl_84, zl_90, zl_100, zl_101, zl_102, zl_103, zl_104, zl_105, zl_106, zl_107, zl_108, zl_109, zl_110, zl_111, zl_112, zl_113, zl_114, zl_115, zl_116, zl_117, zl_118, zl_119, zl_120, zl_121, zl_127, zl_151, zl_153, zl_181, zl_212, zl_243, zl_255, zl_273, zl_304, zl_306, zl_334, zl_365, zl_400, zl_1000, zl_1023, zl_1100, zl_1460, zl_3600, zl_9999, zl_10000, zl_30000, zl_36524, zl_86399, zl_86400, zl_99999, zl_119999, zl_146096, zl_146097, zl_730119, zl_876215, zl_876216, zl_1000000, zl_3652058, zll_m9223372036854775808, zll_m1000000000, zll_m1000009, zll_m1000002, zll_m10000, zll_m5, zll_m2, zll_m1, zll_0, zll_1, zll_2, zll_3, zll_5, zll_6, zll_7, zll_12, zll_100, zll_255, zll_400, zll_1000, zll_9999, zll_10000, zll_86399, zll_86400, zll_120000, zll_146097, zll_2629746, zll_3652058, zll_1000000000, zll_9218868437227405312, zll_9221120237041090560, nm, bd1_s, bd2_s, bd3_s, bd4_s, bd5_s, bd6_s, if01, gz_1, gz_0, gz_if, cz_lt, cz_le, cz_gt, cz_ge, cz_eq, zI_add, zI_sub, zI_mul, zI_neg, zL_add, zL_sub, zL_mul, zL_neg, zI_lt, zI_le, zI_eq, zL_lt, zL_le, zL_eq, zI_toL, zL_toI, zI_div, zL_div, zI_cl, gi_z, mod_fold, upd_s, upd_n, updL_s, updL_n, ↓reduceIte, Int.reduceLT, Int.reduceLE, Int.reduceEq, Int.reduceAdd, Int.reduceSub, Int.reduceMul, Int.reduceNeg, Int.reduceToNat, eq_self, not_true_eq_false, not_false_eq_true, true_and, false_and, and_true, and_false, true_or, false_or, or_true, or_false, h0, c10, c11, c12, eat, e_mlen_m, hgl]
        rw [if_neg (by omega), if_pos (by omega), ← hL]
        split <;> rfl
      rw [k1]
      clear k1 hd
      have hw : law = 0 ∨ law = 1 ∨ law = 2 ∨ law = 3 := by omega
      have m1 : ∀ v w z : Int, (∀ k, k < 10 ∨ 15 < k → (upd (upd c 15 (zI v)) 13 (zI w)) k = i k) ∧ (upd (upd c 15 (zI v)) 13 (zI w)) 14 = zI t ∧ (upd (upd c 15 (zI v)) 13 (zI w)) 13 = zI w ∧ (upd (upd c 15 (zI v)) 13 (zI w)) 15 = zI v := fun v w z => ⟨fun k hk => by rw [upd_n (by omega), upd_n (by omega), cf k hk], by rw [upd_n (by omega), upd_n (by omega), c14], upd_s, by rw [upd_n (by omega), upd_s]⟩
      have m2 : ∀ v : Int, (∀ k, k < 10 ∨ 15 < k → (upd c 15 (zI v)) k = i k) ∧ (upd c 15 (zI v)) 14 = zI t := fun v => ⟨fun k hk => by rw [upd_n (by omega), cf k hk], by rw [upd_n (by omega), c14]⟩
      have key : fX10_addsMonths_j114 N j (zI law) (zI (g / 12)) (zI (g % 12 + 1)) (zI G) (if Dx = L then zI 1 else zI 0) c = (if G < Dx ∧ law = 3 then some (zI 0, upd c 15 (zI (if G < Dx then Dx - G else 0))) else if 0 ≤ F + (if (law = 2 ∧ Dx = L) ∨ (G < Dx ∧ law ≠ 1) then G else Dx) - 1 ∧ F + (if (law = 2 ∧ Dx = L) ∨ (G < Dx ∧ law ≠ 1) then G else Dx) - 1 ≤ 3652058 then some (zI 1, upd (upd c 15 (zI (if G < Dx then Dx - G else 0))) 13 (zI (F + (if (law = 2 ∧ Dx = L) ∨ (G < Dx ∧ law ≠ 1) then G else Dx) - 1))) else some (zI 0, upd c 15 (zI (if G < Dx then Dx - G else 0)))) := by
        unfold fX10_addsMonths_j114 fX10_addsMonths_j145 fX10_addsMonths_j170 fX10_addsMonths_j192
        have z01 : ¬ (zI 1 = zI 0) := by decide
        by_cases hs : G < Dx
        · have q1 : ¬ (Dx - G ≤ 0) := by omega
          have q3 : 0 < Dx - G := by omega
          have q4 : F + G - 1 + (Dx - G) = F + Dx - 1 := by omega
          by_cases hE : Dx = L
          · subst hE
            rcases hw with rfl | rfl | rfl | rfl <;> simp (disch := omega) only [zl_m2147483648, zl_m2000000000, zl_m99999, zl_m10000, zl_m21, zl_m9, zl_m5, zl_m2, zl_m1, zl_0, zl_1, zl_2, zl_3, zl_4, zl_5, zl_6, zl_7, zl_8, zl_9, zl_10, zl_11, zl_12, zl_13, zl_14, zl_15, zl_16, zl_17, zl_18, zl_19, zl_23, zl_24, zl_28, zl_29, zl_30, zl_31, zl_45, zl_48, zl_52, zl_57, zl_58, zl_59, zl_60, zl_84, zl_90, zl_100, zl_101, zl_102, zl_103, zl_104, zl_105, zl_106, zl_107, zl_108, zl_109, zl_110, zl_111, zl_112, zl_113, zl_114, zl_115, zl_116, zl_117, zl_118, zl_119, zl_120, zl_121, zl_127, zl_151, zl_153, zl_181, zl_212, zl_243, zl_255, zl_273, zl_304, zl_306, zl_334, zl_365, zl_400, zl_1000, zl_1023, zl_1100, zl_1460, zl_3600, zl_9999, zl_10000, zl_30000, zl_36524, zl_86399, zl_86400, zl_99999, zl_119999, zl_146096, zl_146097, zl_730119, zl_876215, zl_876216, zl_1000000, zl_3652058, zll_m9223372036854775808, zll_m1000000000, zll_m1000009, zll_m1000002, zll_m10000, zll_m5, zll_m2, zll_m1, zll_0, zll_1, zll_2, zll_3, zll_5, zll_6, zll_7, zll_12, zll_100, zll_255, zll_400, zll_1000, zll_9999, zll_10000, zll_86399, zll_86400, zll_120000, zll_146097, zll_2629746, zll_3652058, zll_1000000000, zll_9218868437227405312, zll_9221120237041090560, nm, bd1_s, bd2_s, bd3_s, bd4_s, bd5_s, bd6_s, if01, gz_1, gz_0, gz_if, cz_lt, cz_le, cz_gt, cz_ge, cz_eq, zI_add, zI_sub, zI_mul, zI_neg, zL_add, zL_sub, zL_mul, zL_neg, zI_lt, zI_le, zI_eq, zL_lt, zL_le, zL_eq, zI_toL, zL_toI, zI_div, zL_div, zI_cl, gi_z, mod_fold, upd_s, upd_n, updL_s, updL_n, ↓reduceIte, Int.reduceLT, Int.reduceLE, Int.reduceEq, Int.reduceAdd, Int.reduceSub, Int.reduceMul, Int.reduceNeg, Int.reduceToNat, eq_self, not_true_eq_false, not_false_eq_true, true_and, false_and, and_true, and_false, true_or, false_or, or_true, or_false, c12, z01, q1, q3, q4, Int.add_zero, hs, hdn, e_isDay_m, ne_eq] <;> (repeat' split) <;> first | rfl | (exfalso; omega)
          · rcases hw with rfl | rfl | rfl | rfl <;> simp (disch := omega) only [zl_m2147483648, zl_m2000000000, zl_m99999, zl_m10000, zl_m21, zl_m9, zl_m5, zl_m2, zl_m1, zl_0, zl_1, zl_2, zl_3, zl_4, zl_5, zl_6, zl_7, zl_8, zl_9, zl_10, zl_11, zl_12, zl_13, zl_14, zl_15, zl_16, zl_17, zl_18, zl_19, zl_23, zl_24, zl_28, zl_29, zl_30, zl_31, zl_45, zl_48, zl_52, zl_57, zl_58, zl_59, zl_60, zl_84, zl_90, zl_100, zl_101, zl_102, zl_103, zl_104, zl_105, zl_106, zl_107, zl_108, zl_109, zl_110, zl_111, zl_112, zl_113, zl_114, zl_115, zl_116, zl_117, zl_118, zl_119, zl_120, zl_121, zl_127, zl_151, zl_153, zl_181, zl_212, zl_243, zl_255, zl_273, zl_304, zl_306, zl_334, zl_365, zl_400, zl_1000, zl_1023, zl_1100, zl_1460, zl_3600, zl_9999, zl_10000, zl_30000, zl_36524, zl_86399, zl_86400, zl_99999, zl_119999, zl_146096, zl_146097, zl_730119, zl_876215, zl_876216, zl_1000000, zl_3652058, zll_m9223372036854775808, zll_m1000000000, zll_m1000009, zll_m1000002, zll_m10000, zll_m5, zll_m2, zll_m1, zll_0, zll_1, zll_2, zll_3, zll_5, zll_6, zll_7, zll_12, zll_100, zll_255, zll_400, zll_1000, zll_9999, zll_10000, zll_86399, zll_86400, zll_120000, zll_146097, zll_2629746, zll_3652058, zll_1000000000, zll_9218868437227405312, zll_9221120237041090560, nm, bd1_s, bd2_s, bd3_s, bd4_s, bd5_s, bd6_s, if01, gz_1, gz_0, gz_if, cz_lt, cz_le, cz_gt, cz_ge, cz_eq, zI_add, zI_sub, zI_mul, zI_neg, zL_add, zL_sub, zL_mul, zL_neg, zI_lt, zI_le, zI_eq, zL_lt, zL_le, zL_eq, zI_toL, zL_toI, zI_div, zL_div, zI_cl, gi_z, mod_fold, upd_s, upd_n, updL_s, updL_n, ↓reduceIte, Int.reduceLT, Int.reduceLE, Int.reduceEq, Int.reduceAdd, Int.reduceSub, Int.reduceMul, Int.reduceNeg, Int.reduceToNat, eq_self, not_true_eq_false, not_false_eq_true, true_and, false_and, and_true, and_false, true_or, false_or, or_true, or_false, c12, z01, q1, q3, q4, Int.add_zero, hs, hE, hdn, e_isDay_m, ne_eq] <;> (repeat' split) <;> first | rfl | (exfalso; omega)
        · have q1 : Dx - G ≤ 0 := by omega
          have q3 : ¬ (0 < Dx - G) := by omega
          by_cases hz : Dx = G
          · subst hz
            by_cases hE : Dx = L
            · subst hE
              rcases hw with rfl | rfl | rfl | rfl <;> simp (disch := omega) only [zl_m2147483648, zl_m2000000000, zl_m99999, zl_m10000, zl_m21, zl_m9, zl_m5, zl_m2, zl_m1, zl_0, zl_1, zl_2, zl_3, zl_4, zl_5, zl_6, zl_7, zl_8, zl_9, zl_10, zl_11, zl_12, zl_13, zl_14, zl_15, zl_16, zl_17, zl_18, zl_19, zl_23, zl_24, zl_28, zl_29, zl_30, zl_31, zl_45, zl_48, zl_52, zl_57, zl_58, zl_59, zl_60, zl_84, zl_90, zl_100, zl_101, zl_102, zl_103, zl_104, zl_105, zl_106, zl_107, zl_108, zl_109, zl_110, zl_111, zl_112, zl_113, zl_114, zl_115, zl_116, zl_117, zl_118, zl_119, zl_120, zl_121, zl_127, zl_151, zl_153, zl_181, zl_212, zl_243, zl_255, zl_273, zl_304, zl_306, zl_334, zl_365, zl_400, zl_1000, zl_1023, zl_1100, zl_1460, zl_3600, zl_9999, zl_10000, zl_30000, zl_36524, zl_86399, zl_86400, zl_99999, zl_119999, zl_146096, zl_146097, zl_730119, zl_876215, zl_876216, zl_1000000, zl_3652058, zll_m9223372036854775808, zll_m1000000000, zll_m1000009, zll_m1000002, zll_m10000, zll_m5, zll_m2, zll_m1, zll_0, zll_1, zll_2, zll_3, zll_5, zll_6, zll_7, zll_12, zll_100, zll_255, zll_400, zll_1000, zll_9999, zll_10000, zll_86399, zll_86400, zll_120000, zll_146097, zll_2629746, zll_3652058, zll_1000000000, zll_9218868437227405312, zll_9221120237041090560, nm, bd1_s, bd2_s, bd3_s, bd4_s, bd5_s, bd6_s, if01, gz_1, gz_0, gz_if, cz_lt, cz_le, cz_gt, cz_ge, cz_eq, zI_add, zI_sub, zI_mul, zI_neg, zL_add, zL_sub, zL_mul, zL_neg, zI_lt, zI_le, zI_eq, zL_lt, zL_le, zL_eq, zI_toL, zL_toI, zI_div, zL_div, zI_cl, gi_z, mod_fold, upd_s, upd_n, updL_s, updL_n, ↓reduceIte, Int.reduceLT, Int.reduceLE, Int.reduceEq, Int.reduceAdd, Int.reduceSub, Int.reduceMul, Int.reduceNeg, Int.reduceToNat, eq_self, not_true_eq_false, not_false_eq_true, true_and, false_and, and_true, and_false, true_or, false_or, or_true, or_false, c12, z01, q1, q3, Int.add_zero, Int.sub_self, Int.lt_irrefl, Int.le_refl, hs, hdn, e_isDay_m, ne_eq] <;> (repeat' split) <;> first | rfl | (exfalso; omega)
            · rcases hw with rfl | rfl | rfl | rfl <;> simp (disch := omega) only [zl_m2147483648, zl_m2000000000, zl_m99999, zl_m10000, zl_m21, zl_m9, zl_m5, zl_m2, zl_m1, zl_0, zl_1, zl_2, zl_3, zl_4, zl_5, zl_6, zl_7, zl_8, zl_9, zl_10, zl_11, zl_12, zl_13, zl_14, zl_15, zl_16, zl_17, zl_18, zl_19, zl_23, zl_24, zl_28, zl_29, zl_30, zl_31, zl_45, zl_48, zl_52, zl_57, zl_58, zl_59, zl_60, zl_84, zl_90, zl_100, zl_101, zl_102, zl_103, zl_104, zl_105, zl_106, zl_107, zl_108, zl_109, zl_110, zl_111, zl_112, zl_113, zl_114, zl_115, zl_116, zl_117, zl_118, zl_119, zl_120, zl_121, zl_127, zl_151, zl_153, zl_181, zl_212, zl_243, zl_255, zl_273, zl_304, zl_306, zl_334, zl_365, zl_400, zl_1000, zl_1023, zl_1100, zl_1460, zl_3600, zl_9999, zl_10000, zl_30000, zl_36524, zl_86399, zl_86400, zl_99999, zl_119999, zl_146096, zl_146097, zl_730119, zl_876215, zl_876216, zl_1000000, zl_3652058, zll_m9223372036854775808, zll_m1000000000, zll_m1000009, zll_m1000002, zll_m10000, zll_m5, zll_m2, zll_m1, zll_0, zll_1, zll_2, zll_3, zll_5, zll_6, zll_7, zll_12, zll_100, zll_255, zll_400, zll_1000, zll_9999, zll_10000, zll_86399, zll_86400, zll_120000, zll_146097, zll_2629746, zll_3652058, zll_1000000000, zll_9218868437227405312, zll_9221120237041090560, nm, bd1_s, bd2_s, bd3_s, bd4_s, bd5_s, bd6_s, if01, gz_1, gz_0, gz_if, cz_lt, cz_le, cz_gt, cz_ge, cz_eq, zI_add, zI_sub, zI_mul, zI_neg, zL_add, zL_sub, zL_mul, zL_neg, zI_lt, zI_le, zI_eq, zL_lt, zL_le, zL_eq, zI_toL, zL_toI, zI_div, zL_div, zI_cl, gi_z, mod_fold, upd_s, upd_n, updL_s, updL_n, ↓reduceIte, Int.reduceLT, Int.reduceLE, Int.reduceEq, Int.reduceAdd, Int.reduceSub, Int.reduceMul, Int.reduceNeg, Int.reduceToNat, eq_self, not_true_eq_false, not_false_eq_true, true_and, false_and, and_true, and_false, true_or, false_or, or_true, or_false, c12, z01, q1, q3, Int.add_zero, Int.sub_self, Int.lt_irrefl, Int.le_refl, hs, hE, hdn, e_isDay_m, ne_eq] <;> (repeat' split) <;> first | rfl | (exfalso; omega)
          · have q5 : ¬ (G < Dx) := hs
            have q6 : ¬ (G ≤ Dx) := by omega
            by_cases hE : Dx = L
            · subst hE
              rcases hw with rfl | rfl | rfl | rfl <;> simp (disch := omega) only [zl_m2147483648, zl_m2000000000, zl_m99999, zl_m10000, zl_m21, zl_m9, zl_m5, zl_m2, zl_m1, zl_0, zl_1, zl_2, zl_3, zl_4, zl_5, zl_6, zl_7, zl_8, zl_9, zl_10, zl_11, zl_12, zl_13, zl_14, zl_15, zl_16, zl_17, zl_18, zl_19, zl_23, zl_24, zl_28, zl_29, zl_30, zl_31, zl_45, zl_48, zl_52, zl_57, zl_58, zl_59, zl_60, zl_84, zl_90, zl_100, zl_101, zl_102, zl_103, zl_104, zl_105, zl_106, zl_107, zl_108, zl_109, zl_110, zl_111, zl_112, zl_113, zl_114, zl_115, zl_116, zl_117, zl_118, zl_119, zl_120, zl_121, zl_127, zl_151, zl_153, zl_181, zl_212, zl_243, zl_255, zl_273, zl_304, zl_306, zl_334, zl_365, zl_400, zl_1000, zl_1023, zl_1100, zl_1460, zl_3600, zl_9999, zl_10000, zl_30000, zl_36524, zl_86399, zl_86400, zl_99999, zl_119999, zl_146096, zl_146097, zl_730119, zl_876215, zl_876216, zl_1000000, zl_3652058, zll_m9223372036854775808, zll_m1000000000, zll_m1000009, zll_m1000002, zll_m10000, zll_m5, zll_m2, zll_m1, zll_0, zll_1, zll_2, zll_3, zll_5, zll_6, zll_7, zll_12, zll_100, zll_255, zll_400, zll_1000, zll_9999, zll_10000, zll_86399, zll_86400, zll_120000, zll_146097, zll_2629746, zll_3652058, zll_1000000000, zll_9218868437227405312, zll_9221120237041090560, nm, bd1_s, bd2_s, bd3_s, bd4_s, bd5_s, bd6_s, if01, gz_1, gz_0, gz_if, cz_lt, cz_le, cz_gt, cz_ge, cz_eq, zI_add, zI_sub, zI_mul, zI_neg, zL_add, zL_sub, zL_mul, zL_neg, zI_lt, zI_le, zI_eq, zL_lt, zL_le, zL_eq, zI_toL, zL_toI, zI_div, zL_div, zI_cl, gi_z, mod_fold, upd_s, upd_n, updL_s, updL_n, ↓reduceIte, Int.reduceLT, Int.reduceLE, Int.reduceEq, Int.reduceAdd, Int.reduceSub, Int.reduceMul, Int.reduceNeg, Int.reduceToNat, eq_self, not_true_eq_false, not_false_eq_true, true_and, false_and, and_true, and_false, true_or, false_or, or_true, or_false, c12, z01, q1, q3, Int.add_zero, hs, hdn, e_isDay_m, ne_eq] <;> (repeat' split) <;> first | rfl | (exfalso; omega)
            · rcases hw with rfl | rfl | rfl | rfl <;> simp (disch := omega) only [zl_m2147483648, zl_m2000000000, zl_m99999, zl_m10000, zl_m21, zl_m9, zl_m5, zl_m2, zl_m1, zl_0, zl_1, zl_2, zl_3, zl_4, zl_5, zl_6, zl_7, zl_8, zl_9, zl_10, zl_11, zl_12, zl_13, zl_14, zl_15, zl_16, zl_17, zl_18, zl_19, zl_23, zl_24, zl_28, zl_29, zl_30, zl_31, zl_45, zl_48, zl_52, zl_57, zl_58, zl_59, zl_60, zl_84, zl_90, zl_100, zl_101, zl_102, zl_103, zl_104, zl_105, zl_106, zl_107, zl_108, zl_109, zl_110, zl_111, zl_112, zl_113, zl_114, zl_115, zl_116, zl_117, zl_118, zl_119, zl_120, zl_121, zl_127, zl_151, zl_153, zl_181, zl_212, zl_243, zl_255, zl_273, zl_304, zl_306, zl_334, zl_365, zl_400, zl_1000, zl_1023, zl_1100, zl_1460, zl_3600, zl_9999, zl_10000, zl_30000, zl_36524, zl_86399, zl_86400, zl_99999, zl_119999, zl_146096, zl_146097, zl_730119, zl_876215, zl_876216, zl_1000000, zl_3652058, zll_m9223372036854775808, zll_m1000000000, zll_m1000009, zll_m1000002, zll_m10000, zll_m5, zll_m2, zll_m1, zll_0, zll_1, zll_2, zll_3, zll_5, zll_6, zll_7, zll_12, zll_100, zll_255, zll_400, zll_1000, zll_9999, zll_10000, zll_86399, zll_86400, zll_120000, zll_146097, zll_2629746, zll_3652058, zll_1000000000, zll_9218868437227405312, zll_9221120237041090560, nm, bd1_s, bd2_s, bd3_s, bd4_s, bd5_s, bd6_s, if01, gz_1, gz_0, gz_if, cz_lt, cz_le, cz_gt, cz_ge, cz_eq, zI_add, zI_sub, zI_mul, zI_neg, zL_add, zL_sub, zL_mul, zL_neg, zI_lt, zI_le, zI_eq, zL_lt, zL_le, zL_eq, zI_toL, zL_toI, zI_div, zL_div, zI_cl, gi_z, mod_fold, upd_s, upd_n, updL_s, updL_n, ↓reduceIte, Int.reduceLT, Int.reduceLE, Int.reduceEq, Int.reduceAdd, Int.reduceSub, Int.reduceMul, Int.reduceNeg, Int.reduceToNat, eq_self, not_true_eq_false, not_false_eq_true, true_and, false_and, and_true, and_false, true_or, false_or, or_true, or_false, c12, z01, q1, q3, Int.add_zero, hs, hE, hdn, e_isDay_m, ne_eq] <;> (repeat' split) <;> first | rfl | (exfalso; omega)
      rw [key]
      by_cases hst : G < Dx ∧ law = 3
      · rw [if_pos hst, if_pos hst]
        exact ⟨_, _, rfl, (m2 _).1, (m2 _).2, Or.inr ⟨rfl, rfl⟩⟩
      · rw [if_neg hst, if_neg hst]
        obtain ⟨Y, hY⟩ : ∃ Y, Y = F + (if (law = 2 ∧ Dx = L) ∨ (G < Dx ∧ law ≠ 1) then G else Dx) - 1 := ⟨_, rfl⟩
        rw [← hY]
        by_cases hin : 0 ≤ Y ∧ Y ≤ 3652058
        · rw [if_pos hin, if_pos hin]
          exact ⟨_, _, rfl, (m1 _ _ 0).1, (m1 _ _ 0).2.1, Or.inl ⟨_, _, rfl, rfl, (m1 _ _ 0).2.2.1, (m1 _ _ 0).2.2.2⟩⟩
        · rw [if_neg hin, if_neg hin]
          exact ⟨_, _, rfl, (m2 _).1, (m2 _).2, Or.inr ⟨rfl, rfl⟩⟩
theorem e_addsDays (N : Nat) {i : Nat → Int32} {j : Nat → Int64} {d x : Int} (hd : sp_b1 d) (h13 : i 13 = zI x) (h1 : 0 ≤ x ∧ x ≤ 3652058) :
    ∃ i' r, fX10_addsDays N (zL d) i j = some (r, i') ∧ (∀ k, k ≠ 13 → i' k = i k) ∧ ((∃ y, sp_Dy d x = some y ∧ r = zI 1 ∧ i' 13 = zI y) ∨ (sp_Dy d x = none ∧ r = zI 0)) := by
  unfold fX10_addsDays sp_Dy
  have e : (zI x).toInt64 + zL d = zL (x + d) := by rw [zI_toL (by omega) (by omega), zL_add]
  rw [h13, e, e_isDay_m N (by omega) (by omega), bd1_s]
  by_cases h : 0 ≤ x + d ∧ x + d ≤ 3652058
  · rw [if_pos h, if_neg z10', if_pos h, zL_toI, zI_add]
    exact ⟨_, _, rfl, fun k hk => upd_n hk, Or.inl ⟨_, rfl, zl_1, upd_s⟩⟩
  · rw [if_neg h, if_pos z00', if_neg h]
    exact ⟨_, _, rfl, fun k hk => rfl, Or.inr ⟨rfl, zl_0⟩⟩
theorem e_addsSeconds (N : Nat) {i : Nat → Int32} {j : Nat → Int64} {s x t : Int} (hs : -1000000000000 ≤ s ∧ s ≤ 1000000000000) (h13 : i 13 = zI x) (h1 : 0 ≤ x ∧ x ≤ 3652058) (h14 : i 14 = zI t) (h2 : 0 ≤ t ∧ t ≤ 86399) :
    ∃ i' r, fX10_addsSeconds N (zL s) i j = some (r, i') ∧ (∀ k, k ≠ 13 → k ≠ 14 → i' k = i k) ∧ ((∃ y u, sp_S s x t = some (y, u) ∧ r = zI 1 ∧ i' 13 = zI y ∧ i' 14 = zI u) ∨ (sp_S s x t = none ∧ r = zI 0)) := by
  unfold fX10_addsSeconds sp_S
  by_cases hr : 0 ≤ x * 86400 + t + s ∧ x * 86400 + t + s ≤ 315537897599
  · rw [if_pos hr]
    simp (disch := omega) only [zl_m2147483648, zl_m2000000000, zl_m99999, zl_m10000, zl_m21, zl_m9, zl_m5, zl_m2, zl_m1, zl_0, zl_1, zl_2, zl_3, zl_4, zl_5, zl_6, zl_7, zl_8, zl_9, zl_10, zl_11, zl_12, zl_13, zl_14, zl_15, zl_16, zl_17, zl_18, zl_19, zl_23, zl_24, zl_28, zl_29, zl_30, zl_31, zl_45, zl_48, zl_52, zl_57, zl_58, zl_59, zl_60, zl_84, zl_90, zl_100, zl_101, zl_102, zl_103, zl_104, zl_105, zl_106, zl_107, zl_108, zl_109, zl_110, zl_111, zl_112, zl_113, zl_114, zl_115, zl_116, zl_117, zl_118, zl_119, zl_120, zl_121, zl_127, zl_151, zl_153, zl_181, zl_212, zl_243, zl_255, zl_273, zl_304, zl_306, zl_334, zl_365, zl_400, zl_1000, zl_1023, zl_1100, zl_1460, zl_3600, zl_9999, zl_10000, zl_30000, zl_36524, zl_86399, zl_86400, zl_99999, zl_119999, zl_146096, zl_146097, zl_730119, zl_876215, zl_876216, zl_1000000, zl_3652058, zll_m9223372036854775808, zll_m1000000000, zll_m1000009, zll_m1000002, zll_m10000, zll_m5, zll_m2, zll_m1, zll_0, zll_1, zll_2, zll_3, zll_5, zll_6, zll_7, zll_12, zll_100, zll_255, zll_400, zll_1000, zll_9999, zll_10000, zll_86399, zll_86400, zll_120000, zll_146097, zll_2629746, zll_3652058, zll_1000000000, zll_9218868437227405312, zll_9221120237041090560, nm, bd1_s, bd2_s, bd3_s, bd4_s, bd5_s, bd6_s, if01, gz_1, gz_0, gz_if, cz_lt, cz_le, cz_gt, cz_ge, cz_eq, zI_add, zI_sub, zI_mul, zI_neg, zL_add, zL_sub, zL_mul, zL_neg, zI_lt, zI_le, zI_eq, zL_lt, zL_le, zL_eq, zI_toL, zL_toI, zI_div, zL_div, zI_cl, gi_z, mod_fold, upd_s, upd_n, updL_s, updL_n, ↓reduceIte, Int.reduceLT, Int.reduceLE, Int.reduceEq, Int.reduceAdd, Int.reduceSub, Int.reduceMul, Int.reduceNeg, Int.reduceToNat, eq_self, not_true_eq_false, not_false_eq_true, true_and, false_and, and_true, and_false, true_or, false_or, or_true, or_false, h13, h14, e_isDay_m]
    rw [if_neg (by omega), if_neg (by omega)]
    exact ⟨_, _, rfl, fun k h1 h2 => by rw [upd_n h2, upd_n h1], Or.inl ⟨_, _, rfl, rfl, by rw [upd_n (by omega), upd_s], upd_s⟩⟩
  · rw [if_neg hr]
    refine ⟨i, zI 0, ?_, fun _ _ _ => rfl, Or.inr ⟨rfl, rfl⟩⟩
    by_cases hq : x * 86400 + t + s < 0
    · simp (disch := omega) only [zl_m2147483648, zl_m2000000000, zl_m99999, zl_m10000, zl_m21, zl_m9, zl_m5, zl_m2, zl_m1, zl_0, zl_1, zl_2, zl_3, zl_4, zl_5, zl_6, zl_7, zl_8, zl_9, zl_10, zl_11, zl_12, zl_13, zl_14, zl_15, zl_16, zl_17, zl_18, zl_19, zl_23, zl_24, zl_28, zl_29, zl_30, zl_31, zl_45, zl_48, zl_52, zl_57, zl_58, zl_59, zl_60, zl_84, zl_90, zl_100, zl_101, zl_102, zl_103, zl_104, zl_105, zl_106, zl_107, zl_108, zl_109, zl_110, zl_111, zl_112, zl_113, zl_114, zl_115, zl_116, zl_117, zl_118, zl_119, zl_120, zl_121, zl_127, zl_151, zl_153, zl_181, zl_212, zl_243, zl_255, zl_273, zl_304, zl_306, zl_334, zl_365, zl_400, zl_1000, zl_1023, zl_1100, zl_1460, zl_3600, zl_9999, zl_10000, zl_30000, zl_36524, zl_86399, zl_86400, zl_99999, zl_119999, zl_146096, zl_146097, zl_730119, zl_876215, zl_876216, zl_1000000, zl_3652058, zll_m9223372036854775808, zll_m1000000000, zll_m1000009, zll_m1000002, zll_m10000, zll_m5, zll_m2, zll_m1, zll_0, zll_1, zll_2, zll_3, zll_5, zll_6, zll_7, zll_12, zll_100, zll_255, zll_400, zll_1000, zll_9999, zll_10000, zll_86399, zll_86400, zll_120000, zll_146097, zll_2629746, zll_3652058, zll_1000000000, zll_9218868437227405312, zll_9221120237041090560, nm, bd1_s, bd2_s, bd3_s, bd4_s, bd5_s, bd6_s, if01, gz_1, gz_0, gz_if, cz_lt, cz_le, cz_gt, cz_ge, cz_eq, zI_add, zI_sub, zI_mul, zI_neg, zL_add, zL_sub, zL_mul, zL_neg, zI_lt, zI_le, zI_eq, zL_lt, zL_le, zL_eq, zI_toL, zL_toI, zI_div, zL_div, zI_cl, gi_z, mod_fold, upd_s, upd_n, updL_s, updL_n, ↓reduceIte, Int.reduceLT, Int.reduceLE, Int.reduceEq, Int.reduceAdd, Int.reduceSub, Int.reduceMul, Int.reduceNeg, Int.reduceToNat, eq_self, not_true_eq_false, not_false_eq_true, true_and, false_and, and_true, and_false, true_or, false_or, or_true, or_false, h13, h14, hq]
    · simp (disch := omega) only [zl_m2147483648, zl_m2000000000, zl_m99999, zl_m10000, zl_m21, zl_m9, zl_m5, zl_m2, zl_m1, zl_0, zl_1, zl_2, zl_3, zl_4, zl_5, zl_6, zl_7, zl_8, zl_9, zl_10, zl_11, zl_12, zl_13, zl_14, zl_15, zl_16, zl_17, zl_18, zl_19, zl_23, zl_24, zl_28, zl_29, zl_30, zl_31, zl_45, zl_48, zl_52, zl_57, zl_58, zl_59, zl_60, zl_84, zl_90, zl_100, zl_101, zl_102, zl_103, zl_104, zl_105, zl_106, zl_107, zl_108, zl_109, zl_110, zl_111, zl_112, zl_113, zl_114, zl_115, zl_116, zl_117, zl_118, zl_119, zl_120, zl_121, zl_127, zl_151, zl_153, zl_181, zl_212, zl_243, zl_255, zl_273, zl_304, zl_306, zl_334, zl_365, zl_400, zl_1000, zl_1023, zl_1100, zl_1460, zl_3600, zl_9999, zl_10000, zl_30000, zl_36524, zl_86399, zl_86400, zl_99999, zl_119999, zl_146096, zl_146097, zl_730119, zl_876215, zl_876216, zl_1000000, zl_3652058, zll_m9223372036854775808, zll_m1000000000, zll_m1000009, zll_m1000002, zll_m10000, zll_m5, zll_m2, zll_m1, zll_0, zll_1, zll_2, zll_3, zll_5, zll_6, zll_7, zll_12, zll_100, zll_255, zll_400, zll_1000, zll_9999, zll_10000, zll_86399, zll_86400, zll_120000, zll_146097, zll_2629746, zll_3652058, zll_1000000000, zll_9218868437227405312, zll_9221120237041090560, nm, bd1_s, bd2_s, bd3_s, bd4_s, bd5_s, bd6_s, if01, gz_1, gz_0, gz_if, cz_lt, cz_le, cz_gt, cz_ge, cz_eq, zI_add, zI_sub, zI_mul, zI_neg, zL_add, zL_sub, zL_mul, zL_neg, zI_lt, zI_le, zI_eq, zL_lt, zL_le, zL_eq, zI_toL, zL_toI, zI_div, zL_div, zI_cl, gi_z, mod_fold, upd_s, upd_n, updL_s, updL_n, ↓reduceIte, Int.reduceLT, Int.reduceLE, Int.reduceEq, Int.reduceAdd, Int.reduceSub, Int.reduceMul, Int.reduceNeg, Int.reduceToNat, eq_self, not_true_eq_false, not_false_eq_true, true_and, false_and, and_true, and_false, true_or, false_or, or_true, or_false, h13, h14, hq, e_isDay_m]
      rw [if_pos (by omega)]
theorem e_adds (N : Nat) (hN : 20000 ≤ N) {i : Nat → Int32} {j : Nat → Int64} {m d s law ord x t : Int} (hb : sp_b3 m d s) (hl : 0 ≤ law ∧ law ≤ 3) (ho : 0 ≤ ord ∧ ord ≤ 1) (h13 : i 13 = zI x) (h1 : 0 ≤ x ∧ x ≤ 3652058) (h14 : i 14 = zI t) (h2 : 0 ≤ t ∧ t ≤ 86399) :
    ∃ i' r, fX10_adds N (zL m) (zL d) (zL s) (zI law) (zI ord) i j = some (r, i') ∧ (∀ k, k < 10 ∨ 15 < k → i' k = i k) ∧ ((∃ y u sh, sp_add m d s law ord x t = some (y, u, sh) ∧ r = zI 1 ∧ i' 13 = zI y ∧ i' 14 = zI u ∧ i' 15 = zI sh ∧ (0 ≤ y ∧ y ≤ 3652058) ∧ (0 ≤ u ∧ u ≤ 86399) ∧ 0 ≤ sh ∧ sh ≤ 3) ∨ (sp_add m d s law ord x t = none ∧ r = zI 0)) := by
  have z01 : ¬ (zI 1 = zI 0) := by decide
  unfold fX10_adds
  rw [zl_0, zl_1]
  by_cases h0 : ord = 0
  · subst h0
    rw [if_pos rfl]
    obtain ⟨i1, r1, k1, n1, q1, f1⟩ := e_addsMonths N hN (i := upd i 15 (zI 0)) (j := j) hb.1 hl (by rw [upd_n (by omega), h13]) h1 (by rw [upd_n (by omega), h14])
    have n1 : ∀ k, k < 10 ∨ 15 < k → i1 k = i k := fun k hk => by rw [n1 k hk, upd_n (by omega)]
    rw [k1, bd2_s]
    rcases f1 with ⟨y1, sh, s1, rfl, y13, y15⟩ | ⟨s1, rfl⟩
    · rw [if_neg z01]
      have b1 := addM_b h1 s1
      obtain ⟨i2, r2, k2, n2, f2⟩ := e_addsDays N (j := j) hb.2.1 y13 b1.1
      rw [k2, bd2_s]
      rcases f2 with ⟨y2, s2, rfl, w13⟩ | ⟨s2, rfl⟩
      · rw [if_neg z01]
        have b2 := Dy_b s2
        obtain ⟨i3, r3, k3, n3, f3⟩ := e_addsSeconds N (j := j) (s := s) (by omega) w13 b2 (by rw [n2 14 (by omega), q1]) h2
        rw [k3, bd2_s]
        have nn : ∀ k, k < 10 ∨ 15 < k → i3 k = i k := fun k hk => by rw [n3 k (by omega) (by omega), n2 k (by omega), n1 k hk]
        rcases f3 with ⟨y3, u3, s3, rfl, v13, v14⟩ | ⟨s3, rfl⟩
        · rw [if_neg z01]
          have b4 := S_b s3
          refine ⟨i3, zI 1, rfl, nn, Or.inl ⟨y3, u3, sh, ?_, rfl, v13, v14, by rw [n3 15 (by omega) (by omega), n2 15 (by omega), y15], b4.1, b4.2, b1.2⟩⟩
          unfold sp_add
          simp [s1, s2, s3]
        · rw [if_pos rfl]
          refine ⟨i3, zI 0, rfl, nn, Or.inr ⟨?_, rfl⟩⟩
          unfold sp_add
          simp [s1, s2, s3]
      · rw [if_pos rfl]
        refine ⟨i2, zI 0, rfl, fun k hk => by rw [n2 k (by omega), n1 k hk], Or.inr ⟨?_, rfl⟩⟩
        unfold sp_add
        simp [s1, s2]
    · rw [if_pos rfl]
      refine ⟨i1, zI 0, rfl, n1, Or.inr ⟨?_, rfl⟩⟩
      unfold sp_add
      simp [s1]
  · have h01 : ord = 1 := by omega
    subst h01
    rw [if_neg z01]
    obtain ⟨i3, r3, k3, n3, f3⟩ := e_addsSeconds N (i := upd i 15 (zI 0)) (j := j) (s := s) (by omega) (by rw [upd_n (by omega), h13]) h1 (by rw [upd_n (by omega), h14]) h2
    rw [k3, bd2_s]
    have n3' : ∀ k, k < 10 ∨ 15 < k → i3 k = i k := fun k hk => by rw [n3 k (by omega) (by omega), upd_n (by omega)]
    rcases f3 with ⟨y3, u3, s3, rfl, v13, v14⟩ | ⟨s3, rfl⟩
    · rw [if_neg z01]
      have b4 := S_b s3
      obtain ⟨i2, r2, k2, n2, f2⟩ := e_addsDays N (j := j) hb.2.1 v13 b4.1
      rw [k2, bd2_s]
      have n2' : ∀ k, k < 10 ∨ 15 < k → i2 k = i k := fun k hk => by rw [n2 k (by omega), n3' k hk]
      rcases f2 with ⟨y2, s2, rfl, w13⟩ | ⟨s2, rfl⟩
      · rw [if_neg z01]
        have b2 := Dy_b s2
        obtain ⟨i1, r1, k1, n1, q1, f1⟩ := e_addsMonths N hN (j := j) (law := law) hb.1 hl w13 b2 (by rw [n2 14 (by omega), v14])
        rw [k1, bd2_s]
        have nn : ∀ k, k < 10 ∨ 15 < k → i1 k = i k := fun k hk => by rw [n1 k hk, n2' k hk]
        rcases f1 with ⟨y1, sh, s1, rfl, y13, y15⟩ | ⟨s1, rfl⟩
        · rw [if_neg z01]
          have b1 := addM_b b2 s1
          refine ⟨i1, zI 1, rfl, nn, Or.inl ⟨y1, u3, sh, ?_, rfl, y13, q1, y15, b1.1, b4.2, b1.2⟩⟩
          unfold sp_add
          simp [s1, s2, s3]
        · rw [if_pos rfl]
          refine ⟨i1, zI 0, rfl, nn, Or.inr ⟨?_, rfl⟩⟩
          unfold sp_add
          simp [s1, s2, s3]
      · rw [if_pos rfl]
        refine ⟨i2, zI 0, rfl, n2', Or.inr ⟨?_, rfl⟩⟩
        unfold sp_add
        simp [s3, s2]
    · rw [if_pos rfl]
      refine ⟨i3, zI 0, rfl, n3', Or.inr ⟨?_, rfl⟩⟩
      unfold sp_add
      simp [s3]
theorem e_addsSpan (N : Nat) (hN : 20000 ≤ N) {i F : Nat → Int32} {j : Nat → Int64} {k : Nat} {m d s n law ord x t : Int} (h : k < 8) (hf : F (3 * k) = zI m) (hg : F (3 * k + 1) = zI d) (he : F (3 * k + 2) = zI s) (hb : sp_b3 (m * n) (d * n) (s * n)) (hb0 : sp_b3 m d s) (hl : 0 ≤ law ∧ law ≤ 3) (ho : 0 ≤ ord ∧ ord ≤ 1) (h13 : i 13 = zI x) (h1 : 0 ≤ x ∧ x ≤ 3652058) (h14 : i 14 = zI t) (h2 : 0 ≤ t ∧ t ≤ 86399) :
    ∃ i' r, fX10_addsSpan N (zI k) (zL n) (zI law) (zI ord) i j F = some (r, i') ∧ (∀ k, k < 10 ∨ 15 < k → i' k = i k) ∧ ((∃ y u sh, sp_add (m * n) (d * n) (s * n) law ord x t = some (y, u, sh) ∧ r = zI 1 ∧ i' 13 = zI y ∧ i' 14 = zI u ∧ i' 15 = zI sh ∧ (0 ≤ y ∧ y ≤ 3652058) ∧ (0 ≤ u ∧ u ≤ 86399) ∧ 0 ≤ sh ∧ sh ≤ 3) ∨ (sp_add (m * n) (d * n) (s * n) law ord x t = none ∧ r = zI 0)) := by
  obtain ⟨i', r, k1, k2, k3⟩ := e_adds N hN (j := j) hb hl ho h13 h1 h14 h2
  refine ⟨i', r, ?_, k2, k3⟩
  unfold fX10_addsSpan
  simp (disch := omega) only [zl_m2147483648, zl_m2000000000, zl_m99999, zl_m10000, zl_m21, zl_m9, zl_m5, zl_m2, zl_m1, zl_0, zl_1, zl_2, zl_3, zl_4, zl_5, zl_6, zl_7, zl_8, zl_9, zl_10, zl_11, zl_12, zl_13, zl_14, zl_15, zl_16, zl_17, zl_18, zl_19, zl_23, zl_24, zl_28, zl_29, zl_30, zl_31, zl_45, zl_48, zl_52, zl_57, zl_58, zl_59, zl_60, zl_84, zl_90, zl_100, zl_101, zl_102, zl_103, zl_104, zl_105, zl_106, zl_107, zl_108, zl_109, zl_110, zl_111, zl_112, zl_113, zl_114, zl_115, zl_116, zl_117, zl_118, zl_119, zl_120, zl_121, zl_127, zl_151, zl_153, zl_181, zl_212, zl_243, zl_255, zl_273, zl_304, zl_306, zl_334, zl_365, zl_400, zl_1000, zl_1023, zl_1100, zl_1460, zl_3600, zl_9999, zl_10000, zl_30000, zl_36524, zl_86399, zl_86400, zl_99999, zl_119999, zl_146096, zl_146097, zl_730119, zl_876215, zl_876216, zl_1000000, zl_3652058, zll_m9223372036854775808, zll_m1000000000, zll_m1000009, zll_m1000002, zll_m10000, zll_m5, zll_m2, zll_m1, zll_0, zll_1, zll_2, zll_3, zll_5, zll_6, zll_7, zll_12, zll_100, zll_255, zll_400, zll_1000, zll_9999, zll_10000, zll_86399, zll_86400, zll_120000, zll_146097, zll_2629746, zll_3652058, zll_1000000000, zll_9218868437227405312, zll_9221120237041090560, nm, bd1_s, bd2_s, bd3_s, bd4_s, bd5_s, bd6_s, if01, gz_1, gz_0, gz_if, cz_lt, cz_le, cz_gt, cz_ge, cz_eq, zI_add, zI_sub, zI_mul, zI_neg, zL_add, zL_sub, zL_mul, zL_neg, zI_lt, zI_le, zI_eq, zL_lt, zL_le, zL_eq, zI_toL, zL_toI, zI_div, zL_div, zI_cl, gi_z, mod_fold, upd_s, upd_n, updL_s, updL_n, ↓reduceIte, Int.reduceLT, Int.reduceLE, Int.reduceEq, Int.reduceAdd, Int.reduceSub, Int.reduceMul, Int.reduceNeg, Int.reduceToNat, eq_self, not_true_eq_false, not_false_eq_true, true_and, false_and, and_true, and_false, true_or, false_or, or_true, or_false, tn1, tn3, tn31, tn32, hf, hg, he, Int.mul_comm n]
  rw [k1, bd2_s]
  rcases k3 with ⟨y, u, sh, -, rfl, -⟩ | ⟨-, rfl⟩
  · rw [gz_1]
  · rw [gz_0]
