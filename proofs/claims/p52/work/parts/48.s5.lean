/-! steps and turns: the class's calls alone -/
def sp_wa (x y k : Int) : Int := if (k - x % 7 + 7) % 7 < (y - x) % 7 then (y - x) / 7 + 1 else (y - x) / 7
def sp_wk (x y : Int) : Int := sp_wa x y 0 + sp_wa x y 1 + sp_wa x y 2 + sp_wa x y 3 + sp_wa x y 4
theorem wa_sum {x y : Int} (h : 0 ≤ x ∧ x ≤ y) : sp_wa x y 0 + sp_wa x y 1 + sp_wa x y 2 + sp_wa x y 3 + sp_wa x y 4 + sp_wa x y 5 + sp_wa x y 6 = y - x := by
  have e : ∀ k : Int, sp_wa x y k = (y - x) / 7 + (if (k - x % 7 + 7) % 7 < (y - x) % 7 then 1 else 0) := by
    intro k; unfold sp_wa; split <;> omega
  rw [e, e, e, e, e, e, e]
  have hr : 0 ≤ x % 7 ∧ x % 7 < 7 := by omega
  obtain ⟨r, hr'⟩ : ∃ r, r = x % 7 := ⟨_, rfl⟩
  obtain ⟨o, ho⟩ : ∃ o, o = (y - x) % 7 := ⟨_, rfl⟩
  rw [← hr', ← ho]
  rw [← hr'] at hr
  rcases (show r = 0 ∨ r = 1 ∨ r = 2 ∨ r = 3 ∨ r = 4 ∨ r = 5 ∨ r = 6 by omega) with h | h | h | h | h | h | h <;> subst h <;> simp only [Int.reduceSub, Int.reduceAdd, Int.reduceMod] <;> (rcases (show o = 0 ∨ o = 1 ∨ o = 2 ∨ o = 3 ∨ o = 4 ∨ o = 5 ∨ o = 6 by omega) with h | h | h | h | h | h | h <;> rw [h] <;> simp only [Int.reduceLT, if_true, if_false, ↓reduceIte] <;> omega)
def sp_ws (x y : Int) : Nat → Int
  | 0 => 0
  | k + 1 => sp_ws x y k + (if k < 5 then sp_wa x y k else 0)
theorem l_workC (N : Nat) {ks : Int32} {f : Nat → Int32} {k1 k2 : Nat} (hk1 : k1 < 8) (hk2 : k2 < 8) {d1 d2 x y : Int} (c1 : f k1 = zI d1) (c2 : f k2 = zI d2) (h : 0 ≤ x ∧ x ≤ y ∧ y ≤ 3652058) (b1 : 0 ≤ d1 ∧ d1 ≤ 3652058) (b2 : 0 ≤ d2 ∧ d2 ≤ 3652058) : ∀ (n k : Nat) (nn : Nat → Int64), k ≤ 7 → (∀ q, q < k → nn q = zL (sp_wa x y q)) → 8 - k ≤ n →
    ∃ nn', fX9_workdays_l88 N ks f n (zI k1) (zI k2) (zI x) (zI ((y - x) / 7)) (zI ((y - x) % 7)) (zI (sp_ws x y k)) (zI k) (zI k) nn = some (zI (if d2 < d1 then -sp_ws x y 7 else sp_ws x y 7), zI 7, nn') ∧ ∀ q : Nat, q < 7 → nn' q = zL (sp_wa x y q) := by
  intro n
  induction n with
  | zero => intro k nn h1 hA hn; omega
  | succ n ih =>
    intro k nn h1 hA hn
    rw [fX9_workdays_l88_s]
    by_cases hd : 7 ≤ k
    · have e7 : k = 7 := by omega
      subst e7
      rw [if_pos (i_ge' (b := 7) (by decide) (by omega)), e_dayAt N f hk2, bd1_s, e_dayAt N f hk1, bd1_s, c1, c2]
      by_cases hc : d1 ≤ d2
      · rw [if_pos (i_le rfl (by omega)), if_neg (by omega)]
        exact ⟨_, rfl, hA⟩
      · rw [if_neg (i_nle rfl (by omega)), if_pos (by omega), zI_neg]
        exact ⟨_, rfl, hA⟩
    · rw [if_neg (i_nge' (b := 7) (by decide) (by omega)), wd_c N (by omega), bd1_s]
      obtain ⟨A, hA'⟩ : ∃ A : Int, A = sp_wa x y k := ⟨_, rfl⟩
      have bA : -10000000 ≤ A ∧ A ≤ 10000000 := by rw [hA']; unfold sp_wa; split <;> omega
      have e1 : (zI k - zI (x % 7) + 7) - (zI k - zI (x % 7) + 7) / 7 * 7 = zI (((k : Int) - x % 7 + 7) % 7) := by
        simp (disch := omega) only [zl_m2000000000, zl_m99999, zl_m10000, zl_m21, zl_m9, zl_m5, zl_m2, zl_m1, zl_0, zl_1, zl_2, zl_3, zl_4, zl_5, zl_6, zl_7, zl_8, zl_9, zl_10, zl_11, zl_12, zl_13, zl_14, zl_15, zl_16, zl_17, zl_18, zl_19, zl_23, zl_24, zl_28, zl_29, zl_30, zl_31, zl_45, zl_48, zl_57, zl_58, zl_59, zl_60, zl_84, zl_100, zl_101, zl_102, zl_103, zl_104, zl_105, zl_106, zl_107, zl_108, zl_109, zl_110, zl_111, zl_112, zl_113, zl_114, zl_115, zl_116, zl_117, zl_118, zl_119, zl_120, zl_121, zl_153, zl_255, zl_306, zl_365, zl_400, zl_1000, zl_1460, zl_3600, zl_9999, zl_10000, zl_30000, zl_36524, zl_86399, zl_86400, zl_99999, zl_119999, zl_146096, zl_146097, zl_1000000, zl_3652058, zll_m1000000000, zll_m1000009, zll_m1000002, zll_m2, zll_m1, zll_0, zll_1, zll_86400, zll_2629746, zll_1000000000, nm, bd1_t, bd2_t, bd3_t, bd4_t, bd5_t, bd6_t, if01, gz_1, gz_0, gz_if, cz_lt, cz_le, cz_gt, cz_ge, cz_eq, zI_add, zI_sub, zI_mul, zI_neg, zL_add, zL_sub, zL_mul, zL_neg, zI_lt, zI_le, zI_eq, zL_lt, zL_le, zL_eq, zI_toL, zL_toI, zI_div, zL_div, zI_cl, gi_z, mod_fold, upd_s, upd_n, updL_s, updL_n, ↓reduceIte, Int.reduceLT, Int.reduceLE, Int.reduceEq, Int.reduceAdd, Int.reduceSub, Int.reduceMul, Int.reduceNeg, Int.reduceToNat, eq_self, not_true_eq_false, not_false_eq_true, true_and, false_and, and_true, and_false, true_or, false_or, or_true, or_false]
      rw [e1, nm_s]
      have c5 : (if zI ((y - x) % 7) ≤ zI (((k : Int) - x % 7 + 7) % 7) then fX9_workdays_j126 N ks f (fX9_workdays_l88 N ks f n) (zI k1) (zI k2) (zI x) (zI ((y - x) / 7)) (zI ((y - x) % 7)) (zI (sp_ws x y k)) (zI k) (zI ((y - x) / 7)) (zI k) nn else fX9_workdays_j126 N ks f (fX9_workdays_l88 N ks f n) (zI k1) (zI k2) (zI x) (zI ((y - x) / 7)) (zI ((y - x) % 7)) (zI (sp_ws x y k)) (zI k) (zI ((y - x) / 7) + 1) (zI k) nn) = fX9_workdays_j126 N ks f (fX9_workdays_l88 N ks f n) (zI k1) (zI k2) (zI x) (zI ((y - x) / 7)) (zI ((y - x) % 7)) (zI (sp_ws x y k)) (zI k) (zI A) (zI k) nn := by
        rw [hA']
        unfold sp_wa
        by_cases hc : ((k : Int) - x % 7 + 7) % 7 < (y - x) % 7
        · rw [if_neg (i_nle rfl (by omega)), if_pos hc, zl_1, zI_add]
        · rw [if_pos (i_le rfl (by omega)), if_neg hc]
      rw [c5]
      unfold fX9_workdays_j126
      rw [e_push N (by omega), bd2_s]
      have e3 : zI k + (1 : Int32) = zI ((k + 1 : Nat) : Int) := by rw [zl_1, zI_add]; rfl
      have hA2 : ∀ q, q < k + 1 → (vp_updL nn k (zI A).toInt64) q = zL (sp_wa x y q) := by
        intro q hq
        by_cases e : q = k
        · subst e; rw [updL_s, zI_toL (by omega) (by omega), hA']
        · rw [updL_n e]; exact hA q (by omega)
      obtain ⟨nn', v1, v2⟩ := ih (k + 1) _ (by omega) hA2 (by omega)
      have ews : sp_ws x y (k + 1) = sp_ws x y k + (if k < 5 then A else 0) := by rw [hA']; rfl
      rw [ews] at v1
      by_cases hs : 5 ≤ k
      · rw [if_neg (by omega), Int.add_zero] at v1
        rw [if_pos (i_ge' (b := 5) (by decide) (by omega)), nm_s, e3]
        exact ⟨nn', v1, v2⟩
      · rw [if_pos (by omega)] at v1
        rw [if_neg (i_nge' (b := 5) (by decide) (by omega)), nm_s, nm_s, e3, zI_add]
        exact ⟨nn', v1, v2⟩
theorem s_workdays (N : Nat) (hN : 200000 ≤ N) {p1 p2 ks tl : Int32} {nn : Nat → Int64} {k1 k2 : Nat} {f g : Nat → Int32} {dd ss : Nat → Int} (hM : DM dd ss f g) (e1 : p1 = zI k1) (e2 : p2 = zI k2) (hk1 : k1 < 8) (hk2 : k2 < 8) :
    ∃ nn', fX9_workdays N p1 p2 ks f tl nn = some (zI (if dd k2 < dd k1 then -sp_ws (min (dd k1) (dd k2)) (max (dd k2) (dd k1)) 7 else sp_ws (min (dd k1) (dd k2)) (max (dd k2) (dd k1)) 7), zI 7, nn') ∧ ∀ q : Nat, q < 7 → nn' q = zL (sp_wa (min (dd k1) (dd k2)) (max (dd k2) (dd k1)) q) := by
  subst e1; subst e2
  obtain ⟨f1, f2, f5, f6⟩ := hM k1 hk1
  obtain ⟨a1, a2, a5, a6⟩ := hM k2 hk2
  unfold fX9_workdays
  rw [c_slot1 N (by omega), bd1_s, if_neg z10, c_slot1 N (by omega), bd1_s, if_neg z10, e_dayAt N f hk1, e_dayAt N f hk2, f1, a1]
  obtain ⟨X, hX⟩ : ∃ X, X = min (dd k1) (dd k2) := ⟨_, rfl⟩
  obtain ⟨Y, hY⟩ : ∃ Y, Y = max (dd k2) (dd k1) := ⟨_, rfl⟩
  have bX : 0 ≤ X ∧ X ≤ Y ∧ Y ≤ 3652058 := by omega
  unfold fX3_begin
  simp (disch := omega) only [bd1_t, nm_t, I_min, I_max]
  rw [← hX, ← hY]
  have e1 : (zI Y - zI X) / 7 = zI ((Y - X) / 7) := by
    simp (disch := omega) only [zl_m2000000000, zl_m99999, zl_m10000, zl_m21, zl_m9, zl_m5, zl_m2, zl_m1, zl_0, zl_1, zl_2, zl_3, zl_4, zl_5, zl_6, zl_7, zl_8, zl_9, zl_10, zl_11, zl_12, zl_13, zl_14, zl_15, zl_16, zl_17, zl_18, zl_19, zl_23, zl_24, zl_28, zl_29, zl_30, zl_31, zl_45, zl_48, zl_57, zl_58, zl_59, zl_60, zl_84, zl_100, zl_101, zl_102, zl_103, zl_104, zl_105, zl_106, zl_107, zl_108, zl_109, zl_110, zl_111, zl_112, zl_113, zl_114, zl_115, zl_116, zl_117, zl_118, zl_119, zl_120, zl_121, zl_153, zl_255, zl_306, zl_365, zl_400, zl_1000, zl_1460, zl_3600, zl_9999, zl_10000, zl_30000, zl_36524, zl_86399, zl_86400, zl_99999, zl_119999, zl_146096, zl_146097, zl_1000000, zl_3652058, zll_m1000000000, zll_m1000009, zll_m1000002, zll_m2, zll_m1, zll_0, zll_1, zll_86400, zll_2629746, zll_1000000000, nm, bd1_t, bd2_t, bd3_t, bd4_t, bd5_t, bd6_t, if01, gz_1, gz_0, gz_if, cz_lt, cz_le, cz_gt, cz_ge, cz_eq, zI_add, zI_sub, zI_mul, zI_neg, zL_add, zL_sub, zL_mul, zL_neg, zI_lt, zI_le, zI_eq, zL_lt, zL_le, zL_eq, zI_toL, zL_toI, zI_div, zL_div, zI_cl, gi_z, mod_fold, upd_s, upd_n, updL_s, updL_n, ↓reduceIte, Int.reduceLT, Int.reduceLE, Int.reduceEq, Int.reduceAdd, Int.reduceSub, Int.reduceMul, Int.reduceNeg, Int.reduceToNat, eq_self, not_true_eq_false, not_false_eq_true, true_and, false_and, and_true, and_false, true_or, false_or, or_true, or_false]
  have e2 : (zI Y - zI X) - zI ((Y - X) / 7) * 7 = zI ((Y - X) % 7) := by
    simp (disch := omega) only [zl_m2000000000, zl_m99999, zl_m10000, zl_m21, zl_m9, zl_m5, zl_m2, zl_m1, zl_0, zl_1, zl_2, zl_3, zl_4, zl_5, zl_6, zl_7, zl_8, zl_9, zl_10, zl_11, zl_12, zl_13, zl_14, zl_15, zl_16, zl_17, zl_18, zl_19, zl_23, zl_24, zl_28, zl_29, zl_30, zl_31, zl_45, zl_48, zl_57, zl_58, zl_59, zl_60, zl_84, zl_100, zl_101, zl_102, zl_103, zl_104, zl_105, zl_106, zl_107, zl_108, zl_109, zl_110, zl_111, zl_112, zl_113, zl_114, zl_115, zl_116, zl_117, zl_118, zl_119, zl_120, zl_121, zl_153, zl_255, zl_306, zl_365, zl_400, zl_1000, zl_1460, zl_3600, zl_9999, zl_10000, zl_30000, zl_36524, zl_86399, zl_86400, zl_99999, zl_119999, zl_146096, zl_146097, zl_1000000, zl_3652058, zll_m1000000000, zll_m1000009, zll_m1000002, zll_m2, zll_m1, zll_0, zll_1, zll_86400, zll_2629746, zll_1000000000, nm, bd1_t, bd2_t, bd3_t, bd4_t, bd5_t, bd6_t, if01, gz_1, gz_0, gz_if, cz_lt, cz_le, cz_gt, cz_ge, cz_eq, zI_add, zI_sub, zI_mul, zI_neg, zL_add, zL_sub, zL_mul, zL_neg, zI_lt, zI_le, zI_eq, zL_lt, zL_le, zL_eq, zI_toL, zL_toI, zI_div, zL_div, zI_cl, gi_z, mod_fold, upd_s, upd_n, updL_s, updL_n, ↓reduceIte, Int.reduceLT, Int.reduceLE, Int.reduceEq, Int.reduceAdd, Int.reduceSub, Int.reduceMul, Int.reduceNeg, Int.reduceToNat, eq_self, not_true_eq_false, not_false_eq_true, true_and, false_and, and_true, and_false, true_or, false_or, or_true, or_false]
  rw [e1, e2]
  obtain ⟨nn', v1, v2⟩ := l_workC N (ks := ks) hk1 hk2 f1 a1 bX f5 a5 N 0 nn (by omega) (fun q hq => by omega) (by omega)
  exact ⟨nn', v1, v2⟩
theorem l_shiftC (N : Nat) {ks : Int32} {k1 k3 : Nat} (hk1 : k1 < 8) (hk3 : k3 < 8) {f g : Nat → Int32} {tl : Int32} {nn : Nat → Int64} {dd ss : Nat → Int} (hM : DM dd ss f g) {x : Int} (hx : 0 ≤ x ∧ x ≤ 3652058) : ∀ (n : Nat) (w left y ps : Int), (0 ≤ left ∧ left ≤ 5) → (0 ≤ y ∧ y ≤ 3652058) → y - x = (5 - left) + ps → ps = (y + 2) / 7 - (x + 2) / 7 + ((y + 1) / 7 - (x + 1) / 7) → (left = 0 → y % 7 ≤ 4) → (left = 5 ∧ y = x ∨ x < y) → w = y - x → y - x ≤ 20 → 20 - w < n →
    ∃ (r : Int32) (f' g' : Nat → Int32) (tl' : Int32) (nn' : Nat → Int64), fX9_shifts_l63 N ks n (zI k1) (zI k3) (zI 1) (zI left) (zI y) (zI ps) (zI w) f g tl nn = some (r, f', g', tl', nn') ∧ ((r = zI (-2) ∧ DM dd ss f' g') ∨ ∃ z, r = zI z ∧ (0 ≤ z ∧ z ≤ 3652058) ∧ DM (zup dd k3 z) (zup ss k3 (ss k1)) f' g' ∧ z % 7 ≤ 4 ∧ (5 ≤ z - x ∧ z - x ≤ 8) ∧ nn' 0 = zL (z - x - 5) ∧ tl' = zI 1) := by
  obtain ⟨f1, f2, f5, f6⟩ := hM k1 hk1
  intro n
  induction n with
  | zero => intros; omega
  | succ n ih =>
    intro w left y ps hl hy h1 h2 h3 h4 h5 h6 hn
    rw [fX9_shifts_l63_s, if_neg (i_nge' (b := 30000) (by decide) (by omega))]
    by_cases h0 : left ≤ 0
    · rw [if_pos (i_le (b := 0) (by decide) (by omega))]
      unfold fX9_shifts_j118
      rw [e_secondAt N g hk1, bd1_s, f2, e_putMoment N _ _ _ _ hk3, bd2_s, e_tell1, bd2_s]
      have e0 := h3 (by omega)
      exact ⟨_, _, _, _, _, rfl, Or.inr ⟨y, rfl, hy, hM.up hy f6, e0, by omega, by rw [updL_s, zI_toL (by omega) (by omega)]; congr 1; omega, rfl⟩⟩
    · rw [if_neg (i_nle (b := 0) (by decide) (by omega)), zI_add, nm_s]
      by_cases hd : 0 ≤ y + 1 ∧ y + 1 ≤ 3652058
      · rw [c_day1 N hd, bd1_s, if_neg z10, wd_c N (by omega), bd1_s]
        by_cases hw : 5 ≤ (y + 1) % 7
        · rw [if_pos (i_ge' (b := 5) (by decide) (by omega)), nm_s, nm_s, zl_1, zI_add, zI_add]
          exact ih (w + 1) left (y + 1) (ps + 1) hl hd (by omega) (by omega) (by omega) (by omega) (by omega) (by omega) (by omega)
        · rw [if_neg (i_nge' (b := 5) (by decide) (by omega)), nm_s, nm_s, zl_m1, zl_1, zI_add, zI_add]
          exact ih (w + 1) (left + -1) (y + 1) ps (by omega) hd (by omega) (by omega) (by omega) (by omega) (by omega) (by omega) (by omega)
      · rw [c_day0 N (by omega) (by omega) hd, bd1_s, if_pos z00]
        exact ⟨_, _, _, _, _, rfl, Or.inl ⟨zl_m2, hM⟩⟩
theorem s_shifts (N : Nat) (hN : 200000 ≤ N) {p1 p3 ks tl : Int32} {nn : Nat → Int64} {k1 k3 : Nat} {f g : Nat → Int32} {dd ss : Nat → Int} (hM : DM dd ss f g) (e1 : p1 = zI k1) (e3 : p3 = zI k3) (hk1 : k1 < 8) (hk3 : k3 < 8) :
    ∃ (r : Int32) (f' g' : Nat → Int32) (tl' : Int32) (nn' : Nat → Int64), fX9_shifts N p1 5 p3 ks f g tl nn = some (r, f', g', tl', nn') ∧ ((r = zI (-2) ∧ DM dd ss f' g') ∨ ∃ z, r = zI z ∧ (0 ≤ z ∧ z ≤ 3652058) ∧ DM (zup dd k3 z) (zup ss k3 (ss k1)) f' g' ∧ z % 7 ≤ 4 ∧ (5 ≤ z - dd k1 ∧ z - dd k1 ≤ 8) ∧ nn' 0 = zL (z - dd k1 - 5) ∧ tl' = zI 1) := by
  subst e1; subst e3
  obtain ⟨f1, f2, f5, f6⟩ := hM k1 hk1
  unfold fX9_shifts
  rw [c_slot1 N (by omega), bd1_s, if_neg z10, if_neg (by decide), if_neg (by decide), c_slot1 N (by omega), bd1_s, if_neg z10, if_pos (by decide)]
  unfold fX9_shifts_j39
  rw [if_pos (by decide), nm_s, e_dayAt N f hk1, bd1_s, f1, zl_1, zl_5, zl_0]
  exact l_shiftC N (ks := ks) (tl := tl) (nn := nn) hk1 hk3 hM f5 N 0 5 (dd k1) 0 (by omega) f5 (by omega) (by omega) (by omega) (by omega) (by omega) (by omega) (by omega)
theorem s_overlaps (N : Nat) {p1 p2 p3 p4 ks tl : Int32} {nn : Nat → Int64} {k1 k2 k3 k4 : Nat} {f g : Nat → Int32} {dd ss : Nat → Int} (hM : DM dd ss f g) (e1 : p1 = zI k1) (e2 : p2 = zI k2) (e3 : p3 = zI k3) (e4 : p4 = zI k4) (hk1 : k1 < 8) (hk2 : k2 < 8) (hk3 : k3 < 8) (hk4 : k4 < 8) {A B C D : Int} (hA : A = dd k1 * 86400 + ss k1) (hB : B = dd k2 * 86400 + ss k2) (hC : C = dd k3 * 86400 + ss k3) (hD : D = dd k4 * 86400 + ss k4) :
    ∃ nn', fX9_overlaps N p1 p2 p3 p4 ks f g tl nn = some (zL (max (min (max A B) (max C D) - max (min A B) (min C D)) 0), zI 2, nn') ∧ nn' 1 = zL (max (max (min A B) (min C D) - min (max A B) (max C D)) 0) := by
  subst e1; subst e2; subst e3; subst e4
  obtain ⟨f1, f2, f5, f6⟩ := hM k1 hk1
  obtain ⟨a1, a2, a5, a6⟩ := hM k2 hk2
  obtain ⟨b1, b2, b5, b6⟩ := hM k3 hk3
  obtain ⟨c1, c2, c5, c6⟩ := hM k4 hk4
  unfold fX9_overlaps
  rw [c_slot1 N (by omega), bd1_s, if_neg z10, c_slot1 N (by omega), bd1_s, if_neg z10, c_slot1 N (by omega), bd1_s, if_neg z10, c_slot1 N (by omega), bd1_s, if_neg z10]
  rw [e_instantAt N f g hk1 f1 f2 (by omega) (by omega), e_instantAt N f g hk2 a1 a2 (by omega) (by omega), e_instantAt N f g hk3 b1 b2 (by omega) (by omega), e_instantAt N f g hk4 c1 c2 (by omega) (by omega)]
  rw [← hA, ← hB, ← hC, ← hD]
  simp (disch := omega) only [bd1_s, nm_s, L_min, L_max, zll_0, L_pos, L_pos2, zL_sub, e_tell2, bd2_s]
  refine ⟨_, rfl, ?_⟩
  rw [updL_s]
def sp_lp (X Z : Int) : Nat → Int → Int
  | 0, _ => 0
  | n + 1, y => (if sp_leap y ∧ X ≤ sp_dn y 2 29 ∧ sp_dn y 2 29 ≤ Z then 1 else 0) + sp_lp X Z n (y + 1)
theorem lp_b (X Z : Int) : ∀ (n : Nat) (y : Int), 1 ≤ y → 0 ≤ sp_lp X Z n y ∧ sp_lp X Z n y ≤ ((y + n - 1) / 4 - (y + n - 1) / 100 + (y + n - 1) / 400) - ((y - 1) / 4 - (y - 1) / 100 + (y - 1) / 400)
  | 0, y, h => by
    have e : sp_lp X Z 0 y = 0 := rfl
    rw [e]
    omega
  | n + 1, y, h => by
    have e : sp_lp X Z (n + 1) y = (if sp_leap y ∧ X ≤ sp_dn y 2 29 ∧ sp_dn y 2 29 ≤ Z then 1 else 0) + sp_lp X Z n (y + 1) := rfl
    have ih := lp_b X Z n (y + 1) (by omega)
    rw [show y + 1 + (n : Int) - 1 = y + ((n + 1 : Nat) : Int) - 1 by omega, show y + 1 - 1 = y by omega] at ih
    rw [e]
    by_cases hl : sp_leap y
    · have : y / 4 - y / 100 + y / 400 = (y - 1) / 4 - (y - 1) / 100 + (y - 1) / 400 + 1 := by unfold sp_leap at hl; omega
      split <;> omega
    · have : y / 4 - y / 100 + y / 400 = (y - 1) / 4 - (y - 1) / 100 + (y - 1) / 400 := by unfold sp_leap at hl; omega
      rw [if_neg (fun h => hl h.1)]
      omega
theorem l_leapC (N : Nat) {ks : Int32} {f : Nat → Int32} {tl : Int32} {nn : Nat → Int64} {x z Y : Int} (hx : 0 ≤ x ∧ x ≤ 3652058) (hz : 0 ≤ z ∧ z ≤ 3652058) (hY : 1 ≤ Y ∧ Y ≤ 9999) : ∀ (n m : Nat) (y c : Int) (fi la : Int32), 1 ≤ y → y + m = Y + 1 → (0 ≤ c ∧ c ≤ y) → m < n →
    ∃ (tl' : Int32) (nn' : Nat → Int64), fX9_leaps_l87 N ks f n (zI x) (zI z) (zI Y) (zI c) fi la (zI y) tl nn = some (zI (c + sp_lp x z m y), tl', nn') := by
  intro n
  induction n with
  | zero => intros; omega
  | succ n ih =>
    intro m y c fi la hy hm hc hn
    rw [fX9_leaps_l87_s]
    cases m with
    | zero =>
      rw [if_pos (i_lt rfl (by omega)), e_tell2, bd2_s]
      rw [show c + sp_lp x z 0 y = c by show c + 0 = c; omega]
      exact ⟨_, _, rfl⟩
    | succ m =>
      have b := dn_b (y := y) (m := 2) (by omega) (by omega) (by omega) (by omega)
      have e29 : sp_dn y 2 29 = sp_dn y 2 1 + 28 := by unfold sp_dn; omega
      have bm := mlen_b y 2
      have el : sp_lp x z (m + 1) y = (if sp_leap y ∧ x ≤ sp_dn y 2 29 ∧ sp_dn y 2 29 ≤ z then 1 else 0) + sp_lp x z m (y + 1) := rfl
      rw [if_neg (i_nlt (a := Y) (b := y) rfl (by omega)), show (2 : Int32) = zI 2 from zl_2, show (29 : Int32) = zI 29 from zl_29, e_dn N (by omega) (by omega) (by omega) (by omega) (by omega) (by omega), bd1_s, e_isLeap N (by omega) (by omega), bd1_s, el]
      have c1 : zI y + (1 : Int32) = zI (y + 1) := by rw [zl_1, zI_add]
      by_cases hl : sp_leap y
      · rw [if_pos hl, if_neg z10]
        by_cases h1 : sp_dn y 2 29 < x
        · rw [if_pos (i_lt rfl (by omega)), nm_s, c1, if_neg (by omega)]
          obtain ⟨tl', nn', v⟩ := ih m (y + 1) c fi la (by omega) (by omega) (by omega) (by omega)
          exact ⟨tl', nn', by rw [v, Int.zero_add]⟩
        · rw [if_neg (i_nlt rfl (by omega))]
          by_cases h2 : z < sp_dn y 2 29
          · rw [if_pos (i_lt rfl (by omega)), nm_s, c1, if_neg (by omega)]
            obtain ⟨tl', nn', v⟩ := ih m (y + 1) c fi la (by omega) (by omega) (by omega) (by omega)
            exact ⟨tl', nn', by rw [v, Int.zero_add]⟩
          · rw [if_neg (i_nlt rfl (by omega)), if_pos (show sp_leap y ∧ x ≤ sp_dn y 2 29 ∧ sp_dn y 2 29 ≤ z from ⟨hl, by omega, by omega⟩)]
            by_cases h3 : c = 0
            · rw [if_pos (i_eq (b := 0) (by decide) h3), nm_s, nm_s, c1, zl_1, zI_add]
              obtain ⟨tl', nn', v⟩ := ih m (y + 1) (c + 1) (zI (sp_dn y 2 29)) (zI (sp_dn y 2 29)) (by omega) (by omega) (by omega) (by omega)
              exact ⟨tl', nn', by rw [v, show c + (1 + sp_lp x z m (y + 1)) = c + 1 + sp_lp x z m (y + 1) by omega]⟩
            · rw [if_neg (i_neq (b := 0) (by decide) (by omega)), nm_s, nm_s, c1, zl_1, zI_add]
              obtain ⟨tl', nn', v⟩ := ih m (y + 1) (c + 1) fi (zI (sp_dn y 2 29)) (by omega) (by omega) (by omega) (by omega)
              exact ⟨tl', nn', by rw [v, show c + (1 + sp_lp x z m (y + 1)) = c + 1 + sp_lp x z m (y + 1) by omega]⟩
      · rw [if_neg hl, if_pos z00, nm_s, c1, if_neg (fun h => hl h.1)]
        obtain ⟨tl', nn', v⟩ := ih m (y + 1) c fi la (by omega) (by omega) (by omega) (by omega)
        exact ⟨tl', nn', by rw [v, Int.zero_add]⟩
def sp_leaps (X Z : Int) : Int := sp_lp X Z (sp_Y Z - sp_Y X + 1).toNat (sp_Y X)
theorem s_leaps (N : Nat) (hN : 200000 ≤ N) {p1 p2 ks tl : Int32} {nn : Nat → Int64} {k1 k2 : Nat} {f g : Nat → Int32} {dd ss : Nat → Int} (hM : DM dd ss f g) (e1 : p1 = zI k1) (e2 : p2 = zI k2) (hk1 : k1 < 8) (hk2 : k2 < 8) :
    ∃ tl' nn', fX9_leaps N p1 p2 ks f tl nn = some (zI (sp_leaps (min (dd k1) (dd k2)) (max (dd k2) (dd k1))), tl', nn') := by
  subst e1; subst e2
  obtain ⟨f1, f2, f5, f6⟩ := hM k1 hk1
  obtain ⟨a1, a2, a5, a6⟩ := hM k2 hk2
  unfold fX9_leaps
  rw [c_slot1 N (by omega), bd1_s, if_neg z10, c_slot1 N (by omega), bd1_s, if_neg z10, e_dayAt N f hk1, e_dayAt N f hk2, f1, a1]
  obtain ⟨X, hX⟩ : ∃ X, X = min (dd k1) (dd k2) := ⟨_, rfl⟩
  obtain ⟨Y, hY⟩ : ∃ Y, Y = max (dd k2) (dd k1) := ⟨_, rfl⟩
  have bX : 0 ≤ X ∧ X ≤ Y ∧ Y ≤ 3652058 := by omega
  simp (disch := omega) only [bd1_t, nm_t, I_min, I_max]
  rw [← hX, ← hY]
  obtain ⟨g4, g5, g6, g7⟩ := sp_all (x := X) (by omega) (by omega)
  obtain ⟨g4', g5', g6', g7'⟩ := sp_all (x := Y) (by omega) (by omega)
  obtain ⟨d1, -⟩ := ymd (x := X) (by omega) (by omega)
  obtain ⟨d1', -⟩ := ymd (x := Y) (by omega) (by omega)
  have bm := mlen_b (sp_Y X) (sp_M X)
  have bm' := mlen_b (sp_Y Y) (sp_M Y)
  have le : sp_Y X ≤ sp_Y Y := by
    obtain ⟨i1, i2, -⟩ := sp_in (x := X) (by omega) (by omega)
    obtain ⟨j1, j2, -⟩ := sp_in (x := Y) (by omega) (by omega)
    apply Int.not_lt.mp
    intro h
    have := yb_le (a := sp_Y Y + 1) (b := sp_Y X) (by omega)
    omega
  rw [e_dateOf N (by omega) (by omega), e_dateOf N (by omega) (by omega)]
  simp only [bd1_t]
  rw [zl_10000, zI_div (by omega) (by omega) (by omega) (by omega), zI_div (by omega) (by omega) (by omega) (by omega), d1, d1', zl_0]
  obtain ⟨tl', nn', v⟩ := l_leapC N (ks := ks) (f := f) (tl := tl) (nn := nn) (x := X) (z := Y) (Y := sp_Y Y) (by omega) (by omega) g4' N (sp_Y Y - sp_Y X + 1).toNat (sp_Y X) 0 (-1 : Int32) (-1 : Int32) (by omega) (by omega) (by omega) (by omega)
  exact ⟨tl', nn', by rw [v, Int.zero_add]; rfl⟩
theorem leaps_b {X Z : Int} (hX : 0 ≤ X ∧ X ≤ 3652058) (hZ : 0 ≤ Z ∧ Z ≤ 3652058) (h : X ≤ Z) : 0 ≤ sp_leaps X Z ∧ sp_leaps X Z ≤ 2426 := by
  obtain ⟨g4, -⟩ := sp_all hX.1 hX.2
  obtain ⟨g4', -⟩ := sp_all hZ.1 hZ.2
  have := lp_b X Z (sp_Y Z - sp_Y X + 1).toNat (sp_Y X) (by omega)
  unfold sp_leaps
  omega
def sp_whole (X Y : Int) : Int := if (if X ≤ sp_first (sp_mi X) then sp_mi X else sp_mi X + 1) < sp_mi Y then sp_mi Y - (if X ≤ sp_first (sp_mi X) then sp_mi X else sp_mi X + 1) else 0
theorem s_whole (N : Nat) {p1 p2 ks tl : Int32} {nn : Nat → Int64} {k1 k2 : Nat} {f g : Nat → Int32} {dd ss : Nat → Int} (hM : DM dd ss f g) (e1 : p1 = zI k1) (e2 : p2 = zI k2) (hk1 : k1 < 8) (hk2 : k2 < 8) :
    ∃ tl' nn', fX9_whole N p1 p2 ks f tl nn = some (zI (sp_whole (min (dd k1) (dd k2)) (max (dd k2) (dd k1))), tl', nn') := by
  subst e1; subst e2
  obtain ⟨f1, f2, f5, f6⟩ := hM k1 hk1
  obtain ⟨a1, a2, a5, a6⟩ := hM k2 hk2
  unfold fX9_whole
  rw [c_slot1 N (by omega), bd1_s, if_neg z10, c_slot1 N (by omega), bd1_s, if_neg z10, e_dayAt N f hk1, e_dayAt N f hk2, f1, a1]
  obtain ⟨X, hX⟩ : ∃ X, X = min (dd k1) (dd k2) := ⟨_, rfl⟩
  obtain ⟨Y, hY⟩ : ∃ Y, Y = max (dd k2) (dd k1) := ⟨_, rfl⟩
  have bX : 0 ≤ X ∧ X ≤ Y ∧ Y ≤ 3652058 := by omega
  simp (disch := omega) only [bd1_t, nm_t, I_min, I_max]
  rw [← hX, ← hY]
  obtain ⟨x1, x2, x3, x4, x5⟩ := mi_all (x := X) (by omega) (by omega)
  obtain ⟨y1, y2, y3, y4, y5⟩ := mi_all (x := Y) (by omega) (by omega)
  have mX : fX1_monthOf N (zI X) = some (zI (sp_mi X)) := e_monthOf N (by omega) (by omega)
  have mY : fX1_monthOf N (zI Y) = some (zI (sp_mi Y)) := e_monthOf N (by omega) (by omega)
  have fX := first_b (g := sp_mi X) (by omega) (by omega)
  rw [mX, bd1_s, e_firstOf N (by omega) (by omega), bd1_s]
  have fin : ∀ F : Int, 12 ≤ F → F ≤ 120000 → F = (if X ≤ sp_first (sp_mi X) then sp_mi X else sp_mi X + 1) → ∃ tl' nn', fX9_whole_j75 N ks f (zI X) (zI Y) (zI F) tl nn = some (zI (sp_whole X Y), tl', nn') := by
    intro F h1 h2 hF
    unfold fX9_whole_j75 sp_whole
    rw [← hF, mY, bd1_s]
    by_cases h : F < sp_mi Y
    · rw [if_pos (i_lt rfl (by omega)), if_pos h, e_firstOf N (by omega) (by omega), bd1_s, e_firstOf N (by omega) (by omega), bd1_s, e_tell2, bd2_s, zI_sub]
      exact ⟨_, _, rfl⟩
    · rw [if_neg (i_nlt rfl (by omega)), if_neg h, e_tell2, bd2_s]
      exact ⟨_, _, by rw [zl_0]⟩
  by_cases h : X ≤ sp_first (sp_mi X)
  · rw [if_pos (i_le rfl (by omega))]
    exact fin _ (by omega) (by omega) (by rw [if_pos h])
  · rw [if_neg (i_nle rfl (by omega)), zl_1, zI_add]
    exact fin _ (by omega) (by omega) (by rw [if_neg h])
theorem whole_b {X Z : Int} (hX : 0 ≤ X ∧ X ≤ 3652058) (hZ : 0 ≤ Z ∧ Z ≤ 3652058) : 0 ≤ sp_whole X Z ∧ sp_whole X Z ≤ 120000 := by
  obtain ⟨x1, -⟩ := mi_all hX.1 hX.2
  obtain ⟨y1, -⟩ := mi_all hZ.1 hZ.2
  unfold sp_whole
  repeat' split
  all_goals omega
theorem fd_le {w x : Int} (h : 0 ≤ x ∧ x ≤ 3652058) : sp_fd w x ≤ x := by
  obtain ⟨g4, g5, g6, g7⟩ := sp_all h.1 h.2
  have := yb_b h.1 h.2
  unfold sp_fd
  repeat' split
  all_goals omega
theorem s_floors (N : Nat) {p1 p2 p3 ks tl : Int32} {nn : Nat → Int64} {k1 k3 : Nat} {w : Int} {f g : Nat → Int32} {dd ss : Nat → Int} (hM : DM dd ss f g) (e1 : p1 = zI k1) (e2 : p2 = zI w) (e3 : p3 = zI k3) (hk1 : k1 < 8) (hk3 : k3 < 8) (hw : 0 ≤ w ∧ w ≤ 5) :
    ∃ x t f' g' nn', fX9_floors N p1 p2 p3 ks f g tl nn = some (zI x, f', g', zI 2, nn') ∧ DM (zup dd k3 x) (zup ss k3 t) f' g' ∧ (0 ≤ x ∧ x ≤ dd k1) ∧ (0 ≤ t ∧ t ≤ 86399) ∧ nn' 1 = zL (dd k1 * 86400 + ss k1 - (x * 86400 + t)) := by
  subst e1; subst e2; subst e3
  obtain ⟨f1, f2, f5, f6⟩ := hM k1 hk1
  have b1 := fd_b (w := w) f5
  have b2 := fs_b (w := w) f6
  have b3 := fd_le (w := w) f5
  unfold fX9_floors
  rw [c_slot1 N (by omega), bd1_s, if_neg z10, if_neg (i_nlt (b := 0) (by decide) (by omega)), if_neg (i_ngt (b := 5) (by decide) (by omega)), c_slot1 N (by omega), bd1_s, if_neg z10]
  rw [e_instantAt N f g hk1 f1 f2 (by omega) (by omega), bd1_s, e_dayAt N f hk1, bd1_s, e_secondAt N g hk1, bd1_s, f1, f2, e_floorOf N f5 f6 hw, bd1_s, e_putInstant N f g hk3 b1 b2, bd2_s, e_secondAt N _ hk3, bd1_s, upd_s, e_tell2, bd2_s, e_dayAt N _ hk3, bd1_s, upd_s, zL_sub]
  exact ⟨_, _, _, _, _, rfl, hM.up b1 b2, ⟨b1.1, b3⟩, b2, updL_s⟩
theorem s_part (N : Nat) {p1 p2 p3 p4 p5 ks tl : Int32} {nn : Nat → Int64} {k1 k2 k5 : Nat} {k n : Int} {f g : Nat → Int32} {dd ss : Nat → Int} (hM : DM dd ss f g) (e1 : p1 = zI k1) (e2 : p2 = zI k2) (e3 : p3 = zI k) (e4 : p4 = zI n) (e5 : p5 = zI k5) (hk1 : k1 < 8) (hk2 : k2 < 8) (hk5 : k5 < 8) (hk : 0 ≤ k ∧ k ≤ n) (hn : 1 ≤ n ∧ n ≤ 1000) {x t : Int} (hx : 0 ≤ x ∧ x ≤ 3652058) (ht : 0 ≤ t ∧ t ≤ 86399) (hr : dd k1 * 86400 + ss k1 + ((dd k2 * 86400 + ss k2 - (dd k1 * 86400 + ss k1)) * k).tdiv n = x * 86400 + t) :
    ∃ f' g' tl' nn', fX9_part N p1 p2 p3 p4 p5 ks f g tl nn = some (zI x, f', g', tl', nn') ∧ DM (zup dd k5 x) (zup ss k5 t) f' g' := by
  subst e1; subst e2; subst e3; subst e4; subst e5
  obtain ⟨f1, f2, f5, f6⟩ := hM k1 hk1
  obtain ⟨a1, a2, a5, a6⟩ := hM k2 hk2
  have pk := part_key (A := dd k1 * 86400 + ss k1) (B := dd k2 * 86400 + ss k2) (by omega) (by omega) hk hn
  unfold fX9_part
  rw [c_slot1 N (by omega), bd1_s, if_neg z10, c_slot1 N (by omega), bd1_s, if_neg z10, if_neg (i_nlt (b := 1) (by decide) (by omega)), if_neg (i_ngt (b := 1000) (by decide) (by omega)), if_neg (i_nlt (b := 0) (by decide) (by omega)), if_neg (i_ngt rfl (by omega)), c_slot1 N (by omega), bd1_s, if_neg z10]
  rw [e_instantAt N f g hk1 f1 f2 (by omega) (by omega), e_instantAt N f g hk2 a1 a2 (by omega) (by omega)]
  rw [zI_toL (by omega) (by omega), zI_toL (by omega) (by omega)]
  obtain ⟨A, hA⟩ : ∃ A, A = dd k1 * 86400 + ss k1 := ⟨_, rfl⟩
  obtain ⟨B, hB⟩ : ∃ B, B = dd k2 * 86400 + ss k2 := ⟨_, rfl⟩
  rw [← hA, ← hB] at pk ⊢
  rw [← hA, ← hB] at hr
  obtain ⟨Q, hQ⟩ : ∃ Q, Q = ((B - A) * k).tdiv n := ⟨_, rfl⟩
  have dv : (zL B - zL A) * zL k / zL n = zL Q := by
    rw [zL_sub, zL_mul, zL_tdiv (by omega) (by omega) (by omega) (by omega), hQ]
  rw [← hQ] at pk hr
  simp only [bd1_s]
  rw [gnl_z (by omega) (by omega), dv, nm_s, zL_add, hr, e_putInstant N f g hk5 hx ht, bd2_s, e_secondAt N _ hk5, bd1_s, upd_s, e_tell1, bd2_s, e_dayAt N _ hk5, bd1_s, upd_s]
  exact ⟨_, _, _, _, rfl, hM.up hx ht⟩
theorem s_nth (N : Nat) {p1 p2 p3 p4 ks : Int32} {x : Int} (hx : 0 ≤ x ∧ x ≤ 3652058) (e1 : p1 = zI (sp_Y x)) (e2 : p2 = zI (sp_M x)) (e3 : p3 = zI (x % 7)) (e4 : p4 = zI (1 + (sp_D x - 1) / 7)) : fX9_nth N p1 p2 p3 p4 ks = some (zI x) := by
  subst e1; subst e2; subst e3; subst e4
  obtain ⟨g4, g5, g6, g7⟩ := sp_all hx.1 hx.2
  have b := dn_b g4.1 g4.2 g5.1 g5.2
  have b2 := mlen_b (sp_Y x) (sp_M x)
  obtain ⟨a1, a2, a3⟩ := sp_in hx.1 hx.2
  unfold fX9_nth
  rw [c_year1 N g4, bd1_s, if_neg z10, c_month1 N g5, bd1_s, if_neg z10, c_wd1 N (by omega), bd1_s, if_neg z10, if_neg (i_neq (b := 0) (by decide) (by omega)), if_neg (i_nlt (b := -5) (by decide) (by omega)), if_pos (i_le (b := 5) (by decide) (by omega))]
  rw [show (1 : Int32) = zI 1 from zl_1, e_dn N (by omega) (by omega) (by omega) (by omega) (by omega) (by omega), bd1_s, e_mlen N (by omega) (by omega) (by omega) (by omega), bd1_s, zI_add, zI_sub, nm_s]
  have eA : sp_dn (sp_Y x) (sp_M x) 1 = x - sp_D x + 1 := by
    have := sp_dn_am (sp_Y x) (sp_M x) 1
    omega
  rw [eA] at b ⊢
  obtain ⟨D, hD⟩ : ∃ D, D = sp_D x := ⟨_, rfl⟩
  obtain ⟨L, hL⟩ : ∃ L, L = sp_mlen (sp_Y x) (sp_M x) := ⟨_, rfl⟩
  rw [← hD, ← hL] at g6
  rw [← hD, ← hL] at b
  rw [← hL] at b2
  rw [← hD, ← hL]
  rw [if_neg (i_nle (b := 0) (by decide) (by omega)), wd_c N (by omega), bd1_s]
  have e1 : (zI (x - D + 1) + ((zI (x % 7) - zI ((x - D + 1) % 7) + 7) - (zI (x % 7) - zI ((x - D + 1) % 7) + 7) / 7 * 7)) + 7 * (zI (1 + (D - 1) / 7) - zI 1) = zI (x - D + 1 + (x % 7 - (x - D + 1) % 7 + 7) % 7 + 7 * (1 + (D - 1) / 7 - 1)) := by
    simp (disch := omega) only [zl_m2000000000, zl_m99999, zl_m10000, zl_m21, zl_m9, zl_m5, zl_m2, zl_m1, zl_0, zl_1, zl_2, zl_3, zl_4, zl_5, zl_6, zl_7, zl_8, zl_9, zl_10, zl_11, zl_12, zl_13, zl_14, zl_15, zl_16, zl_17, zl_18, zl_19, zl_23, zl_24, zl_28, zl_29, zl_30, zl_31, zl_45, zl_48, zl_57, zl_58, zl_59, zl_60, zl_84, zl_100, zl_101, zl_102, zl_103, zl_104, zl_105, zl_106, zl_107, zl_108, zl_109, zl_110, zl_111, zl_112, zl_113, zl_114, zl_115, zl_116, zl_117, zl_118, zl_119, zl_120, zl_121, zl_153, zl_255, zl_306, zl_365, zl_400, zl_1000, zl_1460, zl_3600, zl_9999, zl_10000, zl_30000, zl_36524, zl_86399, zl_86400, zl_99999, zl_119999, zl_146096, zl_146097, zl_1000000, zl_3652058, zll_m1000000000, zll_m1000009, zll_m1000002, zll_m2, zll_m1, zll_0, zll_1, zll_86400, zll_2629746, zll_1000000000, nm, bd1_s, bd2_s, bd3_s, bd4_s, bd5_s, bd6_s, if01, gz_1, gz_0, gz_if, cz_lt, cz_le, cz_gt, cz_ge, cz_eq, zI_add, zI_sub, zI_mul, zI_neg, zL_add, zL_sub, zL_mul, zL_neg, zI_lt, zI_le, zI_eq, zL_lt, zL_le, zL_eq, zI_toL, zL_toI, zI_div, zL_div, zI_cl, gi_z, mod_fold, upd_s, upd_n, updL_s, updL_n, ↓reduceIte, Int.reduceLT, Int.reduceLE, Int.reduceEq, Int.reduceAdd, Int.reduceSub, Int.reduceMul, Int.reduceNeg, Int.reduceToNat, eq_self, not_true_eq_false, not_false_eq_true, true_and, false_and, and_true, and_false, true_or, false_or, or_true, or_false]
  have e2 : x - D + 1 + (x % 7 - (x - D + 1) % 7 + 7) % 7 + 7 * (1 + (D - 1) / 7 - 1) = x := by omega
  rw [e1, e2]
  unfold fX9_nth_j117
  rw [if_neg (i_nlt rfl (by omega)), if_pos (i_le rfl (by omega))]
