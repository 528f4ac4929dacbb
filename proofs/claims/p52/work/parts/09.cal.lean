/-! the calendar: days, years, months -/
abbrev sp_leap (y : Int) : Prop := (y % 4 = 0 ∧ y % 100 ≠ 0) ∨ y % 400 = 0
def sp_mlen (y m : Int) : Int := if m = 2 then (if sp_leap y then 29 else 28) else if m = 4 ∨ m = 6 ∨ m = 9 ∨ m = 11 then 30 else 31
def sp_ahead (m : Int) : Int := if m = 1 then 0 else if m = 2 then 31 else if m = 3 then 59 else if m = 4 then 90 else if m = 5 then 120 else if m = 6 then 151 else if m = 7 then 181 else if m = 8 then 212 else if m = 9 then 243 else if m = 10 then 273 else if m = 11 then 304 else 334
def sp_yb (y : Int) : Int := 365 * (y - 1) + (y - 1) / 4 - (y - 1) / 100 + (y - 1) / 400
def sp_dn (y m d : Int) : Int := sp_yb y + sp_ahead m + (if 2 < m ∧ sp_leap y then 1 else 0) + d - 1
theorem zs {a b : Int} (h : a = b) : some (zI a) = some (zI b) := by rw [h]
theorem zsL {a b : Int} (h : a = b) : some (zL a) = some (zL b) := by rw [h]
theorem m12 {m : Int} (h1 : 1 ≤ m) (h2 : m ≤ 12) : m = 1 ∨ m = 2 ∨ m = 3 ∨ m = 4 ∨ m = 5 ∨ m = 6 ∨ m = 7 ∨ m = 8 ∨ m = 9 ∨ m = 10 ∨ m = 11 ∨ m = 12 := by omega
theorem e_isLeap (N : Nat) {y : Int} (h1 : 0 ≤ y) (h2 : y ≤ 20000) : fX1_isLeap N (zI y) = some (if sp_leap y then zI 1 else zI 0) := by
  unfold fX1_isLeap
  simp (disch := omega) only [zl_m2000000000, zl_m99999, zl_m10000, zl_m21, zl_m9, zl_m5, zl_m2, zl_m1, zl_0, zl_1, zl_2, zl_3, zl_4, zl_5, zl_6, zl_7, zl_8, zl_9, zl_10, zl_11, zl_12, zl_13, zl_14, zl_15, zl_16, zl_17, zl_18, zl_19, zl_23, zl_24, zl_28, zl_29, zl_30, zl_31, zl_45, zl_48, zl_57, zl_58, zl_59, zl_60, zl_84, zl_100, zl_101, zl_102, zl_103, zl_104, zl_105, zl_106, zl_107, zl_108, zl_109, zl_110, zl_111, zl_112, zl_113, zl_114, zl_115, zl_116, zl_117, zl_118, zl_119, zl_120, zl_121, zl_153, zl_255, zl_306, zl_365, zl_400, zl_1000, zl_1460, zl_3600, zl_9999, zl_10000, zl_30000, zl_36524, zl_86399, zl_86400, zl_99999, zl_119999, zl_146096, zl_146097, zl_1000000, zl_3652058, zll_m1000000000, zll_m1000009, zll_m1000002, zll_m2, zll_m1, zll_0, zll_1, zll_86400, zll_2629746, zll_1000000000, nm, bd1_s, bd2_s, bd3_s, bd4_s, bd5_s, bd6_s, if01, gz_1, gz_0, gz_if, cz_lt, cz_le, cz_gt, cz_ge, cz_eq, zI_add, zI_sub, zI_mul, zI_neg, zL_add, zL_sub, zL_mul, zL_neg, zI_lt, zI_le, zI_eq, zL_lt, zL_le, zL_eq, zI_toL, zL_toI, zI_div, zL_div, zI_cl, gi_z, mod_fold, upd_s, upd_n, updL_s, updL_n, ↓reduceIte, Int.reduceLT, Int.reduceLE, Int.reduceEq, Int.reduceAdd, Int.reduceSub, Int.reduceMul, Int.reduceNeg, Int.reduceToNat, eq_self, not_true_eq_false, not_false_eq_true, true_and, false_and, and_true, and_false, true_or, false_or, or_true, or_false]
  repeat' split
  all_goals first | rfl | (exfalso; omega)
theorem e_mlen (N : Nat) {y m : Int} (h1 : 0 ≤ y) (h2 : y ≤ 20000) (h3 : -1000 ≤ m) (h4 : m ≤ 1000) : fX1_monthLength N (zI y) (zI m) = some (zI (sp_mlen y m)) := by
  unfold fX1_monthLength sp_mlen
  simp (disch := omega) only [zl_m2000000000, zl_m99999, zl_m10000, zl_m21, zl_m9, zl_m5, zl_m2, zl_m1, zl_0, zl_1, zl_2, zl_3, zl_4, zl_5, zl_6, zl_7, zl_8, zl_9, zl_10, zl_11, zl_12, zl_13, zl_14, zl_15, zl_16, zl_17, zl_18, zl_19, zl_23, zl_24, zl_28, zl_29, zl_30, zl_31, zl_45, zl_48, zl_57, zl_58, zl_59, zl_60, zl_84, zl_100, zl_101, zl_102, zl_103, zl_104, zl_105, zl_106, zl_107, zl_108, zl_109, zl_110, zl_111, zl_112, zl_113, zl_114, zl_115, zl_116, zl_117, zl_118, zl_119, zl_120, zl_121, zl_153, zl_255, zl_306, zl_365, zl_400, zl_1000, zl_1460, zl_3600, zl_9999, zl_10000, zl_30000, zl_36524, zl_86399, zl_86400, zl_99999, zl_119999, zl_146096, zl_146097, zl_1000000, zl_3652058, zll_m1000000000, zll_m1000009, zll_m1000002, zll_m2, zll_m1, zll_0, zll_1, zll_86400, zll_2629746, zll_1000000000, nm, bd1_s, bd2_s, bd3_s, bd4_s, bd5_s, bd6_s, if01, gz_1, gz_0, gz_if, cz_lt, cz_le, cz_gt, cz_ge, cz_eq, zI_add, zI_sub, zI_mul, zI_neg, zL_add, zL_sub, zL_mul, zL_neg, zI_lt, zI_le, zI_eq, zL_lt, zL_le, zL_eq, zI_toL, zL_toI, zI_div, zL_div, zI_cl, gi_z, mod_fold, upd_s, upd_n, updL_s, updL_n, ↓reduceIte, Int.reduceLT, Int.reduceLE, Int.reduceEq, Int.reduceAdd, Int.reduceSub, Int.reduceMul, Int.reduceNeg, Int.reduceToNat, eq_self, not_true_eq_false, not_false_eq_true, true_and, false_and, and_true, and_false, true_or, false_or, or_true, or_false, e_isLeap]
  repeat' split
  all_goals first | rfl | (exfalso; omega)
theorem e_dn (N : Nat) {y m d : Int} (h1 : 1 ≤ y) (h2 : y ≤ 20000) (h3 : 1 ≤ m) (h4 : m ≤ 12) (h5 : -100000 ≤ d) (h6 : d ≤ 100000) : fX1_dayOf N (zI y) (zI m) (zI d) = some (zI (sp_dn y m d)) := by
  unfold fX1_dayOf fX1_dayOf_j12 fX1_dayOf_j28 sp_dn sp_yb sp_ahead
  have q1 : ((y - 1) / 4 = y / 4 ∧ y % 4 ≠ 0) ∨ ((y - 1) / 4 = y / 4 - 1 ∧ y % 4 = 0) := by omega
  have q2 : ((y - 1) / 100 = y / 100 ∧ y % 100 ≠ 0) ∨ ((y - 1) / 100 = y / 100 - 1 ∧ y % 100 = 0) := by omega
  have q3 : ((y - 1) / 400 = y / 400 ∧ y % 400 ≠ 0) ∨ ((y - 1) / 400 = y / 400 - 1 ∧ y % 400 = 0) := by omega
  rcases m12 h3 h4 with rfl | rfl | rfl | rfl | rfl | rfl | rfl | rfl | rfl | rfl | rfl | rfl
  all_goals
    simp (disch := omega) only [zl_m2000000000, zl_m99999, zl_m10000, zl_m21, zl_m9, zl_m5, zl_m2, zl_m1, zl_0, zl_1, zl_2, zl_3, zl_4, zl_5, zl_6, zl_7, zl_8, zl_9, zl_10, zl_11, zl_12, zl_13, zl_14, zl_15, zl_16, zl_17, zl_18, zl_19, zl_23, zl_24, zl_28, zl_29, zl_30, zl_31, zl_45, zl_48, zl_57, zl_58, zl_59, zl_60, zl_84, zl_100, zl_101, zl_102, zl_103, zl_104, zl_105, zl_106, zl_107, zl_108, zl_109, zl_110, zl_111, zl_112, zl_113, zl_114, zl_115, zl_116, zl_117, zl_118, zl_119, zl_120, zl_121, zl_153, zl_255, zl_306, zl_365, zl_400, zl_1000, zl_1460, zl_3600, zl_9999, zl_10000, zl_30000, zl_36524, zl_86399, zl_86400, zl_99999, zl_119999, zl_146096, zl_146097, zl_1000000, zl_3652058, zll_m1000000000, zll_m1000009, zll_m1000002, zll_m2, zll_m1, zll_0, zll_1, zll_86400, zll_2629746, zll_1000000000, nm, bd1_s, bd2_s, bd3_s, bd4_s, bd5_s, bd6_s, if01, gz_1, gz_0, gz_if, cz_lt, cz_le, cz_gt, cz_ge, cz_eq, zI_add, zI_sub, zI_mul, zI_neg, zL_add, zL_sub, zL_mul, zL_neg, zI_lt, zI_le, zI_eq, zL_lt, zL_le, zL_eq, zI_toL, zL_toI, zI_div, zL_div, zI_cl, gi_z, mod_fold, upd_s, upd_n, updL_s, updL_n, ↓reduceIte, Int.reduceLT, Int.reduceLE, Int.reduceEq, Int.reduceAdd, Int.reduceSub, Int.reduceMul, Int.reduceNeg, Int.reduceToNat, eq_self, not_true_eq_false, not_false_eq_true, true_and, false_and, and_true, and_false, true_or, false_or, or_true, or_false]
    refine zs ?_
    rcases q1 with ⟨a1, b1⟩ | ⟨a1, b1⟩ <;> rcases q2 with ⟨a2, b2⟩ | ⟨a2, b2⟩ <;> rcases q3 with ⟨a3, b3⟩ | ⟨a3, b3⟩ <;> first | omega | (split <;> omega)
theorem e_isDay (N : Nat) {x : Int} (h1 : -2147483648 ≤ x) (h2 : x ≤ 2147483647) : fX9_isDay N (zI x) = some (if 0 ≤ x ∧ x ≤ 3652058 then zI 1 else zI 0) := by
  unfold fX9_isDay
  simp (disch := omega) only [zl_m2000000000, zl_m99999, zl_m10000, zl_m21, zl_m9, zl_m5, zl_m2, zl_m1, zl_0, zl_1, zl_2, zl_3, zl_4, zl_5, zl_6, zl_7, zl_8, zl_9, zl_10, zl_11, zl_12, zl_13, zl_14, zl_15, zl_16, zl_17, zl_18, zl_19, zl_23, zl_24, zl_28, zl_29, zl_30, zl_31, zl_45, zl_48, zl_57, zl_58, zl_59, zl_60, zl_84, zl_100, zl_101, zl_102, zl_103, zl_104, zl_105, zl_106, zl_107, zl_108, zl_109, zl_110, zl_111, zl_112, zl_113, zl_114, zl_115, zl_116, zl_117, zl_118, zl_119, zl_120, zl_121, zl_153, zl_255, zl_306, zl_365, zl_400, zl_1000, zl_1460, zl_3600, zl_9999, zl_10000, zl_30000, zl_36524, zl_86399, zl_86400, zl_99999, zl_119999, zl_146096, zl_146097, zl_1000000, zl_3652058, zll_m1000000000, zll_m1000009, zll_m1000002, zll_m2, zll_m1, zll_0, zll_1, zll_86400, zll_2629746, zll_1000000000, nm, bd1_s, bd2_s, bd3_s, bd4_s, bd5_s, bd6_s, if01, gz_1, gz_0, gz_if, cz_lt, cz_le, cz_gt, cz_ge, cz_eq, zI_add, zI_sub, zI_mul, zI_neg, zL_add, zL_sub, zL_mul, zL_neg, zI_lt, zI_le, zI_eq, zL_lt, zL_le, zL_eq, zI_toL, zL_toI, zI_div, zL_div, zI_cl, gi_z, mod_fold, upd_s, upd_n, updL_s, updL_n, ↓reduceIte, Int.reduceLT, Int.reduceLE, Int.reduceEq, Int.reduceAdd, Int.reduceSub, Int.reduceMul, Int.reduceNeg, Int.reduceToNat, eq_self, not_true_eq_false, not_false_eq_true, true_and, false_and, and_true, and_false, true_or, false_or, or_true, or_false]
  repeat' split
  all_goals first | rfl | (exfalso; omega)
def sp_nb (x : Int) : Int := x - x / 1460 + x / 36524 - x / 146096
def sp_as (n : Nat) : Int := 365 * (n : Int) + (n : Int) / 4 - (n : Int) / 100
theorem nb_step {x : Int} (h1 : 0 ≤ x) (h2 : x + 1 ≤ 146096) : sp_nb x ≤ sp_nb (x + 1) := by
  unfold sp_nb
  omega
theorem nb_mono {x : Int} (h1 : 0 ≤ x) : ∀ n : Nat, x + n ≤ 146096 → sp_nb x ≤ sp_nb (x + n)
  | 0, _ => by simp
  | n + 1, h => by
    have h3 := nb_mono h1 n (by omega)
    have h4 := nb_step (x := x + n) (by omega) (by omega)
    have e : x + ((n + 1 : Nat) : Int) = x + n + 1 := by omega
    rw [e]
    omega
theorem nb_le {x y : Int} (h1 : 0 ≤ x) (h2 : x ≤ y) (h3 : y ≤ 146096) : sp_nb x ≤ sp_nb y := by
  have h := nb_mono h1 (y - x).toNat (by omega)
  have e : x + ((y - x).toNat : Int) = y := by omega
  rw [e] at h
  exact h
theorem nb_tab : (List.range 400).all (fun n => decide (365 * (n : Int) ≤ sp_nb (sp_as n)) && (decide (n = 399) || decide (sp_nb (sp_as (n + 1) - 1) < 365 * ((n : Int) + 1)))) = true := by decide +kernel
theorem nb_year {x : Int} (h1 : 0 ≤ x) (h2 : x ≤ 146096) : ∃ n : Nat, n < 400 ∧ sp_nb x / 365 = n ∧ sp_as n ≤ x ∧ (x < sp_as (n + 1) ∨ n = 399) := by
  have hb : 0 ≤ sp_nb x ∧ sp_nb x ≤ 145999 := by unfold sp_nb; omega
  refine ⟨(sp_nb x / 365).toNat, by omega, by omega, ?_, ?_⟩
  · apply Int.not_lt.mp
    intro hlt
    have h3 := List.all_eq_true.mp nb_tab ((sp_nb x / 365).toNat - 1) (List.mem_range.mpr (by omega))
    by_cases h0 : (sp_nb x / 365).toNat = 0
    · rw [h0] at hlt; unfold sp_as at hlt; omega
    · simp only [Bool.and_eq_true, Bool.or_eq_true, decide_eq_true_eq] at h3
      have e : (sp_nb x / 365).toNat - 1 + 1 = (sp_nb x / 365).toNat := by omega
      rw [e] at h3
      have h4 : sp_as (sp_nb x / 365).toNat ≤ 146097 := by unfold sp_as; omega
      have h5 := nb_le h1 (y := sp_as (sp_nb x / 365).toNat - 1) (by omega) (by omega)
      omega
  · by_cases h9 : (sp_nb x / 365).toNat = 399
    · exact Or.inr h9
    · refine Or.inl ?_
      apply Int.not_le.mp
      intro hle
      have h3 := List.all_eq_true.mp nb_tab ((sp_nb x / 365).toNat + 1) (List.mem_range.mpr (by omega))
      simp only [Bool.and_eq_true, Bool.or_eq_true, decide_eq_true_eq] at h3
      have h4 : 0 ≤ sp_as ((sp_nb x / 365).toNat + 1) := by unfold sp_as; omega
      have h5 := nb_le h4 hle h2
      omega
def sp_Y0 (x : Int) : Int := sp_nb ((x + 306) % 146097) / 365
def sp_Q (x : Int) : Int := (x + 306) % 146097 - (365 * sp_Y0 x + sp_Y0 x / 4 - sp_Y0 x / 100)
def sp_M0 (x : Int) : Int := (5 * sp_Q x + 2) / 153
def sp_D (x : Int) : Int := sp_Q x - (153 * sp_M0 x + 2) / 5 + 1
def sp_M (x : Int) : Int := if sp_M0 x < 10 then sp_M0 x + 3 else sp_M0 x - 9
def sp_Y (x : Int) : Int := (x + 306) / 146097 * 400 + sp_Y0 x + (if 2 < sp_M x then 0 else 1)
theorem dn_key {q n : Int} (h1 : 0 ≤ n) (h2 : n ≤ 399) : sp_yb (400 * q + n) + (if sp_leap (400 * q + n) then 1 else 0) = 146097 * q + 365 * n + n / 4 - n / 100 - 365 := by
  have e1 : (400 * q + n - 1) / 4 = 100 * q + (n - 1) / 4 := by omega
  have e2 : (400 * q + n - 1) / 100 = 4 * q + (n - 1) / 100 := by omega
  have e3 : (400 * q + n - 1) / 400 = q + (n - 1) / 400 := by omega
  have q1 : ((n - 1) / 4 = n / 4 ∧ n % 4 ≠ 0) ∨ ((n - 1) / 4 = n / 4 - 1 ∧ n % 4 = 0) := by omega
  have q2 : ((n - 1) / 100 = n / 100 ∧ n % 100 ≠ 0) ∨ ((n - 1) / 100 = n / 100 - 1 ∧ n % 100 = 0) := by omega
  have q3 : ((n - 1) / 400 = 0 ∧ n ≠ 0) ∨ ((n - 1) / 400 = -1 ∧ n = 0) := by omega
  have f1 : (400 * q + n) % 4 = n % 4 := by omega
  have f2 : (400 * q + n) % 100 = n % 100 := by omega
  have f3 : (400 * q + n) % 400 = n := by omega
  unfold sp_yb sp_leap
  rw [e1, e2, e3, f1, f2, f3]
  rcases q1 with ⟨a1, b1⟩ | ⟨a1, b1⟩ <;> rcases q2 with ⟨a2, b2⟩ | ⟨a2, b2⟩ <;> rcases q3 with ⟨a3, b3⟩ | ⟨a3, b3⟩ <;> split <;> omega
theorem dn_key2 {q n : Int} (h1 : 0 ≤ n) (h2 : n ≤ 399) : sp_yb (400 * q + n + 1) = 146097 * q + 365 * n + n / 4 - n / 100 := by
  have e1 : (400 * q + n + 1 - 1) / 4 = 100 * q + n / 4 := by omega
  have e2 : (400 * q + n + 1 - 1) / 100 = 4 * q + n / 100 := by omega
  have e3 : (400 * q + n + 1 - 1) / 400 = q := by omega
  unfold sp_yb
  rw [e1, e2, e3]
  omega
theorem dn_leap {q n : Int} (h1 : 0 ≤ n) (h2 : n ≤ 399) (h3 : ¬ sp_leap (400 * q + n + 1)) : n ≠ 399 ∧ (n + 1) / 4 - (n + 1) / 100 = n / 4 - n / 100 := by
  have f1 : (400 * q + n + 1) % 4 = (n + 1) % 4 := by omega
  have f2 : (400 * q + n + 1) % 100 = (n + 1) % 100 := by omega
  have f3 : (400 * q + n + 1) % 400 = (n + 1) % 400 := by omega
  unfold sp_leap at h3
  rw [f1, f2, f3] at h3
  have q1 : ((n + 1) / 4 = n / 4 ∧ (n + 1) % 4 ≠ 0) ∨ ((n + 1) / 4 = n / 4 + 1 ∧ (n + 1) % 4 = 0) := by omega
  have q2 : ((n + 1) / 100 = n / 100 ∧ (n + 1) % 100 ≠ 0) ∨ ((n + 1) / 100 = n / 100 + 1 ∧ (n + 1) % 100 = 0) := by omega
  rcases q1 with ⟨a1, b1⟩ | ⟨a1, b1⟩ <;> rcases q2 with ⟨a2, b2⟩ | ⟨a2, b2⟩ <;> omega
theorem sp_all {x : Int} (h1 : 0 ≤ x) (h2 : x ≤ 3652058) : (1 ≤ sp_Y x ∧ sp_Y x ≤ 9999) ∧ (1 ≤ sp_M x ∧ sp_M x ≤ 12) ∧ (1 ≤ sp_D x ∧ sp_D x ≤ sp_mlen (sp_Y x) (sp_M x)) ∧ sp_dn (sp_Y x) (sp_M x) (sp_D x) = x := by
  obtain ⟨n, hn, e0, ha, hb⟩ := nb_year (x := (x + 306) % 146097) (by omega) (by omega)
  have eY : sp_Y0 x = n := e0
  have hQ : sp_Q x = (x + 306) % 146097 - (365 * (n : Int) + (n : Int) / 4 - (n : Int) / 100) := by unfold sp_Q; rw [eY]
  unfold sp_as at ha hb
  have hb2 : n ≠ 399 → (x + 306) % 146097 < 365 * ((n : Int) + 1) + ((n : Int) + 1) / 4 - ((n : Int) + 1) / 100 := fun h => by
    rcases hb with hb | hb
    · have : ((n + 1 : Nat) : Int) = (n : Int) + 1 := by omega
      rw [this] at hb; exact hb
    · exact absurd hb h
  have hq0 : 0 ≤ sp_Q x := by omega
  have hq1 : sp_Q x ≤ 365 := by
    by_cases h9 : n = 399
    · subst h9; omega
    · have := hb2 h9; omega
  have hM0 : 0 ≤ sp_M0 x ∧ sp_M0 x ≤ 11 := by unfold sp_M0; omega
  have hm : sp_M0 x = 0 ∨ sp_M0 x = 1 ∨ sp_M0 x = 2 ∨ sp_M0 x = 3 ∨ sp_M0 x = 4 ∨ sp_M0 x = 5 ∨ sp_M0 x = 6 ∨ sp_M0 x = 7 ∨ sp_M0 x = 8 ∨ sp_M0 x = 9 ∨ sp_M0 x = 10 ∨ sp_M0 x = 11 := by omega
  have hMd : sp_M0 x = (5 * sp_Q x + 2) / 153 := rfl
  have hD : sp_D x = sp_Q x - (153 * sp_M0 x + 2) / 5 + 1 := rfl
  have hYd : sp_Y x = (x + 306) / 146097 * 400 + n + (if 2 < sp_M x then 0 else 1) := by unfold sp_Y; rw [eY]
  have hM : sp_M x = (if sp_M0 x < 10 then sp_M0 x + 3 else sp_M0 x - 9) := rfl
  obtain ⟨q, hq⟩ : ∃ q, q = (x + 306) / 146097 := ⟨_, rfl⟩
  have hx : x = 146097 * q + sp_Q x + (365 * (n : Int) + (n : Int) / 4 - (n : Int) / 100) - 306 := by omega
  have hqr : 0 ≤ q ∧ q ≤ 24 ∨ q = 25 ∧ (x + 306) % 146097 ≤ 305 := by omega
  rw [← hq] at hYd
  have k1 := dn_key (q := q) (n := n) (by omega) (by omega)
  have k2 := dn_key2 (q := q) (n := n) (by omega) (by omega)
  have k3 := dn_leap (q := q) (n := n) (by omega) (by omega)
  clear hq e0 eY
  rcases hm with hm | hm | hm | hm | hm | hm | hm | hm | hm | hm | hm | hm
  all_goals
    rw [hm] at hM hD hMd
    simp only [Int.reduceLT, ↓reduceIte, Int.reduceAdd, Int.reduceSub] at hM
    rw [hM] at hYd ⊢
    simp only [Int.reduceLT, ↓reduceIte] at hYd
    have hy : 1 ≤ sp_Y x ∧ sp_Y x ≤ 9999 := by rcases hqr with h | ⟨h, h'⟩ <;> omega
    refine ⟨hy, by omega, ?_, ?_⟩
    · unfold sp_mlen
      simp only [Int.reduceEq, ↓reduceIte, or_false, false_or, or_true, true_or, or_self]
      first
      | omega
      | (have e : sp_Y x = 400 * q + n + 1 := by omega
         rw [e]
         split
         · omega
         · rename_i hl
           obtain ⟨g1, g2⟩ := k3 hl
           have g3 := hb2 (by omega)
           omega)
    · unfold sp_dn sp_ahead
      simp only [Int.reduceEq, Int.reduceLT, ↓reduceIte, false_and, true_and]
      first
      | (have e : sp_Y x = 400 * q + n := by omega
         rw [e]; omega)
      | (have e : sp_Y x = 400 * q + n + 1 := by omega
         rw [e, k2]; omega)

