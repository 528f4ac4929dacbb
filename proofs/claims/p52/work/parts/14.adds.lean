/-! spans added: what comes -/
def sp_S (s x t : Int) : Option (Int × Int) := if 0 ≤ x * 86400 + t + s ∧ x * 86400 + t + s ≤ 315537897599 then some ((x * 86400 + t + s) / 86400, (x * 86400 + t + s) % 86400) else none
def sp_Dy (d x : Int) : Option Int := if 0 ≤ x + d ∧ x + d ≤ 3652058 then some (x + d) else none
def sp_add (m d s law ord x t : Int) : Option (Int × Int × Int) :=
  if ord = 0 then (sp_addM m law x).bind fun p => (sp_Dy d p.1).bind fun z => (sp_S s z t).bind fun q => some (q.1, q.2, p.2)
  else (sp_S s x t).bind fun q => (sp_Dy d q.1).bind fun z => (sp_addM m law z).bind fun p => some (p.1, q.2, p.2)
theorem AdOK.cong {m d s law : Int} {a c : Nat → Int32} (h : AdOK m d s law a) (hc : ∀ k, k < 8 → c k = a k) : AdOK m d s law c := by
  obtain ⟨h0, h1, h2, h3, F, h4, hF, h5⟩ := h
  refine ⟨by rw [hc 0 (by omega), h0], by rw [hc 1 (by omega), h1], by rw [hc 2 (by omega), h2], by rw [hc 3 (by omega), h3], F, by rw [hc 4 (by omega), h4], hF, ?_⟩
  rcases h5 with h5 | ⟨g, hg, hFg, hC⟩
  · exact Or.inl (by rw [hc 5 (by omega), h5])
  · refine Or.inr ⟨g, hg, hFg, ?_⟩
    obtain ⟨z1, z2⟩ := hC
    refine ⟨by rw [hc 5 (by omega), z1], ?_⟩
    rw [hc 6 (by omega), hc 7 (by omega)]
    exact z2
theorem addM_b {m law x y sh : Int} (h1 : 0 ≤ x ∧ x ≤ 3652058) (h : sp_addM m law x = some (y, sh)) : (0 ≤ y ∧ y ≤ 3652058) ∧ 0 ≤ sh ∧ sh ≤ 3 := by
  obtain ⟨a1, a2, a3, a4, a5⟩ := mi_all h1.1 h1.2
  unfold sp_addM at h
  split at h
  · injection h with h; injection h with h3 h4; subst h3; subst h4; exact ⟨h1, by omega, by omega⟩
  · split at h
    · exact absurd h (by simp)
    · split at h
      · exact absurd h (by simp)
      · split at h
        · rename_i hh
          injection h with h; injection h with h3 h4; subst h3; subst h4
          refine ⟨hh, ?_⟩
          have b1 := gl_b (sp_mi x + m)
          have b2 := gl_b (sp_mi x)
          unfold sp_sh; split <;> omega
        · exact absurd h (by simp)
theorem S_b {s x t y u : Int} (h : sp_S s x t = some (y, u)) : (0 ≤ y ∧ y ≤ 3652058) ∧ 0 ≤ u ∧ u ≤ 86399 := by
  unfold sp_S at h
  split at h
  · injection h with h; injection h with h3 h4; omega
  · exact absurd h (by simp)
theorem Dy_b {d x y : Int} (h : sp_Dy d x = some y) : 0 ≤ y ∧ y ≤ 3652058 := by
  unfold sp_Dy at h
  split at h
  · injection h with h; omega
  · exact absurd h (by simp)
theorem add_b {m d s law ord x t y u sh : Int} (h1 : 0 ≤ x ∧ x ≤ 3652058) (h2 : 0 ≤ t ∧ t ≤ 86399) (h : sp_add m d s law ord x t = some (y, u, sh)) : (0 ≤ y ∧ y ≤ 3652058) ∧ (0 ≤ u ∧ u ≤ 86399) ∧ 0 ≤ sh ∧ sh ≤ 3 := by
  unfold sp_add at h
  split at h
  · cases e1 : sp_addM m law x with
    | none => rw [e1] at h; exact absurd h (by simp)
    | some p =>
      rw [e1] at h
      cases e2 : sp_Dy d p.1 with
      | none => simp [e2] at h
      | some z =>
        cases e3 : sp_S s z t with
        | none => simp [e2, e3] at h
        | some q =>
          simp [e2, e3] at h
          obtain ⟨h3, h4, h5⟩ := h
          have a := addM_b h1 (show sp_addM m law x = some (p.1, p.2) from e1)
          have b := S_b (show sp_S s z t = some (q.1, q.2) from e3)
          omega
  · cases e3 : sp_S s x t with
    | none => rw [e3] at h; exact absurd h (by simp)
    | some q =>
      rw [e3] at h
      cases e2 : sp_Dy d q.1 with
      | none => simp [e2] at h
      | some z =>
        cases e1 : sp_addM m law z with
        | none => simp [e2, e1] at h
        | some p =>
          simp [e2, e1] at h
          obtain ⟨h3, h4, h5⟩ := h
          have b := S_b (show sp_S s x t = some (q.1, q.2) from e3)
          have c := Dy_b e2
          have a := addM_b c (show sp_addM m law z = some (p.1, p.2) from e1)
          omega
theorem e_movesDays (N : Nat) {a : Nat → Int32} {m d s law x t u : Int} (hA : AdOK m d s law a) (hd : sp_b1 d) (h8 : a 8 = zI x) (h1 : 0 ≤ x ∧ x ≤ 3652058) (h9 : a 9 = zI t) (h10 : a 10 = zI u) :
    ∃ a' r, fX0_movesDays N a = some (r, a') ∧ AdOK m d s law a' ∧ a' 9 = zI t ∧ a' 10 = zI u ∧ ((∃ y, sp_Dy d x = some y ∧ r = zI 1 ∧ a' 8 = zI y) ∨ (sp_Dy d x = none ∧ r = zI 0)) := by
  have e1 := hA.2.1
  refine ⟨upd a 8 (zI (x + d)), if 0 ≤ x + d ∧ x + d ≤ 3652058 then zI 1 else zI 0, ?_, hA.cong fun k hk => upd_n (by omega), by rw [upd_n (by omega), h9], by rw [upd_n (by omega), h10], ?_⟩
  · unfold fX0_movesDays
    simp (disch := omega) only [zl_m2000000000, zl_m99999, zl_m10000, zl_m21, zl_m9, zl_m5, zl_m2, zl_m1, zl_0, zl_1, zl_2, zl_3, zl_4, zl_5, zl_6, zl_7, zl_8, zl_9, zl_10, zl_11, zl_12, zl_13, zl_14, zl_15, zl_16, zl_17, zl_18, zl_19, zl_23, zl_24, zl_28, zl_29, zl_30, zl_31, zl_45, zl_48, zl_57, zl_58, zl_59, zl_60, zl_84, zl_100, zl_101, zl_102, zl_103, zl_104, zl_105, zl_106, zl_107, zl_108, zl_109, zl_110, zl_111, zl_112, zl_113, zl_114, zl_115, zl_116, zl_117, zl_118, zl_119, zl_120, zl_121, zl_153, zl_255, zl_306, zl_365, zl_400, zl_1000, zl_1460, zl_3600, zl_9999, zl_10000, zl_30000, zl_36524, zl_86399, zl_86400, zl_99999, zl_119999, zl_146096, zl_146097, zl_1000000, zl_3652058, zll_m1000000000, zll_m1000009, zll_m1000002, zll_m2, zll_m1, zll_0, zll_1, zll_86400, zll_2629746, zll_1000000000, nm, bd1_s, bd2_s, bd3_s, bd4_s, bd5_s, bd6_s, if01, gz_1, gz_0, gz_if, cz_lt, cz_le, cz_gt, cz_ge, cz_eq, zI_add, zI_sub, zI_mul, zI_neg, zL_add, zL_sub, zL_mul, zL_neg, zI_lt, zI_le, zI_eq, zL_lt, zL_le, zL_eq, zI_toL, zL_toI, zI_div, zL_div, zI_cl, gi_z, mod_fold, upd_s, upd_n, updL_s, updL_n, ↓reduceIte, Int.reduceLT, Int.reduceLE, Int.reduceEq, Int.reduceAdd, Int.reduceSub, Int.reduceMul, Int.reduceNeg, Int.reduceToNat, eq_self, not_true_eq_false, not_false_eq_true, true_and, false_and, and_true, and_false, true_or, false_or, or_true, or_false, h8, e1, e_isDay]
  · unfold sp_Dy
    split
    · exact Or.inl ⟨_, rfl, rfl, upd_s⟩
    · exact Or.inr ⟨rfl, rfl⟩
theorem e_instant (N : Nat) {a : Nat → Int32} {x t : Int} (h8 : a 8 = zI x) (h1 : 0 ≤ x ∧ x ≤ 3652058) (h9 : a 9 = zI t) (h2 : 0 ≤ t ∧ t ≤ 86399) : fX0_instant N a = some (zL (x * 86400 + t)) := by
  unfold fX0_instant
  rw [h8, h9, e_instantOf N (by omega) (by omega), bd1_s]
theorem e_movesSeconds (N : Nat) {a : Nat → Int32} {m d s law x t u : Int} (hA : AdOK m d s law a) (hs : sp_b1 s) (h8 : a 8 = zI x) (h1 : 0 ≤ x ∧ x ≤ 3652058) (h9 : a 9 = zI t) (h2 : 0 ≤ t ∧ t ≤ 86399) (h10 : a 10 = zI u) :
    ∃ a' r, fX0_movesSeconds N a = some (r, a') ∧ AdOK m d s law a' ∧ a' 10 = zI u ∧ ((∃ y v, sp_S s x t = some (y, v) ∧ r = zI 1 ∧ a' 8 = zI y ∧ a' 9 = zI v) ∨ (sp_S s x t = none ∧ r = zI 0)) := by
  have e1 := hA.2.2.1
  have e2 := e_instant N h8 h1 h9 h2
  by_cases h0 : s = 0
  · refine ⟨a, zI 1, ?_, hA, h10, Or.inl ⟨x, t, ?_, rfl, h8, h9⟩⟩
    · unfold fX0_movesSeconds
      simp (disch := omega) only [zl_m2000000000, zl_m99999, zl_m10000, zl_m21, zl_m9, zl_m5, zl_m2, zl_m1, zl_0, zl_1, zl_2, zl_3, zl_4, zl_5, zl_6, zl_7, zl_8, zl_9, zl_10, zl_11, zl_12, zl_13, zl_14, zl_15, zl_16, zl_17, zl_18, zl_19, zl_23, zl_24, zl_28, zl_29, zl_30, zl_31, zl_45, zl_48, zl_57, zl_58, zl_59, zl_60, zl_84, zl_100, zl_101, zl_102, zl_103, zl_104, zl_105, zl_106, zl_107, zl_108, zl_109, zl_110, zl_111, zl_112, zl_113, zl_114, zl_115, zl_116, zl_117, zl_118, zl_119, zl_120, zl_121, zl_153, zl_255, zl_306, zl_365, zl_400, zl_1000, zl_1460, zl_3600, zl_9999, zl_10000, zl_30000, zl_36524, zl_86399, zl_86400, zl_99999, zl_119999, zl_146096, zl_146097, zl_1000000, zl_3652058, zll_m1000000000, zll_m1000009, zll_m1000002, zll_m2, zll_m1, zll_0, zll_1, zll_86400, zll_2629746, zll_1000000000, nm, bd1_s, bd2_s, bd3_s, bd4_s, bd5_s, bd6_s, if01, gz_1, gz_0, gz_if, cz_lt, cz_le, cz_gt, cz_ge, cz_eq, zI_add, zI_sub, zI_mul, zI_neg, zL_add, zL_sub, zL_mul, zL_neg, zI_lt, zI_le, zI_eq, zL_lt, zL_le, zL_eq, zI_toL, zL_toI, zI_div, zL_div, zI_cl, gi_z, mod_fold, upd_s, upd_n, updL_s, updL_n, ↓reduceIte, Int.reduceLT, Int.reduceLE, Int.reduceEq, Int.reduceAdd, Int.reduceSub, Int.reduceMul, Int.reduceNeg, Int.reduceToNat, eq_self, not_true_eq_false, not_false_eq_true, true_and, false_and, and_true, and_false, true_or, false_or, or_true, or_false, e1, h0]
    · unfold sp_S
      rw [if_pos (by omega)]
      have q1 : (x * 86400 + t + s) / 86400 = x := by omega
      have q2 : (x * 86400 + t + s) % 86400 = t := by omega
      rw [q1, q2]
  · by_cases hr : 0 ≤ x * 86400 + t + s ∧ x * 86400 + t + s ≤ 315537897599
    · refine ⟨upd (upd a 8 (zI ((x * 86400 + t + s) / 86400))) 9 (zI ((x * 86400 + t + s) % 86400)), zI 1, ?_, hA.cong fun k hk => by rw [upd_n (by omega), upd_n (by omega)], by rw [upd_n (by omega), upd_n (by omega), h10], Or.inl ⟨_, _, if_pos hr, rfl, by rw [upd_n (by omega), upd_s], upd_s⟩⟩
      unfold fX0_movesSeconds
      simp (disch := omega) only [zl_m2000000000, zl_m99999, zl_m10000, zl_m21, zl_m9, zl_m5, zl_m2, zl_m1, zl_0, zl_1, zl_2, zl_3, zl_4, zl_5, zl_6, zl_7, zl_8, zl_9, zl_10, zl_11, zl_12, zl_13, zl_14, zl_15, zl_16, zl_17, zl_18, zl_19, zl_23, zl_24, zl_28, zl_29, zl_30, zl_31, zl_45, zl_48, zl_57, zl_58, zl_59, zl_60, zl_84, zl_100, zl_101, zl_102, zl_103, zl_104, zl_105, zl_106, zl_107, zl_108, zl_109, zl_110, zl_111, zl_112, zl_113, zl_114, zl_115, zl_116, zl_117, zl_118, zl_119, zl_120, zl_121, zl_153, zl_255, zl_306, zl_365, zl_400, zl_1000, zl_1460, zl_3600, zl_9999, zl_10000, zl_30000, zl_36524, zl_86399, zl_86400, zl_99999, zl_119999, zl_146096, zl_146097, zl_1000000, zl_3652058, zll_m1000000000, zll_m1000009, zll_m1000002, zll_m2, zll_m1, zll_0, zll_1, zll_86400, zll_2629746, zll_1000000000, nm, bd1_s, bd2_s, bd3_s, bd4_s, bd5_s, bd6_s, if01, gz_1, gz_0, gz_if, cz_lt, cz_le, cz_gt, cz_ge, cz_eq, zI_add, zI_sub, zI_mul, zI_neg, zL_add, zL_sub, zL_mul, zL_neg, zI_lt, zI_le, zI_eq, zL_lt, zL_le, zL_eq, zI_toL, zL_toI, zI_div, zL_div, zI_cl, gi_z, mod_fold, upd_s, upd_n, updL_s, updL_n, ↓reduceIte, Int.reduceLT, Int.reduceLE, Int.reduceEq, Int.reduceAdd, Int.reduceSub, Int.reduceMul, Int.reduceNeg, Int.reduceToNat, eq_self, not_true_eq_false, not_false_eq_true, true_and, false_and, and_true, and_false, true_or, false_or, or_true, or_false, e1, e2, h0, e_instantOf]
      rw [if_neg (by omega), if_pos (by omega)]
    · refine ⟨a, zI 0, ?_, hA, h10, Or.inr ⟨if_neg hr, rfl⟩⟩
      unfold fX0_movesSeconds
      simp (disch := omega) only [zl_m2000000000, zl_m99999, zl_m10000, zl_m21, zl_m9, zl_m5, zl_m2, zl_m1, zl_0, zl_1, zl_2, zl_3, zl_4, zl_5, zl_6, zl_7, zl_8, zl_9, zl_10, zl_11, zl_12, zl_13, zl_14, zl_15, zl_16, zl_17, zl_18, zl_19, zl_23, zl_24, zl_28, zl_29, zl_30, zl_31, zl_45, zl_48, zl_57, zl_58, zl_59, zl_60, zl_84, zl_100, zl_101, zl_102, zl_103, zl_104, zl_105, zl_106, zl_107, zl_108, zl_109, zl_110, zl_111, zl_112, zl_113, zl_114, zl_115, zl_116, zl_117, zl_118, zl_119, zl_120, zl_121, zl_153, zl_255, zl_306, zl_365, zl_400, zl_1000, zl_1460, zl_3600, zl_9999, zl_10000, zl_30000, zl_36524, zl_86399, zl_86400, zl_99999, zl_119999, zl_146096, zl_146097, zl_1000000, zl_3652058, zll_m1000000000, zll_m1000009, zll_m1000002, zll_m2, zll_m1, zll_0, zll_1, zll_86400, zll_2629746, zll_1000000000, nm, bd1_s, bd2_s, bd3_s, bd4_s, bd5_s, bd6_s, if01, gz_1, gz_0, gz_if, cz_lt, cz_le, cz_gt, cz_ge, cz_eq, zI_add, zI_sub, zI_mul, zI_neg, zL_add, zL_sub, zL_mul, zL_neg, zI_lt, zI_le, zI_eq, zL_lt, zL_le, zL_eq, zI_toL, zL_toI, zI_div, zL_div, zI_cl, gi_z, mod_fold, upd_s, upd_n, updL_s, updL_n, ↓reduceIte, Int.reduceLT, Int.reduceLE, Int.reduceEq, Int.reduceAdd, Int.reduceSub, Int.reduceMul, Int.reduceNeg, Int.reduceToNat, eq_self, not_true_eq_false, not_false_eq_true, true_and, false_and, and_true, and_false, true_or, false_or, or_true, or_false, e1, e2, h0, e_instantOf]
      by_cases hq : x * 86400 + t + s < 0
      · rw [if_pos hq]
      · rw [if_neg hq, if_neg (by omega)]
theorem e_leads (N : Nat) {a : Nat → Int32} {m d s law ord x t : Int} (hA : AdOK m d s law a) (hb : sp_b3 m d s) (hl : 0 ≤ law ∧ law ≤ 3) (ho : 0 ≤ ord ∧ ord ≤ 1) (h1 : 0 ≤ x ∧ x ≤ 3652058) (h2 : 0 ≤ t ∧ t ≤ 86399) :
    ∃ a' r, fX0_leads N (zI x) (zI t) (zI ord) a = some (r, a') ∧ AdOK m d s law a' ∧ ((∃ y u sh, sp_add m d s law ord x t = some (y, u, sh) ∧ r = zI 1 ∧ a' 8 = zI y ∧ a' 9 = zI u ∧ a' 10 = zI sh ∧ (0 ≤ y ∧ y ≤ 3652058) ∧ (0 ≤ u ∧ u ≤ 86399) ∧ 0 ≤ sh ∧ sh ≤ 3) ∨ (sp_add m d s law ord x t = none ∧ r = zI 0)) := by
  obtain ⟨c, hc⟩ : ∃ c, c = upd (upd (upd a 8 (zI x)) 9 (zI t)) 10 (zI 0) := ⟨_, rfl⟩
  have q : fX0_stands N (zI x) (zI t) a = some c := by
    unfold fX0_stands
    simp (disch := omega) only [zl_m2000000000, zl_m99999, zl_m10000, zl_m21, zl_m9, zl_m5, zl_m2, zl_m1, zl_0, zl_1, zl_2, zl_3, zl_4, zl_5, zl_6, zl_7, zl_8, zl_9, zl_10, zl_11, zl_12, zl_13, zl_14, zl_15, zl_16, zl_17, zl_18, zl_19, zl_23, zl_24, zl_28, zl_29, zl_30, zl_31, zl_45, zl_48, zl_57, zl_58, zl_59, zl_60, zl_84, zl_100, zl_101, zl_102, zl_103, zl_104, zl_105, zl_106, zl_107, zl_108, zl_109, zl_110, zl_111, zl_112, zl_113, zl_114, zl_115, zl_116, zl_117, zl_118, zl_119, zl_120, zl_121, zl_153, zl_255, zl_306, zl_365, zl_400, zl_1000, zl_1460, zl_3600, zl_9999, zl_10000, zl_30000, zl_36524, zl_86399, zl_86400, zl_99999, zl_119999, zl_146096, zl_146097, zl_1000000, zl_3652058, zll_m1000000000, zll_m1000009, zll_m1000002, zll_m2, zll_m1, zll_0, zll_1, zll_86400, zll_2629746, zll_1000000000, nm, bd1_s, bd2_s, bd3_s, bd4_s, bd5_s, bd6_s, if01, gz_1, gz_0, gz_if, cz_lt, cz_le, cz_gt, cz_ge, cz_eq, zI_add, zI_sub, zI_mul, zI_neg, zL_add, zL_sub, zL_mul, zL_neg, zI_lt, zI_le, zI_eq, zL_lt, zL_le, zL_eq, zI_toL, zL_toI, zI_div, zL_div, zI_cl, gi_z, mod_fold, upd_s, upd_n, updL_s, updL_n, ↓reduceIte, Int.reduceLT, Int.reduceLE, Int.reduceEq, Int.reduceAdd, Int.reduceSub, Int.reduceMul, Int.reduceNeg, Int.reduceToNat, eq_self, not_true_eq_false, not_false_eq_true, true_and, false_and, and_true, and_false, true_or, false_or, or_true, or_false, hc]
  have cA : AdOK m d s law c := hA.cong fun k hk => by rw [hc, upd_n (by omega), upd_n (by omega), upd_n (by omega)]
  have c8 : c 8 = zI x := by rw [hc, upd_n (by omega), upd_n (by omega), upd_s]
  have c9 : c 9 = zI t := by rw [hc, upd_n (by omega), upd_s]
  have c10 : c 10 = zI 0 := by rw [hc, upd_s]
  have z01 : ¬ (zI 1 = zI 0) := by decide
  unfold fX0_leads
  rw [q, bd1_s]
  by_cases h0 : ord = 0
  · subst h0
    rw [if_pos (show zI 0 = (0 : Int32) by decide)]
    obtain ⟨a1, r1, k1, A1, n1, f1⟩ := e_movesMonths N cA hb.1 hl c8 h1.1 h1.2 c9 c10
    rw [k1, bd2_s]
    rcases f1 with ⟨y1, sh, s1, rfl, y8, y10, b1, b2⟩ | ⟨s1, rfl⟩
    · rw [zl_0, if_neg z01]
      obtain ⟨a2, r2, k2, A2, n2, n3, f2⟩ := e_movesDays N A1 hb.2.1 y8 b1 n1 y10
      rw [k2, bd2_s]
      rcases f2 with ⟨y2, s2, rfl, z8⟩ | ⟨s2, rfl⟩
      · rw [if_neg z01]
        have b3 := Dy_b s2
        obtain ⟨a3, r3, k3, A3, n4, f3⟩ := e_movesSeconds N A2 hb.2.2 z8 b3 n2 h2 n3
        rw [k3, bd2_s]
        rcases f3 with ⟨y3, u3, s3, rfl, w8, w9⟩ | ⟨s3, rfl⟩
        · rw [if_neg z01]
          have b4 := S_b s3
          refine ⟨a3, zI 1, by rw [zl_1], A3, Or.inl ⟨y3, u3, sh, ?_, rfl, w8, w9, n4, b4.1, b4.2, b2⟩⟩
          unfold sp_add
          simp [s1, s2, s3]
        · rw [if_pos rfl]
          refine ⟨a3, zI 0, rfl, A3, Or.inr ⟨?_, rfl⟩⟩
          unfold sp_add
          simp [s1, s2, s3]
      · rw [if_pos rfl]
        refine ⟨a2, zI 0, rfl, A2, Or.inr ⟨?_, rfl⟩⟩
        unfold sp_add
        simp [s1, s2]
    · rw [if_pos (show zI 0 = (0 : Int32) by decide)]
      refine ⟨a1, zI 0, by rw [zl_0], A1, Or.inr ⟨?_, rfl⟩⟩
      unfold sp_add
      simp [s1]
  · have h01 : ord = 1 := by omega
    subst h01
    rw [if_neg (show ¬ (zI 1 = (0 : Int32)) by decide)]
    obtain ⟨a3, r3, k3, A3, n4, f3⟩ := e_movesSeconds N cA hb.2.2 c8 h1 c9 h2 c10
    rw [k3, bd2_s]
    rcases f3 with ⟨y3, u3, s3, rfl, w8, w9⟩ | ⟨s3, rfl⟩
    · rw [zl_0, if_neg z01]
      have b4 := S_b s3
      obtain ⟨a2, r2, k2, A2, n2, n3, f2⟩ := e_movesDays N A3 hb.2.1 w8 b4.1 w9 n4
      rw [k2, bd2_s]
      rcases f2 with ⟨y2, s2, rfl, z8⟩ | ⟨s2, rfl⟩
      · rw [if_neg z01]
        have b3 := Dy_b s2
        obtain ⟨a1, r1, k1, A1, n1, f1⟩ := e_movesMonths N A2 hb.1 hl z8 b3.1 b3.2 n2 n3
        rw [k1, bd2_s]
        rcases f1 with ⟨y1, sh, s1, rfl, y8, y10, b1, b2⟩ | ⟨s1, rfl⟩
        · rw [if_neg z01]
          refine ⟨a1, zI 1, by rw [zl_1], A1, Or.inl ⟨y1, u3, sh, ?_, rfl, y8, n1, y10, b1, b4.2, b2⟩⟩
          unfold sp_add
          simp [s1, s2, s3]
        · rw [if_pos rfl]
          refine ⟨a1, zI 0, rfl, A1, Or.inr ⟨?_, rfl⟩⟩
          unfold sp_add
          simp [s1, s2, s3]
      · rw [if_pos rfl]
        refine ⟨a2, zI 0, rfl, A2, Or.inr ⟨?_, rfl⟩⟩
        unfold sp_add
        simp [s3, s2]
    · rw [if_pos (show zI 0 = (0 : Int32) by decide)]
      refine ⟨a3, zI 0, by rw [zl_0], A3, Or.inr ⟨?_, rfl⟩⟩
      unfold sp_add
      simp [s3]

