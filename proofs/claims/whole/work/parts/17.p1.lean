/-! a span added on both sides -/
theorem both (N : Nat) (hN : 200000 ≤ N) {a i F : Nat → Int32} {j : Nat → Int64} {k : Nat} {m d s law ord x t : Int} (hA : AdOK m d s law a) (h : k < 8) (hf : F (3 * k) = zI m) (hg : F (3 * k + 1) = zI d) (he : F (3 * k + 2) = zI s) (hb : sp_b3 m d s) (hl : 0 ≤ law ∧ law ≤ 3) (ho : 0 ≤ ord ∧ ord ≤ 1) (h13 : i 13 = zI x) (h1 : 0 ≤ x ∧ x ≤ 3652058) (h14 : i 14 = zI t) (h2 : 0 ≤ t ∧ t ≤ 86399) :
    ∃ a' i' r, fX0_leads N (zI x) (zI t) (zI ord) a = some (r, a') ∧ fX10_addsSpan N (zI k) (1 : Int64) (zI law) (zI ord) i j F = some (r, i') ∧ AdOK m d s law a' ∧ (∀ k, k < 10 ∨ 15 < k → i' k = i k) ∧ ((∃ y u sh, r = zI 1 ∧ a' 8 = zI y ∧ a' 9 = zI u ∧ a' 10 = zI sh ∧ i' 13 = zI y ∧ i' 14 = zI u ∧ i' 15 = zI sh ∧ (0 ≤ y ∧ y ≤ 3652058) ∧ (0 ≤ u ∧ u ≤ 86399) ∧ 0 ≤ sh ∧ sh ≤ 3) ∨ r = zI 0) := by
  obtain ⟨a1, r1, w1, A1, w2⟩ := e_leads N hA hb hl ho h1 h2
  obtain ⟨i1, r2, m1, n1, m2⟩ := e_addsO N (by omega) (j := j) h hf hg he hb hl ho h13 h1 h14 h2
  rcases w2 with ⟨y, u, sh, e1, rfl, a8, a9, a10, b1, b2, b3⟩ | ⟨e1, rfl⟩
  · rcases m2 with ⟨y', u', sh', e2, rfl, i13, i14, i15, -⟩ | ⟨e2, -⟩
    · rw [e1] at e2
      injection e2 with e2
      injection e2 with e3 e2
      injection e2 with e4 e5
      subst e3; subst e4; subst e5
      exact ⟨a1, i1, zI 1, w1, m1, A1, n1, Or.inl ⟨y, u, sh, rfl, a8, a9, a10, i13, i14, i15, b1, b2, b3⟩⟩
    · rw [e1] at e2; exact absurd e2 (by simp)
  · rcases m2 with ⟨y', u', sh', e2, -⟩ | ⟨e2, rfl⟩
    · rw [e1] at e2; exact absurd e2 (by simp)
    · exact ⟨a1, i1, zI 0, w1, m1, A1, n1, Or.inr rfl⟩
theorem p_add (N : Nat) (hN : 200000 ≤ N) (p1 : Int32) (p2 : Int32) (p3 : Int32) (p4 : Int32) (p5 : Int32) {ks : Int32} {f : Nat → Int32} {g : Nat → Int32} {a : Nat → Int32} {b : Nat → Int32} {c : Nat → Int32} {tl : Int32} {nn : Nat → Int64} {ad : Nat → Int32} {i : Nat → Int32} {j : Nat → Int64} {F : Nat → Int32} {G : Nat → Int32} {S : Nat → Int32} {R : Nat → Int64} {dd ss mm da se : Nat → Int} (hM : RelM dd ss f g F G) (hS : RelS mm da se a b c S) (hR : RelR tl nn i R) (had : AdW ad) : 
    ∃ (r : Int32) (f' : Nat → Int32) (g' : Nat → Int32) (tl' : Int32) (nn' : Nat → Int64) (ad' : Nat → Int32) (i' : Nat → Int32) (F' : Nat → Int32) (G' : Nat → Int32) (R' : Nat → Int64) (dd' : Nat → Int) (ss' : Nat → Int), fX9_add N p1 p2 p3 p4 p5 ks f g a b c tl nn ad = some (r, f', g', tl', nn', ad') ∧ fX10_add N p1 p2 p3 p4 p5 i j F G S R = some (r, i', F', G', R') ∧ RelM dd' ss' f' g' F' G' ∧ RelR tl' nn' i' R' ∧ AdW ad' ∧ i' 4 = i 4 ∧ i' 6 = i 6 := by
  obtain ⟨z1, l1, v1, rfl⟩ := zI_of p1
  obtain ⟨z2, l2, v2, rfl⟩ := zI_of p2
  obtain ⟨z3, l3, v3, rfl⟩ := zI_of p3
  obtain ⟨z4, l4, v4, rfl⟩ := zI_of p4
  obtain ⟨z5, l5, v5, rfl⟩ := zI_of p5
  by_cases q0 : 0 ≤ z1 ∧ z1 ≤ 7
  case neg =>
    refine ⟨(-1 : Int32), f, g, tl, nn, ad, upd i 9 (zI 0), F, G, R, dd, ss, ?_, ?_, hM, hR.f9, had, upd_n (by omega), upd_n (by omega)⟩
    · unfold fX9_add
      rw [c_slot0 N l1 v1 q0, bd1_s, if_pos z00]
    · unfold fX10_add
      rw [m_slot0 N l1 v1 q0, bd1_s, if_pos z00]
      rfl
  by_cases q1 : 0 ≤ z2 ∧ z2 ≤ 7
  case neg =>
    refine ⟨(-1 : Int32), f, g, tl, nn, ad, upd i 9 (zI 0), F, G, R, dd, ss, ?_, ?_, hM, hR.f9, had, upd_n (by omega), upd_n (by omega)⟩
    · unfold fX9_add
      rw [c_slot1 N q0, bd1_s, if_neg z10]
      rw [c_slot0 N l2 v2 q1, bd1_s, if_pos z00]
    · unfold fX10_add
      rw [m_slot1 N q0, bd1_s, if_neg z10]
      rw [m_slot0 N l2 v2 q1, bd1_s, if_pos z00]
      rfl
  by_cases q2 : 0 ≤ z3 ∧ z3 ≤ 3
  case neg =>
    refine ⟨(-1 : Int32), f, g, tl, nn, ad, upd i 9 (zI 0), F, G, R, dd, ss, ?_, ?_, hM, hR.f9, had, upd_n (by omega), upd_n (by omega)⟩
    · unfold fX9_add
      rw [c_slot1 N q0, bd1_s, if_neg z10]
      rw [c_slot1 N q1, bd1_s, if_neg z10]
      rw [c_law0 N l3 v3 q2, bd1_s, if_pos z00]
    · unfold fX10_add
      rw [m_slot1 N q0, bd1_s, if_neg z10]
      rw [m_slot1 N q1, bd1_s, if_neg z10]
      rw [m_law0 N l3 v3 q2, bd1_s, if_pos z00]
      rfl
  by_cases q3 : 0 ≤ z4 ∧ z4 ≤ 1
  case neg =>
    refine ⟨(-1 : Int32), f, g, tl, nn, ad, upd i 9 (zI 0), F, G, R, dd, ss, ?_, ?_, hM, hR.f9, had, upd_n (by omega), upd_n (by omega)⟩
    · unfold fX9_add
      rw [c_slot1 N q0, bd1_s, if_neg z10]
      rw [c_slot1 N q1, bd1_s, if_neg z10]
      rw [c_law1 N q2, bd1_s, if_neg z10]
      rw [c_ord0 N l4 v4 q3, bd1_s, if_pos z00]
    · unfold fX10_add
      rw [m_slot1 N q0, bd1_s, if_neg z10]
      rw [m_slot1 N q1, bd1_s, if_neg z10]
      rw [m_law1 N q2, bd1_s, if_neg z10]
      rw [m_ord0 N l4 v4 q3, bd1_s, if_pos z00]
      rfl
  by_cases q4 : 0 ≤ z5 ∧ z5 ≤ 7
  case neg =>
    refine ⟨(-1 : Int32), f, g, tl, nn, ad, upd i 9 (zI 0), F, G, R, dd, ss, ?_, ?_, hM, hR.f9, had, upd_n (by omega), upd_n (by omega)⟩
    · unfold fX9_add
      rw [c_slot1 N q0, bd1_s, if_neg z10]
      rw [c_slot1 N q1, bd1_s, if_neg z10]
      rw [c_law1 N q2, bd1_s, if_neg z10]
      rw [c_ord1 N q3, bd1_s, if_neg z10]
      rw [c_slot0 N l5 v5 q4, bd1_s, if_pos z00]
    · unfold fX10_add
      rw [m_slot1 N q0, bd1_s, if_neg z10]
      rw [m_slot1 N q1, bd1_s, if_neg z10]
      rw [m_law1 N q2, bd1_s, if_neg z10]
      rw [m_ord1 N q3, bd1_s, if_neg z10]
      rw [m_slot0 N l5 v5 q4, bd1_s, if_pos z00]
      rfl
  unfold fX9_add fX10_add
  rw [c_slot1 N q0, bd1_s, if_neg z10]
  rw [c_slot1 N q1, bd1_s, if_neg z10]
  rw [c_law1 N q2, bd1_s, if_neg z10]
  rw [c_ord1 N q3, bd1_s, if_neg z10]
  rw [c_slot1 N q4, bd1_s, if_neg z10]
  rw [m_slot1 N q0, bd1_s, if_neg z10]
  rw [m_slot1 N q1, bd1_s, if_neg z10]
  rw [m_law1 N q2, bd1_s, if_neg z10]
  rw [m_ord1 N q3, bd1_s, if_neg z10]
  rw [m_slot1 N q4, bd1_s, if_neg z10]
  obtain ⟨k1, hk1, rfl⟩ := slot_of q0
  obtain ⟨k2, hk2, rfl⟩ := slot_of q1
  obtain ⟨k5, hk5, rfl⟩ := slot_of q4
  obtain ⟨f1, f2, f3, f4, f5, f6⟩ := hM k1 hk1
  obtain ⟨s1, s2, s3, s4, s5, s6, s7⟩ := hS k2 hk2
  rw [e_takesO N ad a b c hk2 s1 s2 s3 s7, bd2_s, e_dayAt N f hk1, bd1_s, e_secondAt N g hk1, bd1_s, f1, f2]
  rw [e_standsAt N hk1, bd1_s, f3, f4]
  obtain ⟨ad1, i1, r1, w1, m1, A1, n1, w2⟩ := both N hN (j := j) (i := upd (upd (upd i 9 0) 13 (zI (dd k1))) 14 (zI (ss k1))) (had.adT (mm k2) (da k2) (se k2) z3) hk2 s4 s5 s6 s7 q2 q3 (by rw [upd_n (by omega), upd_s]) f5 upd_s f6
  rw [w1, bd2_s, m1, bd2_s]
  rcases w2 with ⟨y, u, sh, rfl, a8, a9, a10, i13, i14, i15, b1, b2, b3⟩ | rfl
  · rw [if_neg z10, if_neg z10, a8, a9, a10, e_putMoment N _ _ _ _ hk5, bd2_s, e_tell2, bd2_s, e_comesTo N hk5, bd2_s, e_tellA, bd2_s]
    simp (disch := omega) only [zl_m2147483648, zl_m2000000000, zl_m99999, zl_m10000, zl_m21, zl_m9, zl_m5, zl_m2, zl_m1, zl_0, zl_1, zl_2, zl_3, zl_4, zl_5, zl_6, zl_7, zl_8, zl_9, zl_10, zl_11, zl_12, zl_13, zl_14, zl_15, zl_16, zl_17, zl_18, zl_19, zl_23, zl_24, zl_28, zl_29, zl_30, zl_31, zl_45, zl_48, zl_52, zl_57, zl_58, zl_59, zl_60, zl_84, zl_90, zl_100, zl_101, zl_102, zl_103, zl_104, zl_105, zl_106, zl_107, zl_108, zl_109, zl_110, zl_111, zl_112, zl_113, zl_114, zl_115, zl_116, zl_117, zl_118, zl_119, zl_120, zl_121, zl_127, zl_151, zl_153, zl_181, zl_212, zl_243, zl_255, zl_273, zl_304, zl_306, zl_334, zl_365, zl_400, zl_1000, zl_1023, zl_1100, zl_1460, zl_3600, zl_9999, zl_10000, zl_30000, zl_36524, zl_86399, zl_86400, zl_99999, zl_119999, zl_146096, zl_146097, zl_730119, zl_876215, zl_876216, zl_1000000, zl_3652058, zll_m9223372036854775808, zll_m1000000000, zll_m1000009, zll_m1000002, zll_m10000, zll_m5, zll_m2, zll_m1, zll_0, zll_1, zll_2, zll_3, zll_5, zll_6, zll_7, zll_12, zll_100, zll_255, zll_400, zll_1000, zll_9999, zll_10000, zll_86399, zll_86400, zll_120000, zll_146097, zll_2629746, zll_3652058, zll_1000000000, zll_9218868437227405312, zll_9221120237041090560, nm, bd1_s, bd2_s, bd3_s, bd4_s, bd5_s, bd6_s, if01, gz_1, gz_0, gz_if, cz_lt, cz_le, cz_gt, cz_ge, cz_eq, zI_add, zI_sub, zI_mul, zI_neg, zL_add, zL_sub, zL_mul, zL_neg, zI_lt, zI_le, zI_eq, zL_lt, zL_le, zL_eq, zI_toL, zL_toI, zI_div, zL_div, zI_cl, gi_z, mod_fold, upd_s, upd_n, updL_s, updL_n, ↓reduceIte, Int.reduceLT, Int.reduceLE, Int.reduceEq, Int.reduceAdd, Int.reduceSub, Int.reduceMul, Int.reduceNeg, Int.reduceToNat, eq_self, not_true_eq_false, not_false_eq_true, true_and, false_and, and_true, and_false, true_or, false_or, or_true, or_false, e_tellB, i13, i14, i15]
    exact ⟨_, _, _, _, _, _, _, _, _, _, zup dd k5 y, zup ss k5 u, rfl, rfl, hM.up b1 b2, RelR.mk2 upd_s _ _, A1.w, by simp (disch := omega) only [upd_n, n1], by simp (disch := omega) only [upd_n, n1]⟩
  · rw [if_pos z00, if_pos z00]
    exact ⟨_, _, _, _, _, _, _, _, _, _, dd, ss, rfl, rfl, hM, hR.cong (by simp (disch := omega) only [upd_n, n1]), A1.w, by simp (disch := omega) only [upd_n, n1], by simp (disch := omega) only [upd_n, n1]⟩
theorem l_steps (N : Nat) (hN : 200000 ≤ N) {ks : Int32} {f g a b c F G S : Nat → Int32} {tl : Int32} {nn j R : Nat → Int64} {dd ss mm da se : Nat → Int} (hM : RelM dd ss f g F G) (hS : RelS mm da se a b c S) {k2 k6 : Nat} (hk2 : k2 < 8) (hk6 : k6 < 8) {law ord n5 : Int} (hl : 0 ≤ law ∧ law ≤ 3) (ho : 0 ≤ ord ∧ ord ≤ 1) (h5 : 0 ≤ n5 ∧ n5 ≤ 10000) : ∀ (n : Nat) (w lk x t : Int) (ad i : Nat → Int32), RelR tl nn i R → AdOK (mm k2) (da k2) (se k2) law ad → (ad 8 = zI x ∧ ad 9 = zI t) → (i 13 = zI x ∧ i 14 = zI t) → (0 ≤ x ∧ x ≤ 3652058) → (0 ≤ t ∧ t ≤ 86399) → (0 ≤ lk ∧ lk ≤ w) → w ≤ n5 → n5 - w < n →
    ∃ (r : Int32) (f' : Nat → Int32) (g' : Nat → Int32) (tl' : Int32) (nn' : Nat → Int64) (ad' : Nat → Int32) (i' : Nat → Int32) (F' : Nat → Int32) (G' : Nat → Int32) (R' : Nat → Int64) (dd' : Nat → Int) (ss' : Nat → Int), fX9_steps_l96 N ks a b c n (zI ord) (zI n5) (zI k6) (zI lk) (zI w) f g tl nn ad = some (r, f', g', tl', nn', ad') ∧ fX10_steps_l68 N j S n (zI k2) (zI law) (zI ord) (zI n5) (zI k6) (zI lk) (zI w) i F G R = some (r, i', F', G', R') ∧ RelM dd' ss' f' g' F' G' ∧ RelR tl' nn' i' R' ∧ AdW ad' ∧ i' 4 = i 4 ∧ i' 6 = i 6
  | 0, w, lk, x, t, ad, i, hR, hA, had, hi, hx, ht, hlk, hw, hn => by omega
  | n + 1, w, lk, x, t, ad, i, hR, hA, had, hi, hx, ht, hlk, hw, hn => by
    obtain ⟨s1, s2, s3, s4, s5, s6, s7⟩ := hS k2 hk2
    rw [fX9_steps_l96_s, fX10_steps_l68_s, had.1, had.2]
    by_cases hd : n5 ≤ w
    · rw [if_pos (i_le rfl (by omega)), if_pos (i_le rfl (by omega)), e_putMoment N _ _ _ _ hk6, bd2_s, e_tell2, bd2_s, e_comesTo N hk6, bd2_s, e_tellA, bd2_s]
      simp (disch := omega) only [zl_m2147483648, zl_m2000000000, zl_m99999, zl_m10000, zl_m21, zl_m9, zl_m5, zl_m2, zl_m1, zl_0, zl_1, zl_2, zl_3, zl_4, zl_5, zl_6, zl_7, zl_8, zl_9, zl_10, zl_11, zl_12, zl_13, zl_14, zl_15, zl_16, zl_17, zl_18, zl_19, zl_23, zl_24, zl_28, zl_29, zl_30, zl_31, zl_45, zl_48, zl_52, zl_57, zl_58, zl_59, zl_60, zl_84, zl_90, zl_100, zl_101, zl_102, zl_103, zl_104, zl_105, zl_106, zl_107, zl_108, zl_109, zl_110, zl_111, zl_112, zl_113, zl_114, zl_115, zl_116, zl_117, zl_118, zl_119, zl_120, zl_121, zl_127, zl_151, zl_153, zl_181, zl_212, zl_243, zl_255, zl_273, zl_304, zl_306, zl_334, zl_365, zl_400, zl_1000, zl_1023, zl_1100, zl_1460, zl_3600, zl_9999, zl_10000, zl_30000, zl_36524, zl_86399, zl_86400, zl_99999, zl_119999, zl_146096, zl_146097, zl_730119, zl_876215, zl_876216, zl_1000000, zl_3652058, zll_m9223372036854775808, zll_m1000000000, zll_m1000009, zll_m1000002, zll_m10000, zll_m5, zll_m2, zll_m1, zll_0, zll_1, zll_2, zll_3, zll_5, zll_6, zll_7, zll_12, zll_100, zll_255, zll_400, zll_1000, zll_9999, zll_10000, zll_86399, zll_86400, zll_120000, zll_146097, zll_2629746, zll_3652058, zll_1000000000, zll_9218868437227405312, zll_9221120237041090560, nm, bd1_s, bd2_s, bd3_s, bd4_s, bd5_s, bd6_s, if01, gz_1, gz_0, gz_if, cz_lt, cz_le, cz_gt, cz_ge, cz_eq, zI_add, zI_sub, zI_mul, zI_neg, zL_add, zL_sub, zL_mul, zL_neg, zI_lt, zI_le, zI_eq, zL_lt, zL_le, zL_eq, zI_toL, zL_toI, zI_div, zL_div, zI_cl, gi_z, mod_fold, upd_s, upd_n, updL_s, updL_n, ↓reduceIte, Int.reduceLT, Int.reduceLE, Int.reduceEq, Int.reduceAdd, Int.reduceSub, Int.reduceMul, Int.reduceNeg, Int.reduceToNat, eq_self, not_true_eq_false, not_false_eq_true, true_and, false_and, and_true, and_false, true_or, false_or, or_true, or_false, e_tellB, hi.1, hi.2]
      exact ⟨_, _, _, _, _, _, _, _, _, _, zup dd k6 x, zup ss k6 t, rfl, rfl, hM.up hx ht, RelR.mk2 upd_s _ _, hA.w, by simp (disch := omega) only [upd_n], by simp (disch := omega) only [upd_n]⟩
    · rw [if_neg (i_nle rfl (by omega)), if_neg (i_nle rfl (by omega))]
      obtain ⟨ad1, i1, r1, w1, m1, A1, n1, w2⟩ := both N hN (j := j) hA hk2 s4 s5 s6 s7 hl ho hi.1 hx hi.2 ht
      rw [w1, bd2_s, m1, bd2_s]
      rcases w2 with ⟨y, u, sh, rfl, a8, a9, a10, i13, i14, i15, b1, b2, b3⟩ | rfl
      · rw [if_neg z10, if_neg z10, a10, i15]
        have hR1 : RelR tl nn i1 R := hR.cong (n1 8 (by omega))
        by_cases hs : sh ≤ 0
        · rw [if_pos (i_le (b := 0) (by decide) (by omega)), if_pos (i_le (b := 0) (by decide) (by omega))]
          simp only [nm_s, zl_0, zl_1, zI_add, Int.add_zero]
          obtain ⟨r, f', g', tl', nn', ad', i', F', G', R', dd', ss', v1, v2, v3, v4, v5, v6, v7⟩ := l_steps N hN hM hS hk2 hk6 hl ho h5 n (w + 1) lk y u ad1 i1 hR1 A1 ⟨a8, a9⟩ ⟨i13, i14⟩ b1 b2 (by omega) (by omega) (by omega)
          exact ⟨r, f', g', tl', nn', ad', i', F', G', R', dd', ss', v1, v2, v3, v4, v5, by rw [v6, n1 4 (by omega)], by rw [v7, n1 6 (by omega)]⟩
        · rw [if_neg (i_nle (b := 0) (by decide) (by omega)), if_neg (i_nle (b := 0) (by decide) (by omega))]
          simp only [nm_s, zl_0, zl_1, zI_add, Int.add_zero]
          obtain ⟨r, f', g', tl', nn', ad', i', F', G', R', dd', ss', v1, v2, v3, v4, v5, v6, v7⟩ := l_steps N hN hM hS hk2 hk6 hl ho h5 n (w + 1) (lk + 1) y u ad1 i1 hR1 A1 ⟨a8, a9⟩ ⟨i13, i14⟩ b1 b2 (by omega) (by omega) (by omega)
          exact ⟨r, f', g', tl', nn', ad', i', F', G', R', dd', ss', v1, v2, v3, v4, v5, by rw [v6, n1 4 (by omega)], by rw [v7, n1 6 (by omega)]⟩
      · rw [if_pos z00, if_pos z00]
        exact ⟨_, _, _, _, _, _, _, _, _, _, dd, ss, rfl, rfl, hM, hR.cong (n1 8 (by omega)), A1.w, n1 4 (by omega), n1 6 (by omega)⟩
theorem p_steps (N : Nat) (hN : 200000 ≤ N) (p1 : Int32) (p2 : Int32) (p3 : Int32) (p4 : Int32) (p5 : Int32) (p6 : Int32) {ks : Int32} {f : Nat → Int32} {g : Nat → Int32} {a : Nat → Int32} {b : Nat → Int32} {c : Nat → Int32} {tl : Int32} {nn : Nat → Int64} {ad : Nat → Int32} {i : Nat → Int32} {j : Nat → Int64} {F : Nat → Int32} {G : Nat → Int32} {S : Nat → Int32} {R : Nat → Int64} {dd ss mm da se : Nat → Int} (hM : RelM dd ss f g F G) (hS : RelS mm da se a b c S) (hR : RelR tl nn i R) (had : AdW ad) : 
    ∃ (r : Int32) (f' : Nat → Int32) (g' : Nat → Int32) (tl' : Int32) (nn' : Nat → Int64) (ad' : Nat → Int32) (i' : Nat → Int32) (F' : Nat → Int32) (G' : Nat → Int32) (R' : Nat → Int64) (dd' : Nat → Int) (ss' : Nat → Int), fX9_steps N p1 p2 p3 p4 p5 p6 ks f g a b c tl nn ad = some (r, f', g', tl', nn', ad') ∧ fX10_steps N p1 p2 p3 p4 p5 p6 i j F G S R = some (r, i', F', G', R') ∧ RelM dd' ss' f' g' F' G' ∧ RelR tl' nn' i' R' ∧ AdW ad' ∧ i' 4 = i 4 ∧ i' 6 = i 6 := by
  obtain ⟨z1, l1, v1, rfl⟩ := zI_of p1
  obtain ⟨z2, l2, v2, rfl⟩ := zI_of p2
  obtain ⟨z3, l3, v3, rfl⟩ := zI_of p3
  obtain ⟨z4, l4, v4, rfl⟩ := zI_of p4
  obtain ⟨z5, l5, v5, rfl⟩ := zI_of p5
  obtain ⟨z6, l6, v6, rfl⟩ := zI_of p6
  by_cases q0 : 0 ≤ z1 ∧ z1 ≤ 7
  case neg =>
    refine ⟨(-1 : Int32), f, g, tl, nn, ad, upd i 9 (zI 0), F, G, R, dd, ss, ?_, ?_, hM, hR.f9, had, upd_n (by omega), upd_n (by omega)⟩
    · unfold fX9_steps
      rw [c_slot0 N l1 v1 q0, bd1_s, if_pos z00]
    · unfold fX10_steps
      rw [m_slot0 N l1 v1 q0, bd1_s, if_pos z00]
      rfl
  by_cases q1 : 0 ≤ z2 ∧ z2 ≤ 7
  case neg =>
    refine ⟨(-1 : Int32), f, g, tl, nn, ad, upd i 9 (zI 0), F, G, R, dd, ss, ?_, ?_, hM, hR.f9, had, upd_n (by omega), upd_n (by omega)⟩
    · unfold fX9_steps
      rw [c_slot1 N q0, bd1_s, if_neg z10]
      rw [c_slot0 N l2 v2 q1, bd1_s, if_pos z00]
    · unfold fX10_steps
      rw [m_slot1 N q0, bd1_s, if_neg z10]
      rw [m_slot0 N l2 v2 q1, bd1_s, if_pos z00]
      rfl
  by_cases q2 : 0 ≤ z3 ∧ z3 ≤ 3
  case neg =>
    refine ⟨(-1 : Int32), f, g, tl, nn, ad, upd i 9 (zI 0), F, G, R, dd, ss, ?_, ?_, hM, hR.f9, had, upd_n (by omega), upd_n (by omega)⟩
    · unfold fX9_steps
      rw [c_slot1 N q0, bd1_s, if_neg z10]
      rw [c_slot1 N q1, bd1_s, if_neg z10]
      rw [c_law0 N l3 v3 q2, bd1_s, if_pos z00]
    · unfold fX10_steps
      rw [m_slot1 N q0, bd1_s, if_neg z10]
      rw [m_slot1 N q1, bd1_s, if_neg z10]
      rw [m_law0 N l3 v3 q2, bd1_s, if_pos z00]
      rfl
  by_cases q3 : 0 ≤ z4 ∧ z4 ≤ 1
  case neg =>
    refine ⟨(-1 : Int32), f, g, tl, nn, ad, upd i 9 (zI 0), F, G, R, dd, ss, ?_, ?_, hM, hR.f9, had, upd_n (by omega), upd_n (by omega)⟩
    · unfold fX9_steps
      rw [c_slot1 N q0, bd1_s, if_neg z10]
      rw [c_slot1 N q1, bd1_s, if_neg z10]
      rw [c_law1 N q2, bd1_s, if_neg z10]
      rw [c_ord0 N l4 v4 q3, bd1_s, if_pos z00]
    · unfold fX10_steps
      rw [m_slot1 N q0, bd1_s, if_neg z10]
      rw [m_slot1 N q1, bd1_s, if_neg z10]
      rw [m_law1 N q2, bd1_s, if_neg z10]
      rw [m_ord0 N l4 v4 q3, bd1_s, if_pos z00]
      rfl
  by_cases q4 : 0 ≤ z6 ∧ z6 ≤ 7
  case neg =>
    refine ⟨(-1 : Int32), f, g, tl, nn, ad, upd i 9 (zI 0), F, G, R, dd, ss, ?_, ?_, hM, hR.f9, had, upd_n (by omega), upd_n (by omega)⟩
    · unfold fX9_steps
      rw [c_slot1 N q0, bd1_s, if_neg z10]
      rw [c_slot1 N q1, bd1_s, if_neg z10]
      rw [c_law1 N q2, bd1_s, if_neg z10]
      rw [c_ord1 N q3, bd1_s, if_neg z10]
      rw [c_slot0 N l6 v6 q4, bd1_s, if_pos z00]
    · unfold fX10_steps
      rw [m_slot1 N q0, bd1_s, if_neg z10]
      rw [m_slot1 N q1, bd1_s, if_neg z10]
      rw [m_law1 N q2, bd1_s, if_neg z10]
      rw [m_ord1 N q3, bd1_s, if_neg z10]
      by_cases q5 : 0 ≤ z5 ∧ z5 ≤ 10000
      · rw [m_in1 N (lo := 0) (hi := 10000) (by decide) (by decide) (by omega) q5, bd1_s, if_neg z10]
        rw [m_slot0 N l6 v6 q4, bd1_s, if_pos z00]
        rfl
      · rw [m_in0 N (lo := 0) (hi := 10000) (by decide) (by decide) l5 v5 (by omega) q5, bd1_s, if_pos z00]
        rfl
  by_cases q5 : 0 ≤ z5 ∧ z5 ≤ 10000
  case neg =>
    refine ⟨(-1 : Int32), f, g, tl, nn, ad, upd i 9 (zI 0), F, G, R, dd, ss, ?_, ?_, hM, hR.f9, had, upd_n (by omega), upd_n (by omega)⟩
    · unfold fX9_steps
      rw [c_slot1 N q0, bd1_s, if_neg z10]
      rw [c_slot1 N q1, bd1_s, if_neg z10]
      rw [c_law1 N q2, bd1_s, if_neg z10]
      rw [c_ord1 N q3, bd1_s, if_neg z10]
      rw [c_slot1 N q4, bd1_s, if_neg z10]
      rcases (show z5 < 0 ∨ 10000 < z5 by omega) with w | w
      · rw [if_pos (i_lt (b := 0) (by decide) (by omega))]
      · rw [if_neg (i_nlt (b := 0) (by decide) (by omega)), if_neg (i_nle (b := 10000) (by decide) (by omega))]
    · unfold fX10_steps
      rw [m_slot1 N q0, bd1_s, if_neg z10]
      rw [m_slot1 N q1, bd1_s, if_neg z10]
      rw [m_law1 N q2, bd1_s, if_neg z10]
      rw [m_ord1 N q3, bd1_s, if_neg z10]
      rw [m_in0 N (lo := 0) (hi := 10000) (by decide) (by decide) l5 v5 (by omega) q5, bd1_s, if_pos z00]
      rfl
  unfold fX9_steps fX10_steps
  rw [c_slot1 N q0, bd1_s, if_neg z10]
  rw [c_slot1 N q1, bd1_s, if_neg z10]
  rw [c_law1 N q2, bd1_s, if_neg z10]
  rw [c_ord1 N q3, bd1_s, if_neg z10]
  rw [c_slot1 N q4, bd1_s, if_neg z10]
  rw [if_neg (i_nlt (b := 0) (by decide) (by omega)), if_pos (i_le (b := 10000) (by decide) (by omega))]
  rw [m_slot1 N q0, bd1_s, if_neg z10]
  rw [m_slot1 N q1, bd1_s, if_neg z10]
  rw [m_law1 N q2, bd1_s, if_neg z10]
  rw [m_ord1 N q3, bd1_s, if_neg z10]
  rw [m_in1 N (lo := 0) (hi := 10000) (by decide) (by decide) (by omega) q5, bd1_s, if_neg z10]
  rw [m_slot1 N q4, bd1_s, if_neg z10]
  obtain ⟨k1, hk1, rfl⟩ := slot_of q0
  obtain ⟨k2, hk2, rfl⟩ := slot_of q1
  obtain ⟨k6, hk6, rfl⟩ := slot_of q4
  obtain ⟨f1, f2, f3, f4, f5, f6⟩ := hM k1 hk1
  obtain ⟨s1, s2, s3, s4, s5, s6, s7⟩ := hS k2 hk2
  rw [e_takesO N ad a b c hk2 s1 s2 s3 s7, bd2_s, e_dayAt N f hk1, bd1_s, e_secondAt N g hk1, bd1_s, f1, f2]
  rw [e_standsAt N hk1, bd1_s, f3, f4]
  have st : fX0_stands N (zI (dd k1)) (zI (ss k1)) (adT ad (mm k2) (da k2) (se k2) z3) = some (upd (upd (upd (adT ad (mm k2) (da k2) (se k2) z3) 8 (zI (dd k1))) 9 (zI (ss k1))) 10 (zI 0)) := by
    unfold fX0_stands
    simp (disch := omega) only [zl_m2147483648, zl_m2000000000, zl_m99999, zl_m10000, zl_m21, zl_m9, zl_m5, zl_m2, zl_m1, zl_0, zl_1, zl_2, zl_3, zl_4, zl_5, zl_6, zl_7, zl_8, zl_9, zl_10, zl_11, zl_12, zl_13, zl_14, zl_15, zl_16, zl_17, zl_18, zl_19, zl_23, zl_24, zl_28, zl_29, zl_30, zl_31, zl_45, zl_48, zl_52, zl_57, zl_58, zl_59, zl_60, zl_84, zl_90, zl_100, zl_101, zl_102, zl_103, zl_104, zl_105, zl_106, zl_107, zl_108, zl_109, zl_110, zl_111, zl_112, zl_113, zl_114, zl_115, zl_116, zl_117, zl_118, zl_119, zl_120, zl_121, zl_127, zl_151, zl_153, zl_181, zl_212, zl_243, zl_255, zl_273, zl_304, zl_306, zl_334, zl_365, zl_400, zl_1000, zl_1023, zl_1100, zl_1460, zl_3600, zl_9999, zl_10000, zl_30000, zl_36524, zl_86399, zl_86400, zl_99999, zl_119999, zl_146096, zl_146097, zl_730119, zl_876215, zl_876216, zl_1000000, zl_3652058, zll_m9223372036854775808, zll_m1000000000, zll_m1000009, zll_m1000002, zll_m10000, zll_m5, zll_m2, zll_m1, zll_0, zll_1, zll_2, zll_3, zll_5, zll_6, zll_7, zll_12, zll_100, zll_255, zll_400, zll_1000, zll_9999, zll_10000, zll_86399, zll_86400, zll_120000, zll_146097, zll_2629746, zll_3652058, zll_1000000000, zll_9218868437227405312, zll_9221120237041090560, nm, bd1_s, bd2_s, bd3_s, bd4_s, bd5_s, bd6_s, if01, gz_1, gz_0, gz_if, cz_lt, cz_le, cz_gt, cz_ge, cz_eq, zI_add, zI_sub, zI_mul, zI_neg, zL_add, zL_sub, zL_mul, zL_neg, zI_lt, zI_le, zI_eq, zL_lt, zL_le, zL_eq, zI_toL, zL_toI, zI_div, zL_div, zI_cl, gi_z, mod_fold, upd_s, upd_n, updL_s, updL_n, ↓reduceIte, Int.reduceLT, Int.reduceLE, Int.reduceEq, Int.reduceAdd, Int.reduceSub, Int.reduceMul, Int.reduceNeg, Int.reduceToNat, eq_self, not_true_eq_false, not_false_eq_true, true_and, false_and, and_true, and_false, true_or, false_or, or_true, or_false]
  rw [st, bd1_s, zl_0]
  obtain ⟨r, f', g', tl', nn', ad', i', F', G', R', dd', ss', v1, v2, v3, v4, v5, v6, v7⟩ := l_steps N hN (ks := ks) (j := j) (tl := tl) (nn := nn) (R := R) hM hS hk2 hk6 q2 q3 q5 N 0 0 (dd k1) (ss k1) (upd (upd (upd (adT ad (mm k2) (da k2) (se k2) z3) 8 (zI (dd k1))) 9 (zI (ss k1))) 10 (zI 0)) (upd (upd (upd i 9 (zI 0)) 13 (zI (dd k1))) 14 (zI (ss k1))) (hR.cong (by simp (disch := omega) only [upd_n])) ((had.adT _ _ _ _).cong fun k hk => by rw [upd_n (by omega), upd_n (by omega), upd_n (by omega)]) ⟨by simp (disch := omega) only [upd_n, upd_s], by simp (disch := omega) only [upd_n, upd_s]⟩ ⟨by simp (disch := omega) only [upd_n, upd_s], by simp (disch := omega) only [upd_n, upd_s]⟩ f5 f6 (by omega) (by omega) (by omega)
  exact ⟨r, f', g', tl', nn', ad', i', F', G', R', dd', ss', v1, v2, v3, v4, v5, by rw [v6]; simp (disch := omega) only [upd_n], by rw [v7]; simp (disch := omega) only [upd_n]⟩
/-! spans that come out -/
theorem both_span (N : Nat) (hN : 200000 ≤ N) {ks : Int32} {a b c i S : Nat → Int32} {tl : Int32} {nn j R : Nat → Int64} {mm da se : Nat → Int} (hS : RelS mm da se a b c S) (hR : RelR tl nn i R) {k : Nat} (hk : k < 8) {x y z : Int} (hx : -4611686018427387904 ≤ x ∧ x ≤ 4611686018427387904) (hy : -4611686018427387904 ≤ y ∧ y ≤ 4611686018427387904) (hz : -4611686018427387904 ≤ z ∧ z ≤ 4611686018427387904) :
    ∃ (r : Int32) (a' b' c' : Nat → Int32) (tl' : Int32) (nn' : Nat → Int64) (i' S' : Nat → Int32) (R' : Nat → Int64) (mm' da' se' : Nat → Int), fX9_comesToSpan N (zI k) (zL x) (zL y) (zL z) ks a b c tl nn = some (r, a', b', c', tl', nn') ∧ fX10_comesSpan N (zI k) (zL x) (zL y) (zL z) i j S R = some (r, i', S', R') ∧ RelS mm' da' se' a' b' c' S' ∧ RelR tl' nn' i' R' ∧ i' 4 = i 4 ∧ i' 6 = i 6 := by
  unfold fX9_comesToSpan fX10_comesSpan
  rw [e_areBounded N hx hy hz, bd1_s, e_isPart_m N hx.1 hx.2, bd1_s, e_isPart_m N hy.1 hy.2, e_isPart_m N hz.1 hz.2]
  by_cases h : sp_b3 x y z
  · rw [if_pos h, if_neg z10, if_pos h.1, if_neg z10, bd1_s, if_pos h.2.1, if_neg z10, bd1_s, if_pos h.2.2, if_neg z10, e_laysSpan N hk, bd1_s]
    have hS2 := hS.up (k := k) h
    obtain ⟨-, -, -, s4, s5, s6, -⟩ := hS2 k hk
    rw [zup_s] at s4 s5 s6
    rw [e_tellsSpan N hN hk s4 s5 s6 h, bd2_s, zL_toI, zL_toI, zL_toI, e_putSpan N _ _ _ _ _ _ hk, bd3_s, e_tell3, bd2_s]
    exact ⟨_, _, _, _, _, _, _, _, _, _, _, _, rfl, rfl, hS2, RelR.mk3 upd_s _ _ _, by simp (disch := omega) only [upd_n], by simp (disch := omega) only [upd_n]⟩
  · rw [if_neg h, if_pos z00]
    refine ⟨_, _, _, _, _, _, i, S, R, _, _, _, rfl, ?_, hS, hR, rfl, rfl⟩
    by_cases h1 : sp_b1 x
    · rw [if_pos h1, if_neg z10, bd1_s]
      by_cases h2 : sp_b1 y
      · rw [if_pos h2, if_neg z10, bd1_s, if_neg (fun h3 => h ⟨h1, h2, h3⟩), if_pos z00]
      · rw [if_neg h2, if_pos z00]
    · rw [if_neg h1, if_pos z00]
theorem p_sum (N : Nat) (hN : 200000 ≤ N) (p1 : Int32) (p2 : Int32) (p3 : Int32) {ks : Int32} {a : Nat → Int32} {b : Nat → Int32} {c : Nat → Int32} {tl : Int32} {nn : Nat → Int64} {i : Nat → Int32} {j : Nat → Int64} {S : Nat → Int32} {R : Nat → Int64} {mm da se : Nat → Int} (hS : RelS mm da se a b c S) (hR : RelR tl nn i R) : 
    ∃ (r : Int32) (a' : Nat → Int32) (b' : Nat → Int32) (c' : Nat → Int32) (tl' : Int32) (nn' : Nat → Int64) (i' : Nat → Int32) (S' : Nat → Int32) (R' : Nat → Int64) (mm' : Nat → Int) (da' : Nat → Int) (se' : Nat → Int), fX9_sum N p1 p2 p3 ks a b c tl nn = some (r, a', b', c', tl', nn') ∧ fX10_sum N p1 p2 p3 i j S R = some (r, i', S', R') ∧ RelS mm' da' se' a' b' c' S' ∧ RelR tl' nn' i' R' ∧ i' 4 = i 4 ∧ i' 6 = i 6 := by
  obtain ⟨z1, l1, v1, rfl⟩ := zI_of p1
  obtain ⟨z2, l2, v2, rfl⟩ := zI_of p2
  obtain ⟨z3, l3, v3, rfl⟩ := zI_of p3
  by_cases q0 : 0 ≤ z1 ∧ z1 ≤ 7
  case neg =>
    refine ⟨(-1 : Int32), a, b, c, tl, nn, upd i 9 (zI 0), S, R, mm, da, se, ?_, ?_, hS, hR.f9, upd_n (by omega), upd_n (by omega)⟩
    · unfold fX9_sum
      rw [c_slot0 N l1 v1 q0, bd1_s, if_pos z00]
    · unfold fX10_sum
      rw [m_slot0 N l1 v1 q0, bd1_s, if_pos z00]
      rfl
  by_cases q1 : 0 ≤ z2 ∧ z2 ≤ 7
  case neg =>
    refine ⟨(-1 : Int32), a, b, c, tl, nn, upd i 9 (zI 0), S, R, mm, da, se, ?_, ?_, hS, hR.f9, upd_n (by omega), upd_n (by omega)⟩
    · unfold fX9_sum
      rw [c_slot1 N q0, bd1_s, if_neg z10]
      rw [c_slot0 N l2 v2 q1, bd1_s, if_pos z00]
    · unfold fX10_sum
      rw [m_slot1 N q0, bd1_s, if_neg z10]
      rw [m_slot0 N l2 v2 q1, bd1_s, if_pos z00]
      rfl
  by_cases q2 : 0 ≤ z3 ∧ z3 ≤ 7
  case neg =>
    refine ⟨(-1 : Int32), a, b, c, tl, nn, upd i 9 (zI 0), S, R, mm, da, se, ?_, ?_, hS, hR.f9, upd_n (by omega), upd_n (by omega)⟩
    · unfold fX9_sum
      rw [c_slot1 N q0, bd1_s, if_neg z10]
      rw [c_slot1 N q1, bd1_s, if_neg z10]
      rw [c_slot0 N l3 v3 q2, bd1_s, if_pos z00]
    · unfold fX10_sum
      rw [m_slot1 N q0, bd1_s, if_neg z10]
      rw [m_slot1 N q1, bd1_s, if_neg z10]
      rw [m_slot0 N l3 v3 q2, bd1_s, if_pos z00]
      rfl
  unfold fX9_sum fX10_sum
  rw [c_slot1 N q0, bd1_s, if_neg z10]
  rw [c_slot1 N q1, bd1_s, if_neg z10]
  rw [c_slot1 N q2, bd1_s, if_neg z10]
  rw [m_slot1 N q0, bd1_s, if_neg z10]
  rw [m_slot1 N q1, bd1_s, if_neg z10]
  rw [m_slot1 N q2, bd1_s, if_neg z10]
  obtain ⟨k1, hk1, rfl⟩ := slot_of q0
  obtain ⟨k2, hk2, rfl⟩ := slot_of q1
  obtain ⟨k3, hk3, rfl⟩ := slot_of q2
  obtain ⟨s1, s2, s3, s4, s5, s6, s7⟩ := hS k1 hk1
  obtain ⟨t1, t2, t3, t4, t5, t6, t7⟩ := hS k2 hk2
  rw [e_monthsAt N a hk1, bd1_s, e_monthsAt N a hk2, bd1_s, e_daysAt N b hk1, bd1_s, e_daysAt N b hk2, bd1_s, e_secondsAt N c hk1, bd1_s, e_secondsAt N c hk2, bd1_s, s1, s2, s3, t1, t2, t3]
  obtain ⟨r, a', b', c', tl', nn', i', S', R', mm', da', se', w1, w2, w3, w4, w5, w6⟩ := both_span N hN (ks := ks) (j := j) (i := upd i 9 (zI 0)) hS hR.f9 hk3 (x := mm k1 + mm k2) (y := da k1 + da k2) (z := se k1 + se k2) (by omega) (by omega) (by omega)
  simp (disch := omega) only [zl_m2147483648, zl_m2000000000, zl_m99999, zl_m10000, zl_m21, zl_m9, zl_m5, zl_m2, zl_m1, zl_0, zl_1, zl_2, zl_3, zl_4, zl_5, zl_6, zl_7, zl_8, zl_9, zl_10, zl_11, zl_12, zl_13, zl_14, zl_15, zl_16, zl_17, zl_18, zl_19, zl_23, zl_24, zl_28, zl_29, zl_30, zl_31, zl_45, zl_48, zl_52, zl_57, zl_58, zl_59, zl_60, zl_84, zl_90, zl_100, zl_101, zl_102, zl_103, zl_104, zl_105, zl_106, zl_107, zl_108, zl_109, zl_110, zl_111, zl_112, zl_113, zl_114, zl_115, zl_116, zl_117, zl_118, zl_119, zl_120, zl_121, zl_127, zl_151, zl_153, zl_181, zl_212, zl_243, zl_255, zl_273, zl_304, zl_306, zl_334, zl_365, zl_400, zl_1000, zl_1023, zl_1100, zl_1460, zl_3600, zl_9999, zl_10000, zl_30000, zl_36524, zl_86399, zl_86400, zl_99999, zl_119999, zl_146096, zl_146097, zl_730119, zl_876215, zl_876216, zl_1000000, zl_3652058, zll_m9223372036854775808, zll_m1000000000, zll_m1000009, zll_m1000002, zll_m10000, zll_m5, zll_m2, zll_m1, zll_0, zll_1, zll_2, zll_3, zll_5, zll_6, zll_7, zll_12, zll_100, zll_255, zll_400, zll_1000, zll_9999, zll_10000, zll_86399, zll_86400, zll_120000, zll_146097, zll_2629746, zll_3652058, zll_1000000000, zll_9218868437227405312, zll_9221120237041090560, nm, bd1_s, bd2_s, bd3_s, bd4_s, bd5_s, bd6_s, if01, gz_1, gz_0, gz_if, cz_lt, cz_le, cz_gt, cz_ge, cz_eq, zI_add, zI_sub, zI_mul, zI_neg, zL_add, zL_sub, zL_mul, zL_neg, zI_lt, zI_le, zI_eq, zL_lt, zL_le, zL_eq, zI_toL, zL_toI, zI_div, zL_div, zI_cl, gi_z, mod_fold, upd_s, upd_n, updL_s, updL_n, ↓reduceIte, Int.reduceLT, Int.reduceLE, Int.reduceEq, Int.reduceAdd, Int.reduceSub, Int.reduceMul, Int.reduceNeg, Int.reduceToNat, eq_self, not_true_eq_false, not_false_eq_true, true_and, false_and, and_true, and_false, true_or, false_or, or_true, or_false, tn1, tn3, tn31, tn32, s4, s5, s6, t4, t5, t6, w1, w2]
  exact ⟨_, _, _, _, _, _, _, _, _, _, _, _, rfl, rfl, w3, w4, by rw [w5]; simp (disch := omega) only [upd_n], by rw [w6]; simp (disch := omega) only [upd_n]⟩
theorem mul_b2 {a t : Int} (h1 : sp_b1 a) (h2 : -2147483648 ≤ t ∧ t ≤ 2147483648) : -4611686018427387904 ≤ a * t ∧ a * t ≤ 4611686018427387904 := by
  have e1 : a * t ≤ 1000000000 * 2147483648 := by
    have h3 := Int.natAbs_mul a t
    have h4 : a.natAbs * t.natAbs ≤ 1000000000 * 2147483648 := Nat.mul_le_mul (by omega) (by omega)
    omega
  have e2 : -(1000000000 * 2147483648) ≤ a * t := by
    have h3 := Int.natAbs_mul a t
    have h4 : a.natAbs * t.natAbs ≤ 1000000000 * 2147483648 := Nat.mul_le_mul (by omega) (by omega)
    omega
  omega
theorem p_mult (N : Nat) (hN : 200000 ≤ N) (p1 : Int32) (p2 : Int32) (p3 : Int32) {ks : Int32} {a : Nat → Int32} {b : Nat → Int32} {c : Nat → Int32} {tl : Int32} {nn : Nat → Int64} {i : Nat → Int32} {j : Nat → Int64} {S : Nat → Int32} {R : Nat → Int64} {mm da se : Nat → Int} (hS : RelS mm da se a b c S) (hR : RelR tl nn i R) : 
    ∃ (r : Int32) (a' : Nat → Int32) (b' : Nat → Int32) (c' : Nat → Int32) (tl' : Int32) (nn' : Nat → Int64) (i' : Nat → Int32) (S' : Nat → Int32) (R' : Nat → Int64) (mm' : Nat → Int) (da' : Nat → Int) (se' : Nat → Int), fX9_mult N p1 p2 p3 ks a b c tl nn = some (r, a', b', c', tl', nn') ∧ fX10_mult N p1 p2 p3 i j S R = some (r, i', S', R') ∧ RelS mm' da' se' a' b' c' S' ∧ RelR tl' nn' i' R' ∧ i' 4 = i 4 ∧ i' 6 = i 6 := by
  obtain ⟨z1, l1, v1, rfl⟩ := zI_of p1
  obtain ⟨z2, l2, v2, rfl⟩ := zI_of p2
  obtain ⟨z3, l3, v3, rfl⟩ := zI_of p3
  by_cases q0 : 0 ≤ z1 ∧ z1 ≤ 7
  case neg =>
    refine ⟨(-1 : Int32), a, b, c, tl, nn, upd i 9 (zI 0), S, R, mm, da, se, ?_, ?_, hS, hR.f9, upd_n (by omega), upd_n (by omega)⟩
    · unfold fX9_mult
      rw [c_slot0 N l1 v1 q0, bd1_s, if_pos z00]
    · unfold fX10_mult
      rw [m_slot0 N l1 v1 q0, bd1_s, if_pos z00]
      rfl
  by_cases q1 : 0 ≤ z3 ∧ z3 ≤ 7
  case neg =>
    refine ⟨(-1 : Int32), a, b, c, tl, nn, upd i 9 (zI 0), S, R, mm, da, se, ?_, ?_, hS, hR.f9, upd_n (by omega), upd_n (by omega)⟩
    · unfold fX9_mult
      rw [c_slot1 N q0, bd1_s, if_neg z10]
      rw [c_slot0 N l3 v3 q1, bd1_s, if_pos z00]
    · unfold fX10_mult
      rw [m_slot1 N q0, bd1_s, if_neg z10]
      rw [m_slot0 N l3 v3 q1, bd1_s, if_pos z00]
      rfl
  unfold fX9_mult fX10_mult
  rw [c_slot1 N q0, bd1_s, if_neg z10]
  rw [c_slot1 N q1, bd1_s, if_neg z10]
  rw [m_slot1 N q0, bd1_s, if_neg z10]
  rw [m_slot1 N q1, bd1_s, if_neg z10]
  obtain ⟨k1, hk1, rfl⟩ := slot_of q0
  obtain ⟨k3, hk3, rfl⟩ := slot_of q1
  obtain ⟨s1, s2, s3, s4, s5, s6, s7⟩ := hS k1 hk1
  rw [e_monthsAt N a hk1, bd1_s, e_daysAt N b hk1, bd1_s, e_secondsAt N c hk1, bd1_s, s1, s2, s3]
  obtain ⟨r, a', b', c', tl', nn', i', S', R', mm', da', se', w1, w2, w3, w4, w5, w6⟩ := both_span N hN (ks := ks) (j := j) (i := upd i 9 (zI 0)) hS hR.f9 hk3 (x := mm k1 * z2) (y := da k1 * z2) (z := se k1 * z2) (mul_b2 s7.1 (by omega)) (mul_b2 s7.2.1 (by omega)) (mul_b2 s7.2.2 (by omega))
  simp (disch := omega) only [zl_m2147483648, zl_m2000000000, zl_m99999, zl_m10000, zl_m21, zl_m9, zl_m5, zl_m2, zl_m1, zl_0, zl_1, zl_2, zl_3, zl_4, zl_5, zl_6, zl_7, zl_8, zl_9, zl_10, zl_11, zl_12, zl_13, zl_14, zl_15, zl_16, zl_17, zl_18, zl_19, zl_23, zl_24, zl_28, zl_29, zl_30, zl_31, zl_45, zl_48, zl_52, zl_57, zl_58, zl_59, zl_60, zl_84, zl_90, zl_100, zl_101, zl_102, zl_103, zl_104, zl_105, zl_106, zl_107, zl_108, zl_109, zl_110, zl_111, zl_112, zl_113, zl_114, zl_115, zl_116, zl_117, zl_118, zl_119, zl_120, zl_121, zl_127, zl_151, zl_153, zl_181, zl_212, zl_243, zl_255, zl_273, zl_304, zl_306, zl_334, zl_365, zl_400, zl_1000, zl_1023, zl_1100, zl_1460, zl_3600, zl_9999, zl_10000, zl_30000, zl_36524, zl_86399, zl_86400, zl_99999, zl_119999, zl_146096, zl_146097, zl_730119, zl_876215, zl_876216, zl_1000000, zl_3652058, zll_m9223372036854775808, zll_m1000000000, zll_m1000009, zll_m1000002, zll_m10000, zll_m5, zll_m2, zll_m1, zll_0, zll_1, zll_2, zll_3, zll_5, zll_6, zll_7, zll_12, zll_100, zll_255, zll_400, zll_1000, zll_9999, zll_10000, zll_86399, zll_86400, zll_120000, zll_146097, zll_2629746, zll_3652058, zll_1000000000, zll_9218868437227405312, zll_9221120237041090560, nm, bd1_s, bd2_s, bd3_s, bd4_s, bd5_s, bd6_s, if01, gz_1, gz_0, gz_if, cz_lt, cz_le, cz_gt, cz_ge, cz_eq, zI_add, zI_sub, zI_mul, zI_neg, zL_add, zL_sub, zL_mul, zL_neg, zI_lt, zI_le, zI_eq, zL_lt, zL_le, zL_eq, zI_toL, zL_toI, zI_div, zL_div, zI_cl, gi_z, mod_fold, upd_s, upd_n, updL_s, updL_n, ↓reduceIte, Int.reduceLT, Int.reduceLE, Int.reduceEq, Int.reduceAdd, Int.reduceSub, Int.reduceMul, Int.reduceNeg, Int.reduceToNat, eq_self, not_true_eq_false, not_false_eq_true, true_and, false_and, and_true, and_false, true_or, false_or, or_true, or_false, tn1, tn3, tn31, tn32, s4, s5, s6, w1, w2, Int.mul_comm z2]
  exact ⟨_, _, _, _, _, _, _, _, _, _, _, _, rfl, rfl, w3, w4, by rw [w5]; simp (disch := omega) only [upd_n], by rw [w6]; simp (disch := omega) only [upd_n]⟩
theorem p_turn (N : Nat) (hN : 200000 ≤ N) (p1 : Int32) (p2 : Int32) {ks : Int32} {a : Nat → Int32} {b : Nat → Int32} {c : Nat → Int32} {tl : Int32} {nn : Nat → Int64} {i : Nat → Int32} {j : Nat → Int64} {S : Nat → Int32} {R : Nat → Int64} {mm da se : Nat → Int} (hS : RelS mm da se a b c S) (hR : RelR tl nn i R) : 
    ∃ (r : Int32) (a' : Nat → Int32) (b' : Nat → Int32) (c' : Nat → Int32) (tl' : Int32) (nn' : Nat → Int64) (i' : Nat → Int32) (S' : Nat → Int32) (R' : Nat → Int64) (mm' : Nat → Int) (da' : Nat → Int) (se' : Nat → Int), fX9_turn N p1 p2 ks a b c tl nn = some (r, a', b', c', tl', nn') ∧ fX10_turn N p1 p2 i j S R = some (r, i', S', R') ∧ RelS mm' da' se' a' b' c' S' ∧ RelR tl' nn' i' R' ∧ i' 4 = i 4 ∧ i' 6 = i 6 := by
  obtain ⟨r, a', b', c', tl', nn', i', S', R', mm', da', se', w1, w2, w3, w4, w5, w6⟩ := p_mult N hN p1 (-1 : Int32) p2 (ks := ks) (j := j) hS hR
  refine ⟨r, a', b', c', tl', nn', i', S', R', mm', da', se', ?_, ?_, w3, w4, w5, w6⟩
  · unfold fX9_turn
    rw [w1, bd6_s]
  · unfold fX10_turn
    rw [w2, bd4_s]
theorem tdiv_f {s : Int} (h : -1000000000000 ≤ s ∧ s ≤ 1000000000000) : (-11574075 ≤ s.tdiv 86400 ∧ s.tdiv 86400 ≤ 11574075) ∧ -86399 ≤ s - s.tdiv 86400 * 86400 ∧ s - s.tdiv 86400 * 86400 ≤ 86399 := by
  by_cases h0 : 0 ≤ s
  · rw [tdiv_pos h0]; omega
  · rw [tdiv_neg (by omega)]; omega
theorem p_even (N : Nat) (hN : 200000 ≤ N) (p1 : Int32) (p2 : Int32) {ks : Int32} {a : Nat → Int32} {b : Nat → Int32} {c : Nat → Int32} {tl : Int32} {nn : Nat → Int64} {i : Nat → Int32} {j : Nat → Int64} {S : Nat → Int32} {R : Nat → Int64} {mm da se : Nat → Int} (hS : RelS mm da se a b c S) (hR : RelR tl nn i R) : 
    ∃ (r : Int32) (a' : Nat → Int32) (b' : Nat → Int32) (c' : Nat → Int32) (tl' : Int32) (nn' : Nat → Int64) (i' : Nat → Int32) (S' : Nat → Int32) (R' : Nat → Int64) (mm' : Nat → Int) (da' : Nat → Int) (se' : Nat → Int), fX9_even N p1 p2 ks a b c tl nn = some (r, a', b', c', tl', nn') ∧ fX10_even N p1 p2 i j S R = some (r, i', S', R') ∧ RelS mm' da' se' a' b' c' S' ∧ RelR tl' nn' i' R' ∧ i' 4 = i 4 ∧ i' 6 = i 6 := by
  obtain ⟨z1, l1, v1, rfl⟩ := zI_of p1
  obtain ⟨z2, l2, v2, rfl⟩ := zI_of p2
  by_cases q0 : 0 ≤ z1 ∧ z1 ≤ 7
  case neg =>
    refine ⟨(-1 : Int32), a, b, c, tl, nn, upd i 9 (zI 0), S, R, mm, da, se, ?_, ?_, hS, hR.f9, upd_n (by omega), upd_n (by omega)⟩
    · unfold fX9_even
      rw [c_slot0 N l1 v1 q0, bd1_s, if_pos z00]
    · unfold fX10_even
      rw [m_slot0 N l1 v1 q0, bd1_s, if_pos z00]
      rfl
  by_cases q1 : 0 ≤ z2 ∧ z2 ≤ 7
  case neg =>
    refine ⟨(-1 : Int32), a, b, c, tl, nn, upd i 9 (zI 0), S, R, mm, da, se, ?_, ?_, hS, hR.f9, upd_n (by omega), upd_n (by omega)⟩
    · unfold fX9_even
      rw [c_slot1 N q0, bd1_s, if_neg z10]
      rw [c_slot0 N l2 v2 q1, bd1_s, if_pos z00]
    · unfold fX10_even
      rw [m_slot1 N q0, bd1_s, if_neg z10]
      rw [m_slot0 N l2 v2 q1, bd1_s, if_pos z00]
      rfl
  unfold fX9_even fX10_even
  rw [c_slot1 N q0, bd1_s, if_neg z10]
  rw [c_slot1 N q1, bd1_s, if_neg z10]
  rw [m_slot1 N q0, bd1_s, if_neg z10]
  rw [m_slot1 N q1, bd1_s, if_neg z10]
  obtain ⟨k1, hk1, rfl⟩ := slot_of q0
  obtain ⟨k2, hk2, rfl⟩ := slot_of q1
  obtain ⟨s1, s2, s3, s4, s5, s6, s7⟩ := hS k1 hk1
  rw [e_secondsAt N c hk1, bd1_s, e_monthsAt N a hk1, bd1_s, e_daysAt N b hk1, bd1_s, s1, s2, s3]
  have q := tdiv_f (s := se k1) (by omega)
  obtain ⟨Q, hQ⟩ : ∃ Q, Q = (se k1).tdiv 86400 := ⟨_, rfl⟩
  have t1 : zI (se k1) / zI 86400 = zI Q := by rw [zI_tdiv (by omega) (by omega) (by omega) (by omega), hQ]
  have t2 : zL (se k1) / zL 86400 = zL Q := by rw [zL_tdiv (by omega) (by omega) (by omega) (by omega), hQ]
  rw [← hQ] at q
  obtain ⟨r, a', b', c', tl', nn', i', S', R', mm', da', se', w1, w2, w3, w4, w5, w6⟩ := both_span N hN (ks := ks) (j := j) (i := upd i 9 (zI 0)) hS hR.f9 hk2 (x := mm k1) (y := da k1 + Q) (z := se k1 - Q * 86400) (by omega) (by omega) (by omega)
  simp (disch := omega) only [zl_86400, zll_86400, zl_0, zl_3, zl_1, zl_2, t1, t2, nm_s, gi_z, zI_mul, zI_add, zI_sub, zL_add, zL_sub, zL_mul, zI_toL, zI_cl, tn1, tn3, tn31, tn32, s4, s5, s6, w1, w2, bd6_s, bd4_s]
  exact ⟨_, _, _, _, _, _, _, _, _, _, _, _, rfl, rfl, w3, w4, by rw [w5]; simp (disch := omega) only [upd_n], by rw [w6]; simp (disch := omega) only [upd_n]⟩
