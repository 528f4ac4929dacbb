/-- the same, not by definition alone: for long simplifications -/
theorem nm_t {α β : Type} {x : α} {k : α → β} : nm x k = k x := Eq.trans (Eq.refl (nm x k)) nm_s
theorem bd1_t {a ρ : Type} {x : a} {k : a → Option ρ} : bd1 (some x) k = k x := Eq.trans (Eq.refl _) bd1_s
theorem bd2_t {a b ρ : Type} {x : a} {y : b} {k : a → b → Option ρ} : bd2 (some (x, y)) k = k x y := Eq.trans (Eq.refl _) bd2_s
theorem bd3_t {a b c ρ : Type} {x : a} {y : b} {z : c} {k : a → b → c → Option ρ} : bd3 (some (x, y, z)) k = k x y z := Eq.trans (Eq.refl _) bd3_s
theorem bd4_t {a b c d ρ : Type} {x : a} {y : b} {z : c} {w : d} {k : a → b → c → d → Option ρ} : bd4 (some (x, y, z, w)) k = k x y z w := Eq.trans (Eq.refl _) bd4_s
theorem bd5_t {a b c d e ρ : Type} {x : a} {y : b} {z : c} {w : d} {u : e} {k : a → b → c → d → e → Option ρ} : bd5 (some (x, y, z, w, u)) k = k x y z w u := Eq.trans (Eq.refl _) bd5_s
theorem bd6_t {a b c d e f ρ : Type} {x : a} {y : b} {z : c} {w : d} {u : e} {v : f} {k : a → b → c → d → e → f → Option ρ} : bd6 (some (x, y, z, w, u, v)) k = k x y z w u v := Eq.trans (Eq.refl _) bd6_s
/-! long numbers compared -/
theorem k_lt {a b : Int} (h : -4611686018427387904 ≤ a ∧ a ≤ 4611686018427387904 ∧ -4611686018427387904 ≤ b ∧ b ≤ 4611686018427387904 ∧ a < b) : lg_cmp (zL a) (zL b) < (0 : Int32) := by
  rw [zl_0, cz_lt, zL_lt (by omega) (by omega) (by omega) (by omega)]; omega
theorem k_nlt {a b : Int} (h : -4611686018427387904 ≤ a ∧ a ≤ 4611686018427387904 ∧ -4611686018427387904 ≤ b ∧ b ≤ 4611686018427387904 ∧ b ≤ a) : ¬ (lg_cmp (zL a) (zL b) < (0 : Int32)) := by
  rw [zl_0, cz_lt, zL_lt (by omega) (by omega) (by omega) (by omega)]; omega
theorem k_le {a b : Int} (h : -4611686018427387904 ≤ a ∧ a ≤ 4611686018427387904 ∧ -4611686018427387904 ≤ b ∧ b ≤ 4611686018427387904 ∧ a ≤ b) : lg_cmp (zL a) (zL b) ≤ (0 : Int32) := by
  rw [zl_0, cz_le, zL_le (by omega) (by omega) (by omega) (by omega)]; omega
theorem k_nle {a b : Int} (h : -4611686018427387904 ≤ a ∧ a ≤ 4611686018427387904 ∧ -4611686018427387904 ≤ b ∧ b ≤ 4611686018427387904 ∧ b < a) : ¬ (lg_cmp (zL a) (zL b) ≤ (0 : Int32)) := by
  rw [zl_0, cz_le, zL_le (by omega) (by omega) (by omega) (by omega)]; omega
theorem k_ge {a b : Int} (h : -4611686018427387904 ≤ a ∧ a ≤ 4611686018427387904 ∧ -4611686018427387904 ≤ b ∧ b ≤ 4611686018427387904 ∧ b ≤ a) : (0 : Int32) ≤ lg_cmp (zL a) (zL b) := by
  rw [zl_0, cz_ge, zL_le (by omega) (by omega) (by omega) (by omega)]; omega
theorem k_nge {a b : Int} (h : -4611686018427387904 ≤ a ∧ a ≤ 4611686018427387904 ∧ -4611686018427387904 ≤ b ∧ b ≤ 4611686018427387904 ∧ a < b) : ¬ ((0 : Int32) ≤ lg_cmp (zL a) (zL b)) := by
  rw [zl_0, cz_ge, zL_le (by omega) (by omega) (by omega) (by omega)]; omega
theorem k_eq {a b : Int} (h : a = b) : lg_cmp (zL a) (zL b) = (0 : Int32) := by
  rw [zl_0, cz_eq, h]
theorem k_neq {a b : Int} (h : -4611686018427387904 ≤ a ∧ a ≤ 4611686018427387904 ∧ -4611686018427387904 ≤ b ∧ b ≤ 4611686018427387904 ∧ a ≠ b) : ¬ (lg_cmp (zL a) (zL b) = (0 : Int32)) := by
  rw [zl_0, cz_eq, zL_eq (by omega) (by omega) (by omega) (by omega)]; omega
/-! a span so many times, at once -/
theorem bothN (N : Nat) (hN : 200000 ≤ N) {a i F : Nat → Int32} {j : Nat → Int64} {k : Nat} {m d s n law x t : Int} (hA : AdOK (m * n) (d * n) (s * n) law a) (h : k < 8) (hf : F (3 * k) = zI m) (hg : F (3 * k + 1) = zI d) (he : F (3 * k + 2) = zI s) (hb0 : sp_b3 m d s) (hb : sp_b3 (m * n) (d * n) (s * n)) (hl : 0 ≤ law ∧ law ≤ 3) (h13 : i 13 = zI x) (h1 : 0 ≤ x ∧ x ≤ 3652058) (h14 : i 14 = zI t) (h2 : 0 ≤ t ∧ t ≤ 86399) :
    ∃ a' i' r, fX0_leads N (zI x) (zI t) (0 : Int32) a = some (r, a') ∧ fX10_addsSpan N (zI k) (zL n) (zI law) (0 : Int32) i j F = some (r, i') ∧ AdOK (m * n) (d * n) (s * n) law a' ∧ (∀ k, k < 10 ∨ 15 < k → i' k = i k) ∧ ((∃ y u sh, r = zI 1 ∧ a' 8 = zI y ∧ a' 9 = zI u ∧ a' 10 = zI sh ∧ i' 13 = zI y ∧ i' 14 = zI u ∧ i' 15 = zI sh ∧ (0 ≤ y ∧ y ≤ 3652058) ∧ (0 ≤ u ∧ u ≤ 86399) ∧ 0 ≤ sh ∧ sh ≤ 3) ∨ r = zI 0) := by
  obtain ⟨a1, r1, w1, A1, w2⟩ := e_leads N (ord := 0) hA hb hl (by omega) h1 h2
  obtain ⟨i1, r2, m1, n1, m2⟩ := e_addsSpan N (by omega) (j := j) (ord := 0) h hf hg he hb hb0 hl (by omega) h13 h1 h14 h2
  rw [← zl_0] at w1 m1
  rcases w2 with ⟨y, u, sh, e1, rfl, a8, a9, a10, b1, b2, b3⟩ | ⟨e1, rfl⟩
  · rcases m2 with ⟨y', u', sh', e2, rfl, i13, i14, i15, -⟩ | ⟨e2, -⟩
    · rw [e1] at e2
      injection e2 with e2
      injection e2 with e3 e2
      injection e2 with e4 e5
      subst e3; subst e4; subst e5
      exact ⟨a1, i1, zI 1, w1, m1, A1, n1, Or.inl ⟨y, u, sh, rfl, a8, a9, a10, i13, i14, i15, b1, b2, b3⟩⟩
    · rw [e1] at e2; exact absurd e2 (by simp)
  · rcases m2 with ⟨y', u', sh', e2, -⟩ | ⟨e2, rfl⟩
    · rw [e1] at e2; exact absurd e2 (by simp)
    · exact ⟨a1, i1, zI 0, w1, m1, A1, n1, Or.inr rfl⟩
theorem both_at (N : Nat) (hN : 200000 ≤ N) {ks : Int32} {f g a b c F G S ad i : Nat → Int32} {j : Nat → Int64} {dd ss mm da se : Nat → Int} (hM : RelM dd ss f g F G) (hS : RelS mm da se a b c S) (had : AdW ad) {k1 k2 : Nat} (hk1 : k1 < 8) (hk2 : k2 < 8) {law n : Int} (hl : 0 ≤ law ∧ law ≤ 3) (hn : 0 ≤ n ∧ n ≤ 10000) :
    ∃ ad' i' r, fX9_leadsAtOnce N (zI k1) (zI k2) (zI law) (zI n) ks f g a b c ad = some (r, ad') ∧ fX10_leads N (zI k1) (zI k2) (zI law) (zI n) i j F G S = some (r, i') ∧ AdW ad' ∧ (∀ k, k < 10 ∨ 15 < k → i' k = i k) ∧ ((∃ y u, r = zI 1 ∧ ad' 8 = zI y ∧ ad' 9 = zI u ∧ i' 13 = zI y ∧ i' 14 = zI u ∧ (0 ≤ y ∧ y ≤ 3652058) ∧ (0 ≤ u ∧ u ≤ 86399)) ∨ r = zI 0) := by
  obtain ⟨f1, f2, f3, f4, f5, f6⟩ := hM k1 hk1
  obtain ⟨s1, s2, s3, s4, s5, s6, s7⟩ := hS k2 hk2
  unfold fX9_leadsAtOnce fX10_leads
  rw [e_standsAt N hk1, bd1_s, zI_toL (by omega) (by omega), e_isBeyond N _ S j hk2 s4 s5 s6 s7 (by omega), bd1_s, f3, f4]
  by_cases h : sp_b3 (mm k2 * n) (da k2 * n) (se k2 * n)
  · rw [if_pos h, if_pos z00, e_takes1 N ad a b c hk2 s1 s2 s3 s7 (by omega) h, bd2_s, if_neg z10, e_dayAt N f hk1, bd1_s, e_secondAt N g hk1, bd1_s, f1, f2]
    obtain ⟨ad1, i1, r1, w1, m1, A1, n1, w2⟩ := bothN N hN (j := j) (i := upd (upd i 13 (zI (dd k1))) 14 (zI (ss k1))) (had.adT (mm k2 * n) (da k2 * n) (se k2 * n) law) hk2 s4 s5 s6 s7 h hl (by rw [upd_n (by omega), upd_s]) f5 upd_s f6
    rw [w1, bd2_s, m1, bd2_s]
    have fr : ∀ k, k < 10 ∨ 15 < k → i1 k = i k := fun k hk => by rw [n1 k hk, upd_n (by omega), upd_n (by omega)]
    rcases w2 with ⟨y, u, sh, rfl, a8, a9, a10, i13, i14, i15, b1, b2, b3⟩ | rfl
    · rw [if_neg z10, if_neg z10]
      exact ⟨_, _, _, rfl, rfl, A1.w, fr, Or.inl ⟨y, u, zl_1, a8, a9, i13, i14, b1, b2⟩⟩
    · rw [if_pos z00, if_pos z00]
      exact ⟨_, _, _, rfl, rfl, A1.w, fr, Or.inr zl_0⟩
  · rw [if_neg h, if_neg z10, e_takes0 N ad a b c hk2 s1 s2 s3 s7 (by omega) h, bd2_s, if_pos z00]
    exact ⟨_, _, _, rfl, rfl, had, fun k hk => by rw [upd_n (by omega), upd_n (by omega)], Or.inr zl_0⟩
/-! next -/
theorem l_next (N : Nat) (hN : 200000 ≤ N) {ks : Int32} {f g a b c F G S : Nat → Int32} {tl : Int32} {nn j R : Nat → Int64} {dd ss mm da se : Nat → Int} (hM : RelM dd ss f g F G) (hS : RelS mm da se a b c S) {k1 k2 k4 : Nat} (hk1 : k1 < 8) (hk2 : k2 < 8) (hk4 : k4 < 8) {law : Int} (hl : 0 ≤ law ∧ law ≤ 3) : ∀ (n : Nat) (w : Int) (ad i : Nat → Int32), RelR tl nn i R → AdW ad → 0 ≤ w → w ≤ 10001 → 10001 - w < n →
    ∃ (r : Int32) (tl' : Int32) (nn' : Nat → Int64) (ad' : Nat → Int32) (i' : Nat → Int32) (R' : Nat → Int64), fX9_next_l45 N ks f g a b c n (zI k1) (zI k2) (zI law) (zL (dd k4 * 86400 + ss k4)) (zI w) tl nn ad = some (r, tl', nn', ad') ∧ fX10_next_l39 N j F G S n (zI k1) (zI k2) (zI law) (zI k4) (zI w) i R = some (r, i', R') ∧ RelR tl' nn' i' R' ∧ AdW ad' ∧ i' 4 = i 4 ∧ i' 6 = i 6
  | 0, w, ad, i, hR, had, h1, h2, hn => by omega
  | n + 1, w, ad, i, hR, had, h1, h2, hn => by
    obtain ⟨f1, f2, f3, f4, f5, f6⟩ := hM k4 hk4
    rw [fX9_next_l45_s, fX10_next_l39_s]
    by_cases hd : 10000 < w
    · rw [if_pos (i_gt (b := 10000) (by decide) (by omega)), if_pos (i_gt (b := 10000) (by decide) (by omega))]
      exact ⟨_, _, _, _, _, _, rfl, rfl, hR, had, rfl, rfl⟩
    · rw [if_neg (i_ngt (b := 10000) (by decide) (by omega)), if_neg (i_ngt (b := 10000) (by decide) (by omega))]
      obtain ⟨ad1, i1, r1, w1, m1, A1, n1, w2⟩ := both_at N hN (ks := ks) (i := i) (j := j) hM hS had hk1 hk2 (law := law) (n := w) hl (by omega)
      rw [w1, bd2_s, m1, bd2_s]
      have hR1 : RelR tl nn i1 R := hR.cong (n1 8 (by omega))
      obtain ⟨r, tl', nn', ad', i', R', v1, v2, v3, v4, v5, v6⟩ := l_next N hN (ks := ks) (j := j) hM hS hk1 hk2 hk4 hl n (w + 1) ad1 i1 hR1 A1 (by omega) (by omega) (by omega)
      have go : ∀ x y, x = some (r, tl', nn', ad') → y = some (r, i', R') → ∃ (r : Int32) (tl' : Int32) (nn' : Nat → Int64) (ad' : Nat → Int32) (i' : Nat → Int32) (R' : Nat → Int64), x = some (r, tl', nn', ad') ∧ y = some (r, i', R') ∧ RelR tl' nn' i' R' ∧ AdW ad' ∧ i' 4 = i 4 ∧ i' 6 = i 6 := fun x y hx hy => ⟨r, tl', nn', ad', i', R', hx, hy, v3, v4, by rw [v5, n1 4 (by omega)], by rw [v6, n1 6 (by omega)]⟩
      rcases w2 with ⟨y, u, rfl, a8, a9, i13, i14, b1, b2⟩ | rfl
      · rw [if_neg z10, if_neg z10, e_instant N a8 b1 a9 b2, bd1_s, e_instant_m N j i13 i14 b1 b2, bd1_s, e_instantOf_m N hk4 _ F G j f3 f4 f5 f6, bd1_s]
        by_cases hc : y * 86400 + u < dd k4 * 86400 + ss k4
        · rw [if_pos (k_lt (by omega)), if_neg (k_nge (by omega)), nm_s, nm_s, zl_1, zI_add]
          exact go _ _ v1 v2
        · rw [if_neg (k_nlt (by omega)), if_pos (k_ge (by omega)), a8, a9, i13, e_tell2, bd2_s, e_tellA, bd2_s]
          simp (disch := omega) only [zl_m2147483648, zl_m2000000000, zl_m99999, zl_m10000, zl_m21, zl_m9, zl_m5, zl_m2, zl_m1, zl_0, zl_1, zl_2, zl_3, zl_4, zl_5, zl_6, zl_7, zl_8, zl_9, zl_10, zl_11, zl_12, zl_13, zl_14, zl_15, zl_16, zl_17, zl_18, zl_19, zl_23, zl_24, zl_28, zl_29, zl_30, zl_31, zl_45, zl_48, zl_52, zl_57, zl_58, zl_59, zl_60, zl_84, zl_90, zl_100, zl_101, zl_102, zl_103, zl_104, zl_105, zl_106, zl_107, zl_108, zl_109, zl_110, zl_111, zl_112, zl_113, zl_114, zl_115, zl_116, zl_117, zl_118, zl_119, zl_120, zl_121, zl_127, zl_151, zl_153, zl_181, zl_212, zl_243, zl_255, zl_273, zl_304, zl_306, zl_334, zl_365, zl_400, zl_1000, zl_1023, zl_1100, zl_1460, zl_3600, zl_9999, zl_10000, zl_30000, zl_36524, zl_86399, zl_86400, zl_99999, zl_119999, zl_146096, zl_146097, zl_730119, zl_876215, zl_876216, zl_1000000, zl_3652058, zll_m9223372036854775808, zll_m1000000000, zll_m1000009, zll_m1000002, zll_m10000, zll_m5, zll_m2, zll_m1, zll_0, zll_1, zll_2, zll_3, zll_5, zll_6, zll_7, zll_12, zll_100, zll_255, zll_400, zll_1000, zll_9999, zll_10000, zll_86399, zll_86400, zll_120000, zll_146097, zll_2629746, zll_3652058, zll_1000000000, zll_9218868437227405312, zll_9221120237041090560, nm, bd1_s, bd2_s, bd3_s, bd4_s, bd5_s, bd6_s, if01, gz_1, gz_0, gz_if, cz_lt, cz_le, cz_gt, cz_ge, cz_eq, zI_add, zI_sub, zI_mul, zI_neg, zL_add, zL_sub, zL_mul, zL_neg, zI_lt, zI_le, zI_eq, zL_lt, zL_le, zL_eq, zI_toL, zL_toI, zI_div, zL_div, zI_cl, gi_z, mod_fold, upd_s, upd_n, updL_s, updL_n, ↓reduceIte, Int.reduceLT, Int.reduceLE, Int.reduceEq, Int.reduceAdd, Int.reduceSub, Int.reduceMul, Int.reduceNeg, Int.reduceToNat, eq_self, not_true_eq_false, not_false_eq_true, true_and, false_and, and_true, and_false, true_or, false_or, or_true, or_false, e_tellB, i14]
          exact ⟨_, _, _, _, _, _, rfl, rfl, RelR.mk2 upd_s _ _, A1, by simp (disch := omega) only [upd_n, n1], by simp (disch := omega) only [upd_n, n1]⟩
      · rw [if_pos z00, if_pos z00, nm_s, nm_s, zl_1, zI_add]
        exact go _ _ v1 v2
theorem p_next (N : Nat) (hN : 200000 ≤ N) (p1 : Int32) (p2 : Int32) (p3 : Int32) (p4 : Int32) {ks : Int32} {f : Nat → Int32} {g : Nat → Int32} {a : Nat → Int32} {b : Nat → Int32} {c : Nat → Int32} {tl : Int32} {nn : Nat → Int64} {ad : Nat → Int32} {i : Nat → Int32} {j : Nat → Int64} {F : Nat → Int32} {G : Nat → Int32} {S : Nat → Int32} {R : Nat → Int64} {dd ss mm da se : Nat → Int} (hM : RelM dd ss f g F G) (hS : RelS mm da se a b c S) (hR : RelR tl nn i R) (had : AdW ad) : 
    ∃ (r : Int32) (tl' : Int32) (nn' : Nat → Int64) (ad' : Nat → Int32) (i' : Nat → Int32) (R' : Nat → Int64), fX9_next N p1 p2 p3 p4 ks f g a b c tl nn ad = some (r, tl', nn', ad') ∧ fX10_next N p1 p2 p3 p4 i j F G S R = some (r, i', R') ∧ RelR tl' nn' i' R' ∧ AdW ad' ∧ i' 4 = i 4 ∧ i' 6 = i 6 := by
  obtain ⟨z1, l1, v1, rfl⟩ := zI_of p1
  obtain ⟨z2, l2, v2, rfl⟩ := zI_of p2
  obtain ⟨z3, l3, v3, rfl⟩ := zI_of p3
  obtain ⟨z4, l4, v4, rfl⟩ := zI_of p4
  by_cases q0 : 0 ≤ z1 ∧ z1 ≤ 7
  case neg =>
    refine ⟨(-1 : Int32), tl, nn, ad, upd i 9 (zI 0), R, ?_, ?_, hR.f9, had, upd_n (by omega), upd_n (by omega)⟩
    · unfold fX9_next
      rw [c_slot0 N l1 v1 q0, bd1_s, if_pos z00]
    · unfold fX10_next
      rw [m_slot0 N l1 v1 q0, bd1_s, if_pos z00]
      rfl
  by_cases q1 : 0 ≤ z2 ∧ z2 ≤ 7
  case neg =>
    refine ⟨(-1 : Int32), tl, nn, ad, upd i 9 (zI 0), R, ?_, ?_, hR.f9, had, upd_n (by omega), upd_n (by omega)⟩
    · unfold fX9_next
      rw [c_slot1 N q0, bd1_s, if_neg z10]
      rw [c_slot0 N l2 v2 q1, bd1_s, if_pos z00]
    · unfold fX10_next
      rw [m_slot1 N q0, bd1_s, if_neg z10]
      rw [m_slot0 N l2 v2 q1, bd1_s, if_pos z00]
      rfl
  by_cases q2 : 0 ≤ z3 ∧ z3 ≤ 3
  case neg =>
    refine ⟨(-1 : Int32), tl, nn, ad, upd i 9 (zI 0), R, ?_, ?_, hR.f9, had, upd_n (by omega), upd_n (by omega)⟩
    · unfold fX9_next
      rw [c_slot1 N q0, bd1_s, if_neg z10]
      rw [c_slot1 N q1, bd1_s, if_neg z10]
      rw [c_law0 N l3 v3 q2, bd1_s, if_pos z00]
    · unfold fX10_next
      rw [m_slot1 N q0, bd1_s, if_neg z10]
      rw [m_slot1 N q1, bd1_s, if_neg z10]
      rw [m_law0 N l3 v3 q2, bd1_s, if_pos z00]
      rfl
  by_cases q3 : 0 ≤ z4 ∧ z4 ≤ 7
  case neg =>
    refine ⟨(-1 : Int32), tl, nn, ad, upd i 9 (zI 0), R, ?_, ?_, hR.f9, had, upd_n (by omega), upd_n (by omega)⟩
    · unfold fX9_next
      rw [c_slot1 N q0, bd1_s, if_neg z10]
      rw [c_slot1 N q1, bd1_s, if_neg z10]
      rw [c_law1 N q2, bd1_s, if_neg z10]
      rw [c_slot0 N l4 v4 q3, bd1_s, if_pos z00]
    · unfold fX10_next
      rw [m_slot1 N q0, bd1_s, if_neg z10]
      rw [m_slot1 N q1, bd1_s, if_neg z10]
      rw [m_law1 N q2, bd1_s, if_neg z10]
      rw [m_slot0 N l4 v4 q3, bd1_s, if_pos z00]
      rfl
  unfold fX9_next fX10_next
  rw [c_slot1 N q0, bd1_s, if_neg z10]
  rw [c_slot1 N q1, bd1_s, if_neg z10]
  rw [c_law1 N q2, bd1_s, if_neg z10]
  rw [c_slot1 N q3, bd1_s, if_neg z10]
  rw [m_slot1 N q0, bd1_s, if_neg z10]
  rw [m_slot1 N q1, bd1_s, if_neg z10]
  rw [m_law1 N q2, bd1_s, if_neg z10]
  rw [m_slot1 N q3, bd1_s, if_neg z10]
  obtain ⟨k1, hk1, rfl⟩ := slot_of q0
  obtain ⟨k2, hk2, rfl⟩ := slot_of q1
  obtain ⟨k4, hk4, rfl⟩ := slot_of q3
  obtain ⟨f1, f2, f3, f4, f5, f6⟩ := hM k4 hk4
  rw [e_instantAt N f g hk4 f1 f2 (by omega) (by omega), bd1_s, zl_0]
  obtain ⟨r, tl', nn', ad', i', R', v1, v2, v3, v4, v5, v6⟩ := l_next N hN (ks := ks) (j := j) hM hS hk1 hk2 hk4 q2 N 0 ad (upd i 9 (zI 0)) hR.f9 had (by omega) (by omega) (by omega)
  exact ⟨r, tl', nn', ad', i', R', v1, v2, v3, v4, by rw [v5]; simp (disch := omega) only [upd_n], by rw [v6]; simp (disch := omega) only [upd_n]⟩
/-! falls -/
theorem l_falls (N : Nat) (hN : 200000 ≤ N) {ks : Int32} {f g a b c F G S : Nat → Int32} {tl : Int32} {nn j R : Nat → Int64} {dd ss mm da se : Nat → Int} (hM : RelM dd ss f g F G) (hS : RelS mm da se a b c S) {k1 k2 : Nat} (hk1 : k1 < 8) (hk2 : k2 < 8) {law n4 wd : Int} (hl : 0 ≤ law ∧ law ≤ 3) (h4 : 0 ≤ n4 ∧ n4 ≤ 1000) (hwd : 0 ≤ wd ∧ wd ≤ 6) : ∀ (n : Nat) (w m z : Int) (ad i : Nat → Int32), RelR tl nn i R → AdW ad → 0 ≤ w → w ≤ n4 + 1 → 0 ≤ m → m ≤ w → -1 ≤ z → z ≤ w → n4 + 1 - w < n →
    ∃ (r : Int32) (tl' : Int32) (nn' : Nat → Int64) (ad' : Nat → Int32) (i' : Nat → Int32) (R' : Nat → Int64), fX9_falls_l53 N ks f g a b c n (zI k1) (zI k2) (zI law) (zI n4) (zI wd) (zI m) (zI z) (zI w) tl nn ad = some (r, tl', nn', ad') ∧ fX10_falls_l63 N j F G S n (zI k1) (zI k2) (zI law) (zI n4) (zI wd) (zI m) (zI z) (zI w) i R = some (r, i', R') ∧ RelR tl' nn' i' R' ∧ AdW ad' ∧ i' 4 = i 4 ∧ i' 6 = i 6
  | 0, w, m, z, ad, i, hR, had, h1, h2, h3, h5, h6, h7, hn => by omega
  | n + 1, w, m, z, ad, i, hR, had, h1, h2, h3, h5, h6, h7, hn => by
    rw [fX9_falls_l53_s, fX10_falls_l63_s]
    by_cases hd : n4 < w
    · rw [if_pos (i_gt rfl (by omega)), if_pos (i_gt rfl (by omega)), e_tell1, bd2_s, e_tellA, bd2_s]
      exact ⟨_, _, _, _, _, _, rfl, rfl, RelR.mk1 upd_s _, had, by simp (disch := omega) only [upd_n], by simp (disch := omega) only [upd_n]⟩
    · rw [if_neg (i_ngt rfl (by omega)), if_neg (i_ngt rfl (by omega))]
      obtain ⟨ad1, i1, r1, w1, m1, A1, n1, w2⟩ := both_at N hN (ks := ks) (i := i) (j := j) hM hS had hk1 hk2 (law := law) (n := w) hl (by omega)
      rw [w1, bd2_s, m1, bd2_s]
      have hR1 : RelR tl nn i1 R := hR.cong (n1 8 (by omega))
      have ih := fun (m z : Int) (q1 : 0 ≤ m ∧ m ≤ w + 1) (q2 : -1 ≤ z ∧ z ≤ w + 1) => l_falls N hN (ks := ks) (j := j) hM hS hk1 hk2 hl h4 hwd n (w + 1) m z ad1 i1 hR1 A1 (by omega) (by omega) (by omega) (by omega) (by omega) (by omega) (by omega)
      have go : ∀ (x : Option (Int32 × Int32 × (Nat → Int64) × (Nat → Int32))) (y : Option (Int32 × (Nat → Int32) × (Nat → Int64))), (∃ (r : Int32) (tl' : Int32) (nn' : Nat → Int64) (ad' : Nat → Int32) (i' : Nat → Int32) (R' : Nat → Int64), x = some (r, tl', nn', ad') ∧ y = some (r, i', R') ∧ RelR tl' nn' i' R' ∧ AdW ad' ∧ i' 4 = i1 4 ∧ i' 6 = i1 6) → ∃ (r : Int32) (tl' : Int32) (nn' : Nat → Int64) (ad' : Nat → Int32) (i' : Nat → Int32) (R' : Nat → Int64), x = some (r, tl', nn', ad') ∧ y = some (r, i', R') ∧ RelR tl' nn' i' R' ∧ AdW ad' ∧ i' 4 = i 4 ∧ i' 6 = i 6 := fun x y ⟨r, tl', nn', ad', i', R', hx, hy, v3, v4, v5, v6⟩ => ⟨r, tl', nn', ad', i', R', hx, hy, v3, v4, by rw [v5, n1 4 (by omega)], by rw [v6, n1 6 (by omega)]⟩
      rcases w2 with ⟨y, u, rfl, a8, a9, i13, i14, b1, b2⟩ | rfl
      · have e7 : zI y - zI y / 7 * 7 = zI (y % 7) := by
          simp (disch := omega) only [zl_m2147483648, zl_m2000000000, zl_m99999, zl_m10000, zl_m21, zl_m9, zl_m5, zl_m2, zl_m1, zl_0, zl_1, zl_2, zl_3, zl_4, zl_5, zl_6, zl_7, zl_8, zl_9, zl_10, zl_11, zl_12, zl_13, zl_14, zl_15, zl_16, zl_17, zl_18, zl_19, zl_23, zl_24, zl_28, zl_29, zl_30, zl_31, zl_45, zl_48, zl_52, zl_57, zl_58, zl_59, zl_60, zl_84, zl_90, zl_100, zl_101, zl_102, zl_103, zl_104, zl_105, zl_106, zl_107, zl_108, zl_109, zl_110, zl_111, zl_112, zl_113, zl_114, zl_115, zl_116, zl_117, zl_118, zl_119, zl_120, zl_121, zl_127, zl_151, zl_153, zl_181, zl_212, zl_243, zl_255, zl_273, zl_304, zl_306, zl_334, zl_365, zl_400, zl_1000, zl_1023, zl_1100, zl_1460, zl_3600, zl_9999, zl_10000, zl_30000, zl_36524, zl_86399, zl_86400, zl_99999, zl_119999, zl_146096, zl_146097, zl_730119, zl_876215, zl_876216, zl_1000000, zl_3652058, zll_m9223372036854775808, zll_m1000000000, zll_m1000009, zll_m1000002, zll_m10000, zll_m5, zll_m2, zll_m1, zll_0, zll_1, zll_2, zll_3, zll_5, zll_6, zll_7, zll_12, zll_100, zll_255, zll_400, zll_1000, zll_9999, zll_10000, zll_86399, zll_86400, zll_120000, zll_146097, zll_2629746, zll_3652058, zll_1000000000, zll_9218868437227405312, zll_9221120237041090560, nm, bd1_s, bd2_s, bd3_s, bd4_s, bd5_s, bd6_s, if01, gz_1, gz_0, gz_if, cz_lt, cz_le, cz_gt, cz_ge, cz_eq, zI_add, zI_sub, zI_mul, zI_neg, zL_add, zL_sub, zL_mul, zL_neg, zI_lt, zI_le, zI_eq, zL_lt, zL_le, zL_eq, zI_toL, zL_toI, zI_div, zL_div, zI_cl, gi_z, mod_fold, upd_s, upd_n, updL_s, updL_n, ↓reduceIte, Int.reduceLT, Int.reduceLE, Int.reduceEq, Int.reduceAdd, Int.reduceSub, Int.reduceMul, Int.reduceNeg, Int.reduceToNat, eq_self, not_true_eq_false, not_false_eq_true, true_and, false_and, and_true, and_false, true_or, false_or, or_true, or_false]
        unfold fX1_weekdayOf
        rw [if_neg z10, if_neg z10, a8, i13, bd1_s, e7]
        by_cases hc : y % 7 = wd
        · rw [if_pos (congrArg zI hc), if_pos (congrArg zI hc)]
          by_cases hm : m = 0
          · rw [if_pos (i_eq (b := 0) (by decide) hm), if_pos (i_eq (b := 0) (by decide) hm)]
            simp only [nm_s, zl_1, zI_add]
            exact go _ _ (ih (m + 1) w (by omega) (by omega))
          · rw [if_neg (i_neq (b := 0) (by decide) (by omega)), if_neg (i_neq (b := 0) (by decide) (by omega))]
            simp only [nm_s, zl_1, zI_add]
            exact go _ _ (ih (m + 1) z (by omega) (by omega))
        · rw [if_neg (i_neq rfl (by omega)), if_neg (i_neq rfl (by omega))]
          simp only [nm_s, zl_1, zI_add]
          exact go _ _ (ih m z (by omega) (by omega))
      · rw [if_pos z00, if_pos z00, nm_s, nm_s, zl_1, zI_add]
        exact go _ _ (ih m z (by omega) (by omega))
theorem p_falls (N : Nat) (hN : 200000 ≤ N) (p1 : Int32) (p2 : Int32) (p3 : Int32) (p4 : Int32) (p5 : Int32) {ks : Int32} {f : Nat → Int32} {g : Nat → Int32} {a : Nat → Int32} {b : Nat → Int32} {c : Nat → Int32} {tl : Int32} {nn : Nat → Int64} {ad : Nat → Int32} {i : Nat → Int32} {j : Nat → Int64} {F : Nat → Int32} {G : Nat → Int32} {S : Nat → Int32} {R : Nat → Int64} {dd ss mm da se : Nat → Int} (hM : RelM dd ss f g F G) (hS : RelS mm da se a b c S) (hR : RelR tl nn i R) (had : AdW ad) : 
    ∃ (r : Int32) (tl' : Int32) (nn' : Nat → Int64) (ad' : Nat → Int32) (i' : Nat → Int32) (R' : Nat → Int64), fX9_falls N p1 p2 p3 p4 p5 ks f g a b c tl nn ad = some (r, tl', nn', ad') ∧ fX10_falls N p1 p2 p3 p4 p5 i j F G S R = some (r, i', R') ∧ RelR tl' nn' i' R' ∧ AdW ad' ∧ i' 4 = i 4 ∧ i' 6 = i 6 := by
  obtain ⟨z1, l1, v1, rfl⟩ := zI_of p1
  obtain ⟨z2, l2, v2, rfl⟩ := zI_of p2
  obtain ⟨z3, l3, v3, rfl⟩ := zI_of p3
  obtain ⟨z4, l4, v4, rfl⟩ := zI_of p4
  obtain ⟨z5, l5, v5, rfl⟩ := zI_of p5
  by_cases q0 : 0 ≤ z1 ∧ z1 ≤ 7
  case neg =>
    refine ⟨(-1 : Int32), tl, nn, ad, upd i 9 (zI 0), R, ?_, ?_, hR.f9, had, upd_n (by omega), upd_n (by omega)⟩
    · unfold fX9_falls
      rw [c_slot0 N l1 v1 q0, bd1_s, if_pos z00]
    · unfold fX10_falls
      rw [m_slot0 N l1 v1 q0, bd1_s, if_pos z00]
      rfl
  by_cases q1 : 0 ≤ z2 ∧ z2 ≤ 7
  case neg =>
    refine ⟨(-1 : Int32), tl, nn, ad, upd i 9 (zI 0), R, ?_, ?_, hR.f9, had, upd_n (by omega), upd_n (by omega)⟩
    · unfold fX9_falls
      rw [c_slot1 N q0, bd1_s, if_neg z10]
      rw [c_slot0 N l2 v2 q1, bd1_s, if_pos z00]
    · unfold fX10_falls
      rw [m_slot1 N q0, bd1_s, if_neg z10]
      rw [m_slot0 N l2 v2 q1, bd1_s, if_pos z00]
      rfl
  by_cases q2 : 0 ≤ z3 ∧ z3 ≤ 3
  case neg =>
    refine ⟨(-1 : Int32), tl, nn, ad, upd i 9 (zI 0), R, ?_, ?_, hR.f9, had, upd_n (by omega), upd_n (by omega)⟩
    · unfold fX9_falls
      rw [c_slot1 N q0, bd1_s, if_neg z10]
      rw [c_slot1 N q1, bd1_s, if_neg z10]
      rw [c_law0 N l3 v3 q2, bd1_s, if_pos z00]
    · unfold fX10_falls
      rw [m_slot1 N q0, bd1_s, if_neg z10]
      rw [m_slot1 N q1, bd1_s, if_neg z10]
      rw [m_law0 N l3 v3 q2, bd1_s, if_pos z00]
      rfl
  by_cases q3 : 0 ≤ z4 ∧ z4 ≤ 1000
  case neg =>
    refine ⟨(-1 : Int32), tl, nn, ad, upd i 9 (zI 0), R, ?_, ?_, hR.f9, had, upd_n (by omega), upd_n (by omega)⟩
    · unfold fX9_falls
      rw [c_slot1 N q0, bd1_s, if_neg z10]
      rw [c_slot1 N q1, bd1_s, if_neg z10]
      rw [c_law1 N q2, bd1_s, if_neg z10]
      rcases (show z4 < 0 ∨ 1000 < z4 by omega) with w | w
      · rw [if_pos (i_lt (b := 0) (by decide) (by omega))]
      · rw [if_neg (i_nlt (b := 0) (by decide) (by omega)), if_pos (i_gt (b := 1000) (by decide) (by omega))]
    · unfold fX10_falls
      rw [m_slot1 N q0, bd1_s, if_neg z10]
      rw [m_slot1 N q1, bd1_s, if_neg z10]
      rw [m_law1 N q2, bd1_s, if_neg z10]
      rw [m_in0 N (lo := 0) (hi := 1000) (by decide) (by decide) l4 v4 (by omega) q3, bd1_s, if_pos z00]
      rfl
  by_cases q4 : 0 ≤ z5 ∧ z5 ≤ 6
  case neg =>
    refine ⟨(-1 : Int32), tl, nn, ad, upd i 9 (zI 0), R, ?_, ?_, hR.f9, had, upd_n (by omega), upd_n (by omega)⟩
    · unfold fX9_falls
      rw [c_slot1 N q0, bd1_s, if_neg z10]
      rw [c_slot1 N q1, bd1_s, if_neg z10]
      rw [c_law1 N q2, bd1_s, if_neg z10]
      rw [if_neg (i_nlt (b := 0) (by decide) (by omega)), if_neg (i_ngt (b := 1000) (by decide) (by omega))]
      rw [c_wd0 N l5 v5 q4, bd1_s, if_pos z00]
    · unfold fX10_falls
      rw [m_slot1 N q0, bd1_s, if_neg z10]
      rw [m_slot1 N q1, bd1_s, if_neg z10]
      rw [m_law1 N q2, bd1_s, if_neg z10]
      rw [m_in1 N (lo := 0) (hi := 1000) (by decide) (by decide) (by omega) q3, bd1_s, if_neg z10]
      rw [m_in0 N (lo := 0) (hi := 6) (by decide) (by decide) l5 v5 (by omega) q4, bd1_s, if_pos z00]
      rfl
  unfold fX9_falls fX10_falls
  rw [c_slot1 N q0, bd1_s, if_neg z10]
  rw [c_slot1 N q1, bd1_s, if_neg z10]
  rw [c_law1 N q2, bd1_s, if_neg z10]
  rw [if_neg (i_nlt (b := 0) (by decide) (by omega)), if_neg (i_ngt (b := 1000) (by decide) (by omega))]
  rw [c_wd1 N q4, bd1_s, if_neg z10]
  rw [m_slot1 N q0, bd1_s, if_neg z10]
  rw [m_slot1 N q1, bd1_s, if_neg z10]
  rw [m_law1 N q2, bd1_s, if_neg z10]
  rw [m_in1 N (lo := 0) (hi := 1000) (by decide) (by decide) (by omega) q3, bd1_s, if_neg z10]
  rw [m_in1 N (lo := 0) (hi := 6) (by decide) (by decide) (by omega) q4, bd1_s, if_neg z10]
  obtain ⟨k1, hk1, rfl⟩ := slot_of q0
  obtain ⟨k2, hk2, rfl⟩ := slot_of q1
  rw [zl_0, zl_m1]
  obtain ⟨r, tl', nn', ad', i', R', v1, v2, v3, v4, v5, v6⟩ := l_falls N hN (ks := ks) (j := j) hM hS hk1 hk2 q2 q3 q4 N 0 0 (-1) ad (upd i 9 (zI 0)) hR.f9 had (by omega) (by omega) (by omega) (by omega) (by omega) (by omega) (by omega)
  exact ⟨r, tl', nn', ad', i', R', v1, v2, v3, v4, by rw [v5]; simp (disch := omega) only [upd_n], by rw [v6]; simp (disch := omega) only [upd_n]⟩
theorem i_ge' {a b : Int} {B : Int32} (e : B = zI b) (h : -2147483648 ≤ a ∧ a ≤ 2147483647 ∧ -2147483648 ≤ b ∧ b ≤ 2147483647 ∧ b ≤ a) : B ≤ zI a := by
  subst e; rw [zI_le (by omega) (by omega) (by omega) (by omega)]; omega
theorem i_nge' {a b : Int} {B : Int32} (e : B = zI b) (h : -2147483648 ≤ a ∧ a ≤ 2147483647 ∧ -2147483648 ≤ b ∧ b ≤ 2147483647 ∧ a < b) : ¬ (B ≤ zI a) := by
  subst e; rw [zI_le (by omega) (by omega) (by omega) (by omega)]; omega
