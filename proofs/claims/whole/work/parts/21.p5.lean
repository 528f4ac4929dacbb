/-! drift -/
theorem e_stands_c (N : Nat) (a : Nat → Int32) (x t : Int) : fX0_stands N (zI x) (zI t) a = some (upd (upd (upd a 8 (zI x)) 9 (zI t)) 10 (zI 0)) := by
  unfold fX0_stands
  simp (disch := omega) only [zl_m2147483648, zl_m2000000000, zl_m99999, zl_m10000, zl_m21, zl_m9, zl_m5, zl_m2, zl_m1, zl_0, zl_1, zl_2, zl_3, zl_4, zl_5, zl_6, zl_7, zl_8, zl_9, zl_10, zl_11, zl_12, zl_13, zl_14, zl_15, zl_16, zl_17, zl_18, zl_19, zl_23, zl_24, zl_28, zl_29, zl_30, zl_31, zl_45, zl_48, zl_52, zl_57, zl_58, zl_59, zl_60, zl_84, zl_90, zl_100, zl_101, zl_102, zl_103, zl_104, zl_105, zl_106, zl_107, zl_108, zl_109, zl_110, zl_111, zl_112, zl_113, zl_114, zl_115, zl_116, zl_117, zl_118, zl_119, zl_120, zl_121, zl_127, zl_151, zl_153, zl_181, zl_212, zl_243, zl_255, zl_273, zl_304, zl_306, zl_334, zl_365, zl_400, zl_1000, zl_1023, zl_1100, zl_1460, zl_3600, zl_9999, zl_10000, zl_30000, zl_36524, zl_86399, zl_86400, zl_99999, zl_119999, zl_146096, zl_146097, zl_730119, zl_876215, zl_876216, zl_1000000, zl_3652058, zll_m9223372036854775808, zll_m1000000000, zll_m1000009, zll_m1000002, zll_m10000, zll_m5, zll_m2, zll_m1, zll_0, zll_1, zll_2, zll_3, zll_5, zll_6, zll_7, zll_12, zll_100, zll_255, zll_400, zll_1000, zll_9999, zll_10000, zll_86399, zll_86400, zll_120000, zll_146097, zll_2629746, zll_3652058, zll_1000000000, zll_9218868437227405312, zll_9221120237041090560, nm, bd1_s, bd2_s, bd3_s, bd4_s, bd5_s, bd6_s, if01, gz_1, gz_0, gz_if, cz_lt, cz_le, cz_gt, cz_ge, cz_eq, zI_add, zI_sub, zI_mul, zI_neg, zL_add, zL_sub, zL_mul, zL_neg, zI_lt, zI_le, zI_eq, zL_lt, zL_le, zL_eq, zI_toL, zL_toI, zI_div, zL_div, zI_cl, gi_z, mod_fold, upd_s, upd_n, updL_s, updL_n, ↓reduceIte, Int.reduceLT, Int.reduceLE, Int.reduceEq, Int.reduceAdd, Int.reduceSub, Int.reduceMul, Int.reduceNeg, Int.reduceToNat, eq_self, not_true_eq_false, not_false_eq_true, true_and, false_and, and_true, and_false, true_or, false_or, or_true, or_false]
theorem l_drift (N : Nat) (hN : 200000 ≤ N) {ks : Int32} {f g a b c F G S ot : Nat → Int32} {tl : Int32} {nn j R : Nat → Int64} {k1 k2 : Nat} (hk2 : k2 < 8) {m d s law n4 : Int} (s4 : S (3 * k2) = zI m) (s5 : S (3 * k2 + 1) = zI d) (s6 : S (3 * k2 + 2) = zI s) (s7 : sp_b3 m d s) (hl : 0 ≤ law ∧ law ≤ 3) (h4 : 0 ≤ n4 ∧ n4 ≤ 1000) : ∀ (n : Nat) (w x t : Int) (ad i : Nat → Int32), AdOK m d s law ad → (ad 8 = zI x ∧ ad 9 = zI t) → (i 13 = zI x ∧ i 14 = zI t) → (0 ≤ x ∧ x ≤ 3652058) → (0 ≤ t ∧ t ≤ 86399) → 0 ≤ w → w ≤ n4 → n4 - w < n →
    ∃ ad1 i1, AdOK m d s law ad1 ∧ (∀ k, k < 10 ∨ 15 < k → i1 k = i k) ∧ ((∃ y u, fX9_drift_l132 N ks f g a b c n (zI n4) (zI w) tl nn ad ot = fX9_drift_l132 N ks f g a b c 1 (zI n4) (zI n4) tl nn ad1 ot ∧ fX10_drift_l69 N j F G S n (zI k1) (zI k2) (zI law) (zI n4) (zI 1) (zI w) i R = fX10_drift_j97 N j F G S (zI k1) (zI k2) (zI law) (zI n4) (zI 1) i1 R ∧ ad1 8 = zI y ∧ ad1 9 = zI u ∧ i1 13 = zI y ∧ i1 14 = zI u ∧ (0 ≤ y ∧ y ≤ 3652058) ∧ (0 ≤ u ∧ u ≤ 86399)) ∨ (fX9_drift_l132 N ks f g a b c n (zI n4) (zI w) tl nn ad ot = some (-1000002, tl, nn, ad1, ot) ∧ fX10_drift_l69 N j F G S n (zI k1) (zI k2) (zI law) (zI n4) (zI 1) (zI w) i R = fX10_drift_j97 N j F G S (zI k1) (zI k2) (zI law) (zI n4) (zI 0) i1 R))
  | 0, w, x, t, ad, i, hA, had, hi, hx, ht, h1, h2, hn => by omega
  | n + 1, w, x, t, ad, i, hA, had, hi, hx, ht, h1, h2, hn => by
    by_cases hd : n4 ≤ w
    · have e : w = n4 := by omega
      subst e
      refine ⟨ad, i, hA, fun _ _ => rfl, Or.inl ⟨x, t, ?_, ?_, had.1, had.2, hi.1, hi.2, hx, ht⟩⟩
      · rw [fX9_drift_l132_s, fX9_drift_l132_s, if_pos (i_le rfl (by omega)), if_pos (i_le rfl (by omega))]
      · rw [fX10_drift_l69_s, if_pos (i_le rfl (by omega))]
    · obtain ⟨ad1, i1, r1, w1, m1, A1, n1, w2⟩ := both N hN (j := j) (ord := 0) hA hk2 s4 s5 s6 s7 hl (by omega) hi.1 hx hi.2 ht
      rw [← zl_0] at w1 m1
      have c1 : fX9_drift_l132 N ks f g a b c (n + 1) (zI n4) (zI w) tl nn ad ot = (if r1 = (0 : Int32) then some (-1000002, tl, nn, ad1, ot) else fX9_drift_l132 N ks f g a b c n (zI n4) (zI (w + 1)) tl nn ad1 ot) := by
        rw [fX9_drift_l132_s, if_neg (i_nle rfl (by omega)), had.1, had.2, w1, bd2_s, nm_s, zl_1, zI_add]
      have c2 : fX10_drift_l69 N j F G S (n + 1) (zI k1) (zI k2) (zI law) (zI n4) (zI 1) (zI w) i R = fX10_drift_l69 N j F G S n (zI k1) (zI k2) (zI law) (zI n4) r1 (zI (w + 1)) i1 R := by
        rw [fX10_drift_l69_s, if_neg (i_nle rfl (by omega)), if_neg z10, m1, bd2_s, nm_s, zl_1, zI_add]
      rw [c1, c2]
      rcases w2 with ⟨y, u, sh, rfl, a8, a9, a10, i13, i14, i15, b1, b2, b3⟩ | rfl
      · rw [if_neg z10]
        obtain ⟨ad2, i2, g1, g2, g3⟩ := l_drift N hN (ks := ks) (f := f) (g := g) (a := a) (b := b) (c := c) (F := F) (G := G) (ot := ot) (tl := tl) (nn := nn) (R := R) (j := j) (k1 := k1) hk2 s4 s5 s6 s7 hl h4 n (w + 1) y u ad1 i1 A1 ⟨a8, a9⟩ ⟨i13, i14⟩ b1 b2 (by omega) (by omega) (by omega)
        exact ⟨ad2, i2, g1, fun k hk => by rw [g2 k hk, n1 k hk], g3⟩
      · rw [if_pos z00]
        refine ⟨ad1, i1, A1, n1, Or.inr ⟨rfl, ?_⟩⟩
        obtain ⟨n, rfl⟩ : ∃ q, n = q + 1 := ⟨n - 1, by omega⟩
        rw [fX10_drift_l69_s]
        by_cases h5 : n4 ≤ w + 1
        · rw [if_pos (i_le rfl (by omega))]
        · rw [if_neg (i_nle rfl (by omega)), if_pos z00]
theorem e_dr97 (N : Nat) {F G S i : Nat → Int32} {j R : Nat → Int64} {k1 : Nat} (hk1 : k1 < 8) (x y z : Int32) : ∃ i', fX10_drift_j97 N j F G S (zI k1) x y z (zI 0) i R = some (-1000002, i', R) ∧ i' 4 = i 4 ∧ i' 6 = i 6 ∧ i' 8 = i 8 := by
  unfold fX10_drift_j97 fX10_instant
  rw [bd1_s, e_standsAt N hk1, bd1_s, if_pos z00]
  exact ⟨_, rfl, by simp (disch := omega) only [upd_n], by simp (disch := omega) only [upd_n], by simp (disch := omega) only [upd_n]⟩
theorem p_drift (N : Nat) (hN : 200000 ≤ N) (p1 : Int32) (p2 : Int32) (p3 : Int32) (p4 : Int32) {ks : Int32} {f : Nat → Int32} {g : Nat → Int32} {a : Nat → Int32} {b : Nat → Int32} {c : Nat → Int32} {tl : Int32} {nn : Nat → Int64} {ad : Nat → Int32} {ot : Nat → Int32} {i : Nat → Int32} {j : Nat → Int64} {F : Nat → Int32} {G : Nat → Int32} {S : Nat → Int32} {R : Nat → Int64} {dd ss mm da se : Nat → Int} (hM : RelM dd ss f g F G) (hS : RelS mm da se a b c S) (hR : RelR tl nn i R) (had : AdW ad) (hot : AdW ot) : 
    ∃ (r : Int64) (tl' : Int32) (nn' : Nat → Int64) (ad' : Nat → Int32) (ot' : Nat → Int32) (i' : Nat → Int32) (R' : Nat → Int64), fX9_drift N p1 p2 p3 p4 ks f g a b c tl nn ad ot = some (r, tl', nn', ad', ot') ∧ fX10_drift N p1 p2 p3 p4 i j F G S R = some (r, i', R') ∧ RelR tl' nn' i' R' ∧ AdW ad' ∧ AdW ot' ∧ i' 4 = i 4 ∧ i' 6 = i 6 := by
  obtain ⟨z1, l1, v1, rfl⟩ := zI_of p1
  obtain ⟨z2, l2, v2, rfl⟩ := zI_of p2
  obtain ⟨z3, l3, v3, rfl⟩ := zI_of p3
  obtain ⟨z4, l4, v4, rfl⟩ := zI_of p4
  by_cases q0 : 0 ≤ z1 ∧ z1 ≤ 7
  case neg =>
    refine ⟨(-1 : Int64), tl, nn, ad, ot, upd i 9 (zI 0), R, ?_, ?_, hR.f9, had, hot, upd_n (by omega), upd_n (by omega)⟩
    · unfold fX9_drift
      rw [c_slot0 N l1 v1 q0, bd1_s, if_pos z00]
    · unfold fX10_drift
      rw [m_slot0 N l1 v1 q0, bd1_s, if_pos z00]
      rfl
  by_cases q1 : 0 ≤ z2 ∧ z2 ≤ 7
  case neg =>
    refine ⟨(-1 : Int64), tl, nn, ad, ot, upd i 9 (zI 0), R, ?_, ?_, hR.f9, had, hot, upd_n (by omega), upd_n (by omega)⟩
    · unfold fX9_drift
      rw [c_slot1 N q0, bd1_s, if_neg z10]
      rw [c_slot0 N l2 v2 q1, bd1_s, if_pos z00]
    · unfold fX10_drift
      rw [m_slot1 N q0, bd1_s, if_neg z10]
      rw [m_slot0 N l2 v2 q1, bd1_s, if_pos z00]
      rfl
  by_cases q2 : 0 ≤ z3 ∧ z3 ≤ 3
  case neg =>
    refine ⟨(-1 : Int64), tl, nn, ad, ot, upd i 9 (zI 0), R, ?_, ?_, hR.f9, had, hot, upd_n (by omega), upd_n (by omega)⟩
    · unfold fX9_drift
      rw [c_slot1 N q0, bd1_s, if_neg z10]
      rw [c_slot1 N q1, bd1_s, if_neg z10]
      rw [c_law0 N l3 v3 q2, bd1_s, if_pos z00]
    · unfold fX10_drift
      rw [m_slot1 N q0, bd1_s, if_neg z10]
      rw [m_slot1 N q1, bd1_s, if_neg z10]
      rw [m_law0 N l3 v3 q2, bd1_s, if_pos z00]
      rfl
  by_cases q3 : 0 ≤ z4 ∧ z4 ≤ 1000
  case neg =>
    refine ⟨(-1 : Int64), tl, nn, ad, ot, upd i 9 (zI 0), R, ?_, ?_, hR.f9, had, hot, upd_n (by omega), upd_n (by omega)⟩
    · unfold fX9_drift
      rw [c_slot1 N q0, bd1_s, if_neg z10]
      rw [c_slot1 N q1, bd1_s, if_neg z10]
      rw [c_law1 N q2, bd1_s, if_neg z10]
      rcases (show z4 < 0 ∨ 1000 < z4 by omega) with w | w
      · rw [if_pos (i_lt (b := 0) (by decide) (by omega))]
      · rw [if_neg (i_nlt (b := 0) (by decide) (by omega)), if_neg (i_nle (b := 1000) (by decide) (by omega))]
    · unfold fX10_drift
      rw [m_slot1 N q0, bd1_s, if_neg z10]
      rw [m_slot1 N q1, bd1_s, if_neg z10]
      rw [m_law1 N q2, bd1_s, if_neg z10]
      rw [m_in0 N (lo := 0) (hi := 1000) (by decide) (by decide) l4 v4 (by omega) q3, bd1_s, if_pos z00]
      rfl
  unfold fX9_drift fX10_drift
  rw [c_slot1 N q0, bd1_s, if_neg z10]
  rw [c_slot1 N q1, bd1_s, if_neg z10]
  rw [c_law1 N q2, bd1_s, if_neg z10]
  rw [if_neg (i_nlt (b := 0) (by decide) (by omega)), if_pos (i_le (b := 1000) (by decide) (by omega))]
  rw [m_slot1 N q0, bd1_s, if_neg z10]
  rw [m_slot1 N q1, bd1_s, if_neg z10]
  rw [m_law1 N q2, bd1_s, if_neg z10]
  rw [m_in1 N (lo := 0) (hi := 1000) (by decide) (by decide) (by omega) q3, bd1_s, if_neg z10]
  obtain ⟨k1, hk1, rfl⟩ := slot_of q0
  obtain ⟨k2, hk2, rfl⟩ := slot_of q1
  obtain ⟨f1, f2, f3, f4, f5, f6⟩ := hM k1 hk1
  obtain ⟨s1, s2, s3, s4, s5, s6, s7⟩ := hS k2 hk2
  rw [zI_toL l4 v4, e_isBeyond N _ S j hk2 s4 s5 s6 s7 (by omega), bd1_s]
  by_cases h : sp_b3 (mm k2 * z4) (da k2 * z4) (se k2 * z4)
  case neg =>
    rw [if_neg h, if_neg z10, e_takes0 N ot a b c hk2 s1 s2 s3 s7 (by omega) h, bd2_s, if_pos z00]
    exact ⟨_, _, _, _, _, _, _, rfl, rfl, hR.f9, had, hot, by simp (disch := omega) only [upd_n], by simp (disch := omega) only [upd_n]⟩
  rw [if_pos h, if_pos z00, e_takes1 N ot a b c hk2 s1 s2 s3 s7 (by omega) h, bd2_s, if_neg z10, e_dayAt N f hk1, bd1_s, e_secondAt N g hk1, bd1_s, f1, f2, e_standsAt N hk1, bd1_s, f3, f4]
  -- once, by the reference's second start
  obtain ⟨st, hst⟩ : ∃ st, st = upd (upd (upd (adT ad (mm k2) (da k2) (se k2) z3) 8 (zI (dd k1))) 9 (zI (ss k1))) 10 (zI 0) := ⟨_, rfl⟩
  obtain ⟨i0, hi0⟩ : ∃ i0, i0 = upd (upd (upd i 9 (0 : Int32)) 13 (zI (dd k1))) 14 (zI (ss k1)) := ⟨_, rfl⟩
  have i04 : i0 4 = i 4 := by rw [hi0]; simp (disch := omega) only [upd_n]
  have i06 : i0 6 = i 6 := by rw [hi0]; simp (disch := omega) only [upd_n]
  have i08 : i0 8 = i 8 := by rw [hi0]; simp (disch := omega) only [upd_n]
  rw [← hi0]
  have stA : AdOK (mm k2) (da k2) (se k2) z3 st := (had.adT (mm k2) (da k2) (se k2) z3).cong fun k hk => by rw [hst, upd_n (by omega), upd_n (by omega), upd_n (by omega)]
  have st8 : st 8 = zI (dd k1) := by rw [hst, upd_n (by omega), upd_n (by omega), upd_s]
  have st9 : st 9 = zI (ss k1) := by rw [hst, upd_n (by omega), upd_s]
  have i13 : i0 13 = zI (dd k1) := by rw [hi0, upd_n (by omega), upd_s]
  have i14 : i0 14 = zI (ss k1) := by rw [hi0, upd_s]
  obtain ⟨ot1, iA, rA, wA, mA, AA, nA, wA2⟩ := bothN N hN (j := j) (i := i0) (hot.adT (mm k2 * z4) (da k2 * z4) (se k2 * z4) z3) hk2 s4 s5 s6 s7 h q2 i13 f5 i14 f6
  obtain ⟨ad1, i1, A1, n1, w2⟩ := l_drift N hN (ks := ks) (f := f) (g := g) (a := a) (b := b) (c := c) (F := F) (G := G) (ot := ot1) (tl := tl) (nn := nn) (R := R) (j := j) (k1 := k1) hk2 s4 s5 s6 s7 q2 q3 N 0 (dd k1) (ss k1) st i0 stA ⟨st8, st9⟩ ⟨i13, i14⟩ f5 f6 (by omega) (by omega) (by omega)
  rw [wA, bd2_s]
  have tk : fX0_takes N (zI k2) (1 : Int32) (zI z3) ad a b c = some (zI 1, adT ad (mm k2) (da k2) (se k2) z3) := e_takesO N ad a b c hk2 s1 s2 s3 s7
  have hR1 : ∀ i2 : Nat → Int32, i2 8 = i1 8 → RelR tl nn i2 R := fun i2 e => hR.cong (by rw [e, n1 8 (by omega), i08])
  rw [tk, bd2_s, bd1_s, bd1_s, e_stands_c, bd1_s, ← hst, show (1 : Int32) = zI 1 from zl_1, show (0 : Int32) = zI 0 from zl_0]
  have z01 : ¬ (zI 1 = zI 0) := by decide
  rcases wA2 with ⟨oy, ou, osh, rfl, o8, o9, o10, j13, j14, j15, ob1, ob2, ob3⟩ | rfl
  · rw [if_neg z01]
    rcases w2 with ⟨y, u, c1, c2, a8, a9, i13', i14', b1, b2⟩ | ⟨c1, c2⟩
    · rw [c1, c2, fX9_drift_l132_s, if_pos (i_le rfl (by omega)), e_instant N a8 b1 a9 b2, bd1_s, e_instant N o8 ob1 o9 ob2, bd1_s, e_tell2, bd2_s, bd1_s, bd1_s, zL_sub]
      unfold fX10_drift_j97
      rw [e_instant_m N j i13' i14' b1 b2, bd1_s, e_standsAt N hk1, bd1_s, if_neg z10, f3, f4]
      obtain ⟨ot2, iB, rB, wB, mB, AB, nB, wB2⟩ := bothN N hN (j := j) (i := upd (upd i1 13 (zI (dd k1))) 14 (zI (ss k1))) (hot.adT (mm k2 * z4) (da k2 * z4) (se k2 * z4) z3) hk2 s4 s5 s6 s7 h q2 (by rw [upd_n (by omega), upd_s]) f5 upd_s f6
      rw [wA] at wB
      injection wB with wB
      injection wB with wB1 wB2'
      subst wB1; subst wB2'
      rw [zI_toL l4 v4, mB, bd2_s, if_neg z10, e_tellA, bd2_s]
      rcases wB2 with ⟨oy', ou', osh', -, o8', o9', -, k13, k14, -, ob1', ob2', -⟩ | e
      · have e1 : oy' = oy := by
          rw [o8] at o8'
          have := congrArg Int32.toInt o8'
          rw [zI_int (by omega) (by omega), zI_int (by omega) (by omega)] at this
          omega
        have e2 : ou' = ou := by
          rw [o9] at o9'
          have := congrArg Int32.toInt o9'
          rw [zI_int (by omega) (by omega), zI_int (by omega) (by omega)] at this
          omega
        subst e1; subst e2
        rw [e_instant_m N j (i := upd iB 8 (zI 1)) (by rw [upd_n (by omega), k13]) (by rw [upd_n (by omega), k14]) ob1 ob2, bd1_s]
        simp (disch := omega) only [zl_m2147483648, zl_m2000000000, zl_m99999, zl_m10000, zl_m21, zl_m9, zl_m5, zl_m2, zl_m1, zl_0, zl_1, zl_2, zl_3, zl_4, zl_5, zl_6, zl_7, zl_8, zl_9, zl_10, zl_11, zl_12, zl_13, zl_14, zl_15, zl_16, zl_17, zl_18, zl_19, zl_23, zl_24, zl_28, zl_29, zl_30, zl_31, zl_45, zl_48, zl_52, zl_57, zl_58, zl_59, zl_60, zl_84, zl_90, zl_100, zl_101, zl_102, zl_103, zl_104, zl_105, zl_106, zl_107, zl_108, zl_109, zl_110, zl_111, zl_112, zl_113, zl_114, zl_115, zl_116, zl_117, zl_118, zl_119, zl_120, zl_121, zl_127, zl_151, zl_153, zl_181, zl_212, zl_243, zl_255, zl_273, zl_304, zl_306, zl_334, zl_365, zl_400, zl_1000, zl_1023, zl_1100, zl_1460, zl_3600, zl_9999, zl_10000, zl_30000, zl_36524, zl_86399, zl_86400, zl_99999, zl_119999, zl_146096, zl_146097, zl_730119, zl_876215, zl_876216, zl_1000000, zl_3652058, zll_m9223372036854775808, zll_m1000000000, zll_m1000009, zll_m1000002, zll_m10000, zll_m5, zll_m2, zll_m1, zll_0, zll_1, zll_2, zll_3, zll_5, zll_6, zll_7, zll_12, zll_100, zll_255, zll_400, zll_1000, zll_9999, zll_10000, zll_86399, zll_86400, zll_120000, zll_146097, zll_2629746, zll_3652058, zll_1000000000, zll_9218868437227405312, zll_9221120237041090560, nm, bd1_s, bd2_s, bd3_s, bd4_s, bd5_s, bd6_s, if01, gz_1, gz_0, gz_if, cz_lt, cz_le, cz_gt, cz_ge, cz_eq, zI_add, zI_sub, zI_mul, zI_neg, zL_add, zL_sub, zL_mul, zL_neg, zI_lt, zI_le, zI_eq, zL_lt, zL_le, zL_eq, zI_toL, zL_toI, zI_div, zL_div, zI_cl, gi_z, mod_fold, upd_s, upd_n, updL_s, updL_n, ↓reduceIte, Int.reduceLT, Int.reduceLE, Int.reduceEq, Int.reduceAdd, Int.reduceSub, Int.reduceMul, Int.reduceNeg, Int.reduceToNat, eq_self, not_true_eq_false, not_false_eq_true, true_and, false_and, and_true, and_false, true_or, false_or, or_true, or_false, e_tellB, e_instant_m, k13, k14]
        rw [e_instant_m N j (i := upd iB 8 (zI 2)) (by rw [upd_n (by omega), k13]) (by rw [upd_n (by omega), k14]) ob1 ob2, bd1_s, zL_sub]
        have fr : ∀ k, k < 8 → iB k = i1 k := fun k hk => by rw [nB k (by omega), upd_n (by omega), upd_n (by omega)]
        exact ⟨_, _, _, _, _, _, _, rfl, rfl, RelR.mk2 upd_s _ _, A1.w, AA.w, by rw [upd_n (by omega), fr 4 (by omega), n1 4 (by omega), i04], by rw [upd_n (by omega), fr 6 (by omega), n1 6 (by omega), i06]⟩
      · exact absurd e (by decide)
    · rw [c1, c2]
      obtain ⟨i', d1, d2, d3, d4⟩ := e_dr97 N (F := F) (G := G) (S := S) (i := i1) (j := j) (R := R) hk1 (zI k2) (zI z3) (zI z4)
      rw [d1]
      exact ⟨_, _, _, _, _, _, _, rfl, rfl, hR1 _ d4, A1.w, AA.w, by rw [d2, n1 4 (by omega), i04], by rw [d3, n1 6 (by omega), i06]⟩
  · rw [if_pos rfl]
    rcases w2 with ⟨y, u, c1, c2, a8, a9, i13', i14', b1, b2⟩ | ⟨c1, c2⟩
    · rw [c2]
      unfold fX10_drift_j97
      rw [e_instant_m N j i13' i14' b1 b2, bd1_s, e_standsAt N hk1, bd1_s, if_neg z10, f3, f4]
      obtain ⟨ot2, iB, rB, wB, mB, AB, nB, wB2⟩ := bothN N hN (j := j) (i := upd (upd i1 13 (zI (dd k1))) 14 (zI (ss k1))) (hot.adT (mm k2 * z4) (da k2 * z4) (se k2 * z4) z3) hk2 s4 s5 s6 s7 h q2 (by rw [upd_n (by omega), upd_s]) f5 upd_s f6
      rw [wA] at wB
      injection wB with wB
      injection wB with wB1 wB2'
      subst wB1; subst wB2'
      rw [zI_toL l4 v4, mB, bd2_s, if_pos z00]
      have fr : ∀ k, k < 9 → iB k = i1 k := fun k hk => by rw [nB k (by omega), upd_n (by omega), upd_n (by omega)]
      exact ⟨_, _, _, _, _, _, _, rfl, rfl, hR1 _ (fr 8 (by omega)), had, AA.w, by rw [fr 4 (by omega), n1 4 (by omega), i04], by rw [fr 6 (by omega), n1 6 (by omega), i06]⟩
    · rw [c2]
      obtain ⟨i', d1, d2, d3, d4⟩ := e_dr97 N (F := F) (G := G) (S := S) (i := i1) (j := j) (R := R) hk1 (zI k2) (zI z3) (zI z4)
      rw [d1]
      exact ⟨_, _, _, _, _, _, _, rfl, rfl, hR1 _ d4, had, AA.w, by rw [d2, n1 4 (by omega), i04], by rw [d3, n1 6 (by omega), i06]⟩
