/-! laws of order: both sides -/
theorem TrOK.ws {w m1 d1 s1 m2 d2 s2 law : Int} {u1 u2 u3 u4 : Nat → Int32} (h : TrOK w m1 d1 s1 m2 d2 s2 law u1 u2 u3 u4) (hw : 0 ≤ w ∧ w ≤ 3) : AdW u1 ∧ AdW u2 ∧ AdW u3 ∧ AdW u4 := by
  obtain ⟨t1, t3, t4, tA, tB, tC, tD⟩ := h
  refine ⟨t1.w, ?_, t3, t4⟩
  rcases (show w = 0 ∨ w = 1 ∨ w = 2 ∨ w = 3 by omega) with rfl | rfl | rfl | rfl
  · exact (tA rfl).1.w
  · exact (tB rfl).w
  · exact (tC rfl).1.w
  · exact (tD rfl).w
theorem e_ttakes (N : Nat) {u1 u2 u3 u4 a b c : Nat → Int32} {uj : Nat → Int64} {ui : Int32} {k2 k3 : Nat} (hk2 : k2 < 8) (hk3 : k3 < 8) {w m1 d1 s1 m2 d2 s2 law : Int} (p1 : a k2 = zI m1) (p2 : b k2 = zI d1) (p3 : c k2 = zI s1) (q1 : a k3 = zI m2) (q2 : b k3 = zI d2) (q3 : c k3 = zI s2) (hb1 : sp_b3 m1 d1 s1) (hb2 : sp_b3 m2 d2 s2) (hw : 0 ≤ w ∧ w ≤ 3) (A1 : AdW u1) (A2 : AdW u2) (A3 : AdW u3) (A4 : AdW u4) :
    ∃ r u1' u2' u3' u4', fX7_takes N (zI w) (zI k2) (zI k3) (zI law) ui uj u1 u2 u3 u4 a b c = some (r, zI w, u1', u2', u3', u4') ∧ ((w = 2 ∧ ¬ sp_b3 (m1 * 2) (d1 * 2) (s1 * 2) ∧ r = zI 0 ∧ AdW u1' ∧ AdW u2' ∧ AdW u3' ∧ AdW u4') ∨ ((w = 2 → sp_b3 (m1 * 2) (d1 * 2) (s1 * 2)) ∧ r = zI 1 ∧ TrOK w m1 d1 s1 m2 d2 s2 law u1' u2' u3' u4')) := by
  unfold fX7_takes
  rw [e_takesO N u1 a b c hk2 p1 p2 p3 hb1, bd2_s]
  rcases (show w = 0 ∨ w = 1 ∨ w = 2 ∨ w = 3 by omega) with rfl | rfl | rfl | rfl
  · rw [if_pos (i_eq (b := 0) (by decide) rfl), e_takesO N u2 a b c hk3 q1 q2 q3 hb2, bd2_s, e_takesO N u3 a b c hk3 q1 q2 q3 hb2, bd2_s, e_takesO N u4 a b c hk2 p1 p2 p3 hb1, bd2_s]
    exact ⟨_, _, _, _, _, rfl, Or.inr ⟨fun h => absurd h (by omega), zl_1, A1.adT _ _ _ _, (A3.adT _ _ _ _).w, (A4.adT _ _ _ _).w, fun _ => ⟨A2.adT _ _ _ _, A3.adT _ _ _ _, A4.adT _ _ _ _⟩, fun h => absurd h (by omega), fun h => absurd h (by omega), fun h => absurd h (by omega)⟩⟩
  · have hn := b3_neg hb1
    have e := e_takes1 N u2 a b c (t := -1) (law := law) hk2 p1 p2 p3 hb1 (by omega) hn
    rw [← zl_m1] at e
    rw [if_neg (i_neq (b := 0) (by decide) (by omega)), if_pos (i_eq (b := 1) (by decide) rfl), e, bd2_s]
    exact ⟨_, _, _, _, _, rfl, Or.inr ⟨fun h => absurd h (by omega), zl_1, A1.adT _ _ _ _, A3, A4, fun h => absurd h (by omega), fun _ => A2.adT _ _ _ _, fun h => absurd h (by omega), fun h => absurd h (by omega)⟩⟩
  · rw [if_neg (i_neq (b := 0) (by decide) (by omega)), if_neg (i_neq (b := 1) (by decide) (by omega)), if_pos (i_eq (b := 2) (by decide) rfl), e_takesO N u2 a b c hk2 p1 p2 p3 hb1, bd2_s]
    by_cases h : sp_b3 (m1 * 2) (d1 * 2) (s1 * 2)
    · have e := e_takes1 N u3 a b c (t := 2) (law := law) hk2 p1 p2 p3 hb1 (by omega) h
      rw [← zl_2] at e
      rw [e, bd2_s, gz_1]
      exact ⟨_, _, _, _, _, rfl, Or.inr ⟨fun _ => h, rfl, A1.adT _ _ _ _, (A3.adT _ _ _ _).w, A4, fun h => absurd h (by omega), fun h => absurd h (by omega), fun _ => ⟨A2.adT _ _ _ _, A3.adT _ _ _ _⟩, fun h => absurd h (by omega)⟩⟩
    · have e := e_takes0 N u3 a b c (t := 2) (law := law) hk2 p1 p2 p3 hb1 (by omega) h
      rw [← zl_2] at e
      rw [e, bd2_s, gz_0]
      exact ⟨_, _, _, _, _, rfl, Or.inl ⟨rfl, h, rfl, (A1.adT _ _ _ _).w, (A2.adT _ _ _ _).w, A3, A4⟩⟩
  · rw [if_neg (i_neq (b := 0) (by decide) (by omega)), if_neg (i_neq (b := 1) (by decide) (by omega)), if_neg (i_neq (b := 2) (by decide) (by omega)), e_takesO N u2 a b c hk2 p1 p2 p3 hb1, bd2_s]
    exact ⟨_, _, _, _, _, rfl, Or.inr ⟨fun h => absurd h (by omega), zl_1, A1.adT _ _ _ _, A3, A4, fun h => absurd h (by omega), fun h => absurd h (by omega), fun h => absurd h (by omega), fun _ => A2.adT _ _ _ _⟩⟩
abbrev sp_q4 (z1 z2 z3 z4 : Int) : Prop := (0 ≤ z1 ∧ z1 ≤ 3) ∧ (0 ≤ z2 ∧ z2 ≤ 7) ∧ (0 ≤ z3 ∧ z3 ≤ 7) ∧ 0 ≤ z4 ∧ z4 ≤ 3
theorem c_trial1 (N : Nat) {z1 z2 z3 z4 : Int} (h : sp_q4 z1 z2 z3 z4) : fX9_isTrial N (zI z1) (zI z2) (zI z3) (zI z4) = some (zI 1) := by
  unfold fX9_isTrial
  rw [if_neg (i_nlt (b := 0) (by decide) (by omega)), if_neg (i_ngt (b := 3) (by decide) (by omega)), c_slot1 N h.2.1, bd1_s, if_neg z10, c_slot1 N h.2.2.1, bd1_s, if_neg z10, c_law1 N h.2.2.2, bd1_s, if_neg z10, zl_1]
theorem c_trial0 (N : Nat) {z1 z2 z3 z4 : Int} (v1 : -2147483648 ≤ z1 ∧ z1 ≤ 2147483647) (v2 : -2147483648 ≤ z2 ∧ z2 ≤ 2147483647) (v3 : -2147483648 ≤ z3 ∧ z3 ≤ 2147483647) (v4 : -2147483648 ≤ z4 ∧ z4 ≤ 2147483647) (h : ¬ sp_q4 z1 z2 z3 z4) : fX9_isTrial N (zI z1) (zI z2) (zI z3) (zI z4) = some (zI 0) := by
  unfold fX9_isTrial
  by_cases a : z1 < 0
  · rw [if_pos (i_lt (b := 0) (by decide) (by omega)), zl_0]
  rw [if_neg (i_nlt (b := 0) (by decide) (by omega))]
  by_cases b : 3 < z1
  · rw [if_pos (i_gt (b := 3) (by decide) (by omega)), zl_0]
  rw [if_neg (i_ngt (b := 3) (by decide) (by omega))]
  by_cases c : 0 ≤ z2 ∧ z2 ≤ 7
  case neg => rw [c_slot0 N v2.1 v2.2 c, bd1_s, if_pos z00, zl_0]
  rw [c_slot1 N c, bd1_s, if_neg z10]
  by_cases d : 0 ≤ z3 ∧ z3 ≤ 7
  case neg => rw [c_slot0 N v3.1 v3.2 d, bd1_s, if_pos z00, zl_0]
  rw [c_slot1 N d, bd1_s, if_neg z10]
  rw [c_law0 N v4.1 v4.2 (fun e => h ⟨by omega, c, d, e⟩), bd1_s, if_pos z00, zl_0]
theorem m_trial1 (N : Nat) {β : Type} {A X : Option β} {z1 z2 z3 z4 : Int} (h : sp_q4 z1 z2 z3 z4) : (bd1 (fX10_in N (zI z1).toInt64 (0 : Int64) (3 : Int64)) fun r17 => (if r17 = (0 : Int32) then A else (bd1 (fX10_isSlot N (zI z2)) fun r20 => (if r20 = (0 : Int32) then A else (bd1 (fX10_isSlot N (zI z3)) fun r23 => (if r23 = (0 : Int32) then A else (bd1 (fX10_isLaw N (zI z4)) fun r26 => (if r26 = (0 : Int32) then A else X)))))))) = X := by
  rw [m_in1 N (lo := 0) (hi := 3) (by decide) (by decide) (by omega) h.1, bd1_s, if_neg z10, m_slot1 N h.2.1, bd1_s, if_neg z10, m_slot1 N h.2.2.1, bd1_s, if_neg z10, m_law1 N h.2.2.2, bd1_s, if_neg z10]
theorem m_trial0 (N : Nat) {β : Type} {A X : Option β} {z1 z2 z3 z4 : Int} (v1 : -2147483648 ≤ z1 ∧ z1 ≤ 2147483647) (v2 : -2147483648 ≤ z2 ∧ z2 ≤ 2147483647) (v3 : -2147483648 ≤ z3 ∧ z3 ≤ 2147483647) (v4 : -2147483648 ≤ z4 ∧ z4 ≤ 2147483647) (h : ¬ sp_q4 z1 z2 z3 z4) : (bd1 (fX10_in N (zI z1).toInt64 (0 : Int64) (3 : Int64)) fun r17 => (if r17 = (0 : Int32) then A else (bd1 (fX10_isSlot N (zI z2)) fun r20 => (if r20 = (0 : Int32) then A else (bd1 (fX10_isSlot N (zI z3)) fun r23 => (if r23 = (0 : Int32) then A else (bd1 (fX10_isLaw N (zI z4)) fun r26 => (if r26 = (0 : Int32) then A else X)))))))) = A := by
  by_cases a : 0 ≤ z1 ∧ z1 ≤ 3
  case neg => rw [m_in0 N (lo := 0) (hi := 3) (by decide) (by decide) v1.1 v1.2 (by omega) a, bd1_s, if_pos z00]
  rw [m_in1 N (lo := 0) (hi := 3) (by decide) (by decide) (by omega) a, bd1_s, if_neg z10]
  by_cases c : 0 ≤ z2 ∧ z2 ≤ 7
  case neg => rw [m_slot0 N v2.1 v2.2 c, bd1_s, if_pos z00]
  rw [m_slot1 N c, bd1_s, if_neg z10]
  by_cases d : 0 ≤ z3 ∧ z3 ≤ 7
  case neg => rw [m_slot0 N v3.1 v3.2 d, bd1_s, if_pos z00]
  rw [m_slot1 N d, bd1_s, if_neg z10]
  rw [m_law0 N v4.1 v4.2 (fun e => h ⟨a, c, d, e⟩), bd1_s, if_pos z00]
/-! fails -/
theorem l_fails (N : Nat) (hN : 200000 ≤ N) {ks : Int32} {a b c S : Nat → Int32} {tl : Int32} {nn R : Nat → Int64} {k2 k3 : Nat} (hk2 : k2 < 8) (hk3 : k3 < 8) {w m1 d1 s1 m2 d2 s2 law D L : Int} (s4 : S (3 * k2) = zI m1) (s5 : S (3 * k2 + 1) = zI d1) (s6 : S (3 * k2 + 2) = zI s1) (t4 : S (3 * k3) = zI m2) (t5 : S (3 * k3 + 1) = zI d2) (t6 : S (3 * k3 + 2) = zI s2) (hb1 : sp_b3 m1 d1 s1) (hb2 : sp_b3 m2 d2 s2) (hb3 : w = 2 → sp_b3 (m1 * 2) (d1 * 2) (s1 * 2)) (hl : 0 ≤ law ∧ law ≤ 3) (hw : 0 ≤ w ∧ w ≤ 3) (hD : 0 ≤ D ∧ D ≤ 3652058) (hL : L = min 3652058 (D + 146097 - 1)) : ∀ (n : Nat) (k : Int) (uj : Nat → Int64) (u1 u2 u3 u4 i : Nat → Int32) (j : Nat → Int64), RelR tl nn i R → TrOK w m1 d1 s1 m2 d2 s2 law u1 u2 u3 u4 → 0 ≤ k → k ≤ 146097 → 146097 - k < n →
    ∃ (r : Int32) (tl' : Int32) (nn' : Nat → Int64) (ui' : Int32) (uj' : Nat → Int64) (u1' u2' u3' u4' i' : Nat → Int32) (j' R' : Nat → Int64), fX9_fails_l63 N ks a b c n (zI L) (zI (D + k)) tl nn (zI w) uj u1 u2 u3 u4 = some (r, tl', nn', ui', uj', u1', u2', u3', u4') ∧ fX10_fails_l72 N S n (zI w) (zI k2) (zI k3) (zI law) (zI D) (zI k) i j R = some (r, i', j', R') ∧ RelR tl' nn' i' R' ∧ AdW u1' ∧ AdW u2' ∧ AdW u3' ∧ AdW u4' ∧ i' 4 = i 4 ∧ i' 6 = i 6 := by
  intro n
  induction n with
  | zero => intro k uj u1 u2 u3 u4 i j hR hT h1 h2 hn; omega
  | succ n ih =>
    intro k uj u1 u2 u3 u4 i j hR hT h1 h2 hn
    obtain ⟨W1, W2, W3, W4⟩ := hT.ws hw
    rw [fX9_fails_l63_s, fX10_fails_l72_s, zI_add]
    by_cases hd : L < D + k
    · rw [if_pos (i_lt rfl (by omega))]
      refine ⟨(-2 : Int32), tl, nn, zI w, uj, u1, u2, u3, u4, i, j, R, rfl, ?_, hR, W1, W2, W3, W4, rfl, rfl⟩
      by_cases hk : 146097 ≤ k
      · rw [if_pos (i_ge' (b := 146097) (by decide) (by omega))]
      · rw [if_neg (i_nge' (b := 146097) (by decide) (by omega)), m_day0 N (by omega) (by omega) (by omega), bd1_s, if_pos z00]
    · rw [if_neg (i_nlt rfl (by omega)), if_neg (i_nge' (b := 146097) (by decide) (by omega)), m_day1 N (by omega), bd1_s, if_neg z10]
      obtain ⟨r, uj1, v1, v2, v3, v4, e1, T1, g1⟩ := e_meets N (uj := uj) hT hb1 hb2 hb3 hl hw (x := D + k) (by omega)
      obtain ⟨i1, j1, r2, e2, n2, g2⟩ := e_unlike N (by omega) (i := i) (j := j) hk2 hk3 s4 s5 s6 t4 t5 t6 hb1 hb2 hb3 hl hw (x := D + k) (by omega)
      have hR1 : RelR tl nn i1 R := hR.cong (n2 8 (by omega))
      rw [e1, bd6_s, e2, bd3_s]
      have go := ih (k + 1) uj1 v1 v2 v3 v4 i1 j1 hR1 T1 (by omega) (by omega) (by omega)
      have go2 : ∀ x y, x = fX9_fails_l63 N ks a b c n (zI L) (zI (D + (k + 1))) tl nn (zI w) uj1 v1 v2 v3 v4 → y = fX10_fails_l72 N S n (zI w) (zI k2) (zI k3) (zI law) (zI D) (zI (k + 1)) i1 j1 R → ∃ (r : Int32) (tl' : Int32) (nn' : Nat → Int64) (ui' : Int32) (uj' : Nat → Int64) (u1' u2' u3' u4' i' : Nat → Int32) (j' R' : Nat → Int64), x = some (r, tl', nn', ui', uj', u1', u2', u3', u4') ∧ y = some (r, i', j', R') ∧ RelR tl' nn' i' R' ∧ AdW u1' ∧ AdW u2' ∧ AdW u3' ∧ AdW u4' ∧ i' 4 = i 4 ∧ i' 6 = i 6 := by
        intro x y hx hy
        subst hx; subst hy
        obtain ⟨r, tl', nn', ui', uj', u1', u2', u3', u4', i', j', R', z1, z2, z3, z4, z5, z6, z7, z8, z9⟩ := go
        exact ⟨r, tl', nn', ui', uj', u1', u2', u3', u4', i', j', R', z1, z2, z3, z4, z5, z6, z7, by rw [z8, n2 4 (by omega)], by rw [z9, n2 6 (by omega)]⟩
      have c1 : zI (D + k) + (1 : Int32) = zI (D + (k + 1)) := by rw [zl_1, zI_add, Int.add_assoc]
      have c2 : zI k + (1 : Int32) = zI (k + 1) := by rw [zl_1, zI_add]
      rcases g1 with ⟨p, q, f1, rfl, j5, j6, bp, bq⟩ | ⟨f1, rfl⟩
      · rcases g2 with ⟨p', q', f2, rfl, j25, j26⟩ | ⟨f2, rfl⟩
        · rw [f1] at f2
          injection f2 with f2
          injection f2 with f3 f4
          subst f3; subst f4
          rw [if_neg z10, j5, j6]
          by_cases h : p = q
          · rw [if_pos (k_eq h), if_pos h, if_pos z00, nm_s, nm_s, c1, c2]
            exact go2 _ _ rfl rfl
          · rw [if_neg (k_neq (by omega)), if_neg h, if_neg z10, e_tell2, bd2_s, e_tellA, bd2_s, j25, j26]
            simp (disch := omega) only [zl_m2147483648, zl_m2000000000, zl_m99999, zl_m10000, zl_m21, zl_m9, zl_m5, zl_m2, zl_m1, zl_0, zl_1, zl_2, zl_3, zl_4, zl_5, zl_6, zl_7, zl_8, zl_9, zl_10, zl_11, zl_12, zl_13, zl_14, zl_15, zl_16, zl_17, zl_18, zl_19, zl_23, zl_24, zl_28, zl_29, zl_30, zl_31, zl_45, zl_48, zl_52, zl_57, zl_58, zl_59, zl_60, zl_84, zl_90, zl_100, zl_101, zl_102, zl_103, zl_104, zl_105, zl_106, zl_107, zl_108, zl_109, zl_110, zl_111, zl_112, zl_113, zl_114, zl_115, zl_116, zl_117, zl_118, zl_119, zl_120, zl_121, zl_127, zl_151, zl_153, zl_181, zl_212, zl_243, zl_255, zl_273, zl_304, zl_306, zl_334, zl_365, zl_400, zl_1000, zl_1023, zl_1100, zl_1460, zl_3600, zl_9999, zl_10000, zl_30000, zl_36524, zl_86399, zl_86400, zl_99999, zl_119999, zl_146096, zl_146097, zl_730119, zl_876215, zl_876216, zl_1000000, zl_3652058, zll_m9223372036854775808, zll_m1000000000, zll_m1000009, zll_m1000002, zll_m10000, zll_m5, zll_m2, zll_m1, zll_0, zll_1, zll_2, zll_3, zll_5, zll_6, zll_7, zll_12, zll_100, zll_255, zll_400, zll_1000, zll_9999, zll_10000, zll_86399, zll_86400, zll_120000, zll_146097, zll_2629746, zll_3652058, zll_1000000000, zll_9218868437227405312, zll_9221120237041090560, nm, bd1_s, bd2_s, bd3_s, bd4_s, bd5_s, bd6_s, if01, gz_1, gz_0, gz_if, cz_lt, cz_le, cz_gt, cz_ge, cz_eq, zI_add, zI_sub, zI_mul, zI_neg, zL_add, zL_sub, zL_mul, zL_neg, zI_lt, zI_le, zI_eq, zL_lt, zL_le, zL_eq, zI_toL, zL_toI, zI_div, zL_div, zI_cl, gi_z, mod_fold, upd_s, upd_n, updL_s, updL_n, ↓reduceIte, Int.reduceLT, Int.reduceLE, Int.reduceEq, Int.reduceAdd, Int.reduceSub, Int.reduceMul, Int.reduceNeg, Int.reduceToNat, eq_self, not_true_eq_false, not_false_eq_true, true_and, false_and, and_true, and_false, true_or, false_or, or_true, or_false, e_tellB]
            obtain ⟨X1, X2, X3, X4⟩ := T1.ws hw
            exact ⟨_, _, _, _, _, _, _, _, _, _, _, _, rfl, rfl, RelR.mk2 upd_s _ _, X1, X2, X3, X4, by simp (disch := omega) only [upd_n, n2], by simp (disch := omega) only [upd_n, n2]⟩
        · rw [f1] at f2; exact absurd f2 (by simp)
      · rcases g2 with ⟨p', q', f2, rfl, j25, j26⟩ | ⟨f2, rfl⟩
        · rw [f1] at f2; exact absurd f2 (by simp)
        · rw [if_pos z00, if_pos z00, nm_s, nm_s, c1, c2]
          exact go2 _ _ rfl rfl
theorem p_fails (N : Nat) (hN : 200000 ≤ N) (p1 : Int32) (p2 : Int32) (p3 : Int32) (p4 : Int32) (p5 : Int32) {ks : Int32} {a : Nat → Int32} {b : Nat → Int32} {c : Nat → Int32} {tl : Int32} {nn : Nat → Int64} {ui : Int32} {uj : Nat → Int64} {u1 : Nat → Int32} {u2 : Nat → Int32} {u3 : Nat → Int32} {u4 : Nat → Int32} {i : Nat → Int32} {j : Nat → Int64} {S : Nat → Int32} {R : Nat → Int64} {mm da se : Nat → Int} (hS : RelS mm da se a b c S) (hR : RelR tl nn i R) (hu1 : AdW u1) (hu2 : AdW u2) (hu3 : AdW u3) (hu4 : AdW u4) : 
    ∃ (r : Int32) (tl' : Int32) (nn' : Nat → Int64) (ui' : Int32) (uj' : Nat → Int64) (u1' : Nat → Int32) (u2' : Nat → Int32) (u3' : Nat → Int32) (u4' : Nat → Int32) (i' : Nat → Int32) (j' : Nat → Int64) (R' : Nat → Int64), fX9_fails N p1 p2 p3 p4 p5 ks a b c tl nn ui uj u1 u2 u3 u4 = some (r, tl', nn', ui', uj', u1', u2', u3', u4') ∧ fX10_fails N p1 p2 p3 p4 p5 i j S R = some (r, i', j', R') ∧ RelR tl' nn' i' R' ∧ AdW u1' ∧ AdW u2' ∧ AdW u3' ∧ AdW u4' ∧ i' 4 = i 4 ∧ i' 6 = i 6 := by
  obtain ⟨z1, l1, v1, rfl⟩ := zI_of p1
  obtain ⟨z2, l2, v2, rfl⟩ := zI_of p2
  obtain ⟨z3, l3, v3, rfl⟩ := zI_of p3
  obtain ⟨z4, l4, v4, rfl⟩ := zI_of p4
  obtain ⟨z5, l5, v5, rfl⟩ := zI_of p5
  unfold fX9_fails fX10_fails
  by_cases Q : sp_q4 z1 z2 z3 z4
  case neg =>
    rw [c_trial0 N ⟨l1, v1⟩ ⟨l2, v2⟩ ⟨l3, v3⟩ ⟨l4, v4⟩ Q, bd1_s, if_pos z00, m_trial0 N ⟨l1, v1⟩ ⟨l2, v2⟩ ⟨l3, v3⟩ ⟨l4, v4⟩ Q]
    exact ⟨_, _, _, _, _, _, _, _, _, _, _, _, rfl, rfl, hR.f9, hu1, hu2, hu3, hu4, by simp (disch := omega) only [upd_n], by simp (disch := omega) only [upd_n]⟩
  rw [c_trial1 N Q, bd1_s, if_neg z10, m_trial1 N Q]
  by_cases q5 : 0 ≤ z5 ∧ z5 ≤ 3652058
  case neg =>
    rw [c_day0 N l5 v5 q5, bd1_s, if_pos z00, m_day0 N l5 v5 q5, bd1_s, if_pos z00]
    exact ⟨_, _, _, _, _, _, _, _, _, _, _, _, rfl, rfl, hR.f9, hu1, hu2, hu3, hu4, by simp (disch := omega) only [upd_n], by simp (disch := omega) only [upd_n]⟩
  rw [c_day1 N q5, bd1_s, if_neg z10, m_day1 N q5, bd1_s, if_neg z10]
  obtain ⟨q1, q2, q3, q4⟩ := Q
  obtain ⟨k2, hk2, rfl⟩ := slot_of q2
  obtain ⟨k3, hk3, rfl⟩ := slot_of q3
  obtain ⟨s1, s2, s3, s4, s5, s6, s7⟩ := hS k2 hk2
  obtain ⟨t1, t2, t3, t4, t5, t6, t7⟩ := hS k3 hk3
  obtain ⟨r0, w1, w2, w3, w4, e0, g0⟩ := e_ttakes N (uj := uj) (ui := ui) (law := z4) hk2 hk3 s1 s2 s3 t1 t2 t3 s7 t7 q1 hu1 hu2 hu3 hu4
  have eB := e_isBeyond N (upd i 9 (0 : Int32)) S j (t := 2) hk2 s4 s5 s6 s7 (by omega)
  rw [← zll_2] at eB
  rw [e0, bd6_s]
  rcases g0 with ⟨h2, hb, rfl, X1, X2, X3, X4⟩ | ⟨hb3, rfl, T⟩
  · subst h2
    rw [if_pos z00, if_pos (i_eq (b := 2) (by decide) rfl), eB, bd1_s, if_neg hb, if_neg z10]
    exact ⟨_, _, _, _, _, _, _, _, _, _, _, _, rfl, rfl, hR.f9, X1, X2, X3, X4, by simp (disch := omega) only [upd_n], by simp (disch := omega) only [upd_n]⟩
  · rw [if_neg z10, nm_s]
    have cL : (if (3652058 : Int32) < ((zI z5 + (146097 : Int32)) - (1 : Int32)) then (3652058 : Int32) else ((zI z5 + (146097 : Int32)) - (1 : Int32))) = zI (min 3652058 (z5 + 146097 - 1)) := by
      rw [zl_146097, zl_1, zl_3652058, zI_add, zI_sub]
      by_cases h : 3652058 < z5 + 146097 - 1
      · rw [if_pos (i_lt rfl (by omega))]; congr 1; omega
      · rw [if_neg (i_nlt rfl (by omega))]; congr 1; omega
    have rf : (if zI z1 = (2 : Int32) then (bd1 (fX10_isBeyond N (zI k2) (2 : Int64) (upd i 9 (0 : Int32)) j S) fun r33 => (if r33 = (0 : Int32) then (fX10_fails_l72 N S N (zI z1) (zI k2) (zI k3) (zI z4) (zI z5) (0 : Int32) (upd i 9 (0 : Int32)) j R) else (some ((-9 : Int32), (upd i 9 (0 : Int32)), j, R)))) else (fX10_fails_l72 N S N (zI z1) (zI k2) (zI k3) (zI z4) (zI z5) (0 : Int32) (upd i 9 (0 : Int32)) j R)) = fX10_fails_l72 N S N (zI z1) (zI k2) (zI k3) (zI z4) (zI z5) (zI 0) (upd i 9 (0 : Int32)) j R := by
      rw [← zl_0]
      by_cases h : z1 = 2
      · rw [if_pos (i_eq (b := 2) (by decide) h), eB, bd1_s, if_pos (hb3 h), if_pos z00]
      · rw [if_neg (i_neq (b := 2) (by decide) (by omega))]
    rw [cL, rf]
    obtain ⟨r, tl', nn', ui', uj', u1', u2', u3', u4', i', j', R', x1, x2, x3, x4, x5, x6, x7, x8, x9⟩ := l_fails N hN (ks := ks) (a := a) (b := b) (c := c) (tl := tl) (nn := nn) (R := R) hk2 hk3 s4 s5 s6 t4 t5 t6 s7 t7 hb3 q4 q1 q5 (L := min 3652058 (z5 + 146097 - 1)) rfl N 0 uj w1 w2 w3 w4 (upd i 9 (0 : Int32)) j hR.f9 T (by omega) (by omega) (by omega)
    rw [Int.add_zero] at x1
    exact ⟨r, tl', nn', ui', uj', u1', u2', u3', u4', i', j', R', x1, x2, x3, x4, x5, x6, x7, by rw [x8]; simp (disch := omega) only [upd_n], by rw [x9]; simp (disch := omega) only [upd_n]⟩
/-! often -/
theorem l_often (N : Nat) (hN : 200000 ≤ N) {ks : Int32} {a b c S : Nat → Int32} {tl : Int32} {nn R : Nat → Int64} {k2 k3 : Nat} (hk2 : k2 < 8) (hk3 : k3 < 8) {w m1 d1 s1 m2 d2 s2 law : Int} (s4 : S (3 * k2) = zI m1) (s5 : S (3 * k2 + 1) = zI d1) (s6 : S (3 * k2 + 2) = zI s1) (t4 : S (3 * k3) = zI m2) (t5 : S (3 * k3 + 1) = zI d2) (t6 : S (3 * k3 + 2) = zI s2) (hb1 : sp_b3 m1 d1 s1) (hb2 : sp_b3 m2 d2 s2) (hb3 : w = 2 → sp_b3 (m1 * 2) (d1 * 2) (s1 * 2)) (hl : 0 ≤ law ∧ law ≤ 3) (hw : 0 ≤ w ∧ w ≤ 3) : ∀ (n : Nat) (q M z d : Int) (uj : Nat → Int64) (u1 u2 u3 u4 i : Nat → Int32) (j : Nat → Int64), RelR tl nn i R → TrOK w m1 d1 s1 m2 d2 s2 law u1 u2 u3 u4 → 730119 ≤ d → d ≤ 876216 → (0 ≤ M ∧ M ≤ 315537897599) → 876216 - d < n →
    ∃ (r : Int32) (tl' : Int32) (nn' : Nat → Int64) (ui' : Int32) (uj' : Nat → Int64) (u1' u2' u3' u4' i' : Nat → Int32) (j' R' : Nat → Int64), fX9_often_l48 N ks a b c n (zI q) (zL M) (zI z) (zI d) tl nn (zI w) uj u1 u2 u3 u4 = some (r, tl', nn', ui', uj', u1', u2', u3', u4') ∧ fX10_often_l74 N S n (zI w) (zI k2) (zI k3) (zI law) (zI q) (zL M) (zI z) (zI d) i j R = some (r, i', j', R') ∧ RelR tl' nn' i' R' ∧ AdW u1' ∧ AdW u2' ∧ AdW u3' ∧ AdW u4' ∧ i' 4 = i 4 ∧ i' 6 = i 6 := by
  intro n
  induction n with
  | zero => intro q M z d uj u1 u2 u3 u4 i j hR hT h1 h2 hM hn; omega
  | succ n ih =>
    intro q M z d uj u1 u2 u3 u4 i j hR hT h1 h2 hM hn
    obtain ⟨W1, W2, W3, W4⟩ := hT.ws hw
    rw [fX9_often_l48_s, fX10_often_l74_s]
    by_cases hd : 876216 ≤ d
    · rw [if_pos (i_gt (b := 876215) (by decide) (by omega)), if_pos (i_ge' (b := 876216) (by decide) (by omega)), e_tell2, bd2_s, e_tellA, bd2_s]
      simp (disch := omega) only [zl_m2147483648, zl_m2000000000, zl_m99999, zl_m10000, zl_m21, zl_m9, zl_m5, zl_m2, zl_m1, zl_0, zl_1, zl_2, zl_3, zl_4, zl_5, zl_6, zl_7, zl_8, zl_9, zl_10, zl_11, zl_12, zl_13, zl_14, zl_15, zl_16, zl_17, zl_18, zl_19, zl_23, zl_24, zl_28, zl_29, zl_30, zl_31, zl_45, zl_48, zl_52, zl_57, zl_58, zl_59, zl_60, zl_84, zl_90, zl_100, zl_101, zl_102, zl_103, zl_104, zl_105, zl_106, zl_107, zl_108, zl_109, zl_110, zl_111, zl_112, zl_113, zl_114, zl_115, zl_116, zl_117, zl_118, zl_119, zl_120, zl_121, zl_127, zl_151, zl_153, zl_181, zl_212, zl_243, zl_255, zl_273, zl_304, zl_306, zl_334, zl_365, zl_400, zl_1000, zl_1023, zl_1100, zl_1460, zl_3600, zl_9999, zl_10000, zl_30000, zl_36524, zl_86399, zl_86400, zl_99999, zl_119999, zl_146096, zl_146097, zl_730119, zl_876215, zl_876216, zl_1000000, zl_3652058, zll_m9223372036854775808, zll_m1000000000, zll_m1000009, zll_m1000002, zll_m10000, zll_m5, zll_m2, zll_m1, zll_0, zll_1, zll_2, zll_3, zll_5, zll_6, zll_7, zll_12, zll_100, zll_255, zll_400, zll_1000, zll_9999, zll_10000, zll_86399, zll_86400, zll_120000, zll_146097, zll_2629746, zll_3652058, zll_1000000000, zll_9218868437227405312, zll_9221120237041090560, nm, bd1_t, bd2_t, bd3_t, bd4_t, bd5_t, bd6_t, if01, gz_1, gz_0, gz_if, cz_lt, cz_le, cz_gt, cz_ge, cz_eq, zI_add, zI_sub, zI_mul, zI_neg, zL_add, zL_sub, zL_mul, zL_neg, zI_lt, zI_le, zI_eq, zL_lt, zL_le, zL_eq, zI_toL, zL_toI, zI_div, zL_div, zI_cl, gi_z, mod_fold, upd_s, upd_n, updL_s, updL_n, ↓reduceIte, Int.reduceLT, Int.reduceLE, Int.reduceEq, Int.reduceAdd, Int.reduceSub, Int.reduceMul, Int.reduceNeg, Int.reduceToNat, eq_self, not_true_eq_false, not_false_eq_true, true_and, false_and, and_true, and_false, true_or, false_or, or_true, or_false, e_tellB]
      exact ⟨_, _, _, _, _, _, _, _, _, _, _, _, rfl, rfl, RelR.mk2 upd_s _ _, W1, W2, W3, W4, by simp (disch := omega) only [upd_n], by simp (disch := omega) only [upd_n]⟩
    · rw [if_neg (i_ngt (b := 876215) (by decide) (by omega)), if_neg (i_nge' (b := 876216) (by decide) (by omega))]
      obtain ⟨r, uj1, v1, v2, v3, v4, e1, T1, g1⟩ := e_meets N (uj := uj) hT hb1 hb2 hb3 hl hw (x := d) (by omega)
      obtain ⟨i1, j1, r2, e2, n2, g2⟩ := e_unlike N (by omega) (i := i) (j := j) hk2 hk3 s4 s5 s6 t4 t5 t6 hb1 hb2 hb3 hl hw (x := d) (by omega)
      have hR1 : RelR tl nn i1 R := hR.cong (n2 8 (by omega))
      rw [e1, bd6_s, e2, bd3_s]
      have go2 : ∀ (q M z : Int) (x : Option (Int32 × Int32 × (Nat → Int64) × Int32 × (Nat → Int64) × (Nat → Int32) × (Nat → Int32) × (Nat → Int32) × (Nat → Int32))) (y : Option (Int32 × (Nat → Int32) × (Nat → Int64) × (Nat → Int64))), (0 ≤ M ∧ M ≤ 315537897599) → x = fX9_often_l48 N ks a b c n (zI q) (zL M) (zI z) (zI (d + 1)) tl nn (zI w) uj1 v1 v2 v3 v4 → y = fX10_often_l74 N S n (zI w) (zI k2) (zI k3) (zI law) (zI q) (zL M) (zI z) (zI (d + 1)) i1 j1 R → ∃ (r : Int32) (tl' : Int32) (nn' : Nat → Int64) (ui' : Int32) (uj' : Nat → Int64) (u1' u2' u3' u4' i' : Nat → Int32) (j' R' : Nat → Int64), x = some (r, tl', nn', ui', uj', u1', u2', u3', u4') ∧ y = some (r, i', j', R') ∧ RelR tl' nn' i' R' ∧ AdW u1' ∧ AdW u2' ∧ AdW u3' ∧ AdW u4' ∧ i' 4 = i 4 ∧ i' 6 = i 6 := by
        intro q M z x y hM' hx hy
        subst hx; subst hy
        obtain ⟨r, tl', nn', ui', uj', u1', u2', u3', u4', i', j', R', z1, z2, z3, z4, z5, z6, z7, z8, z9⟩ := ih q M z (d + 1) uj1 v1 v2 v3 v4 i1 j1 hR1 T1 (by omega) (by omega) hM' (by omega)
        exact ⟨r, tl', nn', ui', uj', u1', u2', u3', u4', i', j', R', z1, z2, z3, z4, z5, z6, z7, by rw [z8, n2 4 (by omega)], by rw [z9, n2 6 (by omega)]⟩
      have c1 : zI d + (1 : Int32) = zI (d + 1) := by rw [zl_1, zI_add]
      have c2 : zI q + (1 : Int32) = zI (q + 1) := by rw [zl_1, zI_add]
      rcases g1 with ⟨p, p2, f1, rfl, j5, j6, bp, bq⟩ | ⟨f1, rfl⟩
      · rcases g2 with ⟨p', q', f2, rfl, j25, j26⟩ | ⟨f2, rfl⟩
        · rw [f1] at f2
          injection f2 with f2
          injection f2 with f3 f4
          subst f3; subst f4
          rw [if_neg z10, j5, j6, j25, j26]
          by_cases h : p = p2
          · rw [if_pos (k_eq h), if_pos h, if_pos z00, nm_s, nm_s, c1]
            exact go2 q M z _ _ hM rfl rfl
          · rw [if_neg (k_neq (by omega)), if_neg h, if_neg z10, zL_sub, c2, nm_s (x := zI (q + 1)), nm_s (x := zI (q + 1))]
            obtain ⟨A, hA⟩ : ∃ A : Int, A = if 0 ≤ p - p2 then p - p2 else -(p - p2) := ⟨_, rfl⟩
            have bA : 0 ≤ A ∧ A ≤ 315537897599 := by
              rw [hA]; split <;> omega
            have eA : (if (0 : Int64) < zL (p - p2) then zL (p - p2) else -zL (p - p2)) = zL A := by
              rw [zll_0, hA]
              by_cases hp : 0 ≤ p - p2
              · rw [if_pos (by rw [zL_lt (by omega) (by omega) (by omega) (by omega)]; omega), if_pos hp]
              · rw [if_neg (by rw [zL_lt (by omega) (by omega) (by omega) (by omega)]; omega), if_neg hp, zL_neg]
            have eS : fX10_sizeOf N (zL (p - p2)) = some (zL A) := by
              unfold fX10_sizeOf
              rw [zll_0, hA]
              by_cases hp : 0 ≤ p - p2
              · rw [if_pos (k_ge (by omega)), if_pos hp]
              · rw [if_neg (k_nge (by omega)), if_neg hp, zL_neg]
            rw [eA, nm_s (x := zL A), eS, bd1_s]
            by_cases hc : A ≤ M
            · rw [if_pos (k_le (by omega)), if_neg (by rw [zl_0, cz_gt, zL_lt (by omega) (by omega) (by omega) (by omega)]; omega), nm_s, nm_s, c1]
              exact go2 (q + 1) M z _ _ hM rfl rfl
            · rw [if_neg (k_nle (by omega)), if_pos (by rw [zl_0, cz_gt, zL_lt (by omega) (by omega) (by omega) (by omega)]; omega), nm_s, nm_s, c1]
              exact go2 (q + 1) A d _ _ bA rfl rfl
        · rw [f1] at f2; exact absurd f2 (by simp)
      · rcases g2 with ⟨p', q', f2, rfl, j25, j26⟩ | ⟨f2, rfl⟩
        · rw [f1] at f2; exact absurd f2 (by simp)
        · rw [if_pos z00, if_pos z00, nm_s, nm_s, c1]
          exact go2 q M z _ _ hM rfl rfl
theorem p_often (N : Nat) (hN : 200000 ≤ N) (p1 : Int32) (p2 : Int32) (p3 : Int32) (p4 : Int32) {ks : Int32} {a : Nat → Int32} {b : Nat → Int32} {c : Nat → Int32} {tl : Int32} {nn : Nat → Int64} {ui : Int32} {uj : Nat → Int64} {u1 : Nat → Int32} {u2 : Nat → Int32} {u3 : Nat → Int32} {u4 : Nat → Int32} {i : Nat → Int32} {j : Nat → Int64} {S : Nat → Int32} {R : Nat → Int64} {mm da se : Nat → Int} (hS : RelS mm da se a b c S) (hR : RelR tl nn i R) (hu1 : AdW u1) (hu2 : AdW u2) (hu3 : AdW u3) (hu4 : AdW u4) : 
    ∃ (r : Int32) (tl' : Int32) (nn' : Nat → Int64) (ui' : Int32) (uj' : Nat → Int64) (u1' : Nat → Int32) (u2' : Nat → Int32) (u3' : Nat → Int32) (u4' : Nat → Int32) (i' : Nat → Int32) (j' : Nat → Int64) (R' : Nat → Int64), fX9_often N p1 p2 p3 p4 ks a b c tl nn ui uj u1 u2 u3 u4 = some (r, tl', nn', ui', uj', u1', u2', u3', u4') ∧ fX10_often N p1 p2 p3 p4 i j S R = some (r, i', j', R') ∧ RelR tl' nn' i' R' ∧ AdW u1' ∧ AdW u2' ∧ AdW u3' ∧ AdW u4' ∧ i' 4 = i 4 ∧ i' 6 = i 6 := by
  obtain ⟨z1, l1, v1, rfl⟩ := zI_of p1
  obtain ⟨z2, l2, v2, rfl⟩ := zI_of p2
  obtain ⟨z3, l3, v3, rfl⟩ := zI_of p3
  obtain ⟨z4, l4, v4, rfl⟩ := zI_of p4
  unfold fX9_often fX10_often
  by_cases Q : sp_q4 z1 z2 z3 z4
  case neg =>
    rw [c_trial0 N ⟨l1, v1⟩ ⟨l2, v2⟩ ⟨l3, v3⟩ ⟨l4, v4⟩ Q, bd1_s, if_pos z00, m_trial0 N ⟨l1, v1⟩ ⟨l2, v2⟩ ⟨l3, v3⟩ ⟨l4, v4⟩ Q]
    exact ⟨_, _, _, _, _, _, _, _, _, _, _, _, rfl, rfl, hR.f9, hu1, hu2, hu3, hu4, by simp (disch := omega) only [upd_n], by simp (disch := omega) only [upd_n]⟩
  rw [c_trial1 N Q, bd1_s, if_neg z10, m_trial1 N Q]
  obtain ⟨q1, q2, q3, q4⟩ := Q
  obtain ⟨k2, hk2, rfl⟩ := slot_of q2
  obtain ⟨k3, hk3, rfl⟩ := slot_of q3
  obtain ⟨s1, s2, s3, s4, s5, s6, s7⟩ := hS k2 hk2
  obtain ⟨t1, t2, t3, t4, t5, t6, t7⟩ := hS k3 hk3
  obtain ⟨r0, w1, w2, w3, w4, e0, g0⟩ := e_ttakes N (uj := uj) (ui := ui) (law := z4) hk2 hk3 s1 s2 s3 t1 t2 t3 s7 t7 q1 hu1 hu2 hu3 hu4
  have eB := e_isBeyond N (upd i 9 (0 : Int32)) S j (t := 2) hk2 s4 s5 s6 s7 (by omega)
  rw [← zll_2] at eB
  rw [e0, bd6_s]
  rcases g0 with ⟨h2, hb, rfl, X1, X2, X3, X4⟩ | ⟨hb3, rfl, T⟩
  · subst h2
    rw [if_pos z00, if_pos (i_eq (b := 2) (by decide) rfl), eB, bd1_s, if_neg hb, if_neg z10]
    exact ⟨_, _, _, _, _, _, _, _, _, _, _, _, rfl, rfl, hR.f9, X1, X2, X3, X4, by simp (disch := omega) only [upd_n], by simp (disch := omega) only [upd_n]⟩
  · rw [if_neg z10]
    have rf : (if zI z1 = (2 : Int32) then (bd1 (fX10_isBeyond N (zI k2) (2 : Int64) (upd i 9 (0 : Int32)) j S) fun r33 => (if r33 = (0 : Int32) then (fX10_often_l74 N S N (zI z1) (zI k2) (zI k3) (zI z4) (0 : Int32) (0 : Int64) (-1 : Int32) (730119 : Int32) (upd i 9 (0 : Int32)) j R) else (some ((-9 : Int32), (upd i 9 (0 : Int32)), j, R)))) else (fX10_often_l74 N S N (zI z1) (zI k2) (zI k3) (zI z4) (0 : Int32) (0 : Int64) (-1 : Int32) (730119 : Int32) (upd i 9 (0 : Int32)) j R)) = fX10_often_l74 N S N (zI z1) (zI k2) (zI k3) (zI z4) (0 : Int32) (0 : Int64) (-1 : Int32) (730119 : Int32) (upd i 9 (0 : Int32)) j R := by
      by_cases h : z1 = 2
      · rw [if_pos (i_eq (b := 2) (by decide) h), eB, bd1_s, if_pos (hb3 h), if_pos z00]
      · rw [if_neg (i_neq (b := 2) (by decide) (by omega))]
    rw [rf]
    obtain ⟨r, tl', nn', ui', uj', u1', u2', u3', u4', i', j', R', x1, x2, x3, x4, x5, x6, x7, x8, x9⟩ := l_often N hN (ks := ks) (a := a) (b := b) (c := c) (tl := tl) (nn := nn) (R := R) hk2 hk3 s4 s5 s6 t4 t5 t6 s7 t7 hb3 q4 q1 N 0 0 (-1) 730119 uj w1 w2 w3 w4 (upd i 9 (0 : Int32)) j hR.f9 T (by omega) (by omega) (by omega) (by omega)
    rw [← zl_0, ← zll_0, ← zl_m1, ← zl_730119] at x1 x2
    exact ⟨r, tl', nn', ui', uj', u1', u2', u3', u4', i', j', R', x1, x2, x3, x4, x5, x6, x7, by rw [x8]; simp (disch := omega) only [upd_n], by rw [x9]; simp (disch := omega) only [upd_n]⟩
