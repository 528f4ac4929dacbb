/-! the fewest and the most -/
theorem e_weighE (N : Nat) {I : Nat → Int32} {J : Nat → Int64} (h : I 2 = zI 1) (w v : Int) : fX8_weigh N (zI w) (zL v) I J = some (upd (upd (upd I 5 (zI w)) 2 (zI 0)) 6 (zI w), vp_updL (vp_updL J 3 (zL v)) 4 (zL v)) := by
  unfold fX8_weigh fX8_weigh_j26
  rw [h, if_neg z10, upd_n (by omega), h, if_neg z10]
  rfl
theorem e_weighN (N : Nat) {I : Nat → Int32} {J : Nat → Int64} {w v lo hi fl fm : Int} (h : I 2 = zI 0) (h3 : J 3 = zL lo) (h4 : J 4 = zL hi) (h5 : I 5 = zI fl) (h6 : I 6 = zI fm) (b1 : -4611686018427387904 ≤ v ∧ v ≤ 4611686018427387904) (b2 : -4611686018427387904 ≤ lo ∧ lo ≤ 4611686018427387904) (b3 : -4611686018427387904 ≤ hi ∧ hi ≤ 4611686018427387904) :
    ∃ I' J', fX8_weigh N (zI w) (zL v) I J = some (I', J') ∧ I' 2 = zI 0 ∧ J' 3 = zL (if v < lo then v else lo) ∧ J' 4 = zL (if hi < v then v else hi) ∧ I' 5 = zI (if v < lo then w else fl) ∧ I' 6 = zI (if hi < v then w else fm) ∧ I' 1 = I 1 := by
  unfold fX8_weigh fX8_weigh_j26
  rw [h, if_pos z00, h3]
  by_cases c1 : v < lo
  · rw [if_neg (k_nge (by omega)), if_pos c1, if_pos c1, upd_n (by omega), h, if_pos z00, updL_n (by omega), h4]
    by_cases c2 : hi < v
    · rw [if_neg (k_nle (by omega)), if_pos c2, if_pos c2]
      exact ⟨_, _, rfl, by simp (disch := omega) only [upd_n, upd_s] <;> exact zl_0, by rw [updL_n (by omega), updL_s], by rw [updL_s], by simp (disch := omega) only [upd_n, upd_s], by simp (disch := omega) only [upd_n, upd_s], by simp (disch := omega) only [upd_n]⟩
    · rw [if_pos (k_le (by omega)), if_neg c2, if_neg c2]
      exact ⟨_, _, rfl, by simp (disch := omega) only [upd_n, upd_s] <;> exact zl_0, by rw [updL_s], by rw [updL_n (by omega), h4], by simp (disch := omega) only [upd_n, upd_s], by simp (disch := omega) only [upd_n, h6], by simp (disch := omega) only [upd_n]⟩
  · rw [if_pos (k_ge (by omega)), if_neg c1, if_neg c1, if_pos z00, h4]
    by_cases c2 : hi < v
    · rw [if_neg (k_nle (by omega)), if_pos c2, if_pos c2]
      exact ⟨_, _, rfl, by simp (disch := omega) only [upd_n, upd_s] <;> exact zl_0, by rw [updL_n (by omega), h3], by rw [updL_s], by simp (disch := omega) only [upd_n, h5], by simp (disch := omega) only [upd_n, upd_s], by simp (disch := omega) only [upd_n]⟩
    · rw [if_pos (k_le (by omega)), if_neg c2, if_neg c2]
      exact ⟨_, _, rfl, by simp (disch := omega) only [upd_n, upd_s] <;> exact zl_0, h3, h4, by simp (disch := omega) only [upd_n, h5], by simp (disch := omega) only [upd_n, h6], by simp (disch := omega) only [upd_n]⟩
def WW (wi : Nat → Int32) (wj : Nat → Int64) (lo hi fl fm : Int) : Prop := (wi 2 = zI 1 ∧ fl = -1 ∧ fm = -1) ∨ (wi 2 = zI 0 ∧ wj 3 = zL lo ∧ wj 4 = zL hi ∧ wi 5 = zI fl ∧ wi 6 = zI fm ∧ (0 ≤ fl ∧ fl ≤ 1000000) ∧ (0 ≤ fm ∧ fm ≤ 1000000))
theorem l_runs (N : Nat) (hN : 200000 ≤ N) {ks : Int32} {f g a b c F G S : Nat → Int32} {tl : Int32} {nn j R : Nat → Int64} {dd ss mm da se : Nat → Int} (hM : RelM dd ss f g F G) (hS : RelS mm da se a b c S) {k1 k2 : Nat} (hk1 : k1 < 8) (hk2 : k2 < 8) {law n4 : Int} (hl : 0 ≤ law ∧ law ≤ 3) (h4 : 1 ≤ n4 ∧ n4 ≤ 1000) : ∀ (n : Nat) (w lo hi fl fm H : Int) (ad i wi : Nat → Int32) (wj : Nat → Int64), RelR tl nn i R → AdW ad → WW wi wj lo hi fl fm → (-1000000000000 ≤ lo ∧ lo ≤ 1000000000000) → (-1000000000000 ≤ hi ∧ hi ≤ 1000000000000) → (0 ≤ H ∧ H ≤ 315537897599) → 0 ≤ w → w ≤ n4 → (w = 0 ∨ fl ≠ -1) → n4 - w < n →
    ∃ (r : Int64) (tl' : Int32) (nn' : Nat → Int64) (ad' : Nat → Int32) (wi' : Nat → Int32) (wj' : Nat → Int64) (i' : Nat → Int32) (R' : Nat → Int64), fX9_runs_l81 N ks f g a b c n (zI k1) (zI k2) (zI law) (zI n4) (zL H) (zI (w + 1)) tl nn ad wi wj = some (r, tl', nn', ad', wi', wj') ∧ fX10_runs_l80 N j F G S n (zI k1) (zI k2) (zI law) (zI n4) (zL lo) (zL hi) (zI fl) (zI fm) (zL H) (zI w) i R = some (r, i', R') ∧ RelR tl' nn' i' R' ∧ AdW ad' ∧ i' 4 = i 4 ∧ i' 6 = i 6
  | 0, w, lo, hi, fl, fm, H, ad, i, wi, wj, hR, had, hW, hlo, hhi, hH, h1, h2, h3, hn => by omega
  | n + 1, w, lo, hi, fl, fm, H, ad, i, wi, wj, hR, had, hW, hlo, hhi, hH, h1, h2, h3, hn => by
    rw [fX9_runs_l81_s, fX10_runs_l80_s]
    by_cases hd : n4 ≤ w
    · rcases hW with ⟨e2, hfl, hfm⟩ | ⟨e2, j3, j4, i5, i6, p5, p6⟩
      · omega
      · rw [if_pos (i_gt rfl (by omega)), if_pos (i_le rfl (by omega)), j3, j4, i5, i6, e_tell3, bd2_s, e_tellA, bd2_s]
        simp (disch := omega) only [zl_m2147483648, zl_m2000000000, zl_m99999, zl_m10000, zl_m21, zl_m9, zl_m5, zl_m2, zl_m1, zl_0, zl_1, zl_2, zl_3, zl_4, zl_5, zl_6, zl_7, zl_8, zl_9, zl_10, zl_11, zl_12, zl_13, zl_14, zl_15, zl_16, zl_17, zl_18, zl_19, zl_23, zl_24, zl_28, zl_29, zl_30, zl_31, zl_45, zl_48, zl_52, zl_57, zl_58, zl_59, zl_60, zl_84, zl_90, zl_100, zl_101, zl_102, zl_103, zl_104, zl_105, zl_106, zl_107, zl_108, zl_109, zl_110, zl_111, zl_112, zl_113, zl_114, zl_115, zl_116, zl_117, zl_118, zl_119, zl_120, zl_121, zl_127, zl_151, zl_153, zl_181, zl_212, zl_243, zl_255, zl_273, zl_304, zl_306, zl_334, zl_365, zl_400, zl_1000, zl_1023, zl_1100, zl_1460, zl_3600, zl_9999, zl_10000, zl_30000, zl_36524, zl_86399, zl_86400, zl_99999, zl_119999, zl_146096, zl_146097, zl_730119, zl_876215, zl_876216, zl_1000000, zl_3652058, zll_m9223372036854775808, zll_m1000000000, zll_m1000009, zll_m1000002, zll_m10000, zll_m5, zll_m2, zll_m1, zll_0, zll_1, zll_2, zll_3, zll_5, zll_6, zll_7, zll_12, zll_100, zll_255, zll_400, zll_1000, zll_9999, zll_10000, zll_86399, zll_86400, zll_120000, zll_146097, zll_2629746, zll_3652058, zll_1000000000, zll_9218868437227405312, zll_9221120237041090560, nm, bd1_s, bd2_s, bd3_s, bd4_s, bd5_s, bd6_s, if01, gz_1, gz_0, gz_if, cz_lt, cz_le, cz_gt, cz_ge, cz_eq, zI_add, zI_sub, zI_mul, zI_neg, zL_add, zL_sub, zL_mul, zL_neg, zI_lt, zI_le, zI_eq, zL_lt, zL_le, zL_eq, zI_toL, zL_toI, zI_div, zL_div, zI_cl, gi_z, mod_fold, upd_s, upd_n, updL_s, updL_n, ↓reduceIte, Int.reduceLT, Int.reduceLE, Int.reduceEq, Int.reduceAdd, Int.reduceSub, Int.reduceMul, Int.reduceNeg, Int.reduceToNat, eq_self, not_true_eq_false, not_false_eq_true, true_and, false_and, and_true, and_false, true_or, false_or, or_true, or_false, e_tellB]
        exact ⟨_, _, _, _, _, _, _, _, rfl, rfl, RelR.mk3 upd_s _ _ _, had, by simp (disch := omega) only [upd_n], by simp (disch := omega) only [upd_n]⟩
    · rw [if_neg (i_ngt rfl (by omega)), if_neg (i_nle rfl (by omega)), zl_1, zI_add, zI_add]
      obtain ⟨ad1, i1, r1, w1, m1, A1, n1, w2⟩ := both_at N hN (ks := ks) (i := i) (j := j) hM hS had hk1 hk2 (law := law) (n := w + 1) hl (by omega)
      rw [w1, bd2_s, m1, bd2_s]
      have hR1 : RelR tl nn i1 R := hR.cong (n1 8 (by omega))
      rcases w2 with ⟨y, u, rfl, a8, a9, i13, i14, b1, b2⟩ | rfl
      · rw [if_neg z10, if_neg z10, e_instant N a8 b1 a9 b2, e_instant_m N j i13 i14 b1 b2]
        simp only [bd1_s, nm_s]
        rw [zL_sub, zI_sub, show w + 1 - 1 = w by omega]
        obtain ⟨v, hv⟩ : ∃ v, v = y * 86400 + u - H := ⟨_, rfl⟩
        obtain ⟨T, hT⟩ : ∃ T, T = y * 86400 + u := ⟨_, rfl⟩
        rw [← hv, ← hT]
        unfold fX10_runs_j142
        simp only [nm_s, zl_1, zI_add]
        rcases hW with ⟨e2, hfl, hfm⟩ | ⟨e2, j3, j4, i5, i6, p5, p6⟩
        · rw [e_weighE N e2, bd2_s, if_pos (i_eq (b := -1) (by decide) hfl), if_pos (i_eq (b := -1) (by decide) hfm)]
          obtain ⟨r, tl', nn', ad', wi', wj', i', R', v1, v2, v3, v4, v5, v6⟩ := l_runs N hN (ks := ks) (j := j) hM hS hk1 hk2 hl h4 n (w + 1) v v w w T ad1 i1 (upd (upd (upd wi 5 (zI w)) 2 (zI 0)) 6 (zI w)) (vp_updL (vp_updL wj 3 (zL v)) 4 (zL v)) hR1 A1 (Or.inr ⟨by simp (disch := omega) only [upd_n, upd_s], by rw [updL_n (by omega), updL_s], by rw [updL_s], by simp (disch := omega) only [upd_n, upd_s], by simp (disch := omega) only [upd_n, upd_s], by omega, by omega⟩) (by omega) (by omega) (by omega) (by omega) (by omega) (by omega) (by omega)
          exact ⟨r, tl', nn', ad', wi', wj', i', R', v1, v2, v3, v4, by rw [v5, n1 4 (by omega)], by rw [v6, n1 6 (by omega)]⟩
        · obtain ⟨I', J', g1, g2, g3, g4, g5, g6, g7⟩ := e_weighN N (w := w) (v := v) e2 j3 j4 i5 i6 (by omega) (by omega) (by omega)
          rw [g1, bd2_s, if_neg (i_neq (b := -1) (by decide) (by omega))]
          have key : ∀ lo' hi' fl' fm', lo' = (if v < lo then v else lo) → hi' = (if hi < v then v else hi) → fl' = (if v < lo then w else fl) → fm' = (if hi < v then w else fm) → ∃ (r : Int64) (tl' : Int32) (nn' : Nat → Int64) (ad' : Nat → Int32) (wi' : Nat → Int32) (wj' : Nat → Int64) (i' : Nat → Int32) (R' : Nat → Int64), fX9_runs_l81 N ks f g a b c n (zI k1) (zI k2) (zI law) (zI n4) (zL T) (zI (w + 1 + 1)) tl nn ad1 I' J' = some (r, tl', nn', ad', wi', wj') ∧ fX10_runs_l80 N j F G S n (zI k1) (zI k2) (zI law) (zI n4) (zL lo') (zL hi') (zI fl') (zI fm') (zL T) (zI (w + 1)) i1 R = some (r, i', R') ∧ RelR tl' nn' i' R' ∧ AdW ad' ∧ i' 4 = i 4 ∧ i' 6 = i 6 := by
            intro lo' hi' fl' fm' q1 q2 q3 q4
            rw [← q1] at g3
            rw [← q2] at g4
            rw [← q3] at g5
            rw [← q4] at g6
            have k1' : (-1000000000000 ≤ lo' ∧ lo' ≤ 1000000000000) ∧ (0 ≤ fl' ∧ fl' ≤ 1000000) := by
              rw [q1, q3]; split <;> omega
            have k2' : (-1000000000000 ≤ hi' ∧ hi' ≤ 1000000000000) ∧ (0 ≤ fm' ∧ fm' ≤ 1000000) := by
              rw [q2, q4]; split <;> omega
            obtain ⟨r, tl', nn', ad', wi', wj', i', R', v1, v2, v3, v4, v5, v6⟩ := l_runs N hN (ks := ks) (j := j) hM hS hk1 hk2 hl h4 n (w + 1) lo' hi' fl' fm' T ad1 i1 I' J' hR1 A1 (Or.inr ⟨g2, g3, g4, g5, g6, k1'.2, k2'.2⟩) k1'.1 k2'.1 (by omega) (by omega) (by omega) (by omega) (by omega)
            exact ⟨r, tl', nn', ad', wi', wj', i', R', v1, v2, v3, v4, by rw [v5, n1 4 (by omega)], by rw [v6, n1 6 (by omega)]⟩
          by_cases c1 : v < lo
          · rw [if_neg (k_nge (by omega)), if_neg (i_neq (b := -1) (by decide) (by omega))]
            by_cases c2 : hi < v
            · rw [if_neg (k_nle (by omega))]
              exact key _ _ _ _ (by rw [if_pos c1]) (by rw [if_pos c2]) (by rw [if_pos c1]) (by rw [if_pos c2])
            · rw [if_pos (k_le (by omega))]
              exact key _ _ _ _ (by rw [if_pos c1]) (by rw [if_neg c2]) (by rw [if_pos c1]) (by rw [if_neg c2])
          · rw [if_pos (k_ge (by omega)), if_neg (i_neq (b := -1) (by decide) (by omega))]
            by_cases c2 : hi < v
            · rw [if_neg (k_nle (by omega))]
              exact key _ _ _ _ (by rw [if_neg c1]) (by rw [if_pos c2]) (by rw [if_neg c1]) (by rw [if_pos c2])
            · rw [if_pos (k_le (by omega))]
              exact key _ _ _ _ (by rw [if_neg c1]) (by rw [if_neg c2]) (by rw [if_neg c1]) (by rw [if_neg c2])
      · rw [if_pos z00, if_pos z00]
        exact ⟨_, _, _, _, _, _, _, _, rfl, rfl, hR1, A1, n1 4 (by omega), n1 6 (by omega)⟩
theorem p_runs (N : Nat) (hN : 200000 ≤ N) (p1 : Int32) (p2 : Int32) (p3 : Int32) (p4 : Int32) {ks : Int32} {f : Nat → Int32} {g : Nat → Int32} {a : Nat → Int32} {b : Nat → Int32} {c : Nat → Int32} {tl : Int32} {nn : Nat → Int64} {ad : Nat → Int32} {wi : Nat → Int32} {wj : Nat → Int64} {i : Nat → Int32} {j : Nat → Int64} {F : Nat → Int32} {G : Nat → Int32} {S : Nat → Int32} {R : Nat → Int64} {dd ss mm da se : Nat → Int} (hM : RelM dd ss f g F G) (hS : RelS mm da se a b c S) (hR : RelR tl nn i R) (had : AdW ad) : 
    ∃ (r : Int64) (tl' : Int32) (nn' : Nat → Int64) (ad' : Nat → Int32) (wi' : Nat → Int32) (wj' : Nat → Int64) (i' : Nat → Int32) (R' : Nat → Int64), fX9_runs N p1 p2 p3 p4 ks f g a b c tl nn ad wi wj = some (r, tl', nn', ad', wi', wj') ∧ fX10_runs N p1 p2 p3 p4 i j F G S R = some (r, i', R') ∧ RelR tl' nn' i' R' ∧ AdW ad' ∧ i' 4 = i 4 ∧ i' 6 = i 6 := by
  obtain ⟨z1, l1, v1, rfl⟩ := zI_of p1
  obtain ⟨z2, l2, v2, rfl⟩ := zI_of p2
  obtain ⟨z3, l3, v3, rfl⟩ := zI_of p3
  obtain ⟨z4, l4, v4, rfl⟩ := zI_of p4
  by_cases q0 : 0 ≤ z1 ∧ z1 ≤ 7
  case neg =>
    refine ⟨(-1 : Int64), tl, nn, ad, wi, wj, upd i 9 (zI 0), R, ?_, ?_, hR.f9, had, upd_n (by omega), upd_n (by omega)⟩
    · unfold fX9_runs
      rw [c_slot0 N l1 v1 q0, bd1_s, if_pos z00]
    · unfold fX10_runs
      rw [m_slot0 N l1 v1 q0, bd1_s, if_pos z00]
      rfl
  by_cases q1 : 0 ≤ z2 ∧ z2 ≤ 7
  case neg =>
    refine ⟨(-1 : Int64), tl, nn, ad, wi, wj, upd i 9 (zI 0), R, ?_, ?_, hR.f9, had, upd_n (by omega), upd_n (by omega)⟩
    · unfold fX9_runs
      rw [c_slot1 N q0, bd1_s, if_neg z10]
      rw [c_slot0 N l2 v2 q1, bd1_s, if_pos z00]
    · unfold fX10_runs
      rw [m_slot1 N q0, bd1_s, if_neg z10]
      rw [m_slot0 N l2 v2 q1, bd1_s, if_pos z00]
      rfl
  by_cases q2 : 0 ≤ z3 ∧ z3 ≤ 3
  case neg =>
    refine ⟨(-1 : Int64), tl, nn, ad, wi, wj, upd i 9 (zI 0), R, ?_, ?_, hR.f9, had, upd_n (by omega), upd_n (by omega)⟩
    · unfold fX9_runs
      rw [c_slot1 N q0, bd1_s, if_neg z10]
      rw [c_slot1 N q1, bd1_s, if_neg z10]
      rw [c_law0 N l3 v3 q2, bd1_s, if_pos z00]
    · unfold fX10_runs
      rw [m_slot1 N q0, bd1_s, if_neg z10]
      rw [m_slot1 N q1, bd1_s, if_neg z10]
      rw [m_law0 N l3 v3 q2, bd1_s, if_pos z00]
      rfl
  by_cases q3 : 1 ≤ z4 ∧ z4 ≤ 1000
  case neg =>
    refine ⟨(-1 : Int64), tl, nn, ad, wi, wj, upd i 9 (zI 0), R, ?_, ?_, hR.f9, had, upd_n (by omega), upd_n (by omega)⟩
    · unfold fX9_runs
      rw [c_slot1 N q0, bd1_s, if_neg z10]
      rw [c_slot1 N q1, bd1_s, if_neg z10]
      rw [c_law1 N q2, bd1_s, if_neg z10]
      rcases (show z4 < 1 ∨ 1000 < z4 by omega) with w | w
      · rw [if_pos (i_lt (b := 1) (by decide) (by omega))]
      · rw [if_neg (i_nlt (b := 1) (by decide) (by omega)), if_neg (i_nle (b := 1000) (by decide) (by omega))]
    · unfold fX10_runs
      rw [m_slot1 N q0, bd1_s, if_neg z10]
      rw [m_slot1 N q1, bd1_s, if_neg z10]
      rw [m_law1 N q2, bd1_s, if_neg z10]
      rw [m_in0 N (lo := 1) (hi := 1000) (by decide) (by decide) l4 v4 (by omega) q3, bd1_s, if_pos z00]
      rfl
  unfold fX9_runs fX10_runs
  rw [c_slot1 N q0, bd1_s, if_neg z10]
  rw [c_slot1 N q1, bd1_s, if_neg z10]
  rw [c_law1 N q2, bd1_s, if_neg z10]
  rw [if_neg (i_nlt (b := 1) (by decide) (by omega)), if_pos (i_le (b := 1000) (by decide) (by omega))]
  rw [m_slot1 N q0, bd1_s, if_neg z10]
  rw [m_slot1 N q1, bd1_s, if_neg z10]
  rw [m_law1 N q2, bd1_s, if_neg z10]
  rw [m_in1 N (lo := 1) (hi := 1000) (by decide) (by decide) (by omega) q3, bd1_s, if_neg z10]
  obtain ⟨k1, hk1, rfl⟩ := slot_of q0
  obtain ⟨k2, hk2, rfl⟩ := slot_of q1
  obtain ⟨f1, f2, f3, f4, f5, f6⟩ := hM k1 hk1
  obtain ⟨s1, s2, s3, s4, s5, s6, s7⟩ := hS k2 hk2
  rw [zI_toL l4 v4, e_isBeyond N _ S j hk2 s4 s5 s6 s7 (by omega), bd1_s]
  by_cases h : sp_b3 (mm k2 * z4) (da k2 * z4) (se k2 * z4)
  case neg =>
    rw [if_neg h, if_neg z10, e_takes0 N ad a b c hk2 s1 s2 s3 s7 (by omega) h, bd2_s, if_pos z00]
    exact ⟨_, _, _, _, _, _, _, _, rfl, rfl, hR.f9, had, by simp (disch := omega) only [upd_n], by simp (disch := omega) only [upd_n]⟩
  rw [if_pos h, if_pos z00, e_takes1 N ad a b c hk2 s1 s2 s3 s7 (by omega) h, bd2_s, if_neg z10, e_instantAt N f g hk1 f1 f2 (by omega) (by omega), bd1_s, e_instantOf_m N hk1 _ F G j f3 f4 f5 f6, bd1_s]
  have cl : fX8_clear N wi wj = some (upd (upd wi 1 (zI 0)) 2 (zI 1)) := by
    unfold fX8_clear
    rw [zl_0, zl_1]
  rw [cl, bd1_s, zl_0, zl_m1, zll_0, zl_1]
  obtain ⟨r, tl', nn', ad', wi', wj', i', R', v1, v2, v3, v4, v5, v6⟩ := l_runs N hN (ks := ks) (j := j) hM hS hk1 hk2 q2 q3 N 0 0 0 (-1) (-1) (dd k1 * 86400 + ss k1) (adT ad (mm k2 * z4) (da k2 * z4) (se k2 * z4) z3) (upd i 9 (zI 0)) (upd (upd wi 1 (zI 0)) 2 (zI 1)) wj hR.f9 (had.adT _ _ _ _).w (Or.inl ⟨upd_s, rfl, rfl⟩) (by omega) (by omega) (by omega) (by omega) (by omega) (by omega) (by omega)
  exact ⟨r, tl', nn', ad', wi', wj', i', R', v1, v2, v3, v4, by rw [v5]; simp (disch := omega) only [upd_n], by rw [v6]; simp (disch := omega) only [upd_n]⟩
/-! again -/
theorem l_again (N : Nat) (hN : 200000 ≤ N) {ks : Int32} {f F : Nat → Int32} {tl : Int32} {nn j R : Nat → Int64} {M D : Int} (hMo : 1 ≤ M ∧ M ≤ 12) (hDa : 1 ≤ D ∧ D ≤ 31) : ∀ (n : Nat) (y le : Int) (i : Nat → Int32), RelR tl nn i R → (i 11 = zI M ∧ i 12 = zI D) → 1 ≤ y → y ≤ 9999 → 1 ≤ le → le ≤ 100 → 10001 - y < n →
    ∃ (r : Int32) (tl' : Int32) (nn' : Nat → Int64) (i' : Nat → Int32) (R' : Nat → Int64), fX9_again_l59 N ks f n (zI M) (zI D) (zI le) (zI (y + 1)) tl nn = some (r, tl', nn') ∧ fX10_again_l44 N j F n (zI le) (zI y) i R = some (r, i', R') ∧ RelR tl' nn' i' R' ∧ i' 4 = i 4 ∧ i' 6 = i 6 := by
  intro n
  induction n with
  | zero => intro y le i hR hi h1 h2 h3 h4 hn; omega
  | succ n ih =>
    intro y le i hR hi h1 h2 h3 h4 hn
    rw [fX9_again_l59_s, fX10_again_l44_s, if_neg (i_nle (b := 0) (by decide) (by omega))]
    by_cases hd : 9999 ≤ y
    · rw [if_pos (i_gt (b := 9999) (by decide) (by omega)), if_pos (i_ge' (b := 9999) (by decide) (by omega))]
      unfold fX10_again_j86
      rw [if_neg (i_nle (b := 0) (by decide) (by omega))]
      exact ⟨_, _, _, _, _, rfl, rfl, hR, rfl, rfl⟩
    · rw [if_neg (i_ngt (b := 9999) (by decide) (by omega)), if_neg (i_nge' (b := 9999) (by decide) (by omega)), e_mlen N (by omega) (by omega) (by omega) (by omega), bd1_s, nm_s, nm_s]
      rw [show zI y + (1 : Int32) = zI (y + 1) by rw [zl_1, zI_add], hi.1, e_mlen_m N (by omega) (by omega) (by omega) (by omega), bd1_s, hi.2]
      have b := mlen_b (y + 1) M
      unfold fX9_again_j82
      by_cases hc : sp_mlen (y + 1) M < D
      · rw [if_pos (i_lt rfl (by omega)), if_pos (i_lt rfl (by omega)), if_neg (i_neq (b := 0) (by decide) (by omega)), nm_s, nm_s, zl_1, zI_add, zl_0, zI_sub, Int.sub_zero]
        exact ih (y + 1) le i hR hi (by omega) (by omega) h3 h4 (by omega)
      · rw [if_neg (i_nlt rfl (by omega)), if_neg (i_nlt rfl (by omega)), show zI le + (-1 : Int32) = zI (le + -1) by rw [zl_m1, zI_add], show zI le - (1 : Int32) = zI (le - 1) by rw [zl_1, zI_sub], show le + -1 = le - 1 by omega]
        by_cases hz : le - 1 = 0
        · obtain ⟨n, rfl⟩ : ∃ q, n = q + 1 := ⟨n - 1, by omega⟩
          rw [if_pos (i_eq (b := 0) (by decide) hz), nm_s, fX10_again_l44_s, if_pos (i_le (b := 0) (by decide) (by omega))]
          unfold fX10_again_j86
          rw [if_pos (i_le (b := 0) (by decide) (by omega)), e_tell1, bd2_s, e_tellA, bd2_s, upd_n (by omega), upd_n (by omega), hi.1, hi.2, e_dn N (by omega) (by omega) (by omega) (by omega) (by omega) (by omega), bd1_s, e_dn_m N (by omega) (by omega) (by omega) (by omega) (by omega) (by omega), bd1_s]
          exact ⟨_, _, _, _, _, rfl, rfl, RelR.mk1 upd_s _, by simp (disch := omega) only [upd_n], by simp (disch := omega) only [upd_n]⟩
        · rw [if_neg (i_neq (b := 0) (by decide) (by omega)), nm_s, nm_s, zl_1, zI_add]
          exact ih (y + 1) (le - 1) i hR hi (by omega) (by omega) (by omega) (by omega) (by omega)
theorem p_again (N : Nat) (hN : 200000 ≤ N) (p1 : Int32) (p2 : Int32) {ks : Int32} {f : Nat → Int32} {tl : Int32} {nn : Nat → Int64} {i : Nat → Int32} {j : Nat → Int64} {F : Nat → Int32} {R : Nat → Int64} {g : Nat → Int32} {G : Nat → Int32} {dd ss : Nat → Int} (hM : RelM dd ss f g F G) (hR : RelR tl nn i R) : 
    ∃ (r : Int32) (tl' : Int32) (nn' : Nat → Int64) (i' : Nat → Int32) (R' : Nat → Int64), fX9_again N p1 p2 ks f tl nn = some (r, tl', nn') ∧ fX10_again N p1 p2 i j F R = some (r, i', R') ∧ RelR tl' nn' i' R' ∧ i' 4 = i 4 ∧ i' 6 = i 6 := by
  obtain ⟨z1, l1, v1, rfl⟩ := zI_of p1
  obtain ⟨z2, l2, v2, rfl⟩ := zI_of p2
  by_cases q0 : 0 ≤ z1 ∧ z1 ≤ 7
  case neg =>
    refine ⟨(-1 : Int32), tl, nn, upd i 9 (zI 0), R, ?_, ?_, hR.f9, upd_n (by omega), upd_n (by omega)⟩
    · unfold fX9_again
      rw [c_slot0 N l1 v1 q0, bd1_s, if_pos z00]
    · unfold fX10_again
      rw [m_slot0 N l1 v1 q0, bd1_s, if_pos z00]
      rfl
  by_cases q1 : 1 ≤ z2 ∧ z2 ≤ 100
  case neg =>
    refine ⟨(-1 : Int32), tl, nn, upd i 9 (zI 0), R, ?_, ?_, hR.f9, upd_n (by omega), upd_n (by omega)⟩
    · unfold fX9_again
      rw [c_slot1 N q0, bd1_s, if_neg z10]
      rcases (show z2 < 1 ∨ 100 < z2 by omega) with w | w
      · rw [if_pos (i_lt (b := 1) (by decide) (by omega))]
      · rw [if_neg (i_nlt (b := 1) (by decide) (by omega)), if_neg (i_nle (b := 100) (by decide) (by omega))]
    · unfold fX10_again
      rw [m_slot1 N q0, bd1_s, if_neg z10]
      rw [m_in0 N (lo := 1) (hi := 100) (by decide) (by decide) l2 v2 (by omega) q1, bd1_s, if_pos z00]
      rfl
  unfold fX9_again fX10_again
  rw [c_slot1 N q0, bd1_s, if_neg z10]
  rw [if_neg (i_nlt (b := 1) (by decide) (by omega)), if_pos (i_le (b := 100) (by decide) (by omega))]
  rw [m_slot1 N q0, bd1_s, if_neg z10]
  rw [m_in1 N (lo := 1) (hi := 100) (by decide) (by decide) (by omega) q1, bd1_s, if_neg z10]
  obtain ⟨k1, hk1, rfl⟩ := slot_of q0
  obtain ⟨f1, f2, f3, f4, f5, f6⟩ := hM k1 hk1
  obtain ⟨g4, g5, g6, g7⟩ := sp_all f5.1 f5.2
  have g8 := mlen_b (sp_Y (dd k1)) (sp_M (dd k1))
  obtain ⟨d1, d2, d4⟩ := ymd f5.1 f5.2
  rw [e_dayAt N f hk1, bd1_s, f1, e_dateOf N f5.1 f5.2, bd1_s]
  obtain ⟨i2, hi2⟩ : ∃ i2, i2 = upd (upd (upd (upd i 9 (zI 0)) 10 (zI (sp_Y (dd k1)))) 11 (zI (sp_M (dd k1)))) 12 (zI (sp_D (dd k1))) := ⟨_, rfl⟩
  have d7 : fX10_dates N (zI (dd k1)) (upd i 9 (zI 0)) j = some i2 := by rw [hi2]; exact e_dates N (by omega) _ j f5.1 f5.2
  have i4 : i2 4 = i 4 := by rw [hi2]; simp (disch := omega) only [upd_n]
  have i6 : i2 6 = i 6 := by rw [hi2]; simp (disch := omega) only [upd_n]
  have i8 : i2 8 = i 8 := by rw [hi2]; simp (disch := omega) only [upd_n]
  have i10 : i2 10 = zI (sp_Y (dd k1)) := by rw [hi2]; simp (disch := omega) only [upd_n, upd_s]
  have i11 : i2 11 = zI (sp_M (dd k1)) := by rw [hi2]; simp (disch := omega) only [upd_n, upd_s]
  have i12 : i2 12 = zI (sp_D (dd k1)) := by rw [hi2]; simp (disch := omega) only [upd_n, upd_s]
  simp (disch := omega) only [zl_m2147483648, zl_m2000000000, zl_m99999, zl_m10000, zl_m21, zl_m9, zl_m5, zl_m2, zl_m1, zl_0, zl_1, zl_2, zl_3, zl_4, zl_5, zl_6, zl_7, zl_8, zl_9, zl_10, zl_11, zl_12, zl_13, zl_14, zl_15, zl_16, zl_17, zl_18, zl_19, zl_23, zl_24, zl_28, zl_29, zl_30, zl_31, zl_45, zl_48, zl_52, zl_57, zl_58, zl_59, zl_60, zl_84, zl_90, zl_100, zl_101, zl_102, zl_103, zl_104, zl_105, zl_106, zl_107, zl_108, zl_109, zl_110, zl_111, zl_112, zl_113, zl_114, zl_115, zl_116, zl_117, zl_118, zl_119, zl_120, zl_121, zl_127, zl_151, zl_153, zl_181, zl_212, zl_243, zl_255, zl_273, zl_304, zl_306, zl_334, zl_365, zl_400, zl_1000, zl_1023, zl_1100, zl_1460, zl_3600, zl_9999, zl_10000, zl_30000, zl_36524, zl_86399, zl_86400, zl_99999, zl_119999, zl_146096, zl_146097, zl_730119, zl_876215, zl_876216, zl_1000000, zl_3652058, zll_m9223372036854775808, zll_m1000000000, zll_m1000009, zll_m1000002, zll_m10000, zll_m5, zll_m2, zll_m1, zll_0, zll_1, zll_2, zll_3, zll_5, zll_6, zll_7, zll_12, zll_100, zll_255, zll_400, zll_1000, zll_9999, zll_10000, zll_86399, zll_86400, zll_120000, zll_146097, zll_2629746, zll_3652058, zll_1000000000, zll_9218868437227405312, zll_9221120237041090560, nm, bd1_s, bd2_s, bd3_s, bd4_s, bd5_s, bd6_s, if01, gz_1, gz_0, gz_if, cz_lt, cz_le, cz_gt, cz_ge, cz_eq, zI_add, zI_sub, zI_mul, zI_neg, zL_add, zL_sub, zL_mul, zL_neg, zI_lt, zI_le, zI_eq, zL_lt, zL_le, zL_eq, zI_toL, zL_toI, zI_div, zL_div, zI_cl, gi_z, mod_fold, upd_s, upd_n, updL_s, updL_n, ↓reduceIte, Int.reduceLT, Int.reduceLE, Int.reduceEq, Int.reduceAdd, Int.reduceSub, Int.reduceMul, Int.reduceNeg, Int.reduceToNat, eq_self, not_true_eq_false, not_false_eq_true, true_and, false_and, and_true, and_false, true_or, false_or, or_true, or_false, d1, d2, d4, d7, tn1, f3, i10]
  obtain ⟨r, tl', nn', i', R', v1, v2, v3, v4, v5⟩ := l_again N hN (ks := ks) (f := f) (F := F) (j := j) (tl := tl) (nn := nn) (R := R) (M := sp_M (dd k1)) (D := sp_D (dd k1)) g5 (by omega) N (sp_Y (dd k1)) z2 i2 (hR.cong i8) ⟨i11, i12⟩ (by omega) (by omega) q1.1 q1.2 (by omega)
  exact ⟨r, tl', nn', i', R', v1, v2, v3, by rw [v4, i4], by rw [v5, i6]⟩
