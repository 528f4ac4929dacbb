/-! what is asked first, and what stands alike on both sides -/
theorem z10 : ¬ (zI 1 = (0 : Int32)) := by decide
theorem z00 : zI 0 = (0 : Int32) := by decide
theorem c_slot1 (N : Nat) {z : Int} (h : 0 ≤ z ∧ z ≤ 7) : fX9_isSlot N (zI z) = some (zI 1) := by rw [e_isSlot N (by omega) (by omega), if_pos h]
theorem c_slot0 (N : Nat) {z : Int} (h1 : -2147483648 ≤ z) (h2 : z ≤ 2147483647) (h : ¬ (0 ≤ z ∧ z ≤ 7)) : fX9_isSlot N (zI z) = some (zI 0) := by rw [e_isSlot N h1 h2, if_neg h]
theorem c_law1 (N : Nat) {z : Int} (h : 0 ≤ z ∧ z ≤ 3) : fX9_isLaw N (zI z) = some (zI 1) := by rw [e_isLaw N (by omega) (by omega), if_pos h]
theorem c_law0 (N : Nat) {z : Int} (h1 : -2147483648 ≤ z) (h2 : z ≤ 2147483647) (h : ¬ (0 ≤ z ∧ z ≤ 3)) : fX9_isLaw N (zI z) = some (zI 0) := by rw [e_isLaw N h1 h2, if_neg h]
theorem c_ord1 (N : Nat) {z : Int} (h : 0 ≤ z ∧ z ≤ 1) : fX9_isOrder N (zI z) = some (zI 1) := by rw [e_isOrder N (by omega) (by omega), if_pos h]
theorem c_ord0 (N : Nat) {z : Int} (h1 : -2147483648 ≤ z) (h2 : z ≤ 2147483647) (h : ¬ (0 ≤ z ∧ z ≤ 1)) : fX9_isOrder N (zI z) = some (zI 0) := by rw [e_isOrder N h1 h2, if_neg h]
theorem slot_of {z : Int} (h : 0 ≤ z ∧ z ≤ 7) : ∃ k : Nat, k < 8 ∧ z = (k : Int) := ⟨z.toNat, by omega, by omega⟩
def Ag (n : Nat) (p q : Nat → Int64) : Prop := ∀ k, k < n → p k = q k
theorem Ag.zero (p q : Nat → Int64) : Ag 0 p q := fun k hk => absurd hk (Nat.not_lt_zero k)
theorem Ag.up {n : Nat} {p q : Nat → Int64} (h : Ag n p q) (x : Int64) : Ag (n + 1) (vp_updL p n x) (vp_updL q n x) := by
  intro k hk
  by_cases e : k = n
  · subst e; rw [updL_s, updL_s]
  · rw [updL_n e, updL_n e]; exact h k (by omega)
theorem Ag.put {n : Nat} {p q : Nat → Int64} (h : Ag n p q) (m : Nat) (x : Int64) : Ag n (vp_updL p m x) (vp_updL q m x) := by
  intro k hk
  by_cases e : k = m
  · subst e; rw [updL_s, updL_s]
  · rw [updL_n e, updL_n e]; exact h k (by omega)
def RelR (tl : Int32) (nn : Nat → Int64) (i : Nat → Int32) (R : Nat → Int64) : Prop := ∃ n : Nat, n ≤ 8 ∧ tl = zI n ∧ i 8 = zI n ∧ Ag n nn R
theorem RelR.cong {tl : Int32} {nn R : Nat → Int64} {i i2 : Nat → Int32} (h : RelR tl nn i R) (e : i2 8 = i 8) : RelR tl nn i2 R := by
  obtain ⟨n, h1, h2, h3, h4⟩ := h
  exact ⟨n, h1, h2, by rw [e, h3], h4⟩
theorem RelR.f9 {tl : Int32} {nn R : Nat → Int64} {i : Nat → Int32} {v : Int32} (h : RelR tl nn i R) : RelR tl nn (upd i 9 v) R := h.cong (upd_n (by omega))
theorem e_push (N : Nat) {n : Nat} (hn : n < 8) (x : Int64) (p : Nat → Int64) : fX3_push N x (zI n) p = some (zI (n + 1), vp_updL p n x) := by
  unfold fX3_push
  simp (disch := omega) only [zl_m2000000000, zl_m99999, zl_m10000, zl_m21, zl_m9, zl_m5, zl_m2, zl_m1, zl_0, zl_1, zl_2, zl_3, zl_4, zl_5, zl_6, zl_7, zl_8, zl_9, zl_10, zl_11, zl_12, zl_13, zl_14, zl_15, zl_16, zl_17, zl_18, zl_19, zl_23, zl_24, zl_28, zl_29, zl_30, zl_31, zl_45, zl_48, zl_57, zl_58, zl_59, zl_60, zl_84, zl_100, zl_101, zl_102, zl_103, zl_104, zl_105, zl_106, zl_107, zl_108, zl_109, zl_110, zl_111, zl_112, zl_113, zl_114, zl_115, zl_116, zl_117, zl_118, zl_119, zl_120, zl_121, zl_153, zl_255, zl_306, zl_365, zl_400, zl_1000, zl_1460, zl_3600, zl_9999, zl_10000, zl_30000, zl_36524, zl_86399, zl_86400, zl_99999, zl_119999, zl_146096, zl_146097, zl_1000000, zl_3652058, zll_m1000000000, zll_m1000009, zll_m1000002, zll_m2, zll_m1, zll_0, zll_1, zll_86400, zll_2629746, zll_1000000000, nm, bd1_s, bd2_s, bd3_s, bd4_s, bd5_s, bd6_s, if01, gz_1, gz_0, gz_if, cz_lt, cz_le, cz_gt, cz_ge, cz_eq, zI_add, zI_sub, zI_mul, zI_neg, zL_add, zL_sub, zL_mul, zL_neg, zI_lt, zI_le, zI_eq, zL_lt, zL_le, zL_eq, zI_toL, zL_toI, zI_div, zL_div, zI_cl, gi_z, mod_fold, upd_s, upd_n, updL_s, updL_n, ↓reduceIte, Int.reduceLT, Int.reduceLE, Int.reduceEq, Int.reduceAdd, Int.reduceSub, Int.reduceMul, Int.reduceNeg, Int.reduceToNat, eq_self, not_true_eq_false, not_false_eq_true, true_and, false_and, and_true, and_false, true_or, false_or, or_true, or_false, tn1]
  rw [if_neg (by omega), if_neg (by omega)]
theorem e_push8 (N : Nat) {n : Nat} (hn : n = 8) (x : Int64) (p : Nat → Int64) : fX3_push N x (zI n) p = some (zI n, p) := by
  unfold fX3_push
  subst hn
  simp (disch := omega) only [zl_m2000000000, zl_m99999, zl_m10000, zl_m21, zl_m9, zl_m5, zl_m2, zl_m1, zl_0, zl_1, zl_2, zl_3, zl_4, zl_5, zl_6, zl_7, zl_8, zl_9, zl_10, zl_11, zl_12, zl_13, zl_14, zl_15, zl_16, zl_17, zl_18, zl_19, zl_23, zl_24, zl_28, zl_29, zl_30, zl_31, zl_45, zl_48, zl_57, zl_58, zl_59, zl_60, zl_84, zl_100, zl_101, zl_102, zl_103, zl_104, zl_105, zl_106, zl_107, zl_108, zl_109, zl_110, zl_111, zl_112, zl_113, zl_114, zl_115, zl_116, zl_117, zl_118, zl_119, zl_120, zl_121, zl_153, zl_255, zl_306, zl_365, zl_400, zl_1000, zl_1460, zl_3600, zl_9999, zl_10000, zl_30000, zl_36524, zl_86399, zl_86400, zl_99999, zl_119999, zl_146096, zl_146097, zl_1000000, zl_3652058, zll_m1000000000, zll_m1000009, zll_m1000002, zll_m2, zll_m1, zll_0, zll_1, zll_86400, zll_2629746, zll_1000000000, nm, bd1_s, bd2_s, bd3_s, bd4_s, bd5_s, bd6_s, if01, gz_1, gz_0, gz_if, cz_lt, cz_le, cz_gt, cz_ge, cz_eq, zI_add, zI_sub, zI_mul, zI_neg, zL_add, zL_sub, zL_mul, zL_neg, zI_lt, zI_le, zI_eq, zL_lt, zL_le, zL_eq, zI_toL, zL_toI, zI_div, zL_div, zI_cl, gi_z, mod_fold, upd_s, upd_n, updL_s, updL_n, ↓reduceIte, Int.reduceLT, Int.reduceLE, Int.reduceEq, Int.reduceAdd, Int.reduceSub, Int.reduceMul, Int.reduceNeg, Int.reduceToNat, eq_self, not_true_eq_false, not_false_eq_true, true_and, false_and, and_true, and_false, true_or, false_or, or_true, or_false, Int.reduceLE, Int.cast_ofNat_Int]
theorem e_tell1 (N : Nat) (x : Int64) (l : Int32) (p : Nat → Int64) : fX3_tell N x l p = some (zI 1, vp_updL p 0 x) := by
  unfold fX3_tell fX3_begin
  rw [bd1_s, zl_0, show (zI 0 : Int32) = zI ((0 : Nat) : Int) from rfl, e_push N (by omega), bd2_s]
  rfl
theorem e_tell2 (N : Nat) (x y : Int64) (l : Int32) (p : Nat → Int64) : fX3_tell_ N x y l p = some (zI 2, vp_updL (vp_updL p 0 x) 1 y) := by
  unfold fX3_tell_
  rw [e_tell1, bd2_s, show (zI 1 : Int32) = zI ((1 : Nat) : Int) from rfl, e_push N (by omega), bd2_s]
  rfl
theorem e_tell3 (N : Nat) (x y z : Int64) (l : Int32) (p : Nat → Int64) : fX3_tell__ N x y z l p = some (zI 3, vp_updL (vp_updL (vp_updL p 0 x) 1 y) 2 z) := by
  unfold fX3_tell__
  rw [e_tell2, bd2_s, show (zI 2 : Int32) = zI ((2 : Nat) : Int) from rfl, e_push N (by omega), bd2_s]
  rfl
theorem RelR.mk1 {nn R : Nat → Int64} {i : Nat → Int32} (h : i 8 = zI 1) (x : Int64) : RelR (zI 1) (vp_updL nn 0 x) i (vp_updL R 0 x) := ⟨1, by omega, rfl, h, (Ag.zero nn R).up x⟩
theorem RelR.mk2 {nn R : Nat → Int64} {i : Nat → Int32} (h : i 8 = zI 2) (x y : Int64) : RelR (zI 2) (vp_updL (vp_updL nn 0 x) 1 y) i (vp_updL (vp_updL R 0 x) 1 y) := ⟨2, by omega, rfl, h, ((Ag.zero nn R).up x).up y⟩
theorem RelR.mk3 {nn R : Nat → Int64} {i : Nat → Int32} (h : i 8 = zI 3) (x y z : Int64) : RelR (zI 3) (vp_updL (vp_updL (vp_updL nn 0 x) 1 y) 2 z) i (vp_updL (vp_updL (vp_updL R 0 x) 1 y) 2 z) := ⟨3, by omega, rfl, h, (((Ag.zero nn R).up x).up y).up z⟩
theorem RelR.mk4 {nn R : Nat → Int64} {i : Nat → Int32} (h : i 8 = zI 4) (x y z w : Int64) : RelR (zI 4) (vp_updL (vp_updL (vp_updL (vp_updL nn 0 x) 1 y) 2 z) 3 w) i (vp_updL (vp_updL (vp_updL (vp_updL R 0 x) 1 y) 2 z) 3 w) := ⟨4, by omega, rfl, h, ((((Ag.zero nn R).up x).up y).up z).up w⟩
theorem RelR.mk5 {nn R : Nat → Int64} {i : Nat → Int32} (h : i 8 = zI 5) (x y z w u : Int64) : RelR (zI 5) (vp_updL (vp_updL (vp_updL (vp_updL (vp_updL nn 0 x) 1 y) 2 z) 3 w) 4 u) i (vp_updL (vp_updL (vp_updL (vp_updL (vp_updL R 0 x) 1 y) 2 z) 3 w) 4 u) := ⟨5, by omega, rfl, h, (((((Ag.zero nn R).up x).up y).up z).up w).up u⟩
def adT (a : Nat → Int32) (m d s law : Int) : Nat → Int32 := upd (upd (upd (upd (upd a 0 (zI m)) 1 (zI d)) 2 (zI s)) 3 (zI law)) 5 (zI 0)
theorem AdW.adT {a : Nat → Int32} (h : AdW a) (m d s law : Int) : AdOK m d s law (adT a m d s law) := h.takes m d s law
theorem e_takesN (N : Nat) (a : Nat → Int32) (m d s law : Int) : fX0_takesNumbers N (zI m) (zI d) (zI s) (zI law) a = some (adT a m d s law) := by
  unfold fX0_takesNumbers adT
  simp (disch := omega) only [zl_m2000000000, zl_m99999, zl_m10000, zl_m21, zl_m9, zl_m5, zl_m2, zl_m1, zl_0, zl_1, zl_2, zl_3, zl_4, zl_5, zl_6, zl_7, zl_8, zl_9, zl_10, zl_11, zl_12, zl_13, zl_14, zl_15, zl_16, zl_17, zl_18, zl_19, zl_23, zl_24, zl_28, zl_29, zl_30, zl_31, zl_45, zl_48, zl_57, zl_58, zl_59, zl_60, zl_84, zl_100, zl_101, zl_102, zl_103, zl_104, zl_105, zl_106, zl_107, zl_108, zl_109, zl_110, zl_111, zl_112, zl_113, zl_114, zl_115, zl_116, zl_117, zl_118, zl_119, zl_120, zl_121, zl_153, zl_255, zl_306, zl_365, zl_400, zl_1000, zl_1460, zl_3600, zl_9999, zl_10000, zl_30000, zl_36524, zl_86399, zl_86400, zl_99999, zl_119999, zl_146096, zl_146097, zl_1000000, zl_3652058, zll_m1000000000, zll_m1000009, zll_m1000002, zll_m2, zll_m1, zll_0, zll_1, zll_86400, zll_2629746, zll_1000000000, nm, bd1_s, bd2_s, bd3_s, bd4_s, bd5_s, bd6_s, if01, gz_1, gz_0, gz_if, cz_lt, cz_le, cz_gt, cz_ge, cz_eq, zI_add, zI_sub, zI_mul, zI_neg, zL_add, zL_sub, zL_mul, zL_neg, zI_lt, zI_le, zI_eq, zL_lt, zL_le, zL_eq, zI_toL, zL_toI, zI_div, zL_div, zI_cl, gi_z, mod_fold, upd_s, upd_n, updL_s, updL_n, ↓reduceIte, Int.reduceLT, Int.reduceLE, Int.reduceEq, Int.reduceAdd, Int.reduceSub, Int.reduceMul, Int.reduceNeg, Int.reduceToNat, eq_self, not_true_eq_false, not_false_eq_true, true_and, false_and, and_true, and_false, true_or, false_or, or_true, or_false]
theorem e_takes1 (N : Nat) (a f g e : Nat → Int32) {k : Nat} {m d s t law : Int} (h : k < 8) (hf : f k = zI m) (hg : g k = zI d) (he : e k = zI s) (hb : sp_b3 m d s) (ht : -10000 ≤ t ∧ t ≤ 10000) (hc : sp_b3 (m * t) (d * t) (s * t)) : fX0_takes N (zI k) (zI t) (zI law) a f g e = some (zI 1, adT a (m * t) (d * t) (s * t) law) := by
  rw [e_takes N a f g e h hf hg he hb ht, if_pos hc]
  rfl
theorem e_takes0 (N : Nat) (a f g e : Nat → Int32) {k : Nat} {m d s t law : Int} (h : k < 8) (hf : f k = zI m) (hg : g k = zI d) (he : e k = zI s) (hb : sp_b3 m d s) (ht : -10000 ≤ t ∧ t ≤ 10000) (hc : ¬ sp_b3 (m * t) (d * t) (s * t)) : fX0_takes N (zI k) (zI t) (zI law) a f g e = some (zI 0, a) := by
  rw [e_takes N a f g e h hf hg he hb ht, if_neg hc]
theorem e_takesO (N : Nat) (a f g e : Nat → Int32) {k : Nat} {m d s law : Int} (h : k < 8) (hf : f k = zI m) (hg : g k = zI d) (he : e k = zI s) (hb : sp_b3 m d s) : fX0_takes N (zI k) (1 : Int32) (zI law) a f g e = some (zI 1, adT a m d s law) := by
  have q := e_takes1 N a f g e (t := 1) (law := law) h hf hg he hb (by omega) (by rw [Int.mul_one, Int.mul_one, Int.mul_one]; exact hb)
  rw [Int.mul_one, Int.mul_one, Int.mul_one] at q
  exact q
theorem i_lt {a b : Int} {B : Int32} (e : B = zI b) (h : -2147483648 ≤ a ∧ a ≤ 2147483647 ∧ -2147483648 ≤ b ∧ b ≤ 2147483647 ∧ a < b) : zI a < B := by
  subst e; rw [zI_lt (by omega) (by omega) (by omega) (by omega)]; omega
theorem i_nlt {a b : Int} {B : Int32} (e : B = zI b) (h : -2147483648 ≤ a ∧ a ≤ 2147483647 ∧ -2147483648 ≤ b ∧ b ≤ 2147483647 ∧ b ≤ a) : ¬ (zI a < B) := by
  subst e; rw [zI_lt (by omega) (by omega) (by omega) (by omega)]; omega
theorem i_le {a b : Int} {B : Int32} (e : B = zI b) (h : -2147483648 ≤ a ∧ a ≤ 2147483647 ∧ -2147483648 ≤ b ∧ b ≤ 2147483647 ∧ a ≤ b) : zI a ≤ B := by
  subst e; rw [zI_le (by omega) (by omega) (by omega) (by omega)]; omega
theorem i_nle {a b : Int} {B : Int32} (e : B = zI b) (h : -2147483648 ≤ a ∧ a ≤ 2147483647 ∧ -2147483648 ≤ b ∧ b ≤ 2147483647 ∧ b < a) : ¬ (zI a ≤ B) := by
  subst e; rw [zI_le (by omega) (by omega) (by omega) (by omega)]; omega
theorem i_gt {a b : Int} {B : Int32} (e : B = zI b) (h : -2147483648 ≤ a ∧ a ≤ 2147483647 ∧ -2147483648 ≤ b ∧ b ≤ 2147483647 ∧ b < a) : B < zI a := by
  subst e; rw [zI_lt (by omega) (by omega) (by omega) (by omega)]; omega
theorem i_ngt {a b : Int} {B : Int32} (e : B = zI b) (h : -2147483648 ≤ a ∧ a ≤ 2147483647 ∧ -2147483648 ≤ b ∧ b ≤ 2147483647 ∧ a ≤ b) : ¬ (B < zI a) := by
  subst e; rw [zI_lt (by omega) (by omega) (by omega) (by omega)]; omega
theorem i_eq {a b : Int} {B : Int32} (e : B = zI b) (h : a = b) : zI a = B := by
  subst e; rw [h]
theorem i_neq {a b : Int} {B : Int32} (e : B = zI b) (h : -2147483648 ≤ a ∧ a ≤ 2147483647 ∧ -2147483648 ≤ b ∧ b ≤ 2147483647 ∧ a ≠ b) : ¬ (zI a = B) := by
  subst e; rw [zI_eq (by omega) (by omega) (by omega) (by omega)]; omega
theorem c_day1 (N : Nat) {z : Int} (h : 0 ≤ z ∧ z ≤ 3652058) : fX9_isDay N (zI z) = some (zI 1) := by rw [e_isDay N (by omega) (by omega), if_pos h]
theorem c_day0 (N : Nat) {z : Int} (h1 : -2147483648 ≤ z) (h2 : z ≤ 2147483647) (h : ¬ (0 ≤ z ∧ z ≤ 3652058)) : fX9_isDay N (zI z) = some (zI 0) := by rw [e_isDay N h1 h2, if_neg h]
theorem c_wd1 (N : Nat) {z : Int} (h : 0 ≤ z ∧ z ≤ 6) : fX9_isWeekday N (zI z) = some (zI 1) := by rw [e_isWeekday N (by omega) (by omega), if_pos h]
theorem c_wd0 (N : Nat) {z : Int} (h1 : -2147483648 ≤ z) (h2 : z ≤ 2147483647) (h : ¬ (0 ≤ z ∧ z ≤ 6)) : fX9_isWeekday N (zI z) = some (zI 0) := by rw [e_isWeekday N h1 h2, if_neg h]

