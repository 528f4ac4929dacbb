/-! numbers: ints and longs as whole numbers -/
def zI (z : Int) : Int32 := Int32.ofInt z
def zL (z : Int) : Int64 := Int64.ofInt z
theorem zI_of (x : Int32) : ∃ z : Int, -2147483648 ≤ z ∧ z ≤ 2147483647 ∧ x = zI z := by
  refine ⟨x.toInt, ?_, ?_, (Int32.ofInt_toInt x).symm⟩
  · have := Int32.le_toInt x; omega
  · have := Int32.toInt_lt x; omega
theorem zL_of (x : Int64) : ∃ z : Int, -9223372036854775808 ≤ z ∧ z ≤ 9223372036854775807 ∧ x = zL z := by
  refine ⟨x.toInt, ?_, ?_, (Int64.ofInt_toInt x).symm⟩
  · have := Int64.le_toInt x; omega
  · have := Int64.toInt_lt x; omega
theorem zI_int {z : Int} (h1 : -2147483648 ≤ z) (h2 : z ≤ 2147483647) : (zI z).toInt = z := Int32.toInt_ofInt_of_le (by omega) (by omega)
theorem zL_int {z : Int} (h1 : -9223372036854775808 ≤ z) (h2 : z ≤ 9223372036854775807) : (zL z).toInt = z := Int64.toInt_ofInt_of_le (by omega) (by omega)
theorem zI_add (a b : Int) : zI a + zI b = zI (a + b) := (Int32.ofInt_add a b).symm
theorem zI_sub (a b : Int) : zI a - zI b = zI (a - b) := (Int32.ofInt_sub a b).symm
theorem zI_mul (a b : Int) : zI a * zI b = zI (a * b) := (Int32.ofInt_mul a b).symm
theorem zI_neg (a : Int) : -zI a = zI (-a) := (Int32.ofInt_neg a).symm
theorem zL_add (a b : Int) : zL a + zL b = zL (a + b) := (Int64.ofInt_add a b).symm
theorem zL_sub (a b : Int) : zL a - zL b = zL (a - b) := (Int64.ofInt_sub a b).symm
theorem zL_mul (a b : Int) : zL a * zL b = zL (a * b) := (Int64.ofInt_mul a b).symm
theorem zL_neg (a : Int) : -zL a = zL (-a) := (Int64.ofInt_neg a).symm
theorem zI_lt {a b : Int} (h1 : -2147483648 ≤ a) (h2 : a ≤ 2147483647) (h3 : -2147483648 ≤ b) (h4 : b ≤ 2147483647) : (zI a < zI b) = (a < b) := by
  rw [Int32.lt_iff_toInt_lt, zI_int h1 h2, zI_int h3 h4]
theorem zI_le {a b : Int} (h1 : -2147483648 ≤ a) (h2 : a ≤ 2147483647) (h3 : -2147483648 ≤ b) (h4 : b ≤ 2147483647) : (zI a ≤ zI b) = (a ≤ b) := by
  rw [Int32.le_iff_toInt_le, zI_int h1 h2, zI_int h3 h4]
theorem zI_eq {a b : Int} (h1 : -2147483648 ≤ a) (h2 : a ≤ 2147483647) (h3 : -2147483648 ≤ b) (h4 : b ≤ 2147483647) : (zI a = zI b) = (a = b) := by
  rw [← Int32.toInt_inj, zI_int h1 h2, zI_int h3 h4]
theorem zL_lt {a b : Int} (h1 : -9223372036854775808 ≤ a) (h2 : a ≤ 9223372036854775807) (h3 : -9223372036854775808 ≤ b) (h4 : b ≤ 9223372036854775807) : (zL a < zL b) = (a < b) := by
  rw [Int64.lt_iff_toInt_lt, zL_int h1 h2, zL_int h3 h4]
theorem zL_le {a b : Int} (h1 : -9223372036854775808 ≤ a) (h2 : a ≤ 9223372036854775807) (h3 : -9223372036854775808 ≤ b) (h4 : b ≤ 9223372036854775807) : (zL a ≤ zL b) = (a ≤ b) := by
  rw [Int64.le_iff_toInt_le, zL_int h1 h2, zL_int h3 h4]
theorem zL_eq {a b : Int} (h1 : -9223372036854775808 ≤ a) (h2 : a ≤ 9223372036854775807) (h3 : -9223372036854775808 ≤ b) (h4 : b ≤ 9223372036854775807) : (zL a = zL b) = (a = b) := by
  rw [← Int64.toInt_inj, zL_int h1 h2, zL_int h3 h4]
theorem zI_toL {a : Int} (h1 : -2147483648 ≤ a) (h2 : a ≤ 2147483647) : (zI a).toInt64 = zL a := Int32.toInt64_ofInt h1 h2
theorem zL_toI (a : Int) : (zL a).toInt32 = zI a := Int64.toInt32_ofInt
theorem zI_tdiv {a b : Int} (h1 : -2147483648 ≤ a) (h2 : a ≤ 2147483647) (h3 : 0 < b) (h4 : b ≤ 2147483647) : zI a / zI b = zI (a.tdiv b) :=
  (Int32.ofInt_tdiv h1 h2 (by show (-2147483648 : Int) ≤ b; omega) h4).symm
theorem zL_tdiv {a b : Int} (h1 : -9223372036854775808 ≤ a) (h2 : a ≤ 9223372036854775807) (h3 : 0 < b) (h4 : b ≤ 9223372036854775807) : zL a / zL b = zL (a.tdiv b) :=
  (Int64.ofInt_tdiv h1 h2 (by show (-9223372036854775808 : Int) ≤ b; omega) h4).symm
theorem tdiv_pos {a b : Int} (h : 0 ≤ a) : a.tdiv b = a / b := Int.tdiv_eq_ediv_of_nonneg h
theorem tdiv_neg {a b : Int} (h : a ≤ 0) : a.tdiv b = -((-a) / b) := by
  have h1 : (-(-a)).tdiv b = -((-a).tdiv b) := Int.neg_tdiv ..
  rw [Int.neg_neg] at h1
  rw [h1, tdiv_pos (by omega)]
theorem zI_div {a b : Int} (h1 : 0 ≤ a) (h2 : a ≤ 2147483647) (h3 : 0 < b) (h4 : b ≤ 2147483647) : zI a / zI b = zI (a / b) := by
  rw [zI_tdiv (by omega) h2 h3 h4, tdiv_pos h1]
theorem zL_div {a b : Int} (h1 : 0 ≤ a) (h2 : a ≤ 9223372036854775807) (h3 : 0 < b) (h4 : b ≤ 9223372036854775807) : zL a / zL b = zL (a / b) := by
  rw [zL_tdiv (by omega) h2 h3 h4, tdiv_pos h1]
/-- lcmp, and what is asked of it -/
theorem cmp_lt (x y : Int64) : (lg_cmp x y < (0 : Int32)) = (x < y) := by
  unfold lg_cmp
  rw [Int64.lt_iff_toInt_lt]
  by_cases h1 : y < x
  · rw [if_pos h1]; rw [Int64.lt_iff_toInt_lt] at h1; apply propext; constructor
    · intro h; exact absurd h (by decide)
    · intro h; omega
  · rw [if_neg h1]; rw [Int64.lt_iff_toInt_lt] at h1
    by_cases h2 : x = y
    · rw [if_pos h2]; subst h2; apply propext; constructor
      · intro h; exact absurd h (by decide)
      · intro h; omega
    · rw [if_neg h2]; rw [← Int64.toInt_inj] at h2; apply propext; constructor
      · intro h; omega
      · intro h; decide
theorem cmp_le (x y : Int64) : (lg_cmp x y ≤ (0 : Int32)) = (x ≤ y) := by
  unfold lg_cmp
  rw [Int64.le_iff_toInt_le]
  by_cases h1 : y < x
  · rw [if_pos h1]; rw [Int64.lt_iff_toInt_lt] at h1; apply propext; constructor
    · intro h; exact absurd h (by decide)
    · intro h; omega
  · rw [if_neg h1]; rw [Int64.lt_iff_toInt_lt] at h1
    by_cases h2 : x = y
    · rw [if_pos h2]; subst h2; apply propext; constructor
      · intro h; omega
      · intro h; decide
    · rw [if_neg h2]; apply propext; constructor
      · intro h; omega
      · intro h; decide
theorem cmp_gt (x y : Int64) : ((0 : Int32) < lg_cmp x y) = (y < x) := by
  have h := cmp_le x y
  have e1 : ((0 : Int32) < lg_cmp x y) = ¬ (lg_cmp x y ≤ (0 : Int32)) := by
    rw [Int32.lt_iff_toInt_lt, Int32.le_iff_toInt_le]; apply propext; constructor <;> intro h <;> omega
  rw [e1, h, Int64.lt_iff_toInt_lt, Int64.le_iff_toInt_le]; apply propext; constructor <;> intro h <;> omega
theorem cmp_ge (x y : Int64) : ((0 : Int32) ≤ lg_cmp x y) = (y ≤ x) := by
  have h := cmp_lt x y
  have e1 : ((0 : Int32) ≤ lg_cmp x y) = ¬ (lg_cmp x y < (0 : Int32)) := by
    rw [Int32.lt_iff_toInt_lt, Int32.le_iff_toInt_le]; apply propext; constructor <;> intro h <;> omega
  rw [e1, h, Int64.lt_iff_toInt_lt, Int64.le_iff_toInt_le]; apply propext; constructor <;> intro h <;> omega
theorem cmp_eq (x y : Int64) : (lg_cmp x y = (0 : Int32)) = (x = y) := by
  have h1 := cmp_lt x y
  have h2 := cmp_gt x y
  have e1 : (lg_cmp x y = (0 : Int32)) = (¬ (lg_cmp x y < (0 : Int32)) ∧ ¬ ((0 : Int32) < lg_cmp x y)) := by
    rw [← Int32.toInt_inj, Int32.lt_iff_toInt_lt, Int32.lt_iff_toInt_lt]
    have : (0 : Int32).toInt = 0 := by decide
    apply propext; constructor <;> intro h <;> omega
  rw [e1, h1, h2, ← Int64.toInt_inj, Int64.lt_iff_toInt_lt, Int64.lt_iff_toInt_lt]; apply propext; constructor <;> intro h <;> omega
/-- places of arrays -/
theorem zI_cl {k : Int} (h1 : 0 ≤ k) (h2 : k ≤ 2147483647) : (zI k).toNatClampNeg = k.toNat := by
  rw [← Int32.toNat_toInt, zI_int (by omega) h2]
theorem gi_z {β : Type} {k : Int} {n : Nat} {x : Option β} (h1 : 0 ≤ k) (h2 : k < n) (h3 : k ≤ 2147483647) : gi (zI k) n x = x := by
  unfold gi
  rw [if_neg]
  rintro (h | h)
  · rw [show (0 : Int32) = zI 0 by decide, zI_lt (by omega) h3 (by omega) (by omega)] at h; omega
  · rw [zI_cl h1 h3] at h; omega
theorem gz_1 {β : Type} {x : Option β} : gz (zI 1) x = x := by unfold gz; rw [if_pos (Or.inr (by decide))]
theorem gz_0 {β : Type} {x : Option β} : gz (zI 0) x = x := by unfold gz; rw [if_pos (Or.inl (by decide))]
theorem gz_if {β : Type} {x : Option β} {p : Prop} [Decidable p] : gz (if p then zI 1 else zI 0) x = x := by split; exact gz_1; exact gz_0
theorem nm_s {α β : Type} {x : α} {k : α → β} : nm x k = k x := rfl
theorem bd1_s {a ρ : Type} {x : a} {k : a → Option ρ} : bd1 (some x) k = k x := rfl
theorem bd2_s {a b ρ : Type} {x : a} {y : b} {k : a → b → Option ρ} : bd2 (some (x, y)) k = k x y := rfl
theorem bd3_s {a b c ρ : Type} {x : a} {y : b} {z : c} {k : a → b → c → Option ρ} : bd3 (some (x, y, z)) k = k x y z := rfl
theorem bd4_s {a b c d ρ : Type} {x : a} {y : b} {z : c} {w : d} {k : a → b → c → d → Option ρ} : bd4 (some (x, y, z, w)) k = k x y z w := rfl
theorem bd5_s {a b c d e ρ : Type} {x : a} {y : b} {z : c} {w : d} {u : e} {k : a → b → c → d → e → Option ρ} : bd5 (some (x, y, z, w, u)) k = k x y z w u := rfl
theorem bd6_s {a b c d e f ρ : Type} {x : a} {y : b} {z : c} {w : d} {u : e} {v : f} {k : a → b → c → d → e → f → Option ρ} : bd6 (some (x, y, z, w, u, v)) k = k x y z w u v := rfl
theorem upd_s {f : Nat → Int32} {k : Nat} {x : Int32} : upd f k x k = x := if_pos rfl
theorem upd_n {f : Nat → Int32} {k j : Nat} {x : Int32} (h : j ≠ k) : upd f k x j = f j := if_neg h
theorem upd_u {f : Nat → Int32} {k : Nat} {x y : Int32} : upd (upd f k x) k y = upd f k y := by
  funext j; unfold upd; split <;> rfl
theorem updL_s {f : Nat → Int64} {k : Nat} {x : Int64} : vp_updL f k x k = x := if_pos rfl
theorem updL_n {f : Nat → Int64} {k j : Nat} {x : Int64} (h : j ≠ k) : vp_updL f k x j = f j := if_neg h
theorem mod_fold (a b : Int) : a - a / b * b = a % b := by rw [Int.emod_def, Int.mul_comm b]
theorem upd_same {f : Nat → Int32} {k : Nat} {v : Int32} (h : f k = v) : upd f k v = f := by
  funext j; unfold upd; split
  · rename_i e; rw [e, h]
  · rfl
theorem upd_comm {f : Nat → Int32} {k k2 : Nat} {v v2 : Int32} (h : k ≠ k2) : upd (upd f k v) k2 v2 = upd (upd f k2 v2) k v := by
  funext j; unfold upd; split
  · rename_i e; split
    · rename_i e2; omega
    · rfl
  · rfl
theorem if01 {p : Prop} [Decidable p] : ((if p then zI 1 else zI 0) = zI 0) = ¬ p := by
  by_cases h : p
  · rw [if_pos h, zI_eq (by omega) (by omega) (by omega) (by omega)]; simp [h]
  · rw [if_neg h]; simp [h]
theorem zl_m2000000000 : (-2000000000 : Int32) = zI (-2000000000) := by decide
theorem zl_m99999 : (-99999 : Int32) = zI (-99999) := by decide
theorem zl_m10000 : (-10000 : Int32) = zI (-10000) := by decide
theorem zl_m21 : (-21 : Int32) = zI (-21) := by decide
theorem zl_m9 : (-9 : Int32) = zI (-9) := by decide
theorem zl_m5 : (-5 : Int32) = zI (-5) := by decide
theorem zl_m2 : (-2 : Int32) = zI (-2) := by decide
theorem zl_m1 : (-1 : Int32) = zI (-1) := by decide
theorem zl_0 : (0 : Int32) = zI (0) := by decide
theorem zl_1 : (1 : Int32) = zI (1) := by decide
theorem zl_2 : (2 : Int32) = zI (2) := by decide
theorem zl_3 : (3 : Int32) = zI (3) := by decide
theorem zl_4 : (4 : Int32) = zI (4) := by decide
theorem zl_5 : (5 : Int32) = zI (5) := by decide
theorem zl_6 : (6 : Int32) = zI (6) := by decide
theorem zl_7 : (7 : Int32) = zI (7) := by decide
theorem zl_8 : (8 : Int32) = zI (8) := by decide
theorem zl_9 : (9 : Int32) = zI (9) := by decide
theorem zl_10 : (10 : Int32) = zI (10) := by decide
theorem zl_11 : (11 : Int32) = zI (11) := by decide
theorem zl_12 : (12 : Int32) = zI (12) := by decide
theorem zl_13 : (13 : Int32) = zI (13) := by decide
theorem zl_14 : (14 : Int32) = zI (14) := by decide
theorem zl_15 : (15 : Int32) = zI (15) := by decide
theorem zl_16 : (16 : Int32) = zI (16) := by decide
theorem zl_17 : (17 : Int32) = zI (17) := by decide
theorem zl_18 : (18 : Int32) = zI (18) := by decide
theorem zl_19 : (19 : Int32) = zI (19) := by decide
theorem zl_23 : (23 : Int32) = zI (23) := by decide
theorem zl_24 : (24 : Int32) = zI (24) := by decide
theorem zl_28 : (28 : Int32) = zI (28) := by decide
theorem zl_29 : (29 : Int32) = zI (29) := by decide
theorem zl_30 : (30 : Int32) = zI (30) := by decide
theorem zl_31 : (31 : Int32) = zI (31) := by decide
theorem zl_45 : (45 : Int32) = zI (45) := by decide
theorem zl_48 : (48 : Int32) = zI (48) := by decide
theorem zl_57 : (57 : Int32) = zI (57) := by decide
theorem zl_58 : (58 : Int32) = zI (58) := by decide
theorem zl_59 : (59 : Int32) = zI (59) := by decide
theorem zl_60 : (60 : Int32) = zI (60) := by decide
theorem zl_84 : (84 : Int32) = zI (84) := by decide
theorem zl_100 : (100 : Int32) = zI (100) := by decide
theorem zl_101 : (101 : Int32) = zI (101) := by decide
theorem zl_102 : (102 : Int32) = zI (102) := by decide
theorem zl_103 : (103 : Int32) = zI (103) := by decide
theorem zl_104 : (104 : Int32) = zI (104) := by decide
theorem zl_105 : (105 : Int32) = zI (105) := by decide
theorem zl_106 : (106 : Int32) = zI (106) := by decide
theorem zl_107 : (107 : Int32) = zI (107) := by decide
theorem zl_108 : (108 : Int32) = zI (108) := by decide
theorem zl_109 : (109 : Int32) = zI (109) := by decide
theorem zl_110 : (110 : Int32) = zI (110) := by decide
theorem zl_111 : (111 : Int32) = zI (111) := by decide
theorem zl_112 : (112 : Int32) = zI (112) := by decide
theorem zl_113 : (113 : Int32) = zI (113) := by decide
theorem zl_114 : (114 : Int32) = zI (114) := by decide
theorem zl_115 : (115 : Int32) = zI (115) := by decide
theorem zl_116 : (116 : Int32) = zI (116) := by decide
theorem zl_117 : (117 : Int32) = zI (117) := by decide
theorem zl_118 : (118 : Int32) = zI (118) := by decide
theorem zl_119 : (119 : Int32) = zI (119) := by decide
theorem zl_120 : (120 : Int32) = zI (120) := by decide
theorem zl_121 : (121 : Int32) = zI (121) := by decide
theorem zl_153 : (153 : Int32) = zI (153) := by decide
theorem zl_255 : (255 : Int32) = zI (255) := by decide
theorem zl_306 : (306 : Int32) = zI (306) := by decide
theorem zl_365 : (365 : Int32) = zI (365) := by decide
theorem zl_400 : (400 : Int32) = zI (400) := by decide
theorem zl_1000 : (1000 : Int32) = zI (1000) := by decide
theorem zl_1460 : (1460 : Int32) = zI (1460) := by decide
theorem zl_3600 : (3600 : Int32) = zI (3600) := by decide
theorem zl_9999 : (9999 : Int32) = zI (9999) := by decide
theorem zl_10000 : (10000 : Int32) = zI (10000) := by decide
theorem zl_30000 : (30000 : Int32) = zI (30000) := by decide
theorem zl_36524 : (36524 : Int32) = zI (36524) := by decide
theorem zl_86399 : (86399 : Int32) = zI (86399) := by decide
theorem zl_86400 : (86400 : Int32) = zI (86400) := by decide
theorem zl_99999 : (99999 : Int32) = zI (99999) := by decide
theorem zl_119999 : (119999 : Int32) = zI (119999) := by decide
theorem zl_146096 : (146096 : Int32) = zI (146096) := by decide
theorem zl_146097 : (146097 : Int32) = zI (146097) := by decide
theorem zl_1000000 : (1000000 : Int32) = zI (1000000) := by decide
theorem zl_3652058 : (3652058 : Int32) = zI (3652058) := by decide
theorem zll_m1000000000 : (-1000000000 : Int64) = zL (-1000000000) := by decide
theorem zll_m1000009 : (-1000009 : Int64) = zL (-1000009) := by decide
theorem zll_m1000002 : (-1000002 : Int64) = zL (-1000002) := by decide
theorem zll_m2 : (-2 : Int64) = zL (-2) := by decide
theorem zll_m1 : (-1 : Int64) = zL (-1) := by decide
theorem zll_0 : (0 : Int64) = zL (0) := by decide
theorem zll_1 : (1 : Int64) = zL (1) := by decide
theorem zll_86400 : (86400 : Int64) = zL (86400) := by decide
theorem zll_2629746 : (2629746 : Int64) = zL (2629746) := by decide
theorem zll_1000000000 : (1000000000 : Int64) = zL (1000000000) := by decide
theorem cz_lt (x y : Int64) : (lg_cmp x y < zI 0) = (x < y) := by rw [← zl_0]; exact cmp_lt x y
theorem cz_le (x y : Int64) : (lg_cmp x y ≤ zI 0) = (x ≤ y) := by rw [← zl_0]; exact cmp_le x y
theorem cz_eq (x y : Int64) : (lg_cmp x y = zI 0) = (x = y) := by rw [← zl_0]; exact cmp_eq x y
theorem cz_gt (x y : Int64) : (zI 0 < lg_cmp x y) = (y < x) := by rw [← zl_0]; exact cmp_gt x y
theorem cz_ge (x y : Int64) : (zI 0 ≤ lg_cmp x y) = (y ≤ x) := by rw [← zl_0]; exact cmp_ge x y
