/-! lengths as doubles: exact -/
def sp_len (m d s : Int) : Int := 2629746 * m + 86400 * d + s
theorem len_b {m d s : Int} (h : sp_b3 m d s) : -2716146000000000 - 1000000000 ≤ sp_len m d s ∧ sp_len m d s ≤ 2716146000000000 + 1000000000 := by
  obtain ⟨h1, h2, h3⟩ := h
  unfold sp_len
  omega
theorem x_small {z : Int} (h : -9007199254740000 ≤ z ∧ z ≤ 9007199254740000) : FP.Core.Small53 (zL z) := by
  unfold FP.Core.Small53
  rw [zL_int (by omega) (by omega)]
  omega
theorem x_mul {a b : Int} (ha : 0 < a ∧ a ≤ 3000000) (hb : -1000000000 ≤ b ∧ b ≤ 1000000000) : FP.dmul (FP.l2d (zL a)) (FP.l2d (zL b)) = FP.l2d (zL (a * b)) := by
  have sa := x_small (z := a) (by omega)
  have sb := x_small (z := b) (by omega)
  have ea : (zL a).toInt = a := zL_int (by omega) (by omega)
  have eb : (zL b).toInt = b := zL_int (by omega) (by omega)
  by_cases h : b = 0
  · subst h
    have q := FP.Core.dmul_l2d_zero sa sb (Or.inr rfl)
    rw [ea, eb, decide_eq_false (show ¬ (a < 0) by omega)] at q
    rw [Int.mul_zero]
    exact q
  · have hp1 : -3000000000000000 ≤ a * b := by
      have : -(a * 1000000000) ≤ a * b := by
        have := Int.mul_le_mul_of_nonneg_left hb.1 (show 0 ≤ a by omega)
        rw [Int.mul_neg] at this
        exact this
      omega
    have hp2 : a * b ≤ 3000000000000000 := by
      have := Int.mul_le_mul_of_nonneg_left hb.2 (show 0 ≤ a by omega)
      omega
    have q := FP.Core.dmul_l2d sa sb (fun e => by have := congrArg Int64.toInt e; rw [ea] at this; exact absurd this (by show ¬ a = 0; omega)) (fun e => by have := congrArg Int64.toInt e; rw [eb] at this; exact absurd this h) (by rw [ea, eb]; omega) (by rw [ea, eb]; omega)
    rw [zL_mul] at q
    exact q
theorem x_add {a b : Int} (ha : -9007199254740000 ≤ a ∧ a ≤ 9007199254740000) (hb : -9007199254740000 ≤ b ∧ b ≤ 9007199254740000) : FP.dadd (FP.l2d (zL a)) (FP.l2d (zL b)) = FP.l2d (zL (a + b)) := by
  have q := FP.Core.dadd_l2d (x_small ha) (x_small hb)
  rw [zL_add] at q
  exact q
theorem x_i2d {z : Int} (h1 : -2147483648 ≤ z) (h2 : z ≤ 2147483647) : FP.i2d (zI z) = FP.l2d (zL z) := by
  have q := FP.Core.i2d_l2d (zI z)
  rw [zI_toL h1 h2] at q
  exact q
theorem g64_fin {β : Type} {v : UInt64} {x : Option β} (h : FP.Core.DFin v) : g64 v x = x := by
  unfold g64
  have h1 := (FP.Core.fin_bits v).mp h
  rw [if_pos]
  refine UInt64.le_iff_toNat_le.mpr ?_
  rw [FP.Core.mask_toNat]
  show v.toNat % 2 ^ 63 ≤ 9218868437227405312
  omega
theorem g64_l2d {β : Type} (a : Int64) {x : Option β} : g64 (FP.l2d a) x = x := g64_fin (FP.Core.l2d_fin a)
theorem x_c1 : (4702901747880820736 : UInt64) = FP.l2d (zL 2629746) := by decide +kernel
theorem x_c2 : (4680673776000565248 : UInt64) = FP.l2d (zL 86400) := by decide +kernel
theorem e_lenM (N : Nat) {k : Nat} (hk : k < 8) {S : Nat → Int32} {m d s : Int} (h0 : S (3 * k) = zI m) (h1 : S (3 * k + 1) = zI d) (h2 : S (3 * k + 2) = zI s) (hb : sp_b3 m d s) (i : Nat → Int32) (j : Nat → Int64) : fX10_lengthOf N (zI (k : Int)) i j S = some (FP.l2d (zL (sp_len m d s))) := by
  obtain ⟨b1, b2, b3⟩ := hb
  have c3 : (3 : Int32) * zI (k : Int) = zI (3 * k) := by rw [zl_3, zI_mul]
  have c31 : zI (3 * (k : Int)) + (1 : Int32) = zI (3 * k + 1) := by rw [zl_1, zI_add]
  have c32 : zI (3 * (k : Int)) + (2 : Int32) = zI (3 * k + 2) := by rw [zl_2, zI_add]
  unfold fX10_lengthOf
  rw [c3, c31, c32, gi_z (by omega) (by omega) (by omega), gi_z (by omega) (by omega) (by omega), gi_z (by omega) (by omega) (by omega), zI_cl (by omega) (by omega), zI_cl (by omega) (by omega), zI_cl (by omega) (by omega), tn3, tn31, tn32, h0, h1, h2, x_i2d (by omega) (by omega), x_i2d (by omega) (by omega), x_i2d (by omega) (by omega), x_c1, x_c2, x_mul (by omega) (by omega), x_mul (by omega) (by omega), x_add (by omega) (by omega), x_add (by omega) (by omega), g64_l2d, g64_l2d, g64_l2d, g64_l2d]
  rfl
theorem e_lenC (N : Nat) {k : Nat} (hk : k < 8) {ks : Int32} {a b c : Nat → Int32} {m d s : Int} (h0 : a k = zI m) (h1 : b k = zI d) (h2 : c k = zI s) (hb : sp_b3 m d s) : fX9_lengthOf N (zI (k : Int)) ks a b c = some (zL (sp_len m d s)) := by
  obtain ⟨b1, b2, b3⟩ := hb
  unfold fX9_lengthOf
  rw [e_monthsAt N a hk, bd1_s, e_daysAt N b hk, bd1_s, e_secondsAt N c hk, bd1_s, h0, h1, h2, zI_toL (by omega) (by omega), zI_toL (by omega) (by omega), zI_toL (by omega) (by omega), show (2629746 : Int64) = zL 2629746 by decide, show (86400 : Int64) = zL 86400 by decide, zL_mul, zL_mul, zL_add, zL_add]
  rfl
theorem x_cmp {a b : Int} (ha : -9007199254740000 ≤ a ∧ a ≤ 9007199254740000) (hb : -9007199254740000 ≤ b ∧ b ≤ 9007199254740000) : FP.dcmp (FP.l2d (zL a)) (FP.l2d (zL b)) = some (if a < b then .lt else if a = b then .eq else .gt) := by
  have q := FP.Core.dcmp_l2d (x_small ha) (x_small hb)
  rw [zL_int (by omega) (by omega), zL_int (by omega) (by omega)] at q
  exact q
theorem p_ranks (N : Nat) (hN : 200000 ≤ N)  {ks : Int32} {f : Nat → Int32} {g : Nat → Int32} {a : Nat → Int32} {b : Nat → Int32} {c : Nat → Int32} {tl : Int32} {nn : Nat → Int64} {i : Nat → Int32} {j : Nat → Int64} {S : Nat → Int32} {R : Nat → Int64} {F : Nat → Int32} {G : Nat → Int32} {dd ss mm da se : Nat → Int} (hM : RelM dd ss f g F G) (hS : RelS mm da se a b c S) (hR : RelR tl nn i R) : 
    ∃ (r : Int32) (tl' : Int32) (nn' : Nat → Int64) (i' : Nat → Int32) (R' : Nat → Int64), fX9_ranks N ks f g a b c tl nn = some (r, tl', nn') ∧ fX10_ranks N i j S R = some (r, i', R') ∧ RelR tl' nn' i' R' ∧ i' 4 = i 4 ∧ i' 6 = i 6 := by
  have hlb : ∀ y, y < 8 → -2716146000000000 - 1000000000 ≤ sp_len (mm y) (da y) (se y) ∧ sp_len (mm y) (da y) (se y) ≤ 2716146000000000 + 1000000000 := fun y hy => len_b (hS y hy).2.2.2.2.2.2
  have hb : ∀ y, y < 8 → -1000000000000000000 ≤ sp_len (mm y) (da y) (se y) ∧ sp_len (mm y) (da y) (se y) ≤ 1000000000000000000 := fun y hy => by
    have := hlb y hy
    omega
  obtain ⟨nn', e1, e2⟩ := e_ranked N hN (ks := ks) (f := f) (g := g) (a := a) (b := b) (c := c) (1 : Int32) (fun y => sp_len (mm y) (da y) (se y)) (fun X x k hx hk => by
    obtain ⟨s1, s2, s3, s4, s5, s6, s7⟩ := hS k hk
    obtain ⟨t1, t2, t3, t4, t5, t6, t7⟩ := hS x hx
    rw [if_neg (show ¬ ((1 : Int32) = (0 : Int32)) by decide), e_lenC N hk s1 s2 s3 s7, bd1_s, e_lenC N hx t1 t2 t3 t7, bd1_s, zL_sub]) hb tl nn
  obtain ⟨i', R', w1, w2, w3, w4⟩ := l_ranks14 N hN (j := j) (S := S) (fun y => sp_len (mm y) (da y) (se y)) (fun i x y A B hx hy => by
    obtain ⟨s1, s2, s3, s4, s5, s6, s7⟩ := hS x hx
    obtain ⟨t1, t2, t3, t4, t5, t6, t7⟩ := hS y hy
    have h1 := hlb x hx
    have h2 := hlb y hy
    rw [e_lenM N hx s4 s5 s6 s7, bd1_s, e_lenM N hy t4 t5 t6 t7, bd1_s, x_cmp (by omega) (by omega)]
    by_cases h : sp_len (mm x) (da x) (se x) < sp_len (mm y) (da y) (se y)
    · rw [if_pos h, if_pos h, if_neg (by decide)]
    · rw [if_neg h, if_neg h]
      by_cases h3 : sp_len (mm x) (da x) (se x) = sp_len (mm y) (da y) (se y)
      · rw [if_pos h3, if_pos (by decide)]
      · rw [if_neg h3, if_pos (by decide)]) N 0 (0 : Int32) (upd (upd i 8 (0 : Int32)) 9 (0 : Int32)) R (by omega) (by omega) (fun x hx => by
    rw [decide_eq_false (by omega), show bt 0 x = false from BitVec.getLsbD_zero]) (by rw [upd_n (by omega), upd_s]; rfl) (fun x hx h => by omega)
  have ag := ag8 e2 w4
  unfold fX9_ranks fX10_ranks
  rw [e1, bd3_s]
  rw [show zI ((0 : Nat) : Int) = (0 : Int32) by decide] at w1
  refine ⟨_, _, _, i', R', rfl, ?_, ⟨8, by omega, rfl, w2, ag⟩, by rw [w3 4 (by omega)]; simp (disch := omega) only [upd_n], by rw [w3 6 (by omega)]; simp (disch := omega) only [upd_n]⟩
  rw [w1, ag 0 (by omega)]
