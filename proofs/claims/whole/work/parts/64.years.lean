/-! years -/
theorem yr_c : (4719236215029628928 : UInt64) = FP.l2d (zL 31556952) := by decide +kernel
theorem yr_cn : (4719236215029628928 : UInt64).toNat % 2 ^ 63 = 4719236215029628928 := by decide +kernel
theorem yr_x {A : Int} (hA : -9007199254740000 ≤ A ∧ A ≤ 9007199254740000) (h0 : A ≠ 0) : 990 * 2 ^ 52 ≤ (FP.ddiv (FP.l2d (zL A)) (4719236215029628928 : UInt64)).toNat % 2 ^ 63 ∧ (FP.ddiv (FP.l2d (zL A)) (4719236215029628928 : UInt64)).toNat % 2 ^ 63 < 1065 * 2 ^ 52 := by
  have nA := l_norm hA h0
  have cn := yr_cn
  constructor
  · obtain ⟨s, E, T, a1, a2, a3, a4, a5⟩ := v_fields (x := FP.l2d (zL A)) (by omega) (by omega)
    obtain ⟨t, D, U, b1, b2, b3, b4, b5⟩ := v_fields (x := (4719236215029628928 : UInt64)) (by omega) (by omega)
    have e4 : FP.Core.b64.qmin = -1074 := by decide +kernel
    have hv : FP.Core.decode FP.Core.b64 (FP.Core.ddiv (FP.l2d (zL A)) (4719236215029628928 : UInt64)).toNat = FP.Core.roundRatio FP.Core.b64 (s != t) (2 ^ 52 + T) (2 ^ 52 + U) (((E : Int) - 1075) - ((D : Int) - 1075)) := by
      have q := FP.Core.val64_ddiv (FP.l2d (zL A)) (4719236215029628928 : UInt64)
      rw [a5, b5] at q
      unfold FP.Core.quotient at q
      dsimp only at q
      rw [if_neg (by omega)] at q
      exact q
    have w1 : 2 ^ 52 ≤ 2 ^ 52 + T := by omega
    have w2 : 2 ^ 52 + U ≤ 2 ^ 53 := by omega
    have m := FP.Core.mag_ge FP.Core.good_b64 (m := 990 * 2 ^ 52) (e0 := -1074) hv (by omega) (by rw [e4]; omega) (by omega) (by decide +kernel) (by
      have u : FP.Core.unitsOf FP.Core.b64 (990 * 2 ^ 52) = 2 ^ 52 * 2 ^ 989 := by decide +kernel
      unfold FP.Core.inUnits
      rw [u, e4, show ((-1074 : Int) - -1074).toNat = 0 by decide, Nat.pow_zero, Nat.mul_one]
      have p : 2 ^ 989 * 2 ^ 53 ≤ 2 ^ (((E : Int) - 1075) - ((D : Int) - 1075) - -1074).toNat := by
        rw [← Nat.pow_add]
        exact Nat.pow_le_pow_right (by omega) (by omega)
      rw [Nat.mul_assoc]
      exact Nat.mul_le_mul w1 (Nat.le_trans (Nat.mul_le_mul_left _ w2) p))
    have mm : FP.Core.mag FP.Core.b64 (FP.Core.ddiv (FP.l2d (zL A)) (4719236215029628928 : UInt64)).toNat = (FP.Core.ddiv (FP.l2d (zL A)) (4719236215029628928 : UInt64)).toNat % 2 ^ 63 := by
      unfold FP.Core.mag
      have h : FP.Core.half FP.Core.b64 = 2 ^ 63 := by decide +kernel
      rw [h]
    rw [mm] at m
    exact m
  · have q := FP.Core.ddiv_mag (a := FP.l2d (zL A)) (b := (4719236215029628928 : UInt64)) (K := 1088) (L := 1047) nA.2 (by omega) (by omega) (by omega) (by omega)
    have q2 : (FP.ddiv (FP.l2d (zL A)) (4719236215029628928 : UInt64)).toNat % 2 ^ 63 < (1088 + (1074 - 52 - 1) - 1047 + 3) * 2 ^ 52 := q
    omega
theorem yr_f {x : UInt64} (h1 : 990 * 2 ^ 52 ≤ x.toNat % 2 ^ 63) (h2 : x.toNat % 2 ^ 63 < 1065 * 2 ^ 52) : 2 ^ 23 ≤ (FP.d2f x).toNat % 2 ^ 31 ∧ (FP.d2f x).toNat % 2 ^ 31 < 255 * 2 ^ 23 := by
  obtain ⟨s, E, T, a1, a2, a3, a4, a5⟩ := v_fields (x := x) (by omega) (by omega)
  rw [FP.d2f_core ((FP.Core.notNaN_iff _).mpr (norm_nn (by omega)))]
  have e4 : FP.Core.b32.qmin = -149 := by decide +kernel
  have hv : FP.Core.decode FP.Core.b32 (FP.Core.d2f x).toNat = FP.Core.roundRatio FP.Core.b32 s (2 ^ 52 + T) 1 ((E : Int) - 1075) := by
    have q := FP.Core.val32_d2f x
    rw [a5] at q
    exact q
  have mm : FP.Core.mag FP.Core.b32 (FP.Core.d2f x).toNat = (FP.Core.d2f x).toNat % 2 ^ 31 := FP.Core.mag_toNat32 _
  have lo := FP.Core.mag_ge FP.Core.good_b32 (m := 2 ^ 23) (e0 := -149) hv (by omega) (by rw [e4]; omega) (by omega) (by decide +kernel) (by
    have u : FP.Core.unitsOf FP.Core.b32 (2 ^ 23) = 2 ^ 23 := by decide +kernel
    unfold FP.Core.inUnits
    rw [u, e4, show ((-149 : Int) - -149).toNat = 0 by decide, Nat.pow_zero, Nat.mul_one, Nat.mul_one]
    have p : 1 ≤ 2 ^ ((E : Int) - 1075 - -149).toNat := Nat.one_le_two_pow
    calc 2 ^ 23 ≤ (2 ^ 52 + T) * 1 := by omega
      _ ≤ _ := Nat.mul_le_mul_left _ p)
  have hi := FP.Core.mag_le FP.Core.good_b32 (m := 254 * 2 ^ 23) (e0 := -149) hv (by omega) (by rw [e4]; omega) (by omega) (by
    have u : FP.Core.unitsOf FP.Core.b32 (254 * 2 ^ 23) = 2 ^ 23 * 2 ^ 253 := by decide +kernel
    unfold FP.Core.inUnits
    rw [u, e4, show ((-149 : Int) - -149).toNat = 0 by decide, Nat.pow_zero, Nat.mul_one, Nat.mul_one]
    have p : 2 ^ ((E : Int) - 1075 - -149).toNat ≤ 2 ^ 140 := Nat.pow_le_pow_right (by omega) (by omega)
    calc (2 ^ 52 + T) * 2 ^ ((E : Int) - 1075 - -149).toNat ≤ 2 ^ 53 * 2 ^ 140 := Nat.mul_le_mul (by omega) p
      _ ≤ 2 ^ 23 * 2 ^ 253 := by decide +kernel)
  rw [mm] at lo hi
  exact ⟨lo, by omega⟩
theorem p_years (N : Nat) (hN : 200000 ≤ N) (p1 : Int32) {ks : Int32} {a : Nat → Int32} {b : Nat → Int32} {c : Nat → Int32} {i : Nat → Int32} {j : Nat → Int64} {S : Nat → Int32} {mm da se : Nat → Int} (hS : RelS mm da se a b c S) : 
    ∃ (r : Int32) (i' : Nat → Int32), fX9_years N p1 ks a b c = some r ∧ fX10_years N p1 i j S = some (r, i') ∧ i' 4 = i 4 ∧ i' 6 = i 6 ∧ i' 8 = i 8 := by
  obtain ⟨z1, l1, v1, rfl⟩ := zI_of p1
  unfold fX9_years fX10_years
  by_cases q0 : 0 ≤ z1 ∧ z1 ≤ 7
  case neg =>
    rw [c_slot0 N l1 v1 q0, bd1_s, if_pos z00, m_slot0 N l1 v1 q0, bd1_s, if_pos z00]
    exact ⟨_, _, rfl, rfl, by simp (disch := omega) only [upd_n], by simp (disch := omega) only [upd_n], by simp (disch := omega) only [upd_n]⟩
  obtain ⟨k1, hk1, rfl⟩ : ∃ k1 : Nat, k1 < 8 ∧ z1 = (k1 : Int) := ⟨z1.toNat, by omega, by omega⟩
  obtain ⟨s1, s2, s3, s4, s5, s6, s7⟩ := hS k1 hk1
  have bA := len_b s7
  rw [c_slot1 N q0, bd1_s, if_neg z10, m_slot1 N q0, bd1_s, if_neg z10, e_lenC N hk1 s1 s2 s3 s7, bd1_s, e_lenM N hk1 s4 s5 s6 s7, bd1_s]
  obtain ⟨A, hA⟩ : ∃ A, A = sp_len (mm k1) (da k1) (se k1) := ⟨_, rfl⟩
  rw [← hA] at bA
  rw [← hA]
  by_cases g : A = 0
  · subst g
    have e1 : FP.ddiv (FP.l2d (zL 0)) (4719236215029628928 : UInt64) = (0 : UInt64) := by decide +kernel
    have e2 : FP.d2f (0 : UInt64) = (0 : UInt32) := by decide +kernel
    have e3 : Op.cmpValue (FP.fcmp (0 : UInt32) FP.fconst0) .l = (0 : Int32) := by decide +kernel
    rw [e1, e2, g64_fin (v := (0 : UInt64)) ((FP.Core.fin_bits _).mpr (by decide +kernel)), g64_fin (v := (0 : UInt64)) ((FP.Core.fin_bits _).mpr (by decide +kernel)), g32_fin (by decide +kernel), g32_fin (by decide +kernel), nm_s, if_pos e3, bitsMf N (by decide +kernel), bd1_s]
    exact ⟨(0 : Int32), _, rfl, rfl, by simp (disch := omega) only [upd_n], by simp (disch := omega) only [upd_n], by simp (disch := omega) only [upd_n]⟩
  · have nx := yr_x (A := A) (by omega) g
    obtain ⟨x, hx⟩ : ∃ x, x = FP.ddiv (FP.l2d (zL A)) (4719236215029628928 : UInt64) := ⟨_, rfl⟩
    rw [← hx] at nx ⊢
    have nf2 := yr_f nx.1 nx.2
    obtain ⟨f, hf⟩ : ∃ f, f = FP.d2f x := ⟨_, rfl⟩
    rw [← hf] at nf2 ⊢
    rw [g64_fin (v := x) ((FP.Core.fin_bits _).mpr (by omega)), g64_fin (v := x) ((FP.Core.fin_bits _).mpr (by omega)), g32_fin (v := f) (by omega), g32_fin (v := f) (by omega), nm_s, y_all N (by omega) nf2.1 nf2.2, bitsMf N ((FP.Core.ne_nan32 f).mpr (by omega)), bd1_s]
    exact ⟨_, _, rfl, rfl, by simp (disch := omega) only [upd_n], by simp (disch := omega) only [upd_n], by simp (disch := omega) only [upd_n]⟩
