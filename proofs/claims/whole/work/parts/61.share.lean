/-! share and rest -/
theorem v_fields {x : UInt64} (h : 2 ^ 52 ≤ x.toNat % 2 ^ 63) (h2 : x.toNat % 2 ^ 63 < 2047 * 2 ^ 52) : ∃ (s : Bool) (E T : Nat), 1 ≤ E ∧ E ≤ 2046 ∧ T < 2 ^ 52 ∧ E * 2 ^ 52 + T = x.toNat % 2 ^ 63 ∧ FP.Core.val64 x = .fin s (2 ^ 52 + T) ((E : Int) - 1075) := by
  obtain ⟨E, hE⟩ : ∃ E, E = x.toNat % 2 ^ 63 / 2 ^ 52 := ⟨_, rfl⟩
  obtain ⟨T, hT⟩ : ∃ T, T = x.toNat % 2 ^ 63 % 2 ^ 52 := ⟨_, rfl⟩
  have t1 : T < 2 ^ 52 := by omega
  have e1 : 1 ≤ E ∧ E ≤ 2046 := by omega
  have s : E * 2 ^ 52 + T = x.toNat % 2 ^ 63 := by omega
  have xl := x.toNat_lt
  by_cases g : x.toNat < 2 ^ 63
  · have e : x = nd E T := UInt64.toNat_inj.mp (by rw [nd_nat (by omega) t1, s]; omega)
    exact ⟨false, E, T, e1.1, e1.2, t1, s, by rw [e]; exact nd_val e1.1 e1.2 t1⟩
  · have e : x = nd E T ^^^ (9223372036854775808 : UInt64) := UInt64.toNat_inj.mp (by rw [dn_nat (by omega) t1, s]; omega)
    refine ⟨true, E, T, e1.1, e1.2, t1, s, ?_⟩
    have q := FP.Core.val64_neg_bits (a := nd E T) (b := x) (Or.inr (by rw [e, dn_nat (by omega) t1, nd_nat (by omega) t1]; omega))
    rw [q, nd_val e1.1 e1.2 t1]
    rfl
theorem dd_norm {x y : UInt64} (hx : 1023 * 2 ^ 52 ≤ x.toNat % 2 ^ 63 ∧ x.toNat % 2 ^ 63 < 1088 * 2 ^ 52) (hy : 1023 * 2 ^ 52 ≤ y.toNat % 2 ^ 63 ∧ y.toNat % 2 ^ 63 < 1088 * 2 ^ 52) : 2 ^ 52 ≤ (FP.ddiv x y).toNat % 2 ^ 63 ∧ (FP.ddiv x y).toNat % 2 ^ 63 < 2047 * 2 ^ 52 := by
  constructor
  · obtain ⟨s, E, T, a1, a2, a3, a4, a5⟩ := v_fields (x := x) (by omega) (by omega)
    obtain ⟨t, D, U, b1, b2, b3, b4, b5⟩ := v_fields (x := y) (by omega) (by omega)
    have e4 : FP.Core.b64.qmin = -1074 := by decide +kernel
    have hv : FP.Core.decode FP.Core.b64 (FP.Core.ddiv x y).toNat = FP.Core.roundRatio FP.Core.b64 (s != t) (2 ^ 52 + T) (2 ^ 52 + U) (((E : Int) - 1075) - ((D : Int) - 1075)) := by
      have q := FP.Core.val64_ddiv x y
      rw [a5, b5] at q
      unfold FP.Core.quotient at q
      dsimp only at q
      rw [if_neg (by omega)] at q
      exact q
    have m := FP.Core.mag_ge FP.Core.good_b64 (m := 2 ^ 52) (e0 := -1074) hv (by omega) (by rw [e4]; omega) (by omega) (by decide +kernel) (by
      have u : FP.Core.unitsOf FP.Core.b64 (2 ^ 52) = 2 ^ 52 := by decide +kernel
      unfold FP.Core.inUnits
      rw [u, e4, show ((-1074 : Int) - -1074).toNat = 0 by decide, Nat.pow_zero, Nat.mul_one]
      have p : 2 ^ 53 ≤ 2 ^ (((E : Int) - 1075) - ((D : Int) - 1075) - -1074).toNat := Nat.pow_le_pow_right (by omega) (by omega)
      calc 2 ^ 52 * (2 ^ 52 + U) ≤ (2 ^ 52 + T) * 2 ^ 53 := Nat.mul_le_mul (by omega) (by omega)
        _ ≤ _ := Nat.mul_le_mul_left _ p)
    have mm : FP.Core.mag FP.Core.b64 (FP.Core.ddiv x y).toNat = (FP.Core.ddiv x y).toNat % 2 ^ 63 := by
      unfold FP.Core.mag
      have h : FP.Core.half FP.Core.b64 = 2 ^ 63 := by decide +kernel
      rw [h]
    rw [mm] at m
    exact m
  · have q := FP.Core.ddiv_mag (a := x) (b := y) (K := 1088) (L := 1023) hx.2 hy.1 (by omega) (by omega) (by omega)
    have q2 : (FP.ddiv x y).toNat % 2 ^ 63 < (1088 + (1074 - 52 - 1) - 1023 + 3) * 2 ^ 52 := q
    omega
theorem l_norm {z : Int} (h : -9007199254740000 ≤ z ∧ z ≤ 9007199254740000) (h0 : z ≠ 0) : 1023 * 2 ^ 52 ≤ (FP.l2d (zL z)).toNat % 2 ^ 63 ∧ (FP.l2d (zL z)).toNat % 2 ^ 63 < 1088 * 2 ^ 52 :=
  ⟨(FP.Core.l2d_big (v := zL z) (by rw [zL_int (by omega) (by omega)]; exact h0)).1, FP.Core.l2d_mag (zL z)⟩
theorem bitsM (N : Nat) {x : UInt64} (h : FP.Core.val64 x ≠ .nan) : fJxe99ae_doubleToLongBits_ccdee N x = some x.toInt64 := by
  have q : FP.dcmp x x = some .eq := FP.Core.dcmp_self h
  unfold fJxe99ae_doubleToLongBits_ccdee fD_nan
  rw [q, if_pos (by decide)]
theorem bitsN (N : Nat) {x : UInt64} (h : FP.Core.val64 x = .nan) : fJxe99ae_doubleToLongBits_ccdee N x = some (9221120237041090560 : Int64) := by
  have q : FP.dcmp x x = none := (FP.Core.dcmp_none x x).mpr (Or.inl h)
  unfold fJxe99ae_doubleToLongBits_ccdee fD_nan
  rw [q, if_neg (by decide)]
theorem norm_nn {x : UInt64} (h : x.toNat % 2 ^ 63 < 2047 * 2 ^ 52) : FP.Core.val64 x ≠ .nan := (FP.Core.ne_nan x).mpr (by omega)
theorem e_signBit (N : Nat) {z : Int} (h : -9007199254740000 ≤ z ∧ z ≤ 9007199254740000) : fX9_signBit N (zL z) = some (if z < 0 then (-9223372036854775808 : Int64) else (0 : Int64)) := by
  unfold fX9_signBit
  rw [zll_0]
  by_cases g : z < 0
  · rw [if_neg (k_nge (by omega)), if_pos g]
  · rw [if_pos (k_ge (by omega)), if_neg g]
theorem l_val {z : Int} (h : -9007199254740000 ≤ z ∧ z ≤ 9007199254740000) : ∃ c q, FP.Core.val64 (FP.l2d (zL z)) = .fin (decide (z < 0)) c q ∧ (c = 0 ↔ z = 0) := by
  obtain ⟨c, q, e⟩ := FP.Core.l2d_shape (zL z)
  rw [zL_int (by omega) (by omega)] at e
  refine ⟨c, q, e, ?_⟩
  have W := FP.Core.l2d_whole (x_small h)
  rw [e, zL_int (by omega) (by omega)] at W
  have W2 : FP.Core.signed (decide (z < 0)) (c * 2 ^ q.toNat) = z * ((2 ^ (-q).toNat : Nat) : Int) := W
  unfold FP.Core.signed at W2
  have p1 : 0 < 2 ^ q.toNat := Nat.two_pow_pos _
  have p2 : (0 : Int) < ((2 ^ (-q).toNat : Nat) : Int) := by exact_mod_cast Nat.two_pow_pos _
  constructor
  · intro hc
    subst hc
    rw [Nat.zero_mul] at W2
    have W3 : z * ((2 ^ (-q).toNat : Nat) : Int) = 0 := by
      rw [← W2]; split <;> rfl
    rcases Int.mul_eq_zero.mp W3 with g | g
    · exact g
    · omega
  · intro hz
    subst hz
    rw [Int.zero_mul, if_neg (by decide)] at W2
    have W3 : c * 2 ^ q.toNat = 0 := by exact_mod_cast W2
    rcases Nat.mul_eq_zero.mp W3 with g | g
    · exact g
    · omega
theorem p_share (N : Nat) (hN : 200000 ≤ N) (p1 : Int32) (p2 : Int32) {ks : Int32} {a : Nat → Int32} {b : Nat → Int32} {c : Nat → Int32} {i : Nat → Int32} {j : Nat → Int64} {S : Nat → Int32} {mm da se : Nat → Int} (hS : RelS mm da se a b c S) : 
    ∃ (r : Int64) (i' : Nat → Int32), fX9_share N p1 p2 ks a b c = some r ∧ fX10_share N p1 p2 i j S = some (r, i') ∧ i' 4 = i 4 ∧ i' 6 = i 6 ∧ i' 8 = i 8 := by
  obtain ⟨z1, l1, v1, rfl⟩ := zI_of p1
  obtain ⟨z2, l2, v2, rfl⟩ := zI_of p2
  unfold fX9_share fX10_share
  by_cases q0 : 0 ≤ z1 ∧ z1 ≤ 7
  case neg =>
    rw [c_slot0 N l1 v1 q0, bd1_s, if_pos z00, m_slot0 N l1 v1 q0, bd1_s, if_pos z00]
    exact ⟨_, _, rfl, rfl, by simp (disch := omega) only [upd_n], by simp (disch := omega) only [upd_n], by simp (disch := omega) only [upd_n]⟩
  rw [c_slot1 N q0, bd1_s, if_neg z10, m_slot1 N q0, bd1_s, if_neg z10]
  by_cases q1 : 0 ≤ z2 ∧ z2 ≤ 7
  case neg =>
    rw [c_slot0 N l2 v2 q1, bd1_s, if_pos z00, m_slot0 N l2 v2 q1, bd1_s, if_pos z00]
    exact ⟨_, _, rfl, rfl, by simp (disch := omega) only [upd_n], by simp (disch := omega) only [upd_n], by simp (disch := omega) only [upd_n]⟩
  obtain ⟨k1, hk1, rfl⟩ : ∃ k1 : Nat, k1 < 8 ∧ z1 = (k1 : Int) := ⟨z1.toNat, by omega, by omega⟩
  obtain ⟨k2, hk2, rfl⟩ : ∃ k2 : Nat, k2 < 8 ∧ z2 = (k2 : Int) := ⟨z2.toNat, by omega, by omega⟩
  obtain ⟨s1, s2, s3, s4, s5, s6, s7⟩ := hS k1 hk1
  obtain ⟨t1, t2, t3, t4, t5, t6, t7⟩ := hS k2 hk2
  have bA := len_b s7
  have bB := len_b t7
  rw [c_slot1 N q1, bd1_s, if_neg z10, m_slot1 N q1, bd1_s, if_neg z10, e_lenC N hk1 s1 s2 s3 s7, bd1_s, e_lenC N hk2 t1 t2 t3 t7, bd1_s, e_lenM N hk1 s4 s5 s6 s7, bd1_s, e_lenM N hk2 t4 t5 t6 t7, bd1_s]
  obtain ⟨A, hA⟩ : ∃ A, A = sp_len (mm k1) (da k1) (se k1) := ⟨_, rfl⟩
  obtain ⟨B, hB⟩ : ∃ B, B = sp_len (mm k2) (da k2) (se k2) := ⟨_, rfl⟩
  rw [← hA] at bA
  rw [← hB] at bB
  rw [← hA, ← hB, e_signBit N (z := A) (by omega), e_signBit N (z := B) (by omega), zll_0]
  obtain ⟨cA, qA, eA, zA⟩ := l_val (z := A) (by omega)
  obtain ⟨cB, qB, eB, zB⟩ := l_val (z := B) (by omega)
  have V := FP.Core.val64_ddiv (FP.l2d (zL A)) (FP.l2d (zL B))
  rw [eA, eB] at V
  unfold FP.Core.quotient at V
  dsimp only at V
  have fin : ∀ r : Int64, fJxe99ae_doubleToLongBits_ccdee N (FP.ddiv (FP.l2d (zL A)) (FP.l2d (zL B))) = some r → ∀ X : Option Int64, X = some r → ∃ (r : Int64) (i' : Nat → Int32), X = some r ∧ (bd1 (fJxe99ae_doubleToLongBits_ccdee N (FP.ddiv (FP.l2d (zL A)) (FP.l2d (zL B)))) fun r14 => some (r14, upd i 9 (0 : Int32))) = some (r, i') ∧ i' 4 = i 4 ∧ i' 6 = i 6 ∧ i' 8 = i 8 := by
    intro r hr X hX
    rw [hr, bd1_s]
    exact ⟨r, _, hX, rfl, by simp (disch := omega) only [upd_n], by simp (disch := omega) only [upd_n], by simp (disch := omega) only [upd_n]⟩
  by_cases g1 : B = 0
  · rw [if_pos (zB.mpr g1)] at V
    rw [if_pos (k_eq g1)]
    by_cases g2 : A = 0
    · rw [if_pos (zA.mpr g2)] at V
      rw [if_pos (k_eq g2)]
      exact fin _ (bitsN N V) _ rfl
    · rw [if_neg (fun h => g2 (zA.mp h)), decide_eq_false (show ¬ B < 0 by omega)] at V
      rw [if_neg (k_neq (by omega)), bd1_s]
      by_cases g3 : A < 0
      · rw [decide_eq_true g3] at V
        have e : FP.ddiv (FP.l2d (zL A)) (FP.l2d (zL B)) = (18442240474082181120 : UInt64) := FP.Core.val64_inj (by rw [V]; exact fun h => nomatch h) (V.trans (show _ = FP.Core.val64 (18442240474082181120 : UInt64) by decide +kernel))
        refine fin ((18442240474082181120 : UInt64).toInt64) (by rw [e]; exact bitsM N (by decide +kernel)) _ ?_
        rw [if_pos g3]; decide +kernel
      · rw [decide_eq_false g3] at V
        have e : FP.ddiv (FP.l2d (zL A)) (FP.l2d (zL B)) = (9218868437227405312 : UInt64) := FP.Core.val64_inj (by rw [V]; exact fun h => nomatch h) (V.trans (show _ = FP.Core.val64 (9218868437227405312 : UInt64) by decide +kernel))
        refine fin ((9218868437227405312 : UInt64).toInt64) (by rw [e]; exact bitsM N (by decide +kernel)) _ ?_
        rw [if_neg g3]; decide +kernel
  · rw [if_neg (fun h => g1 (zB.mp h))] at V
    rw [if_neg (k_neq (by omega))]
    by_cases g2 : A = 0
    · rw [zA.mpr g2, decide_eq_false (show ¬ A < 0 by omega)] at V
      unfold FP.Core.roundRatio at V
      rw [if_pos rfl] at V
      rw [if_pos (k_eq g2), bd1_s]
      by_cases g3 : B < 0
      · rw [decide_eq_true g3] at V
        have e : FP.ddiv (FP.l2d (zL A)) (FP.l2d (zL B)) = (9223372036854775808 : UInt64) := FP.Core.val64_inj (by rw [V]; exact fun h => nomatch h) (V.trans (show _ = FP.Core.val64 (9223372036854775808 : UInt64) by decide +kernel))
        refine fin ((9223372036854775808 : UInt64).toInt64) (by rw [e]; exact bitsM N (by decide +kernel)) _ ?_
        rw [if_pos g3]; decide +kernel
      · rw [decide_eq_false g3] at V
        have e : FP.ddiv (FP.l2d (zL A)) (FP.l2d (zL B)) = (0 : UInt64) := FP.Core.val64_inj (by rw [V]; exact fun h => nomatch h) (V.trans (show _ = FP.Core.val64 (0 : UInt64) by decide +kernel))
        refine fin ((0 : UInt64).toInt64) (by rw [e]; exact bitsM N (by decide +kernel)) _ ?_
        rw [if_neg g3]; decide +kernel
    · rw [if_neg (k_neq (by omega))]
      have nrm := dd_norm (l_norm (z := A) (by omega) g2) (l_norm (z := B) (by omega) g1)
      rw [g64_fin ((FP.Core.fin_bits _).mpr (by omega)), b_all N (by omega) nrm.1 nrm.2, bd1_s]
      exact fin _ (bitsM N (norm_nn nrm.2)) _ rfl
