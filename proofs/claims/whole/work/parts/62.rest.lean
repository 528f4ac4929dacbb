/-! rest -/
theorem zL_td {a b : Int} (ha : -9007199254740000 ≤ a ∧ a ≤ 9007199254740000) (hb : -9007199254740000 ≤ b ∧ b ≤ 9007199254740000) : zL a / zL b = zL (a.tdiv b) := by
  have h : (a.tdiv b).natAbs ≤ a.natAbs := by
    rw [Int.natAbs_tdiv]
    exact Nat.div_le_self _ _
  apply Int64.toInt_inj.mp
  rw [Int64.toInt_div, zL_int (by omega) (by omega), zL_int (by omega) (by omega), zL_int (by omega) (by omega)]
  exact Int.bmod_eq_of_le (by omega) (by omega)
theorem l_zmag {z : Int} (h : -9007199254740000 ≤ z ∧ z ≤ 9007199254740000) : FP.Core.zmag FP.Core.b64 (FP.Core.val64 (FP.l2d (zL z))) = z.natAbs * FP.Core.one64 ∧ FP.Core.sgn (FP.Core.val64 (FP.l2d (zL z))) = decide (z < 0) ∧ FP.Core.zval FP.Core.b64 (FP.Core.val64 (FP.l2d (zL z))) = z * (FP.Core.one64 : Int) := by
  obtain ⟨c, q, e, -⟩ := l_val h
  have D := FP.Core.DInt_zval (FP.Core.l2d_whole (x_small h))
  have e0 : (zL z).toInt = z := zL_int (by omega) (by omega)
  rw [e0] at D
  have D2 : FP.Core.zval FP.Core.b64 (FP.Core.val64 (FP.l2d (zL z))) = z * (FP.Core.one64 : Int) := D
  have sg : FP.Core.sgn (FP.Core.val64 (FP.l2d (zL z))) = decide (z < 0) := by rw [e]; rfl
  refine ⟨?_, sg, D2⟩
  have D3 := congrArg Int.natAbs D2
  rw [Int.natAbs_mul, Int.natAbs_natCast] at D3
  rw [← D3]
  unfold FP.Core.zval FP.Core.signed
  split
  · rw [Int.natAbs_neg, Int.natAbs_natCast]
  · rw [Int.natAbs_natCast]
theorem p_rest (N : Nat) (hN : 200000 ≤ N) (p1 : Int32) (p2 : Int32) {ks : Int32} {a : Nat → Int32} {b : Nat → Int32} {c : Nat → Int32} {i : Nat → Int32} {j : Nat → Int64} {S : Nat → Int32} {mm da se : Nat → Int} (hS : RelS mm da se a b c S) : 
    ∃ (r : Int64) (i' : Nat → Int32), fX9_rest N p1 p2 ks a b c = some r ∧ fX10_rest N p1 p2 i j S = some (r, i') ∧ i' 4 = i 4 ∧ i' 6 = i 6 ∧ i' 8 = i 8 := by
  obtain ⟨z1, l1, v1, rfl⟩ := zI_of p1
  obtain ⟨z2, l2, v2, rfl⟩ := zI_of p2
  unfold fX9_rest fX10_rest
  by_cases q0 : 0 ≤ z1 ∧ z1 ≤ 7
  case neg =>
    rw [c_slot0 N l1 v1 q0, bd1_s, if_pos z00, m_slot0 N l1 v1 q0, bd1_s, if_pos z00]
    exact ⟨_, _, rfl, rfl, by simp (disch := omega) only [upd_n], by simp (disch := omega) only [upd_n], by simp (disch := omega) only [upd_n]⟩
  rw [c_slot1 N q0, bd1_s, if_neg z10, m_slot1 N q0, bd1_s, if_neg z10]
  by_cases q1 : 0 ≤ z2 ∧ z2 ≤ 7
  case neg =>
    rw [c_slot0 N l2 v2 q1, bd1_s, if_pos z00, m_slot0 N l2 v2 q1, bd1_s, if_pos z00]
    exact ⟨_, _, rfl, rfl, by simp (disch := omega) only [upd_n], by simp (disch := omega) only [upd_n], by simp (disch := omega) only [upd_n]⟩
  obtain ⟨k1, hk1, rfl⟩ : ∃ k1 : Nat, k1 < 8 ∧ z1 = (k1 : Int) := ⟨z1.toNat, by omega, by omega⟩
  obtain ⟨k2, hk2, rfl⟩ : ∃ k2 : Nat, k2 < 8 ∧ z2 = (k2 : Int) := ⟨z2.toNat, by omega, by omega⟩
  obtain ⟨s1, s2, s3, s4, s5, s6, s7⟩ := hS k1 hk1
  obtain ⟨t1, t2, t3, t4, t5, t6, t7⟩ := hS k2 hk2
  have bA := len_b s7
  have bB := len_b t7
  rw [c_slot1 N q1, bd1_s, if_neg z10, m_slot1 N q1, bd1_s, if_neg z10, e_lenC N hk1 s1 s2 s3 s7, bd1_s, e_lenC N hk2 t1 t2 t3 t7, bd1_s, e_lenM N hk1 s4 s5 s6 s7, bd1_s, e_lenM N hk2 t4 t5 t6 t7, bd1_s]
  obtain ⟨A, hA⟩ : ∃ A, A = sp_len (mm k1) (da k1) (se k1) := ⟨_, rfl⟩
  obtain ⟨B, hB⟩ : ∃ B, B = sp_len (mm k2) (da k2) (se k2) := ⟨_, rfl⟩
  rw [← hA] at bA
  rw [← hB] at bB
  have htd : (A.tdiv B).natAbs ≤ A.natAbs := by
    rw [Int.natAbs_tdiv]
    exact Nat.div_le_self _ _
  have htm : A - A.tdiv B * B = A.tmod B := by
    have := Int.tmod_add_tdiv_mul A B
    omega
  have hr : (A.tmod B).natAbs = A.natAbs % B.natAbs := Int.natAbs_tmod A B
  have hr2 : (A.tmod B).natAbs ≤ A.natAbs := by rw [hr]; exact Nat.mod_le _ _
  rw [← hA, ← hB, e_signBit N (z := A) (by omega), zL_td (by omega) (by omega), zL_mul, zL_sub, htm, zll_0]
  have fin : ∀ r : Int64, fJxe99ae_doubleToLongBits_ccdee N (FP.drem (FP.l2d (zL A)) (FP.l2d (zL B))) = some r → ∀ X : Option Int64, X = some r → ∃ (r : Int64) (i' : Nat → Int32), X = some r ∧ (bd1 (fJxe99ae_doubleToLongBits_ccdee N (FP.drem (FP.l2d (zL A)) (FP.l2d (zL B)))) fun r14 => some (r14, upd i 9 (0 : Int32))) = some (r, i') ∧ i' 4 = i 4 ∧ i' 6 = i 6 ∧ i' 8 = i 8 := by
    intro r hr X hX
    rw [hr, bd1_s]
    exact ⟨r, _, hX, rfl, by simp (disch := omega) only [upd_n], by simp (disch := omega) only [upd_n], by simp (disch := omega) only [upd_n]⟩
  by_cases g1 : B = 0
  · obtain ⟨cA, qA, eA, zA⟩ := l_val (z := A) (by omega)
    obtain ⟨cB, qB, eB, zB⟩ := l_val (z := B) (by omega)
    have V := FP.Core.val64_drem (FP.l2d (zL A)) (FP.l2d (zL B))
    rw [eA, eB] at V
    unfold FP.Core.exactRemainder at V
    dsimp only at V
    rw [if_pos (zB.mpr g1)] at V
    rw [if_pos (k_eq g1)]
    exact fin _ (bitsN N V) _ rfl
  · have hz : ¬ FP.Core.DZero (FP.l2d (zL B)) := by
      refine FP.Core.dnot_zero (FP.Core.l2d_fin _).ne_nan ?_
      have e : (zL B).toInt = B := zL_int (by omega) (by omega)
      rw [(l_zmag (z := B) (by omega)).2.2]
      intro h
      rcases Int.mul_eq_zero.mp h with h | h
      · exact g1 h
      · have := FP.Core.one64_pos
        omega
    obtain ⟨n1, n2, n3⟩ := FP.Core.drem_zval (FP.Core.l2d_fin (zL A)) (FP.Core.l2d_fin (zL B)).ne_nan hz
    have m1 := l_zmag (z := A) (by omega)
    have m2 := l_zmag (z := B) (by omega)
    have n2' : FP.Core.sgn (FP.Core.val64 (FP.drem (FP.l2d (zL A)) (FP.l2d (zL B)))) = decide (A < 0) := n2.trans m1.2.1
    have n3' : FP.Core.zmag FP.Core.b64 (FP.Core.val64 (FP.drem (FP.l2d (zL A)) (FP.l2d (zL B)))) = (A.tmod B).natAbs * FP.Core.one64 := by
      refine n3.trans ?_
      have e1 : FP.Core.zmag FP.Core.b64 (FP.Core.val64 (FP.Core.l2d (zL A))) = A.natAbs * FP.Core.one64 := m1.1
      have e2 : FP.Core.zmag FP.Core.b64 (FP.Core.val64 (FP.Core.l2d (zL B))) = B.natAbs * FP.Core.one64 := m2.1
      rw [e1, e2, Nat.mul_mod_mul_right, hr]
    rw [if_neg (k_neq (by omega))]
    have hgn : ∀ X : Option Int64, gnl (zL B) X = X := by
      intro X
      unfold gnl
      rw [if_neg]
      intro h
      have := congrArg Int64.toInt h
      rw [zL_int (by omega) (by omega)] at this
      exact g1 this
    rw [hgn, nm_s]
    by_cases g2 : A.tmod B = 0
    · rw [if_pos (k_eq g2), bd1_s]
      rw [g2, Int.natAbs_zero, Nat.zero_mul] at n3'
      have zv : FP.Core.zval FP.Core.b64 (FP.Core.val64 (FP.drem (FP.l2d (zL A)) (FP.l2d (zL B)))) = 0 := by
        unfold FP.Core.zval FP.Core.signed
        rw [n3']; split <;> rfl
      have b0 := (FP.Core.zval_eq_zero n1).mp zv
      have b0' : (FP.drem (FP.l2d (zL A)) (FP.l2d (zL B))).toNat % 2 ^ 63 = 0 := b0
      have sb := FP.Core.sgn_bits n1
      have sb' : decide (A < 0) = decide (2 ^ 63 ≤ (FP.drem (FP.l2d (zL A)) (FP.l2d (zL B))).toNat) := n2'.symm.trans sb
      have xl := (FP.drem (FP.l2d (zL A)) (FP.l2d (zL B))).toNat_lt
      by_cases g3 : A < 0
      · have h2 : 2 ^ 63 ≤ (FP.drem (FP.l2d (zL A)) (FP.l2d (zL B))).toNat := of_decide_eq_true (by rw [← sb', decide_eq_true g3])
        have e : FP.drem (FP.l2d (zL A)) (FP.l2d (zL B)) = (9223372036854775808 : UInt64) := UInt64.toNat_inj.mp (by show _ = 9223372036854775808; omega)
        refine fin ((9223372036854775808 : UInt64).toInt64) (by rw [e]; exact bitsM N (by decide +kernel)) _ ?_
        rw [if_pos g3]; decide +kernel
      · have h2 : ¬ 2 ^ 63 ≤ (FP.drem (FP.l2d (zL A)) (FP.l2d (zL B))).toNat := of_decide_eq_false (by rw [← sb', decide_eq_false g3])
        have e : FP.drem (FP.l2d (zL A)) (FP.l2d (zL B)) = (0 : UInt64) := UInt64.toNat_inj.mp (by show _ = 0; omega)
        refine fin ((0 : UInt64).toInt64) (by rw [e]; exact bitsM N (by decide +kernel)) _ ?_
        rw [if_neg g3]; decide +kernel
    · rw [if_neg (k_neq (by omega))]
      have m3 := l_zmag (z := A.tmod B) (by omega)
      have nz : ¬ FP.Core.DZero (FP.l2d (zL (A.tmod B))) := by
        refine FP.Core.dnot_zero (FP.Core.l2d_fin _).ne_nan ?_
        rw [m3.2.2]
        intro h
        rcases Int.mul_eq_zero.mp h with h | h
        · exact g2 h
        · have := FP.Core.one64_pos
          omega
      have sgr : decide (A.tmod B < 0) = decide (A < 0) := by
        by_cases g3 : A < 0
        · have h1 : A.tmod B ≤ 0 := by
            have := Int.tmod_nonneg B (show 0 ≤ -A by omega)
            rw [Int.neg_tmod] at this
            omega
          rw [decide_eq_true g3, decide_eq_true (by omega)]
        · have h1 : 0 ≤ A.tmod B := Int.tmod_nonneg B (by omega)
          rw [decide_eq_false g3, decide_eq_false (by omega)]
      have zeq : FP.Core.zval FP.Core.b64 (FP.Core.val64 (FP.drem (FP.l2d (zL A)) (FP.l2d (zL B)))) = FP.Core.zval FP.Core.b64 (FP.Core.val64 (FP.l2d (zL (A.tmod B)))) := by
        unfold FP.Core.zval
        rw [n2', n3', m3.1, m3.2.1, sgr]
      have e : FP.drem (FP.l2d (zL A)) (FP.l2d (zL B)) = FP.l2d (zL (A.tmod B)) := by
        refine FP.Core.eq_bits nz ?_
        refine (FP.Core.dcmp_zval n1 (FP.Core.l2d_fin _).ne_nan).trans ?_
        rw [FP.Core.compare_ite]
        have zeq' : FP.Core.zval FP.Core.b64 (FP.Core.val64 (FP.Core.drem (FP.Core.l2d (zL A)) (FP.Core.l2d (zL B)))) = FP.Core.zval FP.Core.b64 (FP.Core.val64 (FP.Core.l2d (zL (A.tmod B)))) := zeq
        rw [zeq', if_neg (by omega), if_pos rfl]
      have nrm := l_norm (z := A.tmod B) (by omega) g2
      rw [b_all N (by omega) (by omega) (by omega), bd1_s]
      exact fin _ (by rw [e]; exact bitsM N (norm_nn (by omega))) _ rfl
