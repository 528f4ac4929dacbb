/-! the bits that the class tells -/
theorem i_sh : ((52 : Int64) &&& 63).toBitVec = 52#64 := by decide +kernel
theorem i_bv {z : Nat} (h : z < 2 ^ 63) : (zL (z : Int)).toBitVec = BitVec.ofNat 64 z := by
  show BitVec.ofInt 64 (z : Int) = BitVec.ofNat 64 z
  exact BitVec.ofInt_natCast 64 z
theorem i_or {E T : Nat} (hE : E ≤ 2046) (hT : T < 2 ^ 52) : (zL (E : Int) <<< ((52 : Int32).toInt64 &&& 63)) ||| zL (T : Int) = (nd E T).toInt64 := by
  have e0 : ((52 : Int32).toInt64 &&& 63) = (52 : Int64) := by decide +kernel
  apply Int64.toBitVec_inj.mp
  rw [Int64.toBitVec_or, e0, Int64.toBitVec_shiftLeft, i_bv (by omega), i_bv (by omega)]
  show (BitVec.ofNat 64 E <<< ((52 : Int64).toBitVec.smod 64#64)) ||| BitVec.ofNat 64 T = (nd E T).toBitVec
  have e1 : (52 : Int64).toBitVec.smod 64#64 = 52#64 := by decide +kernel
  rw [e1]
  apply BitVec.eq_of_toNat_eq
  have e2 : (nd E T).toBitVec.toNat = E * 2 ^ 52 + T := nd_nat (by omega) hT
  have e3 : (BitVec.ofNat 64 E <<< 52#64) = BitVec.ofNat 64 E <<< (52 : Nat) := rfl
  rw [e2, e3, BitVec.toNat_or, BitVec.toNat_shiftLeft, BitVec.toNat_ofNat, BitVec.toNat_ofNat, Nat.mod_eq_of_lt (show E < 2 ^ 64 by omega), Nat.mod_eq_of_lt (show T < 2 ^ 64 by omega), Nat.shiftLeft_eq, Nat.mod_eq_of_lt (show E * 2 ^ 52 < 2 ^ 64 by omega), ← Nat.shiftLeft_eq, ← Nat.shiftLeft_add_eq_or_of_lt hT, Nat.shiftLeft_eq]
theorem c52 : (zI ((52 : Nat) : Int)) = (52 : Int32) := by decide
theorem b_j12 (N : Nat) (hN : 3000 ≤ N) {E T : Nat} (h1 : 1 ≤ E) (hE : E ≤ 2046) (hT : T < 2 ^ 52) (v0 : UInt64) : fX9_bitsOf_j12 N v0 (nd E T) = some (if (0 : Int32) ≤ (Op.cmpValue (FP.dcmp v0 FP.dconst0) .g) then (nd E T).toInt64 else (nd E T).toInt64 ||| (-9223372036854775808 : Int64)) := by
  have F := b_frac N hN (g := 52) h1 hE hT (Or.inl rfl) (some (zL (T : Int))) (by
    rw [nd_d2l (g := 52) (u := T) (by omega) (by omega) hT]
    have e : (1 : Int64) <<< ((zI ((52 : Nat) : Int)).toInt64 &&& 63) = zL 4503599627370496 := by decide +kernel
    rw [e, zL_sub]
    congr 2
    omega)
  rw [c52] at F
  have e1 : (zI ((E : Int) - 1023) + (1023 : Int32)).toInt64 = zL (E : Int) := by
    rw [zl_1023, zI_add, zI_toL (by omega) (by omega)]
    congr 1
    omega
  unfold fX9_bitsOf_j12
  rw [b_pow N (by omega) h1 hE hT, bd1_s, F, bd1_s, nm_s, e1, i_or hE hT]
  split <;> rfl
theorem nd_zero : FP.dconst0 = (0 : UInt64) := by decide +kernel
theorem nd_pos {E T : Nat} (h1 : 1 ≤ E) (hE : E ≤ 2046) (hT : T < 2 ^ 52) : (0 : Int32) ≤ Op.cmpValue (FP.dcmp (nd E T) FP.dconst0) .g := by
  have q := FP.Core.dcmp_key (nd_nn h1 hE hT) (b := (0 : UInt64)) (by rw [FP.Core.val64_zero]; exact fun h => nomatch h)
  rw [nd_key hE hT, show FP.Core.dkey (0 : UInt64) = 0 by decide +kernel, FP.Core.compare_ite, if_neg (by omega), if_neg (by omega)] at q
  rw [nd_zero]
  have q2 : FP.dcmp (nd E T) (0 : UInt64) = some .gt := q
  rw [q2]
  decide
theorem dn_bits (a : UInt64) : FP.dneg a = a ^^^ (9223372036854775808 : UInt64) := FP.dneg_xor a
theorem dn_nat {E T : Nat} (hE : E ≤ 2046) (hT : T < 2 ^ 52) : (nd E T ^^^ (9223372036854775808 : UInt64)).toNat = 2 ^ 63 + (E * 2 ^ 52 + T) := by
  rw [UInt64.toNat_xor, nd_nat (by omega) hT]
  have h : E * 2 ^ 52 + T < 2 ^ 63 := by omega
  show (E * 2 ^ 52 + T) ^^^ 2 ^ 63 = 2 ^ 63 + (E * 2 ^ 52 + T)
  apply Nat.eq_of_testBit_eq
  intro i
  rw [Nat.testBit_xor, Nat.testBit_two_pow]
  rcases Nat.lt_trichotomy i 63 with q | q | q
  · rw [Nat.testBit_two_pow_add_gt q, decide_eq_false (by omega), Bool.xor_false]
  · subst q
    rw [Nat.testBit_two_pow_add_eq, Nat.testBit_lt_two_pow h]; rfl
  · rw [decide_eq_false (by omega), Bool.xor_false, Nat.testBit_lt_two_pow (Nat.lt_trans h (Nat.pow_lt_pow_right (by omega) q)), Nat.testBit_lt_two_pow (Nat.lt_of_lt_of_le (show 2 ^ 63 + (E * 2 ^ 52 + T) < 2 ^ 64 by omega) (Nat.pow_le_pow_right (by omega) (by omega)))]
theorem dn_i64 {E T : Nat} (hE : E ≤ 2046) (hT : T < 2 ^ 52) : (nd E T).toInt64 ||| (-9223372036854775808 : Int64) = (nd E T ^^^ (9223372036854775808 : UInt64)).toInt64 := by
  apply Int64.toBitVec_inj.mp
  rw [Int64.toBitVec_or]
  show (nd E T).toBitVec ||| (9223372036854775808#64) = (nd E T).toBitVec ^^^ (9223372036854775808#64)
  apply BitVec.eq_of_toNat_eq
  have e : (nd E T).toBitVec.toNat = E * 2 ^ 52 + T := nd_nat (by omega) hT
  rw [BitVec.toNat_or, BitVec.toNat_xor, e]
  show (E * 2 ^ 52 + T) ||| 2 ^ 63 = (E * 2 ^ 52 + T) ^^^ 2 ^ 63
  have h : E * 2 ^ 52 + T < 2 ^ 63 := by omega
  apply Nat.eq_of_testBit_eq
  intro i
  rw [Nat.testBit_xor, Nat.testBit_or, Nat.testBit_two_pow]
  by_cases q : i = 63
  · subst q
    rw [Nat.testBit_lt_two_pow h]; rfl
  · rw [decide_eq_false (by omega), Bool.xor_false, Bool.or_false]
theorem b_posit (N : Nat) (hN : 3000 ≤ N) {E T : Nat} (h1 : 1 ≤ E) (hE : E ≤ 2046) (hT : T < 2 ^ 52) : fX9_bitsOf N (nd E T) = some (nd E T).toInt64 := by
  unfold fX9_bitsOf
  rw [if_pos (nd_pos h1 hE hT), b_j12 N hN h1 hE hT, if_pos (nd_pos h1 hE hT)]
theorem b_negat (N : Nat) (hN : 3000 ≤ N) {E T : Nat} (h1 : 1 ≤ E) (hE : E ≤ 2046) (hT : T < 2 ^ 52) : fX9_bitsOf N (nd E T ^^^ (9223372036854775808 : UInt64)) = some (nd E T ^^^ (9223372036854775808 : UInt64)).toInt64 := by
  have hn : FP.Core.val64 (nd E T ^^^ (9223372036854775808 : UInt64)) ≠ .nan := by
    rw [FP.Core.ne_nan, dn_nat hE hT]
    omega
  have neg : ¬ ((0 : Int32) ≤ Op.cmpValue (FP.dcmp (nd E T ^^^ (9223372036854775808 : UInt64)) FP.dconst0) .g) := by
    have q := FP.Core.dcmp_key hn (b := (0 : UInt64)) (by rw [FP.Core.val64_zero]; exact fun h => nomatch h)
    have k : FP.Core.dkey (nd E T ^^^ (9223372036854775808 : UInt64)) = -((E * 2 ^ 52 + T : Nat) : Int) := by
      unfold FP.Core.dkey
      rw [dn_nat hE hT, if_pos (by omega)]
      omega
    rw [k, show FP.Core.dkey (0 : UInt64) = 0 by decide +kernel, FP.Core.compare_ite, if_pos (by omega)] at q
    rw [nd_zero]
    have q2 : FP.dcmp (nd E T ^^^ (9223372036854775808 : UInt64)) (0 : UInt64) = some .lt := q
    rw [q2]
    decide
  have inv : FP.dneg (nd E T ^^^ (9223372036854775808 : UInt64)) = nd E T := by
    rw [dn_bits, UInt64.xor_assoc, UInt64.xor_self, UInt64.xor_zero]
  unfold fX9_bitsOf
  rw [if_neg neg, inv, b_j12 N hN h1 hE hT, if_neg neg, dn_i64 hE hT]
/-- every normal double -/
theorem b_all (N : Nat) (hN : 3000 ≤ N) {x : UInt64} (h : 2 ^ 52 ≤ x.toNat % 2 ^ 63) (h2 : x.toNat % 2 ^ 63 < 2047 * 2 ^ 52) : fX9_bitsOf N x = some x.toInt64 := by
  obtain ⟨E, hE⟩ : ∃ E, E = x.toNat % 2 ^ 63 / 2 ^ 52 := ⟨_, rfl⟩
  obtain ⟨T, hT⟩ : ∃ T, T = x.toNat % 2 ^ 63 % 2 ^ 52 := ⟨_, rfl⟩
  have t1 : T < 2 ^ 52 := by omega
  have e1 : 1 ≤ E ∧ E ≤ 2046 := by omega
  have s : E * 2 ^ 52 + T = x.toNat % 2 ^ 63 := by omega
  have xl := x.toNat_lt
  by_cases g : x.toNat < 2 ^ 63
  · have e : x = nd E T := UInt64.toNat_inj.mp (by rw [nd_nat (by omega) t1, s]; omega)
    rw [e]
    exact b_posit N hN e1.1 e1.2 t1
  · have e : x = nd E T ^^^ (9223372036854775808 : UInt64) := UInt64.toNat_inj.mp (by rw [dn_nat (by omega) t1, s]; omega)
    rw [e]
    exact b_negat N hN e1.1 e1.2 t1
