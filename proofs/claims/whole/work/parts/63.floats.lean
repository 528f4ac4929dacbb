/-! floats by their fields -/
def nf (e t : Nat) : UInt32 := UInt32.ofNat (e * 2 ^ 23 + t)
theorem nf_nat {e t : Nat} (he : e ≤ 255) (ht : t < 2 ^ 23) : (nf e t).toNat = e * 2 ^ 23 + t := by
  unfold nf
  rw [UInt32.toNat_ofNat']
  exact Nat.mod_eq_of_lt (by omega)
theorem nf_val {e t : Nat} (h1 : 1 ≤ e) (he : e ≤ 254) (ht : t < 2 ^ 23) : FP.Core.val32 (nf e t) = .fin false (2 ^ 23 + t) ((e : Int) - 150) := by
  have e1 : FP.Core.assemble FP.Core.b32 false e t = e * 2 ^ 23 + t := by
    show (0 * 2 ^ 8 + e) * 2 ^ 23 + t = e * 2 ^ 23 + t
    omega
  have e2 : FP.Core.b32.exps = 256 := by decide +kernel
  have e3 : FP.Core.b32.tails = 2 ^ 23 := by decide +kernel
  have e4 : FP.Core.b32.qmin = -149 := by decide +kernel
  have D := FP.Core.decode_assemble FP.Core.b32 false e t (by rw [e2]; omega) (by rw [e3]; exact ht)
  unfold FP.Core.val32
  rw [nf_nat (by omega) ht, ← e1, D, e2, e3, e4, if_neg (by omega), if_neg (by omega)]
  congr 1
  omega
theorem nf_nn {e t : Nat} (h1 : 1 ≤ e) (he : e ≤ 254) (ht : t < 2 ^ 23) : FP.Core.val32 (nf e t) ≠ .nan := by
  rw [nf_val h1 he ht]
  exact fun h => nomatch h
theorem nf_dbl {e t : Nat} (h1 : 1 ≤ e) (he : e ≤ 254) (ht : t < 2 ^ 23) : FP.f2d (nf e t) = nd (e + 896) (t * 2 ^ 29) := by
  have hT : t * 2 ^ 29 < 2 ^ 52 := by omega
  have v : FP.Core.val64 (FP.Core.f2d (nf e t)) = FP.Core.val64 (nd (e + 896) (t * 2 ^ 29)) := by
    rw [FP.Core.val64_f2d, nf_val h1 he ht, nd_val (by omega) (by omega) hT]
    unfold FP.Core.round
    dsimp only
    refine FP.Core.roundRatio_exact FP.Core.good_b64 (by decide) (nd_fits (by omega) (by omega) hT _) ?_
    rw [show ((e : Int) - 150 - (((e + 896 : Nat) : Int) - 1075)).toNat = 29 by omega, show ((((e + 896 : Nat) : Int) - 1075) - ((e : Int) - 150)).toNat = 0 by omega]
    omega
  have c := FP.Core.val64_inj (by rw [v]; exact nd_nn (by omega) (by omega) hT) v
  rw [FP.f2d_core ((FP.Core.notNaN_iff32 _).mpr (nf_nn h1 he ht))]
  exact c
theorem fn_nat {e t : Nat} (he : e ≤ 254) (ht : t < 2 ^ 23) : (nf e t ^^^ (2147483648 : UInt32)).toNat = 2 ^ 31 + (e * 2 ^ 23 + t) := by
  rw [UInt32.toNat_xor, nf_nat (by omega) ht]
  have h : e * 2 ^ 23 + t < 2 ^ 31 := by omega
  show (e * 2 ^ 23 + t) ^^^ 2 ^ 31 = 2 ^ 31 + (e * 2 ^ 23 + t)
  apply Nat.eq_of_testBit_eq
  intro i
  rw [Nat.testBit_xor, Nat.testBit_two_pow]
  rcases Nat.lt_trichotomy i 31 with q | q | q
  · rw [Nat.testBit_two_pow_add_gt q, decide_eq_false (by omega), Bool.xor_false]
  · subst q
    rw [Nat.testBit_two_pow_add_eq, Nat.testBit_lt_two_pow h]; rfl
  · rw [decide_eq_false (by omega), Bool.xor_false, Nat.testBit_lt_two_pow (Nat.lt_trans h (Nat.pow_lt_pow_right (by omega) q)), Nat.testBit_lt_two_pow (Nat.lt_of_lt_of_le (show 2 ^ 31 + (e * 2 ^ 23 + t) < 2 ^ 32 by omega) (Nat.pow_le_pow_right (by omega) (by omega)))]
theorem fn_i32 {e t : Nat} (he : e ≤ 254) (ht : t < 2 ^ 23) : (nf e t).toInt32 ||| (-2147483648 : Int32) = (nf e t ^^^ (2147483648 : UInt32)).toInt32 := by
  apply Int32.toBitVec_inj.mp
  rw [Int32.toBitVec_or]
  show (nf e t).toBitVec ||| (2147483648#32) = (nf e t).toBitVec ^^^ (2147483648#32)
  apply BitVec.eq_of_toNat_eq
  have q : (nf e t).toBitVec.toNat = e * 2 ^ 23 + t := nf_nat (by omega) ht
  rw [BitVec.toNat_or, BitVec.toNat_xor, q]
  show (e * 2 ^ 23 + t) ||| 2 ^ 31 = (e * 2 ^ 23 + t) ^^^ 2 ^ 31
  have h : e * 2 ^ 23 + t < 2 ^ 31 := by omega
  apply Nat.eq_of_testBit_eq
  intro i
  rw [Nat.testBit_xor, Nat.testBit_or, Nat.testBit_two_pow]
  by_cases q : i = 31
  · subst q
    rw [Nat.testBit_lt_two_pow h]; rfl
  · rw [decide_eq_false (by omega), Bool.xor_false, Bool.or_false]
theorem i_bv32 {z : Nat} (h : z < 2 ^ 31) : (zI (z : Int)).toBitVec = BitVec.ofNat 32 z := by
  show BitVec.ofInt 32 (z : Int) = BitVec.ofNat 32 z
  exact BitVec.ofInt_natCast 32 z
theorem i_or32 {e t : Nat} (he : e ≤ 254) (ht : t < 2 ^ 23) : (zI (e : Int) <<< ((23 : Int32) &&& 31)) ||| zI (t : Int) = (nf e t).toInt32 := by
  have e0 : ((23 : Int32) &&& 31) = (23 : Int32) := by decide +kernel
  apply Int32.toBitVec_inj.mp
  rw [Int32.toBitVec_or, e0, Int32.toBitVec_shiftLeft, i_bv32 (by omega), i_bv32 (by omega)]
  show (BitVec.ofNat 32 e <<< ((23 : Int32).toBitVec.smod 32#32)) ||| BitVec.ofNat 32 t = (nf e t).toBitVec
  have e1 : (23 : Int32).toBitVec.smod 32#32 = 23#32 := by decide +kernel
  rw [e1]
  apply BitVec.eq_of_toNat_eq
  have e2 : (nf e t).toBitVec.toNat = e * 2 ^ 23 + t := nf_nat (by omega) ht
  have e3 : (BitVec.ofNat 32 e <<< 23#32) = BitVec.ofNat 32 e <<< (23 : Nat) := rfl
  rw [e2, e3, BitVec.toNat_or, BitVec.toNat_shiftLeft, BitVec.toNat_ofNat, BitVec.toNat_ofNat, Nat.mod_eq_of_lt (show e < 2 ^ 32 by omega), Nat.mod_eq_of_lt (show t < 2 ^ 32 by omega), Nat.shiftLeft_eq, Nat.mod_eq_of_lt (show e * 2 ^ 23 < 2 ^ 32 by omega), ← Nat.shiftLeft_eq, ← Nat.shiftLeft_add_eq_or_of_lt ht, Nat.shiftLeft_eq]
theorem c23 : (zI ((23 : Nat) : Int)) = (23 : Int32) := by decide
theorem y_j43 (N : Nat) (hN : 3000 ≤ N) {e t : Nat} (h1 : 1 ≤ e) (he : e ≤ 254) (ht : t < 2 ^ 23) (v2 : UInt32) (ks : Int32) (a b c : Nat → Int32) : fX9_years_j43 N ks a b c v2 (nd (e + 896) (t * 2 ^ 29)) = some (if (0 : Int32) ≤ (Op.cmpValue (FP.fcmp v2 FP.fconst0) .g) then (nf e t).toInt32 else (nf e t).toInt32 ||| (-2147483648 : Int32)) := by
  have hT : t * 2 ^ 29 < 2 ^ 52 := by omega
  have F := b_frac N hN (E := e + 896) (T := t * 2 ^ 29) (g := 23) (by omega) (by omega) hT (Or.inr rfl) (some (zL (t : Int))) (by
    rw [nd_d2l (g := 23) (u := t) (by omega) (by omega) (by omega)]
    have q : (1 : Int64) <<< ((zI ((23 : Nat) : Int)).toInt64 &&& 63) = zL 8388608 := by decide +kernel
    rw [q, zL_sub]
    exact congrArg (fun z => some (zL z)) (by omega))
  rw [c23] at F
  have e1 : zI (((e + 896 : Nat) : Int) - 1023) + (127 : Int32) = zI (e : Int) := by
    rw [zl_127, zI_add]
    exact congrArg zI (by omega)
  unfold fX9_years_j43
  rw [b_pow N (by omega) (E := e + 896) (T := t * 2 ^ 29) (by omega) (by omega) hT, bd1_s, F, bd1_s, nm_s, e1, zL_toI, i_or32 he ht]
  split <;> rfl
theorem g32_fin {β : Type} {v : UInt32} {x : Option β} (h : v.toNat % 2 ^ 31 ≤ 2139095040) : g32 v x = x := by
  unfold g32
  rw [if_pos]
  refine UInt32.le_iff_toNat_le.mpr ?_
  rw [FP.Core.mask_toNat32]
  exact h
theorem bitsMf (N : Nat) {x : UInt32} (h : FP.Core.val32 x ≠ .nan) : fJxf58ca_floatToIntBits_5c35a N x = some x.toInt32 := by
  have q : FP.fcmp x x = some .eq := FP.Core.fcmp_self h
  unfold fJxf58ca_floatToIntBits_5c35a fF_nan
  rw [q, if_pos (by decide)]
/-- a float that is normal: what the class tells of it -/
theorem y_all (N : Nat) (hN : 3000 ≤ N) {f : UInt32} (h : 2 ^ 23 ≤ f.toNat % 2 ^ 31) (h2 : f.toNat % 2 ^ 31 < 255 * 2 ^ 23) (ks : Int32) (a b c : Nat → Int32) : (if (Op.cmpValue (FP.fcmp f FP.fconst0) .l) = (0 : Int32) then (some (0 : Int32)) else (if (0 : Int32) ≤ (Op.cmpValue (FP.fcmp f FP.fconst0) .g) then (g64 (FP.f2d f) (fX9_years_j43 N ks a b c f (FP.f2d f))) else (g64 (FP.f2d (FP.fneg f)) (fX9_years_j43 N ks a b c f (FP.f2d (FP.fneg f)))))) = some f.toInt32 := by
  obtain ⟨e, hE⟩ : ∃ e, e = f.toNat % 2 ^ 31 / 2 ^ 23 := ⟨_, rfl⟩
  obtain ⟨t, hT⟩ : ∃ t, t = f.toNat % 2 ^ 31 % 2 ^ 23 := ⟨_, rfl⟩
  have t1 : t < 2 ^ 23 := by omega
  have e1 : 1 ≤ e ∧ e ≤ 254 := by omega
  have s : e * 2 ^ 23 + t = f.toNat % 2 ^ 31 := by omega
  have fl := f.toNat_lt
  have hT2 : t * 2 ^ 29 < 2 ^ 52 := by omega
  have hn : FP.Core.val32 f ≠ .nan := (FP.Core.ne_nan32 f).mpr (by omega)
  have k0 : FP.Core.val32 (0 : UInt32) ≠ .nan := by rw [FP.Core.val32_zero]; exact fun h => nomatch h
  have z0 : FP.fconst0 = (0 : UInt32) := by decide +kernel
  have q := FP.Core.fcmp_key hn k0
  rw [show FP.Core.fkey (0 : UInt32) = 0 by decide +kernel, FP.Core.compare_ite] at q
  have q' : FP.fcmp f (0 : UInt32) = some (if FP.Core.fkey f < 0 then .lt else if FP.Core.fkey f = 0 then .eq else .gt) := q
  rw [z0]
  by_cases g : f.toNat < 2 ^ 31
  · have ef : f = nf e t := UInt32.toNat_inj.mp (by rw [nf_nat (by omega) t1, s]; omega)
    have k : FP.Core.fkey f = ((e * 2 ^ 23 + t : Nat) : Int) := by
      unfold FP.Core.fkey
      rw [if_neg (by omega), s]
      omega
    have q2 : FP.fcmp f (0 : UInt32) = some .gt := by rw [q', k, if_neg (by omega), if_neg (by omega)]
    have D : FP.f2d f = nd (e + 896) (t * 2 ^ 29) := by
      rw [ef]
      exact nf_dbl e1.1 e1.2 t1
    rw [q2, if_neg (by decide), if_pos (by decide), D, g64_fin (nd_fin (by omega) (by omega) hT2), y_j43 N hN e1.1 e1.2 t1, z0, q2, if_pos (by decide), ← ef]
  · have ef : f = nf e t ^^^ (2147483648 : UInt32) := UInt32.toNat_inj.mp (by rw [fn_nat (by omega) t1, s]; omega)
    have k : FP.Core.fkey f = -((e * 2 ^ 23 + t : Nat) : Int) := by
      unfold FP.Core.fkey
      rw [if_pos (by omega), s]
      omega
    have inv : FP.fneg f = nf e t := by
      rw [ef, FP.fneg_xor, UInt32.xor_assoc]
      show nf e t ^^^ ((2147483648 : UInt32) ^^^ (2147483648 : UInt32)) = nf e t
      rw [UInt32.xor_self, UInt32.xor_zero]
    have q2 : FP.fcmp f (0 : UInt32) = some .lt := by rw [q', k, if_pos (by omega)]
    rw [q2, if_neg (by decide), if_neg (by decide), inv, nf_dbl e1.1 e1.2 t1, g64_fin (nd_fin (by omega) (by omega) hT2), y_j43 N hN e1.1 e1.2 t1, z0, q2, if_neg (by decide), fn_i32 (by omega) t1, ← ef]
