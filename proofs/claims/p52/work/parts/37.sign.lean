/-! the text: signs (the first family is pasted from the kit's rows on bits) -/
def bt (x : Int32) (i : Nat) : Bool := x.toBitVec.getLsbD i
theorem b_ext {x y : Int32} (h : ∀ i, i < 32 → bt x i = bt y i) : x = y := Int32.toBitVec_inj.mp (BitVec.eq_of_getLsbD_eq (fun i hi => h i hi))
theorem b_or (x y : Int32) (i : Nat) : bt (x ||| y) i = (bt x i || bt y i) := by unfold bt; rw [Int32.toBitVec_or, BitVec.getLsbD_or]
theorem b_and (x y : Int32) (i : Nat) : bt (x &&& y) i = (bt x i && bt y i) := by unfold bt; rw [Int32.toBitVec_and, BitVec.getLsbD_and]
theorem b_xor (x y : Int32) (i : Nat) : bt (x ^^^ y) i = (bt x i ^^ bt y i) := by unfold bt; rw [Int32.toBitVec_xor, BitVec.getLsbD_xor]
theorem b_big {x : Int32} {i : Nat} (h : 32 ≤ i) : bt x i = false := BitVec.getLsbD_of_ge _ _ h
theorem b_255 (i : Nat) : bt 255 i = decide (i < 8) := by
  rcases Nat.lt_or_ge i 32 with h | h
  · exact (by decide +kernel : ∀ i, i < 32 → bt 255 i = decide (i < 8)) i h
  · rw [b_big h, decide_eq_false (by omega)]
theorem s_l : ∀ n, n < 32 → ((nI n &&& 31).toBitVec.smod 32).toNat = n := by decide +kernel
theorem s_u : ∀ n, n < 32 → (((nI n).toUInt32 &&& Int32.toUInt32 31).toBitVec % 32).toNat = n := by decide +kernel
theorem b_ushr (n : Nat) (hn : n < 32) (x : Int32) (i : Nat) : bt ((x.toUInt32 >>> ((nI n).toUInt32 &&& Int32.toUInt32 31)).toInt32) i = bt x (n + i) := by
  show (x.toUInt32 >>> ((nI n).toUInt32 &&& Int32.toUInt32 31)).toBitVec.getLsbD i = x.toUInt32.toBitVec.getLsbD (n + i)
  rw [UInt32.toBitVec_shiftRight]
  show (x.toUInt32.toBitVec >>> (((nI n).toUInt32 &&& Int32.toUInt32 31).toBitVec % 32).toNat).getLsbD i = _
  rw [s_u n hn, BitVec.getLsbD_ushiftRight]
theorem b_sshr (n : Nat) (hn : n < 32) (x : Int32) {i : Nat} (hi : i < 32) : bt (x >>> (nI n &&& 31)) i = if n + i < 32 then bt x (n + i) else bt x 31 := by
  unfold bt
  rw [Int32.toBitVec_shiftRight]
  show (x.toBitVec.sshiftRight ((nI n &&& 31).toBitVec.smod 32).toNat).getLsbD i = _
  rw [s_l n hn, BitVec.getLsbD_sshiftRight, BitVec.msb_eq_getLsbD_last]
  simp [hi]
theorem bp_b (x : Int32) : x.toInt8.toInt32 &&& 255 = x &&& 255 := by
  apply Int32.toBitVec_inj.mp
  rw [Int32.toBitVec_and, Int32.toBitVec_and, Int8.toBitVec_toInt32, Int32.toBitVec_toInt8]
  apply BitVec.eq_of_getLsbD_eq
  intro i hi
  rw [BitVec.getLsbD_and, BitVec.getLsbD_and]
  have hm : ∀ i < 32, 8 ≤ i → (255 : Int32).toBitVec.getLsbD i = false := by decide
  rcases Nat.lt_or_ge i 8 with z | z
  · rw [BitVec.getLsbD_signExtend, BitVec.getLsbD_signExtend, if_pos z, if_pos hi]
    simp only [z, hi, decide_true, Bool.true_and]
  · rw [hm i hi z]; simp
theorem sg_tab : (List.range 256).all (fun k => decide (zI ((k : Int) - 128) &&& (255 : Int32) = zI (((k : Int) - 128) % 256))) = true := by decide +kernel
theorem sg_byte (x : Int32) {q : Nat} (hq : q ≤ 24) : ∃ c : Int, (0 ≤ c ∧ c ≤ 255) ∧ ((x.toUInt32 >>> ((nI q).toUInt32 &&& Int32.toUInt32 31)).toInt32 &&& (255 : Int32)) = zI c ∧ vp_nar .byte ((x >>> (nI q &&& 31)).toInt8.toInt32) = zI (sp_byte c) := by
  obtain ⟨y, hy⟩ : ∃ y, y = x >>> (nI q &&& 31) := ⟨_, rfl⟩
  have e1 : ((x.toUInt32 >>> ((nI q).toUInt32 &&& Int32.toUInt32 31)).toInt32 &&& (255 : Int32)) = y &&& 255 := by
    refine b_ext fun i hi => ?_
    rw [b_and, b_and, b_255, hy]
    by_cases h : i < 8
    · rw [b_ushr q (by omega), b_sshr q (by omega) x hi, if_pos (by omega)]
    · rw [decide_eq_false h, Bool.and_false, Bool.and_false]
  rw [e1, ← hy, ← bp_b y]
  obtain ⟨t, l1, l2, ht⟩ := zI_of (y.toInt8.toInt32)
  have e2 : y.toInt8.toInt = t := by
    have := Int8.toInt_toInt32 y.toInt8
    rw [ht, zI_int l1 l2] at this
    exact this.symm
  have b1 := Int8.le_toInt y.toInt8
  have b2 := Int8.toInt_lt y.toInt8
  rw [e2] at b1 b2
  have e3 := List.all_eq_true.mp sg_tab (t + 128).toNat (List.mem_range.mpr (by omega))
  have e4 := of_decide_eq_true e3
  rw [show (((t + 128).toNat : Int) - 128) = t by omega] at e4
  refine ⟨t % 256, by omega, by rw [ht, e4], ?_⟩
  rw [vp_nar_byte, Int8.toInt8_toInt32, ht]
  congr 1
  unfold sp_byte
  split <;> omega
theorem e_put6 (N : Nat) {n : Nat} (hn : n < 100) (v : Int32) (ts : Nat → Int32) : fX6_put N v (zI n) ts = some (zI ((n + 1 : Nat) : Int), upd ts n v) := by
  unfold fX6_put
  rw [if_neg (i_nlt (b := 0) (by decide) (by omega)), if_neg (i_nge' (b := 100) (by decide) (by omega)), gi_z (by omega) (by omega) (by omega), zI_cl (by omega) (by omega), tn1, show zI (n : Int) + (1 : Int32) = zI ((n + 1 : Nat) : Int) by rw [zl_1, zI_add]; rfl]
