/-! the text: signs (the first family is pasted from the kit's rows on bits) -/
def bt (x : Int32) (i : Nat) : Bool := x.toBitVec.getLsbD i
theorem b_ext {x y : Int32} (h : ∀ i, i < 32 → bt x i = bt y i) : x = y := Int32.toBitVec_inj.mp (BitVec.eq_of_getLsbD_eq (fun i hi => h i hi))
theorem b_or (x y : Int32) (i : Nat) : bt (x ||| y) i = (bt x i || bt y i) := by unfold bt; rw [Int32.toBitVec_or, BitVec.getLsbD_or]
theorem b_and (x y : Int32) (i : Nat) : bt (x &&& y) i = (bt x i && bt y i) := by unfold bt; rw [Int32.toBitVec_and, BitVec.getLsbD_and]
theorem b_xor (x y : Int32) (i : Nat) : bt (x ^^^ y) i = (bt x i ^^ bt y i) := by unfold bt; rw [Int32.toBitVec_xor, BitVec.getLsbD_xor]
theorem b_big {x : Int32} {i : Nat} (h : 32 ≤ i) : bt x i = false := BitVec.getLsbD_of_ge _ _ h
theorem b_255 (i : Nat) : bt 255 i = decide (i < 8) := by
  rcases Nat.lt_or_ge i 32 with h | h
  · exact (by decide +kernel : ∀ i, i < 32 → bt 255 i = decide (i < 8)) i h
  · rw [b_big h, decide_eq_false (by omega)]
theorem s_l : ∀ n, n < 32 → ((nI n &&& 31).toBitVec.smod 32).toNat = n := by decide +kernel
theorem s_u : ∀ n, n < 32 → (((nI n).toUInt32 &&& Int32.toUInt32 31).toBitVec % 32).toNat = n := by decide +kernel
theorem b_ushr (n : Nat) (hn : n < 32) (x : Int32) (i : Nat) : bt ((x.toUInt32 >>> ((nI n).toUInt32 &&& Int32.toUInt32 31)).toInt32) i = bt x (n + i) := by
  show (x.toUInt32 >>> ((nI n).toUInt32 &&& Int32.toUInt32 31)).toBitVec.getLsbD i = x.toUInt32.toBitVec.getLsbD (n + i)
  rw [UInt32.toBitVec_shiftRight]
  show (x.toUInt32.toBitVec >>> (((nI n).toUInt32 &&& Int32.toUInt32 31).toBitVec % 32).toNat).getLsbD i = _
  rw [s_u n hn, BitVec.getLsbD_ushiftRight]
theorem b_sshr (n : Nat) (hn : n < 32) (x : Int32) {i : Nat} (hi : i < 32) : bt (x >>> (nI n &&& 31)) i = if n + i < 32 then bt x (n + i) else bt x 31 := by
  unfold bt
  rw [Int32.toBitVec_shiftRight]
  show (x.toBitVec.sshiftRight ((nI n &&& 31).toBitVec.smod 32).toNat).getLsbD i = _
  rw [s_l n hn, BitVec.getLsbD_sshiftRight, BitVec.msb_eq_getLsbD_last]
  simp [hi]
theorem bp_b (x : Int32) : x.toInt8.toInt32 &&& 255 = x &&& 255 := by
  apply Int32.toBitVec_inj.mp
  rw [Int32.toBitVec_and, Int32.toBitVec_and, Int8.toBitVec_toInt32, Int32.toBitVec_toInt8]
  apply BitVec.eq_of_getLsbD_eq
  intro i hi
  rw [BitVec.getLsbD_and, BitVec.getLsbD_and]
  have hm : ∀ i < 32, 8 ≤ i → (255 : Int32).toBitVec.getLsbD i = false := by decide
  rcases Nat.lt_or_ge i 8 with z | z
  · rw [BitVec.getLsbD_signExtend, BitVec.getLsbD_signExtend, if_pos z, if_pos hi]
    simp only [z, hi, decide_true, Bool.true_and]
  · rw [hm i hi z]; simp
theorem sg_tab : (List.range 256).all (fun k => decide (zI ((k : Int) - 128) &&& (255 : Int32) = zI (((k : Int) - 128) % 256))) = true := by decide +kernel
theorem sg_byte (x : Int32) {q : Nat} (hq : q ≤ 24) : ∃ c : Int, (0 ≤ c ∧ c ≤ 255) ∧ ((x.toUInt32 >>> ((nI q).toUInt32 &&& Int32.toUInt32 31)).toInt32 &&& (255 : Int32)) = zI c ∧ vp_nar .byte ((x >>> (nI q &&& 31)).toInt8.toInt32) = zI (sp_byte c) := by
  obtain ⟨y, hy⟩ : ∃ y, y = x >>> (nI q &&& 31) := ⟨_, rfl⟩
  have e1 : ((x.toUInt32 >>> ((nI q).toUInt32 &&& Int32.toUInt32 31)).toInt32 &&& (255 : Int32)) = y &&& 255 := by
    refine b_ext fun i hi => ?_
    rw [b_and, b_and, b_255, hy]
    by_cases h : i < 8
    · rw [b_ushr q (by omega), b_sshr q (by omega) x hi, if_pos (by omega)]
    · rw [decide_eq_false h, Bool.and_false, Bool.and_false]
  rw [e1, ← hy, ← bp_b y]
  obtain ⟨t, l1, l2, ht⟩ := zI_of (y.toInt8.toInt32)
  have e2 : y.toInt8.toInt = t := by
    have := Int8.toInt_toInt32 y.toInt8
    rw [ht, zI_int l1 l2] at this
    exact this.symm
  have b1 := Int8.le_toInt y.toInt8
  have b2 := Int8.toInt_lt y.toInt8
  rw [e2] at b1 b2
  have e3 := List.all_eq_true.mp sg_tab (t + 128).toNat (List.mem_range.mpr (by omega))
  have e4 := of_decide_eq_true e3
  rw [show (((t + 128).toNat : Int) - 128) = t by omega] at e4
  refine ⟨t % 256, by omega, by rw [ht, e4], ?_⟩
  rw [vp_nar_byte, Int8.toInt8_toInt32, ht]
  congr 1
  unfold sp_byte
  split <;> omega
theorem e_put6 (N : Nat) {n : Nat} (hn : n < 100) (v : Int32) (ts : Nat → Int32) : fX6_put N v (zI n) ts = some (zI ((n + 1 : Nat) : Int), upd ts n v) := by
  unfold fX6_put
  rw [if_neg (i_nlt (b := 0) (by decide) (by omega)), if_neg (i_nge' (b := 100) (by decide) (by omega)), gi_z (by omega) (by omega) (by omega), zI_cl (by omega) (by omega), tn1, show zI (n : Int) + (1 : Int32) = zI ((n + 1 : Nat) : Int) by rw [zl_1, zI_add]; rfl]
theorem e_l20 (N : Nat) {j : Nat → Int64} {n : Nat} (hn : n < 100) (f : Nat) (x v2 v2' : Int32) (hv : ¬ v2 < (0 : Int32)) (hv' : v2 + (-1 : Int32) = v2') {i T : Nat → Int32} (r6 : i 6 = zI n) : fX10_sign_l20 N j (f + 1) x v2 i T = fX10_sign_l20 N j f x v2' (upd i 6 (zI ((n + 1 : Nat) : Int))) (upd T n (vp_nar .byte ((x >>> (((8 : Int32) * v2) &&& 31)).toInt8.toInt32))) := by
  rw [fX10_sign_l20_s, if_neg hv, r6, gi_z (by omega) (by omega) (by omega), nm_s, hv', zI_cl (by omega) (by omega), tn1, show zI (n : Int) + (1 : Int32) = zI ((n + 1 : Nat) : Int) by rw [zl_1, zI_add]; rfl]
theorem p_sign (N : Nat) (hN : 200000 ≤ N) (p1 : Int32) {ks : Int32} {ti : Int32} {ts : Nat → Int32} {i : Nat → Int32} {j : Nat → Int64} {T : Nat → Int32} (hT : RelT ti ts i T) : 
    ∃ (r : Int32) (ti' : Int32) (ts' : Nat → Int32) (i' : Nat → Int32) (T' : Nat → Int32), fX9_sign N p1 ks ti ts = some (r, ti', ts') ∧ fX10_sign N p1 i j T = some (r, i', T') ∧ RelT ti' ts' i' T' ∧ i' 4 = i 4 ∧ i' 8 = i 8 := by
  obtain ⟨n, c, hn, rfl, r6, hc⟩ := hT
  unfold fX9_sign fX10_sign fX6_length
  rw [bd1_s, r6, show zI (n : Int) + (4 : Int32) = zI (n + 4) by rw [zl_4, zI_add]]
  by_cases h : n + 4 ≤ 100
  case neg =>
    rw [if_neg (i_nle (b := 100) (by decide) (by omega)), if_neg (i_nle (b := 100) (by decide) (by omega))]
    exact ⟨_, _, _, _, _, rfl, rfl, ⟨n, c, hn, rfl, by rw [upd_n (by omega), r6], hc⟩, by simp (disch := omega) only [upd_n], by simp (disch := omega) only [upd_n]⟩
  rw [if_pos (i_le (b := 100) (by decide) (by omega)), if_pos (i_le (b := 100) (by decide) (by omega))]
  obtain ⟨c3, b3, e3, g3⟩ := sg_byte p1 (q := 24) (by omega)
  obtain ⟨c2, b2, e2, g2⟩ := sg_byte p1 (q := 16) (by omega)
  obtain ⟨c1, b1, e1, g1⟩ := sg_byte p1 (q := 8) (by omega)
  obtain ⟨c0, b0, e0, g0⟩ := sg_byte p1 (q := 0) (by omega)
  have e0' : p1 &&& (255 : Int32) = zI c0 := by
    rw [← e0]
    refine congrArg (fun y => y &&& (255 : Int32)) (b_ext fun i hi => ?_)
    rw [b_ushr 0 (by omega), Nat.zero_add]
  have e1' : ((p1.toUInt32 >>> ((8 : Int32).toUInt32 &&& Int32.toUInt32 31)).toInt32) &&& (255 : Int32) = zI c1 := e1
  have e2' : ((p1.toUInt32 >>> ((16 : Int32).toUInt32 &&& Int32.toUInt32 31)).toInt32) &&& (255 : Int32) = zI c2 := e2
  have e3' : ((p1.toUInt32 >>> ((24 : Int32).toUInt32 &&& Int32.toUInt32 31)).toInt32) &&& (255 : Int32) = zI c3 := e3
  have s3 : ((8 : Int32) * (3 : Int32)) &&& 31 = nI 24 &&& 31 := by decide
  have s2 : ((8 : Int32) * (2 : Int32)) &&& 31 = nI 16 &&& 31 := by decide
  have s1 : ((8 : Int32) * (1 : Int32)) &&& 31 = nI 8 &&& 31 := by decide
  have s0 : ((8 : Int32) * (0 : Int32)) &&& 31 = nI 0 &&& 31 := by decide
  rw [e3', e2', e1', e0', e_put6 N (by omega), bd2_s, e_put6 N (by omega), bd2_s, e_put6 N (by omega), bd2_s, e_put6 N (by omega), bd2_s, bd1_s]
  obtain ⟨M, hM⟩ : ∃ M, M = N := ⟨_, rfl⟩
  have hl : fX10_sign_l20 N j N p1 (3 : Int32) (upd i 9 (0 : Int32)) T = some (zI ((n + 1 + 1 + 1 + 1 : Nat) : Int), upd (upd (upd (upd (upd i 9 (0 : Int32)) 6 (zI ((n + 1 : Nat) : Int))) 6 (zI ((n + 1 + 1 : Nat) : Int))) 6 (zI ((n + 1 + 1 + 1 : Nat) : Int))) 6 (zI ((n + 1 + 1 + 1 + 1 : Nat) : Int)), upd (upd (upd (upd T n (zI (sp_byte c3))) (n + 1) (zI (sp_byte c2))) (n + 1 + 1) (zI (sp_byte c1))) (n + 1 + 1 + 1) (zI (sp_byte c0))) := by
    obtain ⟨f, rfl⟩ : ∃ f, N = f + 5 := ⟨N - 5, by omega⟩
    rw [e_l20 (f + 5) (show n < 100 by omega) (f + 4) p1 (3 : Int32) (2 : Int32) (by decide) (by decide) (by rw [upd_n (by omega), r6]), s3, g3]
    rw [e_l20 (f + 5) (show n + 1 < 100 by omega) (f + 3) p1 (2 : Int32) (1 : Int32) (by decide) (by decide) upd_s, s2, g2]
    rw [e_l20 (f + 5) (show n + 1 + 1 < 100 by omega) (f + 2) p1 (1 : Int32) (0 : Int32) (by decide) (by decide) upd_s, s1, g1]
    rw [e_l20 (f + 5) (show n + 1 + 1 + 1 < 100 by omega) (f + 1) p1 (0 : Int32) (-1 : Int32) (by decide) (by decide) upd_s, s0, g0]
    rw [fX10_sign_l20_s, if_pos (by decide), upd_s]
  rw [hl]
  refine ⟨_, _, _, _, _, rfl, rfl, ⟨n + 4, fun k => if k = n then c3 else if k = n + 1 then c2 else if k = n + 2 then c1 else if k = n + 3 then c0 else c k, by omega, rfl, upd_s, fun k hk => ?_⟩, by simp (disch := omega) only [upd_n], by simp (disch := omega) only [upd_n]⟩
  dsimp only
  by_cases k0 : k = n
  · subst k0
    rw [if_pos rfl, upd_n (by omega), upd_n (by omega), upd_n (by omega), upd_s, upd_n (by omega), upd_n (by omega), upd_n (by omega), upd_s]
    exact ⟨rfl, rfl, b3⟩
  rw [if_neg k0]
  by_cases k1 : k = n + 1
  · subst k1
    rw [if_pos rfl, upd_n (by omega), upd_n (by omega), upd_s, upd_n (by omega), upd_n (by omega), upd_s]
    exact ⟨rfl, rfl, b2⟩
  rw [if_neg k1]
  by_cases k2 : k = n + 2
  · subst k2
    rw [if_pos rfl, upd_n (by omega), upd_s, upd_n (by omega), upd_s]
    exact ⟨rfl, rfl, b1⟩
  rw [if_neg k2]
  by_cases k3 : k = n + 3
  · subst k3
    rw [if_pos rfl, upd_s, upd_s]
    exact ⟨rfl, rfl, b0⟩
  rw [if_neg k3, upd_n (by omega), upd_n (by omega), upd_n (by omega), upd_n (by omega), upd_n (by omega), upd_n (by omega), upd_n (by omega), upd_n (by omega)]
  exact hc k (by omega)
