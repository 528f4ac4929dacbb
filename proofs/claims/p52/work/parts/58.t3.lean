/-! signs put by fours -/
theorem bt_z {z : Int} (h : 0 ≤ z ∧ z < 2147483648) (i : Nat) : bt (zI z) i = z.toNat.testBit i := by
  obtain ⟨n, rfl⟩ : ∃ n : Nat, z = n := ⟨z.toNat, by omega⟩
  have e : (zI (n : Int)).toBitVec = BitVec.ofNat 32 n := by rw [zI_nI]; rfl
  unfold bt
  rw [e, BitVec.getLsbD_ofNat, Int.toNat_natCast]
  by_cases hi : i < 32
  · rw [decide_eq_true hi, Bool.true_and]
  · rw [decide_eq_false hi, Bool.false_and]
    have : n < 2 ^ i := Nat.lt_of_lt_of_le (show n < 2 ^ 32 by omega) (Nat.pow_le_pow_right (by omega) (by omega))
    exact (Nat.testBit_lt_two_pow this).symm
theorem by_sh (q : Nat) (hq : q < 32) {V : Int} (hV : 0 ≤ V ∧ V < 2147483648) : ((zI V).toUInt32 >>> ((nI q).toUInt32 &&& Int32.toUInt32 31)).toInt32 &&& (255 : Int32) = zI (V / 2 ^ q % 256) := by
  obtain ⟨n, rfl⟩ : ∃ n : Nat, V = n := ⟨V.toNat, by omega⟩
  have e : ((n : Int) / 2 ^ q % 256) = ((n / 2 ^ q % 2 ^ 8 : Nat) : Int) := by rw [Int.natCast_emod, Int.natCast_ediv, Int.natCast_pow]; rfl
  have hlt : n / 2 ^ q % 2 ^ 8 < 2 ^ 8 := Nat.mod_lt _ (by decide)
  have hb : ((n / 2 ^ q % 2 ^ 8 : Nat) : Int) < 256 := by omega
  rw [e]
  refine b_ext fun i hi => ?_
  rw [b_and, b_ushr q hq, b_255, bt_z hV, bt_z (by omega), Int.toNat_natCast, Int.toNat_natCast, Nat.testBit_mod_two_pow, Nat.testBit_div_two_pow, Bool.and_comm, Nat.add_comm]
theorem by_0 {V : Int} (hV : 0 ≤ V ∧ V < 2147483648) : zI V &&& (255 : Int32) = zI (V % 256) := by
  obtain ⟨n, rfl⟩ : ∃ n : Nat, V = n := ⟨V.toNat, by omega⟩
  have e : ((n : Int) % 256) = ((n % 2 ^ 8 : Nat) : Int) := by omega
  have hlt : n % 2 ^ 8 < 2 ^ 8 := Nat.mod_lt _ (by decide)
  have hb : ((n % 2 ^ 8 : Nat) : Int) < 256 := by omega
  rw [e]
  refine b_ext fun i hi => ?_
  rw [b_and, b_255, bt_z hV, bt_z (by omega), Int.toNat_natCast, Int.toNat_natCast, Nat.testBit_mod_two_pow, Bool.and_comm]
theorem or8 {V b : Int} (hV : 0 ≤ V ∧ V < 8388608) (hb : 0 ≤ b ∧ b < 256) : (zI V <<< ((8 : Int32) &&& 31)) ||| zI b = zI (256 * V + b) := by
  obtain ⟨n, rfl⟩ : ∃ n : Nat, V = n := ⟨V.toNat, by omega⟩
  obtain ⟨k, rfl⟩ : ∃ k : Nat, b = k := ⟨b.toNat, by omega⟩
  have e : 256 * (n : Int) + (k : Int) = ((2 ^ 8 * n + k : Nat) : Int) := by omega
  have hs : ((2 ^ 8 * n + k : Nat) : Int) < 2147483648 := by omega
  rw [e]
  refine b_ext fun i hi => ?_
  rw [b_or, show (8 : Int32) = nI 8 from rfl, b_shl 8 (by omega) _ hi, bt_z (by omega), bt_z (by omega), bt_z (by omega), Int.toNat_natCast, Int.toNat_natCast, Int.toNat_natCast, Nat.testBit_two_pow_mul_add n (show k < 2 ^ 8 by omega)]
  by_cases h : i < 8
  · rw [if_pos h, decide_eq_false (by omega), Bool.false_and, Bool.false_or]
  · rw [if_neg h, decide_eq_true (by omega), Bool.true_and]
    have : k < 2 ^ i := Nat.lt_of_lt_of_le (show k < 2 ^ 8 by omega) (Nat.pow_le_pow_right (by omega) (by omega))
    rw [Nat.testBit_lt_two_pow this, Bool.or_false]
def TP (m : Nat) (c : Nat → Int) (ti : Int32) (ts : Nat → Int32) : Prop := m ≤ 100 ∧ ti = zI (m : Int) ∧ ∀ k, k < m → ts k = zI (c k)
theorem TP.put {m : Nat} {c : Nat → Int} {ti : Int32} {ts : Nat → Int32} (h : TP m c ti ts) (N : Nat) (hm : m < 100) {v : Int32} (e : v = zI (c m)) : ∃ ti' ts', fX6_put N v ti ts = some (ti', ts') ∧ TP (m + 1) c ti' ts' := by
  obtain ⟨h1, h2, h3⟩ := h
  rw [h2, e_put6 N hm]
  refine ⟨_, _, rfl, by omega, rfl, fun k hk => ?_⟩
  by_cases ek : k = m
  · rw [ek, upd_s, e]
  · rw [upd_n ek, h3 k (by omega)]
theorem s_sign (N : Nat) {p1 ks ti : Int32} {ts : Nat → Int32} {m : Nat} {c : Nat → Int} (h : TP m c ti ts) (hm : m + 4 ≤ 100) (h0 : 0 ≤ c m ∧ c m ≤ 127) (h1 : 0 ≤ c (m + 1) ∧ c (m + 1) ≤ 127) (h2 : 0 ≤ c (m + 2) ∧ c (m + 2) ≤ 127) (h3 : 0 ≤ c (m + 3) ∧ c (m + 3) ≤ 127) (e1 : p1 = zI (256 * (256 * (256 * c m + c (m + 1)) + c (m + 2)) + c (m + 3))) : ∃ r ti' ts', fX9_sign N p1 ks ti ts = some (r, ti', ts') ∧ TP (m + 4) c ti' ts' := by
  obtain ⟨V, hV⟩ : ∃ V, V = 256 * (256 * (256 * c m + c (m + 1)) + c (m + 2)) + c (m + 3) := ⟨_, rfl⟩
  rw [← hV] at e1
  subst e1
  have bV : 0 ≤ V ∧ V < 2147483648 := by omega
  have y0 := by_sh 24 (by omega) bV
  have y1 := by_sh 16 (by omega) bV
  have y2 := by_sh 8 (by omega) bV
  have y3 := by_0 bV
  rw [show V / 2 ^ 24 % 256 = c m by omega] at y0
  rw [show V / 2 ^ 16 % 256 = c (m + 1) by omega] at y1
  rw [show V / 2 ^ 8 % 256 = c (m + 2) by omega] at y2
  rw [show V % 256 = c (m + 3) by omega] at y3
  have y0 : ((zI V).toUInt32 >>> ((24 : Int32).toUInt32 &&& Int32.toUInt32 31)).toInt32 &&& (255 : Int32) = zI (c m) := y0
  have y1 : ((zI V).toUInt32 >>> ((16 : Int32).toUInt32 &&& Int32.toUInt32 31)).toInt32 &&& (255 : Int32) = zI (c (m + 1)) := y1
  have y2 : ((zI V).toUInt32 >>> ((8 : Int32).toUInt32 &&& Int32.toUInt32 31)).toInt32 &&& (255 : Int32) = zI (c (m + 2)) := y2
  obtain ⟨t1, s1, e1, T1⟩ := h.put N (by omega) y0
  obtain ⟨t2, s2, e2, T2⟩ := T1.put N (by omega) y1
  obtain ⟨t3, s3, e3, T3⟩ := T2.put N (by omega) y2
  obtain ⟨t4, s4, e4, T4⟩ := T3.put N (by omega) y3
  unfold fX9_sign fX6_length
  rw [bd1_s, h.2.1, zl_4, zI_add, if_pos (i_le (b := 100) (by decide) (by omega)), ← h.2.1, e1, bd2_s, e2, bd2_s, e3, bd2_s, e4, bd2_s, bd1_s]
  exact ⟨_, _, _, rfl, T4⟩
theorem s_end (N : Nat) {p1 ks ti : Int32} {ts : Nat → Int32} {m n : Nat} {c : Nat → Int} (h : TP m c ti ts) (e1 : p1 = zI (n : Int)) (hn : n ≤ m) : ∃ r ti', fX9_end N p1 ks ti = some (r, ti') ∧ TP n c ti' ts := by
  subst e1
  obtain ⟨h1, h2, h3⟩ := h
  subst h2
  unfold fX9_end fX6_length fX6_cut
  rw [if_neg (i_nlt (b := 0) (by decide) (by omega)), bd1_s, if_pos (i_le rfl (by omega)), if_neg (i_nlt (b := 0) (by decide) (by omega)), if_neg (i_nlt rfl (by omega)), bd1_s]
  exact ⟨_, _, rfl, by omega, rfl, fun k hk => h3 k (by omega)⟩
theorem TP.tl {l : List Int} {ti : Int32} {ts : Nat → Int32} (h : TP l.length (fun k => l.getD k 0) ti ts) : TL l ti ts := h
