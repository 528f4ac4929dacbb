/-! the law's joins, from the last to the first: each comes to true -/
def LI (dd ss mm da se : Nat → Int) (ti ci : Int32) (f g a b c ad ot : Nat → Int32) : Prop := DM dd ss f g ∧ DS mm da se a b c ∧ ti = 0 ∧ RelC ci ∧ AdW ad ∧ AdW ot
abbrev LKT := Int32 → Int32 → (Nat → Int32) → (Nat → Int32) → (Nat → Int32) → (Nat → Int32) → (Nat → Int32) → (Nat → Int32) → (Nat → Int32) → (Nat → Int32) → (Nat → Int32) → (Nat → Int32) → Int32 → (Nat → Int64) → Int32 → (Nat → Int32) → Int32 → (Nat → Int32) → (Nat → Int32) → (Nat → Int32) → (Nat → Int32) → (Nat → Int32) → Option Int32
def LKp (K : LKT) (k : Int) : Prop := ∀ (ks tl ti ci : Int32) (nn : Nat → Int64) (f g a b c f2 g2 a2 b2 c2 ts cs mr sr ad ot : Nat → Int32) (dd ss mm da se : Nat → Int), LI dd ss mm da se ti ci f g a b c ad ot → K (zI (k + 1)) ks f g a b c f2 g2 a2 b2 c2 tl nn ti ts ci cs mr sr ad ot = some 1
theorem and_m (x : Int32) (m : Nat) (hm : m < 2147483648) : ∃ z : Int, (0 ≤ z ∧ z ≤ m) ∧ x &&& zI (m : Int) = zI z := by
  have em : (zI (m : Int)).toBitVec.toNat = m := by
    rw [zI_nI]
    show (BitVec.ofNat 32 m).toNat = m
    rw [BitVec.toNat_ofNat]
    omega
  have e : (x &&& zI (m : Int)).toBitVec.toNat ≤ m := by
    rw [Int32.toBitVec_and, BitVec.toNat_and, em]
    exact Nat.and_le_right
  generalize x &&& zI (m : Int) = y at e ⊢
  have h1 : y.toInt = (y.toBitVec.toNat : Int) := by
    show y.toBitVec.toInt = _
    rw [BitVec.toInt_eq_toNat_of_lt (by omega)]
  exact ⟨(y.toBitVec.toNat : Int), by omega, by rw [← h1]; exact (Int32.ofInt_toInt y).symm⟩
theorem ushr_b (q : Nat) (hq : q < 32) (h0 : 1 ≤ q) (x : Int32) : ∃ z : Int, (0 ≤ z ∧ z ≤ 2147483647) ∧ (x.toUInt32 >>> ((nI q).toUInt32 &&& Int32.toUInt32 31)).toInt32 = zI z := by
  have hb : bt ((x.toUInt32 >>> ((nI q).toUInt32 &&& Int32.toUInt32 31)).toInt32) 31 = false := by
    rw [b_ushr q hq, b_big (by omega)]
  generalize (x.toUInt32 >>> ((nI q).toUInt32 &&& Int32.toUInt32 31)).toInt32 = y at hb ⊢
  have hm : y.toBitVec.msb = false := by rw [BitVec.msb_eq_getLsbD_last]; exact hb
  have h1 : y.toInt = (y.toBitVec.toNat : Int) := by
    show y.toBitVec.toInt = _
    exact BitVec.toInt_eq_toNat_of_msb hm
  have h2 := Int32.toInt_lt y
  exact ⟨(y.toBitVec.toNat : Int), by omega, by rw [← h1]; exact (Int32.ofInt_toInt y).symm⟩
theorem g_j1194 {N : Nat} (hN : 200000 ≤ N) {xc : Int32 → Int32} {K : LKT} {k : Int} (hK : LKp K k) {ks tl ti ci : Int32} {nn : Nat → Int64} {f g a b c f2 g2 a2 b2 c2 ts cs mr sr ad ot : Nat → Int32} {dd ss mm da se : Nat → Int} (h : LI dd ss mm da se ti ci f g a b c ad ot)   : fL_law_j1194 N xc K (zI k) ks f g a b c f2 g2 a2 b2 c2 tl nn ti ts ci cs mr sr ad ot = some 1 := by
  obtain ⟨hM, hS, h0, hC, had, hot⟩ := h
  unfold fL_law_j1194
  rw [nm_s, zl_1, zI_add]
  exact hK _ _ _ _ _ _ _ _ _ _ _ _ _ _ _ _ _ _ _ _ _ _ _ _ _ _ ⟨hM, hS, h0, hC, had, hot⟩
theorem g_j1155 {N : Nat} (hN : 200000 ≤ N) {xc : Int32 → Int32} {K : LKT} {k : Int} (hK : LKp K k) {ks tl ti ci : Int32} {nn : Nat → Int64} {f g a b c f2 g2 a2 b2 c2 ts cs mr sr ad ot : Nat → Int32} {dd ss mm da se : Nat → Int} (h : LI dd ss mm da se ti ci f g a b c ad ot)   : fL_law_j1155 N xc K (zI k) (zI (dd 0)) ks f g a b c f2 g2 a2 b2 c2 tl nn ti ts ci cs mr sr ad ot = some 1 := by
  obtain ⟨hM, hS, h0, hC, had, hot⟩ := h
  obtain ⟨x1, x2, x3, x4, x5, e1, M1, S1⟩ := s_keeps N hN (ks := ks) (f2 := f2) (g2 := g2) (a2 := a2) (b2 := b2) (c2 := c2) hM hS
  obtain ⟨y1, y2, e2, M2⟩ := s_sets N (ks := 1) hM (p1 := 0) (p2 := 1) (p3 := 1) (k := 0) (x := 1) (t := 1) (by decide) (by decide) (by decide) (by omega) (by omega) (by omega)
  obtain ⟨w1, w2, w3, w4, w5, e3, M3, S3⟩ := s_back N hN (f := y1) (g := y2) (a := a) (b := b) (c := c) M1 S1
  unfold fL_law_j1155
  rw [e1, bd7_s, if_neg (by decide), e2, bd3_s, if_pos rfl, e3, bd6_s, if_neg (by decide), s_mI0 N M3 (p1 := 0) (k := 0) (by decide) (by omega), bd1_s, if_pos rfl]
  exact g_j1194 hN hK ⟨M3, S3, h0, hC, had, hot⟩
theorem g_j1091 {N : Nat} (hN : 200000 ≤ N) {xc : Int32 → Int32} {K : LKT} {k : Int} (hK : LKp K k) {ks tl ti ci : Int32} {nn : Nat → Int64} {f g a b c f2 g2 a2 b2 c2 ts cs mr sr ad ot : Nat → Int32} {dd ss mm da se : Nat → Int} (h : LI dd ss mm da se ti ci f g a b c ad ot)   : fL_law_j1091 N xc K (zI k) (zI (dd 0)) ks f g a b c f2 g2 a2 b2 c2 tl nn ti ts ci cs mr sr ad ot = some 1 := by
  obtain ⟨hM, hS, h0, hC, had, hot⟩ := h
  obtain ⟨f1, f2', f5, f6⟩ := hM 0 (by omega)
  obtain ⟨r, y1, y2, tl1, nn1, e1, e2⟩ := s_shifts N hN (ks := ks) (tl := tl) (nn := nn) hM (p1 := 0) (p3 := 6) (k1 := 0) (k3 := 6) (by decide) (by decide) (by omega) (by omega)
  unfold fL_law_j1091
  rw [e1, bd5_s]
  rcases e2 with ⟨rfl, M1⟩ | ⟨z, rfl, bz, M1, m4, b5, w0, rfl⟩
  · rw [if_pos (i_lt (b := 0) (by decide) (by omega))]
    exact g_j1155 hN hK ⟨M1, hS, h0, hC, had, hot⟩
  · have er := s_row N (p1 := 0) (ks := ks) (tl := zI 1) (nn := nn1) (k := 0) (n := 1) (by decide) rfl (by omega) (by omega)
    rw [if_neg (i_nlt (b := 0) (by decide) (by omega)), s_mI3 N M1 (p1 := 6) (k := 6) (by decide) (by omega), bd1_s, zup_s, if_neg (i_ngt (b := 4) (by decide) (by omega)), zI_sub, if_neg (i_nlt (b := 5) (by decide) (by omega)), if_neg (i_ngt (b := 8) (by decide) (by omega)), er, bd1_s, w0, zl_5, zI_sub, zI_toL (by omega) (by omega), if_pos (k_eq rfl)]
    exact g_j1155 hN hK (dd := zup dd 6 z) (ss := zup ss 6 (ss 0)) ⟨M1, hS, h0, hC, had, hot⟩
theorem g_j1033 {N : Nat} (hN : 200000 ≤ N) {xc : Int32 → Int32} {K : LKT} {k : Int} (hK : LKp K k) {ks tl ti ci : Int32} {nn : Nat → Int64} {f g a b c f2 g2 a2 b2 c2 ts cs mr sr ad ot : Nat → Int32} {dd ss mm da se : Nat → Int} (h : LI dd ss mm da se ti ci f g a b c ad ot)   : fL_law_j1033 N xc K (zI k) (zI (dd 0)) ks f g a b c f2 g2 a2 b2 c2 tl nn ti ts ci cs mr sr ad ot = some 1 := by
  obtain ⟨hM, hS, h0, hC, had, hot⟩ := h
  obtain ⟨f1, f2', f5, f6⟩ := hM 0 (by omega)
  obtain ⟨g4, g5, g6, g7⟩ := sp_all f5.1 f5.2
  have g8 := mlen_b (sp_Y (dd 0)) (sp_M (dd 0))
  obtain ⟨d1, d2, d4⟩ := ymd f5.1 f5.2
  obtain ⟨z, hz⟩ : ∃ z, z = sp_date (dd 0) := ⟨_, rfl⟩
  have hz' : z = sp_Y (dd 0) * 10000 + sp_M (dd 0) * 100 + sp_D (dd 0) := hz
  rw [← hz'] at d1 d2 d4
  have bz : 0 ≤ z ∧ z ≤ 100000000 := by omega
  have e1 : zI z / 10000 = zI (sp_Y (dd 0)) := by rw [zl_10000, zI_div (by omega) (by omega) (by omega) (by omega), d1]
  have e2 : zI z / 100 = zI (z / 100) := by rw [zl_100, zI_div (by omega) (by omega) (by omega) (by omega)]
  have e3 : zI z / 100 - zI z / 100 / 100 * 100 = zI (sp_M (dd 0)) := by rw [e2, zl_100, zI_div (by omega) (by omega) (by omega) (by omega), zI_mul, zI_sub, mod_fold, d2]
  have e4 : (1 : Int32) + ((zI z - zI z / 100 * 100) - 1) / 7 = zI (1 + (sp_D (dd 0) - 1) / 7) := by rw [e2, zl_100, zl_1, zl_7, zI_mul, zI_sub, mod_fold, d4, zI_sub, zI_div (by omega) (by omega) (by omega) (by omega), zI_add]
  have e5 : zI (dd 0) - zI (dd 0) / 7 * 7 = zI (dd 0 % 7) := by rw [zl_7, zI_div (by omega) (by omega) (by omega) (by omega), zI_mul, zI_sub, mod_fold]
  unfold fL_law_j1033
  rw [s_date N rfl f5]
  simp only [bd1_s]
  rw [← hz, e1, e3, e5, e4, s_nth N f5 rfl rfl rfl rfl, bd1_s, if_pos rfl]
  exact g_j1091 hN hK ⟨hM, hS, h0, hC, had, hot⟩
theorem g_j986 {N : Nat} (hN : 200000 ≤ N) {xc : Int32 → Int32} {K : LKT} {k : Int} (hK : LKp K k) {ks tl ti ci : Int32} {nn : Nat → Int64} {f g a b c f2 g2 a2 b2 c2 ts cs mr sr ad ot : Nat → Int32} {dd ss mm da se : Nat → Int} (h : LI dd ss mm da se ti ci f g a b c ad ot) {v3 : Int32}  : fL_law_j986 N xc K (zI k) v3 (zI (dd 0)) ks f g a b c f2 g2 a2 b2 c2 tl nn ti ts ci cs mr sr ad ot = some 1 := by
  obtain ⟨hM, hS, h0, hC, had, hot⟩ := h
  obtain ⟨f1, f2', f5, f6⟩ := hM 0 (by omega)
  obtain ⟨z, bz, ez⟩ := and_m ((v3.toUInt32 >>> ((7 : Int32).toUInt32 &&& Int32.toUInt32 31)).toInt32) 7 (by omega)
  have ez : ((v3.toUInt32 >>> ((7 : Int32).toUInt32 &&& Int32.toUInt32 31)).toInt32) &&& (7 : Int32) = zI z := ez
  have e6 : zI z - zI z / 6 * 6 = zI (z % 6) := by rw [zl_6, zI_div (by omega) (by omega) (by omega) (by omega), zI_mul, zI_sub, mod_fold]
  obtain ⟨x, t, y1, y2, nn1, e1, M1, bx, bt, w1⟩ := s_floors N (ks := ks) (tl := tl) (nn := nn) hM (p1 := 0) (p2 := zI (z % 6)) (p3 := 5) (k1 := 0) (k3 := 5) (w := z % 6) (by decide) rfl (by decide) (by omega) (by omega) (by omega)
  have er := s_row N (p1 := 1) (ks := ks) (tl := zI 2) (nn := nn1) (k := 1) (n := 2) (by decide) rfl (by omega) (by omega)
  have i5 := s_inst N (ks := ks) M1 (p2 := 5) (k := 5) (by decide) (by omega)
  have i0 := s_inst N (ks := ks) M1 (p2 := 0) (k := 0) (by decide) (by omega)
  rw [zup_s, zup_s] at i5
  rw [zup_n (by omega), zup_n (by omega)] at i0
  unfold fL_law_j986
  rw [ez, e6, e1, bd5_s, if_neg (i_nlt rfl (by omega)), i5, bd1_s, er, bd1_s, i0, bd1_s, w1, zL_add, if_pos (k_eq (by omega))]
  exact g_j1033 hN hK (dd := zup dd 5 x) (ss := zup ss 5 t) ⟨M1, hS, h0, hC, had, hot⟩
theorem g_j968 {N : Nat} (hN : 200000 ≤ N) {xc : Int32 → Int32} {K : LKT} {k : Int} (hK : LKp K k) {ks tl ti ci : Int32} {nn : Nat → Int64} {f g a b c f2 g2 a2 b2 c2 ts cs mr sr ad ot : Nat → Int32} {dd ss mm da se : Nat → Int} (h : LI dd ss mm da se ti ci f g a b c ad ot) {v3 : Int32} {nx : Int} (hn : -2 ≤ nx ∧ nx ≤ 10000) (hn0 : nx = 0 → dd 1 * 86400 + ss 1 ≤ dd 0 * 86400 + ss 0) : fL_law_j968 N xc K (zI k) v3 (zI (dd 0)) (zL (dd 1 * 86400 + ss 1)) (zI nx) ks f g a b c f2 g2 a2 b2 c2 tl nn ti ts ci cs mr sr ad ot = some 1 := by
  obtain ⟨hM, hS, h0, hC, had, hot⟩ := h
  obtain ⟨f1, f2', f5, f6⟩ := hM 0 (by omega)
  obtain ⟨p1, p2', p5, p6⟩ := hM 1 (by omega)
  have i0 := s_inst N (ks := ks) hM (p2 := 0) (k := 0) (by decide) (by omega)
  unfold fL_law_j968
  by_cases hz : nx = 0
  · have := hn0 hz
    rw [if_pos (i_eq (b := 0) (by decide) hz), i0, bd1_s, if_pos (k_ge (by omega))]
    exact g_j986 hN hK ⟨hM, hS, h0, hC, had, hot⟩
  · rw [if_neg (i_neq (b := 0) (by decide) (by omega))]
    exact g_j986 hN hK ⟨hM, hS, h0, hC, had, hot⟩
theorem g_j941 {N : Nat} (hN : 200000 ≤ N) {xc : Int32 → Int32} {K : LKT} {k : Int} (hK : LKp K k) {ks tl ti ci : Int32} {nn : Nat → Int64} {f g a b c f2 g2 a2 b2 c2 ts cs mr sr ad ot : Nat → Int32} {dd ss mm da se : Nat → Int} (h : LI dd ss mm da se ti ci f g a b c ad ot) {v3 : Int32} {lw : Int} (hl : 0 ≤ lw ∧ lw ≤ 3)  : fL_law_j941 N xc K (zI k) v3 (zI (dd 0)) (zI lw) (zL (dd 1 * 86400 + ss 1)) ks f g a b c f2 g2 a2 b2 c2 tl nn ti ts ci cs mr sr ad ot = some 1 := by
  obtain ⟨hM, hS, h0, hC, had, hot⟩ := h
  obtain ⟨f1, f2', f5, f6⟩ := hM 0 (by omega)
  obtain ⟨p1, p2', p5, p6⟩ := hM 1 (by omega)
  obtain ⟨v, tl1, nn1, ad1, e1, A1, bv, q1, q2⟩ := s_next N hN (ks := ks) (tl := tl) (nn := nn) hM hS had (p1 := 0) (p2 := 2) (p3 := zI lw) (p4 := 1) (k1 := 0) (k2 := 2) (k4 := 1) (by decide) (by decide) rfl (by decide) (by omega) (by omega) (by omega) hl
  have i0 := s_inst N (ks := ks) hM (p2 := 0) (k := 0) (by decide) (by omega)
  unfold fL_law_j941
  rw [e1, bd4_s]
  by_cases hv : v ≤ 0
  · rw [if_pos (i_le (b := 0) (by decide) (by omega))]
    exact g_j968 hN hK ⟨hM, hS, h0, hC, A1, hot⟩ bv (by omega)
  · rw [if_neg (i_nle (b := 0) (by decide) (by omega)), i0, bd1_s, if_neg (k_nge (by omega))]
    exact g_j968 hN hK ⟨hM, hS, h0, hC, A1, hot⟩ bv (by omega)
theorem g_j879 {N : Nat} (hN : 200000 ≤ N) {xc : Int32 → Int32} {K : LKT} {k : Int} (hK : LKp K k) {ks tl ti ci : Int32} {nn : Nat → Int64} {f g a b c f2 g2 a2 b2 c2 ts cs mr sr ad ot : Nat → Int32} {dd ss mm da se : Nat → Int} (h : LI dd ss mm da se ti ci f g a b c ad ot) {v3 : Int32} {lw : Int} (hl : 0 ≤ lw ∧ lw ≤ 3) {n dr : Int} (hn : 1 ≤ n ∧ n ≤ 16) (hdr : dr = 0 ∨ dr = -1000002) (hm2 : mm 2 = 0) (hs2 : (-64 ≤ da 2 ∧ da 2 ≤ 63) ∧ -32768 ≤ se 2 ∧ se 2 ≤ 32767) : fL_law_j879 N xc K (zI k) v3 (zI (dd 0)) (zI lw) (zL (dd 1 * 86400 + ss 1)) (zI n) (zL dr) ks f g a b c f2 g2 a2 b2 c2 tl nn ti ts ci cs mr sr ad ot = some 1 := by
  obtain ⟨hM, hS, h0, hC, had, hot⟩ := h
  obtain ⟨f1, f2', f5, f6⟩ := hM 0 (by omega)
  obtain ⟨r, y1, y2, tl1, nn1, ad1, e1, A1, e2⟩ := s_steps N hN (ks := ks) (tl := tl) (nn := nn) hM hS had (p1 := 0) (p2 := 2) (p3 := zI lw) (p5 := zI n) (p6 := 4) (k1 := 0) (k2 := 2) (k6 := 4) (by decide) (by decide) rfl rfl (by decide) (by omega) (by omega) (by omega) hl (by omega) hm2
  unfold fL_law_j879
  rw [e1, bd6_s]
  rcases e2 with ⟨rfl, M1⟩ | ⟨y, u, rfl, by', bu, M1, w⟩
  · rw [if_pos (i_lt (b := 0) (by decide) (by omega))]
    exact g_j941 hN hK ⟨M1, hS, h0, hC, A1, hot⟩ hl
  · rw [if_neg (i_nlt (b := 0) (by decide) (by omega))]
    rcases hdr with rfl | rfl
    · have i4 := s_inst N (ks := ks) M1 (p2 := 4) (k := 4) (by decide) (by omega)
      have i0 := s_inst N (ks := ks) M1 (p2 := 0) (k := 0) (by decide) (by omega)
      rw [zup_s, zup_s] at i4
      rw [zup_n (by omega), zup_n (by omega)] at i0
      have ew : zL (dd 0 * 86400 + ss 0) + (zI n).toInt64 * ((86400 : Int64) * (zI (da 2)).toInt64 + (zI (se 2)).toInt64) = zL (y * 86400 + u) := by
        rw [zI_toL (by omega) (by omega), zI_toL (by omega) (by omega), zI_toL (by omega) (by omega), zll_86400, zL_mul, zL_add, zL_mul, zL_add, w]
      rw [if_pos (by rw [zll_0]; exact k_eq rfl), i4, bd1_s, i0, bd1_s, s_sI1 N hS (p1 := 2) (k := 2) (by decide) (by omega), bd1_s, s_sI2 N hS (p1 := 2) (k := 2) (by decide) (by omega), bd1_s, ew, if_pos (k_eq rfl)]
      exact g_j941 hN hK (dd := zup dd 4 y) (ss := zup ss 4 u) ⟨M1, hS, h0, hC, A1, hot⟩ hl
    · rw [if_neg (by rw [zll_0]; exact k_neq (by omega))]
      exact g_j941 hN hK (dd := zup dd 4 y) (ss := zup ss 4 u) ⟨M1, hS, h0, hC, A1, hot⟩ hl
theorem g_j819 {N : Nat} (hN : 200000 ≤ N) {xc : Int32 → Int32} {K : LKT} {k : Int} (hK : LKp K k) {ks tl ti ci : Int32} {nn : Nat → Int64} {f g a b c f2 g2 a2 b2 c2 ts cs mr sr ad ot : Nat → Int32} {dd ss mm da se : Nat → Int} (h : LI dd ss mm da se ti ci f g a b c ad ot) {v3 : Int32} {v5 : Int32} {lw : Int} (hl : 0 ≤ lw ∧ lw ≤ 3) (hb : SB (mm 0) (da 0) (se 0)) : fL_law_j819 N xc K (zI k) v3 v5 (zI (dd 0)) (zI lw) (zL (dd 1 * 86400 + ss 1)) ks f g a b c f2 g2 a2 b2 c2 tl nn ti ts ci cs mr sr ad ot = some 1 := by
  obtain ⟨hM, hS, h0, hC, had, hot⟩ := h
  obtain ⟨z, bz, ez⟩ := and_m ((v5.toUInt32 >>> ((3 : Int32).toUInt32 &&& Int32.toUInt32 31)).toInt32) 15 (by omega)
  have ez : ((v5.toUInt32 >>> ((3 : Int32).toUInt32 &&& Int32.toUInt32 31)).toInt32) &&& (15 : Int32) = zI z := ez
  obtain ⟨b1, b2, b3⟩ := id hb
  obtain ⟨x1, x2, x3, e1, S1⟩ := s_parts N (ks := ks) hS (p1 := 2) (p2 := 0) (p3 := zI (da 0)) (p4 := zI (se 0)) (k := 2) (x := 0) (y := da 0) (z := se 0) (by decide) (by decide) rfl rfl (by omega) ⟨by omega, by omega, by omega⟩
  have bm : ∀ w : Int, -32768 ≤ w → w ≤ 32767 → -1000000000 ≤ w * (1 + z) ∧ w * (1 + z) ≤ 1000000000 := by
    intro w h1 h2
    rcases (show z = 0 ∨ z = 1 ∨ z = 2 ∨ z = 3 ∨ z = 4 ∨ z = 5 ∨ z = 6 ∨ z = 7 ∨ z = 8 ∨ z = 9 ∨ z = 10 ∨ z = 11 ∨ z = 12 ∨ z = 13 ∨ z = 14 ∨ z = 15 by omega) with h | h | h | h | h | h | h | h | h | h | h | h | h | h | h | h <;> rw [h] <;> omega
  have m2 : zup mm 2 0 2 = 0 := zup_s
  have d2 : zup da 2 (da 0) 2 = da 0 := zup_s
  have s2 : zup se 2 (se 0) 2 = se 0 := zup_s
  obtain ⟨r, tl1, nn1, ad1, ot1, e2, A1, O1, hr⟩ := s_drift N hN (ks := ks) (tl := tl) (nn := nn) hM S1 had hot (p1 := 0) (p2 := 2) (p3 := zI lw) (p4 := zI (1 + z)) (n := 1 + z) (k1 := 0) (k2 := 2) (by decide) (by decide) rfl rfl (by omega) (by omega) hl (by omega) m2 (by rw [d2, s2]; exact ⟨by omega, bm _ (by omega) (by omega), bm _ (by omega) (by omega)⟩)
  unfold fL_law_j819
  rw [ez, zl_1, zI_add, nm_s, ← zl_1, s_sI1 N hS (p1 := 0) (k := 0) (by decide) (by omega), bd1_s, s_sI2 N hS (p1 := 0) (k := 0) (by decide) (by omega), bd1_s, e1, bd4_s, e2, bd5_s]
  rcases hr with rfl | rfl
  · rw [if_neg (by rw [zll_0]; exact k_neq (by omega)), if_pos (by rw [show (-1000002 : Int64) = zL (-1000002) by decide]; exact k_eq rfl)]
    exact g_j879 hN hK (mm := zup mm 2 0) (da := zup da 2 (da 0)) (se := zup se 2 (se 0)) ⟨hM, S1, h0, hC, A1, O1⟩ hl (by omega) (Or.inr rfl) m2 (by rw [d2, s2]; omega)
  · rw [if_pos (by rw [zll_0]; exact k_eq rfl)]
    exact g_j879 hN hK (mm := zup mm 2 0) (da := zup da 2 (da 0)) (se := zup se 2 (se 0)) ⟨hM, S1, h0, hC, A1, O1⟩ hl (by omega) (Or.inl rfl) m2 (by rw [d2, s2]; omega)
theorem g_j754 {N : Nat} (hN : 200000 ≤ N) {xc : Int32 → Int32} {K : LKT} {k : Int} (hK : LKp K k) {ks tl ti ci : Int32} {nn : Nat → Int64} {f g a b c f2 g2 a2 b2 c2 ts cs mr sr ad ot : Nat → Int32} {dd ss mm da se : Nat → Int} (h : LI dd ss mm da se ti ci f g a b c ad ot) {v3 : Int32} {v5 : Int32} {lw : Int} (hl : 0 ≤ lw ∧ lw ≤ 3) (hb : SB (mm 0) (da 0) (se 0)) : fL_law_j754 N xc K (zI k) v3 v5 (zI (dd 0)) (zI lw) (zL (dd 1 * 86400 + ss 1)) ks f g a b c f2 g2 a2 b2 c2 tl nn ti ts ci cs mr sr ad ot = some 1 := by
  obtain ⟨hM, hS, h0, hC, had, hot⟩ := h
  obtain ⟨f1, f2', f5, f6⟩ := hM 0 (by omega)
  obtain ⟨p1, p2', p5, p6⟩ := hM 1 (by omega)
  obtain ⟨tl1, nn1, e1⟩ := s_leaps N hN (ks := ks) (tl := tl) (nn := nn) hM (p1 := 0) (p2 := 1) (k1 := 0) (k2 := 1) (by decide) (by decide) (by omega) (by omega)
  obtain ⟨tl2, nn2, e2⟩ := s_whole N (ks := ks) (tl := tl1) (nn := nn1) hM (p1 := 0) (p2 := 1) (k1 := 0) (k2 := 1) (by decide) (by decide) (by omega) (by omega)
  obtain ⟨tl3, nn3, e3⟩ := s_leaps N hN (ks := ks) (tl := tl2) (nn := nn2) hM (p1 := 1) (p2 := 0) (k1 := 1) (k2 := 0) (by decide) (by decide) (by omega) (by omega)
  obtain ⟨tl4, nn4, e4⟩ := s_whole N (ks := ks) (tl := tl3) (nn := nn3) hM (p1 := 1) (p2 := 0) (k1 := 1) (k2 := 0) (by decide) (by decide) (by omega) (by omega)
  rw [Int.min_comm, Int.max_comm] at e3 e4
  have bl := leaps_b (X := min (dd 0) (dd 1)) (Z := max (dd 1) (dd 0)) (by omega) (by omega) (by omega)
  have bw := whole_b (X := min (dd 0) (dd 1)) (Z := max (dd 1) (dd 0)) (by omega) (by omega)
  unfold fL_law_j754
  rw [e1, bd3_s, e2, bd3_s, if_neg (i_nlt (b := 0) (by decide) (by omega)), if_neg (i_ngt (b := 2426) (by decide) (by omega)), if_neg (i_nlt (b := 0) (by decide) (by omega)), if_neg (i_ngt (b := 120000) (by decide) (by omega)), e3, bd3_s, if_pos rfl, e4, bd3_s, if_pos rfl]
  exact g_j819 hN hK ⟨hM, hS, h0, hC, had, hot⟩ hl hb
