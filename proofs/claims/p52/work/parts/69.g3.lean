/-! the law's joins: differences, what is set, the loop -/
theorem mod12z {M : Int} (h : M % 12 = 0) (hb : -2000000000 ≤ M ∧ M ≤ 2000000000) : zI M - zI M / 12 * 12 = (0 : Int32) := by
  have e : M - M.tdiv 12 * 12 = 0 := by rw [td_if]; split <;> omega
  rw [zl_12, zI_tdiv (by omega) (by omega) (by omega) (by omega), zI_mul, zI_sub, e]; exact zl_0.symm
theorem g_j419 {N : Nat} (hN : 200000 ≤ N) {xc : Int32 → Int32} {K : LKT} {k : Int} (hK : LKp K k) {ks tl ti ci : Int32} {nn : Nat → Int64} {f g a b c f2 g2 a2 b2 c2 ts cs mr sr ad ot : Nat → Int32} {dd ss mm da se : Nat → Int} (h : LI dd ss mm da se ti ci f g a b c ad ot) {v3 : Int32} {v5 : Int32} {lw : Int} (hl : 0 ≤ lw ∧ lw ≤ 3) {un : Int} (hu : 1 ≤ un ∧ un ≤ 7) (hb : SB (mm 0) (da 0) (se 0)) (hB : BetOK un lw (dd 0) (ss 0) (dd 1) (ss 1) (mm 1) (da 1) (se 1)) : fL_law_j419 N xc K (zI k) v3 v5 (zI (dd 0)) (zI (dd 1)) (zI lw) (zI un) (zL (dd 1 * 86400 + ss 1)) (zI (if dd 1 * 86400 + ss 1 < dd 0 * 86400 + ss 0 then 1 else 0)) ks f g a b c f2 g2 a2 b2 c2 tl nn ti ts ci cs mr sr ad ot = some 1 := by
  obtain ⟨hM, hS, h0, hC, had, hot⟩ := h
  obtain ⟨⟨sh, B1⟩, B2, B3, B4, B5, B6, B7⟩ := hB
  unfold fL_law_j419
  by_cases h2 : zI un &&& (2 : Int32) = 0
  · have h7 : un = 1 ∨ un = 4 ∨ un = 5 := by
      rcases (show un = 1 ∨ un = 2 ∨ un = 3 ∨ un = 4 ∨ un = 5 ∨ un = 6 ∨ un = 7 by omega) with rfl | rfl | rfl | rfl | rfl | rfl | rfl <;> first | exact absurd h2 (by decide) | omega
    rw [if_pos h2, s_sI0 N hS (p1 := 1) (k := 1) (by decide) (by omega), bd1_s, if_pos (mod12z (B7 h7) (by omega))]
    exact g_j440 hN hK ⟨hM, hS, h0, hC, had, hot⟩ hl hb
  · rw [if_neg h2]
    exact g_j440 hN hK ⟨hM, hS, h0, hC, had, hot⟩ hl hb
theorem g_j403 {N : Nat} (hN : 200000 ≤ N) {xc : Int32 → Int32} {K : LKT} {k : Int} (hK : LKp K k) {ks tl ti ci : Int32} {nn : Nat → Int64} {f g a b c f2 g2 a2 b2 c2 ts cs mr sr ad ot : Nat → Int32} {dd ss mm da se : Nat → Int} (h : LI dd ss mm da se ti ci f g a b c ad ot) {v3 : Int32} {v5 : Int32} {lw : Int} (hl : 0 ≤ lw ∧ lw ≤ 3) {un : Int} (hu : 1 ≤ un ∧ un ≤ 7) (hb : SB (mm 0) (da 0) (se 0)) (hB : BetOK un lw (dd 0) (ss 0) (dd 1) (ss 1) (mm 1) (da 1) (se 1)) : fL_law_j403 N xc K (zI k) v3 v5 (zI (dd 0)) (zI (dd 1)) (zI lw) (zI un) (zL (dd 1 * 86400 + ss 1)) (zI (if dd 1 * 86400 + ss 1 < dd 0 * 86400 + ss 0 then 1 else 0)) ks f g a b c f2 g2 a2 b2 c2 tl nn ti ts ci cs mr sr ad ot = some 1 := by
  obtain ⟨hM, hS, h0, hC, had, hot⟩ := h
  have hB' := hB
  obtain ⟨⟨sh, B1⟩, B2, B3, B4, B5, B6, B7⟩ := hB'
  unfold fL_law_j403
  by_cases h2 : zI un &&& (3 : Int32) = 0
  · have h7 : un = 4 := by
      rcases (show un = 1 ∨ un = 2 ∨ un = 3 ∨ un = 4 ∨ un = 5 ∨ un = 6 ∨ un = 7 by omega) with rfl | rfl | rfl | rfl | rfl | rfl | rfl <;> first | exact absurd h2 (by decide) | rfl
    rw [if_pos h2, s_sI0 N hS (p1 := 1) (k := 1) (by decide) (by omega), bd1_s, if_pos (i_eq (b := 0) (by decide) (B6 h7))]
    exact g_j419 hN hK ⟨hM, hS, h0, hC, had, hot⟩ hl hu hb hB
  · rw [if_neg h2]
    exact g_j419 hN hK ⟨hM, hS, h0, hC, had, hot⟩ hl hu hb hB
theorem st339 {N : Nat} {xc : Int32 → Int32} {K : LKT} {k : Int} {ks tl ti ci : Int32} {nn : Nat → Int64} {f g a b c f2 g2 a2 b2 c2 ts cs mr sr ad ot : Nat → Int32} {v3 v5 v6 v8 v9 v10 : Int32} {v11 : Int64} (m : Nat) {bk : Int} (hk : bk = 0 ∨ bk = 1) {x x1 : Int32} {v : Int} (hx : ¬ (3 : Int32) ≤ x) (hx1 : x + 1 = x1) (e : fX9_spanIs N 1 x ks a b c = some (zI v)) (hv : -1000000000 ≤ v ∧ v ≤ 1000000000) (hp : (bk = 0 → 0 ≤ v) ∧ (bk = 1 → v ≤ 0)) :
    fL_law_l339 N xc K (m + 1) (zI k) v3 v5 v6 v8 v9 v10 v11 (zI bk) x ks f g a b c f2 g2 a2 b2 c2 tl nn ti ts ci cs mr sr ad ot = fL_law_l339 N xc K m (zI k) v3 v5 v6 v8 v9 v10 v11 (zI bk) x1 ks f g a b c f2 g2 a2 b2 c2 tl nn ti ts ci cs mr sr ad ot := by
  rw [fL_law_l339_s, if_neg hx]
  unfold fL_law_j375
  rw [nm_s, hx1, e]
  simp only [bd1_s]
  rcases hk with rfl | rfl
  · rw [if_pos (i_eq (b := 0) (by decide) rfl), if_pos (i_ge' (b := 0) (by decide) (by omega))]
  · rw [if_neg (i_neq (b := 0) (by decide) (by omega)), if_pos (i_le (b := 0) (by decide) (by omega))]
theorem g_j336 {N : Nat} (hN : 200000 ≤ N) {xc : Int32 → Int32} {K : LKT} {k : Int} (hK : LKp K k) {ks tl ti ci : Int32} {nn : Nat → Int64} {f g a b c f2 g2 a2 b2 c2 ts cs mr sr ad ot : Nat → Int32} {dd ss mm da se : Nat → Int} (h : LI dd ss mm da se ti ci f g a b c ad ot) {v3 : Int32} {v5 : Int32} {lw : Int} (hl : 0 ≤ lw ∧ lw ≤ 3) {un : Int} (hu : 1 ≤ un ∧ un ≤ 7) (hb : SB (mm 0) (da 0) (se 0)) (hB : BetOK un lw (dd 0) (ss 0) (dd 1) (ss 1) (mm 1) (da 1) (se 1)) : fL_law_j336 N xc K (zI k) v3 v5 (zI (dd 0)) (zI (dd 1)) (zI lw) (zI un) (zL (dd 1 * 86400 + ss 1)) (zI (if dd 1 * 86400 + ss 1 < dd 0 * 86400 + ss 0 then 1 else 0)) ks f g a b c f2 g2 a2 b2 c2 tl nn ti ts ci cs mr sr ad ot = some 1 := by
  obtain ⟨hM, hS, h0, hC, had, hot⟩ := h
  have hB' := hB
  obtain ⟨⟨sh, B1⟩, B2, B3, B4, B5, B6, B7⟩ := hB'
  obtain ⟨m, hm⟩ : ∃ m, N = m + 4 := ⟨N - 4, by omega⟩
  obtain ⟨bk, hbk⟩ : ∃ bk : Int, bk = if dd 1 * 86400 + ss 1 < dd 0 * 86400 + ss 0 then 1 else 0 := ⟨_, rfl⟩
  have k01 : bk = 0 ∨ bk = 1 := by rw [hbk]; split <;> omega
  have kb : (bk = 0 → dd 0 * 86400 + ss 0 ≤ dd 1 * 86400 + ss 1) ∧ (bk = 1 → dd 1 * 86400 + ss 1 < dd 0 * 86400 + ss 0) := by rw [hbk]; split <;> omega
  have sg : (bk = 0 → 0 ≤ mm 1 ∧ 0 ≤ da 1 ∧ 0 ≤ se 1) ∧ (bk = 1 → mm 1 ≤ 0 ∧ da 1 ≤ 0 ∧ se 1 ≤ 0) := ⟨fun e => B4 (kb.1 e), fun e => B3 (kb.2 e)⟩
  unfold fL_law_j336
  rw [← hbk]
  have start : fL_law_l339 N xc K N (zI k) v3 v5 (zI (dd 0)) (zI (dd 1)) (zI lw) (zI un) (zL (dd 1 * 86400 + ss 1)) (zI bk) (0 : Int32) ks f g a b c f2 g2 a2 b2 c2 tl nn ti ts ci cs mr sr ad ot = fL_law_l339 N xc K (m + 1) (zI k) v3 v5 (zI (dd 0)) (zI (dd 1)) (zI lw) (zI un) (zL (dd 1 * 86400 + ss 1)) (zI bk) (3 : Int32) ks f g a b c f2 g2 a2 b2 c2 tl nn ti ts ci cs mr sr ad ot := by
    refine Eq.trans (congrArg (fun q => fL_law_l339 N xc K q (zI k) v3 v5 (zI (dd 0)) (zI (dd 1)) (zI lw) (zI un) (zL (dd 1 * 86400 + ss 1)) (zI bk) (0 : Int32) ks f g a b c f2 g2 a2 b2 c2 tl nn ti ts ci cs mr sr ad ot) hm) ?_
    refine Eq.trans (st339 (m + 3) k01 (x := 0) (x1 := 1) (v := mm 1) (by decide) (by decide) (s_sI0 N hS (p1 := 1) (k := 1) (by decide) (by omega)) (by omega) ⟨fun e => (sg.1 e).1, fun e => (sg.2 e).1⟩) ?_
    refine Eq.trans (st339 (m + 2) k01 (x := 1) (x1 := 2) (v := da 1) (by decide) (by decide) (s_sI1 N hS (p1 := 1) (k := 1) (by decide) (by omega)) (by omega) ⟨fun e => (sg.1 e).2.1, fun e => (sg.2 e).2.1⟩) ?_
    exact st339 (m + 1) k01 (x := 2) (x1 := 3) (v := se 1) (by decide) (by decide) (s_sI2 N hS (p1 := 1) (k := 1) (by decide) (by omega)) (by omega) ⟨fun e => (sg.1 e).2.2, fun e => (sg.2 e).2.2⟩
  rw [start, fL_law_l339_s, if_pos (by decide)]
  have nx := g_j403 hN hK (xc := xc) (ks := ks) (tl := tl) (nn := nn) (v3 := v3) (v5 := v5) (f2 := f2) (g2 := g2) (a2 := a2) (b2 := b2) (c2 := c2) (ts := ts) (cs := cs) (mr := mr) (sr := sr) ⟨hM, hS, h0, hC, had, hot⟩ hl hu hb hB
  rw [← hbk] at nx
  by_cases h4 : zI un &&& (4 : Int32) = 4
  · have h7 : 4 ≤ un := by
      rcases (show un = 1 ∨ un = 2 ∨ un = 3 ∨ 4 ≤ un by omega) with rfl | rfl | rfl | h
      · exact absurd h4 (by decide)
      · exact absurd h4 (by decide)
      · exact absurd h4 (by decide)
      · exact h
    have b5 := B5 h7
    have ea : (if 0 ≤ zI (se 1) then zI (se 1) else 0 - zI (se 1)) = zI ((se 1).natAbs : Int) := by
      by_cases h : 0 ≤ se 1
      · rw [if_pos (i_ge' (b := 0) (by decide) (by omega))]; congr 1; omega
      · rw [if_neg (i_nge' (b := 0) (by decide) (by omega)), zl_0, zI_sub]; congr 1; omega
    rw [if_pos h4, s_sI2 N hS (p1 := 1) (k := 1) (by decide) (by omega), bd1_s, ea, nm_s, if_neg (i_nge' (b := 86400) (by decide) (by omega))]
    exact nx
  · rw [if_neg h4]
    exact nx
theorem g_j308 {N : Nat} (hN : 200000 ≤ N) {xc : Int32 → Int32} {K : LKT} {k : Int} (hK : LKp K k) {ks tl ti ci : Int32} {nn : Nat → Int64} {f g a b c f2 g2 a2 b2 c2 ts cs mr sr ad ot : Nat → Int32} {dd ss mm da se : Nat → Int} (h : LI dd ss mm da se ti ci f g a b c ad ot) {v3 : Int32} {v5 : Int32} {lw : Int} (hl : 0 ≤ lw ∧ lw ≤ 3) {un : Int} (hu : 1 ≤ un ∧ un ≤ 7) (hb : SB (mm 0) (da 0) (se 0)) (hB : BetOK un lw (dd 0) (ss 0) (dd 1) (ss 1) (mm 1) (da 1) (se 1)) : fL_law_j308 N xc K (zI k) v3 v5 (zI (dd 0)) (zI (dd 1)) (zI lw) (zI un) (zL (dd 1 * 86400 + ss 1)) (zI (if dd 1 * 86400 + ss 1 < dd 0 * 86400 + ss 0 then 1 else 0)) ks f g a b c f2 g2 a2 b2 c2 tl nn ti ts ci cs mr sr ad ot = some 1 := by
  obtain ⟨hM, hS, h0, hC, had, hot⟩ := h
  have hB' := hB
  obtain ⟨⟨sh, B1⟩, -⟩ := hB'
  obtain ⟨y1, y2, nn1, ad1, e1, M1, A1⟩ := s_add N (ks := ks) (tl := tl) (nn := nn) hM hS had (p1 := 0) (p2 := 1) (p3 := zI lw) (p5 := 2) (k1 := 0) (k2 := 1) (k5 := 2) (by decide) (by decide) rfl (by decide) (by omega) (by omega) (by omega) hl B1
  have i2 := s_inst N (ks := ks) M1 (p2 := 2) (k := 2) (by decide) (by omega)
  rw [zup_s, zup_s] at i2
  unfold fL_law_j308
  rw [e1, bd6_s, if_pos rfl, i2, bd1_s, if_pos (k_eq rfl)]
  exact g_j336 hN hK (dd := zup dd 2 (dd 1)) (ss := zup ss 2 (ss 1)) ⟨M1, hS, h0, hC, A1, hot⟩ hl hu hb hB
theorem g_j268 {N : Nat} (hN : 200000 ≤ N) {xc : Int32 → Int32} {K : LKT} {k : Int} (hK : LKp K k) {ks tl ti ci : Int32} {nn : Nat → Int64} {f g a b c f2 g2 a2 b2 c2 ts cs mr sr ad ot : Nat → Int32} {dd ss mm da se : Nat → Int} (h : LI dd ss mm da se ti ci f g a b c ad ot) {v3 : Int32} {v5 : Int32} {lw : Int} (hl : 0 ≤ lw ∧ lw ≤ 3) {un : Int} (hu : 1 ≤ un ∧ un ≤ 7) (hb : SB (mm 0) (da 0) (se 0)) : fL_law_j268 N xc K (zI k) v3 v5 (zI (dd 0)) (zI (dd 1)) (zI lw) (zI un) (zL (dd 1 * 86400 + ss 1)) (zI (if dd 1 * 86400 + ss 1 < dd 0 * 86400 + ss 0 then 1 else 0)) ks f g a b c f2 g2 a2 b2 c2 tl nn ti ts ci cs mr sr ad ot = some 1 := by
  obtain ⟨hM, hS, h0, hC, had, hot⟩ := h
  obtain ⟨x1, x2, x3, e1, S1⟩ := s_parts N (ks := ks) hS (p1 := 1) (p2 := 0) (p3 := 0) (p4 := 0) (k := 1) (x := 0) (y := 0) (z := 0) (by decide) (by decide) (by decide) (by decide) (by omega) ⟨by omega, by omega, by omega⟩
  obtain ⟨r, y1, y2, y3, tl1, nn1, ad1, e2, A1, hr⟩ := s_between N hN (ks := ks) (tl := tl) (nn := nn) hM S1 had (p1 := 0) (p2 := 1) (p3 := zI lw) (p4 := zI un) (p5 := 1) (k1 := 0) (k2 := 1) (k5 := 1) (by decide) (by decide) rfl rfl (by decide) (by omega) (by omega) (by omega) hl hu
  unfold fL_law_j268
  rw [e1, bd4_s, e2, bd7_s]
  rcases hr with ⟨rfl, S2⟩ | ⟨M, D, S, rfl, S2, hB⟩
  · rw [if_pos (i_eq (b := -9) (by decide) rfl), s_sI0 N S2 (p1 := 1) (k := 1) (by decide) (by omega), bd1_s, zup_s, if_pos (i_eq (b := 0) (by decide) rfl)]
    exact g_j440 hN hK (mm := zup mm 1 0) (da := zup da 1 0) (se := zup se 1 0) ⟨hM, S2, h0, hC, A1, hot⟩ hl hb
  · have hB2 := hB.2.1
    have nx := g_j308 hN hK (mm := zup (zup mm 1 0) 1 M) (da := zup (zup da 1 0) 1 D) (se := zup (zup se 1 0) 1 S) (xc := xc) (ks := ks) (tl := tl1) (nn := nn1) (v3 := v3) (v5 := v5) (f2 := f2) (g2 := g2) (a2 := a2) (b2 := b2) (c2 := c2) (ts := ts) (cs := cs) (mr := mr) (sr := sr) ⟨hM, S2, h0, hC, A1, hot⟩ hl hu hb hB
    by_cases h9 : M = -9
    · rw [if_pos (i_eq (b := -9) (by decide) h9), s_sI0 N S2 (p1 := 1) (k := 1) (by decide) (by omega), bd1_s, zup_s, if_neg (i_neq (b := 0) (by decide) (by omega))]
      exact nx
    · rw [if_neg (i_neq (b := -9) (by decide) (by omega))]
      exact nx
theorem g_j222 {N : Nat} (hN : 200000 ≤ N) {xc : Int32 → Int32} {K : LKT} {k : Int} (hK : LKp K k) {ks tl ti ci : Int32} {nn : Nat → Int64} {f g a b c f2 g2 a2 b2 c2 ts cs mr sr ad ot : Nat → Int32} {dd ss mm da se : Nat → Int} (h : LI dd ss mm da se ti ci f g a b c ad ot) {v3 : Int32} {v5 : Int32} (hb : SB (mm 0) (da 0) (se 0)) : fL_law_j222 N xc K (zI k) v3 v5 (zI (dd 0)) (zI (dd 1)) ks f g a b c f2 g2 a2 b2 c2 tl nn ti ts ci cs mr sr ad ot = some 1 := by
  obtain ⟨hM, hS, h0, hC, had, hot⟩ := h
  obtain ⟨f1, f2', f5, f6⟩ := hM 0 (by omega)
  obtain ⟨p1, p2', p5, p6⟩ := hM 1 (by omega)
  obtain ⟨lw, bl, el⟩ := and_m ((v5.toUInt32 >>> ((28 : Int32).toUInt32 &&& Int32.toUInt32 31)).toInt32) 3 (by omega)
  have el : ((v5.toUInt32 >>> ((28 : Int32).toUInt32 &&& Int32.toUInt32 31)).toInt32) &&& (3 : Int32) = zI lw := el
  obtain ⟨z, bz, ez⟩ := and_m ((v3.toUInt32 >>> ((28 : Int32).toUInt32 &&& Int32.toUInt32 31)).toInt32) 7 (by omega)
  have ez : ((v3.toUInt32 >>> ((28 : Int32).toUInt32 &&& Int32.toUInt32 31)).toInt32) &&& (7 : Int32) = zI z := ez
  have eu : (1 : Int32) + (zI z - zI z / 7 * 7) = zI (1 + z % 7) := by rw [zl_7, zI_div (by omega) (by omega) (by omega) (by omega), zI_mul, zI_sub, mod_fold, zl_1, zI_add]
  have i1 := s_inst N (ks := ks) hM (p2 := 1) (k := 1) (by decide) (by omega)
  have i0 := s_inst N (ks := ks) hM (p2 := 0) (k := 0) (by decide) (by omega)
  have nx := g_j268 hN hK (lw := lw) (un := 1 + z % 7) (xc := xc) (ks := ks) (tl := tl) (nn := nn) (v3 := v3) (v5 := v5) (f2 := f2) (g2 := g2) (a2 := a2) (b2 := b2) (c2 := c2) (ts := ts) (cs := cs) (mr := mr) (sr := sr) ⟨hM, hS, h0, hC, had, hot⟩ (by omega) (by omega) hb
  unfold fL_law_j222
  rw [el, nm_s, ez, eu, nm_s, i1, bd1_s, i0, bd1_s]
  by_cases hlt : dd 1 * 86400 + ss 1 < dd 0 * 86400 + ss 0
  · rw [if_pos hlt] at nx
    rw [if_neg (k_nge (by omega)), zl_1]
    exact nx
  · rw [if_neg hlt] at nx
    rw [if_pos (k_ge (by omega)), zl_0]
    exact nx
theorem g_j196 {N : Nat} (hN : 200000 ≤ N) {xc : Int32 → Int32} {K : LKT} {k : Int} (hK : LKp K k) {ks tl ti ci : Int32} {nn : Nat → Int64} {f g a b c f2 g2 a2 b2 c2 ts cs mr sr ad ot : Nat → Int32} {dd ss mm da se : Nat → Int} (h : LI dd ss mm da se ti ci f g a b c ad ot) {v3 : Int32} {v5 : Int32} (hb : SB (mm 0) (da 0) (se 0)) : fL_law_j196 N xc K (zI k) v3 v5 (zI (dd 0)) (zI (dd 1)) ks f g a b c f2 g2 a2 b2 c2 tl nn ti ts ci cs mr sr ad ot = some 1 := by
  obtain ⟨hM, hS, h0, hC, had, hot⟩ := h
  obtain ⟨x1, x2, t1, n1, w1, s1, c1, z1, m1, e1, M1, h1, C1⟩ := g_isWritten N hN (ks := ks) (tl := tl) (nn := nn) (ts := ts) (cs := cs) (mr := mr) hM (p2 := 0) (k1 := 0) (by decide) (by omega) h0 hC
  obtain ⟨x3, x4, t2, n2, w2, s2, c2', z2, m2, e2, M2, h2, C2⟩ := g_isWritten N hN (ks := ks) (tl := t1) (nn := n1) (ts := s1) (cs := z1) (mr := m1) M1 (p2 := 1) (k1 := 1) (by decide) (by omega) h1 C1
  obtain ⟨y1, y2, y3, t3, n3, w3, s3, c3, z3, r3, mm', da', se', e3, S3, q3, h3, C3⟩ := g_isSpoken N hN (ks := ks) (tl := t2) (nn := n2) (ts := s2) (cs := z2) (sr := sr) hS (p2 := 0) (k1 := 0) (by decide) (by omega) hb h2 C2
  obtain ⟨q0, q1, q2⟩ := q3 0 (by omega)
  unfold fL_law_j196
  rw [e1, bd10_s, if_neg (by decide), e2, bd10_s, if_neg (by decide), e3, bd11_s, if_neg (by decide)]
  exact g_j222 hN hK (dd := zup (zup dd 7 (dd 0)) 7 (zup dd 7 (dd 0) 1)) (ss := zup (zup ss 7 (ss 0)) 7 (zup ss 7 (ss 0) 1)) ⟨M2, S3, h3, C3, had, hot⟩ (by rw [q0, q1, q2]; exact hb)
theorem umod (q : Nat) (hq : q < 32) (h0 : 1 ≤ q) (x : Int32) {d : Int} (hd : 0 < d ∧ d ≤ 2147483647) : ∃ z : Int, (0 ≤ z ∧ z < d) ∧ (x.toUInt32 >>> ((nI q).toUInt32 &&& Int32.toUInt32 31)).toInt32 - (x.toUInt32 >>> ((nI q).toUInt32 &&& Int32.toUInt32 31)).toInt32 / zI d * zI d = zI z := by
  obtain ⟨y, by', ey⟩ := ushr_b q hq h0 x
  refine ⟨y % d, ⟨Int.emod_nonneg _ (by omega), Int.emod_lt_of_pos _ hd.1⟩, ?_⟩
  rw [ey, zI_div by'.1 by'.2 hd.1 hd.2, zI_mul, zI_sub, mod_fold]
theorem umask (q : Nat) (x : Int32) (m : Nat) (hm : m < 2147483648) : ∃ z : Int, (0 ≤ z ∧ z ≤ m) ∧ ((x.toUInt32 >>> ((nI q).toUInt32 &&& Int32.toUInt32 31)).toInt32) &&& zI (m : Int) = zI z := and_m _ m hm
theorem g_j128 {N : Nat} (hN : 200000 ≤ N) {xc : Int32 → Int32} {K : LKT} {k : Int} (hK : LKp K k) {ks tl ti ci : Int32} {nn : Nat → Int64} {f g a b c f2 g2 a2 b2 c2 ts cs mr sr ad ot : Nat → Int32} {dd ss mm da se : Nat → Int} (h : LI dd ss mm da se ti ci f g a b c ad ot) {v3 : Int32} {v4 : Int32} {v5 : Int32} {x t y : Int} (hx : 0 ≤ x ∧ x ≤ 3652058) (ht : 0 ≤ t ∧ t ≤ 86399) (hy : 0 ≤ y ∧ y ≤ 3652058) : fL_law_j128 N xc K (zI k) v3 v4 v5 (zI x) (zI t) (zI y) ks f g a b c f2 g2 a2 b2 c2 tl nn ti ts ci cs mr sr ad ot = some 1 := by
  obtain ⟨hM, hS, h0, hC, had, hot⟩ := h
  obtain ⟨u, bu, eu⟩ := umod 17 (by omega) (by omega) v4 (d := 86400) (by omega)
  have eu : ((v4.toUInt32 >>> ((17 : Int32).toUInt32 &&& Int32.toUInt32 31)).toInt32) - ((v4.toUInt32 >>> ((17 : Int32).toUInt32 &&& Int32.toUInt32 31)).toInt32) / (86400 : Int32) * (86400 : Int32) = zI u := eu
  obtain ⟨m, bm, em⟩ := umask 4 v3 63 (by omega)
  have em : (((v3.toUInt32 >>> ((4 : Int32).toUInt32 &&& Int32.toUInt32 31)).toInt32) &&& (63 : Int32)) - (32 : Int32) = zI (m - 32) := by
    rw [show ((v3.toUInt32 >>> ((4 : Int32).toUInt32 &&& Int32.toUInt32 31)).toInt32) &&& (63 : Int32) = zI m from em, show (32 : Int32) = zI 32 by decide, zI_sub]
  obtain ⟨d, bd', ed⟩ := umask 5 v4 127 (by omega)
  have ed : (((v4.toUInt32 >>> ((5 : Int32).toUInt32 &&& Int32.toUInt32 31)).toInt32) &&& (127 : Int32)) - (64 : Int32) = zI (d - 64) := by
    rw [show ((v4.toUInt32 >>> ((5 : Int32).toUInt32 &&& Int32.toUInt32 31)).toInt32) &&& (127 : Int32) = zI d from ed, show (64 : Int32) = zI 64 by decide, zI_sub]
  obtain ⟨s, bs, es⟩ := umask 6 v5 65535 (by omega)
  have es : (((v5.toUInt32 >>> ((6 : Int32).toUInt32 &&& Int32.toUInt32 31)).toInt32) &&& (65535 : Int32)) - (32768 : Int32) = zI (s - 32768) := by
    rw [show ((v5.toUInt32 >>> ((6 : Int32).toUInt32 &&& Int32.toUInt32 31)).toInt32) &&& (65535 : Int32) = zI s from es, show (32768 : Int32) = zI 32768 by decide, zI_sub]
  obtain ⟨x1, x2, e1, M1⟩ := s_sets N (ks := ks) hM (p1 := 0) (p2 := zI x) (p3 := zI t) (k := 0) (by decide) rfl rfl (by omega) hx ht
  obtain ⟨x3, x4, e2, M2⟩ := s_sets N (ks := ks) M1 (p1 := 1) (p2 := zI y) (p3 := zI u) (k := 1) (by decide) rfl rfl (by omega) hy (by omega)
  obtain ⟨y1, y2, y3, e3, S1⟩ := s_parts N (ks := ks) hS (p1 := 0) (p2 := zI (m - 32)) (p3 := zI (d - 64)) (p4 := zI (s - 32768)) (k := 0) (by decide) rfl rfl rfl (by omega) ⟨by omega, by omega, by omega⟩
  unfold fL_law_j128
  rw [e1, bd3_s, eu, e2, bd3_s, em, ed, es, e3, bd4_s, if_neg (by decide)]
  exact g_j196 hN hK (dd := zup (zup dd 0 x) 1 y) (ss := zup (zup ss 0 t) 1 u) (mm := zup mm 0 (m - 32)) (da := zup da 0 (d - 64)) (se := zup se 0 (s - 32768)) ⟨M2, S1, h0, hC, had, hot⟩ (by rw [zup_s, zup_s, zup_s]; exact ⟨by omega, by omega, by omega⟩)
theorem g_j92 {N : Nat} (hN : 200000 ≤ N) {xc : Int32 → Int32} {K : LKT} {k : Int} (hK : LKp K k) {ks tl ti ci : Int32} {nn : Nat → Int64} {f g a b c f2 g2 a2 b2 c2 ts cs mr sr ad ot : Nat → Int32} {dd ss mm da se : Nat → Int} (h : LI dd ss mm da se ti ci f g a b c ad ot) {v3 : Int32} {v4 : Int32} {v5 : Int32} {x i z : Int} (hx : 0 ≤ x ∧ x ≤ 3652058) (hi : i = 0 ∨ i = 1) (hz : 0 ≤ z ∧ z ≤ 65535) : fL_law_j92 N xc K (zI k) v3 v4 v5 (zI x) (zI i) (zI z) ks f g a b c f2 g2 a2 b2 c2 tl nn ti ts ci cs mr sr ad ot = some 1 := by
  obtain ⟨hM, hS, h0, hC, had, hot⟩ := h
  have hzi : 0 ≤ z * i ∧ z * i ≤ 86399 := by rcases hi with rfl | rfl <;> omega
  obtain ⟨w, bw, ew⟩ := umask 1 v5 4095 (by omega)
  have ew : ((v5.toUInt32 >>> ((1 : Int32).toUInt32 &&& Int32.toUInt32 31)).toInt32) &&& (4095 : Int32) = zI w := ew
  obtain ⟨y, by', ey⟩ := umod 1 (by omega) (by omega) v5 (d := 3652059) (by omega)
  have ey : ((v5.toUInt32 >>> ((1 : Int32).toUInt32 &&& Int32.toUInt32 31)).toInt32) - ((v5.toUInt32 >>> ((1 : Int32).toUInt32 &&& Int32.toUInt32 31)).toInt32) / (3652059 : Int32) * (3652059 : Int32) = zI y := ey
  unfold fL_law_j92
  rw [zI_mul, nm_s, ew, ey, zI_add]
  by_cases h1 : v5 &&& (1 : Int32) = 0
  · rw [if_pos h1]
    by_cases hlt : x + w < 3652058
    · rw [if_pos (i_lt (b := 3652058) (by decide) (by omega)), nm_s]
      exact g_j128 hN hK ⟨hM, hS, h0, hC, had, hot⟩ hx hzi (by omega)
    · rw [if_neg (i_nlt (b := 3652058) (by decide) (by omega)), nm_s, show (3652058 : Int32) = zI 3652058 by decide]
      exact g_j128 hN hK ⟨hM, hS, h0, hC, had, hot⟩ hx hzi (by omega)
  · rw [if_neg h1]
    exact g_j128 hN hK ⟨hM, hS, h0, hC, had, hot⟩ hx hzi (by omega)
theorem g_j70 {N : Nat} (hN : 200000 ≤ N) {xc : Int32 → Int32} {K : LKT} {k : Int} (hK : LKp K k) {ks tl ti ci : Int32} {nn : Nat → Int64} {f g a b c f2 g2 a2 b2 c2 ts cs mr sr ad ot : Nat → Int32} {dd ss mm da se : Nat → Int} (h : LI dd ss mm da se ti ci f g a b c ad ot) {v3 : Int32} {v4 : Int32} {v5 : Int32} {x : Int} (hx : 0 ≤ x ∧ x ≤ 3652058) : fL_law_j70 N xc K (zI k) v3 v4 v5 (zI x) ks f g a b c f2 g2 a2 b2 c2 tl nn ti ts ci cs mr sr ad ot = some 1 := by
  obtain ⟨hM, hS, h0, hC, had, hot⟩ := h
  obtain ⟨z, bz, ez⟩ := and_m v4 65535 (by omega)
  have ez : v4 &&& (65535 : Int32) = zI z := ez
  unfold fL_law_j70
  rw [ez]
  by_cases h1 : ((v4.toUInt32 >>> ((16 : Int32).toUInt32 &&& Int32.toUInt32 31)).toInt32) &&& (1 : Int32) = 0
  · rw [if_pos h1, zl_0]
    exact g_j92 hN hK ⟨hM, hS, h0, hC, had, hot⟩ hx (Or.inl rfl) (by omega)
  · rw [if_neg h1, zl_1]
    exact g_j92 hN hK ⟨hM, hS, h0, hC, had, hot⟩ hx (Or.inr rfl) (by omega)
theorem g_l1207 {N : Nat} {xc : Int32 → Int32} {ks tl ti ci : Int32} {nn : Nat → Int64} {f g a b c f2 g2 a2 b2 c2 ts cs mr sr ad ot : Nat → Int32} {dd ss : Nat → Int} (hM : DM dd ss f g) {x : Nat} (hx : x < 8) (hmin : ∀ y, y < 8 → dd x * 86400 + ss x ≤ dd y * 86400 + ss y) : ∀ (n j : Nat), j ≤ 8 → 8 < j + n → fL_law_l1207 N xc n (zI (x : Int)) (zI (j : Int)) ks f g a b c f2 g2 a2 b2 c2 tl nn ti ts ci cs mr sr ad ot = some 1 := by
  obtain ⟨f1, f2', f5, f6⟩ := hM x hx
  intro n
  induction n with
  | zero => intro j h1 h2; omega
  | succ n ih =>
    intro j h1 h2
    rw [fL_law_l1207_s]
    by_cases hd : 8 ≤ j
    · rw [if_pos (i_ge' (b := 8) (by decide) (by omega))]
    · obtain ⟨p1, p2', p5, p6⟩ := hM j (by omega)
      have hm := hmin j (by omega)
      have c1 : zI (j : Int) + (1 : Int32) = zI ((j + 1 : Nat) : Int) := by rw [zl_1, zI_add]; rfl
      rw [if_neg (i_nge' (b := 8) (by decide) (by omega)), s_inst N hM rfl hx, bd1_s, s_inst N hM rfl (by omega), bd1_s, if_pos (k_le (by omega))]
      unfold fL_law_j1229
      rw [nm_s, c1]
      exact ih (j + 1) (by omega) (by omega)
theorem g_law {N : Nat} (hN : 200000 ≤ N) {xc : Int32 → Int32} : ∀ (n k : Nat), k ≤ 8 → 8 < k + n → ∀ (ks tl ti ci : Int32) (nn : Nat → Int64) (f g a b c f2 g2 a2 b2 c2 ts cs mr sr ad ot : Nat → Int32) (dd ss mm da se : Nat → Int), LI dd ss mm da se ti ci f g a b c ad ot → fL_law_l10 N xc n (zI (k : Int)) ks f g a b c f2 g2 a2 b2 c2 tl nn ti ts ci cs mr sr ad ot = some 1 := by
  intro n
  induction n with
  | zero => intro k h1 h2; omega
  | succ n ih =>
    intro k h1 h2 ks tl ti ci nn f g a b c f2 g2 a2 b2 c2 ts cs mr sr ad ot dd ss mm da se h
    obtain ⟨hM, hS, h0, hC, had, hot⟩ := id h
    rw [fL_law_l10_s]
    by_cases hd : 8 ≤ k
    · obtain ⟨x, nn1, e1, hx, hmin⟩ := s_sorts N hN (ks := ks) (tl := tl) (nn := nn) (a := a) (b := b) (c := c) hM
      rw [if_pos (i_ge' (b := 8) (by decide) (by omega)), e1, bd3_s, show (0 : Int32) = zI ((0 : Nat) : Int) by decide]
      exact g_l1207 hM hx hmin N 0 (by omega) (by omega)
    · have e3 : (3 : Int32) * zI (k : Int) = zI (3 * (k : Int)) := by rw [show (3 : Int32) = zI 3 by decide, zI_mul]
      have e31 : zI (3 * (k : Int)) + (1 : Int32) = zI (3 * (k : Int) + 1) := by rw [zl_1, zI_add]
      have e32 : zI (3 * (k : Int)) + (2 : Int32) = zI (3 * (k : Int) + 2) := by rw [show (2 : Int32) = zI 2 by decide, zI_add]
      have hK : LKp (fL_law_l10 N xc n) (k : Int) := by
        intro ks tl ti ci nn f g a b c f2 g2 a2 b2 c2 ts cs mr sr ad ot dd ss mm da se h
        exact ih (k + 1) (by omega) (by omega) ks tl ti ci nn f g a b c f2 g2 a2 b2 c2 ts cs mr sr ad ot dd ss mm da se h
      rw [if_neg (i_nge' (b := 8) (by decide) (by omega)), e3, e31, e32, gi_z (by omega) (by omega) (by omega), nm_s, gi_z (by omega) (by omega) (by omega), nm_s, gi_z (by omega) (by omega) (by omega), nm_s]
      obtain ⟨w, bw, ew⟩ := umask 1 (xc (zI (3 * (k : Int)))) 65535 (by omega)
      have ew : (((xc (zI (3 * (k : Int)))).toUInt32 >>> ((1 : Int32).toUInt32 &&& Int32.toUInt32 31)).toInt32) &&& (65535 : Int32) = zI w := ew
      obtain ⟨y, by', ey⟩ := umod 1 (by omega) (by omega) (xc (zI (3 * (k : Int)))) (d := 3652059) (by omega)
      have ey : (((xc (zI (3 * (k : Int)))).toUInt32 >>> ((1 : Int32).toUInt32 &&& Int32.toUInt32 31)).toInt32) - (((xc (zI (3 * (k : Int)))).toUInt32 >>> ((1 : Int32).toUInt32 &&& Int32.toUInt32 31)).toInt32) / (3652059 : Int32) * (3652059 : Int32) = zI y := ey
      rw [ew, ey, show (700000 : Int32) = zI 700000 by decide, zI_add]
      by_cases h1 : (xc (zI (3 * (k : Int)))) &&& (1 : Int32) = 0
      · rw [if_pos h1]
        exact g_j70 hN hK h (by omega)
      · rw [if_neg h1]
        exact g_j70 hN hK h (by omega)
