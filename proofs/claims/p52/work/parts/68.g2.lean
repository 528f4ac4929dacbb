/-! the law's joins: stretches, means, workdays, least phrases, ages -/
theorem g_j699 {N : Nat} (hN : 200000 ≤ N) {xc : Int32 → Int32} {K : LKT} {k : Int} (hK : LKp K k) {ks tl ti ci : Int32} {nn : Nat → Int64} {f g a b c f2 g2 a2 b2 c2 ts cs mr sr ad ot : Nat → Int32} {dd ss mm da se : Nat → Int} (h : LI dd ss mm da se ti ci f g a b c ad ot) {v3 : Int32} {v5 : Int32} {lw : Int} (hl : 0 ≤ lw ∧ lw ≤ 3) (hb : SB (mm 0) (da 0) (se 0)) : fL_law_j699 N xc K (zI k) v3 v5 (zI (dd 0)) (zI (dd 1)) (zI lw) (zL (dd 1 * 86400 + ss 1)) ks f g a b c f2 g2 a2 b2 c2 tl nn ti ts ci cs mr sr ad ot = some 1 := by
  obtain ⟨hM, hS, h0, hC, had, hot⟩ := h
  obtain ⟨f1, f2', f5, f6⟩ := hM 0 (by omega)
  obtain ⟨p1, p2', p5, p6⟩ := hM 1 (by omega)
  obtain ⟨y1, y2, tl1, nn1, e1, M1⟩ := s_part N (ks := ks) (tl := tl) (nn := nn) hM (p1 := 0) (p2 := 1) (p3 := 0) (p4 := 5) (p5 := 3) (k1 := 0) (k2 := 1) (k5 := 3) (k := 0) (n := 5) (by decide) (by decide) (by decide) (by decide) (by decide) (by omega) (by omega) (by omega) (by omega) (by omega) f5 f6 (by rw [Int.mul_zero, Int.zero_tdiv, Int.add_zero])
  have i3 := s_inst N (ks := ks) M1 (p2 := 3) (k := 3) (by decide) (by omega)
  have i0 := s_inst N (ks := ks) M1 (p2 := 0) (k := 0) (by decide) (by omega)
  rw [zup_s, zup_s] at i3
  rw [zup_n (by omega), zup_n (by omega)] at i0
  obtain ⟨w1, w2, tl2, nn2, e2, M2⟩ := s_part N (ks := ks) (tl := tl1) (nn := nn1) M1 (p1 := 0) (p2 := 1) (p3 := 5) (p4 := 5) (p5 := 3) (k1 := 0) (k2 := 1) (k5 := 3) (k := 5) (n := 5) (x := dd 1) (t := ss 1) (by decide) (by decide) (by decide) (by decide) (by decide) (by omega) (by omega) (by omega) (by omega) (by omega) p5 p6 (by rw [zup_n (by omega), zup_n (by omega), zup_n (by omega), zup_n (by omega), Int.mul_tdiv_cancel _ (by omega)]; omega)
  have j3 := s_inst N (ks := ks) M2 (p2 := 3) (k := 3) (by decide) (by omega)
  rw [zup_s, zup_s] at j3
  unfold fL_law_j699
  rw [e1, bd5_s, if_pos rfl, i3, bd1_s, i0, bd1_s, if_pos (k_eq rfl), e2, bd5_s, if_pos rfl, j3, bd1_s, if_pos (k_eq rfl)]
  exact g_j754 hN hK (dd := zup (zup dd 3 (dd 0)) 3 (dd 1)) (ss := zup (zup ss 3 (ss 0)) 3 (ss 1)) ⟨M2, hS, h0, hC, had, hot⟩ hl hb
theorem g_j692 {N : Nat} (hN : 200000 ≤ N) {xc : Int32 → Int32} {K : LKT} {k : Int} (hK : LKp K k) {ks tl ti ci : Int32} {nn : Nat → Int64} {f g a b c f2 g2 a2 b2 c2 ts cs mr sr ad ot : Nat → Int32} {dd ss mm da se : Nat → Int} (h : LI dd ss mm da se ti ci f g a b c ad ot) {v3 : Int32} {v5 : Int32} {lw : Int} (hl : 0 ≤ lw ∧ lw ≤ 3) {t0v : Int32} {t1v : Int64} (e : lg_cmp t1v t0v.toInt64 = 0) (hb : SB (mm 0) (da 0) (se 0)) : fL_law_j692 N xc K (zI k) v3 v5 (zI (dd 0)) (zI (dd 1)) (zI lw) (zL (dd 1 * 86400 + ss 1)) t0v t1v ks f g a b c f2 g2 a2 b2 c2 tl nn ti ts ci cs mr sr ad ot = some 1 := by
  obtain ⟨hM, hS, h0, hC, had, hot⟩ := h
  unfold fL_law_j692
  rw [if_pos e]
  exact g_j699 hN hK ⟨hM, hS, h0, hC, had, hot⟩ hl hb
theorem g_j652 {N : Nat} (hN : 200000 ≤ N) {xc : Int32 → Int32} {K : LKT} {k : Int} (hK : LKp K k) {ks tl ti ci : Int32} {nn : Nat → Int64} {f g a b c f2 g2 a2 b2 c2 ts cs mr sr ad ot : Nat → Int32} {dd ss mm da se : Nat → Int} (h : LI dd ss mm da se ti ci f g a b c ad ot) {v3 : Int32} {v5 : Int32} {lw : Int} (hl : 0 ≤ lw ∧ lw ≤ 3) (hb : SB (mm 0) (da 0) (se 0)) : fL_law_j652 N xc K (zI k) v3 v5 (zI (dd 0)) (zI (dd 1)) (zI lw) (zL (dd 1 * 86400 + ss 1)) (zI (if dd 1 * 86400 + ss 1 < dd 0 * 86400 + ss 0 then 1 else 0)) ks f g a b c f2 g2 a2 b2 c2 tl nn ti ts ci cs mr sr ad ot = some 1 := by
  obtain ⟨hM, hS, h0, hC, had, hot⟩ := h
  obtain ⟨f1, f2', f5, f6⟩ := hM 0 (by omega)
  obtain ⟨p1, p2', p5, p6⟩ := hM 1 (by omega)
  obtain ⟨nn1, e1, w1⟩ := s_mean N hN (ks := ks) (tl := tl) (nn := nn) hM rfl rfl
  have er := s_row N (p1 := 1) (ks := ks) (tl := zI 3) (nn := nn1) (k := 1) (n := 3) (by decide) rfl (by omega) (by omega)
  have i0 := s_inst N (ks := ks) hM (p2 := 0) (k := 0) (by decide) (by omega)
  obtain ⟨A, hA⟩ : ∃ A, A = dd 0 * 86400 + ss 0 := ⟨_, rfl⟩
  obtain ⟨B, hB⟩ : ∃ B, B = dd 1 * 86400 + ss 1 := ⟨_, rfl⟩
  have em : ((zL B + zL A) / (2 : Int64) / (86400 : Int64)).toInt32 = zI ((A + B) / 2 / 86400) := by
    rw [zL_add, show (2 : Int64) = zL 2 by decide, zL_div (by omega) (by omega) (by omega) (by omega), zll_86400, zL_div (by omega) (by omega) (by omega) (by omega), zL_toI, Int.add_comm]
  unfold fL_law_j652
  rw [e1, bd3_s, i0, bd1_s, ← hA, ← hB, em, if_pos rfl, er, bd1_s, w1, ← hA, ← hB]
  by_cases hlt : B < A
  · rw [if_pos hlt, if_neg (by decide)]
    have := g_j692 (t0v := 1) (t1v := zL 1) hN hK (tl := zI 3) (nn := nn1) (xc := xc) (ks := ks) (v3 := v3) (v5 := v5) (f2 := f2) (g2 := g2) (a2 := a2) (b2 := b2) (c2 := c2) (ts := ts) (cs := cs) (mr := mr) (sr := sr) ⟨hM, hS, h0, hC, had, hot⟩ hl (by decide) hb
    rw [← hB] at this
    exact this
  · rw [if_neg hlt, if_pos (by decide)]
    have := g_j692 (t0v := 0) (t1v := zL 0) hN hK (tl := zI 3) (nn := nn1) (xc := xc) (ks := ks) (v3 := v3) (v5 := v5) (f2 := f2) (g2 := g2) (a2 := a2) (b2 := b2) (c2 := c2) (ts := ts) (cs := cs) (mr := mr) (sr := sr) ⟨hM, hS, h0, hC, had, hot⟩ hl (by decide) hb
    rw [← hB] at this
    exact this
theorem g_j599 {N : Nat} (hN : 200000 ≤ N) {xc : Int32 → Int32} {K : LKT} {k : Int} (hK : LKp K k) {ks tl ti ci : Int32} {nn : Nat → Int64} {f g a b c f2 g2 a2 b2 c2 ts cs mr sr ad ot : Nat → Int32} {dd ss mm da se : Nat → Int} (h : LI dd ss mm da se ti ci f g a b c ad ot) {v3 : Int32} {v5 : Int32} {lw : Int} (hl : 0 ≤ lw ∧ lw ≤ 3) (hb : SB (mm 0) (da 0) (se 0)) : fL_law_j599 N xc K (zI k) v3 v5 (zI (dd 0)) (zI (dd 1)) (zI lw) (zL (dd 1 * 86400 + ss 1)) (zI (if dd 1 * 86400 + ss 1 < dd 0 * 86400 + ss 0 then 1 else 0)) ks f g a b c f2 g2 a2 b2 c2 tl nn ti ts ci cs mr sr ad ot = some 1 := by
  obtain ⟨hM, hS, h0, hC, had, hot⟩ := h
  obtain ⟨f1, f2', f5, f6⟩ := hM 0 (by omega)
  obtain ⟨p1, p2', p5, p6⟩ := hM 1 (by omega)
  obtain ⟨A, hA⟩ : ∃ A, A = dd 0 * 86400 + ss 0 := ⟨_, rfl⟩
  obtain ⟨B, hB⟩ : ∃ B, B = dd 1 * 86400 + ss 1 := ⟨_, rfl⟩
  obtain ⟨nn1, e1, -⟩ := s_overlaps N (ks := ks) (tl := tl) (nn := nn) hM (p1 := 0) (p2 := 1) (p3 := 1) (p4 := 0) (k1 := 0) (k2 := 1) (k3 := 1) (k4 := 0) (by decide) (by decide) (by decide) (by decide) (by omega) (by omega) (by omega) (by omega) hA hB hB hA
  obtain ⟨nn2, e2, w2⟩ := s_overlaps N (ks := ks) (tl := zI 2) (nn := nn1) hM (p1 := 0) (p2 := 0) (p3 := 1) (p4 := 1) (k1 := 0) (k2 := 0) (k3 := 1) (k4 := 1) (by decide) (by decide) (by decide) (by decide) (by omega) (by omega) (by omega) (by omega) hA hA hB hB
  have er := s_row N (p1 := 1) (ks := ks) (tl := zI 2) (nn := nn2) (k := 1) (n := 2) (by decide) rfl (by omega) (by omega)
  have i0 := s_inst N (ks := ks) hM (p2 := 0) (k := 0) (by decide) (by omega)
  rw [← hA] at i0
  have ea : (if (0 : Int64) < zL B - zL A then zL B - zL A else -(zL B - zL A)) = zL (max A B - min A B) := by
    rw [zL_sub, zll_0]
    by_cases hlt : 0 < B - A
    · rw [if_pos (by rw [zL_lt (by omega) (by omega) (by omega) (by omega)]; exact hlt)]; congr 1; omega
    · rw [if_neg (by rw [zL_lt (by omega) (by omega) (by omega) (by omega)]; exact hlt), zL_neg]; congr 1; omega
  unfold fL_law_j599
  rw [e1, bd3_s, i0, bd1_s, ← hB, ea, nm_s, if_pos (k_eq (by omega)), e2, bd3_s, if_pos (by rw [zll_0]; exact k_eq (by omega)), er, bd1_s, w2, if_pos (k_eq (by omega)), hB]
  exact g_j652 hN hK ⟨hM, hS, h0, hC, had, hot⟩ hl hb
def sp_wt (x y : Int) : Nat → Int
  | 0 => 0
  | k + 1 => sp_wt x y k + sp_wa x y k
theorem wt_7 {x y : Int} (h : 0 ≤ x ∧ x ≤ y) : sp_wt x y 7 = y - x := by
  have := wa_sum h
  show 0 + sp_wa x y 0 + sp_wa x y 1 + sp_wa x y 2 + sp_wa x y 3 + sp_wa x y 4 + sp_wa x y 5 + sp_wa x y 6 = y - x
  omega
theorem wa_b {x y : Int} (h : 0 ≤ x ∧ x ≤ y ∧ y ≤ 3652058) (k : Int) : 0 ≤ sp_wa x y k ∧ sp_wa x y k ≤ 600000 := by unfold sp_wa; split <;> omega
theorem wt_b {x y : Int} (h : 0 ≤ x ∧ x ≤ y ∧ y ≤ 3652058) : ∀ k, 0 ≤ sp_wt x y k ∧ sp_wt x y k ≤ 600000 * k
  | 0 => ⟨Int.le_refl _, Int.le_refl _⟩
  | k + 1 => by
    have a := wt_b h k
    have b := wa_b h k
    have e : sp_wt x y (k + 1) = sp_wt x y k + sp_wa x y k := rfl
    omega
theorem ws_0 (x : Int) : ∀ k, sp_ws x x k = 0
  | 0 => rfl
  | k + 1 => by
    have e : sp_ws x x (k + 1) = sp_ws x x k + (if k < 5 then sp_wa x x k else 0) := rfl
    have e2 : sp_wa x x k = 0 := by unfold sp_wa; rw [if_neg (by omega)]; omega
    rw [e, ws_0 x k, e2]
    split <;> rfl
theorem ws_b {x y : Int} (h : 0 ≤ x ∧ x ≤ y ∧ y ≤ 3652058) : ∀ k, 0 ≤ sp_ws x y k ∧ sp_ws x y k ≤ 600000 * k
  | 0 => ⟨Int.le_refl _, Int.le_refl _⟩
  | k + 1 => by
    have a := ws_b h k
    have b := wa_b h k
    have e : sp_ws x y (k + 1) = sp_ws x y k + (if k < 5 then sp_wa x y k else 0) := rfl
    rw [e]
    split <;> omega
theorem g_l546 {N : Nat} (hN : 200000 ≤ N) {xc : Int32 → Int32} {K : LKT} {k : Int} (hK : LKp K k) {ks ti ci : Int32} {nn : Nat → Int64} {f g a b c f2 g2 a2 b2 c2 ts cs mr sr ad ot : Nat → Int32} {dd ss mm da se : Nat → Int} (h : LI dd ss mm da se ti ci f g a b c ad ot) {v3 v5 : Int32} {lw : Int} (hl : 0 ≤ lw ∧ lw ≤ 3) (hb : SB (mm 0) (da 0) (se 0)) (hw : ∀ q : Nat, q < 7 → nn q = zL (sp_wa (min (dd 0) (dd 1)) (max (dd 1) (dd 0)) q)) : ∀ (n j : Nat), j ≤ 7 → 7 < j + n →
    fL_law_l546 N xc K n (zI k) v3 v5 (zI (dd 0)) (zI (dd 1)) (zI lw) (zL (dd 1 * 86400 + ss 1)) (zI (if dd 1 * 86400 + ss 1 < dd 0 * 86400 + ss 0 then 1 else 0)) (zI (if dd 1 < dd 0 then -sp_ws (min (dd 0) (dd 1)) (max (dd 1) (dd 0)) 7 else sp_ws (min (dd 0) (dd 1)) (max (dd 1) (dd 0)) 7)) (zI (sp_wt (min (dd 0) (dd 1)) (max (dd 1) (dd 0)) j)) (zI (j : Int)) ks f g a b c f2 g2 a2 b2 c2 (zI 7) nn ti ts ci cs mr sr ad ot = some 1 := by
  obtain ⟨hM, hS, h0, hC, had, hot⟩ := h
  obtain ⟨f1, f2', f5, f6⟩ := hM 0 (by omega)
  obtain ⟨p1, p2', p5, p6⟩ := hM 1 (by omega)
  have bX : 0 ≤ min (dd 0) (dd 1) ∧ min (dd 0) (dd 1) ≤ max (dd 1) (dd 0) ∧ max (dd 1) (dd 0) ≤ 3652058 := by omega
  intro n
  induction n with
  | zero => intro j h1 h2; omega
  | succ n ih =>
    intro j h1 h2
    rw [fL_law_l546_s]
    by_cases hd : 7 ≤ j
    · have e7 : j = 7 := by omega
      subst e7
      have w7 := wt_7 (x := min (dd 0) (dd 1)) (y := max (dd 1) (dd 0)) (by omega)
      have ea : (if 0 ≤ zI (dd 1) - zI (dd 0) then zI (dd 1) - zI (dd 0) else 0 - (zI (dd 1) - zI (dd 0))) = zI (sp_wt (min (dd 0) (dd 1)) (max (dd 1) (dd 0)) 7) := by
        rw [zI_sub, w7]
        by_cases hlt : 0 ≤ dd 1 - dd 0
        · rw [if_pos (i_ge' (b := 0) (by decide) (by omega))]; congr 1; omega
        · rw [if_neg (i_nge' (b := 0) (by decide) (by omega)), zl_0, zI_sub]; congr 1; omega
      obtain ⟨nn1, e1, -⟩ := s_workdays N hN (ks := ks) (tl := zI 7) (nn := nn) hM (p1 := 1) (p2 := 0) (k1 := 1) (k2 := 0) (by decide) (by decide) (by omega) (by omega)
      rw [Int.min_comm (dd 1), Int.max_comm (dd 0)] at e1
      obtain ⟨Wd, hWd⟩ : ∃ Wd, Wd = sp_ws (min (dd 0) (dd 1)) (max (dd 1) (dd 0)) 7 := ⟨_, rfl⟩
      have w0 : dd 0 = dd 1 → Wd = 0 := by
        intro e
        rw [hWd, e, Int.min_self, Int.max_self]
        exact ws_0 _ 7
      rw [← hWd] at e1 ⊢
      rw [if_pos (i_ge' (b := 7) (by decide) (by omega)), ea, nm_s, if_pos rfl, e1, bd3_s, if_pos (by rw [zI_neg]; congr 1; split <;> split <;> omega)]
      exact g_j599 hN hK ⟨hM, hS, h0, hC, had, hot⟩ hl hb
    · have bw := wt_b bX j
      have ba := wa_b bX (j : Int)
      have er := s_row N (p1 := zI (j : Int)) (ks := ks) (tl := zI 7) (nn := nn) (k := j) (n := 7) rfl rfl (by omega) (by omega)
      have c1 : zI (j : Int) + (1 : Int32) = zI ((j + 1 : Nat) : Int) := by rw [zl_1, zI_add]; rfl
      have c2 : ((zI (sp_wt (min (dd 0) (dd 1)) (max (dd 1) (dd 0)) j)).toInt64 + zL (sp_wa (min (dd 0) (dd 1)) (max (dd 1) (dd 0)) j)).toInt32 = zI (sp_wt (min (dd 0) (dd 1)) (max (dd 1) (dd 0)) (j + 1)) := by
        rw [zI_toL (by omega) (by omega), zL_add, zL_toI]; rfl
      rw [if_neg (i_nge' (b := 7) (by decide) (by omega)), er, bd1_s, hw j (by omega), c2, nm_s, c1, nm_s]
      exact ih (j + 1) (by omega) (by omega)
theorem g_j532 {N : Nat} (hN : 200000 ≤ N) {xc : Int32 → Int32} {K : LKT} {k : Int} (hK : LKp K k) {ks tl ti ci : Int32} {nn : Nat → Int64} {f g a b c f2 g2 a2 b2 c2 ts cs mr sr ad ot : Nat → Int32} {dd ss mm da se : Nat → Int} (h : LI dd ss mm da se ti ci f g a b c ad ot) {v3 : Int32} {v5 : Int32} {lw : Int} (hl : 0 ≤ lw ∧ lw ≤ 3) (hb : SB (mm 0) (da 0) (se 0)) : fL_law_j532 N xc K (zI k) v3 v5 (zI (dd 0)) (zI (dd 1)) (zI lw) (zL (dd 1 * 86400 + ss 1)) (zI (if dd 1 * 86400 + ss 1 < dd 0 * 86400 + ss 0 then 1 else 0)) ks f g a b c f2 g2 a2 b2 c2 tl nn ti ts ci cs mr sr ad ot = some 1 := by
  obtain ⟨hM, hS, h0, hC, had, hot⟩ := h
  obtain ⟨nn1, e1, w1⟩ := s_workdays N hN (ks := ks) (tl := tl) (nn := nn) hM (p1 := 0) (p2 := 1) (k1 := 0) (k2 := 1) (by decide) (by decide) (by omega) (by omega)
  unfold fL_law_j532
  rw [e1, bd3_s, show (0 : Int32) = zI ((0 : Nat) : Int) by decide]
  exact g_l546 hN hK ⟨hM, hS, h0, hC, had, hot⟩ hl hb w1 N 0 (by omega) (by omega)
theorem g_j527 {N : Nat} (hN : 200000 ≤ N) {xc : Int32 → Int32} {K : LKT} {k : Int} (hK : LKp K k) {ks tl ti ci : Int32} {nn : Nat → Int64} {f g a b c f2 g2 a2 b2 c2 ts cs mr sr ad ot : Nat → Int32} {dd ss mm da se : Nat → Int} (h : LI dd ss mm da se ti ci f g a b c ad ot) {v3 : Int32} {v5 : Int32} {lw : Int} (hl : 0 ≤ lw ∧ lw ≤ 3) {t0v t1v : Int32} (e : t1v = t0v) (hb : SB (mm 0) (da 0) (se 0)) : fL_law_j527 N xc K (zI k) v3 v5 (zI (dd 0)) (zI (dd 1)) (zI lw) (zL (dd 1 * 86400 + ss 1)) (zI (if dd 1 * 86400 + ss 1 < dd 0 * 86400 + ss 0 then 1 else 0)) t0v t1v ks f g a b c f2 g2 a2 b2 c2 tl nn ti ts ci cs mr sr ad ot = some 1 := by
  obtain ⟨hM, hS, h0, hC, had, hot⟩ := h
  unfold fL_law_j527
  rw [if_pos e]
  exact g_j532 hN hK ⟨hM, hS, h0, hC, had, hot⟩ hl hb
theorem g_j484 {N : Nat} (hN : 200000 ≤ N) {xc : Int32 → Int32} {K : LKT} {k : Int} (hK : LKp K k) {ks tl ti ci : Int32} {nn : Nat → Int64} {f g a b c f2 g2 a2 b2 c2 ts cs mr sr ad ot : Nat → Int32} {dd ss mm da se : Nat → Int} (h : LI dd ss mm da se ti ci f g a b c ad ot) {v3 : Int32} {v5 : Int32} {lw : Int} (hl : 0 ≤ lw ∧ lw ≤ 3) (hb : SB (mm 0) (da 0) (se 0)) : fL_law_j484 N xc K (zI k) v3 v5 (zI (dd 0)) (zI (dd 1)) (zI lw) (zL (dd 1 * 86400 + ss 1)) (zI (if dd 1 * 86400 + ss 1 < dd 0 * 86400 + ss 0 then 1 else 0)) ks f g a b c f2 g2 a2 b2 c2 tl nn ti ts ci cs mr sr ad ot = some 1 := by
  obtain ⟨hM, hS, h0, hC, had, hot⟩ := h
  obtain ⟨f1, f2', f5, f6⟩ := hM 0 (by omega)
  obtain ⟨p1, p2', p5, p6⟩ := hM 1 (by omega)
  obtain ⟨v, tl1, nn1, ad1, e1, A1, bv, hv⟩ := s_least N hN (ks := ks) (tl := tl) (nn := nn) hM had (p1 := 0) (p2 := 1) (k1 := 0) (k2 := 1) (by decide) (by decide) (by omega) (by omega)
  unfold fL_law_j484
  rw [e1, bd4_s, if_neg (i_nlt (b := 0) (by decide) (by omega)), if_neg (i_ngt (b := 36600) (by decide) (by omega))]
  by_cases hz : v = 0
  · rw [if_pos (i_eq (b := 0) (by decide) hz), if_pos (i_eq rfl (hv.mp hz))]
    exact g_j527 hN hK ⟨hM, hS, h0, hC, A1, hot⟩ hl rfl hb
  · rw [if_neg (i_neq (b := 0) (by decide) (by omega)), if_neg (i_neq rfl ⟨by omega, by omega, by omega, by omega, fun e => hz (hv.mpr e)⟩)]
    exact g_j527 hN hK ⟨hM, hS, h0, hC, A1, hot⟩ hl rfl hb
theorem g_j440 {N : Nat} (hN : 200000 ≤ N) {xc : Int32 → Int32} {K : LKT} {k : Int} (hK : LKp K k) {ks tl ti ci : Int32} {nn : Nat → Int64} {f g a b c f2 g2 a2 b2 c2 ts cs mr sr ad ot : Nat → Int32} {dd ss mm da se : Nat → Int} (h : LI dd ss mm da se ti ci f g a b c ad ot) {v3 : Int32} {v5 : Int32} {lw : Int} (hl : 0 ≤ lw ∧ lw ≤ 3) (hb : SB (mm 0) (da 0) (se 0)) : fL_law_j440 N xc K (zI k) v3 v5 (zI (dd 0)) (zI (dd 1)) (zI lw) (zL (dd 1 * 86400 + ss 1)) (zI (if dd 1 * 86400 + ss 1 < dd 0 * 86400 + ss 0 then 1 else 0)) ks f g a b c f2 g2 a2 b2 c2 tl nn ti ts ci cs mr sr ad ot = some 1 := by
  obtain ⟨hM, hS, h0, hC, had, hot⟩ := h
  obtain ⟨f1, f2', f5, f6⟩ := hM 0 (by omega)
  obtain ⟨p1, p2', p5, p6⟩ := hM 1 (by omega)
  obtain ⟨v, R, nn1, ad1, e1, A1, bv, w1, bR, hR⟩ := s_age N hN (ks := ks) (tl := tl) (nn := nn) hM had (p1 := 0) (p2 := 1) (k1 := 0) (k2 := 1) (by decide) (by decide) (by omega) (by omega)
  have er := s_row N (p1 := 0) (ks := ks) (tl := zI 2) (nn := nn1) (k := 0) (n := 2) (by decide) rfl (by omega) (by omega)
  unfold fL_law_j440
  rw [e1, bd4_s, if_neg (i_nlt (b := 0) (by decide) (by omega))]
  by_cases hlt : dd 1 < dd 0
  · rw [if_pos (i_lt rfl (by omega))]
    exact g_j484 hN hK ⟨hM, hS, h0, hC, A1, hot⟩ hl hb
  · have := hR (by omega)
    rw [if_neg (i_nlt rfl (by omega)), er]
    simp only [bd1_s]
    rw [w1, if_neg (by rw [zll_0]; exact k_nlt (by omega)), if_pos (by rw [show (366 : Int64) = zL 366 by decide]; exact k_le (by omega))]
    exact g_j484 hN hK ⟨hM, hS, h0, hC, A1, hot⟩ hl hb
