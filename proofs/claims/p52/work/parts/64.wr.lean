/-! say, instant, isWritten: what they come to -/
theorem bd7_s {a1 a2 a3 a4 a5 a6 a7 ρ : Type} {x1 : a1} {x2 : a2} {x3 : a3} {x4 : a4} {x5 : a5} {x6 : a6} {x7 : a7} {k : a1 → a2 → a3 → a4 → a5 → a6 → a7 → Option ρ} : bd7 (some (x1, x2, x3, x4, x5, x6, x7)) k = k x1 x2 x3 x4 x5 x6 x7 := rfl
theorem bd8_s {a1 a2 a3 a4 a5 a6 a7 a8 ρ : Type} {x1 : a1} {x2 : a2} {x3 : a3} {x4 : a4} {x5 : a5} {x6 : a6} {x7 : a7} {x8 : a8} {k : a1 → a2 → a3 → a4 → a5 → a6 → a7 → a8 → Option ρ} : bd8 (some (x1, x2, x3, x4, x5, x6, x7, x8)) k = k x1 x2 x3 x4 x5 x6 x7 x8 := rfl
theorem bd9_s {a1 a2 a3 a4 a5 a6 a7 a8 a9 ρ : Type} {x1 : a1} {x2 : a2} {x3 : a3} {x4 : a4} {x5 : a5} {x6 : a6} {x7 : a7} {x8 : a8} {x9 : a9} {k : a1 → a2 → a3 → a4 → a5 → a6 → a7 → a8 → a9 → Option ρ} : bd9 (some (x1, x2, x3, x4, x5, x6, x7, x8, x9)) k = k x1 x2 x3 x4 x5 x6 x7 x8 x9 := rfl
theorem bd10_s {a1 a2 a3 a4 a5 a6 a7 a8 a9 a10 ρ : Type} {x1 : a1} {x2 : a2} {x3 : a3} {x4 : a4} {x5 : a5} {x6 : a6} {x7 : a7} {x8 : a8} {x9 : a9} {x10 : a10} {k : a1 → a2 → a3 → a4 → a5 → a6 → a7 → a8 → a9 → a10 → Option ρ} : bd10 (some (x1, x2, x3, x4, x5, x6, x7, x8, x9, x10)) k = k x1 x2 x3 x4 x5 x6 x7 x8 x9 x10 := rfl
theorem bd11_s {a1 a2 a3 a4 a5 a6 a7 a8 a9 a10 a11 ρ : Type} {x1 : a1} {x2 : a2} {x3 : a3} {x4 : a4} {x5 : a5} {x6 : a6} {x7 : a7} {x8 : a8} {x9 : a9} {x10 : a10} {x11 : a11} {k : a1 → a2 → a3 → a4 → a5 → a6 → a7 → a8 → a9 → a10 → a11 → Option ρ} : bd11 (some (x1, x2, x3, x4, x5, x6, x7, x8, x9, x10, x11)) k = k x1 x2 x3 x4 x5 x6 x7 x8 x9 x10 x11 := rfl
theorem bd12_s {a1 a2 a3 a4 a5 a6 a7 a8 a9 a10 a11 a12 ρ : Type} {x1 : a1} {x2 : a2} {x3 : a3} {x4 : a4} {x5 : a5} {x6 : a6} {x7 : a7} {x8 : a8} {x9 : a9} {x10 : a10} {x11 : a11} {x12 : a12} {k : a1 → a2 → a3 → a4 → a5 → a6 → a7 → a8 → a9 → a10 → a11 → a12 → Option ρ} : bd12 (some (x1, x2, x3, x4, x5, x6, x7, x8, x9, x10, x11, x12)) k = k x1 x2 x3 x4 x5 x6 x7 x8 x9 x10 x11 x12 := rfl
theorem s_inst (N : Nat) {p2 ks : Int32} {k : Nat} {f g : Nat → Int32} {dd ss : Nat → Int} (hM : DM dd ss f g) (e1 : p2 = zI k) (hk : k < 8) : fL_instant N p2 ks f g = some (zL (dd k * 86400 + ss k)) := by
  obtain ⟨f1, f2, f5, f6⟩ := hM k hk
  unfold fL_instant
  rw [s_mI0 N hM e1 hk, bd1_s, s_mI1 N hM e1 hk, bd1_s, zI_toL (by omega) (by omega), zI_toL (by omega) (by omega), zll_86400, zL_mul, zL_add, Int.mul_comm 86400]
theorem say13 (N : Nat) {n : Nat} {ks : Int32} {fa : Nat → Int32} {c : Nat → Int} (K : Int32 → Int32 → Int32 → (Nat → Int32) → Option (Int32 × (Nat → Int32))) (hn : n ≤ 60) (hc : ∀ k, 0 ≤ c k ∧ c k ≤ 127) (hfa : ∀ k, k < n → fa k = zI (c k)) (hz : ∀ k, n ≤ k → c k = 0) (m at' i : Nat) (hat : at' ≤ 100) (hi : i < 4) {V : Int} (hV : 0 ≤ V ∧ V < 8388608) (ti : Int32) (ts : Nat → Int32) :
    fL_say_l13 N n ks fa K (m + 1) (zI (n : Int)) (zI (at' : Int)) (zI V) (zI (i : Int)) ti ts = fL_say_l13 N n ks fa K m (zI (n : Int)) (zI (at' : Int)) (zI (256 * V + c (at' + i))) (zI ((i + 1 : Nat) : Int)) ti ts := by
  have c1 : zI (i : Int) + (1 : Int32) = zI ((i + 1 : Nat) : Int) := by rw [zl_1, zI_add]; rfl
  have c2 : zI (at' : Int) + zI (i : Int) = zI ((at' + i : Nat) : Int) := by rw [zI_add]; rfl
  have hb := hc (at' + i)
  rw [fL_say_l13_s, if_neg (i_nge' (b := 4) (by decide) (by omega)), c2, c1]
  by_cases h : n ≤ at' + i
  · rw [if_pos (i_le rfl (by omega)), show (0 : Int32) = zI (c (at' + i)) by rw [hz _ h]; decide, or8 hV (by omega), nm_s, nm_s]
  · rw [if_neg (i_nle rfl (by omega)), gi_z (by omega) (by omega) (by omega), zI_cl (by omega) (by omega), tn1, hfa _ (by omega), or8 hV (by omega), nm_s, nm_s]
theorem say2 (N : Nat) (hN : 200000 ≤ N) {n : Nat} {ks : Int32} {fa : Nat → Int32} {c : Nat → Int} (hn : n ≤ 60) (hc : ∀ k, 0 ≤ c k ∧ c k ≤ 127) (hfa : ∀ k, k < n → fa k = zI (c k)) (hz : ∀ k, n ≤ k → c k = 0) : ∀ (f j : Nat) (ti : Int32) (ts : Nat → Int32), TP (4 * j) c ti ts → 4 * j ≤ n + 3 → 16 - j < f → ∃ ti' ts', fL_say_l2 N n ks fa f (zI (n : Int)) (zI ((4 * j : Nat) : Int)) ti ts = some (ti', ts') ∧ TP n c ti' ts' := by
  intro f
  induction f with
  | zero => intro j ti ts hT h1 h2; omega
  | succ f ih =>
    intro j ti ts hT h1 h2
    rw [fL_say_l2_s]
    by_cases hd : n ≤ 4 * j
    · rw [if_pos (i_le rfl (by omega))]
      obtain ⟨r, ti', e, T⟩ := s_end N (ks := ks) hT (p1 := zI (n : Int)) rfl hd
      rw [e, bd2_s]
      exact ⟨_, _, rfl, T⟩
    · rw [if_neg (i_nle rfl (by omega))]
      obtain ⟨m, rfl⟩ : ∃ m, N = m + 5 := ⟨N - 5, by omega⟩
      have b0 := hc (4 * j)
      have a0 := hc (4 * j + 0)
      have a1 := hc (4 * j + (0 + 1))
      have a2 := hc (4 * j + (0 + 1 + 1))
      have b1 := hc (4 * j + 1)
      have b2 := hc (4 * j + 2)
      have b3 := hc (4 * j + 3)
      rw [show (0 : Int32) = zI ((0 : Nat) : Int) by decide]
      rw [say13 (m + 5) (fL_say_l2 (m + 5) n ks fa f) hn hc hfa hz (m + 4) (4 * j) 0 (by omega) (by omega) (by omega)]
      rw [say13 (m + 5) (fL_say_l2 (m + 5) n ks fa f) hn hc hfa hz (m + 3) (4 * j) (0 + 1) (by omega) (by omega) (by omega)]
      rw [say13 (m + 5) (fL_say_l2 (m + 5) n ks fa f) hn hc hfa hz (m + 2) (4 * j) (0 + 1 + 1) (by omega) (by omega) (by omega)]
      rw [say13 (m + 5) (fL_say_l2 (m + 5) n ks fa f) hn hc hfa hz (m + 1) (4 * j) (0 + 1 + 1 + 1) (by omega) (by omega) (by omega)]
      rw [fL_say_l13_s, if_pos (i_ge' (b := 4) (by decide) (by omega))]
      obtain ⟨r, ti1, ts1, e, T⟩ := s_sign (m + 5) (ks := ks) hT (by omega) b0 b1 b2 b3 (p1 := zI (256 * (256 * (256 * (256 * ((0 : Nat) : Int) + c (4 * j + 0)) + c (4 * j + (0 + 1))) + c (4 * j + (0 + 1 + 1))) + c (4 * j + (0 + 1 + 1 + 1)))) (by congr 1; show 256 * (256 * (256 * (256 * 0 + c (4 * j)) + c (4 * j + 1)) + c (4 * j + 2)) + c (4 * j + 3) = _; omega)
      have c4 : zI ((4 * j : Nat) : Int) + (4 : Int32) = zI ((4 * (j + 1) : Nat) : Int) := by rw [zl_4, zI_add]; congr 1
      rw [e, bd3_s, nm_s, c4]
      exact ih (j + 1) ti1 ts1 T (by omega) (by omega)
theorem g_say (N : Nat) (hN : 200000 ≤ N) {l : List Int} {ks ti : Int32} {ts fa : Nat → Int32} (hl : l.length ≤ 60) (hb : LB l) (hfa : ∀ k, k < l.length → fa k = zI (l.getD k 0)) (h0 : ti = 0) : ∃ ti' ts', fL_say N (zI (l.length : Int)) l.length ks ti ts fa = some (ti', ts') ∧ TL l ti' ts' := by
  have hz : ∀ k, l.length ≤ k → l.getD k 0 = 0 := fun k hk => by rw [List.getD_eq_getElem?_getD, List.getElem?_eq_none hk]; rfl
  have hc : ∀ k, 0 ≤ l.getD k 0 ∧ l.getD k 0 ≤ 127 := fun k => by
    by_cases h : k < l.length
    · exact hb k h
    · rw [hz k (by omega)]; omega
  obtain ⟨ti', ts', e, T⟩ := say2 N hN (n := l.length) (ks := ks) (fa := fa) (c := fun k => l.getD k 0) hl hc hfa hz N 0 ti ts ⟨by omega, by rw [h0]; decide, fun k hk => by omega⟩ (by omega) (by omega)
  exact ⟨ti', ts', e, T⟩
theorem g_wr (N : Nat) (hN : 200000 ≤ N) {ks tl ti : Int32} {nn : Nat → Int64} {ts mr f g : Nat → Int32} {dd ss : Nat → Int} {k1 : Nat} (hM : DM dd ss f g) (hk1 : k1 < 8) (h0 : ti = 0) {n : Nat} (hn : n = (w_m (dd k1) (ss k1)).length) : ∀ (fu j : Nat) (ci : Int32) (cs fa : Nat → Int32), RelC ci → j ≤ n → (∀ q, q < j → fa q = zI ((w_m (dd k1) (ss k1)).getD q 0)) → n - j < fu →
    ∃ f' g' tl' nn' ti' ts' ci' cs' mr', fL_isWritten_l30 N ks fu (zI (k1 : Int)) (zI (n : Int)) (zI (dd k1)) (zI (ss k1)) (zI (j : Int)) f g tl nn ti ts ci cs mr fa = some (1, f', g', tl', nn', ti', ts', ci', cs', mr') ∧ DM (zup dd 7 (dd k1)) (zup ss 7 (ss k1)) f' g' ∧ ti' = 0 ∧ RelC ci' := by
  obtain ⟨f1, f2, f5, f6⟩ := hM k1 hk1
  have hlen := w_m_len (dd k1) (ss k1)
  have n19 : n ≤ 19 := by rw [hn, hlen]; split <;> omega
  intro fu
  induction fu with
  | zero => intro j ci cs fa hC hj hfa hf; omega
  | succ fu ih =>
    intro j ci cs fa hC hj hfa hf
    rw [fL_isWritten_l30_s]
    by_cases hd : n ≤ j
    · have ej : j = n := by omega
      subst ej
      rw [if_pos (i_le rfl (by omega)), zI_cl (by omega) (by omega), tn1]
      obtain ⟨t1, s1, e1, T1⟩ := g_say N hN (l := w_m (dd k1) (ss k1)) (ks := ks) (ts := ts) (fa := fa) (by omega) (w_m_b f5 f6) (by rw [← hn]; exact hfa) h0
      rw [← hn] at e1
      rw [e1, bd2_s]
      obtain ⟨f', g', mr', e2, M2⟩ := s_moment N hN (ks := ks) (mr := mr) hM (p1 := 7) (k1 := 7) (by decide) (by omega) f5 f6 T1
      rw [e2, bd5_s, if_pos rfl, s_mI1 N M2 (p1 := 7) (k := 7) (by decide) (by omega), bd1_s, zup_s, if_pos rfl, s_mI2 N M2 (p1 := 7) (k := 7) (by decide) (by omega), bd1_s, zup_s, s_date N rfl f5, bd1_s, if_pos (show zI (sp_Y (dd k1) * 10000 + sp_M (dd k1) * 100 + sp_D (dd k1)) = zI (sp_date (dd k1)) from rfl), bd1_s, s_day N rfl f5, bd1_s, if_pos rfl]
      obtain ⟨nn1, e3, w0⟩ := s_week N (ks := ks) (tl := tl) (nn := nn) (p1 := zI (dd k1)) rfl f5
      have er := s_row N (p1 := 0) (ks := ks) (tl := zI 1) (nn := nn1) (k := 0) (n := 1) (by decide) rfl (by omega) (by omega)
      rw [e3, bd3_s, er, bd1_s, w0]
      have t1 : 0 ≤ sp_th (dd k1) ∧ sp_th (dd k1) ≤ 3652058 := by unfold sp_th; omega
      obtain ⟨i1, i2, -⟩ := sp_in t1.1 t1.2
      obtain ⟨y4, -⟩ := sp_all t1.1 t1.2
      have y5 : sp_yb (sp_Y (sp_th (dd k1)) + 1) ≤ sp_yb (sp_Y (sp_th (dd k1))) + 366 := by unfold sp_yb; omega
      obtain ⟨Wk, hWk⟩ : ∃ Wk, Wk = (sp_th (dd k1) - sp_yb (sp_Y (sp_th (dd k1)))) / 7 + 1 := ⟨_, rfl⟩
      have bW : 1 ≤ Wk ∧ Wk ≤ 53 := by omega
      rw [← hWk, if_neg (i_nlt (b := 1) (by decide) (by omega)), if_neg (i_ngt (b := 53) (by decide) (by omega))]
      by_cases h7 : 7 ≤ dd k1
      · rw [if_pos (i_ge' (b := 7) (by decide) (by omega))]
        have wo := week_ok (x := dd k1) ⟨h7, f5.2⟩
        have e7 : zI (dd k1) - (7 : Int32) = zI (dd k1 - 7) := by rw [zl_7, zI_sub]
        obtain ⟨nn2, e4, w1⟩ := s_week N (ks := ks) (tl := zI 1) (nn := nn1) (p1 := zI (dd k1 - 7)) (x := dd k1 - 7) rfl (by omega)
        have er2 := s_row N (p1 := 0) (ks := ks) (tl := zI 1) (nn := nn2) (k := 0) (n := 1) (by decide) rfl (by omega) (by omega)
        have t2 : 0 ≤ sp_th (dd k1 - 7) ∧ sp_th (dd k1 - 7) ≤ 3652058 := by unfold sp_th; omega
        obtain ⟨j1, j2, -⟩ := sp_in t2.1 t2.2
        obtain ⟨y6, -⟩ := sp_all t2.1 t2.2
        have y7 : sp_yb (sp_Y (sp_th (dd k1 - 7)) + 1) ≤ sp_yb (sp_Y (sp_th (dd k1 - 7))) + 366 := by unfold sp_yb; omega
        rw [← hWk] at wo
        obtain ⟨Wh, hWh⟩ : ∃ Wh, Wh = (sp_th (dd k1 - 7) - sp_yb (sp_Y (sp_th (dd k1 - 7)))) / 7 + 1 := ⟨_, rfl⟩
        rw [← hWh] at wo e4
        have bH : 1 ≤ Wh ∧ Wh ≤ 53 := by omega
        have c1 : zI Wk - (1 : Int32) = zI (Wk - 1) := by rw [zl_1, zI_sub]
        rw [e7, e4, bd3_s, c1]
        rcases wo.2 with ⟨h1, h2⟩ | ⟨h1, h2, h3, h4⟩
        · rw [if_pos (i_eq rfl h1), er2, bd1_s, w1, if_pos (k_eq h2)]
          exact ⟨_, _, _, _, _, _, _, _, _, rfl, M2, rfl, hC⟩
        · rw [if_neg (i_neq rfl (by omega)), if_pos (i_eq (b := 1) (by decide) h2), if_neg (i_nle (b := 51) (by decide) (by omega)), er2, bd1_s, w1, zll_1, zL_sub, if_pos (k_eq h4)]
          exact ⟨_, _, _, _, _, _, _, _, _, rfl, M2, rfl, hC⟩
      · rw [if_neg (i_nge' (b := 7) (by decide) (by omega)), if_neg (i_nge' (b := 7) (by decide) (by omega))]
        exact ⟨_, _, _, _, _, _, _, _, _, rfl, M2, rfl, hC⟩
    · obtain ⟨c', s', e1, C1⟩ := s_writtenK N (ks := ks) (cs := cs) hM hC (p1 := zI (k1 : Int)) rfl hk1 (p2 := zI (j : Int)) (k := j) rfl (by omega)
      have hb := w_m_b f5 f6 j (by omega)
      have c1 : zI (j : Int) + (1 : Int32) = zI ((j + 1 : Nat) : Int) := by rw [zl_1, zI_add]; rfl
      rw [if_neg (i_nle rfl (by omega)), e1, bd3_s, zI_cl (k := (n : Int)) (by omega) (by omega), tn1, gi_z (by omega) (by omega) (by omega), nm_s, c1, zI_cl (by omega) (by omega), tn1, wb_v hb]
      refine ih (j + 1) c' s' _ C1 (by omega) (fun q hq => ?_) (by omega)
      by_cases e : q = j
      · subst e; rw [upd_s]
      · rw [upd_n e]; exact hfa q (by omega)
theorem g_isWritten (N : Nat) (hN : 200000 ≤ N) {p2 ks tl ti ci : Int32} {nn : Nat → Int64} {ts cs mr f g : Nat → Int32} {dd ss : Nat → Int} {k1 : Nat} (hM : DM dd ss f g) (e1 : p2 = zI k1) (hk1 : k1 < 8) (h0 : ti = 0) (hC : RelC ci) :
    ∃ f' g' tl' nn' ti' ts' ci' cs' mr', fL_isWritten N p2 ks f g tl nn ti ts ci cs mr = some (1, f', g', tl', nn', ti', ts', ci', cs', mr') ∧ DM (zup dd 7 (dd k1)) (zup ss 7 (ss k1)) f' g' ∧ ti' = 0 ∧ RelC ci' := by
  subst e1
  have hlen := w_m_len (dd k1) (ss k1)
  have n19 : (w_m (dd k1) (ss k1)).length ≤ 19 := by rw [hlen]; split <;> omega
  obtain ⟨c', s', e, C1⟩ := s_writtenN N (ks := ks) (cs := cs) hM hC (p1 := zI (k1 : Int)) rfl hk1
  unfold fL_isWritten
  rw [e, bd3_s, s_mI0 N hM rfl hk1, bd1_s, s_mI1 N hM rfl hk1, bd1_s, gi_z (by omega) (by omega) (by omega), show (0 : Int32) = zI ((0 : Nat) : Int) by decide]
  exact g_wr N hN hM hk1 h0 rfl N 0 c' s' _ C1 (by omega) (fun q hq => by omega) (by omega)
