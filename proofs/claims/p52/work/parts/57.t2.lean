/-! a moment that is written is read as it -/
theorem r_moment (N : Nat) (hN : 200000 ≤ N) {mr : Nat → Int32} {x t : Int} {ti : Int32} {ts : Nat → Int32} (hx : 0 ≤ x ∧ x ≤ 3652058) (ht : 0 ≤ t ∧ t ≤ 86399) (hT : TL (w_m x t) ti ts) : ∃ mr', fX2_wrongAt N mr ti ts = some (-1, mr') ∧ mr' 0 = zI x ∧ mr' 1 = zI t := by
  obtain ⟨g4, g5, g6, g7⟩ := sp_all hx.1 hx.2
  have g8 := mlen_b (sp_Y x) (sp_M x)
  have hX := hT.tx (w_m_b hx ht)
  have hlen := w_m_len x t
  obtain ⟨n0, hn0⟩ : ∃ n0, n0 = (w_m x t).length := ⟨_, rfl⟩
  obtain ⟨c, hc⟩ : ∃ c : Nat → Int, c = fun k => (w_m x t).getD k 0 := ⟨_, rfl⟩
  have hti : ti = zI (n0 : Int) := by rw [hn0]; exact hT.2.1
  rw [← hn0, ← hc] at hX
  rw [← hn0] at hlen
  subst hti
  have c0 : c 0 = 48 + sp_Y x / 100 / 10 := by rw [hc]; unfold w_m; split <;> rfl
  have c1 : c 1 = 48 + sp_Y x / 100 % 10 := by rw [hc]; unfold w_m; split <;> rfl
  have c2 : c 2 = 48 + sp_Y x % 100 / 10 := by rw [hc]; unfold w_m; split <;> rfl
  have c3 : c 3 = 48 + sp_Y x % 100 % 10 := by rw [hc]; unfold w_m; split <;> rfl
  have c4 : c 4 = 45 := by rw [hc]; unfold w_m; split <;> rfl
  have c5 : c 5 = 48 + sp_M x / 10 := by rw [hc]; unfold w_m; split <;> rfl
  have c6 : c 6 = 48 + sp_M x % 10 := by rw [hc]; unfold w_m; split <;> rfl
  have c7 : c 7 = 45 := by rw [hc]; unfold w_m; split <;> rfl
  have c8 : c 8 = 48 + sp_D x / 10 := by rw [hc]; unfold w_m; split <;> rfl
  have c9 : c 9 = 48 + sp_D x % 10 := by rw [hc]; unfold w_m; split <;> rfl
  have n10 : 10 ≤ n0 := by rw [hlen]; split <;> omega
  obtain ⟨m, rfl⟩ : ∃ m, N = m + 20 := ⟨N - 20, by omega⟩
  obtain ⟨a0, ha0⟩ : ∃ a0, a0 = upd (upd mr 0 (0 : Int32)) 1 (0 : Int32) := ⟨_, rfl⟩
  unfold fX2_wrongAt
  rw [← ha0, show (0 : Int32) = zI ((0 : Nat) : Int) by decide]
  rw [rd_y0 (m + 20) hX (m + 19) (by omega) c0 (by omega)]
  rw [rd_yk (m + 20) hX (m + 18) (p := 0 + 1) (by omega) (by omega) (v := sp_Y x / 100 / 10) upd_s c1 (by omega) (by omega)]
  rw [rd_yk (m + 20) hX (m + 17) (p := 0 + 1 + 1) (by omega) (by omega) upd_s c2 (by omega) (by omega)]
  rw [rd_y3 (m + 20) hX (m + 16) (by omega) upd_s c3 (by omega) (by omega) (by omega)]
  have eY : 10 * (10 * (10 * (sp_Y x / 100 / 10) + sp_Y x / 100 % 10) + sp_Y x % 100 / 10) + sp_Y x % 100 % 10 = sp_Y x := by omega
  rw [eY]
  obtain ⟨a1, ha1⟩ : ∃ a1, a1 = upd (upd (upd (upd (upd a0 4 (zI (sp_Y x / 100 / 10))) 4 (zI (10 * (sp_Y x / 100 / 10) + sp_Y x / 100 % 10))) 4 (zI (10 * (10 * (sp_Y x / 100 / 10) + sp_Y x / 100 % 10) + sp_Y x % 100 / 10))) 4 (zI (sp_Y x))) 2 (zI (sp_Y x)) := ⟨_, rfl⟩
  have a12 : a1 2 = zI (sp_Y x) := by rw [ha1, upd_s]
  have a11 : a1 1 = 0 := by rw [ha1, ha0]; simp (disch := omega) only [upd_n, upd_s]
  rw [← ha1]
  rw [rd_sep (m + 20) hX (m + 15) (p := 3 + 1) (by omega) (ch := 45) (by omega) c4]
  rw [rd_first (m + 20) hX (m + 14) (p := 3 + 1 + 1) (by omega) (by omega) c5 (by omega) (hi := 12) (by omega) (mo_8 _ (by omega) _) (by omega)]
  rw [rd_second (m + 20) hX (m + 13) (p := 3 + 1 + 1 + 1) (by omega) (by omega) (lo := 1) (hi := 12) upd_s c6 (by omega) (by omega) (by omega) (by omega) (mo_8 _ (by omega) _) (by omega) (k_at (m + 20) _).2.1]
  have eM : 10 * (sp_M x / 10) + sp_M x % 10 = sp_M x := by omega
  rw [eM, upd_s]
  obtain ⟨a2, ha2⟩ : ∃ a2, a2 = upd (upd (upd a1 4 (zI (sp_M x / 10))) 4 (zI (sp_M x))) 3 (zI (sp_M x)) := ⟨_, rfl⟩
  have a22 : a2 2 = zI (sp_Y x) := by rw [ha2]; simp (disch := omega) only [upd_n, a12]
  have a21 : a2 1 = 0 := by rw [ha2]; simp (disch := omega) only [upd_n, a11]
  have a23 : a2 3 = zI (sp_M x) := by rw [ha2, upd_s]
  rw [← ha2]
  rw [rd_sep (m + 20) hX (m + 12) (p := 3 + 1 + 1 + 1 + 1) (by omega) (ch := 45) (by omega) c7]
  rw [rd_first (m + 20) hX (m + 11) (p := 3 + 1 + 1 + 1 + 1 + 1) (by omega) (by omega) c8 (by omega) (hi := sp_mlen (sp_Y x) (sp_M x)) (by omega) (mo_11 _ (by omega) g4 g5 (by rw [upd_n (by omega), a22]) (by rw [upd_n (by omega), a23])) (by omega)]
  have eD : 10 * (sp_D x / 10) + sp_D x % 10 = sp_D x := by omega
  have kD : fX2_keepNumber (m + 20) (zI ((3 + 1 + 1 + 1 + 1 + 1 + 1 : Nat) : Int)) (upd (upd a2 4 (zI (sp_D x / 10))) 4 (zI (10 * (sp_D x / 10) + sp_D x % 10))) = some (upd (upd (upd a2 4 (zI (sp_D x / 10))) 4 (zI (sp_D x))) 0 (zI x)) := by
    refine Eq.trans (k_at (m + 20) _).2.2.1 ?_
    rw [eD, upd_s, upd_n (by omega), upd_n (by omega), upd_n (by omega), upd_n (by omega), a22, a23, e_dn (m + 20) (by omega) (by omega) (by omega) (by omega) (by omega) (by omega), bd1_s, g7]
  rw [rd_second (m + 20) hX (m + 10) (p := 3 + 1 + 1 + 1 + 1 + 1 + 1) (by omega) (by omega) (lo := 1) (hi := sp_mlen (sp_Y x) (sp_M x)) upd_s c9 (by omega) (by omega) (by omega) (by omega) (mo_11 _ (by omega) g4 g5 (by rw [upd_n (by omega), upd_n (by omega), a22]) (by rw [upd_n (by omega), upd_n (by omega), a23])) (by omega) kD]
  obtain ⟨a3, ha3⟩ : ∃ a3, a3 = upd (upd (upd a2 4 (zI (sp_D x / 10))) 4 (zI (sp_D x))) 0 (zI x) := ⟨_, rfl⟩
  have a30 : a3 0 = zI x := by rw [ha3, upd_s]
  have a31 : a3 1 = 0 := by rw [ha3]; simp (disch := omega) only [upd_n, a21]
  rw [← ha3]
  by_cases h0 : t = 0
  · rw [if_pos h0] at hlen
    rw [cl_end (m + 20) a3 (m + 9) (p := 3 + 1 + 1 + 1 + 1 + 1 + 1 + 1) (by omega) (by omega), if_pos (by omega)]
    exact ⟨a3, rfl, a30, by rw [a31, h0]; decide⟩
  rw [if_neg h0] at hlen
  have cA : c 10 = 84 := by rw [hc]; unfold w_m; rw [if_neg h0]; rfl
  have cB : c 11 = 48 + t / 3600 / 10 := by rw [hc]; unfold w_m; rw [if_neg h0]; rfl
  have cC : c 12 = 48 + t / 3600 % 10 := by rw [hc]; unfold w_m; rw [if_neg h0]; rfl
  have cD : c 13 = 58 := by rw [hc]; unfold w_m; rw [if_neg h0]; rfl
  have cE : c 14 = 48 + t / 60 % 60 / 10 := by rw [hc]; unfold w_m; rw [if_neg h0]; rfl
  have cF : c 15 = 48 + t / 60 % 60 % 10 := by rw [hc]; unfold w_m; rw [if_neg h0]; rfl
  have cG : c 16 = 58 := by rw [hc]; unfold w_m; rw [if_neg h0]; rfl
  have cH : c 17 = 48 + t % 60 / 10 := by rw [hc]; unfold w_m; rw [if_neg h0]; rfl
  have cI : c 18 = 48 + t % 60 % 10 := by rw [hc]; unfold w_m; rw [if_neg h0]; rfl
  rw [show zI ((3 + 1 + 1 + 1 + 1 + 1 + 1 + 1 : Nat) : Int) = zI ((10 : Nat) : Int) from rfl]
  rw [rd_sep (m + 20) hX (m + 9) (p := 10) (by omega) (ch := 84) (by omega) cA]
  rw [rd_first (m + 20) hX (m + 8) (p := 10 + 1) (by omega) (by omega) cB (by omega) (hi := 23) (by omega) (mo_14 _ (by omega) _) (by omega)]
  have eH : 10 * (t / 3600 / 10) + t / 3600 % 10 = t / 3600 := by omega
  rw [rd_second (m + 20) hX (m + 7) (p := 10 + 1 + 1) (by omega) (by omega) (lo := 0) (hi := 23) upd_s cC (by omega) (by omega) (by omega) (by omega) (mo_14 _ (by omega) _) (by omega) (k_at (m + 20) _).2.2.2.1]
  rw [eH, upd_s]
  obtain ⟨a4, ha4⟩ : ∃ a4, a4 = upd (upd (upd a3 4 (zI (t / 3600 / 10))) 4 (zI (t / 3600))) 1 ((3600 : Int32) * zI (t / 3600)) := ⟨_, rfl⟩
  have a40 : a4 0 = zI x := by rw [ha4]; simp (disch := omega) only [upd_n, a30]
  have a41 : a4 1 = zI (3600 * (t / 3600)) := by rw [ha4, upd_s, zl_3600, zI_mul]
  rw [← ha4]
  rw [rd_sep (m + 20) hX (m + 6) (p := 10 + 1 + 1 + 1) (by omega) (ch := 58) (by omega) cD]
  rw [rd_first (m + 20) hX (m + 5) (p := 10 + 1 + 1 + 1 + 1) (by omega) (by omega) cE (by omega) (hi := 59) (by omega) (mo_19 _ (by omega) _) (by omega)]
  have eI : 10 * (t / 60 % 60 / 10) + t / 60 % 60 % 10 = t / 60 % 60 := by omega
  rw [rd_second (m + 20) hX (m + 4) (p := 10 + 1 + 1 + 1 + 1 + 1) (by omega) (by omega) (lo := 0) (hi := 59) upd_s cF (by omega) (by omega) (by omega) (by omega) (mo_19 _ (by omega) _) (by omega) (k_at (m + 20) _).2.2.2.2.1]
  rw [eI, upd_s, upd_n (by omega), upd_n (by omega), a41]
  obtain ⟨a5, ha5⟩ : ∃ a5, a5 = upd (upd (upd a4 4 (zI (t / 60 % 60 / 10))) 4 (zI (t / 60 % 60))) 1 (zI (3600 * (t / 3600)) + (60 : Int32) * zI (t / 60 % 60)) := ⟨_, rfl⟩
  have a50 : a5 0 = zI x := by rw [ha5]; simp (disch := omega) only [upd_n, a40]
  have a51 : a5 1 = zI (3600 * (t / 3600) + 60 * (t / 60 % 60)) := by rw [ha5, upd_s, zl_60, zI_mul, zI_add]
  rw [← ha5]
  rw [rd_sep (m + 20) hX (m + 3) (p := 10 + 1 + 1 + 1 + 1 + 1 + 1) (by omega) (ch := 58) (by omega) cG]
  rw [rd_first (m + 20) hX (m + 2) (p := 10 + 1 + 1 + 1 + 1 + 1 + 1 + 1) (by omega) (by omega) cH (by omega) (hi := 59) (by omega) (mo_19 _ (by omega) _) (by omega)]
  have eS : 10 * (t % 60 / 10) + t % 60 % 10 = t % 60 := by omega
  rw [rd_second (m + 20) hX (m + 1) (p := 10 + 1 + 1 + 1 + 1 + 1 + 1 + 1 + 1) (by omega) (by omega) (lo := 0) (hi := 59) upd_s cI (by omega) (by omega) (by omega) (by omega) (mo_19 _ (by omega) _) (by omega) (k_at (m + 20) _).2.2.2.2.2]
  rw [eS, upd_s, upd_n (by omega), upd_n (by omega), a51]
  rw [fX2_wrongAt_l12_s, if_pos (i_ge' (b := 19) (by decide) (by omega))]
  unfold fX6_length
  rw [bd1_s, if_pos (i_le (b := 19) (by decide) (by omega))]
  refine ⟨_, rfl, ?_, ?_⟩
  · simp (disch := omega) only [upd_n, a50]
  · rw [upd_s, zI_add]; congr 1; omega
theorem s_moment (N : Nat) (hN : 200000 ≤ N) {p1 ks ti : Int32} {ts mr f g : Nat → Int32} {dd ss : Nat → Int} {k1 : Nat} {x t : Int} (hM : DM dd ss f g) (e1 : p1 = zI k1) (hk1 : k1 < 8) (hx : 0 ≤ x ∧ x ≤ 3652058) (ht : 0 ≤ t ∧ t ≤ 86399) (hT : TL (w_m x t) ti ts) : ∃ f' g' mr', fX9_moment N p1 ks f g ti ts mr = some (zI x, f', g', 0, mr') ∧ DM (zup dd k1 x) (zup ss k1 t) f' g' := by
  subst e1
  obtain ⟨mr', e, h0, h1⟩ := r_moment N hN (mr := mr) hx ht hT
  have hl : (w_m x t).length ≤ 100 := hT.1
  unfold fX9_moment
  rw [e, bd2_s, hT.2.1]
  unfold fX6_cut
  rw [if_neg (by decide), if_neg (i_nlt (b := 0) (by decide) (by omega)), bd1_s, if_pos rfl, c_slot1 N (by omega), bd1_s, if_neg z10, e_putMoment N _ _ _ _ hk1, bd2_s, h0, h1]
  exact ⟨_, _, _, rfl, hM.up hx ht⟩
