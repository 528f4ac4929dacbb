/-! phrase, span, isSpoken: what they come to -/
abbrev SB (m d s : Int) : Prop := (-32 ≤ m ∧ m ≤ 31) ∧ (-64 ≤ d ∧ d ≤ 63) ∧ -32768 ≤ s ∧ s ≤ 32767
theorem td_if (a b : Int) : a.tdiv b = if 0 ≤ a then a / b else -((-a) / b) := by
  split
  · rename_i h; exact tdiv_pos h
  · rename_i h; exact tdiv_neg (by omega)
theorem vo_99 {m d s : Int} (h : SB m d s) : (-99 ≤ m.tdiv 12 ∧ m.tdiv 12 ≤ 99) ∧ (-99 ≤ m - m.tdiv 12 * 12 ∧ m - m.tdiv 12 * 12 ≤ 99) ∧ (-99 ≤ d.tdiv 7 ∧ d.tdiv 7 ≤ 99) ∧ (-99 ≤ d - d.tdiv 7 * 7 ∧ d - d.tdiv 7 * 7 ≤ 99) ∧ (-99 ≤ s.tdiv 3600 ∧ s.tdiv 3600 ≤ 99) ∧ (-99 ≤ s.tdiv 60 - (s.tdiv 60).tdiv 60 * 60 ∧ s.tdiv 60 - (s.tdiv 60).tdiv 60 * 60 ≤ 99) ∧ -99 ≤ s - s.tdiv 60 * 60 ∧ s - s.tdiv 60 * 60 ≤ 99 := by
  obtain ⟨h1, h2, h3⟩ := h
  refine ⟨?_, ?_, ?_, ?_, ?_, ?_, ?_⟩
  · rw [td_if]; split <;> omega
  · rw [td_if]; split <;> omega
  · rw [td_if]; split <;> omega
  · rw [td_if]; split <;> omega
  · rw [td_if]; split <;> omega
  · rw [td_if (s.tdiv 60)]
    have : s.tdiv 60 = if 0 ≤ s then s / 60 else -((-s) / 60) := td_if s 60
    split at this <;> split <;> omega
  · rw [td_if]; split <;> omega
theorem vo_hs {s : Int} : s.tdiv 3600 * 3600 + (s.tdiv 60 - (s.tdiv 60).tdiv 60 * 60) * 60 + (s - s.tdiv 60 * 60) = s := by
  have h1 : s.tdiv 3600 = if 0 ≤ s then s / 3600 else -((-s) / 3600) := td_if s 3600
  have h2 : s.tdiv 60 = if 0 ≤ s then s / 60 else -((-s) / 60) := td_if s 60
  have h3 : (s.tdiv 60).tdiv 60 = if 0 ≤ s.tdiv 60 then s.tdiv 60 / 60 else -((-(s.tdiv 60)) / 60) := td_if _ 60
  split at h1 <;> split at h2 <;> split at h3 <;> omega
def w_s (m d s : Int) : List Int := w_p (m.tdiv 12) 121 ++ (w_p (m - m.tdiv 12 * 12) 109 ++ (w_p (d.tdiv 7) 119 ++ (w_p (d - d.tdiv 7 * 7) 100 ++ (w_p (s.tdiv 3600) 104 ++ (w_p (s.tdiv 60 - (s.tdiv 60).tdiv 60 * 60) 105 ++ w_p (s - s.tdiv 60 * 60) 115)))))
def w_f (m d s : Int) : List Int := if (w_s m d s).length = 0 then [48, 115] else w_s m d s
theorem w_s_len (m d s : Int) : (w_s m d s).length ≤ 28 := by
  unfold w_s
  simp only [List.length_append]
  have h0 := w_p_len (m.tdiv 12) 121
  have h1 := w_p_len (m - m.tdiv 12 * 12) 109
  have h2 := w_p_len (d.tdiv 7) 119
  have h3 := w_p_len (d - d.tdiv 7 * 7) 100
  have h4 := w_p_len (s.tdiv 3600) 104
  have h5 := w_p_len (s.tdiv 60 - (s.tdiv 60).tdiv 60 * 60) 105
  have h6 := w_p_len (s - s.tdiv 60 * 60) 115
  omega
theorem w_f_len (m d s : Int) : (w_f m d s).length ≤ 28 := by
  have := w_s_len m d s
  unfold w_f
  split
  · show 2 ≤ 28; omega
  · exact this
theorem w_p_mem {z U x : Int} (hz : -99 ≤ z ∧ z ≤ 99) (hU : 0 ≤ U ∧ U ≤ 127) (h : x ∈ w_p z U) : 0 ≤ x ∧ x ≤ 127 := by
  unfold w_p w_g at h
  split at h
  · exact absurd h List.not_mem_nil
  · rcases List.mem_append.mp h with h | h
    · split at h
      · rcases List.mem_cons.mp h with rfl | h
        · omega
        · exact absurd h List.not_mem_nil
      · exact absurd h List.not_mem_nil
    · rcases List.mem_append.mp h with h | h
      · split at h <;> simp only [List.mem_cons, List.not_mem_nil, or_false] at h <;> omega
      · simp only [List.mem_cons, List.not_mem_nil, or_false] at h; omega
theorem w_f_b {m d s : Int} (h : SB m d s) : LB (w_f m d s) := by
  obtain ⟨v0, v1, v2, v3, v4, v5, v6⟩ := vo_99 h
  have hd : ∀ z ∈ w_f m d s, 0 ≤ z ∧ z ≤ 127 := by
    intro z hz
    unfold w_f at hz
    split at hz
    · simp only [List.mem_cons, List.not_mem_nil, or_false] at hz; omega
    · unfold w_s at hz
      simp only [List.mem_append] at hz
      rcases hz with hz | hz | hz | hz | hz | hz | hz
      · exact w_p_mem v0 (by omega) hz
      · exact w_p_mem v1 (by omega) hz
      · exact w_p_mem v2 (by omega) hz
      · exact w_p_mem v3 (by omega) hz
      · exact w_p_mem v4 (by omega) hz
      · exact w_p_mem v5 (by omega) hz
      · exact w_p_mem v6 (by omega) hz
  intro k hk
  rw [List.getD_eq_getElem?_getD, List.getElem?_eq_getElem hk]
  exact hd _ (List.getElem_mem hk)
theorem e_phr (N : Nat) (hN : 200000 ≤ N) {p1 p2 ks ci : Int32} {cs a b c : Nat → Int32} {mm da se : Nat → Int} {k1 : Nat} {q : Int} (hS : DS mm da se a b c) (hC : RelC ci) (e1 : p1 = zI k1) (hk1 : k1 < 8) (hb : SB (mm k1) (da k1) (se k1)) (e2 : p2 = zI q) (hq : -1 ≤ q ∧ q ≤ 1000) : ∃ ci' cs', fX9_phrase N p1 p2 ks a b c ci cs = fX9_phrase_j215 N ks a b c p2 ci' cs' ∧ TL (w_f (mm k1) (da k1) (se k1)) ci' cs' := by
  subst e1; subst e2
  obtain ⟨s1, s2, s3, s7⟩ := hS k1 hk1
  obtain ⟨m, hm⟩ : ∃ m, m = mm k1 := ⟨_, rfl⟩
  obtain ⟨d, hd⟩ : ∃ d, d = da k1 := ⟨_, rfl⟩
  obtain ⟨s, hs⟩ : ∃ s, s = se k1 := ⟨_, rfl⟩
  rw [← hm] at s1 hb ⊢
  rw [← hd] at s2 hb ⊢
  rw [← hs] at s3 hb ⊢
  have hB := hb
  obtain ⟨b1, b2, b3⟩ := hB
  obtain ⟨v0, v1, v2, v3, v4, v5, v6⟩ := vo_99 hb
  obtain ⟨ty, hty⟩ : ∃ ty, ty = m.tdiv 12 := ⟨_, rfl⟩
  obtain ⟨tw, htw⟩ : ∃ tw, tw = d.tdiv 7 := ⟨_, rfl⟩
  obtain ⟨th, hth⟩ : ∃ th, th = s.tdiv 3600 := ⟨_, rfl⟩
  obtain ⟨ti, hti⟩ : ∃ ti, ti = s.tdiv 60 := ⟨_, rfl⟩
  obtain ⟨tj, htj⟩ : ∃ tj, tj = ti.tdiv 60 := ⟨_, rfl⟩
  have bti : -600 ≤ ti ∧ ti ≤ 600 := by rw [hti, td_if]; split <;> omega
  have q12 : zI m / (12 : Int32) = zI ty := by rw [zl_12, zI_tdiv (by omega) (by omega) (by omega) (by omega), hty]
  have q7 : zI d / (7 : Int32) = zI tw := by rw [zl_7, zI_tdiv (by omega) (by omega) (by omega) (by omega), htw]
  have q36 : zI s / (3600 : Int32) = zI th := by rw [zl_3600, zI_tdiv (by omega) (by omega) (by omega) (by omega), hth]
  have q60 : zI s / (60 : Int32) = zI ti := by rw [zl_60, zI_tdiv (by omega) (by omega) (by omega) (by omega), hti]
  have q61 : zI ti / (60 : Int32) = zI tj := by rw [zl_60, zI_tdiv (by omega) (by omega) (by omega) (by omega), htj]
  rw [← hty] at v0 v1
  rw [← htw] at v2 v3
  rw [← hth] at v4
  rw [← hti] at v5 v6
  rw [← htj] at v5
  obtain ⟨c0, e0, T0⟩ := hC.cut N cs
  unfold fX9_phrase
  rw [c_slot1 N (by omega), bd1_s, if_neg z10, if_pos (i_ge' (b := -1) (by decide) (by omega)), e_monthsAt N a hk1, bd1_s, e_daysAt N b hk1, bd1_s, e_secondsAt N c hk1, bd1_s, s1, s2, s3, q12, q7, q36, q60, q61]
  have sh : ∀ v : Int, (-99 ≤ v ∧ v ≤ 99) → fX9_isShort N (zI v) = some (zI 1) := fun v h => by rw [e_isShort N (by omega), if_pos (by omega)]
  rw [sh ty v0, bd1_s, if_neg z10, sh tw v2, bd1_s, if_neg z10, sh th v4, bd1_s, if_neg z10, e0, bd1_s]
  obtain ⟨c1, x1, f1, T1⟩ := T0.part N hN (by show 0 ≤ 90; omega) (p1 := zI ty) (p2 := (121 : Int32)) rfl (U := 121) (by decide) v0
  have L1 := w_p_len ty 121
  rw [f1, bd2_s]
  obtain ⟨c2, x2, f2, T2⟩ := T1.part N hN (by simp only [List.length_append, List.length_nil]; omega) (p1 := zI m - zI ty * (12 : Int32)) (p2 := (109 : Int32)) (z := m - ty * 12) (by rw [zl_12, zI_mul, zI_sub]) (U := 109) (by decide) v1
  have L2 := w_p_len (m - ty * 12) 109
  rw [f2, bd2_s]
  obtain ⟨c3, x3, f3, T3⟩ := T2.part N hN (by simp only [List.length_append, List.length_nil]; omega) (p1 := zI tw) (p2 := (119 : Int32)) rfl (U := 119) (by decide) v2
  have L3 := w_p_len tw 119
  rw [f3, bd2_s]
  obtain ⟨c4, x4, f4, T4⟩ := T3.part N hN (by simp only [List.length_append, List.length_nil]; omega) (p1 := zI d - zI tw * (7 : Int32)) (p2 := (100 : Int32)) (z := d - tw * 7) (by rw [zl_7, zI_mul, zI_sub]) (U := 100) (by decide) v3
  have L4 := w_p_len (d - tw * 7) 100
  rw [f4, bd2_s]
  obtain ⟨c5, x5, f5, T5⟩ := T4.part N hN (by simp only [List.length_append, List.length_nil]; omega) (p1 := zI th) (p2 := (104 : Int32)) rfl (U := 104) (by decide) v4
  have L5 := w_p_len th 104
  rw [f5, bd2_s]
  obtain ⟨c6, x6, f6, T6⟩ := T5.part N hN (by simp only [List.length_append, List.length_nil]; omega) (p1 := zI ti - zI tj * (60 : Int32)) (p2 := (105 : Int32)) (z := ti - tj * 60) (by rw [zl_60, zI_mul, zI_sub]) (U := 105) (by decide) v5
  have L6 := w_p_len (ti - tj * 60) 105
  rw [f6, bd2_s]
  obtain ⟨c7, x7, f7, T7⟩ := T6.part N hN (by simp only [List.length_append, List.length_nil]; omega) (p1 := zI s - zI ti * (60 : Int32)) (p2 := (115 : Int32)) (z := s - ti * 60) (by rw [zl_60, zI_mul, zI_sub]) (U := 115) (by decide) v6
  rw [f7, bd2_s]
  have ew : [] ++ w_p ty 121 ++ w_p (m - ty * 12) 109 ++ w_p tw 119 ++ w_p (d - tw * 7) 100 ++ w_p th 104 ++ w_p (ti - tj * 60) 105 ++ w_p (s - ti * 60) 115 = w_s m d s := by
    unfold w_s
    rw [← hty, ← htw, ← hth, ← hti, ← htj]
    simp only [List.append_assoc, List.nil_append]
  rw [ew] at T7
  have hlen := w_s_len m d s
  unfold fX6_length w_f
  rw [bd1_s, T7.2.1]
  by_cases h0 : (w_s m d s).length = 0
  · rw [if_pos (i_eq (b := 0) (by decide) (by omega)), if_pos h0]
    have e00 : w_s m d s = [] := List.eq_nil_of_length_eq_zero h0
    rw [e00] at T7
    obtain ⟨c8, x8, f8, T8⟩ := T7.put N (by decide) (v := (48 : Int32)) (z := 48) (by decide)
    obtain ⟨c9, x9, f9, T9⟩ := T8.put N (by decide) (v := (115 : Int32)) (z := 115) (by decide)
    rw [e00, ← T7.2.1, f8, bd2_s, f9, bd2_s]
    exact ⟨_, _, rfl, T9⟩
  · rw [if_neg (i_neq (b := 0) (by decide) (by omega)), if_neg h0, ← T7.2.1]
    exact ⟨_, _, rfl, T7⟩
theorem s_phraseN (N : Nat) (hN : 200000 ≤ N) {p1 ks ci : Int32} {cs a b c : Nat → Int32} {mm da se : Nat → Int} {k1 : Nat} (hS : DS mm da se a b c) (hC : RelC ci) (e1 : p1 = zI k1) (hk1 : k1 < 8) (hb : SB (mm k1) (da k1) (se k1)) : ∃ ci' cs', fX9_phrase N p1 (-1) ks a b c ci cs = some (zI ((w_f (mm k1) (da k1) (se k1)).length : Int), ci', cs') ∧ RelC ci' := by
  obtain ⟨c', s', e, T⟩ := e_phr N hN (ks := ks) (cs := cs) hS hC e1 hk1 hb (p2 := -1) (q := -1) (by decide) (by omega)
  rw [e]
  unfold fX9_phrase_j215 fX6_length
  rw [if_pos rfl, bd1_s, T.2.1]
  exact ⟨_, _, rfl, ⟨_, T.1, rfl⟩⟩
theorem s_phraseK (N : Nat) (hN : 200000 ≤ N) {p1 p2 ks ci : Int32} {cs a b c : Nat → Int32} {mm da se : Nat → Int} {k1 k : Nat} (hS : DS mm da se a b c) (hC : RelC ci) (e1 : p1 = zI k1) (hk1 : k1 < 8) (hb : SB (mm k1) (da k1) (se k1)) (e2 : p2 = zI k) (hk : k < (w_f (mm k1) (da k1) (se k1)).length) : ∃ ci' cs', fX9_phrase N p1 p2 ks a b c ci cs = some (zI ((w_f (mm k1) (da k1) (se k1)).getD k 0), ci', cs') ∧ RelC ci' := by
  have hl := w_f_len (mm k1) (da k1) (se k1)
  obtain ⟨c', s', e, T⟩ := e_phr N hN (ks := ks) (cs := cs) hS hC e1 hk1 hb e2 (by omega)
  rw [e]
  subst e2
  unfold fX9_phrase_j215
  rw [if_neg (i_neq (b := -1) (by decide) (by omega)), T.at N hk, bd1_s]
  exact ⟨_, _, rfl, T.c⟩
theorem w_p_pos {z U : Int} (h : z ≠ 0) : 1 ≤ (w_p z U).length := by
  unfold w_p
  rw [if_neg h, List.length_append, List.length_append]
  show 1 ≤ _ + (_ + 1)
  omega
set_option maxHeartbeats 1000000 in
theorem r_span (N : Nat) (hN : 200000 ≤ N) {sr : Nat → Int32} {m d s : Int} {ti : Int32} {ts : Nat → Int32} (hb : SB m d s) (hT : TL (w_f m d s) ti ts) : ∃ sr', fX5_wrongAt N sr ti ts = some (-1, sr') ∧ sr' 0 = zI m ∧ sr' 1 = zI d ∧ sr' 2 = zI s := by
  have hX := hT.tx (w_f_b hb)
  have hti := hT.2.1
  subst hti
  obtain ⟨v0, v1, v2, v3, v4, v5, v6⟩ := vo_99 hb
  have vs := vo_hs (s := s)
  obtain ⟨r0, hr0⟩ : ∃ r0, r0 = upd (upd (upd sr 0 (0 : Int32)) 1 (0 : Int32)) 2 (0 : Int32) := ⟨_, rfl⟩
  have X0 : XV (fun _ => 0) r0 := by
    intro q hq
    rw [hr0]
    rcases (show q = 0 ∨ q = 1 ∨ q = 2 by omega) with rfl | rfl | rfl
    · rw [upd_n (by omega), upd_n (by omega), upd_s]; exact zl_0
    · rw [upd_n (by omega), upd_s]; exact zl_0
    · rw [upd_s]; exact zl_0
  unfold fX5_wrongAt
  rw [← hr0]
  by_cases h0 : (w_s m d s).length = 0
  · have ef : w_f m d s = [48, 115] := if_pos h0
    rw [ef] at hX ⊢
    have hl : (w_s m d s).length = (w_p (m.tdiv 12) 121).length + ((w_p (m - m.tdiv 12 * 12) 109).length + ((w_p (d.tdiv 7) 119).length + ((w_p (d - d.tdiv 7 * 7) 100).length + ((w_p (s.tdiv 3600) 104).length + ((w_p (s.tdiv 60 - (s.tdiv 60).tdiv 60 * 60) 105).length + (w_p (s - s.tdiv 60 * 60) 115).length))))) := by
      unfold w_s
      simp only [List.length_append]
    have nz : ∀ {z U : Int}, (w_p z U).length = 0 → z = 0 := fun {z U} h => Classical.byContradiction fun hz => by have := w_p_pos (U := U) hz; omega
    have z0 := nz (show (w_p (m.tdiv 12) 121).length = 0 by omega)
    have z1 := nz (show (w_p (m - m.tdiv 12 * 12) 109).length = 0 by omega)
    have z2 := nz (show (w_p (d.tdiv 7) 119).length = 0 by omega)
    have z3 := nz (show (w_p (d - d.tdiv 7 * 7) 100).length = 0 by omega)
    have z4 := nz (show (w_p (s.tdiv 3600) 104).length = 0 by omega)
    have z5 := nz (show (w_p (s.tdiv 60 - (s.tdiv 60).tdiv 60 * 60) 105).length = 0 by omega)
    have z6 := nz (show (w_p (s - s.tdiv 60 * 60) 115).length = 0 by omega)
    have em : m = 0 := by omega
    have ed : d = 0 := by omega
    have es : s = 0 := by rw [z4, z5, z6] at vs; omega
    subst em; subst ed; subst es
    obtain ⟨f, rfl⟩ : ∃ f, N = f + 3 := ⟨N - 3, by omega⟩
    have hX : TX 2 (fun k => [48, 115].getD k 0) ts (fun k => zI (sp_byte ([48, 115].getD k 0))) := hX
    show ∃ sr', fX5_wrongAt_l28 (f + 3) (zI ((2 : Nat) : Int)) ts (f + 2 + 1) (-1) 0 0 0 0 r0 = _ ∧ _
    rw [show (-1 : Int32) = zI (-1) by decide, show fX5_wrongAt_l28 (f + 3) (zI ((2 : Nat) : Int)) ts (f + 2 + 1) (zI (-1)) 0 0 0 0 r0 = fX5_wrongAt_l28 (f + 3) (zI ((2 : Nat) : Int)) ts (f + 2 + 1) (zI (-1)) (zI 0) (zI 0) (0 : Int32) (zI ((0 : Nat) : Int)) r0 from rfl]
    rw [c_dig (f + 3) hX r0 (f + 2) (p := 0) (by omega) (by omega) (by show 48 ≤ (48 : Int) ∧ (48 : Int) ≤ 57; omega) (by omega) (by omega) (by omega)]
    rw [show (10 * 0 + (fun k => ([48, 115] : List Int).getD k 0) 0 - 48 : Int) = 0 from rfl]
    rw [c_take (f + 3) hX r0 (f + 1) (p := 0 + 1) (by omega) (by omega) (by show ¬ (48 ≤ (115 : Int) ∧ (115 : Int) ≤ 57); omega) (by show (115 : Int) ≠ 45; omega) (by omega) (k := 6) (by show su 115 = 6; decide) (by omega)]
    rw [c_endG (f + 3) _ f (p := 0 + 1 + 1) (by omega) (by omega) (by omega)]
    have X1 := X0.up (pt 6) (pt_b 6) (xs (0 : Int32) 0 * cnt 6)
    refine ⟨_, rfl, ?_, ?_, ?_⟩
    · exact X1 0 (by omega)
    · exact X1 1 (by omega)
    · exact X1 2 (by omega)
  · have ef : w_f m d s = w_s m d s := if_neg h0
    rw [ef] at hX ⊢
    have hl : (w_s m d s).length = (w_p (m.tdiv 12) 121).length + ((w_p (m - m.tdiv 12 * 12) 109).length + ((w_p (d.tdiv 7) 119).length + ((w_p (d - d.tdiv 7 * 7) 100).length + ((w_p (s.tdiv 3600) 104).length + ((w_p (s.tdiv 60 - (s.tdiv 60).tdiv 60 * 60) 105).length + (w_p (s - s.tdiv 60 * 60) 115).length))))) := by
      unfold w_s
      simp only [List.length_append]
    have hle := w_s_len m d s
    obtain ⟨P0, hP0⟩ : ∃ P, P = w_p (m.tdiv 12) 121 := ⟨_, rfl⟩
    obtain ⟨P1, hP1⟩ : ∃ P, P = w_p (m - m.tdiv 12 * 12) 109 := ⟨_, rfl⟩
    obtain ⟨P2, hP2⟩ : ∃ P, P = w_p (d.tdiv 7) 119 := ⟨_, rfl⟩
    obtain ⟨P3, hP3⟩ : ∃ P, P = w_p (d - d.tdiv 7 * 7) 100 := ⟨_, rfl⟩
    obtain ⟨P4, hP4⟩ : ∃ P, P = w_p (s.tdiv 3600) 104 := ⟨_, rfl⟩
    obtain ⟨P5, hP5⟩ : ∃ P, P = w_p (s.tdiv 60 - (s.tdiv 60).tdiv 60 * 60) 105 := ⟨_, rfl⟩
    obtain ⟨P6, hP6⟩ : ∃ P, P = w_p (s - s.tdiv 60 * 60) 115 := ⟨_, rfl⟩
    have eL : w_s m d s = P0 ++ (P1 ++ (P2 ++ (P3 ++ (P4 ++ (P5 ++ P6))))) := by rw [hP0, hP1, hP2, hP3, hP4, hP5, hP6]; rfl
    obtain ⟨L, hL⟩ : ∃ L, L = w_s m d s := ⟨_, rfl⟩
    rw [← hL] at hX hl eL hle h0 ⊢
    rw [← hP0, ← hP1, ← hP2, ← hP3, ← hP4, ← hP5, ← hP6] at hl
    obtain ⟨f, hf⟩ : ∃ f, N = f + 1 + P6.length + P5.length + P4.length + P3.length + P2.length + P1.length + P0.length := ⟨N - 1 - L.length, by omega⟩
    have start : fX5_wrongAt_l28 N (zI (L.length : Int)) ts N (-1 : Int32) 0 0 0 0 r0 = fX5_wrongAt_l28 N (zI (L.length : Int)) ts (f + 1 + P6.length + P5.length + P4.length + P3.length + P2.length + P1.length + P0.length) (zI (-1)) (zI 0) (zI 0) (0 : Int32) (zI ((([] : List Int).length : Nat) : Int)) r0 := by rw [← hf]; rfl
    rw [start]
    obtain ⟨u0, s0, e0, Y0, c0⟩ := r_part N hX (A := []) (B := P1 ++ (P2 ++ (P3 ++ (P4 ++ (P5 ++ P6))))) (z := m.tdiv 12) (U := 121) (fun k => by rw [← hP0, eL]; rfl) (by rw [← hP0, eL]; rfl) (k := 0) (by omega) (by decide) (by omega) (u := -1) (by omega) v0 X0 (f + 1 + P6.length + P5.length + P4.length + P3.length + P2.length + P1.length)
    rw [← hP0] at e0
    rw [e0]
    obtain ⟨u1, s1, e1, Y1, c1⟩ := r_part N hX (A := [] ++ P0) (B := P2 ++ (P3 ++ (P4 ++ (P5 ++ P6)))) (z := m - m.tdiv 12 * 12) (U := 109) (fun k => by rw [← hP1, eL]; simp only [List.append_assoc, List.nil_append]) (by rw [← hP1, eL]; simp only [List.append_assoc, List.nil_append]) (k := 1) (by omega) (by decide) (by omega) (u := u0) (by omega) v1 Y0 (f + 1 + P6.length + P5.length + P4.length + P3.length + P2.length)
    rw [← hP1] at e1
    rw [e1]
    obtain ⟨u2, s2, e2, Y2, c2⟩ := r_part N hX (A := [] ++ P0 ++ P1) (B := P3 ++ (P4 ++ (P5 ++ P6))) (z := d.tdiv 7) (U := 119) (fun k => by rw [← hP2, eL]; simp only [List.append_assoc, List.nil_append]) (by rw [← hP2, eL]; simp only [List.append_assoc, List.nil_append]) (k := 2) (by omega) (by decide) (by omega) (u := u1) (by omega) v2 Y1 (f + 1 + P6.length + P5.length + P4.length + P3.length)
    rw [← hP2] at e2
    rw [e2]
    obtain ⟨u3, s3, e3, Y3, c3⟩ := r_part N hX (A := [] ++ P0 ++ P1 ++ P2) (B := P4 ++ (P5 ++ P6)) (z := d - d.tdiv 7 * 7) (U := 100) (fun k => by rw [← hP3, eL]; simp only [List.append_assoc, List.nil_append]) (by rw [← hP3, eL]; simp only [List.append_assoc, List.nil_append]) (k := 3) (by omega) (by decide) (by omega) (u := u2) (by omega) v3 Y2 (f + 1 + P6.length + P5.length + P4.length)
    rw [← hP3] at e3
    rw [e3]
    obtain ⟨u4, s4, e4, Y4, c4⟩ := r_part N hX (A := [] ++ P0 ++ P1 ++ P2 ++ P3) (B := P5 ++ P6) (z := s.tdiv 3600) (U := 104) (fun k => by rw [← hP4, eL]; simp only [List.append_assoc, List.nil_append]) (by rw [← hP4, eL]; simp only [List.append_assoc, List.nil_append]) (k := 4) (by omega) (by decide) (by omega) (u := u3) (by omega) v4 Y3 (f + 1 + P6.length + P5.length)
    rw [← hP4] at e4
    rw [e4]
    obtain ⟨u5, s5, e5, Y5, c5⟩ := r_part N hX (A := [] ++ P0 ++ P1 ++ P2 ++ P3 ++ P4) (B := P6) (z := s.tdiv 60 - (s.tdiv 60).tdiv 60 * 60) (U := 105) (fun k => by rw [← hP5, eL]; simp only [List.append_assoc, List.nil_append]) (by rw [← hP5, eL]; simp only [List.append_assoc, List.nil_append]) (k := 5) (by omega) (by decide) (by omega) (u := u4) (by omega) v5 Y4 (f + 1 + P6.length)
    rw [← hP5] at e5
    rw [e5]
    obtain ⟨u6, s6, e6, Y6, c6⟩ := r_part N hX (A := [] ++ P0 ++ P1 ++ P2 ++ P3 ++ P4 ++ P5) (B := []) (z := s - s.tdiv 60 * 60) (U := 115) (fun k => by rw [← hP6, eL]; simp only [List.append_assoc, List.nil_append, List.append_nil]) (by rw [← hP6, eL]; simp only [List.append_assoc, List.nil_append, List.append_nil]) (k := 6) (by omega) (by decide) (by omega) (u := u5) (by omega) v6 Y5 (f + 1)
    rw [← hP6] at e6
    rw [e6]
    have zl : ∀ {z U : Int}, z = 0 → (w_p z U).length = 0 := fun {z U} h => by rw [show w_p z U = [] from if_pos h]; rfl
    have hu : 0 ≤ u6 ∧ u6 ≤ 6 := by
      refine ⟨?_, by omega⟩
      apply Int.not_lt.mp
      intro hn
      have z0 := zl (U := 121) (show m.tdiv 12 = 0 by omega)
      have z1 := zl (U := 109) (show m - m.tdiv 12 * 12 = 0 by omega)
      have z2 := zl (U := 119) (show d.tdiv 7 = 0 by omega)
      have z3 := zl (U := 100) (show d - d.tdiv 7 * 7 = 0 by omega)
      have z4 := zl (U := 104) (show s.tdiv 3600 = 0 by omega)
      have z5 := zl (U := 105) (show s.tdiv 60 - (s.tdiv 60).tdiv 60 * 60 = 0 by omega)
      have z6 := zl (U := 115) (show s - s.tdiv 60 * 60 = 0 by omega)
      rw [← hP0] at z0
      rw [← hP1] at z1
      rw [← hP2] at z2
      rw [← hP3] at z3
      rw [← hP4] at z4
      rw [← hP5] at z5
      rw [← hP6] at z6
      omega
    have hp : ([] ++ P0 ++ P1 ++ P2 ++ P3 ++ P4 ++ P5 ++ P6).length = L.length := by rw [eL]; simp only [List.append_assoc, List.nil_append]
    rw [c_endG N s6 f hp (by omega) hu]
    have k0 := Y6 0 (by omega)
    have k1 := Y6 1 (by omega)
    have k2 := Y6 2 (by omega)
    refine ⟨s6, rfl, ?_, ?_, ?_⟩
    · rw [k0]; congr 1
      show 0 + m.tdiv 12 * 12 + (m - m.tdiv 12 * 12) * 1 = m
      omega
    · rw [k1]; congr 1
      show 0 + d.tdiv 7 * 7 + (d - d.tdiv 7 * 7) * 1 = d
      omega
    · rw [k2]; congr 1
      show 0 + s.tdiv 3600 * 3600 + (s.tdiv 60 - (s.tdiv 60).tdiv 60 * 60) * 60 + (s - s.tdiv 60 * 60) * 1 = s
      omega
theorem s_span (N : Nat) (hN : 200000 ≤ N) {p1 ks ti tl : Int32} {nn : Nat → Int64} {ts sr a b c : Nat → Int32} {mm da se : Nat → Int} {k1 : Nat} {m d s : Int} (hS : DS mm da se a b c) (e1 : p1 = zI k1) (hk1 : k1 < 8) (hb : SB m d s) (hT : TL (w_f m d s) ti ts) : ∃ a' b' c' nn' sr', fX9_span N p1 ks a b c tl nn ti ts sr = some (zI m, a', b', c', zI 3, nn', 0, sr') ∧ DS (zup mm k1 m) (zup da k1 d) (zup se k1 s) a' b' c' ∧ nn' 1 = zL d ∧ nn' 2 = zL s := by
  subst e1
  obtain ⟨sr', e, h0, h1, h2⟩ := r_span N hN (sr := sr) hb hT
  have hl := w_f_len m d s
  obtain ⟨b1, b2, b3⟩ := hb
  obtain ⟨a', b', c', nn', w1, w2, w3, w4, w5⟩ := s_comes N (ks := ks) (tl := tl) (nn := nn) hS hk1 (x := m) (y := d) (z := s) ⟨by omega, by omega, by omega⟩
  unfold fX9_span
  rw [e, bd2_s, hT.2.1]
  unfold fX6_cut
  rw [if_neg (by decide), if_neg (i_nlt (b := 0) (by decide) (by omega)), bd1_s, if_pos rfl, c_slot1 N (by omega), bd1_s, if_neg z10, h0, h1, h2, zI_toL (by omega) (by omega), zI_toL (by omega) (by omega), zI_toL (by omega) (by omega), w1, bd6_s]
  exact ⟨_, _, _, _, _, rfl, w2, w4, w5⟩
