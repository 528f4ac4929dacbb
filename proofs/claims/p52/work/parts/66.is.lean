/-! isSpoken: what it comes to -/
theorem g_sp (N : Nat) (hN : 200000 ≤ N) {ks tl ti : Int32} {nn : Nat → Int64} {ts sr a b c : Nat → Int32} {mm da se : Nat → Int} {k1 : Nat} (hS : DS mm da se a b c) (hk1 : k1 < 6) (hb : SB (mm k1) (da k1) (se k1)) (h0 : ti = 0) {n : Nat} (hn : n = (w_f (mm k1) (da k1) (se k1)).length) : ∀ (fu j : Nat) (ci : Int32) (cs fa : Nat → Int32), RelC ci → j ≤ n → (∀ q, q < j → fa q = zI ((w_f (mm k1) (da k1) (se k1)).getD q 0)) → n - j < fu →
    ∃ a' b' c' tl' nn' ti' ts' ci' cs' sr' mm' da' se', fL_isSpoken_l22 N ks fu (zI (k1 : Int)) (zI (n : Int)) (zI (j : Int)) a b c tl nn ti ts ci cs sr fa = some (1, a', b', c', tl', nn', ti', ts', ci', cs', sr') ∧ DS mm' da' se' a' b' c' ∧ (∀ j, j < 6 → mm' j = mm j ∧ da' j = da j ∧ se' j = se j) ∧ ti' = 0 ∧ RelC ci' := by
  have hlen := w_f_len (mm k1) (da k1) (se k1)
  have n28 : n ≤ 28 := by omega
  intro fu
  induction fu with
  | zero => intro j ci cs fa hC hj hfa hf; omega
  | succ fu ih =>
    intro j ci cs fa hC hj hfa hf
    rw [fL_isSpoken_l22_s]
    by_cases hd : n ≤ j
    · have ej : j = n := by omega
      subst ej
      rw [if_pos (i_le rfl (by omega)), zI_cl (by omega) (by omega), tn1]
      obtain ⟨t1, x1, e1, T1⟩ := g_say N hN (l := w_f (mm k1) (da k1) (se k1)) (ks := ks) (ts := ts) (fa := fa) (by omega) (w_f_b hb) (by rw [← hn]; exact hfa) h0
      rw [← hn] at e1
      rw [e1, bd2_s]
      obtain ⟨m, hm⟩ : ∃ m, m = mm k1 := ⟨_, rfl⟩
      obtain ⟨d, hd'⟩ : ∃ d, d = da k1 := ⟨_, rfl⟩
      obtain ⟨s, hs⟩ : ∃ s, s = se k1 := ⟨_, rfl⟩
      rw [← hm, ← hd', ← hs] at T1 hb
      obtain ⟨b1, b2, b3⟩ := id hb
      obtain ⟨a1, y1, z1, nn1, sr1, e2, S1, w4, w5⟩ := s_span N hN (ks := ks) (tl := tl) (nn := nn) (sr := sr) hS (p1 := 7) (k1 := 7) (by decide) (by omega) hb T1
      have m1 : zup mm 7 m k1 = m := by rw [zup_n (by omega), hm]
      have d1 : zup da 7 d k1 = d := by rw [zup_n (by omega), hd']
      have s1 : zup se 7 s k1 = s := by rw [zup_n (by omega), hs]
      have hk8 : k1 < 8 := by omega
      rw [e2, bd8_s]
      have er1 := s_row N (p1 := 1) (ks := ks) (tl := zI 3) (nn := nn1) (k := 1) (n := 3) (by decide) rfl (by omega) (by omega)
      have er2 := s_row N (p1 := 2) (ks := ks) (tl := zI 3) (nn := nn1) (k := 2) (n := 3) (by decide) rfl (by omega) (by omega)
      rw [s_sI0 N S1 rfl hk8, bd1_s, m1, if_pos rfl, er1, bd1_s, w4, s_sI1 N S1 rfl hk8, bd1_s, d1, zI_toL (by omega) (by omega), if_pos (k_eq rfl), er2, bd1_s, w5, s_sI2 N S1 rfl hk8, bd1_s, s1, zI_toL (by omega) (by omega), if_pos (k_eq rfl)]
      obtain ⟨a2, y2, z2, tl2, nn2, e3, S2⟩ := s_turn N (ks := ks) (tl := zI 3) (nn := nn1) S1 (p1 := 7) (p2 := 6) (k1 := 7) (k2 := 6) (by decide) (by decide) (by omega) (by omega)
      have m2 : zup (zup mm 7 m) 6 (-zup mm 7 m 7) k1 = m := by rw [zup_n (by omega), m1]
      rw [e3, bd6_s, s_sI0 N S2 rfl hk8, bd1_s, m2, zI_neg, if_pos (show zI (-zup mm 7 m 7) = zI (-m) from rfl)]
      obtain ⟨a3, y3, z3, tl3, nn3, e4, S3⟩ := s_sum N (ks := ks) (tl := tl2) (nn := nn2) S2 (p1 := 6) (p2 := 7) (p3 := 6) (k1 := 6) (k2 := 7) (k3 := 6) (by decide) (by decide) (by decide) (by omega) (by omega) (by omega) (by show sp_b3 (-m + m) (-d + d) (-s + s); exact ⟨by omega, by omega, by omega⟩)
      have q1 : zup (zup mm 7 m) 6 (-zup mm 7 m 7) 6 + zup (zup mm 7 m) 6 (-zup mm 7 m 7) 7 = 0 := by show -m + m = 0; omega
      have q2 : zup (zup da 7 d) 6 (-zup da 7 d 7) 6 + zup (zup da 7 d) 6 (-zup da 7 d 7) 7 = 0 := by show -d + d = 0; omega
      have q3 : zup (zup se 7 s) 6 (-zup se 7 s 7) 6 + zup (zup se 7 s) 6 (-zup se 7 s 7) 7 = 0 := by show -s + s = 0; omega
      rw [q1, q2, q3] at S3
      rw [e4, bd6_s, q1, if_pos (i_eq (b := 0) (by decide) rfl), s_sI1 N S3 (p1 := 6) (k := 6) (by decide) (by omega), bd1_s, zup_s, if_pos (i_eq (b := 0) (by decide) rfl), s_sI2 N S3 (p1 := 6) (k := 6) (by decide) (by omega), bd1_s, zup_s, if_pos (i_eq (b := 0) (by decide) rfl)]
      obtain ⟨a4, y4, z4, tl4, nn4, dx, sx, e5, S4⟩ := s_even N (ks := ks) (tl := tl3) (nn := nn3) S3 (p1 := 7) (p2 := 6) (k1 := 7) (k2 := 6) (by decide) (by decide) (by omega) (by omega) (by show -900000000 ≤ d ∧ d ≤ 900000000; omega)
      have m7 : zup (zup (zup mm 7 m) 6 (-zup mm 7 m 7)) 6 0 7 = m := rfl
      rw [m7] at S4 e5
      have m4 : zup (zup (zup (zup mm 7 m) 6 (-zup mm 7 m 7)) 6 0) 6 m k1 = m := by rw [zup_n (by omega), zup_n (by omega), m2]
      rw [e5, bd6_s, s_sI0 N S4 rfl hk8, bd1_s, m4, if_pos rfl]
      refine ⟨_, _, _, _, _, _, _, _, _, _, _, _, _, rfl, S4, fun j hj => ?_, rfl, hC⟩
      exact ⟨by rw [zup_n (by omega), zup_n (by omega), zup_n (by omega), zup_n (by omega)], by rw [zup_n (by omega), zup_n (by omega), zup_n (by omega), zup_n (by omega)], by rw [zup_n (by omega), zup_n (by omega), zup_n (by omega), zup_n (by omega)]⟩
    · obtain ⟨c', s', e1, C1⟩ := s_phraseK N hN (ks := ks) (cs := cs) hS hC (p1 := zI (k1 : Int)) rfl (by omega) hb (p2 := zI (j : Int)) (k := j) rfl (by omega)
      have hb' := w_f_b hb j (by omega)
      have c1 : zI (j : Int) + (1 : Int32) = zI ((j + 1 : Nat) : Int) := by rw [zl_1, zI_add]; rfl
      rw [if_neg (i_nle rfl (by omega)), e1, bd3_s, zI_cl (k := (n : Int)) (by omega) (by omega), tn1, gi_z (by omega) (by omega) (by omega), nm_s, c1, zI_cl (by omega) (by omega), tn1, wb_v hb']
      refine ih (j + 1) c' s' _ C1 (by omega) (fun q hq => ?_) (by omega)
      by_cases e : q = j
      · subst e; rw [upd_s]
      · rw [upd_n e]; exact hfa q (by omega)
theorem g_isSpoken (N : Nat) (hN : 200000 ≤ N) {p2 ks tl ti ci : Int32} {nn : Nat → Int64} {ts cs sr a b c : Nat → Int32} {mm da se : Nat → Int} {k1 : Nat} (hS : DS mm da se a b c) (e1 : p2 = zI k1) (hk1 : k1 < 6) (hb : SB (mm k1) (da k1) (se k1)) (h0 : ti = 0) (hC : RelC ci) :
    ∃ a' b' c' tl' nn' ti' ts' ci' cs' sr' mm' da' se', fL_isSpoken N p2 ks a b c tl nn ti ts ci cs sr = some (1, a', b', c', tl', nn', ti', ts', ci', cs', sr') ∧ DS mm' da' se' a' b' c' ∧ (∀ j, j < 6 → mm' j = mm j ∧ da' j = da j ∧ se' j = se j) ∧ ti' = 0 ∧ RelC ci' := by
  subst e1
  have hlen := w_f_len (mm k1) (da k1) (se k1)
  obtain ⟨c', s', e, C1⟩ := s_phraseN N hN (ks := ks) (cs := cs) hS hC (p1 := zI (k1 : Int)) rfl (by omega) hb
  unfold fL_isSpoken
  rw [e, bd3_s, if_neg (i_neq (b := -2) (by decide) (by omega)), gi_z (by omega) (by omega) (by omega), show (0 : Int32) = zI ((0 : Nat) : Int) by decide]
  exact g_sp N hN hS hk1 hb h0 rfl N 0 c' s' _ C1 (by omega) (fun q hq => by omega) (by omega)
