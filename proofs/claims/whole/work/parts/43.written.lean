/-! pages -/
theorem wb_tab : (List.range 128).all (fun k => decide (vp_nar .byte ((zI (k : Int)).toInt8.toInt32) = zI (k : Int))) = true := by decide +kernel
theorem wb_v {v : Int} (h : 0 ≤ v ∧ v ≤ 127) : vp_nar .byte ((zI v).toInt8.toInt32) = zI v := by
  have e := of_decide_eq_true (List.all_eq_true.mp wb_tab v.toNat (List.mem_range.mpr (by omega)))
  rw [show ((v.toNat : Nat) : Int) = v by omega] at e
  exact e
def PR (n : Nat) (ci : Int32) (cs i pg : Nat → Int32) : Prop := n ≤ 100 ∧ ci = zI (n : Int) ∧ i 28 = zI (n : Int) ∧ ∀ k, k < n → cs k = pg k
def FP (i i' : Nat → Int32) : Prop := ∀ k, k ≠ 28 → i' k = i k
theorem FP.tr {i i1 i2 : Nat → Int32} (h : FP i i1) (h2 : FP i1 i2) : FP i i2 := fun k hk => (h2 k hk).trans (h k hk)
theorem w_put (N : Nat) {n : Nat} {ci : Int32} {cs i pg : Nat → Int32} (j : Nat → Int64) (h : PR n ci cs i pg) (hn : n < 100) {v : Int} {V : Int32} (hV : V = zI v) (hv : 0 ≤ v ∧ v ≤ 127) : ∃ ci' cs' i' pg', fX6_put N V ci cs = some (ci', cs') ∧ fX10_writes N V i j pg = some (i', pg') ∧ PR (n + 1) ci' cs' i' pg' ∧ FP i i' := by
  obtain ⟨h0, rfl, h28, hk⟩ := h
  have c1 : zI (n : Int) + (1 : Int32) = zI ((n + 1 : Nat) : Int) := by rw [zl_1, zI_add]; rfl
  refine ⟨zI ((n + 1 : Nat) : Int), upd cs n V, upd i 28 (zI ((n + 1 : Nat) : Int)), upd pg n V, ?_, ?_, ⟨by omega, rfl, upd_s, ?_⟩, fun k hk => upd_n hk⟩
  · unfold fX6_put
    rw [if_neg (i_nlt (b := 0) (by decide) (by omega)), if_neg (i_nge' (b := 100) (by decide) (by omega)), gi_z (by omega) (by omega) (by omega), zI_cl (by omega) (by omega), tn1, c1]
  · unfold fX10_writes
    rw [h28, gi_z (by omega) (by omega) (by omega), zI_cl (by omega) (by omega), tn1, c1, hV, wb_v hv]
  · intro k hk2
    by_cases q : k = n
    · subst q; rw [upd_s, upd_s]
    · rw [upd_n q, upd_n q]; exact hk k (by omega)
theorem w_two (N : Nat) {n : Nat} {ci : Int32} {cs i pg : Nat → Int32} (j : Nat → Int64) (h : PR n ci cs i pg) (hn : n + 1 < 100) {v : Int} {V W : Int32} (hV : V = zI v) (hW : W = zI v) (hv : 0 ≤ v ∧ v ≤ 99) : ∃ ci' cs' i' pg', fX6_putTwo N V ci cs = some (ci', cs') ∧ fX10_writesTwo N W i j pg = some (i', pg') ∧ PR (n + 1 + 1) ci' cs' i' pg' ∧ FP i i' := by
  have e1 : (48 : Int32) + (V / (10 : Int32)) = zI (48 + v / 10) := by rw [hV, zl_10, zI_div (by omega) (by omega) (by omega) (by omega), zl_48, zI_add]
  have e2 : (48 : Int32) + (V - V / (10 : Int32) * (10 : Int32)) = zI (48 + v % 10) := by rw [hV, zl_10, zI_div (by omega) (by omega) (by omega) (by omega), zI_mul, zI_sub, zl_48, zI_add]; congr 1; omega
  obtain ⟨ci1, cs1, i1, pg1, a1, b1, h1, f1⟩ := w_put N j h (by omega) e1 (by omega)
  obtain ⟨ci2, cs2, i2, pg2, a2, b2, h2, f2⟩ := w_put N j h1 (by omega) e2 (by omega)
  refine ⟨ci2, cs2, i2, pg2, ?_, ?_, h2, f1.tr f2⟩
  · unfold fX6_putTwo; rw [a1, bd2_s, a2, bd2_s]
  · subst hW hV; unfold fX10_writesTwo; rw [b1, bd2_s, b2, bd2_s]
theorem w_sign (N : Nat) {n : Nat} {ci : Int32} {cs i pg : Nat → Int32} (j : Nat → Int64) (h : PR n ci cs i pg) (p : Int32) : ∃ r, fX10_signOf N p i j pg = some r ∧ (if p = (-1 : Int32) then fX6_length N ci else fX6_at N p ci cs) = some r := by
  obtain ⟨h0, rfl, h28, hk⟩ := h
  obtain ⟨z, l, v, rfl⟩ := zI_of p
  unfold fX10_signOf fX6_length fX6_at
  by_cases q : z = -1
  · refine ⟨zI (n : Int), ?_, ?_⟩
    · rw [if_pos (i_eq (b := -1) (by decide) q), h28]
    · rw [if_pos (i_eq (b := -1) (by decide) q)]
  · rw [if_neg (i_neq (b := -1) (by decide) (by omega)), if_neg (i_neq (b := -1) (by decide) (by omega))]
    have e : ((i 28) - (1 : Int32)).toInt64 = zL ((n : Int) - 1) := by rw [h28, zl_1, zI_sub]; exact zI_toL (by omega) (by omega)
    have e0 : (0 : Int64) = zL 0 := by decide
    rw [e, e0, zI_toL l v, e_in_m N (by omega) (by omega) (by omega) (by omega) (by omega) (by omega), bd1_s]
    by_cases g : 0 ≤ z ∧ z ≤ (n : Int) - 1
    · refine ⟨pg z.toNat, ?_, ?_⟩
      · rw [if_pos g, if_neg z10, gi_z g.1 (by omega) (by omega), zI_cl (by omega) (by omega)]
      · rw [if_neg (i_nlt (b := 0) (by decide) (by omega)), if_neg (i_nle rfl (by omega)), if_neg (i_nge' (b := 100) (by decide) (by omega)), gi_z g.1 (by omega) (by omega), zI_cl (by omega) (by omega), hk _ (by omega)]
    · refine ⟨(-1 : Int32), ?_, ?_⟩
      · rw [if_neg g, if_pos z00]
      · by_cases g2 : z < 0
        · rw [if_pos (i_lt (b := 0) (by decide) (by omega))]
        · rw [if_neg (i_nlt (b := 0) (by decide) (by omega)), if_pos (i_le rfl (by omega))]
theorem w_begin (N : Nat) {ci : Int32} (cs i pg : Nat → Int32) (hC : RelC ci) (h : i 28 = (0 : Int32)) : ∃ ci', fX6_cut N (0 : Int32) ci = some ci' ∧ PR 0 ci' cs i pg := by
  obtain ⟨n, hn, rfl⟩ := hC
  refine ⟨zI ((0 : Nat) : Int), ?_, by omega, rfl, h, fun k hk => by omega⟩
  unfold fX6_cut
  rw [if_neg (show ¬ ((0 : Int32) < (0 : Int32)) by decide), if_neg (i_nlt (b := 0) (by decide) (by omega))]; rfl
theorem PR.c {n : Nat} {ci : Int32} {cs i pg : Nat → Int32} (h : PR n ci cs i pg) : RelC ci := ⟨n, h.1, h.2.1⟩
theorem p_written (N : Nat) (hN : 200000 ≤ N) (p1 : Int32) (p2 : Int32) {ks : Int32} {f : Nat → Int32} {g : Nat → Int32} {ci : Int32} {cs : Nat → Int32} {i : Nat → Int32} {j : Nat → Int64} {F : Nat → Int32} {G : Nat → Int32} {pg : Nat → Int32} {dd ss : Nat → Int} (hM : RelM dd ss f g F G) (hC : RelC ci) : 
    ∃ (r : Int32) (ci' : Int32) (cs' : Nat → Int32) (i' : Nat → Int32) (pg' : Nat → Int32), fX9_written N p1 p2 ks f g ci cs = some (r, ci', cs') ∧ fX10_written N p1 p2 i j F G pg = some (r, i', pg') ∧ RelC ci' ∧ i' 4 = i 4 ∧ i' 6 = i 6 ∧ i' 8 = i 8 := by
  obtain ⟨z1, l1, v1, rfl⟩ := zI_of p1
  by_cases q0 : 0 ≤ z1 ∧ z1 ≤ 7
  case neg =>
    refine ⟨(-1 : Int32), ci, cs, upd i 9 (zI 0), pg, ?_, ?_, hC, by simp (disch := omega) only [upd_n], by simp (disch := omega) only [upd_n], by simp (disch := omega) only [upd_n]⟩
    · unfold fX9_written
      rw [c_slot0 N l1 v1 q0, bd1_s, if_pos z00]
    · unfold fX10_written
      rw [m_slot0 N l1 v1 q0, bd1_s, if_pos z00]
      rfl
  obtain ⟨k1, hk1, rfl⟩ : ∃ k1 : Nat, k1 < 8 ∧ z1 = (k1 : Int) := ⟨z1.toNat, by omega, by omega⟩
  obtain ⟨f1, f2, f3, f4, f5, f6⟩ := hM k1 hk1
  obtain ⟨y1, y2, y3, -⟩ := sp_all f5.1 f5.2
  have yl := mlen_b (sp_Y (dd k1)) (sp_M (dd k1))
  unfold fX9_written fX10_written fX9_writeMoment
  rw [c_slot1 N q0, bd1_s, if_neg z10, m_slot1 N q0, bd1_s, if_neg z10, e_dayAt N f hk1, bd1_s, e_secondAt N g hk1, bd1_s, f1, f2, gi_z (by omega) (by omega) (by omega), zI_cl (by omega) (by omega), tn1, f3, f4, e_dates N (by omega) _ j f5.1 f5.2, bd1_s, e_dateOf N f5.1 f5.2, bd1_s]
  obtain ⟨Y, eY⟩ : ∃ Y, Y = sp_Y (dd k1) := ⟨_, rfl⟩
  obtain ⟨M, eM⟩ : ∃ M, M = sp_M (dd k1) := ⟨_, rfl⟩
  obtain ⟨D, eD⟩ : ∃ D, D = sp_D (dd k1) := ⟨_, rfl⟩
  have y1' : 1 ≤ Y ∧ Y ≤ 9999 := by rw [eY]; exact y1
  have y2' : 1 ≤ M ∧ M ≤ 12 := by rw [eM]; exact y2
  have y3' : 1 ≤ D ∧ D ≤ 31 := by rw [eD]; omega
  rw [← eY, ← eM, ← eD]
  obtain ⟨i0, hi0⟩ : ∃ i0, i0 = upd (upd (upd (upd (upd i 9 (0 : Int32)) 10 (zI Y)) 11 (zI M)) 12 (zI D)) 28 (0 : Int32) := ⟨_, rfl⟩
  rw [← hi0]
  have i4 : i0 4 = i 4 := by rw [hi0]; simp (disch := omega) only [upd_n]
  have i6 : i0 6 = i 6 := by rw [hi0]; simp (disch := omega) only [upd_n]
  have i8 : i0 8 = i 8 := by rw [hi0]; simp (disch := omega) only [upd_n]
  have i11 : i0 11 = zI M := by rw [hi0, upd_n (by omega), upd_n (by omega), upd_s]
  have i12 : i0 12 = zI D := by rw [hi0, upd_n (by omega), upd_s]
  have i10 : i0 10 = zI Y := by rw [hi0, upd_n (by omega), upd_n (by omega), upd_n (by omega), upd_s]
  have y10 : (upd (upd (upd (upd i 9 (0 : Int32)) 10 (zI Y)) 11 (zI M)) 12 (zI D)) 10 = zI Y := by rw [upd_n (by omega), upd_n (by omega), upd_s]
  rw [y10]
  have a1 : zI (Y * 10000 + M * 100 + D) / (1000000 : Int32) = zI (Y / 100) := by rw [zl_1000000, zI_div (by omega) (by omega) (by omega) (by omega)]; congr 1; omega
  have a2 : zI (Y * 10000 + M * 100 + D) / (10000 : Int32) - zI (Y * 10000 + M * 100 + D) / (10000 : Int32) / (100 : Int32) * (100 : Int32) = zI (Y % 100) := by rw [zl_10000, zI_div (by omega) (by omega) (by omega) (by omega), zl_100, zI_div (by omega) (by omega) (by omega) (by omega), zI_mul, zI_sub]; congr 1; omega
  have a3 : zI (Y * 10000 + M * 100 + D) / (100 : Int32) - zI (Y * 10000 + M * 100 + D) / (100 : Int32) / (100 : Int32) * (100 : Int32) = zI M := by rw [zl_100, zI_div (by omega) (by omega) (by omega) (by omega), zI_div (by omega) (by omega) (by omega) (by omega), zI_mul, zI_sub]; congr 1; omega
  have a4 : zI (Y * 10000 + M * 100 + D) - zI (Y * 10000 + M * 100 + D) / (100 : Int32) * (100 : Int32) = zI D := by rw [zl_100, zI_div (by omega) (by omega) (by omega) (by omega), zI_mul, zI_sub]; congr 1; omega
  have b1 : zI Y / (100 : Int32) = zI (Y / 100) := by rw [zl_100, zI_div (by omega) (by omega) (by omega) (by omega)]
  have b2 : zI Y - zI Y / (100 : Int32) * (100 : Int32) = zI (Y % 100) := by rw [b1, zl_100, zI_mul, zI_sub]; congr 1; omega
  obtain ⟨ci0, hc0, h0⟩ := w_begin N cs i0 pg hC (by rw [hi0, upd_s])
  rw [hc0, bd1_s]
  obtain ⟨ci1, cs1, i1, pg1, r1, m1, h1, g1⟩ := w_two N j h0 (by omega) a1 b1 (by omega)
  rw [r1, bd2_s, m1, bd2_s, g1 10 (by omega), i10]
  obtain ⟨ci2, cs2, i2, pg2, r2, m2, h2, g2⟩ := w_two N j h1 (by omega) a2 b2 (by omega)
  rw [r2, bd2_s, m2, bd2_s]
  obtain ⟨ci3, cs3, i3, pg3, r3, m3, h3, g3⟩ := w_put N j h2 (by omega) (V := (45 : Int32)) (v := 45) (by decide) (by omega)
  rw [r3, bd2_s, m3, bd2_s, g3 11 (by omega), g2 11 (by omega), g1 11 (by omega), i11]
  obtain ⟨ci4, cs4, i4', pg4, r4, m4, h4, g4⟩ := w_two N j h3 (by omega) a3 (W := zI M) rfl (by omega)
  rw [r4, bd2_s, m4, bd2_s]
  obtain ⟨ci5, cs5, i5, pg5, r5, m5, h5, g5⟩ := w_put N j h4 (by omega) (V := (45 : Int32)) (v := 45) (by decide) (by omega)
  rw [r5, bd2_s, m5, bd2_s, g5 12 (by omega), g4 12 (by omega), g3 12 (by omega), g2 12 (by omega), g1 12 (by omega), i12]
  obtain ⟨ci6, cs6, i6', pg6, r6, m6, h6, g6⟩ := w_two N j h5 (by omega) a4 (W := zI D) rfl (by omega)
  have gg := g1.tr (g2.tr (g3.tr (g4.tr (g5.tr g6))))
  rw [r6, bd2_s, m6, bd2_s, gi_z (by omega) (by omega) (by omega)]
  by_cases hs : ss k1 = 0
  · rw [if_pos (i_eq (b := 0) (by decide) hs), if_pos (i_le (b := 0) (by decide) (by omega)), bd2_s]
    obtain ⟨r, s1, s2⟩ := w_sign N j h6 p2
    refine ⟨r, ci6, cs6, i6', pg6, ?_, ?_, h6.c, by rw [gg 4 (by omega), i4], by rw [gg 6 (by omega), i6], by rw [gg 8 (by omega), i8]⟩
    · by_cases q : p2 = (-1 : Int32)
      · rw [if_pos q] at s2 ⊢; rw [s2, bd1_s]
      · rw [if_neg q] at s2 ⊢; rw [s2, bd1_s]
    · rw [s1, bd1_s]
  · rw [if_neg (i_neq (b := 0) (by decide) (by omega)), if_neg (i_nle (b := 0) (by decide) (by omega))]
    have t1 : zI (ss k1) / (3600 : Int32) = zI (ss k1 / 3600) := by rw [zl_3600, zI_div (by omega) (by omega) (by omega) (by omega)]
    have t2 : zI (ss k1) / (60 : Int32) - zI (ss k1) / (60 : Int32) / (60 : Int32) * (60 : Int32) = zI (ss k1 / 60 % 60) := by rw [zl_60, zI_div (by omega) (by omega) (by omega) (by omega), zI_div (by omega) (by omega) (by omega) (by omega), zI_mul, zI_sub]; congr 1; omega
    have t3 : zI (ss k1) - zI (ss k1) / (60 : Int32) * (60 : Int32) = zI (ss k1 % 60) := by rw [zl_60, zI_div (by omega) (by omega) (by omega) (by omega), zI_mul, zI_sub]; congr 1; omega
    obtain ⟨ci7, cs7, i7, pg7, r7, m7, h7, g7⟩ := w_put N j h6 (by omega) (V := (84 : Int32)) (v := 84) (by decide) (by omega)
    rw [r7, bd2_s, m7, bd2_s, gi_z (by omega) (by omega) (by omega)]
    obtain ⟨ci8, cs8, i8', pg8, r8, m8, h8, g8⟩ := w_two N j h7 (by omega) t1 t1 (by omega)
    rw [r8, bd2_s, m8, bd2_s]
    obtain ⟨ci9, cs9, i9, pg9, r9, m9, h9, g9⟩ := w_put N j h8 (by omega) (V := (58 : Int32)) (v := 58) (by decide) (by omega)
    rw [r9, bd2_s, m9, bd2_s, gi_z (by omega) (by omega) (by omega)]
    obtain ⟨ciA, csA, iA, pgA, rA, mA, hA, gA⟩ := w_two N j h9 (by omega) t2 t2 (by omega)
    rw [rA, bd2_s, mA, bd2_s]
    obtain ⟨ciB, csB, iB, pgB, rB, mB, hB, gB⟩ := w_put N j hA (by omega) (V := (58 : Int32)) (v := 58) (by decide) (by omega)
    rw [rB, bd2_s, mB, bd2_s, gi_z (by omega) (by omega) (by omega)]
    obtain ⟨ciC, csC, iC, pgC, rC, mC, hC', gC⟩ := w_two N j hB (by omega) t3 t3 (by omega)
    rw [rC, bd2_s, mC, bd2_s, bd2_s]
    have g2' := gg.tr (g7.tr (g8.tr (g9.tr (gA.tr (gB.tr gC)))))
    obtain ⟨r, s1, s2⟩ := w_sign N j hC' p2
    refine ⟨r, ciC, csC, iC, pgC, ?_, ?_, hC'.c, by rw [g2' 4 (by omega), i4], by rw [g2' 6 (by omega), i6], by rw [g2' 8 (by omega), i8]⟩
    · by_cases q : p2 = (-1 : Int32)
      · rw [if_pos q] at s2 ⊢; rw [s2, bd1_s]
      · rw [if_neg q] at s2 ⊢; rw [s2, bd1_s]
    · rw [s1, bd1_s]
