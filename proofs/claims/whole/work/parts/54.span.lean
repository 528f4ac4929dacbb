/-! span -/
def so_out (N : Nat) (v1 : Int32) (j : Nat → Int64) (T S : Nat → Int32) (R : Nat → Int64) (i0 : Nat → Int32) (C : Option (Int32 × (Nat → Int32))) (M : Option (Int32 × (Nat → Int32) × (Nat → Int32) × (Nat → Int64) × (Nat → Int32))) : Prop :=
  (∃ q sr' i' rd', (0 ≤ q ∧ q ≤ 100) ∧ C = some (zI q, sr') ∧ M = some (zI (-21 - q), i', S, R, rd') ∧ FR i0 i') ∨
  (∃ xv sr' i' rd', XV xv sr' ∧ XV xv rd' ∧ BU 6 xv ∧ C = some ((-1 : Int32), sr') ∧ M = fX10_span_j98 N j T v1 i' S R rd' ∧ i' 18 = (-1 : Int32) ∧ FR i0 i')
theorem y98 (N : Nat) (v1 : Int32) {j : Nat → Int64} {T S i rd : Nat → Int32} {R : Nat → Int64} {w : Int} (h : i 18 = zI w) (hw : 0 ≤ w ∧ w ≤ 100) : fX10_span_j98 N j T v1 i S R rd = some (zI (-21 - w), i, S, R, rd) := by
  unfold fX10_span_j98
  rw [h, if_neg (i_neq (b := -1) (by decide) (by omega)), zl_m21, zI_sub]
theorem y71 (N : Nat) (v1 : Int32) {j : Nat → Int64} {T S i rd : Nat → Int32} {R : Nat → Int64} {w : Int} (h : i 18 = zI w) (hw : 0 ≤ w ∧ w ≤ 100) : fX10_span_j71 N j T v1 i S R rd = some (zI (-21 - w), i, S, R, rd) := by
  unfold fX10_span_j71
  rw [if_neg (by rw [h]; exact i_neq (b := -1) (by decide) (by omega)), y98 N v1 h hw]
theorem BU.mono {u w : Int} {xv : Nat → Int} (h : BU u xv) (huw : u ≤ w) : BU w xv := by
  obtain ⟨h0, h1, h2⟩ := h
  have m0 : cM u ≤ cM w ∧ 0 ≤ cM u := by unfold cM; constructor <;> (repeat' split) <;> omega
  have m1 : cD u ≤ cD w ∧ 0 ≤ cD u := by unfold cD; constructor <;> (repeat' split) <;> omega
  have m2 : cS u ≤ cS w ∧ 0 ≤ cS u := by unfold cS; constructor <;> (repeat' split) <;> omega
  exact ⟨by omega, by omega, by omega⟩
theorem st_parts (N : Nat) (hN : 20 ≤ N) (v1 : Int32) {n : Nat} {c : Nat → Int} {ts T S i0 : Nat → Int32} {R : Nat → Int64} (hT : TX n c ts T) {j : Nat → Int64} (m0 mm : Nat) : ∀ (r k : Nat) (p : Nat) (i sr rd : Nat → Int32) (xv : Nat → Int), k + r = 6 → p ≤ n → i 16 = zI (n : Int) → i 17 = zI (p : Int) → i 18 = (-1 : Int32) → FR i0 i → XV xv sr → XV xv rd → BU (k : Int) xv → ∀ m, m0 + 8 * (r + 1) ≤ m → ∀ f, mm + r + 2 ≤ f → so_out N v1 j T S R i0 (fX5_wrongAt_l28 N (zI (n : Int)) ts m (zI (k : Int)) (zI 0) (zI 0) (0 : Int32) (zI (p : Int)) sr) (fX10_span_l35 N j T f v1 (zI (k : Int)) i S R rd) := by
  have hn := hT.1
  have dead : ∀ (f : Nat) (v2 : Int32) (i rd : Nat → Int32) (w : Int), i 18 = zI w → (0 ≤ w ∧ w ≤ 100) → fX10_span_l35 N j T (f + 1) v1 v2 i S R rd = some (zI (-21 - w), i, S, R, rd) := by
    intro f v2 i rd w h hw
    rw [fX10_span_l35_s, if_neg (by rw [h]; exact i_neq (b := -1) (by decide) (by omega)), y71 N v1 h hw]
  intro r
  induction r using Nat.strongRecOn with
  | _ r ih =>
    intro k p i sr rd xv hk hp h16 h17 h18 hF hX hY hB m hm f hf
    obtain ⟨f1, rfl⟩ : ∃ f1, f = f1 + 1 := ⟨f - 1, by omega⟩
    obtain ⟨m1, rfl⟩ : ∃ m1, m = m1 + 1 := ⟨m - 1, by omega⟩
    rw [fX10_span_l35_s, if_pos h18, h16, h17]
    by_cases gn : p < n
    · rw [if_neg (i_nle rfl (by omega))]
      by_cases g6 : k = 6
      · subst g6
        rw [if_pos (i_ge' (b := 6) (by decide) (by omega))]
        unfold fX10_span_j71
        rw [if_pos h18, h16, h17, if_neg (i_nle rfl (by omega)), r_fault N j _ h18, bd1_s, y98 N v1 (w := (p : Int)) upd_s (by omega), show zI ((6 : Nat) : Int) = zI 6 from rfl, c_sixT N hT sr m1 gn]
        exact Or.inl ⟨(p : Int), sr, _, rd, by omega, rfl, rfl, hF.tr (FR.u18 _)⟩
      · rw [if_neg (i_nge' (b := 6) (by decide) (by omega))]
        have c1 : zI (k : Int) + (1 : Int32) = zI ((k : Int) + 1) := by rw [zl_1, zI_add]
        rw [c1]
        have P := pa_all N hN hT sr rd j (u := (k : Int)) (by omega) hp h16 h17 h18 (Or.inr gn)
        rcases P with ⟨k2, d, X, i', h1, h2, h3, h4, h5, h6, h7, h8, h9, h10⟩ | ⟨q, i', h1, h2, h3, h4, h5⟩
        · rw [h6, bd3_s, show m1 + 1 = (m1 + 1 - d) + d by omega, h10]
          exact ih (6 - k2) (by omega) k2 (p + d) i' _ _ _ (by omega) h4 (by rw [h9.2.2.2, h16]) h7 h8 (hF.tr h9) (hX.up _ (pt_b _) _) (hY.up _ (pt_b _) _) (hB.up h1 h2 h5) _ (by omega) _ (by omega)
        · obtain ⟨f2, rfl⟩ : ∃ f2, f1 = f2 + 1 := ⟨f1 - 1, by omega⟩
          rw [h2, bd3_s, dead f2 _ i' rd q h3 h1, h5 _ (by omega)]
          exact Or.inl ⟨q, sr, i', rd, h1, rfl, rfl, hF.tr h4⟩
    · rw [if_pos (i_le rfl (by omega)), c_endG N sr m1 (by omega) hn (by omega)]
      unfold fX10_span_j71
      rw [if_pos h18, h16, h17, if_pos (i_le rfl (by omega))]
      exact Or.inr ⟨xv, sr, i, rd, hX, hY, hB.mono (by omega), rfl, rfl, h18, hF⟩
theorem st_span (N : Nat) (hN : 20000 ≤ N) (v1 : Int32) {n : Nat} {c : Nat → Int} {ts T S i : Nat → Int32} {R : Nat → Int64} (hT : TX n c ts T) {j : Nat → Int64} (h16 : i 16 = zI (n : Int)) (h17 : i 17 = zI ((0 : Nat) : Int)) (h18 : i 18 = (-1 : Int32)) (sr rd : Nat → Int32) : so_out N v1 j T S R i (fX5_wrongAt N sr (zI (n : Int)) ts) (fX10_span_l11 N j T N v1 (0 : Int32) i S R rd) := by
  have hn := hT.1
  obtain ⟨M, rfl⟩ : ∃ M, N = M + 1 + 1 + 1 + 1 := ⟨N - 4, by omega⟩
  unfold fX5_wrongAt
  have z0 : (0 : Int32) = zI ((0 : Nat) : Int) := by decide
  have z0i : zI 0 = (0 : Int32) := by decide
  have z1 : (0 : Int32) + (1 : Int32) = zI 1 := by decide
  have z2 : zI 1 + (1 : Int32) = zI 2 := by decide
  have z3 : zI 2 + (1 : Int32) = zI 3 := by decide
  rw [fX10_span_l11_s, if_neg (show ¬ ((3 : Int32) ≤ (0 : Int32)) by decide), nm_s, z1, show gi (0 : Int32) 3 = gi (zI 0) 3 by rw [zl_0], gi_z (by omega) (by omega) (by omega), fX10_span_l11_s, if_neg (i_nge' (b := 3) (by decide) (by omega)), nm_s, z2, gi_z (by omega) (by omega) (by omega), fX10_span_l11_s, if_neg (i_nge' (b := 3) (by decide) (by omega)), nm_s, z3, gi_z (by omega) (by omega) (by omega), fX10_span_l11_s, if_pos (i_ge' (b := 3) (by decide) (by omega)), show ((0 : Int32).toNatClampNeg) = 0 by decide, show ((zI 1).toNatClampNeg) = 1 by decide, show ((zI 2).toNatClampNeg) = 2 by decide]
  obtain ⟨rd0, hrd⟩ : ∃ rd0, rd0 = upd (upd (upd rd 0 (0 : Int32)) 1 (0 : Int32)) 2 (0 : Int32) := ⟨_, rfl⟩
  obtain ⟨sr0, hsr⟩ : ∃ sr0, sr0 = upd (upd (upd sr 0 (0 : Int32)) 1 (0 : Int32)) 2 (0 : Int32) := ⟨_, rfl⟩
  rw [← hrd, ← hsr]
  have X0 : ∀ (f0 f1 : Nat → Int32), f1 = upd (upd (upd f0 0 (0 : Int32)) 1 (0 : Int32)) 2 (0 : Int32) → XV (fun _ => 0) f1 := by
    intro f0 f1 h q hq
    have m3 : q = 0 ∨ q = 1 ∨ q = 2 := by omega
    rcases m3 with rfl | rfl | rfl
    · rw [h, upd_n (by omega), upd_n (by omega), upd_s]; rfl
    · rw [h, upd_n (by omega), upd_s]; rfl
    · rw [h, upd_s]; rfl
  have hX := X0 _ _ hsr
  have hY := X0 _ _ hrd
  have hB : BU (-1) (fun _ => 0) := ⟨by show -99999 * cM (-1) ≤ 0 ∧ (0 : Int) ≤ 99999 * cM (-1); decide, by show -99999 * cD (-1) ≤ 0 ∧ (0 : Int) ≤ 99999 * cD (-1); decide, by show -99999 * cS (-1) ≤ 0 ∧ (0 : Int) ≤ 99999 * cS (-1); decide⟩
  have P := pa_all (M + 1 + 1 + 1 + 1) (by omega) hT sr0 rd0 j (u := -1) (by omega) (p := 0) (by omega) h16 h17 h18 (Or.inl rfl)
  have zm : zI (-1) = (-1 : Int32) := by decide
  have eF : ∀ F, fX5_wrongAt_l28 (M + 1 + 1 + 1 + 1) (zI (n : Int)) ts F (-1 : Int32) (0 : Int32) (0 : Int32) (0 : Int32) (0 : Int32) sr0 = fX5_wrongAt_l28 (M + 1 + 1 + 1 + 1) (zI (n : Int)) ts F (zI (-1)) (zI 0) (zI 0) (0 : Int32) (zI ((0 : Nat) : Int)) sr0 := by
    intro F
    rw [zm, z0i, ← z0]
  rw [show (-1 : Int) + 1 = ((0 : Nat) : Int) by decide, ← z0] at P
  rcases P with ⟨k2, d, X, i', h1, h2, h3, h4, h5, h6, h7, h8, h9, h10⟩ | ⟨q, i', h1, h2, h3, h4, h5⟩
  · rw [h6, bd3_s, eF, show fX5_wrongAt_l28 (M + 1 + 1 + 1 + 1) (zI (n : Int)) ts (M + 1 + 1 + 1 + 1) = fX5_wrongAt_l28 (M + 1 + 1 + 1 + 1) (zI (n : Int)) ts ((M + 4 - d) + d) by rw [show M + 4 - d + d = M + 1 + 1 + 1 + 1 by omega], h10]
    exact st_parts (M + 1 + 1 + 1 + 1) (by omega) v1 hT 0 0 (6 - k2) k2 (0 + d) i' _ _ _ (by omega) h4 (by rw [h9.2.2.2, h16]) h7 h8 h9 (hX.up _ (pt_b _) _) (hY.up _ (pt_b _) _) (hB.up h1 h2 h5) _ (by omega) _ (by omega)
  · rw [h2, bd3_s, fX10_span_l35_s, if_neg (by rw [h3]; exact i_neq (b := -1) (by decide) (by omega)), y71 _ v1 h3 h1, eF, h5 _ (by omega)]
    exact Or.inl ⟨q, sr0, i', rd0, h1, rfl, rfl, h4⟩
theorem p_span (N : Nat) (hN : 200000 ≤ N) (p1 : Int32) {ks : Int32} {a : Nat → Int32} {b : Nat → Int32} {c : Nat → Int32} {tl : Int32} {nn : Nat → Int64} {ti : Int32} {ts : Nat → Int32} {sr : Nat → Int32} {i : Nat → Int32} {j : Nat → Int64} {S : Nat → Int32} {T : Nat → Int32} {R : Nat → Int64} {rd : Nat → Int32} {mm da se : Nat → Int} (hS : RelS mm da se a b c S) (hR : RelR tl nn i R) (hT : RelT ti ts i T) : 
    ∃ (r : Int32) (a' : Nat → Int32) (b' : Nat → Int32) (c' : Nat → Int32) (tl' : Int32) (nn' : Nat → Int64) (ti' : Int32) (sr' : Nat → Int32) (i' : Nat → Int32) (S' : Nat → Int32) (R' : Nat → Int64) (rd' : Nat → Int32) (mm' : Nat → Int) (da' : Nat → Int) (se' : Nat → Int), fX9_span N p1 ks a b c tl nn ti ts sr = some (r, a', b', c', tl', nn', ti', sr') ∧ fX10_span N p1 i j S T R rd = some (r, i', S', R', rd') ∧ RelS mm' da' se' a' b' c' S' ∧ RelR tl' nn' i' R' ∧ RelT ti' ts i' T ∧ i' 4 = i 4 := by
  obtain ⟨z1, l1, v1, rfl⟩ := zI_of p1
  have hR0 := hR
  obtain ⟨n, c2, hn, rfl, r6, hc⟩ := hT
  have hX : TX n c2 ts T := ⟨hn, hc⟩
  obtain ⟨i0, hi0⟩ : ∃ i0, fX10_begin N (upd i 9 (0 : Int32)) j = some i0 ∧ i0 16 = zI (n : Int) ∧ i0 17 = zI ((0 : Nat) : Int) ∧ i0 18 = (-1 : Int32) ∧ i0 6 = zI ((0 : Nat) : Int) ∧ i0 4 = i 4 ∧ i0 8 = i 8 := by
    unfold fX10_begin
    refine ⟨_, rfl, ?_, ?_, ?_, ?_, ?_, ?_⟩
    · rw [upd_n (by omega), upd_n (by omega), upd_s, upd_n (by omega), r6]
    · rw [upd_n (by omega), upd_s]; rfl
    · rw [upd_s]
    · rw [upd_n (by omega), upd_n (by omega), upd_n (by omega), upd_s]; rfl
    · simp (disch := omega) only [upd_n]
    · simp (disch := omega) only [upd_n]
  obtain ⟨B, a16, a17, a18, a6, a4, a8⟩ := hi0
  have hcut : fX6_cut N (0 : Int32) (zI (n : Int)) = some (zI ((0 : Nat) : Int)) := by
    unfold fX6_cut
    rw [if_neg (show ¬ ((0 : Int32) < (0 : Int32)) by decide), if_neg (i_nlt (b := 0) (by decide) (by omega))]; rfl
  have O := st_span N (by omega) (zI z1) hX (S := S) (R := R) (j := j) a16 a17 a18 sr rd
  unfold fX9_span fX10_span
  rw [B, bd1_s]
  rcases O with ⟨q, sr', i', rd', hq, C, M1, hF⟩ | ⟨xv, sr', i', rd', hX1, hX2, hB, C, M1, b18, hF⟩
  · refine ⟨zI (-21 - q), a, b, c, tl, nn, zI ((0 : Nat) : Int), sr', i', S, R, rd', mm, da, se, ?_, M1, hS, hR0.cong (by rw [hF.2.2.1, a8]), ⟨0, c2, by omega, rfl, by rw [hF.2.1, a6], fun k hk => by omega⟩, by rw [hF.1, a4]⟩
    rw [C, bd2_s, hcut, bd1_s, if_neg (i_neq (b := -1) (by decide) (by omega)), zl_m21, zI_sub]
  · by_cases q0 : 0 ≤ z1 ∧ z1 ≤ 7
    · obtain ⟨k1, hk1, rfl⟩ : ∃ k1 : Nat, k1 < 8 ∧ z1 = (k1 : Int) := ⟨z1.toNat, by omega, by omega⟩
      obtain ⟨b0, b1, b2⟩ := hB
      rw [show cM 6 = 13 from rfl] at b0
      rw [show cD 6 = 8 from rfl] at b1
      rw [show cS 6 = 3661 from rfl] at b2
      have h3 : sp_b3 (xv 0) (xv 1) (xv 2) := ⟨⟨by omega, by omega⟩, ⟨by omega, by omega⟩, ⟨by omega, by omega⟩⟩
      have hS2 := hS.up (k := k1) h3
      obtain ⟨-, -, -, s4, s5, s6, -⟩ := hS2 k1 hk1
      rw [zup_s] at s4 s5 s6
      refine ⟨zI (xv 0), upd a k1 (zI (xv 0)), upd b k1 (zI (xv 1)), upd c k1 (zI (xv 2)), zI 3, vp_updL (vp_updL (vp_updL nn 0 (zL (xv 0))) 1 (zL (xv 1))) 2 (zL (xv 2)), zI ((0 : Nat) : Int), sr', upd i' 8 (zI 3), upd (upd (upd S (3 * k1) (zI (xv 0))) (3 * k1 + 1) (zI (xv 1))) (3 * k1 + 2) (zI (xv 2)), vp_updL (vp_updL (vp_updL R 0 (zL (xv 0))) 1 (zL (xv 1))) 2 (zL (xv 2)), rd', zup mm k1 (xv 0), zup da k1 (xv 1), zup se k1 (xv 2), ?_, ?_, hS2, RelR.mk3 upd_s _ _ _, ⟨0, c2, by omega, rfl, by rw [upd_n (by omega), hF.2.1, a6], fun k hk => by omega⟩, by rw [upd_n (by omega), hF.1, a4]⟩
      · rw [C, bd2_s, hcut, bd1_s, if_pos rfl, c_slot1 _ q0, bd1_s, if_neg z10, hX1 0 (by omega), hX1 1 (by omega), hX1 2 (by omega), zI_toL (by omega) (by omega), zI_toL (by omega) (by omega), zI_toL (by omega) (by omega)]
        unfold fX9_comesToSpan
        rw [e_areBounded N (by omega) (by omega) (by omega), bd1_s, if_pos h3, if_neg z10, zL_toI, zL_toI, zL_toI, e_putSpan N _ _ _ _ _ _ hk1, bd3_s, e_tell3, bd2_s, bd6_s]
      · rw [M1]
        unfold fX10_span_j98
        rw [if_pos b18, m_slot1 _ q0, bd1_s, if_neg z10, show ((0 : Int32).toNatClampNeg) = 0 by decide, show ((1 : Int32).toNatClampNeg) = 1 by decide, show ((2 : Int32).toNatClampNeg) = 2 by decide, hX2 0 (by omega), hX2 1 (by omega), hX2 2 (by omega), zI_toL (by omega) (by omega), zI_toL (by omega) (by omega), zI_toL (by omega) (by omega), e_laysSpan N hk1, bd1_s, e_tellsSpan N hN hk1 s4 s5 s6 h3, bd2_s]; rfl
    · refine ⟨(-1 : Int32), a, b, c, tl, nn, zI ((0 : Nat) : Int), sr', i', S, R, rd', mm, da, se, ?_, ?_, hS, hR0.cong (by rw [hF.2.2.1, a8]), ⟨0, c2, by omega, rfl, by rw [hF.2.1, a6], fun k hk => by omega⟩, by rw [hF.1, a4]⟩
      · rw [C, bd2_s, hcut, bd1_s, if_pos rfl, c_slot0 _ l1 v1 q0, bd1_s, if_pos z00]
      · rw [M1]
        unfold fX10_span_j98
        rw [if_pos b18, m_slot0 _ l1 v1 q0, bd1_s, if_pos z00]
