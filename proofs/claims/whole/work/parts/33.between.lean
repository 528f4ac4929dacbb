/-! between -/
def sp_m0 (st : Nat) (law x t G : Int) : Int := if st = 0 then 0 else sp_mm st law x t G
theorem m0_b {st : Nat} {law x t G : Int} (hx : 0 ≤ x ∧ x ≤ 3652058) (hG : 0 ≤ G ∧ G ≤ 315537897599) : -119988 ≤ sp_m0 st law x t G ∧ sp_m0 st law x t G ≤ 119988 := by
  unfold sp_m0
  have := mm_b (st := st) (law := law) (t := t) hx hG
  split <;> omega
theorem e_d26 (N : Nat) (hN : 200000 ≤ N) {x t G law : Int} {st : Nat} (i : Nat → Int32) (j : Nat → Int64) (hx : 0 ≤ x ∧ x ≤ 3652058) (ht : 0 ≤ t ∧ t ≤ 86399) (hG : 0 ≤ G ∧ G ≤ 315537897599) (hl : 0 ≤ law ∧ law ≤ 3) (hst : st = 0 ∨ st = 1 ∨ st = 12) :
    ∃ i' j' y sh, fX10_differs_j26 N (zI x) (zI t) (zL G) (zI law) (zI st) i j = some (i', j') ∧ (∀ k, k < 10 ∨ 15 < k → i' k = i k) ∧ j' 20 = zL (sp_m0 st law x t G) ∧ i' 13 = zI y ∧ i' 14 = zI t ∧ sp_addM (sp_m0 st law x t G) law x = some (y, sh) := by
  unfold fX10_differs_j26
  rw [e_stands, bd1_s]
  by_cases h0 : st = 0
  · subst h0
    rw [if_pos (i_le (b := 0) (by decide) (by omega))]
    exact ⟨_, _, x, 0, rfl, fun k hk => by rw [upd_n (by omega), upd_n (by omega)], by rw [updL_s]; exact zll_0, by rw [upd_n (by omega), upd_s], upd_s, addM_0 law x⟩
  · rw [if_neg (i_nle (b := 0) (by decide) (by omega))]
    obtain ⟨i', y, sh, v1, v2, v3, v4, v5⟩ := e_finds N hN (i := upd (upd i 13 (zI x)) 14 (zI t)) (j := vp_updL j 20 (0 : Int64)) (st := st) (law := law) hx ht hG hl (by omega)
    have e : sp_m0 st law x t G = sp_mm st law x t G := if_neg h0
    rw [v1, bd2_s, e]
    exact ⟨_, _, y, sh, rfl, fun k hk => by rw [v2 k hk, upd_n (by omega), upd_n (by omega)], by rw [updL_s], v3, v4, v5⟩
theorem both_ret (N : Nat) (hN : 200000 ≤ N) {ks : Int32} {f g a b c F G ad : Nat → Int32} {dd ss : Nat → Int} (hM : RelM dd ss f g F G) (had : AdW ad) {k1 k2 k5 : Nat} (hk1 : k1 < 8) (hk2 : k2 < 8) (hk5 : k5 < 8) {m d s law : Int} (ha : a k5 = zI m) (hb : b k5 = zI d) (hc : c k5 = zI s) (h3 : sp_b3 m d s) (hl : 0 ≤ law ∧ law ≤ 3) {β : Type} (X0 X1 : (Nat → Int32) → Option β) (i : Nat → Int32) (j : Nat → Int64) :
    ∃ (e : Bool) (ad' i' : Nat → Int32), fX9_returns N (zI k1) (zI k2) (zI k5) (zI law) ks f g a b c ad = some (if e = true then (1 : Int32) else (0 : Int32), ad') ∧ AdW ad' ∧ (bd2 (fX10_adds N (-(zL m)) (-(zL d)) (-(zL s)) (zI law) (0 : Int32) (upd (upd i 13 (zI (dd k2))) 14 (zI (ss k2))) j) fun r19 i20 => (if r19 = (0 : Int32) then X0 i20 else (if (i20 13) = zI (dd k1) then (if (i20 14) = zI (ss k1) then X1 i20 else X0 i20) else X0 i20))) = (if e = true then X1 i' else X0 i') ∧ (∀ k, k < 10 ∨ 15 < k → i' k = i k) := by
  obtain ⟨f1, f2, f3, f4, f5, f6⟩ := hM k1 hk1
  obtain ⟨p1, p2, p3, p4, p5, p6⟩ := hM k2 hk2
  have hn := b3_neg h3
  have e1 := e_takes1 N ad a b c (t := -1) (law := law) hk5 ha hb hc h3 (by omega) hn
  rw [← zl_m1] at e1
  obtain ⟨a', r, w1, A1, g1⟩ := e_leads N (ord := 0) (had.adT (m * -1) (d * -1) (s * -1) law) hn hl (by omega) p5 p6
  have n1 : m * -1 = -m ∧ d * -1 = -d ∧ s * -1 = -s := by omega
  have hn' := hn
  rw [n1.1, n1.2.1, n1.2.2] at hn'
  obtain ⟨i', r2, x1, m1, g2⟩ := e_adds N (by omega) (i := upd (upd i 13 (zI (dd k2))) 14 (zI (ss k2))) (j := j) (ord := 0) hn' hl (by omega) (by rw [upd_n (by omega), upd_s]) p5 upd_s p6
  rw [n1.1, n1.2.1, n1.2.2] at g1
  have m1 : ∀ k, k < 10 ∨ 15 < k → i' k = i k := fun k hk => by rw [m1 k hk, upd_n (by omega), upd_n (by omega)]
  rw [← zl_0] at w1 x1
  have c0 : fX9_returns N (zI k1) (zI k2) (zI k5) (zI law) ks f g a b c ad = (if r = (0 : Int32) then some ((0 : Int32), a') else (bd1 (fX0_instant N a') fun r12 => (bd1 (fX4_instantAt N (zI k1) f g) fun r14 => (if (lg_cmp r12 r14) = (0 : Int32) then some ((1 : Int32), a') else some ((0 : Int32), a'))))) := by
    unfold fX9_returns
    rw [e1, bd2_s, e_dayAt N f hk2, bd1_s, e_secondAt N g hk2, bd1_s, p1, p2, w1, bd2_s]
  rw [c0, zL_neg, zL_neg, zL_neg, x1, bd2_s]
  rcases g1 with ⟨y, u, sh, q1, rfl, a8, a9, a10, b1, b2, b3⟩ | ⟨q1, rfl⟩
  · rcases g2 with ⟨y', u', sh', q2, rfl, i13, i14, i15, -⟩ | ⟨q2, -⟩
    · rw [q1] at q2
      injection q2 with q2
      injection q2 with q3 q2
      injection q2 with q4 q5
      subst q3; subst q4; subst q5
      rw [if_neg z10, if_neg z10, e_instant N a8 b1 a9 b2, bd1_s, e_instantAt N f g hk1 f1 f2 (by omega) (by omega), bd1_s, i13, i14]
      by_cases h : y = dd k1 ∧ u = ss k1
      · rw [if_pos (k_eq (by omega)), if_pos (congrArg zI h.1), if_pos (congrArg zI h.2)]
        exact ⟨true, a', i', rfl, A1.w, rfl, m1⟩
      · rw [if_neg (k_neq (by omega))]
        refine ⟨false, a', i', rfl, A1.w, ?_, m1⟩
        by_cases hy : y = dd k1
        · rw [if_pos (congrArg zI hy), if_neg (i_neq rfl (by omega))]; rfl
        · rw [if_neg (i_neq rfl (by omega))]; rfl
    · rw [q1] at q2; exact absurd q2 (by simp)
  · rcases g2 with ⟨y', u', sh', q2, -⟩ | ⟨q2, rfl⟩
    · rw [q1] at q2; exact absurd q2 (by simp)
    · rw [if_pos z00, if_pos z00]
      exact ⟨false, a', i', rfl, A1.w, rfl, m1⟩
theorem tdiv_d {L : Int} (h : -315537897599 ≤ L ∧ L ≤ 315537897599) : (-3652058 ≤ L.tdiv 86400 ∧ L.tdiv 86400 ≤ 3652058) ∧ -86399 ≤ L - L.tdiv 86400 * 86400 ∧ L - L.tdiv 86400 * 86400 ≤ 86399 := by
  by_cases h0 : 0 ≤ L
  · rw [tdiv_pos h0]; omega
  · rw [tdiv_neg (by omega)]; omega
theorem p_between (N : Nat) (hN : 200000 ≤ N) (p1 : Int32) (p2 : Int32) (p3 : Int32) (p4 : Int32) (p5 : Int32) {ks : Int32} {f : Nat → Int32} {g : Nat → Int32} {a : Nat → Int32} {b : Nat → Int32} {c : Nat → Int32} {tl : Int32} {nn : Nat → Int64} {ad : Nat → Int32} {i : Nat → Int32} {j : Nat → Int64} {F : Nat → Int32} {G : Nat → Int32} {S : Nat → Int32} {R : Nat → Int64} {dd ss mm da se : Nat → Int} (hM : RelM dd ss f g F G) (hS : RelS mm da se a b c S) (hR : RelR tl nn i R) (had : AdW ad) : 
    ∃ (r : Int32) (a' : Nat → Int32) (b' : Nat → Int32) (c' : Nat → Int32) (tl' : Int32) (nn' : Nat → Int64) (ad' : Nat → Int32) (i' : Nat → Int32) (j' : Nat → Int64) (S' : Nat → Int32) (R' : Nat → Int64) (mm' : Nat → Int) (da' : Nat → Int) (se' : Nat → Int), fX9_between N p1 p2 p3 p4 p5 ks f g a b c tl nn ad = some (r, a', b', c', tl', nn', ad') ∧ fX10_between N p1 p2 p3 p4 p5 i j F G S R = some (r, i', j', S', R') ∧ RelS mm' da' se' a' b' c' S' ∧ RelR tl' nn' i' R' ∧ AdW ad' ∧ i' 4 = i 4 ∧ i' 6 = i 6 := by
  obtain ⟨z1, l1, v1, rfl⟩ := zI_of p1
  obtain ⟨z2, l2, v2, rfl⟩ := zI_of p2
  obtain ⟨z3, l3, v3, rfl⟩ := zI_of p3
  obtain ⟨z4, l4, v4, rfl⟩ := zI_of p4
  obtain ⟨z5, l5, v5, rfl⟩ := zI_of p5
  by_cases q0 : 0 ≤ z1 ∧ z1 ≤ 7
  case neg =>
    refine ⟨(-1 : Int32), a, b, c, tl, nn, ad, upd i 9 (zI 0), j, S, R, mm, da, se, ?_, ?_, hS, hR.f9, had, upd_n (by omega), upd_n (by omega)⟩
    · unfold fX9_between
      rw [c_slot0 N l1 v1 q0, bd1_s, if_pos z00]
    · unfold fX10_between
      rw [m_slot0 N l1 v1 q0, bd1_s, if_pos z00]
      rfl
  by_cases q1 : 0 ≤ z2 ∧ z2 ≤ 7
  case neg =>
    refine ⟨(-1 : Int32), a, b, c, tl, nn, ad, upd i 9 (zI 0), j, S, R, mm, da, se, ?_, ?_, hS, hR.f9, had, upd_n (by omega), upd_n (by omega)⟩
    · unfold fX9_between
      rw [c_slot1 N q0, bd1_s, if_neg z10]
      rw [c_slot0 N l2 v2 q1, bd1_s, if_pos z00]
    · unfold fX10_between
      rw [m_slot1 N q0, bd1_s, if_neg z10]
      rw [m_slot0 N l2 v2 q1, bd1_s, if_pos z00]
      rfl
  by_cases q2 : 0 ≤ z3 ∧ z3 ≤ 3
  case neg =>
    refine ⟨(-1 : Int32), a, b, c, tl, nn, ad, upd i 9 (zI 0), j, S, R, mm, da, se, ?_, ?_, hS, hR.f9, had, upd_n (by omega), upd_n (by omega)⟩
    · unfold fX9_between
      rw [c_slot1 N q0, bd1_s, if_neg z10]
      rw [c_slot1 N q1, bd1_s, if_neg z10]
      rw [c_law0 N l3 v3 q2, bd1_s, if_pos z00]
    · unfold fX10_between
      rw [m_slot1 N q0, bd1_s, if_neg z10]
      rw [m_slot1 N q1, bd1_s, if_neg z10]
      rw [m_law0 N l3 v3 q2, bd1_s, if_pos z00]
      rfl
  by_cases q3 : 1 ≤ z4 ∧ z4 ≤ 7
  case neg =>
    refine ⟨(-1 : Int32), a, b, c, tl, nn, ad, upd i 9 (zI 0), j, S, R, mm, da, se, ?_, ?_, hS, hR.f9, had, upd_n (by omega), upd_n (by omega)⟩
    · unfold fX9_between
      rw [c_slot1 N q0, bd1_s, if_neg z10]
      rw [c_slot1 N q1, bd1_s, if_neg z10]
      rw [c_law1 N q2, bd1_s, if_neg z10]
      rcases (show z4 < 1 ∨ 7 < z4 by omega) with w | w
      · rw [if_pos (i_lt (b := 1) (by decide) (by omega))]
      · rw [if_neg (i_nlt (b := 1) (by decide) (by omega)), if_pos (i_gt (b := 7) (by decide) (by omega))]
    · unfold fX10_between
      rw [m_slot1 N q0, bd1_s, if_neg z10]
      rw [m_slot1 N q1, bd1_s, if_neg z10]
      rw [m_law1 N q2, bd1_s, if_neg z10]
      rw [m_in0 N (lo := 1) (hi := 7) (by decide) (by decide) l4 v4 (by omega) q3, bd1_s, if_pos z00]
      rfl
  by_cases q4 : 0 ≤ z5 ∧ z5 ≤ 7
  case neg =>
    refine ⟨(-1 : Int32), a, b, c, tl, nn, ad, upd i 9 (zI 0), j, S, R, mm, da, se, ?_, ?_, hS, hR.f9, had, upd_n (by omega), upd_n (by omega)⟩
    · unfold fX9_between
      rw [c_slot1 N q0, bd1_s, if_neg z10]
      rw [c_slot1 N q1, bd1_s, if_neg z10]
      rw [c_law1 N q2, bd1_s, if_neg z10]
      rw [if_neg (i_nlt (b := 1) (by decide) (by omega)), if_neg (i_ngt (b := 7) (by decide) (by omega))]
      rw [c_slot0 N l5 v5 q4, bd1_s, if_pos z00]
    · unfold fX10_between
      rw [m_slot1 N q0, bd1_s, if_neg z10]
      rw [m_slot1 N q1, bd1_s, if_neg z10]
      rw [m_law1 N q2, bd1_s, if_neg z10]
      rw [m_in1 N (lo := 1) (hi := 7) (by decide) (by decide) (by omega) q3, bd1_s, if_neg z10]
      rw [m_slot0 N l5 v5 q4, bd1_s, if_pos z00]
      rfl
  unfold fX9_between fX10_between
  rw [c_slot1 N q0, bd1_s, if_neg z10]
  rw [c_slot1 N q1, bd1_s, if_neg z10]
  rw [c_law1 N q2, bd1_s, if_neg z10]
  rw [if_neg (i_nlt (b := 1) (by decide) (by omega)), if_neg (i_ngt (b := 7) (by decide) (by omega))]
  rw [c_slot1 N q4, bd1_s, if_neg z10]
  rw [m_slot1 N q0, bd1_s, if_neg z10]
  rw [m_slot1 N q1, bd1_s, if_neg z10]
  rw [m_law1 N q2, bd1_s, if_neg z10]
  rw [m_in1 N (lo := 1) (hi := 7) (by decide) (by decide) (by omega) q3, bd1_s, if_neg z10]
  rw [m_slot1 N q4, bd1_s, if_neg z10]
  obtain ⟨k1, hk1, rfl⟩ := slot_of q0
  obtain ⟨k2, hk2, rfl⟩ := slot_of q1
  obtain ⟨k5, hk5, rfl⟩ := slot_of q4
  obtain ⟨f1, f2, f3, f4, f5, f6⟩ := hM k1 hk1
  obtain ⟨p1, p2, p3, p4, p5, p6⟩ := hM k2 hk2
  obtain ⟨G0, hG0⟩ : ∃ G0, G0 = dd k2 * 86400 + ss k2 := ⟨_, rfl⟩
  have bG : 0 ≤ G0 ∧ G0 ≤ 315537897599 := by omega
  have iB := e_instantAt N f g hk2 p1 p2 (by omega) (by omega)
  have iB' := e_instantOf_m N hk2 (upd i 9 (0 : Int32)) F G j p3 p4 p5 p6
  rw [← hG0] at iB iB'
  rw [iB', bd1_s, gi_z (by omega) (by omega) (by omega), zI_cl (by omega) (by omega), tn1, f3, nm_s, gi_z (by omega) (by omega) (by omega), f4, nm_s]
  have key : ∃ (st : Nat) (ad1 : Nat → Int32), (st = 0 ∨ st = 1 ∨ st = 12) ∧ AdW ad1 ∧ (if (zI z4 &&& (3 : Int32)) = (0 : Int32) then (fX9_between_j101 N ks f g (zI k1) (zI k2) (zI z3) (zI z4) (zI k5) (0 : Int32) a b c tl nn ad) else (if (zI z4 &&& (2 : Int32)) = (0 : Int32) then (fX9_between_j66 N ks f g (zI k1) (zI k2) (zI z3) (zI z4) (zI k5) (1 : Int32) a b c tl nn ad) else (fX9_between_j66 N ks f g (zI k1) (zI k2) (zI z3) (zI z4) (zI k5) (0 : Int32) a b c tl nn ad))) = fX9_between_j101 N ks f g (zI k1) (zI k2) (zI z3) (zI z4) (zI k5) (zI (sp_m0 st z3 (dd k1) (ss k1) G0)) a b c tl nn ad1 ∧ ∀ i j, fX10_differs N (zI (dd k1)) (zI (ss k1)) (zL G0) (zI z3) (zI z4) i j = fX10_differs_j26 N (zI (dd k1)) (zI (ss k1)) (zL G0) (zI z3) (zI st) i j := by
    obtain ⟨adY, eY, AY⟩ := e_most N hN (ks := ks) (wy := 1) (st := 12) had f5 f6 bG q2 (Or.inr ⟨rfl, rfl⟩)
    obtain ⟨adM, eM, AM⟩ := e_most N hN (ks := ks) (wy := 0) (st := 1) had f5 f6 bG q2 (Or.inl ⟨rfl, rfl⟩)
    rw [← zl_1] at eY
    rw [← zl_0] at eM
    have jY : fX9_between_j66 N ks f g (zI k1) (zI k2) (zI z3) (zI z4) (zI k5) (1 : Int32) a b c tl nn ad = fX9_between_j101 N ks f g (zI k1) (zI k2) (zI z3) (zI z4) (zI k5) (zI (sp_m0 12 z3 (dd k1) (ss k1) G0)) a b c tl nn adY := by
      unfold fX9_between_j66
      rw [e_dayAt N f hk1, bd1_s, e_secondAt N g hk1, bd1_s, iB, bd1_s, f1, f2, eY, bd2_s]
      rfl
    have jM : fX9_between_j66 N ks f g (zI k1) (zI k2) (zI z3) (zI z4) (zI k5) (0 : Int32) a b c tl nn ad = fX9_between_j101 N ks f g (zI k1) (zI k2) (zI z3) (zI z4) (zI k5) (zI (sp_m0 1 z3 (dd k1) (ss k1) G0)) a b c tl nn adM := by
      unfold fX9_between_j66
      rw [e_dayAt N f hk1, bd1_s, e_secondAt N g hk1, bd1_s, iB, bd1_s, f1, f2, eM, bd2_s]
      rfl
    rcases (show z4 = 1 ∨ z4 = 2 ∨ z4 = 3 ∨ z4 = 4 ∨ z4 = 5 ∨ z4 = 6 ∨ z4 = 7 by omega) with rfl | rfl | rfl | rfl | rfl | rfl | rfl
    · refine ⟨12, adY, by omega, AY, ?_, fun i j => ?_⟩
      · rw [if_neg (by decide), if_pos (by decide)]; exact jY
      · unfold fX10_differs; rw [if_neg (by decide), if_pos (by decide)]; rfl
    · refine ⟨1, adM, by omega, AM, ?_, fun i j => ?_⟩
      · rw [if_neg (by decide), if_neg (by decide)]; exact jM
      · unfold fX10_differs; rw [if_pos (by decide)]; rfl
    · refine ⟨1, adM, by omega, AM, ?_, fun i j => ?_⟩
      · rw [if_neg (by decide), if_neg (by decide)]; exact jM
      · unfold fX10_differs; rw [if_pos (by decide)]; rfl
    · refine ⟨0, ad, by omega, had, ?_, fun i j => ?_⟩
      · rw [if_pos (by decide)]; rfl
      · unfold fX10_differs; rw [if_neg (by decide), if_neg (by decide)]; rfl
    · refine ⟨12, adY, by omega, AY, ?_, fun i j => ?_⟩
      · rw [if_neg (by decide), if_pos (by decide)]; exact jY
      · unfold fX10_differs; rw [if_neg (by decide), if_pos (by decide)]; rfl
    · refine ⟨1, adM, by omega, AM, ?_, fun i j => ?_⟩
      · rw [if_neg (by decide), if_neg (by decide)]; exact jM
      · unfold fX10_differs; rw [if_pos (by decide)]; rfl
    · refine ⟨1, adM, by omega, AM, ?_, fun i j => ?_⟩
      · rw [if_neg (by decide), if_neg (by decide)]; exact jM
      · unfold fX10_differs; rw [if_pos (by decide)]; rfl
  obtain ⟨st, ad1, hst, A1, kc, kr⟩ := key
  rw [kc, kr]
  obtain ⟨i1, j1, y, sh, d1, d2, d3, d4, d5, d6⟩ := e_d26 N hN (law := z3) (upd i 9 (0 : Int32)) j f5 f6 bG q2 hst
  have bm := m0_b (st := st) (law := z3) (t := ss k1) f5 bG
  obtain ⟨M, hM0⟩ : ∃ M, M = sp_m0 st z3 (dd k1) (ss k1) G0 := ⟨_, rfl⟩
  rw [← hM0] at d3 d6 bm ⊢
  have d2 : ∀ k, k < 10 ∨ 15 < k → k ≠ 9 → i1 k = i k := fun k hk h9 => by rw [d2 k hk, upd_n h9]
  have by' := addM_b f5 d6
  rw [d1, bd2_s, e_instant_m N j1 d4 d5 by'.1 f6, bd1_s, zL_sub, nm_s]
  obtain ⟨ad2, r2, w1, A2, g1⟩ := e_leadsM N (m := M) (law := z3) A1 (by omega) q2 f5 f6
  rcases g1 with ⟨y', sh', g1, rfl, a8, a9, b1⟩ | ⟨g1, -⟩
  case inr => rw [d6] at g1; exact absurd g1 (by simp)
  rw [d6] at g1
  injection g1 with g1
  injection g1 with g2 g3
  subst g2; subst g3
  unfold fX9_between_j101
  rw [e_takesN0, bd1_s, e_dayAt N f hk1, bd1_s, e_secondAt N g hk1, bd1_s, f1, f2, w1, bd2_s, iB, bd1_s, e_instant N a8 b1 a9 f6, bd1_s, zL_sub, nm_s]
  obtain ⟨L, hL⟩ : ∃ L, L = G0 - (y * 86400 + ss k1) := ⟨_, rfl⟩
  have bL : -315537897599 ≤ L ∧ L ≤ 315537897599 := by omega
  rw [← hL]
  have tq := tdiv_d bL
  have key2 : ∃ dq : Int, (-3652058 ≤ dq ∧ dq ≤ 3652058) ∧ (-315537897599 ≤ L - dq * 86400 ∧ L - dq * 86400 ≤ 315537897599) ∧ (if (zI z4 &&& (4 : Int32)) = (0 : Int32) then (fX9_between_j173 N ks f g (zI k1) (zI k2) (zI z3) (zI k5) (zI M) (zL L) (0 : Int64) a b c tl nn ad2) else (fX9_between_j173 N ks f g (zI k1) (zI k2) (zI z3) (zI k5) (zI M) (zL L) (zL L / (86400 : Int64)) a b c tl nn ad2)) = fX9_between_j173 N ks f g (zI k1) (zI k2) (zI z3) (zI k5) (zI M) (zL L) (zL dq) a b c tl nn ad2 ∧ (if (zI z4 &&& (4 : Int32)) = (4 : Int32) then (fX10_between_j112 N F G (zI k2) (zI z3) (zI k5) (zI (dd k1)) (zI (ss k1)) (zL L) (zL L / (86400 : Int64)) i1 j1 S R) else (fX10_between_j112 N F G (zI k2) (zI z3) (zI k5) (zI (dd k1)) (zI (ss k1)) (zL L) (0 : Int64) i1 j1 S R)) = fX10_between_j112 N F G (zI k2) (zI z3) (zI k5) (zI (dd k1)) (zI (ss k1)) (zL L) (zL dq) i1 j1 S R := by
    have dv : zL L / (86400 : Int64) = zL (L.tdiv 86400) := by rw [zll_86400, zL_tdiv (by omega) (by omega) (by omega) (by omega)]
    rw [dv]
    rcases (show (z4 = 1 ∨ z4 = 2 ∨ z4 = 3) ∨ z4 = 4 ∨ z4 = 5 ∨ z4 = 6 ∨ z4 = 7 by omega) with h | h
    · refine ⟨0, by omega, by omega, ?_, ?_⟩
      · rw [if_pos (by rcases h with rfl | rfl | rfl <;> decide), zll_0]
      · rw [if_neg (by rcases h with rfl | rfl | rfl <;> decide), zll_0]
    · refine ⟨L.tdiv 86400, by omega, by omega, ?_, ?_⟩
      · rw [if_neg (by rcases h with rfl | rfl | rfl | rfl <;> decide)]
      · rw [if_pos (by rcases h with rfl | rfl | rfl | rfl <;> decide)]
  obtain ⟨dq, bq, bs, kc2, kr2⟩ := key2
  rw [kc2, kr2]
  unfold fX9_between_j173 fX10_between_j112
  obtain ⟨s1, hs1⟩ : ∃ s1, s1 = L - dq * 86400 := ⟨_, rfl⟩
  rw [zll_86400, zL_mul, zL_mul, zL_sub, zL_sub, Int.mul_comm 86400, ← hs1, nm_s, nm_s, zI_toL (by omega) (by omega), e_areBounded N (by omega) (by omega) (by omega), e_isPart_m N (by omega) (by omega), bd1_s]
  unfold fX9_comesToSpan
  rw [e_areBounded N (by omega) (by omega) (by omega), bd1_s]
  by_cases h3 : sp_b1 s1
  case neg =>
    have h3' : ¬ sp_b3 M dq s1 := fun h => h3 h.2.2
    simp only [if_neg h3', if_neg h3, if_pos z00, bd6_s, bd1_s]
    exact ⟨_, _, _, _, _, _, _, _, _, _, _, mm, da, se, rfl, rfl, hS, hR.cong (d2 8 (by omega) (by omega)), A2, d2 4 (by omega) (by omega), d2 6 (by omega) (by omega)⟩
  have h3' : sp_b3 M dq s1 := ⟨by omega, by omega, h3⟩
  rw [if_pos h3', if_pos h3, if_neg z10, if_neg z10, zL_toI, zL_toI, zL_toI, e_putSpan N _ _ _ _ _ _ hk5, bd3_s, e_tell3, bd2_s, bd6_s, bd1_s, if_neg z10, e_standsAt N hk2, bd1_s, p3, p4, d3]
  have hS2 := hS.up (k := k5) h3'
  obtain ⟨u1, u2, u3, u4, u5, u6, -⟩ := hS2 k5 hk5
  rw [zup_s] at u1 u2 u3 u4 u5 u6
  obtain ⟨e, ad3, i3, v1, v2, v3, v4⟩ := both_ret N hN (ks := ks) hM A2 hk1 hk2 hk5 u1 u2 u3 h3' q2 (fun i20 => fX10_between_j184 N F G (zI k5) (zL dq) (zL s1) (0 : Int32) i20 j1 S R) (fun i20 => fX10_between_j184 N F G (zI k5) (zL dq) (zL s1) (1 : Int32) i20 j1 S R) i1 j1
  rw [v1, bd2_s, v3]
  have fr4 : i3 4 = i 4 := by rw [v4 4 (by omega), d2 4 (by omega) (by omega)]
  have fr6 : i3 6 = i 6 := by rw [v4 6 (by omega), d2 6 (by omega) (by omega)]
  unfold fX10_between_j184
  rw [d3, e_laysSpan N hk5]
  simp only [bd1_s]
  rw [e_tellsSpan N hN hk5 u4 u5 u6 h3']
  simp only [bd2_s]
  have e3 : (zI 3 : Int32) = zI ((3 : Nat) : Int) := rfl
  cases e with
  | false =>
    simp only [Bool.false_eq_true, if_false, if_true]
    rw [e3, e_push N (by omega), bd2_s, ← e3, e_tellB N (by omega) (by omega), bd2_s, zL_toI]
    exact ⟨_, _, _, _, _, _, _, _, _, _, _, zup mm k5 M, zup da k5 dq, zup se k5 s1, rfl, rfl, hS2, RelR.mk4 upd_s _ _ _ _, v2, by rw [upd_n (by omega), fr4], by rw [upd_n (by omega), fr6]⟩
  | true =>
    simp only [if_true]
    rw [if_neg (show ¬ ((1 : Int32) = (0 : Int32)) by decide), if_neg (show ¬ ((1 : Int32) = (0 : Int32)) by decide), e3, e_push N (by omega), bd2_s, ← e3, e_tellB N (by omega) (by omega), bd2_s, zL_toI]
    exact ⟨_, _, _, _, _, _, _, _, _, _, _, zup mm k5 M, zup da k5 dq, zup se k5 s1, rfl, rfl, hS2, RelR.mk4 upd_s _ _ _ _, v2, by rw [upd_n (by omega), fr4], by rw [upd_n (by omega), fr6]⟩
