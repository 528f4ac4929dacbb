/-! differences: the class's calls alone -/
theorem fm_ge {st : Nat} {way law x t G : Int} {q : Nat} (hq : q % st = 0) (h : sp_okB way law x t G (q : Int) = true) (h0 : 1 ≤ q) : ∀ k, q ≤ k → q ≤ sp_fm st way law x t G k
  | 0, h1 => by omega
  | k + 1, h1 => by
    rw [fm_s]
    split
    · exact h1
    · rename_i hn
      by_cases e : q = k + 1
      · subst e; exact (hn ⟨hq, h⟩).elim
      · exact fm_ge hq h h0 k (by omega)
theorem mm_ok {st : Nat} {law x t G : Int} (hx : 0 ≤ x ∧ x ≤ 3652058) (ht : 0 ≤ t ∧ t ≤ 86399) : ∃ y sh, sp_addM (sp_m0 st law x t G) law x = some (y, sh) ∧ (0 ≤ y ∧ y ≤ 3652058) ∧ 0 ≤ sp_way x t G * (G - (y * 86400 + t)) ∧ 0 ≤ sp_way x t G * sp_m0 st law x t G ∧ (st = 12 → sp_m0 st law x t G % 12 = 0) ∧ (st = 0 → sp_m0 st law x t G = 0) := by
  have z : 0 ≤ sp_way x t G * (G - (x * 86400 + t)) := by unfold sp_way; split <;> omega
  by_cases h0 : st = 0
  · have e : sp_m0 st law x t G = 0 := if_pos h0
    rw [e, addM_0]
    exact ⟨x, 0, rfl, hx, z, by omega, by omega, by omega⟩
  have e : sp_m0 st law x t G = sp_mm st law x t G := if_neg h0
  rw [e]
  unfold sp_mm
  obtain ⟨m, hm⟩ : ∃ m, m = sp_fm st (sp_way x t G) law x t G (sp_ap x G + 1) := ⟨_, rfl⟩
  have hmod : m % st = 0 := by rw [hm]; exact fm_mod _
  have hok : m ≠ 0 → sp_okB (sp_way x t G) law x t G (m : Int) = true := by rw [hm]; exact fm_ok _
  rw [← hm]
  have h12 : st = 12 → sp_way x t G * (m : Int) % 12 = 0 := by
    intro h; subst h
    rcases way_01 x t G with e | e <;> rw [e] <;> omega
  by_cases hz : m = 0
  · subst hz
    refine ⟨x, 0, ?_, hx, z, ?_, h12, by omega⟩
    · show sp_addM (sp_way x t G * 0) law x = _
      rw [Int.mul_zero, addM_0]
    · show 0 ≤ sp_way x t G * (sp_way x t G * 0)
      rw [Int.mul_zero, Int.mul_zero]; omega
  · have h1 := hok hz
    unfold sp_okB at h1
    cases e1 : sp_addM (sp_way x t G * (m : Int)) law x with
    | none => rw [e1] at h1; exact (Bool.false_ne_true h1).elim
    | some p =>
      rw [e1] at h1
      have b := addM_b hx (show sp_addM (sp_way x t G * (m : Int)) law x = some (p.1, p.2) from e1)
      refine ⟨p.1, p.2, rfl, b.1, of_decide_eq_true h1, ?_, h12, by omega⟩
      rcases way_01 x t G with e | e <;> rw [e] <;> omega
theorem retC (N : Nat) {ks : Int32} {f g a b c ad : Nat → Int32} {dd ss : Nat → Int} (hM : DM dd ss f g) (had : AdW ad) {k1 k2 k5 : Nat} (hk1 : k1 < 8) (hk2 : k2 < 8) (hk5 : k5 < 8) {m d s law : Int} (ha : a k5 = zI m) (hb : b k5 = zI d) (hc : c k5 = zI s) (h3 : sp_b3 m d s) (hl : 0 ≤ law ∧ law ≤ 3) :
    ∃ (e : Bool) (ad' : Nat → Int32), fX9_returns N (zI k1) (zI k2) (zI k5) (zI law) ks f g a b c ad = some (if e = true then (1 : Int32) else (0 : Int32), ad') ∧ AdW ad' := by
  obtain ⟨f1, f2, f5, f6⟩ := hM k1 hk1
  obtain ⟨p1, p2, p5, p6⟩ := hM k2 hk2
  have hn : sp_b3 (m * -1) (d * -1) (s * -1) := by unfold sp_b3 sp_b1 at h3 ⊢; omega
  have e1 := e_takes1 N ad a b c (t := -1) (law := law) hk5 ha hb hc h3 (by omega) hn
  rw [← zl_m1] at e1
  obtain ⟨a', r, w1, A1, g1⟩ := e_leads N (ord := 0) (had.adT (m * -1) (d * -1) (s * -1) law) hn hl (by omega) p5 p6
  rw [← zl_0] at w1
  unfold fX9_returns
  rw [e1, bd2_s, e_dayAt N f hk2, bd1_s, e_secondAt N g hk2, bd1_s, p1, p2, w1, bd2_s]
  rcases g1 with ⟨y, u, sh, q1, rfl, a8, a9, a10, b1, b2, b3⟩ | ⟨q1, rfl⟩
  · rw [if_neg z10, e_instant N a8 b1 a9 b2, bd1_s, e_instantAt N f g hk1 f1 f2 (by omega) (by omega), bd1_s]
    by_cases h : y * 86400 + u = dd k1 * 86400 + ss k1
    · rw [if_pos (k_eq (by omega))]
      exact ⟨true, a', rfl, A1.w⟩
    · rw [if_neg (k_neq (by omega))]
      exact ⟨false, a', rfl, A1.w⟩
  · rw [if_pos z00]
    exact ⟨false, a', rfl, A1.w⟩
/-- what between lays into its slot -/
def BetOK (u law x t x2 t2 M D S : Int) : Prop := (∃ sh, sp_add M D S law 0 x t = some (x2, t2, sh)) ∧ sp_b3 M D S ∧ (x2 * 86400 + t2 < x * 86400 + t → M ≤ 0 ∧ D ≤ 0 ∧ S ≤ 0) ∧ (x * 86400 + t ≤ x2 * 86400 + t2 → 0 ≤ M ∧ 0 ≤ D ∧ 0 ≤ S) ∧ (4 ≤ u → -86400 < S ∧ S < 86400) ∧ (u = 4 → M = 0) ∧ (u = 1 ∨ u = 4 ∨ u = 5 → M % 12 = 0)
theorem bet_add {M D S law x t x2 t2 y sh : Int} (hx2 : 0 ≤ x2 ∧ x2 ≤ 3652058) (ht2 : 0 ≤ t2 ∧ t2 ≤ 86399) (hx : 0 ≤ x ∧ x ≤ 3652058) (ht : 0 ≤ t ∧ t ≤ 86399) (hy : 0 ≤ y ∧ y ≤ 3652058) (h1 : sp_addM M law x = some (y, sh)) (hD : 0 ≤ y + D ∧ y + D ≤ 3652058) (hS : (y + D) * 86400 + t + S = x2 * 86400 + t2) : sp_add M D S law 0 x t = some (x2, t2, sh) := by
  unfold sp_add
  rw [if_pos rfl, h1]
  simp only [Option.bind_some]
  unfold sp_Dy
  rw [if_pos hD]
  simp only [Option.bind_some]
  unfold sp_S
  rw [if_pos (by omega)]
  simp only [Option.bind_some]
  rw [show ((y + D) * 86400 + t + S) / 86400 = x2 by omega, show ((y + D) * 86400 + t + S) % 86400 = t2 by omega]
set_option maxHeartbeats 1000000 in
theorem s_between (N : Nat) (hN : 200000 ≤ N) {p1 p2 p3 p4 p5 ks tl : Int32} {nn : Nat → Int64} {k1 k2 k5 : Nat} {law u : Int} {f g a b c ad : Nat → Int32} {dd ss mm da se : Nat → Int} (hM : DM dd ss f g) (hS : DS mm da se a b c) (had : AdW ad) (e1 : p1 = zI k1) (e2 : p2 = zI k2) (e3 : p3 = zI law) (e4 : p4 = zI u) (e5 : p5 = zI k5) (hk1 : k1 < 8) (hk2 : k2 < 8) (hk5 : k5 < 8) (hl : 0 ≤ law ∧ law ≤ 3) (hu : 1 ≤ u ∧ u ≤ 7) :
    ∃ (r : Int32) (a' b' c' : Nat → Int32) (tl' : Int32) (nn' : Nat → Int64) (ad' : Nat → Int32), fX9_between N p1 p2 p3 p4 p5 ks f g a b c tl nn ad = some (r, a', b', c', tl', nn', ad') ∧ AdW ad' ∧ ((r = zI (-9) ∧ DS mm da se a' b' c') ∨ ∃ M D S, r = zI M ∧ DS (zup mm k5 M) (zup da k5 D) (zup se k5 S) a' b' c' ∧ BetOK u law (dd k1) (ss k1) (dd k2) (ss k2) M D S) := by
  subst e1; subst e2; subst e3; subst e4; subst e5
  obtain ⟨f1, f2, f5, f6⟩ := hM k1 hk1
  obtain ⟨p1, p2, p5, p6⟩ := hM k2 hk2
  obtain ⟨G0, hG0⟩ : ∃ G0, G0 = dd k2 * 86400 + ss k2 := ⟨_, rfl⟩
  have bG : 0 ≤ G0 ∧ G0 ≤ 315537897599 := by omega
  have iB := e_instantAt N f g hk2 p1 p2 (by omega) (by omega)
  rw [← hG0] at iB
  unfold fX9_between
  rw [c_slot1 N (by omega), bd1_s, if_neg z10, c_slot1 N (by omega), bd1_s, if_neg z10, c_law1 N hl, bd1_s, if_neg z10, if_neg (i_nlt (b := 1) (by decide) (by omega)), if_neg (i_ngt (b := 7) (by decide) (by omega)), c_slot1 N (by omega), bd1_s, if_neg z10]
  have key : ∃ (st : Nat) (ad1 : Nat → Int32), (st = 0 ∨ st = 1 ∨ st = 12) ∧ (u = 4 → st = 0) ∧ (u = 1 ∨ u = 5 → st = 12) ∧ AdW ad1 ∧ (if (zI u &&& (3 : Int32)) = (0 : Int32) then (fX9_between_j101 N ks f g (zI k1) (zI k2) (zI law) (zI u) (zI k5) (0 : Int32) a b c tl nn ad) else (if (zI u &&& (2 : Int32)) = (0 : Int32) then (fX9_between_j66 N ks f g (zI k1) (zI k2) (zI law) (zI u) (zI k5) (1 : Int32) a b c tl nn ad) else (fX9_between_j66 N ks f g (zI k1) (zI k2) (zI law) (zI u) (zI k5) (0 : Int32) a b c tl nn ad))) = fX9_between_j101 N ks f g (zI k1) (zI k2) (zI law) (zI u) (zI k5) (zI (sp_m0 st law (dd k1) (ss k1) G0)) a b c tl nn ad1 := by
    obtain ⟨adY, eY, AY⟩ := e_most N hN (ks := ks) (wy := 1) (st := 12) had f5 f6 bG hl (Or.inr ⟨rfl, rfl⟩)
    obtain ⟨adM, eM, AM⟩ := e_most N hN (ks := ks) (wy := 0) (st := 1) had f5 f6 bG hl (Or.inl ⟨rfl, rfl⟩)
    rw [← zl_1] at eY
    rw [← zl_0] at eM
    have jY : fX9_between_j66 N ks f g (zI k1) (zI k2) (zI law) (zI u) (zI k5) (1 : Int32) a b c tl nn ad = fX9_between_j101 N ks f g (zI k1) (zI k2) (zI law) (zI u) (zI k5) (zI (sp_m0 12 law (dd k1) (ss k1) G0)) a b c tl nn adY := by
      unfold fX9_between_j66
      rw [e_dayAt N f hk1, bd1_s, e_secondAt N g hk1, bd1_s, iB, bd1_s, f1, f2, eY, bd2_s]
      rfl
    have jM : fX9_between_j66 N ks f g (zI k1) (zI k2) (zI law) (zI u) (zI k5) (0 : Int32) a b c tl nn ad = fX9_between_j101 N ks f g (zI k1) (zI k2) (zI law) (zI u) (zI k5) (zI (sp_m0 1 law (dd k1) (ss k1) G0)) a b c tl nn adM := by
      unfold fX9_between_j66
      rw [e_dayAt N f hk1, bd1_s, e_secondAt N g hk1, bd1_s, iB, bd1_s, f1, f2, eM, bd2_s]
      rfl
    rcases (show u = 1 ∨ u = 2 ∨ u = 3 ∨ u = 4 ∨ u = 5 ∨ u = 6 ∨ u = 7 by omega) with rfl | rfl | rfl | rfl | rfl | rfl | rfl
    · refine ⟨12, adY, by omega, by omega, by omega, AY, ?_⟩
      rw [if_neg (by decide), if_pos (by decide)]; exact jY
    · refine ⟨1, adM, by omega, by omega, by omega, AM, ?_⟩
      rw [if_neg (by decide), if_neg (by decide)]; exact jM
    · refine ⟨1, adM, by omega, by omega, by omega, AM, ?_⟩
      rw [if_neg (by decide), if_neg (by decide)]; exact jM
    · refine ⟨0, ad, by omega, by omega, by omega, had, ?_⟩
      rw [if_pos (by decide)]; rfl
    · refine ⟨12, adY, by omega, by omega, by omega, AY, ?_⟩
      rw [if_neg (by decide), if_pos (by decide)]; exact jY
    · refine ⟨1, adM, by omega, by omega, by omega, AM, ?_⟩
      rw [if_neg (by decide), if_neg (by decide)]; exact jM
    · refine ⟨1, adM, by omega, by omega, by omega, AM, ?_⟩
      rw [if_neg (by decide), if_neg (by decide)]; exact jM
  obtain ⟨st, ad1, hst, hst4, hst5, A1, kc⟩ := key
  rw [kc]
  obtain ⟨y, sh, d6, by', hw, hwM, h12, hz0⟩ := mm_ok (st := st) (law := law) (x := dd k1) (t := ss k1) (G := G0) f5 f6
  have bm := m0_b (st := st) (law := law) (t := ss k1) f5 bG
  obtain ⟨M, hM0⟩ : ∃ M, M = sp_m0 st law (dd k1) (ss k1) G0 := ⟨_, rfl⟩
  rw [← hM0] at d6 bm hwM h12 hz0 ⊢
  obtain ⟨ad2, r2, w1, A2, g1⟩ := e_leadsM N (m := M) (law := law) A1 (by omega) hl f5 f6
  rcases g1 with ⟨y', sh', g1, rfl, a8, a9, b1⟩ | ⟨g1, -⟩
  case inr => rw [d6] at g1; exact absurd g1 (by simp)
  rw [d6] at g1
  injection g1 with g1
  injection g1 with g2 g3
  subst g2; subst g3
  unfold fX9_between_j101
  rw [e_takesN0, bd1_s, e_dayAt N f hk1, bd1_s, e_secondAt N g hk1, bd1_s, f1, f2, w1, bd2_s, iB, bd1_s, e_instant N a8 b1 a9 f6, bd1_s, zL_sub, nm_s]
  obtain ⟨L, hL⟩ : ∃ L, L = G0 - (y * 86400 + ss k1) := ⟨_, rfl⟩
  have bL : -315537897599 ≤ L ∧ L ≤ 315537897599 := by omega
  rw [← hL]
  rw [← hL] at hw
  have tq := tdiv_d bL
  have key2 : ∃ dq : Int, ((dq = 0 ∧ u < 4) ∨ (dq = L.tdiv 86400 ∧ 4 ≤ u)) ∧ (if (zI u &&& (4 : Int32)) = (0 : Int32) then (fX9_between_j173 N ks f g (zI k1) (zI k2) (zI law) (zI k5) (zI M) (zL L) (0 : Int64) a b c tl nn ad2) else (fX9_between_j173 N ks f g (zI k1) (zI k2) (zI law) (zI k5) (zI M) (zL L) (zL L / (86400 : Int64)) a b c tl nn ad2)) = fX9_between_j173 N ks f g (zI k1) (zI k2) (zI law) (zI k5) (zI M) (zL L) (zL dq) a b c tl nn ad2 := by
    have dv : zL L / (86400 : Int64) = zL (L.tdiv 86400) := by rw [zll_86400, zL_tdiv (by omega) (by omega) (by omega) (by omega)]
    rw [dv]
    rcases (show (u = 1 ∨ u = 2 ∨ u = 3) ∨ u = 4 ∨ u = 5 ∨ u = 6 ∨ u = 7 by omega) with h | h
    · refine ⟨0, by omega, ?_⟩
      rw [if_pos (by rcases h with rfl | rfl | rfl <;> decide), zll_0]
    · refine ⟨L.tdiv 86400, by omega, ?_⟩
      rw [if_neg (by rcases h with rfl | rfl | rfl | rfl <;> decide)]
  obtain ⟨dq, hdq, kc2⟩ := key2
  rw [kc2]
  have sg : (0 ≤ L → 0 ≤ dq ∧ 0 ≤ L - dq * 86400) ∧ (L ≤ 0 → dq ≤ 0 ∧ L - dq * 86400 ≤ 0) ∧ (4 ≤ u → -86400 < L - dq * 86400 ∧ L - dq * 86400 < 86400) := by
    rcases hdq with ⟨rfl, h⟩ | ⟨h, h4⟩
    · omega
    · refine ⟨fun h0 => ?_, fun h0 => ?_, fun _ => by rw [h]; omega⟩
      · rw [tdiv_pos h0] at h; omega
      · rw [tdiv_neg h0] at h; omega
  have bq : -3652058 ≤ dq ∧ dq ≤ 3652058 := by omega
  unfold fX9_between_j173
  obtain ⟨s1, hs1⟩ : ∃ s1, s1 = L - dq * 86400 := ⟨_, rfl⟩
  rw [← hs1] at sg
  rw [zll_86400, zL_mul, zL_sub, ← hs1, nm_s, zI_toL (by omega) (by omega), e_areBounded N (by omega) (by omega) (by omega)]
  unfold fX9_comesToSpan
  rw [e_areBounded N (by omega) (by omega) (by omega), bd1_s]
  by_cases h3 : sp_b1 s1
  case neg =>
    have h3' : ¬ sp_b3 M dq s1 := fun h => h3 h.2.2
    simp only [if_neg h3', if_pos z00, bd6_s, bd1_s]
    exact ⟨_, _, _, _, _, _, _, rfl, A2, Or.inl ⟨by decide, hS⟩⟩
  have h3' : sp_b3 M dq s1 := ⟨by omega, by omega, h3⟩
  rw [if_pos h3', if_neg z10, zL_toI, zL_toI, zL_toI, e_putSpan N _ _ _ _ _ _ hk5, bd3_s, e_tell3, bd2_s, bd6_s, bd1_s, if_neg z10]
  have hS2 := hS.up (k := k5) h3'
  obtain ⟨u1, u2, u3, -⟩ := hS2 k5 hk5
  rw [zup_s] at u1 u2 u3
  obtain ⟨e, ad3, v1, v2⟩ := retC N (ks := ks) hM A2 hk1 hk2 hk5 u1 u2 u3 h3' hl
  have e3 : (zI 3 : Int32) = zI ((3 : Nat) : Int) := rfl
  have bo : BetOK u law (dd k1) (ss k1) (dd k2) (ss k2) M dq s1 := by
    have wy : (sp_way (dd k1) (ss k1) G0 = -1 ∧ G0 < dd k1 * 86400 + ss k1) ∨ (sp_way (dd k1) (ss k1) G0 = 1 ∧ dd k1 * 86400 + ss k1 ≤ G0) := by
      unfold sp_way; split <;> omega
    refine ⟨⟨sh, bet_add p5 p6 f5 f6 b1 d6 ?_ (by omega)⟩, h3', ?_, ?_, ?_, fun h => hz0 (hst4 h), ?_⟩
    · rcases wy with ⟨e, h⟩ | ⟨e, h⟩ <;> rw [e] at hw <;> omega
    · intro h
      rcases wy with ⟨e, h⟩ | ⟨e, h⟩ <;> rw [e] at hw hwM <;> omega
    · intro h
      rcases wy with ⟨e, h⟩ | ⟨e, h⟩ <;> rw [e] at hw hwM <;> omega
    · exact sg.2.2
    · intro h
      by_cases h4 : u = 4
      · rw [hz0 (hst4 h4)]; rfl
      · exact h12 (hst5 (by omega))
  rw [v1, bd2_s]
  cases e with
  | false =>
    simp only [Bool.false_eq_true, if_false, if_true]
    rw [e3, e_push N (by omega), bd2_s]
    exact ⟨_, _, _, _, _, _, _, rfl, v2, Or.inr ⟨M, dq, s1, rfl, hS2, bo⟩⟩
  | true =>
    simp only [if_true]
    rw [if_neg (show ¬ ((1 : Int32) = (0 : Int32)) by decide), e3, e_push N (by omega), bd2_s]
    exact ⟨_, _, _, _, _, _, _, rfl, v2, Or.inr ⟨M, dq, s1, rfl, hS2, bo⟩⟩
