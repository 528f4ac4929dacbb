/-! least -/
def sp_ps (n d : Int) : Int := n / 12 + n % 12 + (d.natAbs : Int) / 7 + (d.natAbs : Int) % 7
theorem ps_b {n d : Int} (h1 : 0 ≤ n ∧ n ≤ 200000) (h2 : -4000000 ≤ d ∧ d ≤ 4000000) : 0 ≤ sp_ps n d ∧ sp_ps n d ≤ 1000000 := by
  unfold sp_ps
  omega
theorem e_ps (N : Nat) {n d : Int} (h1 : 0 ≤ n ∧ n ≤ 200000) (h2 : -4000000 ≤ d ∧ d ≤ 4000000) : fX9_phraseSize N (zI n) (zI d) = some (zI (sp_ps n d)) := by
  unfold fX9_phraseSize
  have eA : (if (0 : Int32) ≤ zI d then zI d else 0 - zI d) = zI (d.natAbs : Int) := by
    by_cases h : 0 ≤ d
    · rw [if_pos (i_ge' (b := 0) (by decide) (by omega))]; congr 1; omega
    · rw [if_neg (i_nge' (b := 0) (by decide) (by omega)), zl_0, zI_sub]; congr 1; omega
  obtain ⟨A, hA⟩ : ∃ A : Int, A = (d.natAbs : Int) := ⟨_, rfl⟩
  have bA : 0 ≤ A ∧ A ≤ 4000000 := by omega
  rw [if_pos (i_ge' (b := 0) (by decide) (by omega)), eA, nm_s, nm_s]
  unfold sp_ps
  rw [← hA, zl_12, zl_7, zI_div (by omega) (by omega) (by omega) (by omega), zI_mul, zI_sub, mod_fold, zI_div (by omega) (by omega) (by omega) (by omega), zI_mul, zI_sub, mod_fold, zI_add, zI_add, zI_add]
theorem e_szq (N : Nat) {d : Int} (h2 : -4000000 ≤ d ∧ d ≤ 4000000) : fX10_sizeOf N ((zI d / (7 : Int32)).toInt64) = some (zL ((d.natAbs : Int) / 7)) ∧ fX10_sizeOf N ((zI d - zI d / (7 : Int32) * (7 : Int32)).toInt64) = some (zL ((d.natAbs : Int) % 7)) := by
  have q : (0 ≤ d ∧ d.tdiv 7 = d / 7) ∨ (d < 0 ∧ d.tdiv 7 = -((-d) / 7)) := by
    by_cases h : 0 ≤ d
    · exact Or.inl ⟨h, tdiv_pos h⟩
    · exact Or.inr ⟨by omega, tdiv_neg (by omega)⟩
  have e1 : zI d / (7 : Int32) = zI (d.tdiv 7) := by rw [zl_7, zI_tdiv (by omega) (by omega) (by omega) (by omega)]
  obtain ⟨Q, hQ⟩ : ∃ Q, Q = d.tdiv 7 := ⟨_, rfl⟩
  rw [e1, ← hQ, zl_7, zI_mul, zI_sub]
  rw [← hQ] at q
  unfold fX10_sizeOf
  rw [zI_toL (by omega) (by omega), zI_toL (by omega) (by omega), zll_0]
  constructor
  · by_cases h : 0 ≤ Q
    · rw [if_pos (k_ge (by omega))]; congr 2; omega
    · rw [if_neg (k_nge (by omega)), zL_neg]; congr 2; omega
  · by_cases h : 0 ≤ d - Q * 7
    · rw [if_pos (k_ge (by omega))]; congr 2; omega
    · rw [if_neg (k_nge (by omega)), zL_neg]; congr 2; omega
theorem l_least (N : Nat) (hN : 200000 ≤ N) {ks : Int32} {f F : Nat → Int32} {tl : Int32} {nn j R : Nat → Int64} {law x z way most : Int} (hl : 0 ≤ law ∧ law ≤ 3) (hx : 0 ≤ x ∧ x ≤ 3652058) (hz : 0 ≤ z ∧ z ≤ 3652058) (hway : way = 1 ∨ way = -1) (hm : 0 ≤ most ∧ most ≤ 120000) : ∀ (n : Nat) (k sz mo da : Int) (ad i : Nat → Int32), RelR tl nn i R → AdW ad → 1 ≤ k → k ≤ most + 1 → (0 ≤ sz ∧ sz ≤ 1000000) → most + 1 - k < n →
    ∃ (r : Int32) (tl' : Int32) (nn' : Nat → Int64) (ad' i' : Nat → Int32) (j' R' : Nat → Int64), fX9_least_l104 N ks f (n + 1) (zI law) (zI x) (zI z) (zI way) (zI most) (zI sz) (zI mo) (zI da) (zI k) tl nn ad = some (r, tl', nn', ad') ∧ fX10_least_l102 N F n (zI law) (zI x) (zI z) (zI way) (zI most) (zL sz) (zI mo) (zI da) (zI k) i j R = some (r, i', j', R') ∧ RelR tl' nn' i' R' ∧ AdW ad' ∧ i' 4 = i 4 ∧ i' 6 = i 6 := by
  intro n
  induction n with
  | zero => intro k sz mo da ad i hR had h1 h2 hs hn; omega
  | succ n ih =>
    intro k sz mo da ad i hR had h1 h2 hs hn
    rw [fX9_least_l104_s, fX10_least_l102_s]
    by_cases hd : most < k
    · rw [if_pos (i_lt rfl (by omega)), if_pos (i_lt rfl (by omega)), e_tell2, bd2_s, e_tellA, bd2_s, e_tellB N (by omega) (by omega), bd2_s, zL_toI]
      exact ⟨_, _, _, _, _, _, _, rfl, rfl, RelR.mk2 upd_s _ _, had, by simp (disch := omega) only [upd_n], by simp (disch := omega) only [upd_n]⟩
    · have c1 : zI k + (1 : Int32) = zI (k + 1) := by rw [zl_1, zI_add]
      have hb : sp_b1 (way * k) := by rcases hway with rfl | rfl <;> omega
      have bw : -1 ≤ way ∧ way ≤ 1 := by rcases hway with rfl | rfl <;> omega
      obtain ⟨a1, r1, w1, A1, g1⟩ := e_leadsM N (m := way * k) (law := law) (t := 0) had hb hl hx (by omega)
      rw [← zl_0] at w1
      obtain ⟨i1, r2, w2, n1, i14, g2⟩ := e_addsMonths N (by omega) (i := upd (upd i 13 (zI x)) 14 (0 : Int32)) (j := j) (t := 0) (law := law) hb hl (by rw [upd_n (by omega), upd_s]) hx (by rw [upd_s, zl_0])
      have n1 : ∀ k, k < 10 ∨ 15 < k → i1 k = i k := fun k hk => by rw [n1 k hk, upd_n (by omega), upd_n (by omega)]
      have hR1 : RelR tl nn i1 R := hR.cong (n1 8 (by omega))
      rw [if_neg (i_nlt (a := most) (b := k) rfl (by omega)), if_neg (i_nlt (a := most) (b := k) rfl (by omega)), zI_mul, e_takesN0, bd1_s, w1, bd2_s, e_stands, bd1_s, zI_toL (a := way) (by omega) (by omega), zI_toL (a := k) (by omega) (by omega), zL_mul, w2, bd2_s]
      have go : ∀ (sz mo da : Int), (0 ≤ sz ∧ sz ≤ 1000000) → ∃ (r : Int32) (tl' : Int32) (nn' : Nat → Int64) (ad' i' : Nat → Int32) (j' R' : Nat → Int64), fX9_least_l104 N ks f (n + 1) (zI law) (zI x) (zI z) (zI way) (zI most) (zI sz) (zI mo) (zI da) (zI (k + 1)) tl nn a1 = some (r, tl', nn', ad') ∧ fX10_least_l102 N F n (zI law) (zI x) (zI z) (zI way) (zI most) (zL sz) (zI mo) (zI da) (zI (k + 1)) i1 j R = some (r, i', j', R') ∧ RelR tl' nn' i' R' ∧ AdW ad' ∧ i' 4 = i 4 ∧ i' 6 = i 6 := by
        intro sz mo da hs
        obtain ⟨r, tl', nn', ad', i', j', R', v1, v2, v3, v4, v5, v6⟩ := ih (k + 1) sz mo da a1 i1 hR1 A1 (by omega) (by omega) hs (by omega)
        exact ⟨r, tl', nn', ad', i', j', R', v1, v2, v3, v4, by rw [v5, n1 4 (by omega)], by rw [v6, n1 6 (by omega)]⟩
      rcases g1 with ⟨y, sh, e1, rfl, a8, a9, b1⟩ | ⟨e1, rfl⟩
      · rcases g2 with ⟨y', sh', e2, rfl, i13, i15⟩ | ⟨e2, -⟩
        · rw [e1] at e2
          injection e2 with e2
          injection e2 with e3 e4
          subst e3
          obtain ⟨s1, s2⟩ := e_szq N (d := z - y) (by omega)
          have bp := ps_b (n := k) (d := z - y) (by omega) (by omega)
          have e12 : (zI k / (12 : Int32) + (zI k - zI k / (12 : Int32) * (12 : Int32))).toInt64 = zL (k / 12 + k % 12) := by
            rw [zl_12, zI_div (by omega) (by omega) (by omega) (by omega), zI_mul, zI_sub, mod_fold, zI_add, zI_toL (by omega) (by omega)]
          rw [if_neg z10, if_neg z10, a8, i13, zI_sub, e_ps N (by omega) (by omega), nm_s (x := zI (z - y)), s1, s2, e12]
          simp only [bd1_t, zL_add]
          have cm1 : ¬ (lg_cmp (zL sz) (-1 : Int64) = (0 : Int32)) := by rw [zll_m1]; exact k_neq (by omega)
          show ∃ r tl' nn' ad' i' j' R', _ = _ ∧ (nm (zL (sp_ps k (z - y))) _) = _ ∧ _
          rw [nm_s (x := zL (sp_ps k (z - y))), if_neg cm1]
          by_cases hc : sz ≤ sp_ps k (z - y)
          · rw [if_pos (i_le rfl (by omega)), if_neg (k_nlt (by omega)), nm_s, nm_s, c1]
            exact go sz mo da hs
          · rw [if_neg (i_nle rfl (by omega)), if_pos (k_lt (by omega))]
            simp only [nm_t, c1]
            exact go _ _ _ bp
        · rw [e1] at e2; exact absurd e2 (by simp)
      · rcases g2 with ⟨y', sh', e2, -⟩ | ⟨e2, rfl⟩
        · rw [e1] at e2; exact absurd e2 (by simp)
        · rw [if_pos z00, if_pos z00, nm_s, nm_s, c1]
          exact go sz mo da hs
theorem p_least (N : Nat) (hN : 200000 ≤ N) (p1 : Int32) (p2 : Int32) (p3 : Int32) {ks : Int32} {f : Nat → Int32} {tl : Int32} {nn : Nat → Int64} {ad : Nat → Int32} {i : Nat → Int32} {j : Nat → Int64} {F : Nat → Int32} {R : Nat → Int64} {g : Nat → Int32} {G : Nat → Int32} {dd ss : Nat → Int} (hM : RelM dd ss f g F G) (hR : RelR tl nn i R) (had : AdW ad) : 
    ∃ (r : Int32) (tl' : Int32) (nn' : Nat → Int64) (ad' : Nat → Int32) (i' : Nat → Int32) (j' : Nat → Int64) (R' : Nat → Int64), fX9_least N p1 p2 p3 ks f tl nn ad = some (r, tl', nn', ad') ∧ fX10_least N p1 p2 p3 i j F R = some (r, i', j', R') ∧ RelR tl' nn' i' R' ∧ AdW ad' ∧ i' 4 = i 4 ∧ i' 6 = i 6 := by
  obtain ⟨z1, l1, v1, rfl⟩ := zI_of p1
  obtain ⟨z2, l2, v2, rfl⟩ := zI_of p2
  obtain ⟨z3, l3, v3, rfl⟩ := zI_of p3
  by_cases q0 : 0 ≤ z1 ∧ z1 ≤ 7
  case neg =>
    refine ⟨(-1 : Int32), tl, nn, ad, upd i 9 (zI 0), j, R, ?_, ?_, hR.f9, had, upd_n (by omega), upd_n (by omega)⟩
    · unfold fX9_least
      rw [c_slot0 N l1 v1 q0, bd1_s, if_pos z00]
    · unfold fX10_least
      rw [m_slot0 N l1 v1 q0, bd1_s, if_pos z00]
      rfl
  by_cases q1 : 0 ≤ z2 ∧ z2 ≤ 7
  case neg =>
    refine ⟨(-1 : Int32), tl, nn, ad, upd i 9 (zI 0), j, R, ?_, ?_, hR.f9, had, upd_n (by omega), upd_n (by omega)⟩
    · unfold fX9_least
      rw [c_slot1 N q0, bd1_s, if_neg z10]
      rw [c_slot0 N l2 v2 q1, bd1_s, if_pos z00]
    · unfold fX10_least
      rw [m_slot1 N q0, bd1_s, if_neg z10]
      rw [m_slot0 N l2 v2 q1, bd1_s, if_pos z00]
      rfl
  by_cases q2 : 0 ≤ z3 ∧ z3 ≤ 3
  case neg =>
    refine ⟨(-1 : Int32), tl, nn, ad, upd i 9 (zI 0), j, R, ?_, ?_, hR.f9, had, upd_n (by omega), upd_n (by omega)⟩
    · unfold fX9_least
      rw [c_slot1 N q0, bd1_s, if_neg z10]
      rw [c_slot1 N q1, bd1_s, if_neg z10]
      rw [c_law0 N l3 v3 q2, bd1_s, if_pos z00]
    · unfold fX10_least
      rw [m_slot1 N q0, bd1_s, if_neg z10]
      rw [m_slot1 N q1, bd1_s, if_neg z10]
      rw [m_law0 N l3 v3 q2, bd1_s, if_pos z00]
      rfl
  unfold fX9_least fX10_least
  rw [c_slot1 N q0, bd1_s, if_neg z10]
  rw [c_slot1 N q1, bd1_s, if_neg z10]
  rw [c_law1 N q2, bd1_s, if_neg z10]
  rw [m_slot1 N q0, bd1_s, if_neg z10]
  rw [m_slot1 N q1, bd1_s, if_neg z10]
  rw [m_law1 N q2, bd1_s, if_neg z10]
  obtain ⟨k1, hk1, rfl⟩ := slot_of q0
  obtain ⟨k2, hk2, rfl⟩ := slot_of q1
  obtain ⟨f1, f2, f3, f4, f5, f6⟩ := hM k1 hk1
  obtain ⟨p1, p2, p3, p4, p5, p6⟩ := hM k2 hk2
  obtain ⟨X, hX⟩ : ∃ X, X = dd k1 := ⟨_, rfl⟩
  obtain ⟨Z, hZ⟩ : ∃ Z, Z = dd k2 := ⟨_, rfl⟩
  rw [← hX] at f1 f3 f5
  rw [← hZ] at p1 p3 p5
  have bG : 0 ≤ Z * 86400 ∧ Z * 86400 ≤ 315537897599 := by omega
  rw [e_dayAt N f hk1, bd1_s, e_dayAt N f hk2, bd1_s, f1, p1, gi_z (by omega) (by omega) (by omega), zI_cl (by omega) (by omega), tn1, f3, nm_s, gi_z (by omega) (by omega) (by omega), zI_cl (by omega) (by omega), tn1, p3, nm_s, zI_toL (by omega) (by omega), zll_86400, zL_mul]
  have h0 : (0 : Int) ≤ 0 ∧ (0 : Int) ≤ 86399 := by omega
  obtain ⟨i1, j1, y, sh, d1, d2, d3, d4, d5, d6⟩ := e_d26 N hN (law := z3) (t := 0) (st := 1) (upd i 9 (0 : Int32)) j f5 h0 bG q2 (by omega)
  have ed : fX10_differs N (zI X) (0 : Int32) (zL (Z * 86400)) (zI z3) (7 : Int32) (upd i 9 (0 : Int32)) j = some (i1, j1) := by
    unfold fX10_differs
    rw [if_pos (by decide), zl_0]
    rw [zl_0] at d1
    exact d1
  have d2 : ∀ k, k < 10 ∨ 15 < k → k ≠ 9 → i1 k = i k := fun k hk h9 => by rw [d2 k hk, upd_n h9]
  obtain ⟨ad1, eM, AM⟩ := e_most N hN (ks := ks) (law := z3) (t := 0) (wy := 0) (st := 1) had f5 h0 bG q2 (Or.inl ⟨rfl, rfl⟩)
  rw [← zl_0] at eM
  have bm := mm_b (st := 1) (law := z3) (t := 0) f5 bG
  have em : sp_m0 1 z3 X 0 (Z * 86400) = sp_mm 1 z3 X 0 (Z * 86400) := if_neg (by omega)
  rw [em] at d3
  obtain ⟨M, hM0⟩ : ∃ M, M = sp_mm 1 z3 X 0 (Z * 86400) := ⟨_, rfl⟩
  rw [← hM0] at d3 eM bm
  rw [ed, bd2_s]
  have iZ : fX9_instantOf N (zI Z) (0 : Int32) = some (zL (Z * 86400)) := by
    have := e_instantOf N (x := Z) (t := 0) (by omega) (by omega)
    rw [Int.add_zero, ← zl_0] at this
    exact this
  have key : ∀ way : Int, way = 1 ∨ way = -1 → ∃ (r : Int32) (tl' : Int32) (nn' : Nat → Int64) (ad' i' : Nat → Int32) (j' R' : Nat → Int64), fX9_least_j55 N ks f (zI z3) (zI X) (zI Z) (zI way) tl nn ad = some (r, tl', nn', ad') ∧ fX10_least_j73 N F (zI z3) (zI X) (zI Z) (zI way) i1 j1 R = some (r, i', j', R') ∧ RelR tl' nn' i' R' ∧ AdW ad' ∧ i' 4 = i 4 ∧ i' 6 = i 6 := by
    intro way hway
    unfold fX9_least_j55 fX10_least_j73
    have eA : (if (0 : Int32) ≤ zI M then zI M else 0 - zI M) = zI (M.natAbs : Int) := by
      by_cases h : 0 ≤ M
      · rw [if_pos (i_ge' (b := 0) (by decide) (by omega))]; congr 1; omega
      · rw [if_neg (i_nge' (b := 0) (by decide) (by omega)), zl_0, zI_sub]; congr 1; omega
    have eS : fX10_sizeOf N (zL M) = some (zL (M.natAbs : Int)) := by
      unfold fX10_sizeOf
      rw [zll_0]
      by_cases h : 0 ≤ M
      · rw [if_pos (k_ge (by omega))]; congr 2; omega
      · rw [if_neg (k_nge (by omega)), zL_neg]; congr 2; omega
    obtain ⟨A, hA⟩ : ∃ A : Int, A = (M.natAbs : Int) := ⟨_, rfl⟩
    have bA : 0 ≤ A ∧ A ≤ 119988 := by omega
    rw [← hA] at eA eS
    have c12 : zI A + (12 : Int32) = zI (A + 12) := by rw [zl_12, zI_add]
    rw [iZ, bd1_s, eM, bd2_s, eA, nm_s, c12, nm_s, zI_sub, zl_0, e_ps N (by omega) (by omega), bd1_s, nm_s, d3, eS, bd1_s, zL_toI, c12, nm_s]
    -- the reference's first round
    have hr0 : ∃ i2, fX10_least_l102 N F N (zI z3) (zI X) (zI Z) (zI way) (zI (A + 12)) (-1 : Int64) (zI 0) (zI 0) (zI 0) i1 j1 R = fX10_least_l102 N F (N - 1) (zI z3) (zI X) (zI Z) (zI way) (zI (A + 12)) (zL (sp_ps 0 (Z - X))) (zI 0) (zI (Z - X)) (zI 1) i2 j1 R ∧ ∀ k, k < 10 ∨ 15 < k → i2 k = i1 k := by
      obtain ⟨n, rfl⟩ : ∃ n, N = n + 1 := ⟨N - 1, by omega⟩
      rw [fX10_least_l102_s (n + 1)]
      obtain ⟨i2, r2, w2, n2, i14, g2⟩ := e_addsMonths (n + 1) (by omega) (i := upd (upd i1 13 (zI X)) 14 (0 : Int32)) (j := j1) (m := 0) (t := 0) (law := z3) (by omega) q2 (by rw [upd_n (by omega), upd_s]) f5 (by rw [upd_s, zl_0])
      have n2 : ∀ k, k < 10 ∨ 15 < k → i2 k = i1 k := fun k hk => by rw [n2 k hk, upd_n (by omega), upd_n (by omega)]
      rcases g2 with ⟨y', sh', e2, rfl, i13, i15⟩ | ⟨e2, -⟩
      case inr => rw [addM_0] at e2; exact absurd e2 (by simp)
      rw [addM_0] at e2
      injection e2 with e2
      injection e2 with e3 e4
      subst e3
      have bw : -1 ≤ way ∧ way ≤ 1 := by rcases hway with rfl | rfl <;> omega
      obtain ⟨s1, s2⟩ := e_szq (n + 1) (d := Z - X) (by omega)
      have e12 : (zI 0 / (12 : Int32) + (zI 0 - zI 0 / (12 : Int32) * (12 : Int32))).toInt64 = zL (0 / 12 + 0 % 12) := by decide
      have c01 : zI 0 + (1 : Int32) = zI 1 := by decide
      refine ⟨i2, ?_, n2⟩
      rw [if_neg (i_nlt (a := A + 12) (b := 0) rfl (by omega)), e_stands, bd1_s, zI_toL (a := way) (by omega) (by omega), zI_toL (a := 0) (by omega) (by omega), zL_mul, Int.mul_zero, w2, bd2_s, if_neg z10, i13, zI_sub, nm_s, s1, bd1_s, s2, bd1_s, e12, zL_add, zL_add]
      show nm (zL (sp_ps 0 (Z - X))) _ = _
      rw [nm_s, if_pos (by rw [zll_m1]; exact k_eq rfl), zI_mul, Int.mul_zero, nm_s, c01, nm_s]
      rfl
    obtain ⟨i2, r0, n2⟩ := hr0
    rw [r0]
    obtain ⟨r, tl', nn', ad', i', j', R', v1, v2, v3, v4, v5, v6⟩ := l_least N hN (ks := ks) (f := f) (F := F) (tl := tl) (nn := nn) (j := j1) (R := R) q2 f5 p5 hway (most := A + 12) (by omega) (N - 1) 1 (sp_ps 0 (Z - X)) 0 (Z - X) ad1 i2 (hR.cong (by rw [n2 8 (by omega), d2 8 (by omega) (by omega)])) AM (by omega) (by omega) (ps_b (by omega) (by omega)) (by omega)
    rw [show N - 1 + 1 = N by omega, ← zl_0, ← zl_1] at v1
    rw [← zl_0, ← zl_1] at v2
    rw [← zl_0, ← zl_1]
    exact ⟨r, tl', nn', ad', i', j', R', v1, v2, v3, v4, by rw [v5, n2 4 (by omega), d2 4 (by omega) (by omega)], by rw [v6, n2 6 (by omega), d2 6 (by omega) (by omega)]⟩
  by_cases h : X ≤ Z
  · rw [if_pos (i_le rfl (by omega)), if_pos (i_le rfl (by omega)), zl_1]
    exact key 1 (Or.inl rfl)
  · rw [if_neg (i_nle rfl (by omega)), if_neg (i_nle rfl (by omega)), zl_m1]
    exact key (-1) (Or.inr rfl)
