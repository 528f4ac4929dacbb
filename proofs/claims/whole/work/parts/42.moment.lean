/-! moment -/
def mo_out (N : Nat) (v1 : Int32) (j : Nat → Int64) (T F G i0 : Nat → Int32) (C : Option (Int32 × (Nat → Int32))) (M : Option (Int32 × (Nat → Int32) × (Nat → Int32) × (Nat → Int32))) : Prop :=
  (∃ q mr' i', (0 ≤ q ∧ q ≤ 100) ∧ C = some (zI q, mr') ∧ M = some (zI (-21 - q), i', F, G) ∧ FR i0 i') ∨
  (∃ y m d s mr' i', (1 ≤ y ∧ y ≤ 9999) ∧ (1 ≤ m ∧ m ≤ 12) ∧ (1 ≤ d ∧ d ≤ sp_mlen y m) ∧ (0 ≤ s ∧ s ≤ 86399) ∧ C = some ((-1 : Int32), mr') ∧ mr' 0 = zI (sp_dn y m d) ∧ mr' 1 = zI s ∧ M = fX10_moment_j204 N j T v1 (zI y) (zI m) (zI d) (zI s) i' F G ∧ i' 18 = (-1 : Int32) ∧ FR i0 i')
theorem x204 (N : Nat) (v1 y m d s : Int32) {j : Nat → Int64} {T F G i : Nat → Int32} {w : Int} (h : i 18 = zI w) (hw : 0 ≤ w ∧ w ≤ 100) : fX10_moment_j204 N j T v1 y m d s i F G = some (zI (-21 - w), i, F, G) := by
  unfold fX10_moment_j204
  rw [h, if_neg (i_neq (b := -1) (by decide) (by omega)), zl_m21, zI_sub]
theorem x177 (N : Nat) (v1 y m d s : Int32) {j : Nat → Int64} {T F G i : Nat → Int32} {w : Int} (h : i 18 = zI w) (hw : 0 ≤ w ∧ w ≤ 100) : fX10_moment_j177 N j T v1 y m d s i F G = some (zI (-21 - w), i, F, G) := by
  unfold fX10_moment_j177
  rw [if_neg (by rw [h]; exact i_neq (b := -1) (by decide) (by omega)), x204 N v1 y m d s h hw]
theorem x90 (N : Nat) (v1 y m a b : Int32) {j : Nat → Int64} {T F G i : Nat → Int32} {w : Int} (h : i 18 = zI w) (hw : 0 ≤ w ∧ w ≤ 100) : fX10_moment_j90 N j T v1 y m a b i F G = some (zI (-21 - w), i, F, G) := by
  unfold fX10_moment_j90
  obtain ⟨v, hv⟩ := r_twod N j T h hw b a
  rw [hv, bd2_s, if_neg (by rw [h]; exact i_neq (b := -1) (by decide) (by omega)), x177 N v1 y m v (0 : Int32) h hw]
theorem x13m (N : Nat) (v1 y : Int32) {j : Nat → Int64} {T F G i : Nat → Int32} {w : Int} (h : i 18 = zI w) (hw : 0 ≤ w ∧ w ≤ 100) (a b : Int32) : (bd2 (fX10_two N a b i j T) fun r42 i_this_43 => (bd1 (fX10_expect N (45 : Int32) i_this_43 j T) fun i_this_45 => (if (i_this_45 18) = (-1 : Int32) then (bd1 (fX10_monthDays N y r42) fun r48 => (fX10_moment_j90 N j T v1 y r42 r48 (1 : Int32) i_this_45 F G)) else (fX10_moment_j90 N j T v1 y r42 (28 : Int32) (1 : Int32) i_this_45 F G)))) = some (zI (-21 - w), i, F, G) := by
  obtain ⟨v, hv⟩ := r_twod N j T h hw a b
  rw [hv, bd2_s, r_expd N j T h hw, bd1_s, if_neg (by rw [h]; exact i_neq (b := -1) (by decide) (by omega)), x90 N v1 y v _ _ h hw]
theorem x13 (N : Nat) (v1 : Int32) {j : Nat → Int64} {T F G i : Nat → Int32} {w : Int} (h : i 18 = zI w) (hw : 0 ≤ w ∧ w ≤ 100) : ∀ (r k : Nat) (y : Int32) (m' : Nat), k + r = 4 → fX10_moment_l13 N j T (m' + 1 + r) v1 y (zI (k : Int)) i F G = some (zI (-21 - w), i, F, G) := by
  intro r
  induction r with
  | zero =>
    intro k y m' hk
    rw [show m' + 1 + 0 = m' + 1 by omega, fX10_moment_l13_s, if_pos (i_ge' (b := 4) (by decide) (by omega)), r_expd N j T h hw, bd1_s]
    exact x13m N v1 y h hw _ _
  | succ r ih =>
    intro k y m' hk
    have c1 : zI (k : Int) + (1 : Int32) = zI ((k + 1 : Nat) : Int) := by rw [zl_1, zI_add]; rfl
    rw [show m' + 1 + (r + 1) = (m' + 1 + r) + 1 by omega, fX10_moment_l13_s, if_neg (i_nge' (b := 4) (by decide) (by omega)), c1]
    simp only [r_dead N j T h hw, bd2_s, nm_s, ih (k + 1) _ m' (by omega)]
    split
    · split <;> rfl
    · rfl
theorem st_177 (N : Nat) (v1 : Int32) {n : Nat} {c : Nat → Int} {ts T F G i i0 mr : Nat → Int32} (hT : TX n c ts T) {j : Nat → Int64} (m' : Nat) (hpn : 19 ≤ n) (h16 : i 16 = zI (n : Int)) (h17 : i 17 = zI ((19 : Nat) : Int)) (h18 : i 18 = (-1 : Int32)) (hF : FR i0 i) {y m d s : Int} (hy : 1 ≤ y ∧ y ≤ 9999) (hm : 1 ≤ m ∧ m ≤ 12) (hd : 1 ≤ d ∧ d ≤ sp_mlen y m) (hs : 0 ≤ s ∧ s ≤ 86399) (m0 : mr 0 = zI (sp_dn y m d)) (m1 : mr 1 = zI s) : mo_out N v1 j T F G i0 (fX2_wrongAt_l12 N (zI (n : Int)) ts (m' + 1) (zI ((19 : Nat) : Int)) mr) (fX10_moment_j177 N j T v1 (zI y) (zI m) (zI d) (zI s) i F G) := by
  have hn := hT.1
  rw [fX2_wrongAt_l12_s, if_pos (i_ge' (b := 19) (by decide) (by omega))]
  unfold fX6_length fX10_moment_j177
  rw [bd1_s, if_pos h18, h16, h17]
  by_cases g : n = 19
  · rw [if_pos (i_le (b := 19) (by decide) (by omega)), if_pos (i_le rfl (by omega))]
    exact Or.inr ⟨y, m, d, s, mr, i, hy, hm, hd, hs, rfl, m0, m1, rfl, h18, hF⟩
  · rw [if_neg (i_nle (b := 19) (by decide) (by omega)), if_neg (i_nle rfl (by omega)), r_fault N j _ h18, bd1_s, x204 N v1 _ _ _ _ (w := ((19 : Nat) : Int)) upd_s (by omega)]
    exact Or.inl ⟨19, mr, upd i 18 (zI 19), by omega, rfl, rfl, hF.tr (FR.u18 _)⟩
theorem st_time (N : Nat) (v1 : Int32) {n : Nat} {c : Nat → Int} {ts T F G i i0 mr : Nat → Int32} (hT : TX n c ts T) {j : Nat → Int64} (m' : Nat) (hpn : 11 ≤ n) (h16 : i 16 = zI (n : Int)) (h17 : i 17 = zI ((11 : Nat) : Int)) (h18 : i 18 = (-1 : Int32)) (hF : FR i0 i) {y m d : Int} (hy : 1 ≤ y ∧ y ≤ 9999) (hm : 1 ≤ m ∧ m ≤ 12) (hd : 1 ≤ d ∧ d ≤ sp_mlen y m) (m0 : mr 0 = zI (sp_dn y m d)) : mo_out N v1 j T F G i0 (fX2_wrongAt_l12 N (zI (n : Int)) ts (m' + 1 + 8) (zI ((11 : Nat) : Int)) mr) (bd2 (fX10_two N (0 : Int32) (23 : Int32) i j T) fun r23 i_this_24 => (nm ((3600 : Int32) * r23) fun z26 => (bd1 (fX10_expect N (58 : Int32) i_this_24 j T) fun i_this_27 => (bd2 (fX10_two N (0 : Int32) (59 : Int32) i_this_27 j T) fun r29 i_this_30 => (nm (z26 + ((60 : Int32) * r29)) fun z32 => (bd1 (fX10_expect N (58 : Int32) i_this_30 j T) fun i_this_33 => (bd2 (fX10_two N (0 : Int32) (59 : Int32) i_this_33 j T) fun r35 i_this_36 => (nm (z32 + r35) fun z38 => (fX10_moment_j177 N j T v1 (zI y) (zI m) (zI d) z38 i_this_36 F G))))))))) := by
  have hn := hT.1
  have B1 := both_two N hT (p := 11) (by omega) hpn (lo := 0) (hi := 23) (by omega) (by omega) (i := i) (mr := mr) j h16 h17 h18 (fun t => mo_14 N (by omega) _) (fun t => mo_14 N (by omega) _)
  rw [show zI 0 = (0 : Int32) by decide, show zI 23 = (23 : Int32) by decide] at B1
  rcases B1 with ⟨v, i1, hv, n1, E1, a17, a18, aF, C1⟩ | ⟨q, r, i1, hq, E1, a18, aF, C1⟩
  case inr =>
    obtain ⟨mr', C⟩ := C1 (m' + 1 + 6)
    obtain ⟨r2, E2⟩ := r_twod N j T a18 hq (0 : Int32) (59 : Int32)
    rw [C, E1, bd2_s, nm_s, r_expd N j T a18 hq, bd1_s, E2, bd2_s, nm_s, r_expd N j T a18 hq, bd1_s, E2, bd2_s, nm_s, x177 N v1 _ _ _ _ a18 hq]
    exact Or.inl ⟨q, mr', i1, hq, rfl, rfl, hF.tr aF⟩
  have a16 : i1 16 = zI (n : Int) := aF.2.2.2.trans h16
  rw [C1 (m' + 1 + 6) _ ((k_at N _).2.2.2.1), E1, bd2_s, nm_s, upd_s]
  obtain ⟨mb, hmb⟩ : ∃ mb, mb = upd (upd mr 4 (zI v)) 1 ((3600 : Int32) * zI v) := ⟨_, rfl⟩
  rw [← hmb]
  have b0 : mb 0 = zI (sp_dn y m d) := by rw [hmb, upd_n (by omega), upd_n (by omega), m0]
  have b1 : mb 1 = (3600 : Int32) * zI v := by rw [hmb, upd_s]
  rcases both_exp N hT (p := 13) (ch := 58) (by omega) n1 j mb a16 a17 a18 (C := (58 : Int32)) (by decide) with ⟨i2, n2, E2, c17, c18, cF, C2⟩ | ⟨q, i2, hq, E2, c18, cF, C2⟩
  case inr =>
    obtain ⟨mr', C⟩ := C2 (m' + 1 + 5)
    obtain ⟨r2, E3⟩ := r_twod N j T c18 hq (0 : Int32) (59 : Int32)
    rw [C, E2, bd1_s, E3, bd2_s, nm_s, r_expd N j T c18 hq, bd1_s, E3, bd2_s, nm_s, x177 N v1 _ _ _ _ c18 hq]
    exact Or.inl ⟨q, mr', i2, hq, rfl, rfl, hF.tr (aF.tr cF)⟩
  have c16 : i2 16 = zI (n : Int) := cF.2.2.2.trans a16
  rw [C2 (m' + 1 + 5), E2, bd1_s]
  have B3 := both_two N hT (p := 14) (by omega) n2 (lo := 0) (hi := 59) (by omega) (by omega) (i := i2) (mr := mb) j c16 c17 c18 (fun t => mo_19 N (by omega) _) (fun t => mo_19 N (by omega) _)
  rw [show zI 0 = (0 : Int32) by decide, show zI 59 = (59 : Int32) by decide] at B3
  rcases B3 with ⟨u, i3, hu, n3, E3, d17, d18, dF, C3⟩ | ⟨q, r, i3, hq, E3, d18, dF, C3⟩
  case inr =>
    obtain ⟨mr', C⟩ := C3 (m' + 1 + 3)
    obtain ⟨r2, E4⟩ := r_twod N j T d18 hq (0 : Int32) (59 : Int32)
    rw [C, E3, bd2_s, nm_s, r_expd N j T d18 hq, bd1_s, E4, bd2_s, nm_s, x177 N v1 _ _ _ _ d18 hq]
    exact Or.inl ⟨q, mr', i3, hq, rfl, rfl, hF.tr (aF.tr (cF.tr dF))⟩
  have d16 : i3 16 = zI (n : Int) := dF.2.2.2.trans c16
  rw [C3 (m' + 1 + 3) _ ((k_at N _).2.2.2.2.1), E3, bd2_s, nm_s, upd_s, upd_n (show 1 ≠ 4 by omega), b1]
  obtain ⟨mc, hmc⟩ : ∃ mc, mc = upd (upd mb 4 (zI u)) 1 ((3600 : Int32) * zI v + (60 : Int32) * zI u) := ⟨_, rfl⟩
  rw [← hmc]
  have e0 : mc 0 = zI (sp_dn y m d) := by rw [hmc, upd_n (by omega), upd_n (by omega), b0]
  have e1 : mc 1 = (3600 : Int32) * zI v + (60 : Int32) * zI u := by rw [hmc, upd_s]
  rcases both_exp N hT (p := 16) (ch := 58) (by omega) n3 j mc d16 d17 d18 (C := (58 : Int32)) (by decide) with ⟨i4, n4, E4, f17, f18, fF, C4⟩ | ⟨q, i4, hq, E4, f18, fF, C4⟩
  case inr =>
    obtain ⟨mr', C⟩ := C4 (m' + 1 + 2)
    obtain ⟨r2, E5⟩ := r_twod N j T f18 hq (0 : Int32) (59 : Int32)
    rw [C, E4, bd1_s, E5, bd2_s, nm_s, x177 N v1 _ _ _ _ f18 hq]
    exact Or.inl ⟨q, mr', i4, hq, rfl, rfl, hF.tr (aF.tr (cF.tr (dF.tr fF)))⟩
  have f16 : i4 16 = zI (n : Int) := fF.2.2.2.trans d16
  rw [C4 (m' + 1 + 2), E4, bd1_s]
  have B5 := both_two N hT (p := 17) (by omega) n4 (lo := 0) (hi := 59) (by omega) (by omega) (i := i4) (mr := mc) j f16 f17 f18 (fun t => mo_19 N (by omega) _) (fun t => mo_19 N (by omega) _)
  rw [show zI 0 = (0 : Int32) by decide, show zI 59 = (59 : Int32) by decide] at B5
  rcases B5 with ⟨w, i5, hw, n5, E5, g17, g18, gF, C5⟩ | ⟨q, r, i5, hq, E5, g18, gF, C5⟩
  case inr =>
    obtain ⟨mr', C⟩ := C5 (m' + 1)
    rw [C, E5, bd2_s, nm_s, x177 N v1 _ _ _ _ g18 hq]
    exact Or.inl ⟨q, mr', i5, hq, rfl, rfl, hF.tr (aF.tr (cF.tr (dF.tr (fF.tr gF))))⟩
  have g16 : i5 16 = zI (n : Int) := gF.2.2.2.trans f16
  have es : (3600 : Int32) * zI v + (60 : Int32) * zI u + zI w = zI (3600 * v + 60 * u + w) := by rw [zl_3600, zI_mul, zl_60, zI_mul, zI_add, zI_add]
  rw [C5 (m' + 1) _ ((k_at N _).2.2.2.2.2), E5, bd2_s, nm_s, upd_s, upd_n (show 1 ≠ 4 by omega), e1, es]
  exact st_177 N v1 hT m' n5 g16 g17 g18 (hF.tr (aF.tr (cF.tr (dF.tr (fF.tr gF))))) hy hm hd (by omega) (by rw [upd_n (by omega), upd_n (by omega), e0]) upd_s
theorem st_90 (N : Nat) (v1 : Int32) {n : Nat} {c : Nat → Int} {ts T F G i i0 mr : Nat → Int32} (hT : TX n c ts T) {j : Nat → Int64} (m' : Nat) (hpn : 8 ≤ n) (h16 : i 16 = zI (n : Int)) (h17 : i 17 = zI ((8 : Nat) : Int)) (h18 : i 18 = (-1 : Int32)) (hF : FR i0 i) {y m : Int} (hy : 1 ≤ y ∧ y ≤ 9999) (hm : 1 ≤ m ∧ m ≤ 12) (m1 : mr 1 = zI 0) (m2 : mr 2 = zI y) (m3 : mr 3 = zI m) : mo_out N v1 j T F G i0 (fX2_wrongAt_l12 N (zI (n : Int)) ts (m' + 1 + 11) (zI ((8 : Nat) : Int)) mr) (fX10_moment_j90 N j T v1 (zI y) (zI m) (zI (sp_mlen y m)) (1 : Int32) i F G) := by
  have hn := hT.1
  have hl := mlen_b y m
  have B1 := both_two N hT (p := 8) (by omega) hpn (lo := 1) (hi := sp_mlen y m) (by omega) (by omega) (i := i) (mr := mr) j h16 h17 h18 (fun t => mo_11 N (by omega) hy hm (by rw [upd_n (by omega), m2]) (by rw [upd_n (by omega), m3])) (fun t => mo_11 N (by omega) hy hm (by rw [upd_n (by omega), m2]) (by rw [upd_n (by omega), m3]))
  rw [show zI 1 = (1 : Int32) by decide] at B1
  unfold fX10_moment_j90
  rcases B1 with ⟨d, i1, hd, n1, E1, a17, a18, aF, C1⟩ | ⟨q, r, i1, hq, E1, a18, aF, C1⟩
  case inr =>
    obtain ⟨mr', C⟩ := C1 (m' + 1 + 9)
    rw [C, E1, bd2_s, if_neg (by rw [a18]; exact i_neq (b := -1) (by decide) (by omega)), x177 N v1 _ _ _ _ a18 hq]
    exact Or.inl ⟨q, mr', i1, hq, rfl, rfl, hF.tr aF⟩
  have a16 : i1 16 = zI (n : Int) := aF.2.2.2.trans h16
  obtain ⟨mb, hmb⟩ : ∃ mb, mb = upd (upd mr 4 (zI d)) 0 (zI (sp_dn y m d)) := ⟨_, rfl⟩
  have K := (k_at N (upd mr 4 (zI d))).2.2.1
  rw [upd_n (show 2 ≠ 4 by omega), upd_n (show 3 ≠ 4 by omega), upd_s, m2, m3, e_dn N (by omega) (by omega) (by omega) (by omega) (by omega) (by omega), bd1_s, ← hmb] at K
  have b0 : mb 0 = zI (sp_dn y m d) := by rw [hmb, upd_s]
  have b1 : mb 1 = zI 0 := by rw [hmb, upd_n (by omega), upd_n (by omega), m1]
  rw [C1 (m' + 1 + 9) _ K, E1, bd2_s, if_pos a18, r_sees N hT n1 j a16 a17, bd1_s]
  have hb := see_b hT (8 + 2)
  by_cases gn : 10 < n
  · have gs : sp_see n c (8 + 2) = c 10 := if_pos gn
    rw [gs] at hb ⊢
    have FF := f_sep N (p := 10) (ch := 84) (by omega) (x := c 10) (by omega) mb
    by_cases g : c 10 = 84
    · rw [if_pos g] at FF
      have c1 : i1 17 + (1 : Int32) = zI ((11 : Nat) : Int) := by rw [a17]; decide
      rw [if_pos (i_eq (b := 84) (by decide) g), c1, cl_ok N hT (m' + 1 + 8) gn (by omega) FF (k_not N (by omega) (by omega) (by omega) (by omega) (by omega) (by omega) (by omega) _)]
      exact st_time N v1 hT m' (by omega) (by rw [upd_n (by omega), a16]) upd_s (by rw [upd_n (by omega), a18]) (hF.tr (aF.tr (FR.u17 _))) hy hm hd b0
    · rw [if_neg g] at FF
      rw [if_neg (i_neq (b := 84) (by decide) (by omega)), cl_bad N hT (m' + 1 + 8) gn (by omega) FF]
      unfold fX10_moment_j177
      rw [if_pos a18, a16, a17, if_neg (i_nle rfl (by omega)), r_fault N j _ a18, bd1_s, x204 N v1 _ _ _ _ (w := ((8 + 2 : Nat) : Int)) upd_s (by omega)]
      exact Or.inl ⟨10, mb, _, by omega, rfl, rfl, hF.tr (aF.tr (FR.u18 _))⟩
  · have gs : sp_see n c (8 + 2) = -1 := if_neg gn
    rw [gs, if_neg (i_neq (b := 84) (by decide) (by omega)), cl_end N mb (m' + 1 + 8) (p := 10) (by omega) (by omega), if_pos rfl]
    unfold fX10_moment_j177
    rw [if_pos a18, a16, a17, if_pos (i_le rfl (by omega))]
    exact Or.inr ⟨y, m, d, 0, mb, i1, hy, hm, hd, by omega, rfl, b0, b1, rfl, a18, hF.tr aF⟩
theorem st_year (N : Nat) (v1 : Int32) {n : Nat} {c : Nat → Int} {ts T F G i0 : Nat → Int32} (hT : TX n c ts T) {j : Nat → Int64} (m' m9 : Nat) : ∀ (r k : Nat) (Y : Int) (i mr : Nat → Int32), k + r = 4 → k ≤ n → i 16 = zI (n : Int) → i 17 = zI (k : Int) → i 18 = (-1 : Int32) → FR i0 i → mr 1 = zI 0 → (k = 0 ∧ Y = 0) ∨ (mr 4 = zI Y ∧ ((k = 1 ∧ 0 ≤ Y ∧ Y ≤ 9) ∨ (k = 2 ∧ 0 ≤ Y ∧ Y ≤ 99) ∨ (k = 3 ∧ 0 ≤ Y ∧ Y ≤ 999) ∨ (k = 4 ∧ 1 ≤ Y ∧ Y ≤ 9999 ∧ mr 2 = zI Y))) → mo_out N v1 j T F G i0 (fX2_wrongAt_l12 N (zI (n : Int)) ts (m' + 1 + 15 + r) (zI (k : Int)) mr) (fX10_moment_l13 N j T (m9 + 1 + r) v1 (zI Y) (zI (k : Int)) i F G) := by
  intro r
  have hn := hT.1
  induction r with
  | zero =>
    intro k Y i mr hk hkn h16 h17 h18 hF m1 hY
    have k4 : k = 4 := by omega
    subst k4
    obtain ⟨y1, y2, m2⟩ : 1 ≤ Y ∧ Y ≤ 9999 ∧ mr 2 = zI Y := by
      rcases hY with h | ⟨-, h | h | h | h⟩
      · omega
      · omega
      · omega
      · omega
      · exact h.2
    rw [show m9 + 1 + 0 = m9 + 1 by omega, fX10_moment_l13_s, if_pos (i_ge' (b := 4) (by decide) (by omega))]
    rcases both_exp N hT (p := 4) (ch := 45) (by omega) hkn j mr h16 h17 h18 (C := (45 : Int32)) (by decide) with ⟨i2, n2, E2, c17, c18, cF, C2⟩ | ⟨q, i2, hq, E2, c18, cF, C2⟩
    case inr =>
      obtain ⟨mr', C⟩ := C2 (m' + 1 + 14)
      rw [C, E2, bd1_s, x13m N v1 _ c18 hq]
      exact Or.inl ⟨q, mr', i2, hq, rfl, rfl, hF.tr cF⟩
    have c16 : i2 16 = zI (n : Int) := cF.2.2.2.trans h16
    rw [C2 (m' + 1 + 14), E2, bd1_s]
    have B3 := both_two N hT (p := 5) (by omega) n2 (lo := 1) (hi := 12) (by omega) (by omega) (i := i2) (mr := mr) j c16 c17 c18 (fun t => mo_8 N (by omega) _) (fun t => mo_8 N (by omega) _)
    rw [show zI 1 = (1 : Int32) by decide, show zI 12 = (12 : Int32) by decide] at B3
    rcases B3 with ⟨u, i3, hu, n3, E3, d17, d18, dF, C3⟩ | ⟨q, r, i3, hq, E3, d18, dF, C3⟩
    case inr =>
      obtain ⟨mr', C⟩ := C3 (m' + 1 + 12)
      rw [C, E3, bd2_s, r_expd N j T d18 hq, bd1_s, if_neg (by rw [d18]; exact i_neq (b := -1) (by decide) (by omega)), x90 N v1 _ _ _ _ d18 hq]
      exact Or.inl ⟨q, mr', i3, hq, rfl, rfl, hF.tr (cF.tr dF)⟩
    have d16 : i3 16 = zI (n : Int) := dF.2.2.2.trans c16
    rw [C3 (m' + 1 + 12) _ ((k_at N _).2.1), E3, bd2_s, upd_s]
    obtain ⟨mc, hmc⟩ : ∃ mc, mc = upd (upd mr 4 (zI u)) 3 (zI u) := ⟨_, rfl⟩
    rw [← hmc]
    have e1 : mc 1 = zI 0 := by rw [hmc, upd_n (by omega), upd_n (by omega), m1]
    have e2 : mc 2 = zI Y := by rw [hmc, upd_n (by omega), upd_n (by omega), m2]
    have e3 : mc 3 = zI u := by rw [hmc, upd_s]
    rcases both_exp N hT (p := 7) (ch := 45) (by omega) n3 j mc d16 d17 d18 (C := (45 : Int32)) (by decide) with ⟨i4, n4, E4, f17, f18, fF, C4⟩ | ⟨q, i4, hq, E4, f18, fF, C4⟩
    case inr =>
      obtain ⟨mr', C⟩ := C4 (m' + 1 + 11)
      rw [C, E4, bd1_s, if_neg (by rw [f18]; exact i_neq (b := -1) (by decide) (by omega)), x90 N v1 _ _ _ _ f18 hq]
      exact Or.inl ⟨q, mr', i4, hq, rfl, rfl, hF.tr (cF.tr (dF.tr fF))⟩
    have f16 : i4 16 = zI (n : Int) := fF.2.2.2.trans d16
    rw [C4 (m' + 1 + 11), E4, bd1_s, if_pos f18, e_mlen_m N (by omega) (by omega) (by omega) (by omega), bd1_s]
    exact st_90 N v1 hT m' n4 f16 f17 f18 (hF.tr (cF.tr (dF.tr fF))) ⟨y1, y2⟩ hu e1 e2 e3
  | succ r ih =>
    intro k Y i mr hk hkn h16 h17 h18 hF m1 hY
    have k3 : k ≤ 3 := by omega
    have hb := see_b hT k
    have c1 : zI (k : Int) + (1 : Int32) = zI ((k + 1 : Nat) : Int) := by rw [zl_1, zI_add]; rfl
    have yb : 0 ≤ Y ∧ Y ≤ 999 := by
      rcases hY with h | ⟨-, h | h | h | h⟩ <;> omega
    obtain ⟨lo, hlo, hlo2, EM⟩ : ∃ lo : Int, (lo = 0 ∨ lo = 1) ∧ (lo = 1 ↔ k = 3 ∧ Y = 0) ∧ fX10_moment_l13 N j T (m9 + 1 + (r + 1)) v1 (zI Y) (zI (k : Int)) i F G = bd2 (fX10_digit N (zI lo) (zI 9) i j T) fun r51 i_this_52 => fX10_moment_l13 N j T (m9 + 1 + r) v1 ((10 : Int32) * zI Y + r51) (zI ((k + 1 : Nat) : Int)) i_this_52 F G := by
      rw [show m9 + 1 + (r + 1) = (m9 + 1 + r) + 1 by omega, fX10_moment_l13_s, if_neg (i_nge' (b := 4) (by decide) (by omega)), c1]
      by_cases q : k = 3
      · rw [if_pos (i_eq (b := 3) (by decide) (by omega))]
        by_cases q2 : Y = 0
        · rw [if_pos (i_eq (b := 0) (by decide) q2)]
          exact ⟨1, Or.inr rfl, by omega, rfl⟩
        · rw [if_neg (i_neq (b := 0) (by decide) (by omega))]
          exact ⟨0, Or.inl rfl, by omega, rfl⟩
      · rw [if_neg (i_neq (b := 3) (by decide) (by omega))]
        exact ⟨0, Or.inl rfl, by omega, rfl⟩
    have D := r_digit N hT hkn j h16 h17 h18 (lo := lo) (hi := 9) (by omega) (by omega)
    rw [EM, D]
    have dead : mo_out N v1 j T F G i0 (fX2_wrongAt_l12 N (zI (n : Int)) ts (m' + 1 + 15 + (r + 1)) (zI (k : Int)) mr) (bd2 (some (zI lo, upd i 18 (zI (k : Int)))) fun r51 i_this_52 => fX10_moment_l13 N j T (m9 + 1 + r) v1 ((10 : Int32) * zI Y + r51) (zI ((k + 1 : Nat) : Int)) i_this_52 F G) ∨ ¬ ∃ mr', fX2_wrongAt_l12 N (zI (n : Int)) ts (m' + 1 + 15 + (r + 1)) (zI (k : Int)) mr = some (zI (k : Int), mr') := by
      by_cases q : ∃ mr', fX2_wrongAt_l12 N (zI (n : Int)) ts (m' + 1 + 15 + (r + 1)) (zI (k : Int)) mr = some (zI (k : Int), mr')
      · obtain ⟨mr', C⟩ := q
        refine Or.inl ?_
        rw [C, bd2_s, x13 N v1 (w := (k : Int)) upd_s (by omega) r (k + 1) _ m9 (by omega)]
        exact Or.inl ⟨(k : Int), mr', _, by omega, rfl, rfl, hF.tr (FR.u18 _)⟩
      · exact Or.inr q
    by_cases gn : k < n
    · have gs : sp_see n c k = c k := if_pos gn
      rw [gs] at hb ⊢
      by_cases g : 48 ≤ c k ∧ c k ≤ 57
      · have dj : fX2_fitsDigit N (zI (k : Int)) (zI (c k - 48)) mr = some (if k < 3 ∨ 1 ≤ 10 * Y + (c k - 48) then (1 : Int32) else (0 : Int32), upd mr 4 (zI (10 * Y + (c k - 48)))) := by
          rcases hY with ⟨h, rfl⟩ | ⟨h, h2⟩
          · rw [d_first N (by omega), d_year N (by omega) _ (by omega), show 10 * 0 + (c k - 48) = c k - 48 by omega]
          · rw [d_second N (by omega) (by omega) h, d_year N (by omega) _ (by omega)]
        have FF := q_dig N (show k < 19 by omega) (by omega) (by omega) (by omega) (by omega) (by omega) g dj
        by_cases q : k < 3 ∨ 1 ≤ 10 * Y + (c k - 48)
        · rw [if_pos q] at FF
          rw [if_pos (by omega), bd2_s, zl_10, zI_mul, zI_add, show m' + 1 + 15 + (r + 1) = (m' + 1 + 15 + r) + 1 by omega]
          by_cases q3 : k = 3
          · subst q3
            rw [cl_ok N hT _ gn (by omega) FF ((k_at N _).1), upd_s]
            refine ih 4 (10 * Y + (c 3 - 48)) _ _ (by omega) (by omega) (by rw [upd_n (by omega), h16]) upd_s (by rw [upd_n (by omega), h18]) (hF.tr (FR.u17 _)) (by rw [upd_n (by omega), upd_n (by omega), m1]) (Or.inr ⟨by rw [upd_n (by omega), upd_s], Or.inr (Or.inr (Or.inr ⟨rfl, by omega, by omega, upd_s⟩))⟩)
          · rw [cl_ok N hT _ gn (by omega) FF (k_not N (by omega) q3 (by omega) (by omega) (by omega) (by omega) (by omega) _)]
            refine ih (k + 1) (10 * Y + (c k - 48)) _ _ (by omega) (by omega) (by rw [upd_n (by omega), h16]) upd_s (by rw [upd_n (by omega), h18]) (hF.tr (FR.u17 _)) (by rw [upd_n (by omega), m1]) (Or.inr ⟨upd_s, ?_⟩)
            rcases hY with h | ⟨-, h | h | h | h⟩ <;> omega
        · rw [if_neg q] at FF
          rw [if_neg (by omega)]
          exact dead.resolve_right fun z => z ⟨_, cl_bad N hT _ gn (by omega) FF⟩
      · rw [if_neg (by omega)]
        exact dead.resolve_right fun z => z ⟨_, cl_bad N hT _ gn (by omega) (q_non N (by omega) (by omega) (by omega) (by omega) (by omega) (by omega) (by omega) g _)⟩
    · have gs : sp_see n c k = -1 := if_neg gn
      rw [gs, if_neg (by omega)]
      exact dead.resolve_right fun z => z ⟨mr, (cl_end N mr _ (by omega) (by omega)).trans (by rw [if_neg (by omega)])⟩
theorem mo_dnb {y m d : Int} (hy : 1 ≤ y ∧ y ≤ 9999) (hm : 1 ≤ m ∧ m ≤ 12) (hd : 1 ≤ d ∧ d ≤ sp_mlen y m) : 0 ≤ sp_dn y m d ∧ sp_dn y m d ≤ 3652058 := by
  have h1 := am_b y m
  have h2 := am_end y
  have h3 := sp_l31 y m hm.1 hm.2
  have h4 : sp_am y m + sp_mlen y m ≤ sp_am y 12 + 31 := by
    by_cases g : m = 12
    · subst g
      have := mlen_b y 12
      omega
    · have := am_step (y := y) hm.1 (by omega)
      have := am_le (y := y) (show 1 ≤ m + 1 by omega) (show m + 1 ≤ 12 by omega) (by omega)
      omega
  rw [sp_dn_am]
  unfold sp_yb at *
  omega
theorem p_moment (N : Nat) (hN : 200000 ≤ N) (p1 : Int32) {ks : Int32} {f : Nat → Int32} {g : Nat → Int32} {ti : Int32} {ts : Nat → Int32} {mr : Nat → Int32} {i : Nat → Int32} {j : Nat → Int64} {F : Nat → Int32} {G : Nat → Int32} {T : Nat → Int32} {dd ss : Nat → Int} (hM : RelM dd ss f g F G) (hT : RelT ti ts i T) : 
    ∃ (r : Int32) (f' : Nat → Int32) (g' : Nat → Int32) (ti' : Int32) (mr' : Nat → Int32) (i' : Nat → Int32) (F' : Nat → Int32) (G' : Nat → Int32) (dd' : Nat → Int) (ss' : Nat → Int), fX9_moment N p1 ks f g ti ts mr = some (r, f', g', ti', mr') ∧ fX10_moment N p1 i j F G T = some (r, i', F', G') ∧ RelM dd' ss' f' g' F' G' ∧ RelT ti' ts i' T ∧ i' 4 = i 4 ∧ i' 8 = i 8 := by
  obtain ⟨z1, l1, v1, rfl⟩ := zI_of p1
  obtain ⟨M, rfl⟩ : ∃ M, N = M + 1 + 15 + 4 := ⟨N - 20, by omega⟩
  obtain ⟨n, c, hn, rfl, r6, hc⟩ := hT
  have hX : TX n c ts T := ⟨hn, hc⟩
  obtain ⟨i0, hi0⟩ : ∃ i0, fX10_begin (M + 1 + 15 + 4) (upd i 9 (0 : Int32)) j = some i0 ∧ i0 16 = zI (n : Int) ∧ i0 17 = zI ((0 : Nat) : Int) ∧ i0 18 = (-1 : Int32) ∧ i0 6 = zI ((0 : Nat) : Int) ∧ i0 4 = i 4 ∧ i0 8 = i 8 := by
    unfold fX10_begin
    refine ⟨_, rfl, ?_, ?_, ?_, ?_, ?_, ?_⟩
    · rw [upd_n (by omega), upd_n (by omega), upd_s, upd_n (by omega), r6]
    · rw [upd_n (by omega), upd_s]; rfl
    · rw [upd_s]
    · rw [upd_n (by omega), upd_n (by omega), upd_n (by omega), upd_s]; rfl
    · simp (disch := omega) only [upd_n]
    · simp (disch := omega) only [upd_n]
  obtain ⟨B, a16, a17, a18, a6, a4, a8⟩ := hi0
  have O := st_year (M + 1 + 15 + 4) (zI z1) hX (F := F) (G := G) (j := j) M (M + 15) 4 0 0 i0 (upd (upd mr 0 (0 : Int32)) 1 (0 : Int32)) (by omega) (by omega) a16 a17 a18 (FR.rfl' i0) upd_s (Or.inl ⟨rfl, rfl⟩)
  have hcut : fX6_cut (M + 1 + 15 + 4) (0 : Int32) (zI (n : Int)) = some (zI ((0 : Nat) : Int)) := by
    unfold fX6_cut
    rw [if_neg (show ¬ ((0 : Int32) < (0 : Int32)) by decide), if_neg (i_nlt (b := 0) (by decide) (by omega))]; rfl
  unfold fX9_moment fX10_moment fX2_wrongAt
  rw [B, bd1_s]
  have eM : fX10_moment_l13 (M + 1 + 15 + 4) j T (M + 15 + 1 + 4) (zI z1) (zI 0) (zI ((0 : Nat) : Int)) i0 F G = fX10_moment_l13 (M + 1 + 15 + 4) j T (M + 1 + 15 + 4) (zI z1) (0 : Int32) (0 : Int32) i0 F G := by
    rw [show M + 15 + 1 + 4 = M + 1 + 15 + 4 by omega]; rfl
  rw [eM] at O
  have e0 : zI ((0 : Nat) : Int) = (0 : Int32) := by decide
  rw [e0] at O
  rcases O with ⟨q, mr', i', hq, C, M1, hF⟩ | ⟨y, m, d, s, mr', i', hy, hm, hd, hs, C, m0, m1, M1, b18, hF⟩
  · refine ⟨zI (-21 - q), f, g, zI ((0 : Nat) : Int), mr', i', F, G, dd, ss, ?_, M1, hM, ⟨0, c, by omega, rfl, by rw [hF.2.1, a6], fun k hk => by omega⟩, by rw [hF.1, a4], by rw [hF.2.2.1, a8]⟩
    rw [C, bd2_s, hcut, bd1_s, if_neg (i_neq (b := -1) (by decide) (by omega)), zl_m21, zI_sub]
  · have hd2 := mo_dnb hy hm hd
    by_cases q0 : 0 ≤ z1 ∧ z1 ≤ 7
    · obtain ⟨k1, hk1, rfl⟩ : ∃ k1 : Nat, k1 < 8 ∧ z1 = (k1 : Int) := ⟨z1.toNat, by omega, by omega⟩
      refine ⟨zI (sp_dn y m d), upd f k1 (zI (sp_dn y m d)), upd g k1 (zI s), zI ((0 : Nat) : Int), mr', upd (upd i' 13 (zI (sp_dn y m d))) 14 (zI s), upd F k1 (zI (sp_dn y m d)), upd G k1 (zI s), zup dd k1 (sp_dn y m d), zup ss k1 s, ?_, ?_, hM.up hd2 hs, ⟨0, c, by omega, rfl, by rw [upd_n (by omega), upd_n (by omega), hF.2.1, a6], fun k hk => by omega⟩, by rw [upd_n (by omega), upd_n (by omega), hF.1, a4], by rw [upd_n (by omega), upd_n (by omega), hF.2.2.1, a8]⟩
      · rw [C, bd2_s, hcut, bd1_s, if_pos rfl, c_slot1 _ q0, bd1_s, if_neg z10, e_putMoment _ f g _ _ hk1, bd2_s, m0, m1]
      · rw [M1]
        unfold fX10_moment_j204
        have hml := mlen_b y m
        rw [if_pos b18, m_slot1 _ q0, bd1_s, if_neg z10, e_dn_m _ (by omega) (by omega) (by omega) (by omega) (by omega) (by omega), bd1_s, e_stands, bd1_s, e_comesTo _ hk1, bd2_s, upd_s, upd_n (show 13 ≠ 14 by omega), upd_s]
    · refine ⟨(-1 : Int32), f, g, zI ((0 : Nat) : Int), mr', i', F, G, dd, ss, ?_, ?_, hM, ⟨0, c, by omega, rfl, by rw [hF.2.1, a6], fun k hk => by omega⟩, by rw [hF.1, a4], by rw [hF.2.2.1, a8]⟩
      · rw [C, bd2_s, hcut, bd1_s, if_pos rfl, c_slot0 _ l1 v1 q0, bd1_s, if_pos z00]
      · rw [M1]
        unfold fX10_moment_j204
        rw [if_pos b18, m_slot0 _ l1 v1 q0, bd1_s, if_pos z00]
