/-! compare -/
theorem e_at (N : Nat) {κ : Nat} (h : κ < 8) (tl : Int32) (nn : Nat → Int64) : fX3_at N (zI κ) tl nn = some (nn κ) := by
  unfold fX3_at
  rw [if_neg (i_nlt (b := 0) (by decide) (by omega)), if_neg (i_nge' (b := 8) (by decide) (by omega)), gi_z (by omega) (by omega) (by omega), zI_cl (by omega) (by omega), tn1]
theorem e_put (N : Nat) {κ : Nat} (h : κ < 8) (x : Int64) (tl : Int32) (nn : Nat → Int64) : fX3_put N (zI κ) x tl nn = some (vp_updL nn κ x) := by
  unfold fX3_put
  rw [if_neg (i_nlt (b := 0) (by decide) (by omega)), if_neg (i_nge' (b := 8) (by decide) (by omega)), gi_z (by omega) (by omega) (by omega), zI_cl (by omega) (by omega), tn1]
def sp_bz (x : Int) : Int := if x = 0 then 0 else 1
def sp_bits (c : Nat → Int) : Int := sp_bz (c 0) + 2 * sp_bz (c 1) + 4 * sp_bz (c 2)
theorem bz_01 (x : Int) : sp_bz x = 0 ∨ sp_bz x = 1 := by
  unfold sp_bz; split
  · exact Or.inl rfl
  · exact Or.inr rfl
theorem bits_up {c : Nat → Int} {κ : Nat} (hκ : κ < 3) (h : c κ = 0) : zI (sp_bits c) ||| ((1 : Int32) <<< (zI κ &&& 31)) = zI (sp_bits (zup c κ (c κ + 1))) := by
  have hb0 : sp_bz 0 = 0 := rfl
  have hb1 : sp_bz (0 + 1) = 1 := by decide
  unfold sp_bits
  rcases (show κ = 0 ∨ κ = 1 ∨ κ = 2 by omega) with rfl | rfl | rfl
  · rw [zup_s, zup_n (by omega), zup_n (by omega), h, hb0, hb1]
    rcases bz_01 (c 1) with e1 | e1 <;> rcases bz_01 (c 2) with e2 | e2 <;> rw [e1, e2] <;> decide
  · rw [zup_s, zup_n (by omega), zup_n (by omega), h, hb0, hb1]
    rcases bz_01 (c 0) with e1 | e1 <;> rcases bz_01 (c 2) with e2 | e2 <;> rw [e1, e2] <;> decide
  · rw [zup_s, zup_n (by omega), zup_n (by omega), h, hb0, hb1]
    rcases bz_01 (c 0) with e1 | e1 <;> rcases bz_01 (c 1) with e2 | e2 <;> rw [e1, e2] <;> decide
theorem bits_same {c : Nat → Int} {κ : Nat} (hκ : κ < 3) (h : c κ ≠ 0) (h0 : 0 ≤ c κ) : sp_bits (zup c κ (c κ + 1)) = sp_bits c := by
  have hb0 : sp_bz (c κ) = 1 := if_neg h
  have hb1 : sp_bz (c κ + 1) = 1 := if_neg (by omega)
  unfold sp_bits
  rcases (show κ = 0 ∨ κ = 1 ∨ κ = 2 by omega) with rfl | rfl | rfl
  · rw [zup_s, zup_n (by omega), zup_n (by omega), hb0, hb1]
  · rw [zup_s, zup_n (by omega), zup_n (by omega), hb0, hb1]
  · rw [zup_s, zup_n (by omega), zup_n (by omega), hb0, hb1]
def CmpI (c D : Nat → Int) (nn : Nat → Int64) (my fi : Nat → Int32) : Prop := ∀ k, k < 3 → my k = zI (c k) ∧ fi k = zI (D k) ∧ nn k = zL (c k) ∧ nn (k + 3) = zL (D k) ∧ (-1 ≤ D k ∧ D k ≤ 1000000) ∧ 0 ≤ c k
theorem e_c149 (N : Nat) {S : Nat → Int32} {j : Nat → Int64} (K : Int32 → Int32 → Int32 → Int32 → (Nat → Int32) → (Nat → Int64) → (Nat → Int32) → (Nat → Int32) → Option (Int32 × (Nat → Int32) × (Nat → Int64) × (Nat → Int32) × (Nat → Int32))) (v1 v2 v3 : Int32) (d : Int) {κ : Nat} (hκ : κ < 3) (i : Nat → Int32) (R : Nat → Int64) (my fi : Nat → Int32) {c : Int} (hc : my κ = zI c) (bc : 0 ≤ c ∧ c ≤ 1000000) : fX10_compare_j149 N j S K v1 v2 v3 (zI d) (zI κ) i R my fi = K v1 v2 v3 (zI (d + 1)) i R (upd my κ (zI (c + 1))) (if c = 0 then upd fi κ (zI d) else fi) := by
  unfold fX10_compare_j149
  have e1 : zI d + (1 : Int32) = zI (d + 1) := by rw [zl_1, zI_add]
  have e2 : zI c + (1 : Int32) = zI (c + 1) := by rw [zl_1, zI_add]
  rw [gi_z (by omega) (by omega) (by omega), gi_z (by omega) (by omega) (by omega), gi_z (by omega) (by omega) (by omega), gi_z (by omega) (by omega) (by omega), gi_z (by omega) (by omega) (by omega), gi_z (by omega) (by omega) (by omega), zI_cl (by omega) (by omega), tn1, nm_s, nm_s, hc, e1, e2]
  by_cases h : c = 0
  · rw [if_pos (i_eq (b := 0) (by decide) h), if_pos h]
  · rw [if_neg (i_neq (b := 0) (by decide) (by omega)), if_neg h]
theorem e_cend (N : Nat) (hN : 200000 ≤ N) {S : Nat → Int32} {j : Nat → Int64} {c D : Nat → Int} {nn R : Nat → Int64} {my fi i : Nat → Int32} (h : CmpI c D nn my fi) (hc : ∀ k, k < 3 → c k ≤ 1000000) : ∃ R', fX10_compare_l195 N j S N (0 : Int32) (upd i 8 (0 : Int32)) R my fi = some (zI (sp_bits c), upd i 8 (zI 6), R', my, fi) ∧ Ag 6 nn R' := by
  obtain ⟨a1, a2, a3, a4, a5, a6⟩ := h 0 (by omega)
  obtain ⟨b1, b2, b3, b4, b5, b6⟩ := h 1 (by omega)
  obtain ⟨c1, c2, c3, c4, c5, c6⟩ := h 2 (by omega)
  have m1 := hc 0 (by omega)
  have m2 := hc 1 (by omega)
  have m3 := hc 2 (by omega)
  obtain ⟨n, rfl⟩ : ∃ n, N = n + 4 := ⟨N - 4, by omega⟩
  refine ⟨vp_updL (vp_updL (vp_updL (vp_updL (vp_updL (vp_updL R 0 (zL (c 0))) 1 (zL (c 1))) 2 (zL (c 2))) 3 (zL (D 0))) 4 (zL (D 1))) 5 (zL (D 2)), ?_, ?_⟩
  · have s0 : ∀ (z : Int) (q : Int), (0 ≤ z ∧ z < 16) → ∀ (p : Nat → Int64), fX10_tell (n + 4) (zL q) (upd i 8 (zI z)) j p = some (upd i 8 (zI (z + 1)), vp_updL p z.toNat (zL q)) := fun z q hz p => e_tellB _ hz.1 hz.2 _ j p
    have g0 : fX10_compare_l195 (n + 4) j S (n + 4) (0 : Int32) (upd i 8 (0 : Int32)) R my fi = fX10_compare_l222 (n + 4) j S (n + 4) (0 : Int32) (upd i 8 (zI 3)) (vp_updL (vp_updL (vp_updL R 0 (zL (c 0))) 1 (zL (c 1))) 2 (zL (c 2))) my fi := by
      rw [zl_0, fX10_compare_l195_s]
      simp (disch := omega) only [zl_0, zl_1, zl_3, zI_le, gi_z, zI_cl, Int.reduceLE, Int.reduceToNat, ↓reduceIte, a1, zI_toL, s0, bd2_t, nm_t, zI_add, Int.reduceAdd]
      rw [fX10_compare_l195_s]
      simp (disch := omega) only [zl_0, zl_1, zl_3, zI_le, gi_z, zI_cl, Int.reduceLE, Int.reduceToNat, ↓reduceIte, b1, zI_toL, s0, bd2_t, nm_t, zI_add, Int.reduceAdd]
      rw [fX10_compare_l195_s]
      simp (disch := omega) only [zl_0, zl_1, zl_3, zI_le, gi_z, zI_cl, Int.reduceLE, Int.reduceToNat, ↓reduceIte, c1, zI_toL, s0, bd2_t, nm_t, zI_add, Int.reduceAdd]
      rw [fX10_compare_l195_s]
      simp (disch := omega) only [zl_0, zl_3, zI_le, Int.reduceLE, ↓reduceIte]
    rw [g0, zl_0, fX10_compare_l222_s]
    simp (disch := omega) only [zl_0, zl_1, zl_3, zI_le, gi_z, zI_cl, Int.reduceLE, Int.reduceToNat, ↓reduceIte, a2, zI_toL, s0, bd2_t, nm_t, zI_add, Int.reduceAdd]
    rw [fX10_compare_l222_s]
    simp (disch := omega) only [zl_0, zl_1, zl_3, zI_le, gi_z, zI_cl, Int.reduceLE, Int.reduceToNat, ↓reduceIte, b2, zI_toL, s0, bd2_t, nm_t, zI_add, Int.reduceAdd]
    rw [fX10_compare_l222_s]
    simp (disch := omega) only [zl_0, zl_1, zl_3, zI_le, gi_z, zI_cl, Int.reduceLE, Int.reduceToNat, ↓reduceIte, c2, zI_toL, s0, bd2_t, nm_t, zI_add, Int.reduceAdd]
    rw [fX10_compare_l222_s]
    unfold fX10_compare_j260
    simp (disch := omega) only [zl_0, zl_1, zl_2, zl_3, zI_le, gi_z, zI_cl, Int.reduceLE, Int.reduceToNat, ↓reduceIte, a1, b1, c1]
    unfold sp_bits sp_bz
    by_cases e1 : c 0 = 0 <;> by_cases e2 : c 1 = 0 <;> by_cases e3 : c 2 = 0
    · rw [if_pos (by omega), if_pos (by omega), if_pos (by omega), if_pos e1, if_pos e2, if_pos e3]; rfl
    · rw [if_pos (by omega), if_pos (by omega), if_neg (by omega), if_pos e1, if_pos e2, if_neg e3]; rfl
    · rw [if_pos (by omega), if_neg (by omega), if_pos (by omega), if_pos e1, if_neg e2, if_pos e3]; rfl
    · rw [if_pos (by omega), if_neg (by omega), if_neg (by omega), if_pos e1, if_neg e2, if_neg e3]; rfl
    · rw [if_neg (by omega), if_pos (by omega), if_pos (by omega), if_neg e1, if_pos e2, if_pos e3]; rfl
    · rw [if_neg (by omega), if_pos (by omega), if_neg (by omega), if_neg e1, if_pos e2, if_neg e3]; rfl
    · rw [if_neg (by omega), if_neg (by omega), if_pos (by omega), if_neg e1, if_neg e2, if_pos e3]; rfl
    · rw [if_neg (by omega), if_neg (by omega), if_neg (by omega), if_neg e1, if_neg e2, if_neg e3]; rfl
  · intro k hk
    have a4 : nn 3 = zL (D 0) := a4
    have b4 : nn 4 = zL (D 1) := b4
    have c4 : nn 5 = zL (D 2) := c4
    rcases (show k = 0 ∨ k = 1 ∨ k = 2 ∨ k = 3 ∨ k = 4 ∨ k = 5 by omega) with rfl | rfl | rfl | rfl | rfl | rfl
    · rw [updL_n (by omega), updL_n (by omega), updL_n (by omega), updL_n (by omega), updL_n (by omega), updL_s, a3]
    · rw [updL_n (by omega), updL_n (by omega), updL_n (by omega), updL_n (by omega), updL_s, b3]
    · rw [updL_n (by omega), updL_n (by omega), updL_n (by omega), updL_s, c3]
    · rw [updL_n (by omega), updL_n (by omega), updL_s, a4]
    · rw [updL_n (by omega), updL_s, b4]
    · rw [updL_s, c4]
theorem e_c194 (N : Nat) {ks : Int32} {a b c : Nat → Int32} (K : Int32 → Int32 → Int32 → (Nat → Int64) → (Nat → Int32) → (Nat → Int32) → Option (Int32 × Int32 × (Nat → Int64) × (Nat → Int32) × (Nat → Int32))) (v4 : Int32) (d : Int) {κ : Nat} (hκ : κ < 3) (tl : Int32) (nn : Nat → Int64) (ad ot : Nat → Int32) {q : Int} (hq : nn κ = zL q) : fX9_compare_j194 N ks a b c K v4 (zI d) (zI κ) tl nn ad ot = K v4 (zI (d + 1)) tl (vp_updL nn κ (zL (q + 1))) ad ot := by
  unfold fX9_compare_j194
  rw [e_at N (by omega), bd1_s, e_put N (by omega), bd1_s, nm_s, hq, show zL q + (1 : Int64) = zL (q + 1) by rw [zll_1, zL_add], show zI d + (1 : Int32) = zI (d + 1) by rw [zl_1, zI_add]]
theorem l_compare (N : Nat) (hN : 200000 ≤ N) {ks : Int32} {a b c S : Nat → Int32} {j R : Nat → Int64} {k1 k2 : Nat} (hk1 : k1 < 8) (hk2 : k2 < 8) {m1 d1 s1 m2 d2 s2 law : Int} (s4 : S (3 * k1) = zI m1) (s5 : S (3 * k1 + 1) = zI d1) (s6 : S (3 * k1 + 2) = zI s1) (t4 : S (3 * k2) = zI m2) (t5 : S (3 * k2 + 1) = zI d2) (t6 : S (3 * k2 + 2) = zI s2) (hb1 : sp_b3 m1 d1 s1) (hb2 : sp_b3 m2 d2 s2) (hl : 0 ≤ law ∧ law ≤ 3) : ∀ (n : Nat) (d : Int) (C D : Nat → Int) (nn : Nat → Int64) (my fi ad ot i : Nat → Int32), CmpI C D nn my fi → (∀ k, k < 3 → C k ≤ d - 730119) → AdOK m1 d1 s1 law ad → AdOK m2 d2 s2 law ot → 730119 ≤ d → d ≤ 876216 → 876216 - d < n →
    ∃ (r : Int32) (tl' : Int32) (nn' : Nat → Int64) (ad' ot' i' : Nat → Int32) (R' : Nat → Int64) (my' fi' : Nat → Int32), fX9_compare_l100 N ks a b c n (zI (sp_bits C)) (zI d) (zI 6) nn ad ot = some (r, tl', nn', ad', ot') ∧ fX10_compare_l64 N j S n (zI k1) (zI k2) (zI law) (zI d) i R my fi = some (r, i', R', my', fi') ∧ RelR tl' nn' i' R' ∧ AdW ad' ∧ AdW ot' ∧ i' 4 = i 4 ∧ i' 6 = i 6 := by
  intro n
  induction n with
  | zero => intro d C D nn my fi ad ot i hC hm hA hO h1 h2 hn; omega
  | succ n ih =>
    intro d C D nn my fi ad ot i hC hm hA hO h1 h2 hn
    rw [fX9_compare_l100_s, fX10_compare_l64_s]
    by_cases hd : 876216 ≤ d
    · rw [if_pos (i_gt (b := 876215) (by decide) (by omega)), if_pos (i_ge' (b := 876216) (by decide) (by omega))]
      obtain ⟨R', e1, e2⟩ := e_cend N hN (S := S) (j := j) (R := R) (i := i) hC (fun k hk => by have := hm k hk; omega)
      exact ⟨_, _, _, _, _, _, _, _, _, rfl, e1, ⟨6, by omega, rfl, upd_s, e2⟩, hA.w, hO.w, by simp (disch := omega) only [upd_n], by simp (disch := omega) only [upd_n]⟩
    · rw [if_neg (i_ngt (b := 876215) (by decide) (by omega)), if_neg (i_nge' (b := 876216) (by decide) (by omega)), e_stands, bd1_s]
      have h0 : (0 : Int) ≤ 0 ∧ (0 : Int) ≤ 86399 := by omega
      have c1 : zI d + (1 : Int32) = zI (d + 1) := by rw [zl_1, zI_add]
      obtain ⟨ad1, i1, r1, w1, x1, A1, n1, g1⟩ := both N hN (i := upd (upd i 13 (zI d)) 14 (0 : Int32)) (j := j) (ord := 0) (x := d) (t := 0) hA hk1 s4 s5 s6 hb1 hl (by omega) (by rw [upd_n (by omega), upd_s]) (by omega) (by rw [upd_s, zl_0]) h0
      have n1 : ∀ k, k < 10 ∨ 15 < k → i1 k = i k := fun k hk => by rw [n1 k hk, upd_n (by omega), upd_n (by omega)]
      rw [← zl_0] at w1 x1
      rw [w1, bd2_s, x1, bd2_s]
      rcases g1 with ⟨y, u, sh, rfl, a8, a9, a10, i13, i14, i15, b1, b2, b3⟩ | rfl
      case inr =>
        rw [if_pos z00, if_pos z00, nm_s, nm_s, c1]
        obtain ⟨r, tl', nn', ad', ot', i', R', my', fi', v1, v2, v3, v4, v5, v6, v7⟩ := ih (d + 1) C D nn my fi ad1 ot i1 hC (fun k hk => by have := hm k hk; omega) A1 hO (by omega) (by omega) (by omega)
        exact ⟨r, tl', nn', ad', ot', i', R', my', fi', v1, v2, v3, v4, v5, by rw [v6, n1 4 (by omega)], by rw [v7, n1 6 (by omega)]⟩
      obtain ⟨ot1, i2, r2, w2, x2, O1, n2, g2⟩ := both N hN (i := upd (upd i1 13 (zI d)) 14 (0 : Int32)) (j := j) (ord := 0) (x := d) (t := 0) hO hk2 t4 t5 t6 hb2 hl (by omega) (by rw [upd_n (by omega), upd_s]) (by omega) (by rw [upd_s, zl_0]) h0
      have n2 : ∀ k, k < 10 ∨ 15 < k → i2 k = i k := fun k hk => by rw [n2 k hk, upd_n (by omega), upd_n (by omega), n1 k hk]
      rw [← zl_0] at w2 x2
      rw [if_neg z10, if_neg z10, e_instant_m N j i13 i14 b1 b2, bd1_s, e_stands, bd1_s, w2, bd2_s, x2, bd2_s]
      rcases g2 with ⟨y2, v2, sh2, rfl, p8, p9, p10, q13, q14, q15, g1, g2, g3⟩ | rfl
      case inr =>
        rw [if_pos z00, if_pos z00, nm_s, nm_s, c1]
        obtain ⟨r, tl', nn', ad', ot', i', R', my', fi', v1, v2, v3, v4, v5, v6, v7⟩ := ih (d + 1) C D nn my fi ad1 ot1 i2 hC (fun k hk => by have := hm k hk; omega) A1 O1 (by omega) (by omega) (by omega)
        exact ⟨r, tl', nn', ad', ot', i', R', my', fi', v1, v2, v3, v4, v5, by rw [v6, n2 4 (by omega)], by rw [v7, n2 6 (by omega)]⟩
      rw [if_neg z10, if_neg z10, e_instant_m N j q13 q14 g1 g2, bd1_s, bd1_s, e_instant N a8 b1 a9 b2, bd1_s, e_instant N p8 g1 p9 g2, bd1_s]
      obtain ⟨P, hP⟩ : ∃ P, P = y * 86400 + u := ⟨_, rfl⟩
      obtain ⟨Q, hQ⟩ : ∃ Q, Q = y2 * 86400 + v2 := ⟨_, rfl⟩
      rw [← hP, ← hQ]
      have bP : 0 ≤ P ∧ P ≤ 315537897599 ∧ 0 ≤ Q ∧ Q ≤ 315537897599 := by omega
      have fin : ∀ (κ : Nat), κ < 3 → ∃ (r : Int32) (tl' : Int32) (nn' : Nat → Int64) (ad' ot' i' : Nat → Int32) (R' : Nat → Int64) (my' fi' : Nat → Int32), (bd1 (fX3_at N (zI κ) (zI 6) nn) fun r24 => (if (lg_cmp r24 (0 : Int64)) = (0 : Int32) then (bd1 (fX3_put N (zI κ + (3 : Int32)) (zI d).toInt64 (zI 6) nn) fun nn1 => (nm (zI (sp_bits C) ||| ((1 : Int32) <<< (zI κ &&& 31))) fun z29 => (fX9_compare_j194 N ks a b c (fX9_compare_l100 N ks a b c n) z29 (zI d) (zI κ) (zI 6) nn1 ad1 ot1))) else (fX9_compare_j194 N ks a b c (fX9_compare_l100 N ks a b c n) (zI (sp_bits C)) (zI d) (zI κ) (zI 6) nn ad1 ot1))) = some (r, tl', nn', ad', ot') ∧ fX10_compare_j149 N j S (fX10_compare_l64 N j S n) (zI k1) (zI k2) (zI law) (zI d) (zI κ) i2 R my fi = some (r, i', R', my', fi') ∧ RelR tl' nn' i' R' ∧ AdW ad' ∧ AdW ot' ∧ i' 4 = i 4 ∧ i' 6 = i 6 := by
        intro κ hκ
        obtain ⟨e1, e2, e3, e4, e5, e6⟩ := hC κ hκ
        have hmκ := hm κ hκ
        have hm' : ∀ k, k < 3 → zup C κ (C κ + 1) k ≤ (d + 1) - 730119 := fun k hk => by
          have := hm k hk
          by_cases e : k = κ
          · subst e; rw [zup_s]; omega
          · rw [zup_n e]; omega
        have e3k : zI κ + (3 : Int32) = zI ((κ + 3 : Nat) : Int) := by rw [zl_3, zI_add]; rfl
        rw [e_at N (by omega), bd1_s, e3, e_c149 N _ _ _ _ d hκ i2 R my fi e1 (by omega), zll_0]
        by_cases h : C κ = 0
        · rw [if_pos (k_eq h), if_pos h, e3k, e_put N (by omega), bd1_s, nm_s, bits_up hκ h, e_c194 N _ _ _ hκ _ _ _ _ (q := C κ) (by rw [updL_n (by omega), e3]), zI_toL (by omega) (by omega)]
          obtain ⟨r, tl', nn', ad', ot', i', R', my', fi', v1, v2, v3, v4, v5, v6, v7⟩ := ih (d + 1) (zup C κ (C κ + 1)) (zup D κ d) (vp_updL (vp_updL nn (κ + 3) (zL d)) κ (zL (C κ + 1))) (upd my κ (zI (C κ + 1))) (upd fi κ (zI d)) ad1 ot1 i2 (fun k hk => by
            obtain ⟨f1, f2, f3, f4, f5, f6⟩ := hC k hk
            by_cases e : k = κ
            · subst e
              rw [upd_s, upd_s, zup_s, zup_s, updL_s, updL_n (by omega), updL_s]
              exact ⟨rfl, rfl, rfl, rfl, by omega, by omega⟩
            · rw [upd_n e, upd_n e, zup_n e, zup_n e, updL_n e, updL_n (by omega), updL_n (by omega), updL_n (by omega)]
              exact ⟨f1, f2, f3, f4, f5, f6⟩) hm' A1 O1 (by omega) (by omega) (by omega)
          exact ⟨r, tl', nn', ad', ot', i', R', my', fi', v1, v2, v3, v4, v5, by rw [v6, n2 4 (by omega)], by rw [v7, n2 6 (by omega)]⟩
        · rw [if_neg (k_neq (by omega)), if_neg h, e_c194 N _ _ _ hκ _ _ _ _ e3, ← bits_same hκ h e6]
          obtain ⟨r, tl', nn', ad', ot', i', R', my', fi', v1, v2, v3, v4, v5, v6, v7⟩ := ih (d + 1) (zup C κ (C κ + 1)) D (vp_updL nn κ (zL (C κ + 1))) (upd my κ (zI (C κ + 1))) fi ad1 ot1 i2 (fun k hk => by
            obtain ⟨f1, f2, f3, f4, f5, f6⟩ := hC k hk
            by_cases e : k = κ
            · subst e
              rw [upd_s, zup_s, updL_s, updL_n (by omega)]
              exact ⟨rfl, f2, rfl, f4, f5, by omega⟩
            · rw [upd_n e, zup_n e, updL_n e, updL_n (by omega)]
              exact ⟨f1, f2, f3, f4, f5, f6⟩) hm' A1 O1 (by omega) (by omega) (by omega)
          exact ⟨r, tl', nn', ad', ot', i', R', my', fi', v1, v2, v3, v4, v5, by rw [v6, n2 4 (by omega)], by rw [v7, n2 6 (by omega)]⟩
      unfold fJ13_compare_74951
      by_cases hlt : P < Q
      · rw [if_neg (k_nge (by omega)), if_neg (k_nge (by omega)), bd1_s, nm_s, show (1 : Int32) + (-1 : Int32) = zI ((0 : Nat) : Int) by decide, show (0 : Int32) = zI ((0 : Nat) : Int) by decide]
        exact fin 0 (by omega)
      · by_cases heq : P = Q
        · rw [if_pos (k_ge (by omega)), if_pos (k_ge (by omega)), if_pos (k_eq heq), if_pos (k_eq heq), bd1_s, nm_s, show (1 : Int32) + (0 : Int32) = zI ((1 : Nat) : Int) by decide]
          have := fin 1 (by omega)
          rw [show zI ((1 : Nat) : Int) = (1 : Int32) by decide] at this ⊢
          exact this
        · rw [if_pos (k_ge (by omega)), if_pos (k_ge (by omega)), if_neg (k_neq (by omega)), if_neg (k_neq (by omega)), bd1_s, nm_s, show (1 : Int32) + (1 : Int32) = zI ((2 : Nat) : Int) by decide, show (2 : Int32) = zI ((2 : Nat) : Int) by decide]
          exact fin 2 (by omega)
theorem e_c31 (N : Nat) (hN : 200000 ≤ N) {S : Nat → Int32} {j : Nat → Int64} (v1 v2 v3 : Int32) (i : Nat → Int32) (R : Nat → Int64) (my fi : Nat → Int32) : fX10_compare_l31 N j S N v1 v2 v3 (0 : Int32) i R my fi = fX10_compare_l64 N j S N v1 v2 v3 (zI 730119) i R (upd (upd (upd my 0 (zI 0)) 1 (zI 0)) 2 (zI 0)) (upd (upd (upd fi 0 (zI (-1))) 1 (zI (-1))) 2 (zI (-1))) := by
  obtain ⟨n, rfl⟩ : ∃ n, N = n + 4 := ⟨N - 4, by omega⟩
  rw [fX10_compare_l31_s]
  simp (disch := omega) only [zl_0, zl_1, zl_3, zl_m1, zI_le, gi_z, zI_cl, Int.reduceLE, Int.reduceToNat, ↓reduceIte, nm_t, zI_add, Int.reduceAdd]
  rw [fX10_compare_l31_s]
  simp (disch := omega) only [zl_0, zl_1, zl_3, zl_m1, zI_le, gi_z, zI_cl, Int.reduceLE, Int.reduceToNat, ↓reduceIte, nm_t, zI_add, Int.reduceAdd]
  rw [fX10_compare_l31_s]
  simp (disch := omega) only [zl_0, zl_1, zl_3, zl_m1, zI_le, gi_z, zI_cl, Int.reduceLE, Int.reduceToNat, ↓reduceIte, nm_t, zI_add, Int.reduceAdd]
  rw [fX10_compare_l31_s]
  simp (disch := omega) only [zl_0, zl_3, zl_730119, zI_le, Int.reduceLE, ↓reduceIte, zI_neg]
theorem p_compare (N : Nat) (hN : 200000 ≤ N) (p1 : Int32) (p2 : Int32) (p3 : Int32) {ks : Int32} {a : Nat → Int32} {b : Nat → Int32} {c : Nat → Int32} {tl : Int32} {nn : Nat → Int64} {ad : Nat → Int32} {ot : Nat → Int32} {i : Nat → Int32} {j : Nat → Int64} {S : Nat → Int32} {R : Nat → Int64} {my : Nat → Int32} {fi : Nat → Int32} {mm da se : Nat → Int} (hS : RelS mm da se a b c S) (hR : RelR tl nn i R) (had : AdW ad) (hot : AdW ot) : 
    ∃ (r : Int32) (tl' : Int32) (nn' : Nat → Int64) (ad' : Nat → Int32) (ot' : Nat → Int32) (i' : Nat → Int32) (R' : Nat → Int64) (my' : Nat → Int32) (fi' : Nat → Int32), fX9_compare N p1 p2 p3 ks a b c tl nn ad ot = some (r, tl', nn', ad', ot') ∧ fX10_compare N p1 p2 p3 i j S R my fi = some (r, i', R', my', fi') ∧ RelR tl' nn' i' R' ∧ AdW ad' ∧ AdW ot' ∧ i' 4 = i 4 ∧ i' 6 = i 6 := by
  obtain ⟨z1, l1, v1, rfl⟩ := zI_of p1
  obtain ⟨z2, l2, v2, rfl⟩ := zI_of p2
  obtain ⟨z3, l3, v3, rfl⟩ := zI_of p3
  by_cases q0 : 0 ≤ z1 ∧ z1 ≤ 7
  case neg =>
    refine ⟨(-1 : Int32), tl, nn, ad, ot, upd i 9 (zI 0), R, my, fi, ?_, ?_, hR.f9, had, hot, upd_n (by omega), upd_n (by omega)⟩
    · unfold fX9_compare
      rw [c_slot0 N l1 v1 q0, bd1_s, if_pos z00]
    · unfold fX10_compare
      rw [m_slot0 N l1 v1 q0, bd1_s, if_pos z00]
      rfl
  by_cases q1 : 0 ≤ z2 ∧ z2 ≤ 7
  case neg =>
    refine ⟨(-1 : Int32), tl, nn, ad, ot, upd i 9 (zI 0), R, my, fi, ?_, ?_, hR.f9, had, hot, upd_n (by omega), upd_n (by omega)⟩
    · unfold fX9_compare
      rw [c_slot1 N q0, bd1_s, if_neg z10]
      rw [c_slot0 N l2 v2 q1, bd1_s, if_pos z00]
    · unfold fX10_compare
      rw [m_slot1 N q0, bd1_s, if_neg z10]
      rw [m_slot0 N l2 v2 q1, bd1_s, if_pos z00]
      rfl
  by_cases q2 : 0 ≤ z3 ∧ z3 ≤ 3
  case neg =>
    refine ⟨(-1 : Int32), tl, nn, ad, ot, upd i 9 (zI 0), R, my, fi, ?_, ?_, hR.f9, had, hot, upd_n (by omega), upd_n (by omega)⟩
    · unfold fX9_compare
      rw [c_slot1 N q0, bd1_s, if_neg z10]
      rw [c_slot1 N q1, bd1_s, if_neg z10]
      rw [c_law0 N l3 v3 q2, bd1_s, if_pos z00]
    · unfold fX10_compare
      rw [m_slot1 N q0, bd1_s, if_neg z10]
      rw [m_slot1 N q1, bd1_s, if_neg z10]
      rw [m_law0 N l3 v3 q2, bd1_s, if_pos z00]
      rfl
  unfold fX9_compare fX10_compare
  rw [c_slot1 N q0, bd1_s, if_neg z10]
  rw [c_slot1 N q1, bd1_s, if_neg z10]
  rw [c_law1 N q2, bd1_s, if_neg z10]
  rw [m_slot1 N q0, bd1_s, if_neg z10]
  rw [m_slot1 N q1, bd1_s, if_neg z10]
  rw [m_law1 N q2, bd1_s, if_neg z10]
  obtain ⟨k1, hk1, rfl⟩ := slot_of q0
  obtain ⟨k2, hk2, rfl⟩ := slot_of q1
  obtain ⟨s1, s2, s3, s4, s5, s6, s7⟩ := hS k1 hk1
  obtain ⟨t1, t2, t3, t4, t5, t6, t7⟩ := hS k2 hk2
  rw [e_takesO N ad a b c hk1 s1 s2 s3 s7, bd2_s, e_takesO N ot a b c hk2 t1 t2 t3 t7, bd2_s, e_tell3, bd2_s, show (zI 3 : Int32) = zI ((3 : Nat) : Int) from rfl, e_push N (by omega), bd2_s, show zI (((3 : Nat) : Int) + 1) = zI ((4 : Nat) : Int) from rfl, e_push N (by omega), bd2_s, show zI (((4 : Nat) : Int) + 1) = zI ((5 : Nat) : Int) from rfl, e_push N (by omega), bd2_s, show zI (((5 : Nat) : Int) + 1) = zI 6 from rfl, e_c31 N hN]
  obtain ⟨r, tl', nn', ad', ot', i', R', my', fi', v1, v2, v3, v4, v5, v6, v7⟩ := l_compare N hN (ks := ks) (a := a) (b := b) (c := c) (j := j) (R := R) hk1 hk2 s4 s5 s6 t4 t5 t6 s7 t7 q2 N 730119 (fun _ => 0) (fun _ => -1) (vp_updL (vp_updL (vp_updL (vp_updL (vp_updL (vp_updL nn 0 (0 : Int64)) 1 (0 : Int64)) 2 (0 : Int64)) 3 (-1 : Int64)) 4 (-1 : Int64)) 5 (-1 : Int64)) (upd (upd (upd my 0 (zI 0)) 1 (zI 0)) 2 (zI 0)) (upd (upd (upd fi 0 (zI (-1))) 1 (zI (-1))) 2 (zI (-1))) (adT ad (mm k1) (da k1) (se k1) z3) (adT ot (mm k2) (da k2) (se k2) z3) (upd i 9 (0 : Int32)) (fun k hk => by
    rcases (show k = 0 ∨ k = 1 ∨ k = 2 by omega) with rfl | rfl | rfl
    · exact ⟨by rfl, by rfl, by rfl, by rfl, by decide, by decide⟩
    · exact ⟨by rfl, by rfl, by rfl, by rfl, by decide, by decide⟩
    · exact ⟨by rfl, by rfl, by rfl, by rfl, by decide, by decide⟩) (fun k hk => by show (0 : Int) ≤ _; omega) (had.adT _ _ _ _) (hot.adT _ _ _ _) (by omega) (by omega) (by omega)
  rw [show zI (sp_bits fun _ => 0) = (0 : Int32) by decide, ← zl_730119] at v1
  exact ⟨r, tl', nn', ad', ot', i', R', my', fi', v1, v2, v3, v4, v5, by rw [v6]; simp (disch := omega) only [upd_n], by rw [v7]; simp (disch := omega) only [upd_n]⟩
