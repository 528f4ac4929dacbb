/-! mean -/
def sp_bit (z : Nat) (k : Nat) : Bool := decide (¬ (zI z &&& ((1 : Int32) <<< (zI k &&& 31))) = (0 : Int32))
theorem bit_tab : (List.range 256).all (fun z => (List.range 8).all (fun k => decide (((zI z &&& ((1 : Int32) <<< (zI k &&& 31))) = (0 : Int32)) ↔ ((zI z >>> (zI k &&& 31)) &&& (1 : Int32)) = (0 : Int32)))) = true := by decide +kernel
theorem bit_any : (List.range 256).all (fun z => decide (z = 0) || (List.range 8).any (fun k => sp_bit z k)) = true := by decide +kernel
theorem bit_iff {z k : Nat} (hz : z < 256) (hk : k < 8) : ((zI z &&& ((1 : Int32) <<< (zI k &&& 31))) = (0 : Int32)) ↔ ((zI z >>> (zI k &&& 31)) &&& (1 : Int32)) = (0 : Int32) := of_decide_eq_true (List.all_eq_true.mp (List.all_eq_true.mp bit_tab z (List.mem_range.mpr hz)) k (List.mem_range.mpr hk))
theorem e_m91 (N : Nat) {ks : Int32} {f g F G : Nat → Int32} {dd ss : Nat → Int} {j : Nat → Int64} (hM : RelM dd ss f g F G) (K : Int32 → Int64 → Int32 → Int32 → Int32 → Int32 → Int32 → (Nat → Int64) → Option (Int32 × Int32 × (Nat → Int64))) (K' : Int32 → Int64 → Int32 → Int32 → Int32 → Int32 → (Nat → Int32) → (Nat → Int64) → Option (Int32 × (Nat → Int32) × (Nat → Int64))) (v1 : Int32) (v2 : Int64) (v4 v5 : Int32) (la : Int) {k : Nat} (hk : k < 8) (hla : -1 ≤ la ∧ la ≤ 7) (tl : Int32) (nn R : Nat → Int64) (i : Nat → Int32) : ∃ la' : Int, (-1 ≤ la' ∧ la' ≤ 7) ∧ fX9_mean_j91 N ks f g K v1 v2 v4 v5 (zI la) (zI k) tl nn = K v1 v2 v4 v5 (zI la') (zI ((k + 1 : Nat) : Int)) tl nn ∧ fX10_mean_j93 N j F G K' v1 v2 v4 (zI la) (zI k) v5 i R = K' v1 v2 v4 v5 (zI la') (zI ((k + 1 : Nat) : Int)) i R := by
  obtain ⟨f1, f2, f3, f4, f5, f6⟩ := hM k hk
  have c1 : zI (k : Int) + (1 : Int32) = zI ((k + 1 : Nat) : Int) := by rw [zl_1, zI_add]; rfl
  unfold fX9_mean_j91 fX10_mean_j93
  by_cases h : la = -1
  · rw [if_pos (i_eq (b := -1) (by decide) h), if_pos (i_eq (b := -1) (by decide) h), nm_s, nm_s, c1]
    exact ⟨k, by omega, rfl, rfl⟩
  · obtain ⟨q, hq, rfl⟩ := slot_of (z := la) (by omega)
    obtain ⟨g1, g2, g3, g4, g5, g6⟩ := hM q hq
    rw [if_neg (i_neq (b := -1) (by decide) (by omega)), if_neg (i_neq (b := -1) (by decide) (by omega)), e_instantAt N f g hk f1 f2 (by omega) (by omega), bd1_s, e_instantAt N f g hq g1 g2 (by omega) (by omega), bd1_s, e_instantOf_m N hk i F G j f3 f4 f5 f6, bd1_s, e_instantOf_m N hq i F G j g3 g4 g5 g6, bd1_s, nm_s, nm_s, nm_s, nm_s, c1]
    by_cases h2 : dd k * 86400 + ss k ≤ dd q * 86400 + ss q
    · rw [if_pos (k_le (by omega)), if_pos (k_le (by omega))]
      exact ⟨q, by omega, rfl, rfl⟩
    · rw [if_neg (k_nle (by omega)), if_neg (k_nle (by omega))]
      exact ⟨k, by omega, rfl, rfl⟩
theorem l_mean (N : Nat) {ks : Int32} {f g F G : Nat → Int32} {dd ss : Nat → Int} {tl : Int32} {nn j R : Nat → Int64} (hM : RelM dd ss f g F G) {z : Nat} (hz : 1 ≤ z ∧ z ≤ 255) : ∀ (n k : Nat) (c e la : Int) (v2 : Int64) (i : Nat → Int32), RelR tl nn i R → k ≤ 8 → (0 ≤ c ∧ c ≤ k) → (c = 0 → ∀ q, q < k → sp_bit z q = false) → (-1 ≤ e ∧ e ≤ 7) → (-1 ≤ la ∧ la ≤ 7) → 8 < k + n →
    ∃ (r : Int32) (tl' : Int32) (nn' : Nat → Int64) (i' : Nat → Int32) (R' : Nat → Int64), fX9_mean_l28 N ks f g n (zI z) v2 (zI c) (zI e) (zI la) (zI k) tl nn = some (r, tl', nn') ∧ fX10_mean_l33 N j F G n (zI z) v2 (zI c) (zI e) (zI la) (zI k) i R = some (r, i', R') ∧ RelR tl' nn' i' R' ∧ i' 4 = i 4 ∧ i' 6 = i 6 := by
  intro n
  induction n with
  | zero => intro k c e la v2 i hR h1 h2 h3 h4 h5 h6; omega
  | succ n ih =>
    intro k c e la v2 i hR h1 h2 h3 h4 h5 h6
    rw [fX9_mean_l28_s, fX10_mean_l33_s]
    by_cases hd : 8 ≤ k
    · have hc : 0 < c := by
        apply Int.not_le.mp
        intro hc0
        have hb := h3 (by omega)
        have ha := List.all_eq_true.mp bit_any z (List.mem_range.mpr (by omega))
        rw [decide_eq_false (by omega), Bool.false_or, List.any_eq_true] at ha
        obtain ⟨q, hq, hq2⟩ := ha
        rw [hb q (by have := List.mem_range.mp hq; omega)] at hq2
        exact absurd hq2 (by decide)
      rw [if_pos (i_ge' (b := 8) (by decide) (by omega)), if_pos (i_ge' (b := 8) (by decide) (by omega)), if_neg (i_nle (b := 0) (by decide) (by omega)), zI_toL (by omega) (by omega), gnl_z (by omega) (by omega), gnl_z (by omega) (by omega), nm_s]
      unfold fX9_mean_j143
      rw [e_tell3, bd2_s, e_tellA, bd2_s, e_tellB N (by omega) (by omega), bd2_s, e_tellB N (by omega) (by omega), bd2_s]
      exact ⟨_, _, _, _, _, rfl, rfl, RelR.mk3 upd_s _ _ _, by simp (disch := omega) only [upd_n], by simp (disch := omega) only [upd_n]⟩
    · have hk : k < 8 := by omega
      obtain ⟨f1, f2, f3, f4, f5, f6⟩ := hM k hk
      have c1 : zI (k : Int) + (1 : Int32) = zI ((k + 1 : Nat) : Int) := by rw [zl_1, zI_add]; rfl
      have c2 : zI c + (1 : Int32) = zI (c + 1) := by rw [zl_1, zI_add]
      rw [if_neg (i_nge' (b := 8) (by decide) (by omega)), if_neg (i_nge' (b := 8) (by decide) (by omega))]
      by_cases hb : (zI z &&& ((1 : Int32) <<< (zI k &&& 31))) = (0 : Int32)
      · rw [if_pos hb, if_pos ((bit_iff (by omega) hk).mp hb), nm_s, nm_s, c1]
        refine ih (k + 1) c e la v2 i hR (by omega) (by omega) (fun hc q hq => ?_) h4 h5 (by omega)
        by_cases eq : q = k
        · subst eq; exact decide_eq_false (fun h => h hb)
        · exact h3 hc q (by omega)
      · rw [if_neg hb, if_neg (fun h => hb ((bit_iff (by omega) hk).mpr h)), e_instantAt N f g hk f1 f2 (by omega) (by omega), bd1_s, e_instantOf_m N hk i F G j f3 f4 f5 f6, bd1_s, nm_s, nm_s, c2, nm_s, nm_s]
        have go : ∀ e' : Int, (-1 ≤ e' ∧ e' ≤ 7) → ∃ (r : Int32) (tl' : Int32) (nn' : Nat → Int64) (i' : Nat → Int32) (R' : Nat → Int64), fX9_mean_j91 N ks f g (fX9_mean_l28 N ks f g n) (zI z) (v2 + zL (dd k * 86400 + ss k)) (zI (c + 1)) (zI e') (zI la) (zI k) tl nn = some (r, tl', nn') ∧ fX10_mean_j93 N j F G (fX10_mean_l33 N j F G n) (zI z) (v2 + zL (dd k * 86400 + ss k)) (zI (c + 1)) (zI la) (zI k) (zI e') i R = some (r, i', R') ∧ RelR tl' nn' i' R' ∧ i' 4 = i 4 ∧ i' 6 = i 6 := by
          intro e' he'
          obtain ⟨la', q1, q2, q3⟩ := e_m91 N (ks := ks) (j := j) hM (fX9_mean_l28 N ks f g n) (fX10_mean_l33 N j F G n) (zI z) (v2 + zL (dd k * 86400 + ss k)) (zI (c + 1)) (zI e') la hk h5 tl nn R i
          rw [q2, q3]
          exact ih (k + 1) (c + 1) e' la' _ i hR (by omega) (by omega) (fun hc => by omega) he' q1 (by omega)
        by_cases h : e = -1
        · rw [if_pos (i_eq (b := -1) (by decide) h), if_pos (i_eq (b := -1) (by decide) h)]
          exact go k (by omega)
        · obtain ⟨q, hq, rfl⟩ := slot_of (z := e) (by omega)
          obtain ⟨g1, g2, g3, g4, g5, g6⟩ := hM q hq
          rw [if_neg (i_neq (b := -1) (by decide) (by omega)), if_neg (i_neq (b := -1) (by decide) (by omega)), e_instantAt N f g hq g1 g2 (by omega) (by omega), e_instantOf_m N hq i F G j g3 g4 g5 g6, bd1_s, bd1_s, bd1_s, bd1_s]
          by_cases h2 : dd q * 86400 + ss q ≤ dd k * 86400 + ss k
          · rw [if_pos (k_ge (by omega)), if_pos (k_ge (by omega))]
            exact go q (by omega)
          · rw [if_neg (k_nge (by omega)), if_neg (k_nge (by omega))]
            exact go k (by omega)
theorem p_mean (N : Nat) (hN : 200000 ≤ N) (p1 : Int32) {ks : Int32} {f : Nat → Int32} {g : Nat → Int32} {tl : Int32} {nn : Nat → Int64} {i : Nat → Int32} {j : Nat → Int64} {F : Nat → Int32} {G : Nat → Int32} {R : Nat → Int64} {dd ss : Nat → Int} (hM : RelM dd ss f g F G) (hR : RelR tl nn i R) : 
    ∃ (r : Int32) (tl' : Int32) (nn' : Nat → Int64) (i' : Nat → Int32) (R' : Nat → Int64), fX9_mean N p1 ks f g tl nn = some (r, tl', nn') ∧ fX10_mean N p1 i j F G R = some (r, i', R') ∧ RelR tl' nn' i' R' ∧ i' 4 = i 4 ∧ i' 6 = i 6 := by
  obtain ⟨z1, l1, v1, rfl⟩ := zI_of p1
  unfold fX9_mean fX10_mean
  by_cases q : 1 ≤ z1 ∧ z1 ≤ 255
  case neg =>
    refine ⟨(-1 : Int32), tl, nn, upd i 9 (zI 0), R, ?_, ?_, hR.f9, by simp (disch := omega) only [upd_n], by simp (disch := omega) only [upd_n]⟩
    · rcases (show z1 < 1 ∨ 255 < z1 by omega) with w | w
      · rw [if_pos (i_lt (b := 1) (by decide) (by omega))]
      · rw [if_neg (i_nlt (b := 1) (by decide) (by omega)), if_neg (i_nle (b := 255) (by decide) (by omega))]
    · rw [m_in0 N (lo := 1) (hi := 255) (by decide) (by decide) l1 v1 (by omega) q, bd1_s, if_pos z00]
      rfl
  obtain ⟨z, hz⟩ : ∃ z : Nat, z1 = (z : Int) := ⟨z1.toNat, by omega⟩
  subst hz
  rw [if_neg (i_nlt (b := 1) (by decide) (by omega)), if_pos (i_le (b := 255) (by decide) (by omega)), m_in1 N (lo := 1) (hi := 255) (by decide) (by decide) (by omega) q, bd1_s, if_neg z10]
  obtain ⟨r, tl', nn', i', R', w1, w2, w3, w4, w5⟩ := l_mean N (ks := ks) (j := j) hM (z := z) (by omega) N 0 0 (-1) (-1) (0 : Int64) (upd i 9 (0 : Int32)) hR.f9 (by omega) (by omega) (fun _ q hq => by omega) (by omega) (by omega) (by omega)
  rw [show zI ((0 : Nat) : Int) = (0 : Int32) by decide, ← zl_0, ← zl_m1] at w1 w2
  exact ⟨r, tl', nn', i', R', w1, w2, w3, by rw [w4]; simp (disch := omega) only [upd_n], by rw [w5]; simp (disch := omega) only [upd_n]⟩
