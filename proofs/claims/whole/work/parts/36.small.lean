/-! what is in use -/
def sp_um (u : Nat → Bool) : Nat → Int32
  | 0 => 0
  | k + 1 => if u k = true then sp_um u k ||| ((1 : Int32) <<< (zI k &&& 31)) else sp_um u k
theorem um_s (u : Nat → Bool) (k : Nat) : sp_um u (k + 1) = if u k = true then sp_um u k ||| ((1 : Int32) <<< (zI k &&& 31)) else sp_um u k := rfl
def sp_uM (dd ss : Nat → Int) (k : Nat) : Bool := decide (dd k ≠ 0 ∨ ss k ≠ 0)
def sp_uS (mm da se : Nat → Int) (k : Nat) : Bool := decide (mm k ≠ 0 ∨ da k ≠ 0 ∨ se k ≠ 0)
theorem e_u73 (N : Nat) {ks : Int32} {f g a b c : Nat → Int32} (K : Int32 → Int32 → Int32 → Option Int32) (v1 : Int32) (u : Nat → Bool) (k : Nat) : fX9_usedSlots_j73 N ks f g a b c K v1 (sp_um u k) (zI k) (if u k = true then (1 : Int32) else (0 : Int32)) = K v1 (sp_um u (k + 1)) (zI ((k + 1 : Nat) : Int)) := by
  have c1 : zI (k : Int) + (1 : Int32) = zI ((k + 1 : Nat) : Int) := by rw [zl_1, zI_add]; rfl
  unfold fX9_usedSlots_j73
  rw [c1, um_s]
  cases u k with
  | false => simp only [Bool.false_eq_true, if_false, if_true]; rfl
  | true => simp only [if_true, if_neg (show ¬ ((1 : Int32) = (0 : Int32)) by decide)]; rfl
theorem l_used0 (N : Nat) {ks : Int32} {f g a b c F G : Nat → Int32} {dd ss : Nat → Int} (hM : RelM dd ss f g F G) : ∀ (n k : Nat), k ≤ 8 → 8 < k + n → fX9_usedSlots_l4 N ks f g a b c n (0 : Int32) (sp_um (sp_uM dd ss) k) (zI k) = some (sp_um (sp_uM dd ss) 8) := by
  intro n
  induction n with
  | zero => intro k h1 h2; omega
  | succ n ih =>
    intro k h1 h2
    rw [fX9_usedSlots_l4_s]
    by_cases hd : 8 ≤ k
    · have : k = 8 := by omega
      subst this
      rw [if_pos (i_ge' (b := 8) (by decide) (by omega))]
    · obtain ⟨f1, f2, f3, f4, f5, f6⟩ := hM k (by omega)
      rw [if_neg (i_nge' (b := 8) (by decide) (by omega)), if_pos rfl, e_instantAt N f g (by omega) f1 f2 (by omega) (by omega), bd1_s, zll_0]
      have q := e_u73 N (ks := ks) (f := f) (g := g) (a := a) (b := b) (c := c) (fX9_usedSlots_l4 N ks f g a b c n) (0 : Int32) (sp_uM dd ss) k
      rw [ih (k + 1) (by omega) (by omega)] at q
      by_cases h : dd k * 86400 + ss k = 0
      · rw [if_pos (k_eq h)]
        have hu : sp_uM dd ss k = false := decide_eq_false (by omega)
        rw [hu, if_neg (show ¬ (false = true) by decide)] at q
        exact q
      · rw [if_neg (k_neq (by omega))]
        have hu : sp_uM dd ss k = true := decide_eq_true (by omega)
        rw [hu, if_pos rfl] at q
        exact q
theorem l_used1 (N : Nat) {ks : Int32} {f g a b c S : Nat → Int32} {mm da se : Nat → Int} (hS : RelS mm da se a b c S) : ∀ (n k : Nat), k ≤ 8 → 8 < k + n → fX9_usedSlots_l4 N ks f g a b c n (1 : Int32) (sp_um (sp_uS mm da se) k) (zI k) = some (sp_um (sp_uS mm da se) 8) := by
  intro n
  induction n with
  | zero => intro k h1 h2; omega
  | succ n ih =>
    intro k h1 h2
    rw [fX9_usedSlots_l4_s]
    by_cases hd : 8 ≤ k
    · have : k = 8 := by omega
      subst this
      rw [if_pos (i_ge' (b := 8) (by decide) (by omega))]
    · obtain ⟨s1, s2, s3, s4, s5, s6, s7⟩ := hS k (by omega)
      rw [if_neg (i_nge' (b := 8) (by decide) (by omega)), if_neg (show ¬ ((1 : Int32) = (0 : Int32)) by decide), e_monthsAt N a (by omega), bd1_s, e_daysAt N b (by omega), bd1_s, e_secondsAt N c (by omega), bd1_s, s1, s2, s3]
      have q := e_u73 N (ks := ks) (f := f) (g := g) (a := a) (b := b) (c := c) (fX9_usedSlots_l4 N ks f g a b c n) (1 : Int32) (sp_uS mm da se) k
      rw [ih (k + 1) (by omega) (by omega)] at q
      by_cases h1 : mm k = 0
      · rw [if_pos (i_eq (b := 0) (by decide) h1)]
        by_cases h2 : da k = 0
        · rw [if_pos (i_eq (b := 0) (by decide) h2)]
          by_cases h3 : se k = 0
          · rw [if_pos (i_eq (b := 0) (by decide) h3)]
            have hu : sp_uS mm da se k = false := decide_eq_false (by omega)
            rw [hu, if_neg (show ¬ (false = true) by decide)] at q
            exact q
          · rw [if_neg (i_neq (b := 0) (by decide) (by omega))]
            have hu : sp_uS mm da se k = true := decide_eq_true (by omega)
            rw [hu, if_pos rfl] at q
            exact q
        · rw [if_neg (i_neq (b := 0) (by decide) (by omega))]
          have hu : sp_uS mm da se k = true := decide_eq_true (by omega)
          rw [hu, if_pos rfl] at q
          exact q
      · rw [if_neg (i_neq (b := 0) (by decide) (by omega))]
        have hu : sp_uS mm da se k = true := decide_eq_true (by omega)
        rw [hu, if_pos rfl] at q
        exact q
theorem or_0 (x : Int32) : x ||| (0 : Int32) = x := Int32.or_zero
theorem e_c48 (N : Nat) {j : Nat → Int64} {F G S : Nat → Int32} {mm da se : Nat → Int} {a b c : Nat → Int32} (hS : RelS mm da se a b c S) (K : Int32 → Int32 → Int32 → Int32 → (Nat → Int32) → Option (Int32 × (Nat → Int32))) (v1 t0 t1 : Int32) {k : Nat} (hk : k < 8) (i : Nat → Int32) : fX10_count_j48 N j F G S K v1 (sp_um (sp_uS mm da se) k) (zI k) t0 t1 i = K v1 (t1 ||| t0) (sp_um (sp_uS mm da se) (k + 1)) (zI ((k + 1 : Nat) : Int)) i := by
  obtain ⟨s1, s2, s3, s4, s5, s6, s7⟩ := hS k hk
  have c1 : zI (k : Int) + (1 : Int32) = zI ((k + 1 : Nat) : Int) := by rw [zl_1, zI_add]; rfl
  have c3 : (3 : Int32) * zI (k : Int) = zI (3 * k) := by rw [zl_3, zI_mul]
  have c31 : zI (3 * (k : Int)) + (1 : Int32) = zI (3 * k + 1) := by rw [zl_1, zI_add]
  have c32 : zI (3 * (k : Int)) + (2 : Int32) = zI (3 * k + 2) := by rw [zl_2, zI_add]
  unfold fX10_count_j48
  simp (disch := omega) only [c3, c31, c32, gi_z, zI_cl, tn3, tn31, tn32, s4, s5, s6, c1, nm_t, or_0]
  rw [um_s]
  by_cases h1 : mm k = 0
  · rw [if_pos (i_eq (b := 0) (by decide) h1)]
    by_cases h2 : da k = 0
    · rw [if_pos (i_eq (b := 0) (by decide) h2)]
      by_cases h3 : se k = 0
      · rw [if_pos (i_eq (b := 0) (by decide) h3), show sp_uS mm da se k = false from decide_eq_false (by omega), if_neg (show ¬ (false = true) by decide)]
      · rw [if_neg (i_neq (b := 0) (by decide) (by omega)), show sp_uS mm da se k = true from decide_eq_true (by omega), if_pos rfl]
    · rw [if_neg (i_neq (b := 0) (by decide) (by omega)), show sp_uS mm da se k = true from decide_eq_true (by omega), if_pos rfl]
  · rw [if_neg (i_neq (b := 0) (by decide) (by omega)), show sp_uS mm da se k = true from decide_eq_true (by omega), if_pos rfl]
theorem l_count (N : Nat) {j : Nat → Int64} {f g F G S : Nat → Int32} {dd ss mm da se : Nat → Int} {a b c : Nat → Int32} (hM : RelM dd ss f g F G) (hS : RelS mm da se a b c S) (v1 : Int32) (i : Nat → Int32) : ∀ (n k : Nat), k ≤ 8 → 8 < k + n → fX10_count_l12 N j F G S n v1 (sp_um (sp_uM dd ss) k) (sp_um (sp_uS mm da se) k) (zI k) i = (if v1 = (0 : Int32) then some (sp_um (sp_uM dd ss) 8, i) else if v1 = (1 : Int32) then some (sp_um (sp_uS mm da se) 8, i) else if v1 = (2 : Int32) then some (i 8, i) else if v1 = (3 : Int32) then some (i 6, i) else some ((-1 : Int32), i)) := by
  intro n
  induction n with
  | zero => intro k h1 h2; omega
  | succ n ih =>
    intro k h1 h2
    rw [fX10_count_l12_s]
    by_cases hd : 8 ≤ k
    · have : k = 8 := by omega
      subst this
      rw [if_pos (i_ge' (b := 8) (by decide) (by omega))]
    · obtain ⟨f1, f2, f3, f4, f5, f6⟩ := hM k (by omega)
      rw [if_neg (i_nge' (b := 8) (by decide) (by omega)), gi_z (by omega) (by omega) (by omega), gi_z (by omega) (by omega) (by omega), zI_cl (by omega) (by omega), tn1, f3, f4]
      simp only [e_c48 N hS _ _ _ _ (show k < 8 by omega)]
      have q := ih (k + 1) (by omega) (by omega)
      rw [um_s (sp_uM dd ss)] at q
      by_cases h1 : dd k = 0
      · rw [if_pos (i_eq (b := 0) (by decide) h1)]
        by_cases h2 : ss k = 0
        · rw [if_pos (i_eq (b := 0) (by decide) h2), or_0]
          rw [show sp_uM dd ss k = false from decide_eq_false (by omega), if_neg (show ¬ (false = true) by decide)] at q
          exact q
        · rw [if_neg (i_neq (b := 0) (by decide) (by omega))]
          rw [show sp_uM dd ss k = true from decide_eq_true (by omega), if_pos rfl] at q
          exact q
      · rw [if_neg (i_neq (b := 0) (by decide) (by omega))]
        rw [show sp_uM dd ss k = true from decide_eq_true (by omega), if_pos rfl] at q
        exact q
/-! the text -/
def sp_byte (c : Int) : Int := if c < 128 then c else c - 256
def RelT (ti : Int32) (ts i T : Nat → Int32) : Prop := ∃ (n : Nat) (c : Nat → Int), n ≤ 100 ∧ ti = zI n ∧ i 6 = zI n ∧ ∀ k, k < n → ts k = zI (c k) ∧ T k = zI (sp_byte (c k)) ∧ 0 ≤ c k ∧ c k ≤ 255
def RelC (ci : Int32) : Prop := ∃ n : Nat, n ≤ 100 ∧ ci = zI n
theorem RelT.cong {ti : Int32} {ts i i2 T : Nat → Int32} (h : RelT ti ts i T) (e : i2 6 = i 6) : RelT ti ts i2 T := by
  obtain ⟨n, c, h1, h2, h3, h4⟩ := h
  exact ⟨n, c, h1, h2, by rw [e, h3], h4⟩
theorem p_count (N : Nat) (hN : 200000 ≤ N) (p1 : Int32) {ks : Int32} {f : Nat → Int32} {g : Nat → Int32} {a : Nat → Int32} {b : Nat → Int32} {c : Nat → Int32} {tl : Int32} {ti : Int32} {i : Nat → Int32} {j : Nat → Int64} {F : Nat → Int32} {G : Nat → Int32} {S : Nat → Int32} {nn : Nat → Int64} {R : Nat → Int64} {ts : Nat → Int32} {T : Nat → Int32} {dd ss mm da se : Nat → Int} (hM : RelM dd ss f g F G) (hS : RelS mm da se a b c S) (hR : RelR tl nn i R) (hT : RelT ti ts i T) : 
    ∃ (r : Int32) (i' : Nat → Int32), fX9_count N p1 ks f g a b c tl ti = some r ∧ fX10_count N p1 i j F G S = some (r, i') ∧ RelR tl nn i' R ∧ i' 4 = i 4 ∧ i' 6 = i 6 := by
  have hR0 := hR
  obtain ⟨n, hn, t1, r8, -⟩ := hR
  obtain ⟨n2, c2, hn2, t2, r6, -⟩ := hT
  refine ⟨if p1 = (0 : Int32) then sp_um (sp_uM dd ss) 8 else if p1 = (1 : Int32) then sp_um (sp_uS mm da se) 8 else if p1 = (2 : Int32) then zI n else if p1 = (3 : Int32) then zI n2 else (-1 : Int32), upd i 9 (0 : Int32), ?_, ?_, hR0.cong (upd_n (by omega)), by simp (disch := omega) only [upd_n], by simp (disch := omega) only [upd_n]⟩
  · unfold fX9_count fX9_usedSlots fX3_length fX6_length
    have u0 := l_used0 N (ks := ks) (a := a) (b := b) (c := c) hM N 0 (by omega) (by omega)
    have u1 := l_used1 N (ks := ks) (f := f) (g := g) hS N 0 (by omega) (by omega)
    rw [show sp_um (sp_uM dd ss) 0 = (0 : Int32) from rfl, show zI ((0 : Nat) : Int) = (0 : Int32) by decide] at u0
    rw [show sp_um (sp_uS mm da se) 0 = (0 : Int32) from rfl, show zI ((0 : Nat) : Int) = (0 : Int32) by decide] at u1
    rw [u0, u1, bd1_s, bd1_s, bd1_s, bd1_s, t1, t2]
    split
    · rfl
    · split
      · rfl
      · split
        · rfl
        · split <;> rfl
  · unfold fX10_count
    have u := l_count N (j := j) hM hS p1 (upd i 9 (0 : Int32)) N 0 (by omega) (by omega)
    rw [show sp_um (sp_uM dd ss) 0 = (0 : Int32) from rfl, show sp_um (sp_uS mm da se) 0 = (0 : Int32) from rfl, show zI ((0 : Nat) : Int) = (0 : Int32) by decide] at u
    rw [u, upd_n (by omega), upd_n (by omega), r8, r6]
    split
    · rfl
    · split
      · rfl
      · split
        · rfl
        · split <;> rfl
/-! end, sign -/
theorem p_end (N : Nat) (hN : 200000 ≤ N) (p1 : Int32) {ks : Int32} {ti : Int32} {i : Nat → Int32} {j : Nat → Int64} {ts : Nat → Int32} {T : Nat → Int32} (hT : RelT ti ts i T) : 
    ∃ (r : Int32) (ti' : Int32) (i' : Nat → Int32), fX9_end N p1 ks ti = some (r, ti') ∧ fX10_end N p1 i j = some (r, i') ∧ RelT ti' ts i' T ∧ i' 4 = i 4 ∧ i' 8 = i 8 := by
  obtain ⟨z1, l1, v1, rfl⟩ := zI_of p1
  obtain ⟨n, c, hn, rfl, r6, hc⟩ := hT
  unfold fX9_end fX10_end
  rw [r6]
  by_cases h : 0 ≤ z1 ∧ z1 ≤ n
  · have e : fX6_cut N (zI z1) (zI n) = some (zI z1) := by
      unfold fX6_cut
      rw [if_neg (i_nlt (b := 0) (by decide) (by omega)), if_neg (i_nlt rfl (by omega))]
    unfold fX6_length
    rw [if_neg (i_nlt (b := 0) (by decide) (by omega)), bd1_s, if_pos (i_le rfl (by omega)), e, bd1_s, m_in1 N (lo := 0) (hi := n) (by decide) (zI_toL (by omega) (by omega)) (by omega) h, bd1_s, if_neg z10]
    refine ⟨_, _, _, rfl, rfl, ⟨z1.toNat, c, by omega, by congr 1; omega, ?_, fun k hk => hc k (by omega)⟩, by simp (disch := omega) only [upd_n], by simp (disch := omega) only [upd_n]⟩
    rw [upd_s]; congr 1; omega
  · rw [m_in0 N (lo := 0) (hi := n) (by decide) (zI_toL (by omega) (by omega)) l1 v1 (by omega) h, bd1_s, if_pos z00]
    refine ⟨(0 : Int32), zI n, _, ?_, rfl, ⟨n, c, hn, rfl, by rw [upd_n (by omega), r6], hc⟩, by simp (disch := omega) only [upd_n], by simp (disch := omega) only [upd_n]⟩
    unfold fX6_length
    by_cases h0 : z1 < 0
    · rw [if_pos (i_lt (b := 0) (by decide) (by omega))]
    · rw [if_neg (i_nlt (b := 0) (by decide) (by omega)), bd1_s, if_neg (i_nle rfl (by omega))]
