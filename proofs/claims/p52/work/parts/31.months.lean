/-! the most months towards a goal -/
def sp_okB (way law x t G n : Int) : Bool := match sp_addM (way * n) law x with
  | some p => decide (0 ≤ way * (G - (p.1 * 86400 + t)))
  | none => false
def sp_fm (st : Nat) (way law x t G : Int) : Nat → Nat
  | 0 => 0
  | k + 1 => if (k + 1) % st = 0 ∧ sp_okB way law x t G ((k + 1 : Nat) : Int) = true then k + 1 else sp_fm st way law x t G k
theorem fm_s (st : Nat) (way law x t G : Int) (k : Nat) : sp_fm st way law x t G (k + 1) = if (k + 1) % st = 0 ∧ sp_okB way law x t G ((k + 1 : Nat) : Int) = true then k + 1 else sp_fm st way law x t G k := rfl
theorem fm_le (st : Nat) (way law x t G : Int) : ∀ k, sp_fm st way law x t G k ≤ k
  | 0 => Nat.le_refl 0
  | k + 1 => by
    rw [fm_s]
    have := fm_le st way law x t G k
    split <;> omega
theorem fm_skip {st : Nat} {way law x t G : Int} (hst : st = 1 ∨ st = 12) {a : Nat} (ha : a % st = 0) : ∀ d, d < st → sp_fm st way law x t G (a + d) = sp_fm st way law x t G a
  | 0, _ => rfl
  | d + 1, h => by
    rw [show a + (d + 1) = (a + d) + 1 by omega, fm_s, if_neg]
    · exact fm_skip hst ha d (by omega)
    · rintro ⟨h1, -⟩
      rcases hst with rfl | rfl <;> omega
theorem fm_top {st : Nat} {way law x t G : Int} {a : Nat} : ∀ d, (∀ q : Nat, a < q → q ≤ a + d → sp_okB way law x t G (q : Int) = false) → sp_fm st way law x t G (a + d) = sp_fm st way law x t G a
  | 0, _ => rfl
  | d + 1, h => by
    rw [show a + (d + 1) = (a + d) + 1 by omega, fm_s, if_neg]
    · exact fm_top d (fun q h1 h2 => h q h1 (by omega))
    · rintro ⟨-, h1⟩
      rw [h (a + d + 1) (by omega) (by omega)] at h1
      exact absurd h1 (by decide)
theorem fm_mod {st : Nat} {way law x t G : Int} : ∀ k, sp_fm st way law x t G k % st = 0
  | 0 => Nat.zero_mod st
  | k + 1 => by
    rw [fm_s]
    split
    · rename_i h; exact h.1
    · exact fm_mod k
theorem fm_ok {st : Nat} {way law x t G : Int} : ∀ k, sp_fm st way law x t G k ≠ 0 → sp_okB way law x t G (sp_fm st way law x t G k : Int) = true
  | 0, h => absurd rfl h
  | k + 1, h => by
    rw [fm_s] at h ⊢
    split
    · rename_i h1; exact h1.2
    · rename_i h1
      rw [if_neg h1] at h
      exact fm_ok k h
theorem add_m0 {m law x t : Int} (h1 : 0 ≤ x ∧ x ≤ 3652058) (h2 : 0 ≤ t ∧ t ≤ 86399) : sp_add m 0 0 law 0 x t = (sp_addM m law x).bind fun p => some (p.1, t, p.2) := by
  unfold sp_add
  rw [if_pos rfl]
  cases e : sp_addM m law x with
  | none => rfl
  | some p =>
    have b := addM_b h1 (show sp_addM m law x = some (p.1, p.2) from e)
    have e1 : sp_Dy 0 p.1 = some p.1 := by unfold sp_Dy; rw [if_pos (by omega), Int.add_zero]
    have e2 : sp_S 0 p.1 t = some (p.1, t) := by
      unfold sp_S
      rw [if_pos (by omega), show (p.1 * 86400 + t + 0) / 86400 = p.1 by omega, show (p.1 * 86400 + t + 0) % 86400 = t by omega]
    simp only [Option.bind_some, e1, e2]
theorem addM_0 (law x : Int) : sp_addM 0 law x = some (x, 0) := if_pos rfl
theorem e_takesN0 (N : Nat) (a : Nat → Int32) (m law : Int) : fX0_takesNumbers N (zI m) (0 : Int32) (0 : Int32) (zI law) a = some (adT a m 0 0 law) := by
  rw [zl_0]; exact e_takesN N a m 0 0 law
theorem e_leadsM (N : Nat) {a : Nat → Int32} {m law x t : Int} (hA : AdW a) (hb : sp_b1 m) (hl : 0 ≤ law ∧ law ≤ 3) (h1 : 0 ≤ x ∧ x ≤ 3652058) (h2 : 0 ≤ t ∧ t ≤ 86399) :
    ∃ a' r, fX0_leads N (zI x) (zI t) (0 : Int32) (adT a m 0 0 law) = some (r, a') ∧ AdW a' ∧ ((∃ y sh, sp_addM m law x = some (y, sh) ∧ r = zI 1 ∧ a' 8 = zI y ∧ a' 9 = zI t ∧ (0 ≤ y ∧ y ≤ 3652058)) ∨ (sp_addM m law x = none ∧ r = zI 0)) := by
  obtain ⟨a', r, w1, A1, g⟩ := e_leads N (ord := 0) (hA.adT m 0 0 law) (show sp_b3 m 0 0 from ⟨hb, by omega, by omega⟩) hl (by omega) h1 h2
  have w1' : fX0_leads N (zI x) (zI t) (0 : Int32) (adT a m 0 0 law) = some (r, a') := by rw [zl_0]; exact w1
  rw [add_m0 h1 h2] at g
  refine ⟨a', r, w1', A1.w, ?_⟩
  cases e : sp_addM m law x with
  | none =>
    rw [e] at g
    rcases g with ⟨y, u, sh, g1, -⟩ | ⟨-, g2⟩
    · exact absurd g1 (by simp)
    · exact Or.inr ⟨rfl, g2⟩
  | some p =>
    rw [e] at g
    rcases g with ⟨y, u, sh, g1, g2, g3, g4, g5, g6, -⟩ | ⟨g1, -⟩
    · simp only [Option.bind_some, Option.some.injEq, Prod.mk.injEq] at g1
      obtain ⟨q1, q2, q3⟩ := g1
      subst q2
      exact Or.inl ⟨y, sh, by rw [← q1, ← q3], g2, g3, g4, g6⟩
    · exact absurd g1 (by simp)
theorem e_j67 (N : Nat) {ks : Int32} (K : Int32 → Int32 → Int64 → Int32 → Int32 → Int32 → Int32 → (Nat → Int32) → Option (Int32 × (Nat → Int32))) {x t G law way k : Int} (v6 : Int32) {ad : Nat → Int32} (had : AdW ad) (hx : 0 ≤ x ∧ x ≤ 3652058) (ht : 0 ≤ t ∧ t ≤ 86399) (hG : 0 ≤ G ∧ G ≤ 315537897599) (hl : 0 ≤ law ∧ law ≤ 3) (hway : way = 1 ∨ way = -1) (hk : 1 ≤ k ∧ k ≤ 200000) :
    ∃ ad', AdW ad' ∧ fX9_mostMonths_j67 N ks K (zI x) (zI t) (zL G) (zI law) v6 (zI way) (zI k) ad = (if sp_okB way law x t G k = true then some (zI (way * k), ad') else K (zI x) (zI t) (zL G) (zI law) v6 (zI way) (zI (k + -1)) ad') := by
  unfold fX9_mostMonths_j67
  have hb : sp_b1 (way * k) := by rcases hway with rfl | rfl <;> omega
  have c1 : zI k + (-1 : Int32) = zI (k + -1) := by rw [zl_m1, zI_add]
  obtain ⟨a', r, w1, A1, g⟩ := e_leadsM N (m := way * k) (law := law) had hb hl hx ht
  refine ⟨a', A1, ?_⟩
  rw [zI_mul, e_takesN0, bd1_s, w1, bd2_s, c1, nm_s]
  unfold sp_okB
  rcases g with ⟨y, sh, e, rfl, a8, a9, b1⟩ | ⟨e, rfl⟩
  · rw [e, if_neg z10, e_instant N a8 b1 a9 ht, bd1_s, zI_toL (by rcases hway with rfl | rfl <;> omega) (by rcases hway with rfl | rfl <;> omega), zL_sub, zL_mul, zll_0]
    show _ = if decide (0 ≤ way * (G - (y * 86400 + t))) = true then _ else _
    by_cases h : 0 ≤ way * (G - (y * 86400 + t))
    · rw [if_neg (k_nlt (by rcases hway with rfl | rfl <;> omega)), if_pos (by simpa using h)]
    · rw [if_pos (k_lt (by rcases hway with rfl | rfl <;> omega)), if_neg (by simpa using h)]
  · rw [e, if_pos z00, if_neg (show ¬ (false = true) by decide)]
theorem e_l46 (N : Nat) {ks : Int32} {x t G law way wy : Int} {st : Nat} (hx : 0 ≤ x ∧ x ≤ 3652058) (ht : 0 ≤ t ∧ t ≤ 86399) (hG : 0 ≤ G ∧ G ≤ 315537897599) (hl : 0 ≤ law ∧ law ≤ 3) (hway : way = 1 ∨ way = -1) (hst : (wy = 0 ∧ st = 1) ∨ (wy = 1 ∧ st = 12)) : ∀ (n k : Nat) (ad : Nat → Int32), AdW ad → k ≤ 120001 → k < n →
    ∃ ad', fX9_mostMonths_l46 N ks n (zI x) (zI t) (zL G) (zI law) (zI wy) (zI way) (zI k) ad = some (zI (way * (sp_fm st way law x t G k : Int)), ad') ∧ AdW ad' := by
  intro n
  induction n with
  | zero => intro k ad had h1 h2; omega
  | succ n ih =>
    intro k ad had h1 h2
    rw [fX9_mostMonths_l46_s]
    cases k with
    | zero =>
      rw [if_pos (i_le (b := 0) (by decide) (by omega))]
      refine ⟨ad, ?_, had⟩
      show some ((0 : Int32), ad) = some (zI (way * 0), ad)
      rw [Int.mul_zero, zl_0]
    | succ k =>
      have ck : zI (((k + 1 : Nat) : Int) + -1) = zI (k : Int) := by congr 1; omega
      rw [if_neg (i_nle (b := 0) (by decide) (by omega)), fm_s]
      obtain ⟨ad1, A1, e1⟩ := e_j67 N (ks := ks) (fX9_mostMonths_l46 N ks n) (k := ((k + 1 : Nat) : Int)) (zI wy) had hx ht hG hl hway (by omega)
      rw [ck] at e1
      obtain ⟨ad2, e2, A2⟩ := ih k ad1 A1 (by omega) (by omega)
      rcases hst with ⟨rfl, rfl⟩ | ⟨rfl, rfl⟩
      · rw [if_pos (i_eq (b := 0) (by decide) rfl), e1]
        by_cases h : sp_okB way law x t G ((k + 1 : Nat) : Int) = true
        · rw [if_pos h, if_pos ⟨by omega, h⟩]
          exact ⟨_, rfl, A1⟩
        · rw [if_neg h, if_neg (fun hh => h hh.2)]
          exact ⟨_, e2, A2⟩
      · have e12 : zI ((k + 1 : Nat) : Int) - zI ((k + 1 : Nat) : Int) / (12 : Int32) * (12 : Int32) = zI (((k + 1) % 12 : Nat) : Int) := by
          rw [zl_12, zI_div (by omega) (by omega) (by omega) (by omega), zI_mul, zI_sub, mod_fold]; rfl
        have c1 : zI ((k + 1 : Nat) : Int) + (-1 : Int32) = zI (k : Int) := by rw [zl_m1, zI_add, ck]
        rw [if_neg (i_neq (b := 0) (by decide) (by omega)), e12]
        by_cases hm : (k + 1) % 12 = 0
        · rw [if_pos (i_eq (b := 0) (by decide) (by omega)), e1]
          by_cases h : sp_okB way law x t G ((k + 1 : Nat) : Int) = true
          · rw [if_pos h, if_pos ⟨hm, h⟩]
            exact ⟨_, rfl, A1⟩
          · rw [if_neg h, if_neg (fun hh => h hh.2)]
            exact ⟨_, e2, A2⟩
        · rw [if_neg (i_neq (b := 0) (by decide) (by omega)), nm_s, c1, if_neg (fun hh => hm hh.1)]
          exact ih k ad had (by omega) (by omega)
