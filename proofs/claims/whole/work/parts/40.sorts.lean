/-- the reference's search for the first of those not seen: sorts -/
theorem l_sorts25 (N : Nat) {j : Nat → Int64} {F G : Nat → Int32} (key : Nat → Int) (hcmp : ∀ (i : Nat → Int32) (x y : Nat) (A B : Option (Int32 × (Nat → Int32) × (Nat → Int64))), x < 8 → y < 8 → (bd1 (fX10_instantOf N (zI x) i j F G) fun r11 => (bd1 (fX10_instantOf N (zI y) i j F G) fun r13 => (if (0 : Int32) ≤ (lg_cmp r11 r13) then A else B))) = if key x < key y then B else A) (K14 : Int32 → Int32 → (Nat → Int32) → (Nat → Int64) → Option (Int32 × (Nat → Int32) × (Nat → Int64))) {q : Nat} (hq : q < 8) (v : Int32) (hv : ∀ x, x < 8 → bt v x = decide (sp_rk key x < q)) {i : Nat → Int32} (h8 : i 8 = zI q) (R : Nat → Int64) : ∀ (n k : Nat) (b : Int), k ≤ 8 → 8 < k + n → (b = -1 ∧ (∀ x, x < k → sp_rk key x < q)) ∨ (∃ y : Nat, b = y ∧ y < k ∧ q ≤ sp_rk key y ∧ ∀ x, x < k → q ≤ sp_rk key x → sp_lt key x y = false) →
    ∃ y : Nat, y < 8 ∧ sp_rk key y = q ∧ fX10_sorts_l25 N j F G K14 n v (zI q) (zI b) (zI k) i R = K14 (v ||| ((1 : Int32) <<< (zI y &&& 31))) (zI ((q + 1 : Nat) : Int)) (upd i 8 (zI ((q + 1 : Nat) : Int))) (vp_updL R q (zL y)) := by
  intro n
  induction n with
  | zero => intro k b h1 h2; omega
  | succ n ih =>
    intro k b h1 h2 hb
    rw [fX10_sorts_l25_s]
    by_cases hd : 8 ≤ k
    · have e : k = 8 := by omega
      subst e
      obtain ⟨x0, hx0, hr0⟩ := rk_sur key hq
      rcases hb with ⟨-, hb⟩ | ⟨y, rfl, hy, hyq, hmin⟩
      · have := hb x0 hx0; omega
      · have hyr : sp_rk key y = q := by
          have h3 := hmin x0 hx0 (by omega)
          by_cases e : x0 = y
          · subst e; exact hr0
          · rcases lt_tot (key := key) e with c | c
            · rw [c] at h3; exact absurd h3 (by decide)
            · have := rk_mono hy c; omega
        refine ⟨y, hy, hyr, ?_⟩
        rw [if_pos (i_ge' (b := 8) (by decide) (by omega)), nm_s, e_tell N h8 (by omega), bd2_s, nm_s, zI_toL (by omega) (by omega), show zI (q : Int) + (1 : Int32) = zI ((q + 1 : Nat) : Int) by rw [zl_1, zI_add]; rfl]
        rfl
    · have hk : k < 8 := by omega
      have c1 : zI (k : Int) + (1 : Int32) = zI ((k + 1 : Nat) : Int) := by rw [zl_1, zI_add]; rfl
      rw [if_neg (i_nge' (b := 8) (by decide) (by omega)), c1]
      have hbk := hv k hk
      by_cases hs : sp_rk key k < q
      · rw [decide_eq_true hs] at hbk
        rw [if_neg (fun h => by rw [(seen_0 v hk).mp h] at hbk; exact absurd hbk (by decide)), nm_s]
        refine ih (k + 1) b (by omega) (by omega) ?_
        rcases hb with ⟨h3, h4⟩ | ⟨y, h3, h4, h5, h6⟩
        · refine Or.inl ⟨h3, fun x hx => ?_⟩
          by_cases e : x = k
          · subst e; exact hs
          · exact h4 x (by omega)
        · refine Or.inr ⟨y, h3, by omega, h5, fun x hx hxq => ?_⟩
          by_cases e : x = k
          · subst e; omega
          · exact h6 x (by omega) hxq
      · rw [decide_eq_false hs] at hbk
        rw [if_pos ((seen_0 v hk).mpr hbk)]
        rcases hb with ⟨h3, h4⟩ | ⟨y, rfl, hyk, hyq, hmin⟩
        · rw [if_pos (i_eq (b := -1) (by decide) h3), nm_s]
          refine ih (k + 1) k (by omega) (by omega) (Or.inr ⟨k, rfl, by omega, by omega, fun x hx hxq => ?_⟩)
          by_cases e : x = k
          · subst e; exact lt_irr key x
          · have := h4 x (by omega); omega
        · rw [if_neg (i_neq (b := -1) (by decide) (by omega)), nm_s, nm_s]
          rw [hcmp i k y _ _ hk (by omega)]
          by_cases hc : key k < key y
          · rw [if_pos hc]
            refine ih (k + 1) k (by omega) (by omega) (Or.inr ⟨k, rfl, by omega, by omega, fun x hx hxq => ?_⟩)
            by_cases e : x = k
            · subst e; exact lt_irr key x
            · have h7 := hmin x (by omega) hxq
              refine decide_eq_false (fun h8 => ?_)
              have h9 : ¬ (key x < key y ∨ (key x = key y ∧ x < y)) := of_decide_eq_false h7
              omega
          · rw [if_neg hc]
            refine ih (k + 1) y (by omega) (by omega) (Or.inr ⟨y, rfl, by omega, hyq, fun x hx hxq => ?_⟩)
            by_cases e : x = k
            · subst e; exact decide_eq_false (by omega)
            · exact hmin x (by omega) hxq
theorem l_sorts14 (N : Nat) (hN : 200000 ≤ N) {j : Nat → Int64} {F G : Nat → Int32} (key : Nat → Int) (hcmp : ∀ (i : Nat → Int32) (x y : Nat) (A B : Option (Int32 × (Nat → Int32) × (Nat → Int64))), x < 8 → y < 8 → (bd1 (fX10_instantOf N (zI x) i j F G) fun r11 => (bd1 (fX10_instantOf N (zI y) i j F G) fun r13 => (if (0 : Int32) ≤ (lg_cmp r11 r13) then A else B))) = if key x < key y then B else A) : ∀ (n q : Nat) (v : Int32) (i : Nat → Int32) (R : Nat → Int64), q ≤ 8 → 8 < q + n → (∀ x, x < 8 → bt v x = decide (sp_rk key x < q)) → i 8 = zI q → (∀ x, x < 8 → sp_rk key x < q → R (sp_rk key x) = zL x) →
    ∃ i' R', fX10_sorts_l14 N j F G n v (zI q) i R = some ((R' 0).toInt32, i', R') ∧ i' 8 = zI 8 ∧ (∀ k, k ≠ 8 → i' k = i k) ∧ ∀ x, x < 8 → R' (sp_rk key x) = zL x := by
  intro n
  induction n with
  | zero => intro q v i R h1 h2; omega
  | succ n ih =>
    intro q v i R h1 h2 hv h8 hR
    rw [fX10_sorts_l14_s]
    by_cases hd : 8 ≤ q
    · have e : q = 8 := by omega
      subst e
      rw [if_pos (i_ge' (b := 8) (by decide) (by omega)), zl_0, gi_z (by omega) (by omega) (by omega), zI_cl (by omega) (by omega)]
      exact ⟨i, R, rfl, h8, fun _ _ => rfl, fun x hx => hR x hx (rk_8 hx)⟩
    · rw [if_neg (i_nge' (b := 8) (by decide) (by omega))]
      obtain ⟨y, hy, hyr, e1⟩ := l_sorts25 N key hcmp (fX10_sorts_l14 N j F G n) (show q < 8 by omega) v hv h8 R N 0 (-1) (by omega) (by omega) (Or.inl ⟨rfl, fun x hx => by omega⟩)
      rw [show zI ((0 : Nat) : Int) = (0 : Int32) by decide, ← zl_m1] at e1
      rw [e1]
      obtain ⟨i', R', f1, f2, f3, f4⟩ := ih (q + 1) (v ||| ((1 : Int32) <<< (zI y &&& 31))) (upd i 8 (zI ((q + 1 : Nat) : Int))) (vp_updL R q (zL y)) (by omega) (by omega) (fun x hx => by
        rw [seen_up v hy hx, hv x hx]
        by_cases e : x = y
        · subst e; rw [decide_eq_true (show x = x from rfl), Bool.or_true, decide_eq_true (by omega)]
        · have : sp_rk key x ≠ q := fun h => e (rk_inj (key := key) hx hy (by omega))
          rw [decide_eq_false e, Bool.or_false]
          by_cases h : sp_rk key x < q
          · rw [decide_eq_true h, decide_eq_true (by omega)]
          · rw [decide_eq_false h, decide_eq_false (by omega)]) upd_s (fun x hx hq => by
        by_cases e : x = y
        · subst e; rw [hyr, updL_s]
        · have : sp_rk key x ≠ q := fun h => e (rk_inj (key := key) hx hy (by omega))
          rw [updL_n this]
          exact hR x hx (by omega))
      exact ⟨i', R', f1, f2, fun k hk => by rw [f3 k hk, upd_n hk], f4⟩
/-- the reference's search for the first of those not seen: ranks -/
theorem l_ranks25 (N : Nat) {j : Nat → Int64} {S : Nat → Int32} (key : Nat → Int) (hcmp : ∀ (i : Nat → Int32) (x y : Nat) (A B : Option (Int32 × (Nat → Int32) × (Nat → Int64))), x < 8 → y < 8 → (bd1 (fX10_lengthOf N (zI x) i j S) fun r11 => (bd1 (fX10_lengthOf N (zI y) i j S) fun r13 => (if (0 : Int32) ≤ (Op.cmpValue (FP.dcmp r11 r13) .g) then A else B))) = if key x < key y then B else A) (K14 : Int32 → Int32 → (Nat → Int32) → (Nat → Int64) → Option (Int32 × (Nat → Int32) × (Nat → Int64))) {q : Nat} (hq : q < 8) (v : Int32) (hv : ∀ x, x < 8 → bt v x = decide (sp_rk key x < q)) {i : Nat → Int32} (h8 : i 8 = zI q) (R : Nat → Int64) : ∀ (n k : Nat) (b : Int), k ≤ 8 → 8 < k + n → (b = -1 ∧ (∀ x, x < k → sp_rk key x < q)) ∨ (∃ y : Nat, b = y ∧ y < k ∧ q ≤ sp_rk key y ∧ ∀ x, x < k → q ≤ sp_rk key x → sp_lt key x y = false) →
    ∃ y : Nat, y < 8 ∧ sp_rk key y = q ∧ fX10_ranks_l25 N j S K14 n v (zI q) (zI b) (zI k) i R = K14 (v ||| ((1 : Int32) <<< (zI y &&& 31))) (zI ((q + 1 : Nat) : Int)) (upd i 8 (zI ((q + 1 : Nat) : Int))) (vp_updL R q (zL y)) := by
  intro n
  induction n with
  | zero => intro k b h1 h2; omega
  | succ n ih =>
    intro k b h1 h2 hb
    rw [fX10_ranks_l25_s]
    by_cases hd : 8 ≤ k
    · have e : k = 8 := by omega
      subst e
      obtain ⟨x0, hx0, hr0⟩ := rk_sur key hq
      rcases hb with ⟨-, hb⟩ | ⟨y, rfl, hy, hyq, hmin⟩
      · have := hb x0 hx0; omega
      · have hyr : sp_rk key y = q := by
          have h3 := hmin x0 hx0 (by omega)
          by_cases e : x0 = y
          · subst e; exact hr0
          · rcases lt_tot (key := key) e with c | c
            · rw [c] at h3; exact absurd h3 (by decide)
            · have := rk_mono hy c; omega
        refine ⟨y, hy, hyr, ?_⟩
        rw [if_pos (i_ge' (b := 8) (by decide) (by omega)), nm_s, e_tell N h8 (by omega), bd2_s, nm_s, zI_toL (by omega) (by omega), show zI (q : Int) + (1 : Int32) = zI ((q + 1 : Nat) : Int) by rw [zl_1, zI_add]; rfl]
        rfl
    · have hk : k < 8 := by omega
      have c1 : zI (k : Int) + (1 : Int32) = zI ((k + 1 : Nat) : Int) := by rw [zl_1, zI_add]; rfl
      rw [if_neg (i_nge' (b := 8) (by decide) (by omega)), c1]
      have hbk := hv k hk
      by_cases hs : sp_rk key k < q
      · rw [decide_eq_true hs] at hbk
        rw [if_neg (fun h => by rw [(seen_0 v hk).mp h] at hbk; exact absurd hbk (by decide)), nm_s]
        refine ih (k + 1) b (by omega) (by omega) ?_
        rcases hb with ⟨h3, h4⟩ | ⟨y, h3, h4, h5, h6⟩
        · refine Or.inl ⟨h3, fun x hx => ?_⟩
          by_cases e : x = k
          · subst e; exact hs
          · exact h4 x (by omega)
        · refine Or.inr ⟨y, h3, by omega, h5, fun x hx hxq => ?_⟩
          by_cases e : x = k
          · subst e; omega
          · exact h6 x (by omega) hxq
      · rw [decide_eq_false hs] at hbk
        rw [if_pos ((seen_0 v hk).mpr hbk)]
        rcases hb with ⟨h3, h4⟩ | ⟨y, rfl, hyk, hyq, hmin⟩
        · rw [if_pos (i_eq (b := -1) (by decide) h3), nm_s]
          refine ih (k + 1) k (by omega) (by omega) (Or.inr ⟨k, rfl, by omega, by omega, fun x hx hxq => ?_⟩)
          by_cases e : x = k
          · subst e; exact lt_irr key x
          · have := h4 x (by omega); omega
        · rw [if_neg (i_neq (b := -1) (by decide) (by omega)), nm_s, nm_s]
          rw [hcmp i k y _ _ hk (by omega)]
          by_cases hc : key k < key y
          · rw [if_pos hc]
            refine ih (k + 1) k (by omega) (by omega) (Or.inr ⟨k, rfl, by omega, by omega, fun x hx hxq => ?_⟩)
            by_cases e : x = k
            · subst e; exact lt_irr key x
            · have h7 := hmin x (by omega) hxq
              refine decide_eq_false (fun h8 => ?_)
              have h9 : ¬ (key x < key y ∨ (key x = key y ∧ x < y)) := of_decide_eq_false h7
              omega
          · rw [if_neg hc]
            refine ih (k + 1) y (by omega) (by omega) (Or.inr ⟨y, rfl, by omega, hyq, fun x hx hxq => ?_⟩)
            by_cases e : x = k
            · subst e; exact decide_eq_false (by omega)
            · exact hmin x (by omega) hxq
theorem l_ranks14 (N : Nat) (hN : 200000 ≤ N) {j : Nat → Int64} {S : Nat → Int32} (key : Nat → Int) (hcmp : ∀ (i : Nat → Int32) (x y : Nat) (A B : Option (Int32 × (Nat → Int32) × (Nat → Int64))), x < 8 → y < 8 → (bd1 (fX10_lengthOf N (zI x) i j S) fun r11 => (bd1 (fX10_lengthOf N (zI y) i j S) fun r13 => (if (0 : Int32) ≤ (Op.cmpValue (FP.dcmp r11 r13) .g) then A else B))) = if key x < key y then B else A) : ∀ (n q : Nat) (v : Int32) (i : Nat → Int32) (R : Nat → Int64), q ≤ 8 → 8 < q + n → (∀ x, x < 8 → bt v x = decide (sp_rk key x < q)) → i 8 = zI q → (∀ x, x < 8 → sp_rk key x < q → R (sp_rk key x) = zL x) →
    ∃ i' R', fX10_ranks_l14 N j S n v (zI q) i R = some ((R' 0).toInt32, i', R') ∧ i' 8 = zI 8 ∧ (∀ k, k ≠ 8 → i' k = i k) ∧ ∀ x, x < 8 → R' (sp_rk key x) = zL x := by
  intro n
  induction n with
  | zero => intro q v i R h1 h2; omega
  | succ n ih =>
    intro q v i R h1 h2 hv h8 hR
    rw [fX10_ranks_l14_s]
    by_cases hd : 8 ≤ q
    · have e : q = 8 := by omega
      subst e
      rw [if_pos (i_ge' (b := 8) (by decide) (by omega)), zl_0, gi_z (by omega) (by omega) (by omega), zI_cl (by omega) (by omega)]
      exact ⟨i, R, rfl, h8, fun _ _ => rfl, fun x hx => hR x hx (rk_8 hx)⟩
    · rw [if_neg (i_nge' (b := 8) (by decide) (by omega))]
      obtain ⟨y, hy, hyr, e1⟩ := l_ranks25 N key hcmp (fX10_ranks_l14 N j S n) (show q < 8 by omega) v hv h8 R N 0 (-1) (by omega) (by omega) (Or.inl ⟨rfl, fun x hx => by omega⟩)
      rw [show zI ((0 : Nat) : Int) = (0 : Int32) by decide, ← zl_m1] at e1
      rw [e1]
      obtain ⟨i', R', f1, f2, f3, f4⟩ := ih (q + 1) (v ||| ((1 : Int32) <<< (zI y &&& 31))) (upd i 8 (zI ((q + 1 : Nat) : Int))) (vp_updL R q (zL y)) (by omega) (by omega) (fun x hx => by
        rw [seen_up v hy hx, hv x hx]
        by_cases e : x = y
        · subst e; rw [decide_eq_true (show x = x from rfl), Bool.or_true, decide_eq_true (by omega)]
        · have : sp_rk key x ≠ q := fun h => e (rk_inj (key := key) hx hy (by omega))
          rw [decide_eq_false e, Bool.or_false]
          by_cases h : sp_rk key x < q
          · rw [decide_eq_true h, decide_eq_true (by omega)]
          · rw [decide_eq_false h, decide_eq_false (by omega)]) upd_s (fun x hx hq => by
        by_cases e : x = y
        · subst e; rw [hyr, updL_s]
        · have : sp_rk key x ≠ q := fun h => e (rk_inj (key := key) hx hy (by omega))
          rw [updL_n this]
          exact hR x hx (by omega))
      exact ⟨i', R', f1, f2, fun k hk => by rw [f3 k hk, upd_n hk], f4⟩
/-! sorts -/
theorem ag8 {key : Nat → Int} {nn R : Nat → Int64} (h1 : ∀ y, y < 8 → nn (sp_rk key y) = zL y) (h2 : ∀ y, y < 8 → R (sp_rk key y) = zL y) : Ag 8 nn R := by
  intro k hk
  obtain ⟨x, hx, rfl⟩ := rk_sur key hk
  rw [h1 x hx, h2 x hx]
theorem p_sorts (N : Nat) (hN : 200000 ≤ N)  {ks : Int32} {f : Nat → Int32} {g : Nat → Int32} {a : Nat → Int32} {b : Nat → Int32} {c : Nat → Int32} {tl : Int32} {nn : Nat → Int64} {i : Nat → Int32} {j : Nat → Int64} {F : Nat → Int32} {G : Nat → Int32} {R : Nat → Int64} {S : Nat → Int32} {dd ss mm da se : Nat → Int} (hM : RelM dd ss f g F G) (hS : RelS mm da se a b c S) (hR : RelR tl nn i R) : 
    ∃ (r : Int32) (tl' : Int32) (nn' : Nat → Int64) (i' : Nat → Int32) (R' : Nat → Int64), fX9_sorts N ks f g a b c tl nn = some (r, tl', nn') ∧ fX10_sorts N i j F G R = some (r, i', R') ∧ RelR tl' nn' i' R' ∧ i' 4 = i 4 ∧ i' 6 = i 6 := by
  have hb : ∀ y, y < 8 → -1000000000000000000 ≤ dd y * 86400 + ss y ∧ dd y * 86400 + ss y ≤ 1000000000000000000 := fun y hy => by
    obtain ⟨f1, f2, f3, f4, f5, f6⟩ := hM y hy
    omega
  obtain ⟨nn', e1, e2⟩ := e_ranked N hN (ks := ks) (f := f) (g := g) (a := a) (b := b) (c := c) (0 : Int32) (fun y => dd y * 86400 + ss y) (fun X x k hx hk => by
    obtain ⟨f1, f2, f3, f4, f5, f6⟩ := hM k hk
    obtain ⟨g1, g2, g3, g4, g5, g6⟩ := hM x hx
    rw [if_pos rfl, e_instantAt N f g hk f1 f2 (by omega) (by omega), bd1_s, e_instantAt N f g hx g1 g2 (by omega) (by omega), bd1_s, zL_sub]) hb tl nn
  obtain ⟨i', R', w1, w2, w3, w4⟩ := l_sorts14 N hN (j := j) (F := F) (G := G) (fun y => dd y * 86400 + ss y) (fun i x y A B hx hy => by
    obtain ⟨f1, f2, f3, f4, f5, f6⟩ := hM x hx
    obtain ⟨g1, g2, g3, g4, g5, g6⟩ := hM y hy
    rw [e_instantOf_m N hx i F G j f3 f4 f5 f6, bd1_s, e_instantOf_m N hy i F G j g3 g4 g5 g6, bd1_s]
    by_cases h : dd x * 86400 + ss x < dd y * 86400 + ss y
    · rw [if_neg (k_nge (by omega)), if_pos h]
    · rw [if_pos (k_ge (by omega)), if_neg h]) N 0 (0 : Int32) (upd (upd i 8 (0 : Int32)) 9 (0 : Int32)) R (by omega) (by omega) (fun x hx => by
    rw [decide_eq_false (by omega), show bt 0 x = false from BitVec.getLsbD_zero]) (by rw [upd_n (by omega), upd_s]; rfl) (fun x hx h => by omega)
  have ag := ag8 e2 w4
  unfold fX9_sorts fX10_sorts
  rw [e1, bd3_s]
  rw [show zI ((0 : Nat) : Int) = (0 : Int32) by decide] at w1
  refine ⟨_, _, _, i', R', rfl, ?_, ⟨8, by omega, rfl, w2, ag⟩, by rw [w3 4 (by omega)]; simp (disch := omega) only [upd_n], by rw [w3 6 (by omega)]; simp (disch := omega) only [upd_n]⟩
  rw [w1, ag 0 (by omega)]
