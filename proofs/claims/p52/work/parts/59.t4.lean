/-! spans written and read -/
def w_g (a : Int) : List Int := if a < 10 then [48 + a] else [48 + a / 10, 48 + a % 10]
def w_p (z U : Int) : List Int := if z = 0 then [] else (if z < 0 then [45] else []) ++ (w_g (z.natAbs : Int) ++ [U])
theorem w_g_len (a : Int) : (w_g a).length = 1 ∨ (w_g a).length = 2 := by unfold w_g; split; exact Or.inl rfl; exact Or.inr rfl
theorem w_p_len (z U : Int) : (w_p z U).length ≤ 4 := by
  unfold w_p
  split
  · exact Nat.zero_le _
  · have := w_g_len (z.natAbs : Int)
    rw [List.length_append, List.length_append]
    split <;> simp only [List.length_cons, List.length_nil] <;> omega
theorem pd (N f : Nat) {L : Int32} {s v : Int} (hs : 0 ≤ s ∧ s ≤ 99999) (hv : 1 ≤ v ∧ v ≤ s) {l : List Int} {ti : Int32} {ts : Nat → Int32} (h : TL l ti ts) (hl : l.length < 100) : ∃ ti' ts', fX6_putPart_l25 N (f + 1) L (zI s) (zI v) ti ts = fX6_putPart_l25 N f L (zI s) (zI (v / 10)) ti' ts' ∧ TL (l ++ [48 + s / v % 10]) ti' ts' := by
  have b1 : 0 ≤ s / v ∧ s / v ≤ s := ⟨Int.ediv_nonneg hs.1 (by omega), Int.ediv_le_self _ hs.1⟩
  have e : (48 : Int32) + ((zI s / zI v) - (zI s / zI v) / (10 : Int32) * (10 : Int32)) = zI (48 + s / v % 10) := by
    rw [zl_48, zl_10, zI_div (by omega) (by omega) (by omega) (by omega), zI_div (by omega) (by omega) (by omega) (by omega), zI_mul, zI_sub, mod_fold, zI_add]
  obtain ⟨t1, s1, e1, T1⟩ := h.put N hl e
  have gv : ¬ zI v = (0 : Int32) := i_neq (b := 0) (by decide) (by omega)
  rw [fX6_putPart_l25_s, if_neg (i_nle (b := 0) (by decide) (by omega)), if_neg (i_nlt rfl (by omega))]
  unfold gn
  rw [if_neg gv, e1, bd2_s, nm_s, zl_10, zI_div (by omega) (by omega) (by omega) (by omega)]
  exact ⟨_, _, rfl, T1⟩
theorem TL.part {l : List Int} {ti : Int32} {ts : Nat → Int32} (h : TL l ti ts) (N : Nat) (hN : 200000 ≤ N) (hl : l.length ≤ 90) {p1 p2 : Int32} {z U : Int} (e1 : p1 = zI z) (e2 : p2 = zI U) (hz : -99 ≤ z ∧ z ≤ 99) : ∃ ti' ts', fX6_putPart N p1 p2 ti ts = some (ti', ts') ∧ TL (l ++ w_p z U) ti' ts' := by
  subst e1; subst e2
  obtain ⟨n, rfl⟩ : ∃ n, N = n + 7 := ⟨N - 7, by omega⟩
  unfold fX6_putPart
  by_cases h0 : z = 0
  · rw [if_pos (i_eq (b := 0) (by decide) h0)]
    refine ⟨_, _, rfl, ?_⟩
    rw [show w_p z U = [] from if_pos h0, List.append_nil]
    exact h
  rw [if_neg (i_neq (b := 0) (by decide) (by omega))]
  have eA : (if 0 ≤ zI z then zI z else 0 - zI z) = zI (z.natAbs : Int) := by
    by_cases h : 0 ≤ z
    · rw [if_pos (i_ge' (b := 0) (by decide) (by omega))]; congr 1; omega
    · rw [if_neg (i_nge' (b := 0) (by decide) (by omega)), zl_0, zI_sub]; congr 1; omega
  obtain ⟨a, ha⟩ : ∃ a : Int, a = (z.natAbs : Int) := ⟨_, rfl⟩
  have ba : 1 ≤ a ∧ a ≤ 99 := by omega
  rw [← ha] at eA
  -- the digits and the unit
  have go : ∀ (l0 : List Int) (ti ts), TL l0 ti ts → l0.length ≤ 91 → ∃ ti' ts', fX6_putPart_l25 (n + 7) (n + 7) (zI U) (zI a) (10000 : Int32) ti ts = some (ti', ts') ∧ TL (l0 ++ (w_g a ++ [U])) ti' ts' := by
    intro l0 ti ts hT hl0
    have fin : ∀ (f : Nat) (l1 : List Int) (ti ts), TL l1 ti ts → l1.length ≤ 99 → ∃ ti' ts', fX6_putPart_l25 (n + 7) (f + 1) (zI U) (zI a) (zI 0) ti ts = some (ti', ts') ∧ TL (l1 ++ [U]) ti' ts' := by
      intro f l1 ti ts hT1 hl1
      obtain ⟨t1, s1, e1, T1⟩ := hT1.put (n + 7) (by omega) (v := zI U) rfl
      rw [fX6_putPart_l25_s, if_pos (i_le (b := 0) (by decide) (by omega)), e1, bd2_s]
      exact ⟨_, _, rfl, T1⟩
    rw [show (10000 : Int32) = zI (pw 5) by decide]
    unfold w_g
    by_cases h10 : a < 10
    · rw [if_pos h10]
      have sk := w_skip (n + 7) (s := a) (e := 1) (show a < pw 2 by show a < 10; omega) (by omega) (zI U) ti ts (n + 3) 4 (by omega)
      obtain ⟨t1, s1, e1, T1⟩ := pd (n + 7) (n + 2) (L := zI U) (s := a) (v := 1) (by omega) (by omega) hT (by omega)
      obtain ⟨t2, s2, e2, T2⟩ := fin (n + 1) _ t1 s1 T1 (by rw [List.length_append]; simp only [List.length_cons, List.length_nil]; omega)
      refine ⟨t2, s2, ?_, ?_⟩
      · refine Eq.trans sk (Eq.trans e1 ?_)
        exact e2
      · rw [show a / 1 % 10 = a by omega, List.append_assoc] at T2
        exact T2
    · rw [if_neg h10]
      have sk := w_skip (n + 7) (s := a) (e := 2) (show a < pw 3 by show a < 100; omega) (by omega) (zI U) ti ts (n + 4) 3 (by omega)
      obtain ⟨t1, s1, e1, T1⟩ := pd (n + 7) (n + 3) (L := zI U) (s := a) (v := 10) (by omega) (by omega) hT (by omega)
      obtain ⟨t2, s2, e2, T2⟩ := pd (n + 7) (n + 2) (L := zI U) (s := a) (v := 1) (by omega) (by omega) T1 (by rw [List.length_append]; simp only [List.length_cons, List.length_nil]; omega)
      obtain ⟨t3, s3, e3, T3⟩ := fin (n + 1) _ t2 s2 T2 (by rw [List.length_append, List.length_append]; simp only [List.length_cons, List.length_nil]; omega)
      refine ⟨t3, s3, ?_, ?_⟩
      · refine Eq.trans sk (Eq.trans e1 ?_)
        exact Eq.trans e2 e3
      · rw [show a / 1 % 10 = a % 10 by omega, show a / 10 % 10 = a / 10 by omega, List.append_assoc, List.append_assoc] at T3
        exact T3
  have ew : w_p z U = (if z < 0 then [45] else []) ++ (w_g a ++ [U]) := by unfold w_p; rw [if_neg h0, ha]
  rw [ew]
  by_cases hz0 : 0 ≤ z
  · rw [if_pos (i_ge' (b := 0) (by decide) (by omega)), eA, nm_s, if_neg (by omega)]
    exact go l ti ts h (by omega)
  · obtain ⟨t1, s1, e1, T1⟩ := h.put (n + 7) (by omega) (v := (45 : Int32)) (z := 45) (by decide)
    rw [if_neg (i_nge' (b := 0) (by decide) (by omega)), e1, bd2_s, eA, nm_s, if_pos (by omega)]
    obtain ⟨t2, s2, e2, T2⟩ := go _ t1 s1 T1 (by rw [List.length_append]; simp only [List.length_cons, List.length_nil]; omega)
    refine ⟨t2, s2, e2, ?_⟩
    rw [List.append_assoc] at T2
    exact T2
/-! a part read -/
theorem gd_mid (A P B : List Int) {j : Nat} (hj : j < P.length) : (A ++ (P ++ B)).getD (A.length + j) 0 = P.getD j 0 := by
  rw [List.getD_eq_getElem?_getD, List.getD_eq_getElem?_getD, List.getElem?_append_right (by omega), show A.length + j - A.length = j by omega, List.getElem?_append_left hj]
theorem r_part (N : Nat) {n : Nat} {c : Nat → Int} {ts T : Nat → Int32} (hT : TX n c ts T) {A B : List Int} {z U : Int} (hc : ∀ k, c k = (A ++ (w_p z U ++ B)).getD k 0) (hn : n = (A ++ (w_p z U ++ B)).length) {u : Int} {k : Nat} (hk : k < 7) (hU : su U = (k : Int)) (hU2 : 97 ≤ U ∧ U ≤ 122) (hu : -1 ≤ u ∧ u < (k : Int)) (hz : -99 ≤ z ∧ z ≤ 99) {xv : Nat → Int} {sr : Nat → Int32} (hX : XV xv sr) (m : Nat) : ∃ u' sr', fX5_wrongAt_l28 N (zI (n : Int)) ts (m + (w_p z U).length) (zI u) (zI 0) (zI 0) (0 : Int32) (zI (A.length : Int)) sr = fX5_wrongAt_l28 N (zI (n : Int)) ts m (zI u') (zI 0) (zI 0) (0 : Int32) (zI ((A ++ w_p z U).length : Int)) sr' ∧ XV (zup xv (pt k) (xv (pt k) + z * cnt k)) sr' ∧ ((u' = u ∧ z = 0) ∨ (u' = (k : Int) ∧ z ≠ 0)) := by
  by_cases h0 : z = 0
  · have e : w_p z U = [] := if_pos h0
    have ez : zup xv (pt k) (xv (pt k) + z * cnt k) = xv := by
      funext j; unfold zup; split
      · rename_i ej; rw [ej, h0, Int.zero_mul, Int.add_zero]
      · rfl
    rw [e, List.append_nil, ez]
    exact ⟨u, sr, rfl, hX, Or.inl ⟨rfl, h0⟩⟩
  obtain ⟨a, ha⟩ : ∃ a : Int, a = (z.natAbs : Int) := ⟨_, rfl⟩
  have ba : 1 ≤ a ∧ a ≤ 99 := by omega
  have ew : w_p z U = (if z < 0 then [45] else []) ++ (w_g a ++ [U]) := by unfold w_p; rw [if_neg h0, ha]
  have hcP : ∀ j, j < (w_p z U).length → c (A.length + j) = (w_p z U).getD j 0 := fun j hj => by rw [hc, gd_mid A _ B hj]
  have hnl : n = A.length + ((w_p z U).length + B.length) := by rw [hn, List.length_append, List.length_append]
  rw [List.length_append]
  rw [ew] at hcP hnl ⊢
  have fin : ∀ b : Int32, xs b a = z → XV (zup xv (pt k) (xv (pt k) + z * cnt k)) (upd sr (pt k) (sr (pt k) + zI (xs b a * cnt k))) := fun b hb => by rw [hb]; exact hX.up (pt k) (pt_b k) _
  have x0 : xs (0 : Int32) a = a := if_pos rfl
  have x1 : xs (1 : Int32) a = -a := if_neg (by decide)
  unfold w_g at hcP hnl ⊢
  by_cases hs : z < 0
  · rw [if_pos hs] at hcP hnl ⊢
    by_cases h10 : a < 10
    · rw [if_pos h10] at hcP hnl ⊢
      have d0 := hcP 0 (Nat.le_of_ble_eq_true rfl)
      have d1 := hcP 1 (Nat.le_of_ble_eq_true rfl)
      have d2 := hcP 2 (Nat.le_of_ble_eq_true rfl)
      have d0 : c A.length = 45 := d0
      have d1 : c (A.length + 1) = 48 + a := d1
      have d2 : c (A.length + 2) = U := d2
      have hnl : n = A.length + (3 + B.length) := hnl
      refine ⟨(k : Int), _, ?_, fin 1 (by rw [x1]; omega), Or.inr ⟨rfl, h0⟩⟩
      show fX5_wrongAt_l28 N (zI (n : Int)) ts (m + 2 + 1) _ _ _ _ _ _ = _
      rw [c_minus N hT sr (m + 2) (by omega) (by omega) d0]
      rw [c_dig N hT sr (m + 1) (p := A.length + 1) (by omega) (by omega) (by omega) (by omega) (by omega) (by omega), d1]
      rw [c_take N hT sr m (p := A.length + 1 + 1) (by omega) (by omega) (by rw [show A.length + 1 + 1 = A.length + 2 from rfl, d2]; omega) (by rw [show A.length + 1 + 1 = A.length + 2 from rfl, d2]; omega) (by omega) (k := k) (by rw [show A.length + 1 + 1 = A.length + 2 from rfl, d2, hU]) (by omega)]
      rw [show 10 * 0 + (48 + a) - 48 = a by omega]
      rfl
    · rw [if_neg h10] at hcP hnl ⊢
      have d0 : c A.length = 45 := hcP 0 (Nat.le_of_ble_eq_true rfl)
      have d1 : c (A.length + 1) = 48 + a / 10 := hcP 1 (Nat.le_of_ble_eq_true rfl)
      have d2 : c (A.length + 1 + 1) = 48 + a % 10 := hcP 2 (Nat.le_of_ble_eq_true rfl)
      have d3 : c (A.length + 1 + 1 + 1) = U := hcP 3 (Nat.le_of_ble_eq_true rfl)
      have hnl : n = A.length + (4 + B.length) := hnl
      refine ⟨(k : Int), _, ?_, fin 1 (by rw [x1]; omega), Or.inr ⟨rfl, h0⟩⟩
      show fX5_wrongAt_l28 N (zI (n : Int)) ts (m + 3 + 1) _ _ _ _ _ _ = _
      rw [c_minus N hT sr (m + 3) (by omega) (by omega) d0]
      rw [c_dig N hT sr (m + 2) (p := A.length + 1) (by omega) (by omega) (by omega) (by omega) (by omega) (by omega), d1]
      rw [c_dig N hT sr (m + 1) (p := A.length + 1 + 1) (by omega) (by omega) (by omega) (by omega) (by omega) (by omega), d2]
      rw [c_take N hT sr m (p := A.length + 1 + 1 + 1) (by omega) (by omega) (by rw [d3]; omega) (by rw [d3]; omega) (by omega) (k := k) (by rw [d3, hU]) (by omega)]
      rw [show 10 * (10 * 0 + (48 + a / 10) - 48) + (48 + a % 10) - 48 = a by omega]
      rfl
  · rw [if_neg hs] at hcP hnl ⊢
    by_cases h10 : a < 10
    · rw [if_pos h10] at hcP hnl ⊢
      have d1 : c A.length = 48 + a := hcP 0 (Nat.le_of_ble_eq_true rfl)
      have d2 : c (A.length + 1) = U := hcP 1 (Nat.le_of_ble_eq_true rfl)
      have hnl : n = A.length + (2 + B.length) := hnl
      refine ⟨(k : Int), _, ?_, fin 0 (by rw [x0]; omega), Or.inr ⟨rfl, h0⟩⟩
      show fX5_wrongAt_l28 N (zI (n : Int)) ts (m + 1 + 1) _ _ _ _ _ _ = _
      rw [c_dig N hT sr (m + 1) (p := A.length) (by omega) (by omega) (by omega) (by omega) (by omega) (by omega), d1]
      rw [c_take N hT sr m (p := A.length + 1) (by omega) (by omega) (by rw [d2]; omega) (by rw [d2]; omega) (by omega) (k := k) (by rw [d2, hU]) (by omega)]
      rw [show 10 * 0 + (48 + a) - 48 = a by omega]
      rfl
    · rw [if_neg h10] at hcP hnl ⊢
      have d1 : c A.length = 48 + a / 10 := hcP 0 (Nat.le_of_ble_eq_true rfl)
      have d2 : c (A.length + 1) = 48 + a % 10 := hcP 1 (Nat.le_of_ble_eq_true rfl)
      have d3 : c (A.length + 1 + 1) = U := hcP 2 (Nat.le_of_ble_eq_true rfl)
      have hnl : n = A.length + (3 + B.length) := hnl
      refine ⟨(k : Int), _, ?_, fin 0 (by rw [x0]; omega), Or.inr ⟨rfl, h0⟩⟩
      show fX5_wrongAt_l28 N (zI (n : Int)) ts (m + 2 + 1) _ _ _ _ _ _ = _
      rw [c_dig N hT sr (m + 2) (p := A.length) (by omega) (by omega) (by omega) (by omega) (by omega) (by omega), d1]
      rw [c_dig N hT sr (m + 1) (p := A.length + 1) (by omega) (by omega) (by omega) (by omega) (by omega) (by omega), d2]
      rw [c_take N hT sr m (p := A.length + 1 + 1) (by omega) (by omega) (by rw [d3]; omega) (by rw [d3]; omega) (by omega) (k := k) (by rw [d3, hU]) (by omega)]
      rw [show 10 * (10 * 0 + (48 + a / 10) - 48) + (48 + a % 10) - 48 = a by omega]
      rfl
