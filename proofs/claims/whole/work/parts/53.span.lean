/-! spans read -/
def su (x : Int) : Int := if x = 121 then 0 else if x = 109 then 1 else if x = 119 then 2 else if x = 100 then 3 else if x = 104 then 4 else if x = 105 then 5 else if x = 115 then 6 else -1
theorem su_b (x : Int) : -1 ≤ su x ∧ su x ≤ 6 := by unfold su; repeat' split <;> omega
theorem su_tab : (List.range 257).all (fun k => decide (fX5_unitOf 0 (zI ((k : Int) - 1)) = some (zI (su ((k : Int) - 1))))) = true := by decide +kernel
theorem su_of (N : Nat) {x : Int} (h : -1 ≤ x ∧ x ≤ 255) : fX5_unitOf N (zI x) = some (zI (su x)) := by
  have e := of_decide_eq_true (List.all_eq_true.mp su_tab (x + 1).toNat (List.mem_range.mpr (by omega)))
  rw [show (((x + 1).toNat : Nat) : Int) - 1 = x by omega] at e
  exact e
theorem su_tx : ∀ k : Nat, k < 7 → ∀ x : Int, -1 ≤ x ∧ x ≤ 255 → (zI x = tx k ↔ su x = (k : Int)) := by
  intro k hk x hx
  have ez : ∀ y : Int, -1 ≤ y ∧ y ≤ 255 → (zI x = zI y ↔ x = y) := by
    intro y hy
    constructor
    · intro h
      by_cases q : x = y
      · exact q
      · exact absurd h (i_neq rfl (by omega))
    · intro h; rw [h]
  have m7 : k = 0 ∨ k = 1 ∨ k = 2 ∨ k = 3 ∨ k = 4 ∨ k = 5 ∨ k = 6 := by omega
  unfold su
  rcases m7 with rfl | rfl | rfl | rfl | rfl | rfl | rfl
  · rw [show tx 0 = zI 121 by decide, ez _ (by omega)]; repeat' split <;> omega
  · rw [show tx 1 = zI 109 by decide, ez _ (by omega)]; repeat' split <;> omega
  · rw [show tx 2 = zI 119 by decide, ez _ (by omega)]; repeat' split <;> omega
  · rw [show tx 3 = zI 100 by decide, ez _ (by omega)]; repeat' split <;> omega
  · rw [show tx 4 = zI 104 by decide, ez _ (by omega)]; repeat' split <;> omega
  · rw [show tx 5 = zI 105 by decide, ez _ (by omega)]; repeat' split <;> omega
  · rw [show tx 6 = zI 115 by decide, ez _ (by omega)]; repeat' split <;> omega
def pt (k : Nat) : Nat := if k < 2 then 0 else if k < 4 then 1 else 2
def cnt (k : Nat) : Int := if k = 0 then 12 else if k = 2 then 7 else if k = 4 then 3600 else if k = 5 then 60 else 1
theorem pt_b (k : Nat) : pt k < 3 := by unfold pt; (repeat' split) <;> omega
theorem e_part (N : Nat) {k : Nat} (hk : k < 7) : fX10_partOf N (zI (k : Int)) = some (zI (pt k : Int)) := by
  have m7 : k = 0 ∨ k = 1 ∨ k = 2 ∨ k = 3 ∨ k = 4 ∨ k = 5 ∨ k = 6 := by omega
  rcases m7 with rfl | rfl | rfl | rfl | rfl | rfl | rfl <;> rfl
theorem e_counts (N : Nat) {k : Nat} (hk : k < 7) : fX10_counts N (zI (k : Int)) = some (zI (cnt k)) := by
  have m7 : k = 0 ∨ k = 1 ∨ k = 2 ∨ k = 3 ∨ k = 4 ∨ k = 5 ∨ k = 6 := by omega
  rcases m7 with rfl | rfl | rfl | rfl | rfl | rfl | rfl <;> rfl
theorem e_take (N : Nat) {k : Nat} (hk : k < 7) (X : Int) (sr : Nat → Int32) : fX5_take N (zI (k : Int)) (zI X) sr = some (upd sr (pt k) (sr (pt k) + zI (X * cnt k))) := by
  have m7 : k = 0 ∨ k = 1 ∨ k = 2 ∨ k = 3 ∨ k = 4 ∨ k = 5 ∨ k = 6 := by omega
  have c1 : (12 : Int32) * zI X = zI (X * 12) := by rw [zl_12, zI_mul, Int.mul_comm]
  have c2 : (7 : Int32) * zI X = zI (X * 7) := by rw [zl_7, zI_mul, Int.mul_comm]
  have c3 : (3600 : Int32) * zI X = zI (X * 3600) := by rw [zl_3600, zI_mul, Int.mul_comm]
  have c4 : (60 : Int32) * zI X = zI (X * 60) := by rw [zl_60, zI_mul, Int.mul_comm]
  have c5 : zI X = zI (X * 1) := by rw [Int.mul_one]
  rcases m7 with rfl | rfl | rfl | rfl | rfl | rfl | rfl
  · exact (show _ = some (upd sr 0 (sr 0 + (12 : Int32) * zI X)) from rfl).trans (by rw [c1]; rfl)
  · exact (show _ = some (upd sr 0 (sr 0 + zI X)) from rfl).trans (by rw [c5]; rfl)
  · exact (show _ = some (upd sr 1 (sr 1 + (7 : Int32) * zI X)) from rfl).trans (by rw [c2]; rfl)
  · exact (show _ = some (upd sr 1 (sr 1 + zI X)) from rfl).trans (by rw [c5]; rfl)
  · exact (show _ = some (upd sr 2 (sr 2 + (3600 : Int32) * zI X)) from rfl).trans (by rw [c3]; rfl)
  · exact (show _ = some (upd sr 2 (sr 2 + (60 : Int32) * zI X)) from rfl).trans (by rw [c4]; rfl)
  · exact (show _ = some (upd sr 2 (sr 2 + zI X)) from rfl).trans (by rw [c5]; rfl)
/-! the reference's search for a letter -/
theorem s_search (N : Nat) {n : Nat} {c : Nat → Int} {ts T : Nat → Int32} (hT : TX n c ts T) {p : Nat} (hp : p ≤ n) {i : Nat → Int32} (j : Nat → Int64) (rd : Nat → Int32) (h16 : i 16 = zI (n : Int)) (h17 : i 17 = zI (p : Int)) (v2 v3 : Int32) (m' : Nat) : ∀ (r k : Nat), k + r = 7 → fX10_readsPart_l107 N j T (m' + 1 + r) v2 v3 (zI (k : Int)) i rd = if (k : Int) ≤ su (sp_see n c p) then fX10_readsPart_j132 N j T v2 v3 (zI (su (sp_see n c p))) i rd else fX10_readsPart_j132 N j T v2 v3 (zI 7) i rd := by
  intro r
  have hb := see_b hT p
  have hs := su_b (sp_see n c p)
  induction r with
  | zero =>
    intro k hk
    rw [show m' + 1 + 0 = m' + 1 by omega, fX10_readsPart_l107_s, if_pos (i_ge' (b := 7) (by decide) (by omega)), if_neg (by omega), show (k : Int) = 7 by omega]
  | succ r ih =>
    intro k hk
    have c1 : zI (k : Int) + (1 : Int32) = zI ((k + 1 : Nat) : Int) := by rw [zl_1, zI_add]; rfl
    have el : fX10_letter N (zI (k : Int)) = some (tx k) := by
      unfold fX10_letter
      rw [if_pos ⟨i_ge' (b := 0) (by decide) (by omega), i_lt (b := 7) (by decide) (by omega)⟩, zI_cl (by omega) (by omega), tn1]
    rw [show m' + 1 + (r + 1) = (m' + 1 + r) + 1 by omega, fX10_readsPart_l107_s, if_neg (i_nge' (b := 7) (by decide) (by omega)), r_sees N hT hp j h16 h17, bd1_s, el, bd1_s, c1, nm_s]
    have q := su_tx k (by omega) (sp_see n c p) hb
    by_cases g : su (sp_see n c p) = (k : Int)
    · rw [if_pos (q.mpr g), if_pos (by omega), g]
    · rw [if_neg (fun h => g (q.mp h)), ih (k + 1) (by omega)]
      by_cases g2 : (k : Int) ≤ su (sp_see n c p)
      · rw [if_pos (by omega), if_pos g2]
      · rw [if_neg (by omega), if_neg g2]
theorem s_147d (N : Nat) {i : Nat → Int32} {w : Int} (h : i 18 = zI w) (hw : 0 ≤ w ∧ w ≤ 100) (j : Nat → Int64) (T rd : Nat → Int32) (v2 v3 v5 : Int32) : fX10_readsPart_j147 N j T v2 v3 v5 i rd = some ((7 : Int32), i, rd) := by
  unfold fX10_readsPart_j147
  rw [if_neg (by rw [h]; exact i_neq (b := -1) (by decide) (by omega))]
theorem s_132d (N : Nat) {i : Nat → Int32} {w : Int} (h : i 18 = zI w) (hw : 0 ≤ w ∧ w ≤ 100) (j : Nat → Int64) (T rd : Nat → Int32) (v2 v3 v5 : Int32) : fX10_readsPart_j132 N j T v2 v3 v5 i rd = some ((7 : Int32), i, rd) := by
  unfold fX10_readsPart_j132
  have e : fX10_fault N (i 17) i j = some i := by
    unfold fX10_fault
    rw [if_neg (by rw [h]; exact i_neq (b := -1) (by decide) (by omega))]
  rw [e, bd1_s, s_147d N h hw]
  split <;> rfl
theorem s_dead (N : Nat) (hN : 20 ≤ N) {n : Nat} {c : Nat → Int} {ts T : Nat → Int32} (hT : TX n c ts T) {p : Nat} (hp : p ≤ n) {i : Nat → Int32} (j : Nat → Int64) (rd : Nat → Int32) (h16 : i 16 = zI (n : Int)) (h17 : i 17 = zI (p : Int)) {w : Int} (h18 : i 18 = zI w) (hw : 0 ≤ w ∧ w ≤ 100) {u : Nat} (hu : u ≤ 7) (v2 v3 v4 : Int32) (m : Nat) : fX10_readsPart_l40 N j T (m + 1) (zI (u : Int)) v2 v3 v4 i rd = some ((7 : Int32), i, rd) := by
  rw [fX10_readsPart_l40_s, if_neg (by rw [h18]; exact i_neq (b := -1) (by decide) (by omega))]
  have q := s_search N hT hp j rd h16 h17 v2 v3 (N - (7 - u) - 1) (7 - u) u (by omega)
  rw [show N - (7 - u) - 1 + 1 + (7 - u) = N by omega, s_132d N h18 hw, s_132d N h18 hw] at q
  rw [q]
  split <;> rfl
/-! the class's reader of spans -/
theorem c_six (N : Nat) {n p : Nat} {ts : Nat → Int32} (sr : Nat → Int32) {v dg : Int} {b : Int32} (m : Nat) (hp : p < n) (hn : n ≤ 100) : fX5_wrongAt_l28 N (zI (n : Int)) ts (m + 1) (zI 6) (zI v) (zI dg) b (zI (p : Int)) sr = some (zI (p : Int), sr) ∨ fX6_at N (zI (p : Int)) (zI (n : Int)) ts = none := by
  rw [fX5_wrongAt_l28_s]
  unfold fX6_length
  rw [bd1_s, if_neg (i_nle rfl (by omega))]
  cases h : fX6_at N (zI (p : Int)) (zI (n : Int)) ts with
  | none => exact Or.inr rfl
  | some x => rw [bd1_s, if_pos (show zI 6 = (6 : Int32) by decide)]; exact Or.inl rfl
theorem c_sixT (N : Nat) {n p : Nat} {c : Nat → Int} {ts T : Nat → Int32} (hT : TX n c ts T) (sr : Nat → Int32) {v dg : Int} {b : Int32} (m : Nat) (hp : p < n) : fX5_wrongAt_l28 N (zI (n : Int)) ts (m + 1) (zI 6) (zI v) (zI dg) b (zI (p : Int)) sr = some (zI (p : Int), sr) := by
  rcases c_six N (ts := ts) sr (v := v) (dg := dg) (b := b) m hp hT.1 with h | h
  · exact h
  · rw [r_at N hT hp] at h; exact nomatch h
theorem c_endB (N : Nat) {n p : Nat} {ts : Nat → Int32} (sr : Nat → Int32) {u v dg : Int} {b : Int32} (m : Nat) (hp : p = n) (hn : n ≤ 100) (h : u = -1 ∨ ¬ b = (0 : Int32) ∨ 0 < dg) (hu : -1 ≤ u ∧ u ≤ 6) (hd : 0 ≤ dg ∧ dg ≤ 5) : fX5_wrongAt_l28 N (zI (n : Int)) ts (m + 1) (zI u) (zI v) (zI dg) b (zI (p : Int)) sr = some (zI (p : Int), sr) := by
  subst hp
  rw [fX5_wrongAt_l28_s]
  unfold fX6_length
  rw [bd1_s, if_pos (i_le rfl (by omega)), bd1_s]
  by_cases h1 : u = -1
  · rw [if_pos (i_eq (b := -1) (by decide) h1)]
  · rw [if_neg (i_neq (b := -1) (by decide) (by omega))]
    by_cases h2 : b = (0 : Int32)
    · rw [if_pos h2, if_neg (i_nle (b := 0) (by decide) (by
        rcases h with h | h | h
        · exact absurd h h1
        · exact absurd h2 h
        · omega))]
    · rw [if_neg h2]
theorem c_endG (N : Nat) {n p : Nat} {ts : Nat → Int32} (sr : Nat → Int32) {u v : Int} (m : Nat) (hp : p = n) (hn : n ≤ 100) (h1 : 0 ≤ u ∧ u ≤ 6) : fX5_wrongAt_l28 N (zI (n : Int)) ts (m + 1) (zI u) (zI v) (zI 0) (0 : Int32) (zI (p : Int)) sr = some ((-1 : Int32), sr) := by
  subst hp
  rw [fX5_wrongAt_l28_s]
  unfold fX6_length
  rw [bd1_s, if_pos (i_le rfl (by omega)), if_neg (i_neq (b := -1) (by decide) (by omega)), if_pos rfl, if_pos (i_le (b := 0) (by decide) (by omega))]
theorem c_dig (N : Nat) {n p : Nat} {c : Nat → Int} {ts T : Nat → Int32} (hT : TX n c ts T) (sr : Nat → Int32) {u v dg : Int} {b : Int32} (m : Nat) (hp : p < n) (hu : -1 ≤ u ∧ u ≤ 5) (hc : 48 ≤ c p ∧ c p ≤ 57) (hd : 0 ≤ dg ∧ dg ≤ 4) (hv : dg = 0 ∨ 0 < v) (hv2 : 0 ≤ v ∧ v ≤ 99999) : fX5_wrongAt_l28 N (zI (n : Int)) ts (m + 1) (zI u) (zI v) (zI dg) b (zI (p : Int)) sr = fX5_wrongAt_l28 N (zI (n : Int)) ts m (zI u) (zI (10 * v + c p - 48)) (zI (dg + 1)) b (zI ((p + 1 : Nat) : Int)) sr := by
  have hn := hT.1
  have e1 : zI v * (10 : Int32) + zI (c p) - (48 : Int32) = zI (10 * v + c p - 48) := by rw [zl_10, zI_mul, zI_add, zl_48, zI_sub, Int.mul_comm]
  have e2 : zI dg + (1 : Int32) = zI (dg + 1) := by rw [zl_1, zI_add]
  have e3 : zI (p : Int) + (1 : Int32) = zI ((p + 1 : Nat) : Int) := by rw [zl_1, zI_add]; rfl
  rw [fX5_wrongAt_l28_s]
  unfold fX6_length
  rw [bd1_s, if_neg (i_nle rfl (by omega)), r_at N hT hp, bd1_s, if_neg (i_neq (b := 6) (by decide) (by omega)), if_neg (i_nlt (b := 48) (by decide) (by omega)), if_neg (i_ngt (b := 57) (by decide) (by omega)), if_neg (i_neq (b := 5) (by decide) (by omega)), e1, e2, e3]
  by_cases g : dg = 0
  · rw [if_pos (i_le (b := 0) (by decide) (by omega)), nm_s, nm_s, nm_s]
  · rw [if_neg (i_nle (b := 0) (by decide) (by omega)), if_neg (i_neq (b := 0) (by decide) (by omega)), nm_s, nm_s, nm_s]
theorem c_digB (N : Nat) {n p : Nat} {c : Nat → Int} {ts T : Nat → Int32} (hT : TX n c ts T) (sr : Nat → Int32) {u v dg : Int} {b : Int32} (m : Nat) (hp : p < n) (hu : -1 ≤ u ∧ u ≤ 5) (hc : 48 ≤ c p ∧ c p ≤ 57) (hd : dg = 5 ∨ (1 ≤ dg ∧ dg ≤ 5 ∧ v = 0)) : fX5_wrongAt_l28 N (zI (n : Int)) ts (m + 1) (zI u) (zI v) (zI dg) b (zI (p : Int)) sr = some (zI (p : Int), sr) := by
  have hn := hT.1
  rw [fX5_wrongAt_l28_s]
  unfold fX6_length
  rw [bd1_s, if_neg (i_nle rfl (by omega)), r_at N hT hp, bd1_s, if_neg (i_neq (b := 6) (by decide) (by omega)), if_neg (i_nlt (b := 48) (by decide) (by omega)), if_neg (i_ngt (b := 57) (by decide) (by omega))]
  by_cases g : dg = 5
  · rw [if_pos (i_eq (b := 5) (by decide) g)]
  · rw [if_neg (i_neq (b := 5) (by decide) (by omega)), if_neg (i_nle (b := 0) (by decide) (by omega)), if_pos (i_eq (b := 0) (by decide) (by omega))]
theorem c_103 (N : Nat) {n p : Nat} {c : Nat → Int} {ts T : Nat → Int32} (hT : TX n c ts T) (sr : Nat → Int32) {u v dg : Int} {b : Int32} (m : Nat) (hp : p < n) (hu : -1 ≤ u ∧ u ≤ 5) (hc : ¬ (48 ≤ c p ∧ c p ≤ 57)) : fX5_wrongAt_l28 N (zI (n : Int)) ts (m + 1) (zI u) (zI v) (zI dg) b (zI (p : Int)) sr = fX5_wrongAt_j103 N (zI (n : Int)) ts (fX5_wrongAt_l28 N (zI (n : Int)) ts m) (zI u) (zI v) (zI dg) b (zI (p : Int)) (zI (c p)) sr := by
  have hn := hT.1
  have hc2 := (hT.2 p hp).2.2
  rw [fX5_wrongAt_l28_s]
  unfold fX6_length
  rw [bd1_s, if_neg (i_nle rfl (by omega)), r_at N hT hp, bd1_s, if_neg (i_neq (b := 6) (by decide) (by omega))]
  by_cases g : c p < 48
  · rw [if_pos (i_lt (b := 48) (by decide) (by omega))]
  · rw [if_neg (i_nlt (b := 48) (by decide) (by omega)), if_pos (i_gt (b := 57) (by decide) (by omega))]
theorem c_minus (N : Nat) {n p : Nat} {c : Nat → Int} {ts T : Nat → Int32} (hT : TX n c ts T) (sr : Nat → Int32) {u v : Int} (m : Nat) (hp : p < n) (hu : -1 ≤ u ∧ u ≤ 5) (hc : c p = 45) : fX5_wrongAt_l28 N (zI (n : Int)) ts (m + 1) (zI u) (zI v) (zI 0) (0 : Int32) (zI (p : Int)) sr = fX5_wrongAt_l28 N (zI (n : Int)) ts m (zI u) (zI v) (zI 0) (1 : Int32) (zI ((p + 1 : Nat) : Int)) sr := by
  have e3 : zI (p : Int) + (1 : Int32) = zI ((p + 1 : Nat) : Int) := by rw [zl_1, zI_add]; rfl
  rw [c_103 N hT sr m hp hu (by omega)]
  unfold fX5_wrongAt_j103
  rw [if_pos (i_eq (b := 45) (by decide) hc), if_pos rfl, if_pos (i_le (b := 0) (by decide) (by omega)), nm_s, e3]
theorem c_minusB (N : Nat) {n p : Nat} {c : Nat → Int} {ts T : Nat → Int32} (hT : TX n c ts T) (sr : Nat → Int32) {u v dg : Int} {b : Int32} (m : Nat) (hp : p < n) (hu : -1 ≤ u ∧ u ≤ 5) (hc : c p = 45) (hd : 0 ≤ dg ∧ dg ≤ 5) (h : ¬ b = (0 : Int32) ∨ 0 < dg) : fX5_wrongAt_l28 N (zI (n : Int)) ts (m + 1) (zI u) (zI v) (zI dg) b (zI (p : Int)) sr = some (zI (p : Int), sr) := by
  rw [c_103 N hT sr m hp hu (by omega)]
  unfold fX5_wrongAt_j103
  rw [if_pos (i_eq (b := 45) (by decide) hc)]
  by_cases g : b = (0 : Int32)
  · rw [if_pos g, if_neg (i_nle (b := 0) (by decide) (by
      rcases h with h | h
      · exact absurd g h
      · omega))]
  · rw [if_neg g]
theorem c_bad (N : Nat) {n p : Nat} {c : Nat → Int} {ts T : Nat → Int32} (hT : TX n c ts T) (sr : Nat → Int32) {u v dg : Int} {b : Int32} (m : Nat) (hp : p < n) (hu : -1 ≤ u ∧ u ≤ 5) (hc : ¬ (48 ≤ c p ∧ c p ≤ 57)) (h45 : c p ≠ 45) (hd : 0 ≤ dg ∧ dg ≤ 5) (h : dg = 0 ∨ su (c p) ≤ u) : fX5_wrongAt_l28 N (zI (n : Int)) ts (m + 1) (zI u) (zI v) (zI dg) b (zI (p : Int)) sr = some (zI (p : Int), sr) := by
  have hc2 := (hT.2 p hp).2.2
  have hs := su_b (c p)
  rw [c_103 N hT sr m hp hu hc]
  unfold fX5_wrongAt_j103
  rw [if_neg (i_neq (b := 45) (by decide) (by omega)), su_of N (by omega), bd1_s]
  by_cases g : dg = 0
  · rw [if_pos (i_eq (b := 0) (by decide) g)]
  · rw [if_neg (i_neq (b := 0) (by decide) (by omega)), if_neg (i_nlt rfl (by omega))]
def xs (b : Int32) (v : Int) : Int := if b = (0 : Int32) then v else -v
theorem c_take (N : Nat) {n p : Nat} {c : Nat → Int} {ts T : Nat → Int32} (hT : TX n c ts T) (sr : Nat → Int32) {u v dg : Int} {b : Int32} (m : Nat) (hp : p < n) (hu : -1 ≤ u ∧ u ≤ 5) (hc : ¬ (48 ≤ c p ∧ c p ≤ 57)) (h45 : c p ≠ 45) (hd : 1 ≤ dg ∧ dg ≤ 5) {k : Nat} (hk : su (c p) = (k : Int)) (h : u < (k : Int)) : fX5_wrongAt_l28 N (zI (n : Int)) ts (m + 1) (zI u) (zI v) (zI dg) b (zI (p : Int)) sr = fX5_wrongAt_l28 N (zI (n : Int)) ts m (zI (k : Int)) (zI 0) (zI 0) (0 : Int32) (zI ((p + 1 : Nat) : Int)) (upd sr (pt k) (sr (pt k) + zI (xs b v * cnt k))) := by
  have hc2 := (hT.2 p hp).2.2
  have hs := su_b (c p)
  have e3 : zI (p : Int) + (1 : Int32) = zI ((p + 1 : Nat) : Int) := by rw [zl_1, zI_add]; rfl
  rw [c_103 N hT sr m hp hu hc]
  unfold fX5_wrongAt_j103 fX5_wrongAt_j164
  rw [if_neg (i_neq (b := 45) (by decide) (by omega)), su_of N (by omega), bd1_s, if_neg (i_neq (b := 0) (by decide) (by omega)), hk, if_pos (i_lt rfl (by omega))]
  unfold xs
  by_cases g : b = (0 : Int32)
  · rw [if_pos g, e_take N (by omega), bd1_s, nm_s, e3, if_pos g]; rfl
  · rw [if_neg g, zI_neg, e_take N (by omega), bd1_s, nm_s, e3, if_neg g]; rfl
/-! a part on both sides -/
def XV (xv : Nat → Int) (sr : Nat → Int32) : Prop := ∀ q, q < 3 → sr q = zI (xv q)
theorem XV.up {xv : Nat → Int} {sr : Nat → Int32} (h : XV xv sr) (q0 : Nat) (hq0 : q0 < 3) (x : Int) : XV (zup xv q0 (xv q0 + x)) (upd sr q0 (sr q0 + zI x)) := by
  intro q hq
  by_cases g : q = q0
  · subst g; rw [zup_s, upd_s, h q hq, zI_add]
  · rw [zup_n g, upd_n g]; exact h q hq
def cM (u : Int) : Int := if u < 0 then 0 else if u < 1 then 12 else 13
def cD (u : Int) : Int := if u < 2 then 0 else if u < 3 then 7 else 8
def cS (u : Int) : Int := if u < 4 then 0 else if u < 5 then 3600 else if u < 6 then 3660 else 3661
def BU (u : Int) (xv : Nat → Int) : Prop := (-99999 * cM u ≤ xv 0 ∧ xv 0 ≤ 99999 * cM u) ∧ (-99999 * cD u ≤ xv 1 ∧ xv 1 ≤ 99999 * cD u) ∧ (-99999 * cS u ≤ xv 2 ∧ xv 2 ≤ 99999 * cS u)
theorem BU.up {u : Int} {xv : Nat → Int} (h : BU u xv) {k : Nat} (hk : k < 7) (hu : u < (k : Int)) {X : Int} (hX : -99999 ≤ X ∧ X ≤ 99999) : BU (k : Int) (zup xv (pt k) (xv (pt k) + X * cnt k)) := by
  obtain ⟨h0, h1, h2⟩ := h
  have m0 : cM u ≤ cM (k : Int) ∧ 0 ≤ cM u := by unfold cM; constructor <;> (repeat' split) <;> omega
  have m1 : cD u ≤ cD (k : Int) ∧ 0 ≤ cD u := by unfold cD; constructor <;> (repeat' split) <;> omega
  have m2 : cS u ≤ cS (k : Int) ∧ 0 ≤ cS u := by unfold cS; constructor <;> (repeat' split) <;> omega
  have m7 : k = 0 ∨ k = 1 ∨ k = 2 ∨ k = 3 ∨ k = 4 ∨ k = 5 ∨ k = 6 := by omega
  rcases m7 with rfl | rfl | rfl | rfl | rfl | rfl | rfl
  · have e : cM u = 0 := by unfold cM; rw [if_pos (by omega)]
    have e2 : cM ((0 : Nat) : Int) = 12 := rfl
    rw [show pt 0 = 0 from rfl, show cnt 0 = 12 from rfl]
    exact ⟨by rw [zup_s]; omega, by rw [zup_n (by omega)]; omega, by rw [zup_n (by omega)]; omega⟩
  · have e : cM u ≤ 12 := by unfold cM; (repeat' split) <;> omega
    have e2 : cM ((1 : Nat) : Int) = 13 := rfl
    rw [show pt 1 = 0 from rfl, show cnt 1 = 1 from rfl]
    exact ⟨by rw [zup_s]; omega, by rw [zup_n (by omega)]; omega, by rw [zup_n (by omega)]; omega⟩
  · have e : cD u = 0 := by unfold cD; rw [if_pos (by omega)]
    have e2 : cD ((2 : Nat) : Int) = 7 := rfl
    rw [show pt 2 = 1 from rfl, show cnt 2 = 7 from rfl]
    exact ⟨by rw [zup_n (by omega)]; omega, by rw [zup_s]; omega, by rw [zup_n (by omega)]; omega⟩
  · have e : cD u ≤ 7 := by unfold cD; (repeat' split) <;> omega
    have e2 : cD ((3 : Nat) : Int) = 8 := rfl
    rw [show pt 3 = 1 from rfl, show cnt 3 = 1 from rfl]
    exact ⟨by rw [zup_n (by omega)]; omega, by rw [zup_s]; omega, by rw [zup_n (by omega)]; omega⟩
  · have e : cS u = 0 := by unfold cS; rw [if_pos (by omega)]
    have e2 : cS ((4 : Nat) : Int) = 3600 := rfl
    rw [show pt 4 = 2 from rfl, show cnt 4 = 3600 from rfl]
    exact ⟨by rw [zup_n (by omega)]; omega, by rw [zup_n (by omega)]; omega, by rw [zup_s]; omega⟩
  · have e : cS u ≤ 3600 := by unfold cS; (repeat' split) <;> omega
    have e2 : cS ((5 : Nat) : Int) = 3660 := rfl
    rw [show pt 5 = 2 from rfl, show cnt 5 = 60 from rfl]
    exact ⟨by rw [zup_n (by omega)]; omega, by rw [zup_n (by omega)]; omega, by rw [zup_s]; omega⟩
  · have e : cS u ≤ 3660 := by unfold cS; (repeat' split) <;> omega
    have e2 : cS ((6 : Nat) : Int) = 3661 := rfl
    rw [show pt 6 = 2 from rfl, show cnt 6 = 1 from rfl]
    exact ⟨by rw [zup_n (by omega)]; omega, by rw [zup_n (by omega)]; omega, by rw [zup_s]; omega⟩
def DG (dg v : Int) : Prop := (dg = 1 ∧ v ≤ 9) ∨ (dg = 2 ∧ v ≤ 99) ∨ (dg = 3 ∧ v ≤ 999) ∨ (dg = 4 ∧ v ≤ 9999) ∨ (dg = 5 ∧ v ≤ 99999)
/-- how a part ends: read, or wrong at the same place -/
def pa_out (N : Nat) (n : Nat) (ts : Nat → Int32) (u v dg : Int) (b : Int32) (p : Nat) (f : Nat) (sr rd i : Nat → Int32) (M : Option (Int32 × (Nat → Int32) × (Nat → Int32))) : Prop :=
  (∃ (k d : Nat) (X : Int) (i' : Nat → Int32), k < 7 ∧ u < (k : Int) ∧ d ≤ f ∧ p + d ≤ n ∧ (-99999 ≤ X ∧ X ≤ 99999) ∧ M = some (zI (k : Int), i', upd rd (pt k) (rd (pt k) + zI (X * cnt k))) ∧ i' 17 = zI ((p + d : Nat) : Int) ∧ i' 18 = (-1 : Int32) ∧ FR i i' ∧ ∀ m, fX5_wrongAt_l28 N (zI (n : Int)) ts (m + d) (zI u) (zI v) (zI dg) b (zI (p : Int)) sr = fX5_wrongAt_l28 N (zI (n : Int)) ts m (zI (k : Int)) (zI 0) (zI 0) (0 : Int32) (zI ((p + d : Nat) : Int)) (upd sr (pt k) (sr (pt k) + zI (X * cnt k))))
  ∨ (∃ (q : Int) (i' : Nat → Int32), (0 ≤ q ∧ q ≤ 100) ∧ M = some ((7 : Int32), i', rd) ∧ i' 18 = zI q ∧ FR i i' ∧ ∀ m, f ≤ m → fX5_wrongAt_l28 N (zI (n : Int)) ts m (zI u) (zI v) (zI dg) b (zI (p : Int)) sr = some (zI q, sr))
theorem s_132b (N : Nat) {i : Nat → Int32} {p : Nat} (hp : p ≤ 100) (h17 : i 17 = zI (p : Int)) (h18 : i 18 = (-1 : Int32)) (j : Nat → Int64) (T rd : Nat → Int32) (v2 v3 : Int32) : fX10_readsPart_j132 N j T v2 v3 (zI 7) i rd = some ((7 : Int32), upd i 18 (zI (p : Int)), rd) := by
  unfold fX10_readsPart_j132
  rw [if_pos (show zI 7 = (7 : Int32) by decide), r_fault N j _ h18, bd1_s, h17]
  exact s_147d N (w := (p : Int)) upd_s (by omega) j T rd _ _ _
theorem s_132g (N : Nat) {i : Nat → Int32} {p k : Nat} (hp : p ≤ 100) (hk : k < 7) (h17 : i 17 = zI (p : Int)) (h18 : i 18 = (-1 : Int32)) (j : Nat → Int64) (T rd : Nat → Int32) (b : Int32) (v : Int) : fX10_readsPart_j132 N j T b (zI v) (zI (k : Int)) i rd = some (zI (k : Int), upd i 17 (zI ((p + 1 : Nat) : Int)), upd rd (pt k) (rd (pt k) + zI (xs b v * cnt k))) := by
  have e3 : zI (p : Int) + (1 : Int32) = zI ((p + 1 : Nat) : Int) := by rw [zl_1, zI_add]; rfl
  have hpt := pt_b k
  unfold fX10_readsPart_j132 fX10_readsPart_j147 xs
  rw [if_neg (i_neq (b := 7) (by decide) (by omega)), if_pos h18, e_part N hk, bd1_s, gi_z (by omega) (by omega) (by omega), zI_cl (by omega) (by omega), tn1, h17, e3, e_counts N hk]
  by_cases g : b = (0 : Int32)
  · rw [if_pos g, bd1_s, gi_z (by omega) (by omega) (by omega), zI_mul, if_pos g]
  · rw [if_neg g, bd1_s, gi_z (by omega) (by omega) (by omega), zI_neg, zI_mul, if_neg g]
theorem pa_stop (N : Nat) (hN : 20 ≤ N) {n : Nat} {c : Nat → Int} {ts T : Nat → Int32} (hT : TX n c ts T) (sr rd : Nat → Int32) (j : Nat → Int64) {u : Int} (hu : -1 ≤ u ∧ u ≤ 5) (b : Int32) (f : Nat) {dg v : Int} {p : Nat} {i : Nat → Int32} (hd : 1 ≤ dg ∧ dg ≤ 5) (hv : 0 ≤ v ∧ v ≤ 99999) (hp : p ≤ n) (h16 : i 16 = zI (n : Int)) (h17 : i 17 = zI (p : Int)) (h18 : i 18 = (-1 : Int32)) (hs : dg = 5 ∨ v = 0 ∨ ¬ (48 ≤ sp_see n c p ∧ sp_see n c p ≤ 57)) : pa_out N n ts u v dg b p (f + 1) sr rd i (fX10_readsPart_l107 N j T N b (zI v) (zI (u + 1)) i rd) := by
  have hn := hT.1
  obtain ⟨u1, hu1⟩ : ∃ u1 : Nat, u + 1 = (u1 : Int) := ⟨(u + 1).toNat, by omega⟩
  have q := s_search N hT hp j rd h16 h17 b (zI v) (N - (7 - u1) - 1) (7 - u1) u1 (by omega)
  rw [show N - (7 - u1) - 1 + 1 + (7 - u1) = N by omega, s_132b N (by omega) h17 h18, ← hu1] at q
  rw [q]
  have hx := su_b (sp_see n c p)
  have bad : ¬ (u + 1 ≤ su (sp_see n c p)) → (∀ m, fX5_wrongAt_l28 N (zI (n : Int)) ts (m + 1) (zI u) (zI v) (zI dg) b (zI (p : Int)) sr = some (zI (p : Int), sr)) → pa_out N n ts u v dg b p (f + 1) sr rd i (if u + 1 ≤ su (sp_see n c p) then fX10_readsPart_j132 N j T b (zI v) (zI (su (sp_see n c p))) i rd else some ((7 : Int32), upd i 18 (zI (p : Int)), rd)) := by
    intro h hC
    rw [if_neg h]
    refine Or.inr ⟨(p : Int), _, by omega, rfl, upd_s, FR.u18 _, fun m hm => ?_⟩
    obtain ⟨m2, rfl⟩ : ∃ m2, m = m2 + 1 := ⟨m - 1, by omega⟩
    exact hC m2
  by_cases gn : p < n
  · have gs : sp_see n c p = c p := if_pos gn
    have hc2 := (hT.2 p gn).2.2
    by_cases g1 : 48 ≤ c p ∧ c p ≤ 57
    · have e : su (c p) = -1 := by unfold su; (repeat' split) <;> omega
      exact bad (by rw [gs, e]; omega) (fun m => c_digB N hT sr m gn hu g1 (by rw [gs] at hs; omega))
    · by_cases g2 : c p = 45
      · have e : su (c p) = -1 := by unfold su; (repeat' split) <;> omega
        exact bad (by rw [gs, e]; omega) (fun m => c_minusB N hT sr m gn hu g2 (by omega) (Or.inr (by omega)))
      · by_cases g3 : u + 1 ≤ su (c p)
        · obtain ⟨k, hk⟩ : ∃ k : Nat, su (c p) = (k : Int) := ⟨(su (c p)).toNat, by omega⟩
          have hs2 := su_b (c p)
          rw [gs, if_pos g3, hk, s_132g N (by omega) (by omega) h17 h18]
          refine Or.inl ⟨k, 1, xs b v, _, by omega, by omega, by omega, by omega, ?_, rfl, upd_s, by rw [upd_n (by omega), h18], FR.u17 _, fun m => ?_⟩
          · unfold xs; split <;> omega
          · exact c_take N hT sr m gn hu g1 g2 hd hk (by omega)
        · exact bad (by rw [gs]; exact g3) (fun m => c_bad N hT sr m gn hu g1 g2 (by omega) (Or.inr (by omega)))
  · have gs : sp_see n c p = -1 := if_neg gn
    exact bad (by rw [gs, show su (-1) = -1 from rfl]; omega) (fun m => c_endB N sr m (by omega) hn (Or.inr (Or.inr (by omega))) (by omega) (by omega))
theorem pa_dig (N : Nat) (hN : 20 ≤ N) {n : Nat} {c : Nat → Int} {ts T : Nat → Int32} (hT : TX n c ts T) (sr rd : Nat → Int32) (j : Nat → Int64) {u : Int} (hu : -1 ≤ u ∧ u ≤ 5) (b : Int32) (m' : Nat) : ∀ (r : Nat) (dg v : Int) (p : Nat) (i : Nat → Int32), dg + r = 5 → DG dg v → 0 ≤ v → p ≤ n → i 16 = zI (n : Int) → i 17 = zI (p : Int) → i 18 = (-1 : Int32) → pa_out N n ts u v dg b p (r + 1) sr rd i (fX10_readsPart_l40 N j T (m' + 1 + r) (zI (u + 1)) b (zI v) (zI dg) i rd) := by
  intro r
  have hn := hT.1
  induction r with
  | zero =>
    intro dg v p i hr hD hv hp h16 h17 h18
    unfold DG at hD
    have S := pa_stop N hN hT sr rd j hu b 0 (dg := dg) (v := v) (by omega) (by omega) hp h16 h17 h18 (Or.inl (by omega))
    rw [show m' + 1 + 0 = m' + 1 by omega, fX10_readsPart_l40_s, if_pos h18]
    by_cases g : v ≤ 0
    · rw [if_pos (i_le (b := 0) (by decide) (by omega))]; exact S
    · rw [if_neg (i_nle (b := 0) (by decide) (by omega)), if_pos (i_ge' (b := 5) (by decide) (by omega))]; exact S
  | succ r ih =>
    intro dg v p i hr hD hv hp h16 h17 h18
    have hD0 := hD
    unfold DG at hD
    have hb := see_b hT p
    rw [show m' + 1 + (r + 1) = (m' + 1 + r) + 1 by omega, fX10_readsPart_l40_s, if_pos h18]
    by_cases g : v ≤ 0
    · rw [if_pos (i_le (b := 0) (by decide) (by omega))]
      exact pa_stop N hN hT sr rd j hu b (r + 1) (by omega) (by omega) hp h16 h17 h18 (Or.inr (Or.inl (by omega)))
    · rw [if_neg (i_nle (b := 0) (by decide) (by omega)), if_neg (i_nge' (b := 5) (by decide) (by omega)), r_sees N hT hp j h16 h17, bd1_s, zI_toL (by omega) (by omega), show (48 : Int64) = zL 48 by decide, show (57 : Int64) = zL 57 by decide, e_in_m N (by omega) (by omega) (by omega) (by omega) (by omega) (by omega), bd1_s]
      by_cases g2 : 48 ≤ sp_see n c p ∧ sp_see n c p ≤ 57
      · have gn : p < n := by
          unfold sp_see at g2
          by_cases q : p < n
          · exact q
          · rw [if_neg q] at g2; omega
        have gs : sp_see n c p = c p := if_pos gn
        have e1 : (10 : Int32) * zI v + zI (sp_see n c p) - (48 : Int32) = zI (10 * v + c p - 48) := by rw [gs, zl_10, zI_mul, zI_add, zl_48, zI_sub]
        have e2 : zI dg + (1 : Int32) = zI (dg + 1) := by rw [zl_1, zI_add]
        have e3 : zI (p : Int) + (1 : Int32) = zI ((p + 1 : Nat) : Int) := by rw [zl_1, zI_add]; rfl
        rw [gs] at g2
        rw [gs, if_pos g2, if_neg z10, bd1_s, ← gs, e1, nm_s, e2, nm_s, h17, e3]
        have I := ih (dg + 1) (10 * v + c p - 48) (p + 1) (upd i 17 (zI ((p + 1 : Nat) : Int))) (by omega) (by unfold DG; omega) (by omega) (by omega) (by rw [upd_n (by omega), h16]) upd_s (by rw [upd_n (by omega), h18])
        have C := fun m => c_dig N hT sr (u := u) (v := v) (dg := dg) (b := b) m gn hu g2 (by omega) (Or.inr (by omega)) (by omega)
        rcases I with ⟨k, d, X, i', h1, h2, h3, h4, h5, h6, h7, h8, h9, h10⟩ | ⟨q, i', h1, h2, h3, h4, h5⟩
        · refine Or.inl ⟨k, d + 1, X, i', h1, h2, by omega, by omega, h5, h6, by rw [h7]; congr 1; omega, h8, (FR.u17 _).tr h9, fun m => ?_⟩
          rw [show m + (d + 1) = (m + d) + 1 by omega, C, h10, show p + 1 + d = p + (d + 1) by omega]
        · refine Or.inr ⟨q, i', h1, h2, h3, (FR.u17 _).tr h4, fun m hm => ?_⟩
          obtain ⟨m2, rfl⟩ : ∃ m2, m = m2 + 1 := ⟨m - 1, by omega⟩
          rw [C, h5 m2 (by omega)]
      · rw [if_neg g2, if_pos z00]
        exact pa_stop N hN hT sr rd j hu b (r + 1) (by omega) (by omega) hp h16 h17 h18 (Or.inr (Or.inr g2))
/-- the first digit of a part -/
theorem pa_one (N : Nat) (hN : 20 ≤ N) {n : Nat} {c : Nat → Int} {ts T : Nat → Int32} (hT : TX n c ts T) (sr rd : Nat → Int32) (j : Nat → Int64) {u : Int} (hu : -1 ≤ u ∧ u ≤ 5) {b : Int32} {p : Nat} {i : Nat → Int32} (hp : p ≤ n) (h16 : i 16 = zI (n : Int)) (h17 : i 17 = zI (p : Int)) (h18 : i 18 = (-1 : Int32)) (hs : u = -1 ∨ ¬ b = (0 : Int32) ∨ (p < n ∧ c p ≠ 45)) (h45 : sp_see n c p = 45 → ¬ b = (0 : Int32)) : pa_out N n ts u 0 0 b p 6 sr rd i (bd2 (fX10_digit N (0 : Int32) (9 : Int32) i j T) fun r35 i_this_36 => (fX10_readsPart_l40 N j T N (zI (u + 1)) b r35 (1 : Int32) i_this_36 rd)) := by
  have hn := hT.1
  have hb := see_b hT p
  have D := r_digit N hT hp j h16 h17 h18 (lo := 0) (hi := 9) (by omega) (by omega)
  rw [show zI 0 = (0 : Int32) by decide, show zI 9 = (9 : Int32) by decide] at D
  rw [D]
  by_cases g : 48 ≤ sp_see n c p ∧ sp_see n c p ≤ 57
  · have gn : p < n := by
      unfold sp_see at g
      by_cases q : p < n
      · exact q
      · rw [if_neg q] at g; omega
    have gs : sp_see n c p = c p := if_pos gn
    rw [gs] at g
    rw [gs, if_pos (by omega), bd2_s]
    have I := pa_dig N hN hT sr rd j hu b (N - 5) 4 1 (c p - 48) (p + 1) (upd i 17 (zI ((p + 1 : Nat) : Int))) (by omega) (by unfold DG; omega) (by omega) (by omega) (by rw [upd_n (by omega), h16]) upd_s (by rw [upd_n (by omega), h18])
    rw [show N - 5 + 1 + 4 = N by omega, show zI 1 = (1 : Int32) by decide] at I
    have C := fun m => c_dig N hT sr (u := u) (v := 0) (dg := 0) (b := b) m gn hu g (by omega) (Or.inl rfl) (by omega)
    simp only [show 10 * (0 : Int) + c p - 48 = c p - 48 by omega, show (0 : Int) + 1 = 1 by omega] at C
    rcases I with ⟨k, d, X, i', h1, h2, h3, h4, h5, h6, h7, h8, h9, h10⟩ | ⟨q, i', h1, h2, h3, h4, h5⟩
    · refine Or.inl ⟨k, d + 1, X, i', h1, h2, by omega, by omega, h5, h6, by rw [h7]; congr 1; omega, h8, (FR.u17 _).tr h9, fun m => ?_⟩
      rw [show m + (d + 1) = (m + d) + 1 by omega, C, h10, show p + 1 + d = p + (d + 1) by omega]
    · refine Or.inr ⟨q, i', h1, h2, h3, (FR.u17 _).tr h4, fun m hm => ?_⟩
      obtain ⟨m2, rfl⟩ : ∃ m2, m = m2 + 1 := ⟨m - 1, by omega⟩
      rw [C, h5 m2 (by omega)]
  · rw [if_neg (by omega), bd2_s]
    obtain ⟨u1, hu1⟩ : ∃ u1 : Nat, u + 1 = (u1 : Int) := ⟨(u + 1).toNat, by omega⟩
    have Z := s_dead N hN hT hp j rd (i := upd i 18 (zI (p : Int))) (by rw [upd_n (by omega), h16]) (by rw [upd_n (by omega), h17]) (w := (p : Int)) upd_s (by omega) (u := u1) (by omega) b (0 : Int32) (1 : Int32) (N - 1)
    rw [show N - 1 + 1 = N by omega, ← hu1] at Z
    rw [Z]
    refine Or.inr ⟨(p : Int), _, by omega, rfl, upd_s, FR.u18 _, fun m hm => ?_⟩
    obtain ⟨m2, rfl⟩ : ∃ m2, m = m2 + 1 := ⟨m - 1, by omega⟩
    by_cases gn : p < n
    · have gs : sp_see n c p = c p := if_pos gn
      rw [gs] at g h45
      by_cases g2 : c p = 45
      · exact c_minusB N hT sr m2 gn hu g2 (by omega) (Or.inl (h45 g2))
      · exact c_bad N hT sr m2 gn hu g g2 (by omega) (Or.inl rfl)
    · exact c_endB N sr m2 (by omega) hn (by
        rcases hs with h | h | h
        · exact Or.inl h
        · exact Or.inr (Or.inl h)
        · exact absurd h.1 gn) (by omega) (by omega)
theorem pa_all (N : Nat) (hN : 20 ≤ N) {n : Nat} {c : Nat → Int} {ts T : Nat → Int32} (hT : TX n c ts T) (sr rd : Nat → Int32) (j : Nat → Int64) {u : Int} (hu : -1 ≤ u ∧ u ≤ 5) {p : Nat} {i : Nat → Int32} (hp : p ≤ n) (h16 : i 16 = zI (n : Int)) (h17 : i 17 = zI (p : Int)) (h18 : i 18 = (-1 : Int32)) (hs : u = -1 ∨ p < n) : pa_out N n ts u 0 0 (0 : Int32) p 7 sr rd i (fX10_readsPart N (zI (u + 1)) i j T rd) := by
  have hn := hT.1
  have hb := see_b hT p
  unfold fX10_readsPart fX10_readsPart_j14
  rw [r_sees N hT hp j h16 h17, bd1_s]
  by_cases g : sp_see n c p = 45
  · have gn : p < n := by
      unfold sp_see at g
      by_cases q : p < n
      · exact q
      · rw [if_neg q] at g; omega
    have gs : sp_see n c p = c p := if_pos gn
    have e3 : zI (p : Int) + (1 : Int32) = zI ((p + 1 : Nat) : Int) := by rw [zl_1, zI_add]; rfl
    rw [if_pos (i_eq (b := 45) (by decide) g), if_neg (show ¬ ((1 : Int32) = (0 : Int32)) by decide), h17, e3]
    have I := pa_one N hN hT sr rd j hu (b := (1 : Int32)) (p := p + 1) (i := upd i 17 (zI ((p + 1 : Nat) : Int))) (by omega) (by rw [upd_n (by omega), h16]) upd_s (by rw [upd_n (by omega), h18]) (Or.inr (Or.inl (by decide))) (fun _ => by decide)
    have C := fun m => c_minus N hT sr (u := u) (v := 0) m gn hu (by rw [← gs]; exact g)
    rcases I with ⟨k, d, X, i', h1, h2, h3, h4, h5, h6, h7, h8, h9, h10⟩ | ⟨q, i', h1, h2, h3, h4, h5⟩
    · refine Or.inl ⟨k, d + 1, X, i', h1, h2, by omega, by omega, h5, h6, by rw [h7]; congr 1; omega, h8, (FR.u17 _).tr h9, fun m => ?_⟩
      rw [show m + (d + 1) = (m + d) + 1 by omega, show (0 : Int32) = (0 : Int32) from rfl, C, h10, show p + 1 + d = p + (d + 1) by omega]
    · refine Or.inr ⟨q, i', h1, h2, h3, (FR.u17 _).tr h4, fun m hm => ?_⟩
      obtain ⟨m2, rfl⟩ : ∃ m2, m = m2 + 1 := ⟨m - 1, by omega⟩
      rw [C, h5 m2 (by omega)]
  · rw [if_neg (i_neq (b := 45) (by decide) (by omega)), if_pos rfl]
    have I := pa_one N hN hT sr rd j hu (b := (0 : Int32)) hp h16 h17 h18 (by
      rcases hs with h | h
      · exact Or.inl h
      · refine Or.inr (Or.inr ⟨h, ?_⟩)
        have gs : sp_see n c p = c p := if_pos h
        rw [← gs]; exact g) (fun h => absurd h g)
    rcases I with ⟨k, d, X, i', h1, h2, h3, h4⟩ | ⟨q, i', h1, h2, h3, h4, h5⟩
    · exact Or.inl ⟨k, d, X, i', h1, h2, by omega, h4⟩
    · exact Or.inr ⟨q, i', h1, h2, h3, h4, fun m hm => h5 m (by omega)⟩
