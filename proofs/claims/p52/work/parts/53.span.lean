/-! spans read -/
def su (x : Int) : Int := if x = 121 then 0 else if x = 109 then 1 else if x = 119 then 2 else if x = 100 then 3 else if x = 104 then 4 else if x = 105 then 5 else if x = 115 then 6 else -1
theorem su_b (x : Int) : -1 ≤ su x ∧ su x ≤ 6 := by unfold su; repeat' split <;> omega
theorem su_tab : (List.range 257).all (fun k => decide (fX5_unitOf 0 (zI ((k : Int) - 1)) = some (zI (su ((k : Int) - 1))))) = true := by decide +kernel
theorem su_of (N : Nat) {x : Int} (h : -1 ≤ x ∧ x ≤ 255) : fX5_unitOf N (zI x) = some (zI (su x)) := by
  have e := of_decide_eq_true (List.all_eq_true.mp su_tab (x + 1).toNat (List.mem_range.mpr (by omega)))
  rw [show (((x + 1).toNat : Nat) : Int) - 1 = x by omega] at e
  exact e
theorem su_tx : ∀ k : Nat, k < 7 → ∀ x : Int, -1 ≤ x ∧ x ≤ 255 → (zI x = tx k ↔ su x = (k : Int)) := by
  intro k hk x hx
  have ez : ∀ y : Int, -1 ≤ y ∧ y ≤ 255 → (zI x = zI y ↔ x = y) := by
    intro y hy
    constructor
    · intro h
      by_cases q : x = y
      · exact q
      · exact absurd h (i_neq rfl (by omega))
    · intro h; rw [h]
  have m7 : k = 0 ∨ k = 1 ∨ k = 2 ∨ k = 3 ∨ k = 4 ∨ k = 5 ∨ k = 6 := by omega
  unfold su
  rcases m7 with rfl | rfl | rfl | rfl | rfl | rfl | rfl
  · rw [show tx 0 = zI 121 by decide, ez _ (by omega)]; repeat' split <;> omega
  · rw [show tx 1 = zI 109 by decide, ez _ (by omega)]; repeat' split <;> omega
  · rw [show tx 2 = zI 119 by decide, ez _ (by omega)]; repeat' split <;> omega
  · rw [show tx 3 = zI 100 by decide, ez _ (by omega)]; repeat' split <;> omega
  · rw [show tx 4 = zI 104 by decide, ez _ (by omega)]; repeat' split <;> omega
  · rw [show tx 5 = zI 105 by decide, ez _ (by omega)]; repeat' split <;> omega
  · rw [show tx 6 = zI 115 by decide, ez _ (by omega)]; repeat' split <;> omega
def pt (k : Nat) : Nat := if k < 2 then 0 else if k < 4 then 1 else 2
def cnt (k : Nat) : Int := if k = 0 then 12 else if k = 2 then 7 else if k = 4 then 3600 else if k = 5 then 60 else 1
theorem pt_b (k : Nat) : pt k < 3 := by unfold pt; (repeat' split) <;> omega
theorem e_take (N : Nat) {k : Nat} (hk : k < 7) (X : Int) (sr : Nat → Int32) : fX5_take N (zI (k : Int)) (zI X) sr = some (upd sr (pt k) (sr (pt k) + zI (X * cnt k))) := by
  have m7 : k = 0 ∨ k = 1 ∨ k = 2 ∨ k = 3 ∨ k = 4 ∨ k = 5 ∨ k = 6 := by omega
  have c1 : (12 : Int32) * zI X = zI (X * 12) := by rw [zl_12, zI_mul, Int.mul_comm]
  have c2 : (7 : Int32) * zI X = zI (X * 7) := by rw [zl_7, zI_mul, Int.mul_comm]
  have c3 : (3600 : Int32) * zI X = zI (X * 3600) := by rw [zl_3600, zI_mul, Int.mul_comm]
  have c4 : (60 : Int32) * zI X = zI (X * 60) := by rw [zl_60, zI_mul, Int.mul_comm]
  have c5 : zI X = zI (X * 1) := by rw [Int.mul_one]
  rcases m7 with rfl | rfl | rfl | rfl | rfl | rfl | rfl
  · exact (show _ = some (upd sr 0 (sr 0 + (12 : Int32) * zI X)) from rfl).trans (by rw [c1]; rfl)
  · exact (show _ = some (upd sr 0 (sr 0 + zI X)) from rfl).trans (by rw [c5]; rfl)
  · exact (show _ = some (upd sr 1 (sr 1 + (7 : Int32) * zI X)) from rfl).trans (by rw [c2]; rfl)
  · exact (show _ = some (upd sr 1 (sr 1 + zI X)) from rfl).trans (by rw [c5]; rfl)
  · exact (show _ = some (upd sr 2 (sr 2 + (3600 : Int32) * zI X)) from rfl).trans (by rw [c3]; rfl)
  · exact (show _ = some (upd sr 2 (sr 2 + (60 : Int32) * zI X)) from rfl).trans (by rw [c4]; rfl)
  · exact (show _ = some (upd sr 2 (sr 2 + zI X)) from rfl).trans (by rw [c5]; rfl)
/-! the reference's search for a letter -/
/-! the class's reader of spans -/
theorem c_six (N : Nat) {n p : Nat} {ts : Nat → Int32} (sr : Nat → Int32) {v dg : Int} {b : Int32} (m : Nat) (hp : p < n) (hn : n ≤ 100) : fX5_wrongAt_l28 N (zI (n : Int)) ts (m + 1) (zI 6) (zI v) (zI dg) b (zI (p : Int)) sr = some (zI (p : Int), sr) ∨ fX6_at N (zI (p : Int)) (zI (n : Int)) ts = none := by
  rw [fX5_wrongAt_l28_s]
  unfold fX6_length
  rw [bd1_s, if_neg (i_nle rfl (by omega))]
  cases h : fX6_at N (zI (p : Int)) (zI (n : Int)) ts with
  | none => exact Or.inr rfl
  | some x => rw [bd1_s, if_pos (show zI 6 = (6 : Int32) by decide)]; exact Or.inl rfl
theorem c_sixT (N : Nat) {n p : Nat} {c : Nat → Int} {ts T : Nat → Int32} (hT : TX n c ts T) (sr : Nat → Int32) {v dg : Int} {b : Int32} (m : Nat) (hp : p < n) : fX5_wrongAt_l28 N (zI (n : Int)) ts (m + 1) (zI 6) (zI v) (zI dg) b (zI (p : Int)) sr = some (zI (p : Int), sr) := by
  rcases c_six N (ts := ts) sr (v := v) (dg := dg) (b := b) m hp hT.1 with h | h
  · exact h
  · rw [r_at N hT hp] at h; exact nomatch h
theorem c_endB (N : Nat) {n p : Nat} {ts : Nat → Int32} (sr : Nat → Int32) {u v dg : Int} {b : Int32} (m : Nat) (hp : p = n) (hn : n ≤ 100) (h : u = -1 ∨ ¬ b = (0 : Int32) ∨ 0 < dg) (hu : -1 ≤ u ∧ u ≤ 6) (hd : 0 ≤ dg ∧ dg ≤ 5) : fX5_wrongAt_l28 N (zI (n : Int)) ts (m + 1) (zI u) (zI v) (zI dg) b (zI (p : Int)) sr = some (zI (p : Int), sr) := by
  subst hp
  rw [fX5_wrongAt_l28_s]
  unfold fX6_length
  rw [bd1_s, if_pos (i_le rfl (by omega)), bd1_s]
  by_cases h1 : u = -1
  · rw [if_pos (i_eq (b := -1) (by decide) h1)]
  · rw [if_neg (i_neq (b := -1) (by decide) (by omega))]
    by_cases h2 : b = (0 : Int32)
    · rw [if_pos h2, if_neg (i_nle (b := 0) (by decide) (by
        rcases h with h | h | h
        · exact absurd h h1
        · exact absurd h2 h
        · omega))]
    · rw [if_neg h2]
theorem c_endG (N : Nat) {n p : Nat} {ts : Nat → Int32} (sr : Nat → Int32) {u v : Int} (m : Nat) (hp : p = n) (hn : n ≤ 100) (h1 : 0 ≤ u ∧ u ≤ 6) : fX5_wrongAt_l28 N (zI (n : Int)) ts (m + 1) (zI u) (zI v) (zI 0) (0 : Int32) (zI (p : Int)) sr = some ((-1 : Int32), sr) := by
  subst hp
  rw [fX5_wrongAt_l28_s]
  unfold fX6_length
  rw [bd1_s, if_pos (i_le rfl (by omega)), if_neg (i_neq (b := -1) (by decide) (by omega)), if_pos rfl, if_pos (i_le (b := 0) (by decide) (by omega))]
theorem c_dig (N : Nat) {n p : Nat} {c : Nat → Int} {ts T : Nat → Int32} (hT : TX n c ts T) (sr : Nat → Int32) {u v dg : Int} {b : Int32} (m : Nat) (hp : p < n) (hu : -1 ≤ u ∧ u ≤ 5) (hc : 48 ≤ c p ∧ c p ≤ 57) (hd : 0 ≤ dg ∧ dg ≤ 4) (hv : dg = 0 ∨ 0 < v) (hv2 : 0 ≤ v ∧ v ≤ 99999) : fX5_wrongAt_l28 N (zI (n : Int)) ts (m + 1) (zI u) (zI v) (zI dg) b (zI (p : Int)) sr = fX5_wrongAt_l28 N (zI (n : Int)) ts m (zI u) (zI (10 * v + c p - 48)) (zI (dg + 1)) b (zI ((p + 1 : Nat) : Int)) sr := by
  have hn := hT.1
  have e1 : zI v * (10 : Int32) + zI (c p) - (48 : Int32) = zI (10 * v + c p - 48) := by rw [zl_10, zI_mul, zI_add, zl_48, zI_sub, Int.mul_comm]
  have e2 : zI dg + (1 : Int32) = zI (dg + 1) := by rw [zl_1, zI_add]
  have e3 : zI (p : Int) + (1 : Int32) = zI ((p + 1 : Nat) : Int) := by rw [zl_1, zI_add]; rfl
  rw [fX5_wrongAt_l28_s]
  unfold fX6_length
  rw [bd1_s, if_neg (i_nle rfl (by omega)), r_at N hT hp, bd1_s, if_neg (i_neq (b := 6) (by decide) (by omega)), if_neg (i_nlt (b := 48) (by decide) (by omega)), if_neg (i_ngt (b := 57) (by decide) (by omega)), if_neg (i_neq (b := 5) (by decide) (by omega)), e1, e2, e3]
  by_cases g : dg = 0
  · rw [if_pos (i_le (b := 0) (by decide) (by omega)), nm_s, nm_s, nm_s]
  · rw [if_neg (i_nle (b := 0) (by decide) (by omega)), if_neg (i_neq (b := 0) (by decide) (by omega)), nm_s, nm_s, nm_s]
theorem c_digB (N : Nat) {n p : Nat} {c : Nat → Int} {ts T : Nat → Int32} (hT : TX n c ts T) (sr : Nat → Int32) {u v dg : Int} {b : Int32} (m : Nat) (hp : p < n) (hu : -1 ≤ u ∧ u ≤ 5) (hc : 48 ≤ c p ∧ c p ≤ 57) (hd : dg = 5 ∨ (1 ≤ dg ∧ dg ≤ 5 ∧ v = 0)) : fX5_wrongAt_l28 N (zI (n : Int)) ts (m + 1) (zI u) (zI v) (zI dg) b (zI (p : Int)) sr = some (zI (p : Int), sr) := by
  have hn := hT.1
  rw [fX5_wrongAt_l28_s]
  unfold fX6_length
  rw [bd1_s, if_neg (i_nle rfl (by omega)), r_at N hT hp, bd1_s, if_neg (i_neq (b := 6) (by decide) (by omega)), if_neg (i_nlt (b := 48) (by decide) (by omega)), if_neg (i_ngt (b := 57) (by decide) (by omega))]
  by_cases g : dg = 5
  · rw [if_pos (i_eq (b := 5) (by decide) g)]
  · rw [if_neg (i_neq (b := 5) (by decide) (by omega)), if_neg (i_nle (b := 0) (by decide) (by omega)), if_pos (i_eq (b := 0) (by decide) (by omega))]
theorem c_103 (N : Nat) {n p : Nat} {c : Nat → Int} {ts T : Nat → Int32} (hT : TX n c ts T) (sr : Nat → Int32) {u v dg : Int} {b : Int32} (m : Nat) (hp : p < n) (hu : -1 ≤ u ∧ u ≤ 5) (hc : ¬ (48 ≤ c p ∧ c p ≤ 57)) : fX5_wrongAt_l28 N (zI (n : Int)) ts (m + 1) (zI u) (zI v) (zI dg) b (zI (p : Int)) sr = fX5_wrongAt_j103 N (zI (n : Int)) ts (fX5_wrongAt_l28 N (zI (n : Int)) ts m) (zI u) (zI v) (zI dg) b (zI (p : Int)) (zI (c p)) sr := by
  have hn := hT.1
  have hc2 := (hT.2 p hp).2.2
  rw [fX5_wrongAt_l28_s]
  unfold fX6_length
  rw [bd1_s, if_neg (i_nle rfl (by omega)), r_at N hT hp, bd1_s, if_neg (i_neq (b := 6) (by decide) (by omega))]
  by_cases g : c p < 48
  · rw [if_pos (i_lt (b := 48) (by decide) (by omega))]
  · rw [if_neg (i_nlt (b := 48) (by decide) (by omega)), if_pos (i_gt (b := 57) (by decide) (by omega))]
theorem c_minus (N : Nat) {n p : Nat} {c : Nat → Int} {ts T : Nat → Int32} (hT : TX n c ts T) (sr : Nat → Int32) {u v : Int} (m : Nat) (hp : p < n) (hu : -1 ≤ u ∧ u ≤ 5) (hc : c p = 45) : fX5_wrongAt_l28 N (zI (n : Int)) ts (m + 1) (zI u) (zI v) (zI 0) (0 : Int32) (zI (p : Int)) sr = fX5_wrongAt_l28 N (zI (n : Int)) ts m (zI u) (zI v) (zI 0) (1 : Int32) (zI ((p + 1 : Nat) : Int)) sr := by
  have e3 : zI (p : Int) + (1 : Int32) = zI ((p + 1 : Nat) : Int) := by rw [zl_1, zI_add]; rfl
  rw [c_103 N hT sr m hp hu (by omega)]
  unfold fX5_wrongAt_j103
  rw [if_pos (i_eq (b := 45) (by decide) hc), if_pos rfl, if_pos (i_le (b := 0) (by decide) (by omega)), nm_s, e3]
theorem c_minusB (N : Nat) {n p : Nat} {c : Nat → Int} {ts T : Nat → Int32} (hT : TX n c ts T) (sr : Nat → Int32) {u v dg : Int} {b : Int32} (m : Nat) (hp : p < n) (hu : -1 ≤ u ∧ u ≤ 5) (hc : c p = 45) (hd : 0 ≤ dg ∧ dg ≤ 5) (h : ¬ b = (0 : Int32) ∨ 0 < dg) : fX5_wrongAt_l28 N (zI (n : Int)) ts (m + 1) (zI u) (zI v) (zI dg) b (zI (p : Int)) sr = some (zI (p : Int), sr) := by
  rw [c_103 N hT sr m hp hu (by omega)]
  unfold fX5_wrongAt_j103
  rw [if_pos (i_eq (b := 45) (by decide) hc)]
  by_cases g : b = (0 : Int32)
  · rw [if_pos g, if_neg (i_nle (b := 0) (by decide) (by
      rcases h with h | h
      · exact absurd g h
      · omega))]
  · rw [if_neg g]
theorem c_bad (N : Nat) {n p : Nat} {c : Nat → Int} {ts T : Nat → Int32} (hT : TX n c ts T) (sr : Nat → Int32) {u v dg : Int} {b : Int32} (m : Nat) (hp : p < n) (hu : -1 ≤ u ∧ u ≤ 5) (hc : ¬ (48 ≤ c p ∧ c p ≤ 57)) (h45 : c p ≠ 45) (hd : 0 ≤ dg ∧ dg ≤ 5) (h : dg = 0 ∨ su (c p) ≤ u) : fX5_wrongAt_l28 N (zI (n : Int)) ts (m + 1) (zI u) (zI v) (zI dg) b (zI (p : Int)) sr = some (zI (p : Int), sr) := by
  have hc2 := (hT.2 p hp).2.2
  have hs := su_b (c p)
  rw [c_103 N hT sr m hp hu hc]
  unfold fX5_wrongAt_j103
  rw [if_neg (i_neq (b := 45) (by decide) (by omega)), su_of N (by omega), bd1_s]
  by_cases g : dg = 0
  · rw [if_pos (i_eq (b := 0) (by decide) g)]
  · rw [if_neg (i_neq (b := 0) (by decide) (by omega)), if_neg (i_nlt rfl (by omega))]
def xs (b : Int32) (v : Int) : Int := if b = (0 : Int32) then v else -v
theorem c_take (N : Nat) {n p : Nat} {c : Nat → Int} {ts T : Nat → Int32} (hT : TX n c ts T) (sr : Nat → Int32) {u v dg : Int} {b : Int32} (m : Nat) (hp : p < n) (hu : -1 ≤ u ∧ u ≤ 5) (hc : ¬ (48 ≤ c p ∧ c p ≤ 57)) (h45 : c p ≠ 45) (hd : 1 ≤ dg ∧ dg ≤ 5) {k : Nat} (hk : su (c p) = (k : Int)) (h : u < (k : Int)) : fX5_wrongAt_l28 N (zI (n : Int)) ts (m + 1) (zI u) (zI v) (zI dg) b (zI (p : Int)) sr = fX5_wrongAt_l28 N (zI (n : Int)) ts m (zI (k : Int)) (zI 0) (zI 0) (0 : Int32) (zI ((p + 1 : Nat) : Int)) (upd sr (pt k) (sr (pt k) + zI (xs b v * cnt k))) := by
  have hc2 := (hT.2 p hp).2.2
  have hs := su_b (c p)
  have e3 : zI (p : Int) + (1 : Int32) = zI ((p + 1 : Nat) : Int) := by rw [zl_1, zI_add]; rfl
  rw [c_103 N hT sr m hp hu hc]
  unfold fX5_wrongAt_j103 fX5_wrongAt_j164
  rw [if_neg (i_neq (b := 45) (by decide) (by omega)), su_of N (by omega), bd1_s, if_neg (i_neq (b := 0) (by decide) (by omega)), hk, if_pos (i_lt rfl (by omega))]
  unfold xs
  by_cases g : b = (0 : Int32)
  · rw [if_pos g, e_take N (by omega), bd1_s, nm_s, e3, if_pos g]; rfl
  · rw [if_neg g, zI_neg, e_take N (by omega), bd1_s, nm_s, e3, if_neg g]; rfl
/-! a part on both sides -/
def XV (xv : Nat → Int) (sr : Nat → Int32) : Prop := ∀ q, q < 3 → sr q = zI (xv q)
theorem XV.up {xv : Nat → Int} {sr : Nat → Int32} (h : XV xv sr) (q0 : Nat) (hq0 : q0 < 3) (x : Int) : XV (zup xv q0 (xv q0 + x)) (upd sr q0 (sr q0 + zI x)) := by
  intro q hq
  by_cases g : q = q0
  · subst g; rw [zup_s, upd_s, h q hq, zI_add]
  · rw [zup_n g, upd_n g]; exact h q hq
def cM (u : Int) : Int := if u < 0 then 0 else if u < 1 then 12 else 13
def cD (u : Int) : Int := if u < 2 then 0 else if u < 3 then 7 else 8
def cS (u : Int) : Int := if u < 4 then 0 else if u < 5 then 3600 else if u < 6 then 3660 else 3661
def BU (u : Int) (xv : Nat → Int) : Prop := (-99999 * cM u ≤ xv 0 ∧ xv 0 ≤ 99999 * cM u) ∧ (-99999 * cD u ≤ xv 1 ∧ xv 1 ≤ 99999 * cD u) ∧ (-99999 * cS u ≤ xv 2 ∧ xv 2 ≤ 99999 * cS u)
theorem BU.up {u : Int} {xv : Nat → Int} (h : BU u xv) {k : Nat} (hk : k < 7) (hu : u < (k : Int)) {X : Int} (hX : -99999 ≤ X ∧ X ≤ 99999) : BU (k : Int) (zup xv (pt k) (xv (pt k) + X * cnt k)) := by
  obtain ⟨h0, h1, h2⟩ := h
  have m0 : cM u ≤ cM (k : Int) ∧ 0 ≤ cM u := by unfold cM; constructor <;> (repeat' split) <;> omega
  have m1 : cD u ≤ cD (k : Int) ∧ 0 ≤ cD u := by unfold cD; constructor <;> (repeat' split) <;> omega
  have m2 : cS u ≤ cS (k : Int) ∧ 0 ≤ cS u := by unfold cS; constructor <;> (repeat' split) <;> omega
  have m7 : k = 0 ∨ k = 1 ∨ k = 2 ∨ k = 3 ∨ k = 4 ∨ k = 5 ∨ k = 6 := by omega
  rcases m7 with rfl | rfl | rfl | rfl | rfl | rfl | rfl
  · have e : cM u = 0 := by unfold cM; rw [if_pos (by omega)]
    have e2 : cM ((0 : Nat) : Int) = 12 := rfl
    rw [show pt 0 = 0 from rfl, show cnt 0 = 12 from rfl]
    exact ⟨by rw [zup_s]; omega, by rw [zup_n (by omega)]; omega, by rw [zup_n (by omega)]; omega⟩
  · have e : cM u ≤ 12 := by unfold cM; (repeat' split) <;> omega
    have e2 : cM ((1 : Nat) : Int) = 13 := rfl
    rw [show pt 1 = 0 from rfl, show cnt 1 = 1 from rfl]
    exact ⟨by rw [zup_s]; omega, by rw [zup_n (by omega)]; omega, by rw [zup_n (by omega)]; omega⟩
  · have e : cD u = 0 := by unfold cD; rw [if_pos (by omega)]
    have e2 : cD ((2 : Nat) : Int) = 7 := rfl
    rw [show pt 2 = 1 from rfl, show cnt 2 = 7 from rfl]
    exact ⟨by rw [zup_n (by omega)]; omega, by rw [zup_s]; omega, by rw [zup_n (by omega)]; omega⟩
  · have e : cD u ≤ 7 := by unfold cD; (repeat' split) <;> omega
    have e2 : cD ((3 : Nat) : Int) = 8 := rfl
    rw [show pt 3 = 1 from rfl, show cnt 3 = 1 from rfl]
    exact ⟨by rw [zup_n (by omega)]; omega, by rw [zup_s]; omega, by rw [zup_n (by omega)]; omega⟩
  · have e : cS u = 0 := by unfold cS; rw [if_pos (by omega)]
    have e2 : cS ((4 : Nat) : Int) = 3600 := rfl
    rw [show pt 4 = 2 from rfl, show cnt 4 = 3600 from rfl]
    exact ⟨by rw [zup_n (by omega)]; omega, by rw [zup_n (by omega)]; omega, by rw [zup_s]; omega⟩
  · have e : cS u ≤ 3600 := by unfold cS; (repeat' split) <;> omega
    have e2 : cS ((5 : Nat) : Int) = 3660 := rfl
    rw [show pt 5 = 2 from rfl, show cnt 5 = 60 from rfl]
    exact ⟨by rw [zup_n (by omega)]; omega, by rw [zup_n (by omega)]; omega, by rw [zup_s]; omega⟩
  · have e : cS u ≤ 3660 := by unfold cS; (repeat' split) <;> omega
    have e2 : cS ((6 : Nat) : Int) = 3661 := rfl
    rw [show pt 6 = 2 from rfl, show cnt 6 = 1 from rfl]
    exact ⟨by rw [zup_n (by omega)]; omega, by rw [zup_n (by omega)]; omega, by rw [zup_s]; omega⟩
def DG (dg v : Int) : Prop := (dg = 1 ∧ v ≤ 9) ∨ (dg = 2 ∧ v ≤ 99) ∨ (dg = 3 ∧ v ≤ 999) ∨ (dg = 4 ∧ v ≤ 9999) ∨ (dg = 5 ∧ v ≤ 99999)
def pa_out (N : Nat) (n : Nat) (ts : Nat → Int32) (u v dg : Int) (b : Int32) (p : Nat) (f : Nat) (sr rd i : Nat → Int32) (M : Option (Int32 × (Nat → Int32) × (Nat → Int32))) : Prop :=
  (∃ (k d : Nat) (X : Int) (i' : Nat → Int32), k < 7 ∧ u < (k : Int) ∧ d ≤ f ∧ p + d ≤ n ∧ (-99999 ≤ X ∧ X ≤ 99999) ∧ M = some (zI (k : Int), i', upd rd (pt k) (rd (pt k) + zI (X * cnt k))) ∧ i' 17 = zI ((p + d : Nat) : Int) ∧ i' 18 = (-1 : Int32) ∧ FR i i' ∧ ∀ m, fX5_wrongAt_l28 N (zI (n : Int)) ts (m + d) (zI u) (zI v) (zI dg) b (zI (p : Int)) sr = fX5_wrongAt_l28 N (zI (n : Int)) ts m (zI (k : Int)) (zI 0) (zI 0) (0 : Int32) (zI ((p + d : Nat) : Int)) (upd sr (pt k) (sr (pt k) + zI (X * cnt k))))
  ∨ (∃ (q : Int) (i' : Nat → Int32), (0 ≤ q ∧ q ≤ 100) ∧ M = some ((7 : Int32), i', rd) ∧ i' 18 = zI q ∧ FR i i' ∧ ∀ m, f ≤ m → fX5_wrongAt_l28 N (zI (n : Int)) ts m (zI u) (zI v) (zI dg) b (zI (p : Int)) sr = some (zI q, sr))
