/-! moments read -/
def TX (n : Nat) (c : Nat → Int) (ts T : Nat → Int32) : Prop := n ≤ 100 ∧ ∀ k, k < n → ts k = zI (c k) ∧ T k = zI (sp_byte (c k)) ∧ 0 ≤ c k ∧ c k ≤ 255
theorem rs_tab : (List.range 256).all (fun k => decide (zI (sp_byte (k : Int)) &&& (255 : Int32) = zI (k : Int))) = true := by decide +kernel
theorem rs_and {c : Int} (h1 : 0 ≤ c) (h2 : c ≤ 255) : zI (sp_byte c) &&& (255 : Int32) = zI c := by
  have e := of_decide_eq_true (List.all_eq_true.mp rs_tab c.toNat (List.mem_range.mpr (by omega)))
  rw [show ((c.toNat : Nat) : Int) = c by omega] at e
  exact e
def FR (i i' : Nat → Int32) : Prop := i' 4 = i 4 ∧ i' 6 = i 6 ∧ i' 8 = i 8 ∧ i' 16 = i 16
theorem FR.rfl' (i : Nat → Int32) : FR i i := ⟨rfl, rfl, rfl, rfl⟩
theorem FR.tr {i i1 i2 : Nat → Int32} (h : FR i i1) (h2 : FR i1 i2) : FR i i2 := ⟨h2.1.trans h.1, h2.2.1.trans h.2.1, h2.2.2.1.trans h.2.2.1, h2.2.2.2.trans h.2.2.2⟩
theorem FR.u17 {i : Nat → Int32} (v : Int32) : FR i (upd i 17 v) := ⟨upd_n (by omega), upd_n (by omega), upd_n (by omega), upd_n (by omega)⟩
theorem FR.u18 {i : Nat → Int32} (v : Int32) : FR i (upd i 18 v) := ⟨upd_n (by omega), upd_n (by omega), upd_n (by omega), upd_n (by omega)⟩
theorem r_at (N : Nat) {n : Nat} {c : Nat → Int} {ts T : Nat → Int32} (hT : TX n c ts T) {p : Nat} (hp : p < n) : fX6_at N (zI (p : Int)) (zI (n : Int)) ts = some (zI (c p)) := by
  obtain ⟨hn, h⟩ := hT
  unfold fX6_at
  rw [if_neg (i_nlt (b := 0) (by decide) (by omega)), if_neg (i_nle rfl (by omega)), if_neg (i_nge' (b := 100) (by decide) (by omega)), gi_z (by omega) (by omega) (by omega), zI_cl (by omega) (by omega), tn1, (h p hp).1]
def sp_see (n : Nat) (c : Nat → Int) (p : Nat) : Int := if p < n then c p else -1
theorem see_b {n : Nat} {c : Nat → Int} {ts T : Nat → Int32} (hT : TX n c ts T) (p : Nat) : -1 ≤ sp_see n c p ∧ sp_see n c p ≤ 255 := by
  unfold sp_see
  split
  · obtain ⟨hn, h⟩ := hT
    have := (h p (by omega)).2.2
    omega
  · omega
/-! the class's reader -/
theorem cl_end (N : Nat) {n p : Nat} {ts : Nat → Int32} (mr : Nat → Int32) (m : Nat) (hp : p = n) (h : p < 19) : fX2_wrongAt_l12 N (zI (n : Int)) ts (m + 1) (zI (p : Int)) mr = some (if p = 10 then (-1 : Int32) else zI (p : Int), mr) := by
  rw [fX2_wrongAt_l12_s, if_neg (i_nge' (b := 19) (by decide) (by omega))]
  unfold fX6_length
  rw [bd1_s, if_pos (i_eq rfl (by omega))]
  by_cases g : p = 10
  · rw [if_pos (i_eq (b := 10) (by decide) (by omega)), if_pos g]
  · rw [if_neg (i_neq (b := 10) (by decide) (by omega)), if_neg g]
theorem cl_bad (N : Nat) {n p : Nat} {c : Nat → Int} {ts T : Nat → Int32} (hT : TX n c ts T) {mr mr' : Nat → Int32} (m : Nat) (hp : p < n) (h : p < 19) (hf : fX2_fits N (zI (p : Int)) (zI (c p)) mr = some ((0 : Int32), mr')) : fX2_wrongAt_l12 N (zI (n : Int)) ts (m + 1) (zI (p : Int)) mr = some (zI (p : Int), mr') := by
  have hn := hT.1
  rw [fX2_wrongAt_l12_s, if_neg (i_nge' (b := 19) (by decide) (by omega))]
  unfold fX6_length
  rw [bd1_s, if_neg (i_neq rfl (by omega)), r_at N hT hp, bd1_s, hf, bd2_s, if_pos rfl]
theorem cl_ok (N : Nat) {n p : Nat} {c : Nat → Int} {ts T : Nat → Int32} (hT : TX n c ts T) {mr mr' mr2 : Nat → Int32} (m : Nat) (hp : p < n) (h : p < 19) (hf : fX2_fits N (zI (p : Int)) (zI (c p)) mr = some ((1 : Int32), mr')) (hk : fX2_keepNumber N (zI (p : Int)) mr' = some mr2) : fX2_wrongAt_l12 N (zI (n : Int)) ts (m + 1) (zI (p : Int)) mr = fX2_wrongAt_l12 N (zI (n : Int)) ts m (zI ((p + 1 : Nat) : Int)) mr2 := by
  have hn := hT.1
  have c1 : zI (p : Int) + (1 : Int32) = zI ((p + 1 : Nat) : Int) := by rw [zl_1, zI_add]; rfl
  rw [fX2_wrongAt_l12_s, if_neg (i_nge' (b := 19) (by decide) (by omega))]
  unfold fX6_length
  rw [bd1_s, if_neg (i_neq rfl (by omega)), r_at N hT hp, bd1_s, hf, bd2_s, if_neg (show ¬ ((1 : Int32) = (0 : Int32)) by decide), hk, bd1_s, nm_s, c1]
theorem f_dig (N : Nat) {p : Nat} (h : p < 19) (h4 : p ≠ 4) (h7 : p ≠ 7) (h10 : p ≠ 10) (h13 : p ≠ 13) (h16 : p ≠ 16) (x : Int32) (mr : Nat → Int32) : fX2_fits N (zI (p : Int)) x mr = fX2_fits_j104 N (zI (p : Int)) x mr := by
  unfold fX2_fits
  rw [if_neg (i_neq (b := 4) (by decide) (by omega))]
  by_cases g : p = 5
  · rw [if_pos (i_eq (b := 5) (by decide) (by omega))]
  rw [if_neg (i_neq (b := 5) (by decide) (by omega))]
  by_cases g : p = 6
  · rw [if_pos (i_eq (b := 6) (by decide) (by omega))]
  rw [if_neg (i_neq (b := 6) (by decide) (by omega)), if_neg (i_neq (b := 7) (by decide) (by omega))]
  by_cases g : p = 8
  · rw [if_pos (i_eq (b := 8) (by decide) (by omega))]
  rw [if_neg (i_neq (b := 8) (by decide) (by omega))]
  by_cases g : p = 9
  · rw [if_pos (i_eq (b := 9) (by decide) (by omega))]
  rw [if_neg (i_neq (b := 9) (by decide) (by omega)), if_neg (i_neq (b := 10) (by decide) (by omega))]
  by_cases g : p = 11
  · rw [if_pos (i_eq (b := 11) (by decide) (by omega))]
  rw [if_neg (i_neq (b := 11) (by decide) (by omega))]
  by_cases g : p = 12
  · rw [if_pos (i_eq (b := 12) (by decide) (by omega))]
  rw [if_neg (i_neq (b := 12) (by decide) (by omega)), if_neg (i_neq (b := 13) (by decide) (by omega))]
  by_cases g : p = 14
  · rw [if_pos (i_eq (b := 14) (by decide) (by omega))]
  rw [if_neg (i_neq (b := 14) (by decide) (by omega))]
  by_cases g : p = 15
  · rw [if_pos (i_eq (b := 15) (by decide) (by omega))]
  rw [if_neg (i_neq (b := 15) (by decide) (by omega)), if_neg (i_neq (b := 16) (by decide) (by omega))]
theorem f_sep (N : Nat) {p : Nat} {ch : Int} (h : (p = 4 ∧ ch = 45) ∨ (p = 7 ∧ ch = 45) ∨ (p = 10 ∧ ch = 84) ∨ (p = 13 ∧ ch = 58) ∨ (p = 16 ∧ ch = 58)) {x : Int} (hx : -1 ≤ x ∧ x ≤ 255) (mr : Nat → Int32) : fX2_fits N (zI (p : Int)) (zI x) mr = some (if x = ch then (1 : Int32) else (0 : Int32), mr) := by
  have k1 : ∀ {C : Int32}, C = zI ch → (if zI x = C then (some ((1 : Int32), mr)) else (some ((0 : Int32), mr))) = some (if x = ch then (1 : Int32) else (0 : Int32), mr) := by
    intro C hC
    by_cases g : x = ch
    · rw [if_pos (i_eq hC g), if_pos g]
    · rw [if_neg (i_neq hC (by omega)), if_neg g]
  unfold fX2_fits
  rcases h with ⟨rfl, rfl⟩ | ⟨rfl, rfl⟩ | ⟨rfl, rfl⟩ | ⟨rfl, rfl⟩ | ⟨rfl, rfl⟩
  · rw [if_pos (i_eq (b := 4) (by decide) (by omega))]; exact k1 (by decide)
  · rw [if_neg (i_neq (b := 4) (by decide) (by omega)), if_neg (i_neq (b := 5) (by decide) (by omega)), if_neg (i_neq (b := 6) (by decide) (by omega)), if_pos (i_eq (b := 7) (by decide) (by omega))]; exact k1 (by decide)
  · rw [if_neg (i_neq (b := 4) (by decide) (by omega)), if_neg (i_neq (b := 5) (by decide) (by omega)), if_neg (i_neq (b := 6) (by decide) (by omega)), if_neg (i_neq (b := 7) (by decide) (by omega)), if_neg (i_neq (b := 8) (by decide) (by omega)), if_neg (i_neq (b := 9) (by decide) (by omega)), if_pos (i_eq (b := 10) (by decide) (by omega))]; exact k1 (by decide)
  · rw [if_neg (i_neq (b := 4) (by decide) (by omega)), if_neg (i_neq (b := 5) (by decide) (by omega)), if_neg (i_neq (b := 6) (by decide) (by omega)), if_neg (i_neq (b := 7) (by decide) (by omega)), if_neg (i_neq (b := 8) (by decide) (by omega)), if_neg (i_neq (b := 9) (by decide) (by omega)), if_neg (i_neq (b := 10) (by decide) (by omega)), if_neg (i_neq (b := 11) (by decide) (by omega)), if_neg (i_neq (b := 12) (by decide) (by omega)), if_pos (i_eq (b := 13) (by decide) (by omega))]; exact k1 (by decide)
  · rw [if_neg (i_neq (b := 4) (by decide) (by omega)), if_neg (i_neq (b := 5) (by decide) (by omega)), if_neg (i_neq (b := 6) (by decide) (by omega)), if_neg (i_neq (b := 7) (by decide) (by omega)), if_neg (i_neq (b := 8) (by decide) (by omega)), if_neg (i_neq (b := 9) (by decide) (by omega)), if_neg (i_neq (b := 10) (by decide) (by omega)), if_neg (i_neq (b := 11) (by decide) (by omega)), if_neg (i_neq (b := 12) (by decide) (by omega)), if_neg (i_neq (b := 13) (by decide) (by omega)), if_neg (i_neq (b := 14) (by decide) (by omega)), if_neg (i_neq (b := 15) (by decide) (by omega)), if_pos (i_eq (b := 16) (by decide) (by omega))]; exact k1 (by decide)
theorem k_not (N : Nat) {p : Nat} (h : p < 19) (h3 : p ≠ 3) (h6 : p ≠ 6) (h9 : p ≠ 9) (h12 : p ≠ 12) (h15 : p ≠ 15) (h18 : p ≠ 18) (mr : Nat → Int32) : fX2_keepNumber N (zI (p : Int)) mr = some mr := by
  unfold fX2_keepNumber
  rw [if_neg (i_neq (b := 3) (by decide) (by omega))]
  by_cases g4 : p = 4
  · rw [if_pos (i_eq (b := 4) (by decide) (by omega))]
  rw [if_neg (i_neq (b := 4) (by decide) (by omega))]
  by_cases g5 : p = 5
  · rw [if_pos (i_eq (b := 5) (by decide) (by omega))]
  rw [if_neg (i_neq (b := 5) (by decide) (by omega))]
  rw [if_neg (i_neq (b := 6) (by decide) (by omega))]
  by_cases g7 : p = 7
  · rw [if_pos (i_eq (b := 7) (by decide) (by omega))]
  rw [if_neg (i_neq (b := 7) (by decide) (by omega))]
  by_cases g8 : p = 8
  · rw [if_pos (i_eq (b := 8) (by decide) (by omega))]
  rw [if_neg (i_neq (b := 8) (by decide) (by omega))]
  rw [if_neg (i_neq (b := 9) (by decide) (by omega))]
  by_cases g10 : p = 10
  · rw [if_pos (i_eq (b := 10) (by decide) (by omega))]
  rw [if_neg (i_neq (b := 10) (by decide) (by omega))]
  by_cases g11 : p = 11
  · rw [if_pos (i_eq (b := 11) (by decide) (by omega))]
  rw [if_neg (i_neq (b := 11) (by decide) (by omega))]
  rw [if_neg (i_neq (b := 12) (by decide) (by omega))]
  by_cases g13 : p = 13
  · rw [if_pos (i_eq (b := 13) (by decide) (by omega))]
  rw [if_neg (i_neq (b := 13) (by decide) (by omega))]
  by_cases g14 : p = 14
  · rw [if_pos (i_eq (b := 14) (by decide) (by omega))]
  rw [if_neg (i_neq (b := 14) (by decide) (by omega))]
  rw [if_neg (i_neq (b := 15) (by decide) (by omega))]
  by_cases g16 : p = 16
  · rw [if_pos (i_eq (b := 16) (by decide) (by omega))]
  rw [if_neg (i_neq (b := 16) (by decide) (by omega))]
  by_cases g17 : p = 17
  · rw [if_pos (i_eq (b := 17) (by decide) (by omega))]
  rw [if_neg (i_neq (b := 17) (by decide) (by omega))]
  rw [if_neg (i_neq (b := 18) (by decide) (by omega))]
theorem k_at (N : Nat) (mr : Nat → Int32) : fX2_keepNumber N (zI 3) mr = some (upd mr 2 (mr 4)) ∧ fX2_keepNumber N (zI 6) mr = some (upd mr 3 (mr 4)) ∧ fX2_keepNumber N (zI 9) mr = (bd1 (fX1_dayOf N (mr 2) (mr 3) (mr 4)) fun r8 => (some (upd mr 0 r8))) ∧ fX2_keepNumber N (zI 12) mr = some (upd mr 1 ((3600 : Int32) * mr 4)) ∧ fX2_keepNumber N (zI 15) mr = some (upd mr 1 (mr 1 + (60 : Int32) * mr 4)) ∧ fX2_keepNumber N (zI 18) mr = some (upd mr 1 (mr 1 + mr 4)) := by
  refine ⟨rfl, rfl, rfl, rfl, rfl, rfl⟩
/-! digits -/
theorem q_non (N : Nat) {p : Nat} (h : p < 19) (h4 : p ≠ 4) (h7 : p ≠ 7) (h10 : p ≠ 10) (h13 : p ≠ 13) (h16 : p ≠ 16) {x : Int} (hx : -1 ≤ x ∧ x ≤ 255) (g : ¬ (48 ≤ x ∧ x ≤ 57)) (mr : Nat → Int32) : fX2_fits N (zI (p : Int)) (zI x) mr = some ((0 : Int32), mr) := by
  rw [f_dig N h h4 h7 h10 h13 h16]
  unfold fX2_fits_j104
  by_cases g1 : x < 48
  · rw [if_pos (i_lt (b := 48) (by decide) (by omega))]
  · rw [if_neg (i_nlt (b := 48) (by decide) (by omega)), if_pos (i_gt (b := 57) (by decide) (by omega))]
theorem q_dig (N : Nat) {p : Nat} (h : p < 19) (h4 : p ≠ 4) (h7 : p ≠ 7) (h10 : p ≠ 10) (h13 : p ≠ 13) (h16 : p ≠ 16) {x : Int} (g : 48 ≤ x ∧ x ≤ 57) {mr mr' : Nat → Int32} {P : Prop} [Decidable P] (hf : fX2_fitsDigit N (zI (p : Int)) (zI (x - 48)) mr = some (if P then (1 : Int32) else (0 : Int32), mr')) : fX2_fits N (zI (p : Int)) (zI x) mr = some (if P then (1 : Int32) else (0 : Int32), mr') := by
  rw [f_dig N h h4 h7 h10 h13 h16]
  unfold fX2_fits_j104
  have c1 : zI x - (48 : Int32) = zI (x - 48) := by rw [zl_48, zI_sub]
  rw [if_neg (i_nlt (b := 48) (by decide) (by omega)), if_neg (i_ngt (b := 57) (by decide) (by omega)), c1, hf, bd2_s]
  by_cases q : P
  · rw [if_pos q, if_neg (show ¬ ((1 : Int32) = (0 : Int32)) by decide)]
  · rw [if_neg q, if_pos rfl]
theorem d_first (N : Nat) {p : Nat} (h : p = 0 ∨ p = 5 ∨ p = 8 ∨ p = 11 ∨ p = 14 ∨ p = 17) (d : Int32) (mr : Nat → Int32) : fX2_fitsDigit N (zI (p : Int)) d mr = fX2_fitsDigit_j57 N (zI (p : Int)) (1 : Int32) d mr := by
  have k1 : fX2_fitsDigit_j38 N (zI (p : Int)) d (1 : Int32) mr = fX2_fitsDigit_j57 N (zI (p : Int)) (1 : Int32) d mr := by
    unfold fX2_fitsDigit_j38
    rw [if_neg (show ¬ ((1 : Int32) = (0 : Int32)) by decide)]
  unfold fX2_fitsDigit
  rw [k1]
  by_cases g0 : p = 0
  · rw [if_pos (i_eq (b := 0) (by decide) (by omega))]
  rw [if_neg (i_neq (b := 0) (by decide) (by omega))]
  by_cases g1 : p = 5
  · rw [if_pos (i_eq (b := 5) (by decide) (by omega))]
  rw [if_neg (i_neq (b := 5) (by decide) (by omega))]
  by_cases g2 : p = 8
  · rw [if_pos (i_eq (b := 8) (by decide) (by omega))]
  rw [if_neg (i_neq (b := 8) (by decide) (by omega))]
  by_cases g3 : p = 11
  · rw [if_pos (i_eq (b := 11) (by decide) (by omega))]
  rw [if_neg (i_neq (b := 11) (by decide) (by omega))]
  by_cases g4 : p = 14
  · rw [if_pos (i_eq (b := 14) (by decide) (by omega))]
  rw [if_neg (i_neq (b := 14) (by decide) (by omega)), if_pos (i_eq (b := 17) (by decide) (by omega))]
theorem d_second (N : Nat) {p : Nat} (hp : p < 19) (h : ¬ (p = 0 ∨ p = 5 ∨ p = 8 ∨ p = 11 ∨ p = 14 ∨ p = 17)) {d v : Int} {mr : Nat → Int32} (hm : mr 4 = zI v) : fX2_fitsDigit N (zI (p : Int)) (zI d) mr = fX2_fitsDigit_j57 N (zI (p : Int)) (0 : Int32) (zI (10 * v + d)) mr := by
  have k1 : fX2_fitsDigit_j38 N (zI (p : Int)) (zI d) (0 : Int32) mr = fX2_fitsDigit_j57 N (zI (p : Int)) (0 : Int32) (zI (10 * v + d)) mr := by
    unfold fX2_fitsDigit_j38
    rw [if_pos rfl, hm, zl_10, zI_mul, zI_add, show v * 10 = 10 * v by omega]
  unfold fX2_fitsDigit
  rw [k1, if_neg (i_neq (b := 0) (by decide) (by omega)), if_neg (i_neq (b := 5) (by decide) (by omega)), if_neg (i_neq (b := 8) (by decide) (by omega)), if_neg (i_neq (b := 11) (by decide) (by omega)), if_neg (i_neq (b := 14) (by decide) (by omega)), if_neg (i_neq (b := 17) (by decide) (by omega))]
theorem d_year (N : Nat) {p : Nat} (hp : p < 4) (v3 : Int32) {t : Int} (ht : 0 ≤ t ∧ t ≤ 9999) (mr : Nat → Int32) : fX2_fitsDigit_j57 N (zI (p : Int)) v3 (zI t) mr = some (if p < 3 ∨ 1 ≤ t then (1 : Int32) else (0 : Int32), upd mr 4 (zI t)) := by
  unfold fX2_fitsDigit_j57
  rw [if_neg (i_nge' (b := 4) (by decide) (by omega))]
  by_cases g : p < 3
  · rw [if_pos (i_lt (b := 3) (by decide) (by omega)), if_pos (Or.inl g)]
  · rw [if_neg (i_nlt (b := 3) (by decide) (by omega))]
    by_cases q : t ≤ 0
    · rw [if_pos (i_le (b := 0) (by decide) (by omega)), if_neg (by omega)]
    · rw [if_neg (i_nle (b := 0) (by decide) (by omega)), if_pos (by omega)]
theorem d_one (N : Nat) {p : Nat} (hp : 4 ≤ p ∧ p < 19) {t hi : Int} (ht : 0 ≤ t ∧ t ≤ 99) (hh : 0 ≤ hi ∧ hi ≤ 99) {mr : Nat → Int32} (hm : fX2_mostAt N (zI (p : Int)) (upd mr 4 (zI t)) = some (zI hi)) : fX2_fitsDigit_j57 N (zI (p : Int)) (1 : Int32) (zI t) mr = some (if 10 * t ≤ hi then (1 : Int32) else (0 : Int32), upd mr 4 (zI t)) := by
  have k1 : ∀ x : Int32, fX2_fitsDigit_j94 N (zI (p : Int)) (1 : Int32) x (upd mr 4 (zI t)) = some (if 10 * t ≤ hi then (1 : Int32) else (0 : Int32), upd mr 4 (zI t)) := by
    intro x
    unfold fX2_fitsDigit_j94
    rw [if_neg (show ¬ ((1 : Int32) = (0 : Int32)) by decide), hm, bd1_s, upd_s, zl_10, zI_mul]
    by_cases q : 10 * t ≤ hi
    · rw [if_neg (i_nlt rfl (by omega)), if_pos q]
    · rw [if_pos (i_lt rfl (by omega)), if_neg q]
  unfold fX2_fitsDigit_j57
  rw [if_pos (i_ge' (b := 4) (by decide) (by omega)), k1, k1]
  split <;> rfl
theorem d_two (N : Nat) {p : Nat} (hp : 4 ≤ p ∧ p < 19) {t hi lo : Int} (hl : (lo = 0 ∧ 10 ≤ p) ∨ (lo = 1 ∧ p < 10)) (ht : 0 ≤ t ∧ t ≤ 99) (hh : 0 ≤ hi ∧ hi ≤ 99) {mr : Nat → Int32} (hm : fX2_mostAt N (zI (p : Int)) (upd mr 4 (zI t)) = some (zI hi)) : fX2_fitsDigit_j57 N (zI (p : Int)) (0 : Int32) (zI t) mr = some (if lo ≤ t ∧ t ≤ hi then (1 : Int32) else (0 : Int32), upd mr 4 (zI t)) := by
  have k1 : fX2_fitsDigit_j94 N (zI (p : Int)) (0 : Int32) (zI lo) (upd mr 4 (zI t)) = some (if lo ≤ t ∧ t ≤ hi then (1 : Int32) else (0 : Int32), upd mr 4 (zI t)) := by
    unfold fX2_fitsDigit_j94
    rw [if_pos rfl, hm, bd1_s, upd_s]
    by_cases q : t < lo
    · rw [if_pos (i_lt rfl (by omega)), if_neg (by omega)]
    · rw [if_neg (i_nlt rfl (by omega))]
      by_cases q2 : t ≤ hi
      · rw [if_neg (i_nlt rfl (by omega)), if_pos (by omega)]
      · rw [if_pos (i_lt rfl (by omega)), if_neg (by omega)]
  unfold fX2_fitsDigit_j57
  rw [if_pos (i_ge' (b := 4) (by decide) (by omega))]
  rcases hl with ⟨rfl, h⟩ | ⟨rfl, h⟩
  · rw [if_pos (i_ge' (b := 10) (by decide) (by omega))]; exact k1
  · rw [if_neg (i_nge' (b := 10) (by decide) (by omega))]; exact k1
theorem mo_8 (N : Nat) {p : Nat} (h : p < 8) (mr : Nat → Int32) : fX2_mostAt N (zI (p : Int)) mr = some (zI 12) := by
  unfold fX2_mostAt
  rw [if_neg (i_nge' (b := 8) (by decide) (by omega))]; rfl
theorem mo_11 (N : Nat) {p : Nat} (h : 8 ≤ p ∧ p < 11) {y m : Int} (hy : 1 ≤ y ∧ y ≤ 9999) (hm : 1 ≤ m ∧ m ≤ 12) {mr : Nat → Int32} (h2 : mr 2 = zI y) (h3 : mr 3 = zI m) : fX2_mostAt N (zI (p : Int)) mr = some (zI (sp_mlen y m)) := by
  unfold fX2_mostAt
  rw [if_pos (i_ge' (b := 8) (by decide) (by omega)), if_neg (i_nge' (b := 11) (by decide) (by omega)), h2, h3, e_mlen N (by omega) (by omega) (by omega) (by omega), bd1_s]
theorem mo_14 (N : Nat) {p : Nat} (h : 11 ≤ p ∧ p < 14) (mr : Nat → Int32) : fX2_mostAt N (zI (p : Int)) mr = some (zI 23) := by
  unfold fX2_mostAt
  rw [if_pos (i_ge' (b := 8) (by decide) (by omega)), if_pos (i_ge' (b := 11) (by decide) (by omega)), if_neg (i_nge' (b := 14) (by decide) (by omega))]; rfl
theorem mo_19 (N : Nat) {p : Nat} (h : 14 ≤ p ∧ p < 19) (mr : Nat → Int32) : fX2_mostAt N (zI (p : Int)) mr = some (zI 59) := by
  unfold fX2_mostAt
  rw [if_pos (i_ge' (b := 8) (by decide) (by omega)), if_pos (i_ge' (b := 11) (by decide) (by omega)), if_pos (i_ge' (b := 14) (by decide) (by omega))]; rfl
/-! two digits on both sides -/
