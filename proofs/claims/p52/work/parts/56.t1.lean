/-! texts as lists of signs: moments written and read -/
def TL (l : List Int) (ti : Int32) (ts : Nat → Int32) : Prop := l.length ≤ 100 ∧ ti = zI (l.length : Int) ∧ ∀ k, k < l.length → ts k = zI (l.getD k 0)
def LB (l : List Int) : Prop := ∀ k, k < l.length → 0 ≤ l.getD k 0 ∧ l.getD k 0 ≤ 127
theorem TL.put {l : List Int} {ti : Int32} {ts : Nat → Int32} (h : TL l ti ts) (N : Nat) (hl : l.length < 100) {v : Int32} {z : Int} (e : v = zI z) : ∃ ti' ts', fX6_put N v ti ts = some (ti', ts') ∧ TL (l ++ [z]) ti' ts' := by
  obtain ⟨h1, h2, h3⟩ := h
  subst e
  rw [h2, e_put6 N hl]
  refine ⟨_, _, rfl, by rw [List.length_append]; show l.length + 1 ≤ 100; omega, by rw [List.length_append]; rfl, fun k hk => ?_⟩
  rw [List.length_append] at hk
  by_cases ek : k = l.length
  · rw [ek, upd_s, List.getD_eq_getElem?_getD, List.getElem?_append_right (Nat.le_refl _), Nat.sub_self]; rfl
  · have hk' : k < l.length := by simp only [List.length_cons, List.length_nil] at hk; omega
    rw [upd_n ek, h3 k hk', List.getD_eq_getElem?_getD, List.getD_eq_getElem?_getD, List.getElem?_append_left hk']
theorem TL.two {l : List Int} {ti : Int32} {ts : Nat → Int32} (h : TL l ti ts) (N : Nat) (hl : l.length < 99) {v : Int32} {z : Int} (e : v = zI z) (hz : 0 ≤ z ∧ z ≤ 1000000) : ∃ ti' ts', fX6_putTwo N v ti ts = some (ti', ts') ∧ TL (l ++ [48 + z / 10, 48 + z % 10]) ti' ts' := by
  subst e
  obtain ⟨t1, s1, e1, h1⟩ := h.put N (by omega) (v := (48 : Int32) + (zI z / (10 : Int32))) (z := 48 + z / 10) (by rw [zl_48, zl_10, zI_div (by omega) (by omega) (by omega) (by omega), zI_add])
  obtain ⟨t2, s2, e2, h2⟩ := h1.put N (by rw [List.length_append]; simp only [List.length_cons, List.length_nil]; omega) (v := (48 : Int32) + (zI z - zI z / (10 : Int32) * (10 : Int32))) (z := 48 + z % 10) (by rw [zl_48, zl_10, zI_div (by omega) (by omega) (by omega) (by omega), zI_mul, zI_sub, mod_fold, zI_add])
  unfold fX6_putTwo
  rw [e1, bd2_s, e2, bd2_s]
  refine ⟨_, _, rfl, ?_⟩
  rw [List.append_assoc] at h2
  exact h2
def w_d (x : Int) : List Int := [48 + sp_Y x / 100 / 10, 48 + sp_Y x / 100 % 10, 48 + sp_Y x % 100 / 10, 48 + sp_Y x % 100 % 10, 45, 48 + sp_M x / 10, 48 + sp_M x % 10, 45, 48 + sp_D x / 10, 48 + sp_D x % 10]
def w_t (t : Int) : List Int := [84, 48 + t / 3600 / 10, 48 + t / 3600 % 10, 58, 48 + t / 60 % 60 / 10, 48 + t / 60 % 60 % 10, 58, 48 + t % 60 / 10, 48 + t % 60 % 10]
def w_m (x t : Int) : List Int := if t = 0 then w_d x else w_d x ++ w_t t
theorem w_m_len (x t : Int) : (w_m x t).length = if t = 0 then 10 else 19 := by
  unfold w_m
  split <;> rfl
theorem RelC.cut {ci : Int32} (h : RelC ci) (N : Nat) (cs : Nat → Int32) : ∃ ci', fX6_cut N (0 : Int32) ci = some ci' ∧ TL [] ci' cs := by
  obtain ⟨n, h1, h2⟩ := h
  subst h2
  unfold fX6_cut
  rw [if_neg (by decide), if_neg (i_nlt (b := 0) (by decide) (by omega))]
  exact ⟨_, rfl, by decide, by decide, fun k hk => absurd hk (Nat.not_lt_zero k)⟩
theorem TL.c {l : List Int} {ti : Int32} {ts : Nat → Int32} (h : TL l ti ts) : RelC ti := ⟨l.length, h.1, h.2.1⟩
theorem e_writeM (N : Nat) {ks ci : Int32} {cs : Nat → Int32} (hC : RelC ci) {x t : Int} (hx : 0 ≤ x ∧ x ≤ 3652058) (ht : 0 ≤ t ∧ t ≤ 86399) : ∃ ci' cs', fX9_writeMoment N (zI x) (zI t) ks ci cs = some (ci', cs') ∧ TL (w_m x t) ci' cs' := by
  obtain ⟨g4, g5, g6, g7⟩ := sp_all hx.1 hx.2
  have g8 := mlen_b (sp_Y x) (sp_M x)
  obtain ⟨d1, d2, d4⟩ := ymd hx.1 hx.2
  obtain ⟨z, hz⟩ : ∃ z, z = sp_Y x * 10000 + sp_M x * 100 + sp_D x := ⟨_, rfl⟩
  rw [← hz] at d1 d2 d4
  obtain ⟨c0, e0, T0⟩ := hC.cut N cs
  unfold fX9_writeMoment
  rw [e_dateOf N hx.1 hx.2, bd1_s, ← hz, e0, bd1_s]
  have bz : 0 ≤ z ∧ z ≤ 100000000 := by omega
  obtain ⟨c1, s1, e1, T1⟩ := T0.two N (by decide) (v := zI z / (1000000 : Int32)) (z := sp_Y x / 100) (by rw [show (1000000 : Int32) = zI 1000000 by decide, zI_div (by omega) (by omega) (by omega) (by omega)]; congr 1; omega) (by omega)
  rw [e1, bd2_s]
  obtain ⟨c2, s2, e2, T2⟩ := T1.two N (by simp only [List.length_append, List.length_cons, List.length_nil]; omega) (v := (zI z / (10000 : Int32)) - (zI z / (10000 : Int32)) / (100 : Int32) * (100 : Int32)) (z := sp_Y x % 100) (by rw [zl_10000, zl_100, zI_div (by omega) (by omega) (by omega) (by omega), d1, zI_div (by omega) (by omega) (by omega) (by omega), zI_mul, zI_sub, mod_fold]) (by omega)
  rw [e2, bd2_s]
  obtain ⟨c3, s3, e3, T3⟩ := T2.put N (by simp only [List.length_append, List.length_cons, List.length_nil]; omega) (v := (45 : Int32)) (z := 45) (by decide)
  rw [e3, bd2_s]
  obtain ⟨c4, s4, e4, T4⟩ := T3.two N (by simp only [List.length_append, List.length_cons, List.length_nil]; omega) (v := (zI z / (100 : Int32)) - (zI z / (100 : Int32)) / (100 : Int32) * (100 : Int32)) (z := sp_M x) (by rw [zl_100, zI_div (by omega) (by omega) (by omega) (by omega), zI_div (by omega) (by omega) (by omega) (by omega), zI_mul, zI_sub, mod_fold, d2]) (by omega)
  rw [e4, bd2_s]
  obtain ⟨c5, s5, e5, T5⟩ := T4.put N (by simp only [List.length_append, List.length_cons, List.length_nil]; omega) (v := (45 : Int32)) (z := 45) (by decide)
  rw [e5, bd2_s]
  obtain ⟨c6, s6, e6, T6⟩ := T5.two N (by simp only [List.length_append, List.length_cons, List.length_nil]; omega) (v := zI z - zI z / (100 : Int32) * (100 : Int32)) (z := sp_D x) (by rw [zl_100, zI_div (by omega) (by omega) (by omega) (by omega), zI_mul, zI_sub, mod_fold, d4]) (by omega)
  rw [e6, bd2_s]
  unfold w_m
  by_cases h0 : t = 0
  · rw [if_pos (i_eq (b := 0) (by decide) h0), if_pos h0]
    exact ⟨_, _, rfl, T6⟩
  rw [if_neg (i_neq (b := 0) (by decide) (by omega)), if_neg h0]
  obtain ⟨c7, s7, e7, T7⟩ := T6.put N (by simp only [List.length_append, List.length_cons, List.length_nil]; omega) (v := (84 : Int32)) (z := 84) (by decide)
  rw [e7, bd2_s]
  obtain ⟨c8, s8, e8, T8⟩ := T7.two N (by simp only [List.length_append, List.length_cons, List.length_nil]; omega) (v := zI t / (3600 : Int32)) (z := t / 3600) (by rw [zl_3600, zI_div (by omega) (by omega) (by omega) (by omega)]) (by omega)
  rw [e8, bd2_s]
  obtain ⟨c9, s9, e9, T9⟩ := T8.put N (by simp only [List.length_append, List.length_cons, List.length_nil]; omega) (v := (58 : Int32)) (z := 58) (by decide)
  rw [e9, bd2_s]
  obtain ⟨cA, sA, eA, TA⟩ := T9.two N (by simp only [List.length_append, List.length_cons, List.length_nil]; omega) (v := (zI t / (60 : Int32)) - (zI t / (60 : Int32)) / (60 : Int32) * (60 : Int32)) (z := t / 60 % 60) (by rw [zl_60, zI_div (by omega) (by omega) (by omega) (by omega), zI_div (by omega) (by omega) (by omega) (by omega), zI_mul, zI_sub, mod_fold]) (by omega)
  rw [eA, bd2_s]
  obtain ⟨cB, sB, eB, TB⟩ := TA.put N (by simp only [List.length_append, List.length_cons, List.length_nil]; omega) (v := (58 : Int32)) (z := 58) (by decide)
  rw [eB, bd2_s]
  obtain ⟨cD, sD, eD, TD⟩ := TB.two N (by simp only [List.length_append, List.length_cons, List.length_nil]; omega) (v := zI t - zI t / (60 : Int32) * (60 : Int32)) (z := t % 60) (by rw [zl_60, zI_div (by omega) (by omega) (by omega) (by omega), zI_mul, zI_sub, mod_fold]) (by omega)
  rw [eD, bd2_s]
  exact ⟨_, _, rfl, TD⟩
theorem TL.at {l : List Int} {ti : Int32} {ts : Nat → Int32} (h : TL l ti ts) (N : Nat) {k : Nat} (hk : k < l.length) : fX6_at N (zI (k : Int)) ti ts = some (zI (l.getD k 0)) := by
  obtain ⟨h1, h2, h3⟩ := h
  subst h2
  unfold fX6_at
  rw [if_neg (i_nlt (b := 0) (by decide) (by omega)), if_neg (i_nle rfl (by omega)), if_neg (i_nge' (b := 100) (by decide) (by omega)), gi_z (by omega) (by omega) (by omega), zI_cl (by omega) (by omega), tn1, h3 k hk]
theorem s_writtenN (N : Nat) {p1 ks ci : Int32} {cs f g : Nat → Int32} {dd ss : Nat → Int} {k1 : Nat} (hM : DM dd ss f g) (hC : RelC ci) (e1 : p1 = zI k1) (hk1 : k1 < 8) : ∃ ci' cs', fX9_written N p1 (-1) ks f g ci cs = some (zI ((w_m (dd k1) (ss k1)).length : Int), ci', cs') ∧ RelC ci' := by
  subst e1
  obtain ⟨f1, f2, f5, f6⟩ := hM k1 hk1
  obtain ⟨c', s', e, T⟩ := e_writeM N (ks := ks) (cs := cs) hC f5 f6
  unfold fX9_written
  rw [c_slot1 N (by omega), bd1_s, if_neg z10, e_dayAt N f hk1, bd1_s, e_secondAt N g hk1, bd1_s, f1, f2, e, bd2_s, if_pos rfl]
  unfold fX6_length
  rw [bd1_s, T.2.1]
  exact ⟨_, _, rfl, ⟨_, T.1, rfl⟩⟩
theorem s_writtenK (N : Nat) {p1 p2 ks ci : Int32} {cs f g : Nat → Int32} {dd ss : Nat → Int} {k1 k : Nat} (hM : DM dd ss f g) (hC : RelC ci) (e1 : p1 = zI k1) (hk1 : k1 < 8) (e2 : p2 = zI k) (hk : k < (w_m (dd k1) (ss k1)).length) : ∃ ci' cs', fX9_written N p1 p2 ks f g ci cs = some (zI ((w_m (dd k1) (ss k1)).getD k 0), ci', cs') ∧ RelC ci' := by
  subst e1; subst e2
  obtain ⟨f1, f2, f5, f6⟩ := hM k1 hk1
  obtain ⟨c', s', e, T⟩ := e_writeM N (ks := ks) (cs := cs) hC f5 f6
  have hl := w_m_len (dd k1) (ss k1)
  have hk' : k < 19 := by rw [hl] at hk; split at hk <;> omega
  unfold fX9_written
  rw [c_slot1 N (by omega), bd1_s, if_neg z10, e_dayAt N f hk1, bd1_s, e_secondAt N g hk1, bd1_s, f1, f2, e, bd2_s, if_neg (i_neq (b := -1) (by decide) (by omega)), T.at N hk, bd1_s]
  exact ⟨_, _, rfl, T.c⟩
theorem w_m_b {x t : Int} (hx : 0 ≤ x ∧ x ≤ 3652058) (ht : 0 ≤ t ∧ t ≤ 86399) : LB (w_m x t) := by
  obtain ⟨g4, g5, g6, g7⟩ := sp_all hx.1 hx.2
  have g8 := mlen_b (sp_Y x) (sp_M x)
  have hd : ∀ z ∈ w_m x t, 0 ≤ z ∧ z ≤ 127 := by
    intro z hz
    unfold w_m w_d w_t at hz
    split at hz <;> simp only [List.mem_cons, List.mem_append, List.not_mem_nil, or_false] at hz <;> omega
  intro k hk
  rw [List.getD_eq_getElem?_getD, List.getElem?_eq_getElem hk]
  exact hd _ (List.getElem_mem hk)
/-! a moment read -/
theorem TL.tx {l : List Int} {ti : Int32} {ts : Nat → Int32} (h : TL l ti ts) (hb : LB l) : TX l.length (fun k => l.getD k 0) ts (fun k => zI (sp_byte (l.getD k 0))) := ⟨h.1, fun k hk => ⟨h.2.2 k hk, rfl, (hb k hk).1, by have := (hb k hk).2; show l.getD k 0 ≤ 255; omega⟩⟩
/-- one digit of two: the first, then the second -/
theorem rd_first (N : Nat) {n p : Nat} {c : Nat → Int} {ts T : Nat → Int32} (hT : TX n c ts T) {mr : Nat → Int32} (m : Nat) (hp : p < n) (h : p = 5 ∨ p = 8 ∨ p = 11 ∨ p = 14 ∨ p = 17) {t hi : Int} (hc : c p = 48 + t) (ht : 0 ≤ t ∧ t ≤ 9) (hh : 0 ≤ hi ∧ hi ≤ 99) (hm : fX2_mostAt N (zI (p : Int)) (upd mr 4 (zI t)) = some (zI hi)) (hle : 10 * t ≤ hi) : fX2_wrongAt_l12 N (zI (n : Int)) ts (m + 1) (zI (p : Int)) mr = fX2_wrongAt_l12 N (zI (n : Int)) ts m (zI ((p + 1 : Nat) : Int)) (upd mr 4 (zI t)) := by
  have h1 := d_one N (p := p) (by omega) (t := t) (hi := hi) (by omega) hh (mr := mr) hm
  have h2 := d_first N (p := p) (by omega) (zI t) mr
  have h3 : fX2_fitsDigit N (zI (p : Int)) (zI (c p - 48)) mr = some (if 10 * t ≤ hi then (1 : Int32) else (0 : Int32), upd mr 4 (zI t)) := by rw [hc, show 48 + t - 48 = t by omega, h2, h1]
  have h4 := q_dig N (p := p) (by omega) (by omega) (by omega) (by omega) (by omega) (by omega) (x := c p) (by omega) (P := 10 * t ≤ hi) h3
  rw [if_pos hle] at h4
  exact cl_ok N hT m hp (by omega) h4 (k_not N (by omega) (by omega) (by omega) (by omega) (by omega) (by omega) (by omega) _)
theorem rd_second (N : Nat) {n p : Nat} {c : Nat → Int} {ts T : Nat → Int32} (hT : TX n c ts T) {mr mr2 : Nat → Int32} (m : Nat) (hp : p < n) (h : p = 6 ∨ p = 9 ∨ p = 12 ∨ p = 15 ∨ p = 18) {v d hi lo : Int} (hv : mr 4 = zI v) (hc : c p = 48 + d) (hd : 0 ≤ d ∧ d ≤ 9) (hb : 0 ≤ v ∧ v ≤ 9) (hh : 0 ≤ hi ∧ hi ≤ 99) (hlo : (lo = 0 ∧ 10 ≤ p) ∨ (lo = 1 ∧ p < 10)) (hm : fX2_mostAt N (zI (p : Int)) (upd mr 4 (zI (10 * v + d))) = some (zI hi)) (hle : lo ≤ 10 * v + d ∧ 10 * v + d ≤ hi) (hk : fX2_keepNumber N (zI (p : Int)) (upd mr 4 (zI (10 * v + d))) = some mr2) : fX2_wrongAt_l12 N (zI (n : Int)) ts (m + 1) (zI (p : Int)) mr = fX2_wrongAt_l12 N (zI (n : Int)) ts m (zI ((p + 1 : Nat) : Int)) mr2 := by
  have h1 := d_two N (p := p) (by omega) (t := 10 * v + d) (hi := hi) hlo (by omega) hh (mr := mr) hm
  have h2 := d_second N (p := p) (by omega) (by omega) (d := d) hv
  have h3 : fX2_fitsDigit N (zI (p : Int)) (zI (c p - 48)) mr = some (if lo ≤ 10 * v + d ∧ 10 * v + d ≤ hi then (1 : Int32) else (0 : Int32), upd mr 4 (zI (10 * v + d))) := by rw [hc, show 48 + d - 48 = d by omega, h2, h1]
  have h4 := q_dig N (p := p) (by omega) (by omega) (by omega) (by omega) (by omega) (by omega) (x := c p) (by omega) (P := lo ≤ 10 * v + d ∧ 10 * v + d ≤ hi) h3
  rw [if_pos hle] at h4
  exact cl_ok N hT m hp (by omega) h4 hk
theorem rd_sep (N : Nat) {n p : Nat} {c : Nat → Int} {ts T : Nat → Int32} (hT : TX n c ts T) {mr : Nat → Int32} (m : Nat) (hp : p < n) {ch : Int} (h : (p = 4 ∧ ch = 45) ∨ (p = 7 ∧ ch = 45) ∨ (p = 10 ∧ ch = 84) ∨ (p = 13 ∧ ch = 58) ∨ (p = 16 ∧ ch = 58)) (hc : c p = ch) : fX2_wrongAt_l12 N (zI (n : Int)) ts (m + 1) (zI (p : Int)) mr = fX2_wrongAt_l12 N (zI (n : Int)) ts m (zI ((p + 1 : Nat) : Int)) mr := by
  have h1 := f_sep N (p := p) h (x := c p) (by omega) mr
  rw [if_pos hc] at h1
  exact cl_ok N hT m hp (by omega) h1 (k_not N (by omega) (by omega) (by omega) (by omega) (by omega) (by omega) (by omega) _)
theorem rd_y0 (N : Nat) {n : Nat} {c : Nat → Int} {ts T : Nat → Int32} (hT : TX n c ts T) {mr : Nat → Int32} (m : Nat) (hp : 0 < n) {d : Int} (hc : c 0 = 48 + d) (hd : 0 ≤ d ∧ d ≤ 9) : fX2_wrongAt_l12 N (zI (n : Int)) ts (m + 1) (zI ((0 : Nat) : Int)) mr = fX2_wrongAt_l12 N (zI (n : Int)) ts m (zI ((0 + 1 : Nat) : Int)) (upd mr 4 (zI d)) := by
  have h2 := d_first N (p := 0) (by omega) (zI d) mr
  have h3 : fX2_fitsDigit N (zI ((0 : Nat) : Int)) (zI (c 0 - 48)) mr = some (if 0 < 3 ∨ 1 ≤ d then (1 : Int32) else (0 : Int32), upd mr 4 (zI d)) := by
    rw [hc, show 48 + d - 48 = d by omega, h2, d_year N (by omega) _ (by omega)]
  have h4 := q_dig N (p := 0) (by omega) (by omega) (by omega) (by omega) (by omega) (by omega) (x := c 0) (by omega) h3
  rw [if_pos (Or.inl (by omega))] at h4
  exact cl_ok N hT m hp (by omega) h4 (k_not N (by omega) (by omega) (by omega) (by omega) (by omega) (by omega) (by omega) _)
theorem rd_yk (N : Nat) {n p : Nat} {c : Nat → Int} {ts T : Nat → Int32} (hT : TX n c ts T) {mr : Nat → Int32} (m : Nat) (hp : p < n) (h : p = 1 ∨ p = 2) {v d : Int} (hv : mr 4 = zI v) (hc : c p = 48 + d) (hd : 0 ≤ d ∧ d ≤ 9) (hb : 0 ≤ v ∧ v ≤ 99) : fX2_wrongAt_l12 N (zI (n : Int)) ts (m + 1) (zI (p : Int)) mr = fX2_wrongAt_l12 N (zI (n : Int)) ts m (zI ((p + 1 : Nat) : Int)) (upd mr 4 (zI (10 * v + d))) := by
  have h2 := d_second N (p := p) (by omega) (by omega) (d := d) hv
  have h3 : fX2_fitsDigit N (zI (p : Int)) (zI (c p - 48)) mr = some (if p < 3 ∨ 1 ≤ 10 * v + d then (1 : Int32) else (0 : Int32), upd mr 4 (zI (10 * v + d))) := by
    rw [hc, show 48 + d - 48 = d by omega, h2, d_year N (by omega) _ (by omega)]
  have h4 := q_dig N (p := p) (by omega) (by omega) (by omega) (by omega) (by omega) (by omega) (x := c p) (by omega) h3
  rw [if_pos (Or.inl (by omega))] at h4
  exact cl_ok N hT m hp (by omega) h4 (k_not N (by omega) (by omega) (by omega) (by omega) (by omega) (by omega) (by omega) _)
theorem rd_y3 (N : Nat) {n : Nat} {c : Nat → Int} {ts T : Nat → Int32} (hT : TX n c ts T) {mr : Nat → Int32} (m : Nat) (hp : 3 < n) {v d : Int} (hv : mr 4 = zI v) (hc : c 3 = 48 + d) (hd : 0 ≤ d ∧ d ≤ 9) (hb : 0 ≤ v ∧ v ≤ 999) (h1 : 1 ≤ 10 * v + d) : fX2_wrongAt_l12 N (zI (n : Int)) ts (m + 1) (zI ((3 : Nat) : Int)) mr = fX2_wrongAt_l12 N (zI (n : Int)) ts m (zI ((3 + 1 : Nat) : Int)) (upd (upd mr 4 (zI (10 * v + d))) 2 (zI (10 * v + d))) := by
  have h2 := d_second N (p := 3) (by omega) (by omega) (d := d) hv
  have h3 : fX2_fitsDigit N (zI ((3 : Nat) : Int)) (zI (c 3 - 48)) mr = some (if 3 < 3 ∨ 1 ≤ 10 * v + d then (1 : Int32) else (0 : Int32), upd mr 4 (zI (10 * v + d))) := by
    rw [hc, show 48 + d - 48 = d by omega, h2, d_year N (by omega) _ (by omega)]
  have h4 := q_dig N (p := 3) (by omega) (by omega) (by omega) (by omega) (by omega) (by omega) (x := c 3) (by omega) h3
  rw [if_pos (Or.inr h1)] at h4
  refine cl_ok N hT m hp (by omega) h4 ?_
  have := (k_at N (upd mr 4 (zI (10 * v + d)))).1
  rw [upd_s] at this
  exact this
