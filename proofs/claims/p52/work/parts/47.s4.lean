/-! ages, least phrases -/
theorem first_12m (g : Int) : sp_first (g + 12) ≤ sp_first g + 366 := by
  unfold sp_first
  rw [show (g + 12) / 12 = g / 12 + 1 by omega, show (g + 12) % 12 + 1 = g % 12 + 1 by omega, sp_dn_am, sp_dn_am]
  have h1 := am_end (g / 12)
  unfold sp_am at h1 ⊢
  have h2 : ¬ (sp_leap (g / 12) ∧ sp_leap (g / 12 + 1)) := by unfold sp_leap; omega
  have e12 : sp_ahead 12 = 334 := by decide
  rw [e12] at h1
  by_cases l1 : sp_leap (g / 12)
  · have l2 : ¬ sp_leap (g / 12 + 1) := fun h => h2 ⟨l1, h⟩
    by_cases hm : 2 < g % 12 + 1
    · rw [if_pos ⟨by omega, l1⟩] at h1
      rw [if_neg (show ¬ (2 < g % 12 + 1 ∧ sp_leap (g / 12 + 1)) from fun h => l2 h.2), if_pos (show 2 < g % 12 + 1 ∧ sp_leap (g / 12) from ⟨hm, l1⟩)]; omega
    · rw [if_pos ⟨by omega, l1⟩] at h1
      rw [if_neg (fun h => hm h.1), if_neg (fun h => hm h.1)]; omega
  · rw [if_neg (fun h => l1 h.2)] at h1
    by_cases hm : 2 < g % 12 + 1 ∧ sp_leap (g / 12 + 1)
    · rw [if_pos hm, if_neg (fun h => l1 h.2)]; omega
    · rw [if_neg hm, if_neg (fun h => l1 h.2)]; omega
theorem gl_12 (g : Int) : sp_gl (g + 12) ≤ sp_gl g + 1 := by
  unfold sp_gl
  rw [show (g + 12) / 12 = g / 12 + 1 by omega, show (g + 12) % 12 + 1 = g % 12 + 1 by omega]
  unfold sp_mlen
  repeat' split
  all_goals omega
/-- months added by CLAMP: where they lead -/
def sp_cl (x m : Int) : Int := sp_first (sp_mi x + m) + (if sp_gl (sp_mi x + m) < sp_D x then sp_gl (sp_mi x + m) else sp_D x) - 1
theorem addM_cl {x m : Int} (hx : 0 ≤ x ∧ x ≤ 3652058) (h : 12 ≤ sp_mi x + m ∧ sp_mi x + m ≤ 119999) : ∃ sh, sp_addM m 0 x = some (sp_cl x m, sh) := by
  obtain ⟨a1, a2, a3, a4, a5⟩ := mi_all hx.1 hx.2
  have b := gl_b (sp_mi x + m)
  have f1 := first_b (g := sp_mi x + m) (by omega) (by omega)
  have f2 := first_b (g := sp_mi x + m + 1) (by omega) (by omega)
  have f3 := first_step (sp_mi x + m)
  unfold sp_addM sp_cl
  by_cases h0 : m = 0
  · subst h0
    rw [if_pos rfl, Int.add_zero, if_neg (by omega)]
    exact ⟨0, by congr 2; omega⟩
  · rw [if_neg h0, if_neg (by omega), if_neg (by omega)]
    have e : sp_dd 0 x (sp_mi x + m) = (if sp_gl (sp_mi x + m) < sp_D x then sp_gl (sp_mi x + m) else sp_D x) := by
      unfold sp_dd
      by_cases h1 : sp_gl (sp_mi x + m) < sp_D x
      · rw [if_pos (Or.inr ⟨h1, by omega⟩), if_pos h1]
      · rw [if_neg (by omega), if_neg h1]
    rw [e, if_pos (by split <;> omega)]
    exact ⟨_, rfl⟩
theorem fm_no {st : Nat} {way law x t G : Int} {q : Nat} (hq : q % st = 0) : ∀ k, sp_fm st way law x t G k < q → q ≤ k → sp_okB way law x t G (q : Int) = false := by
  intro k h1 h2
  cases e : sp_okB way law x t G (q : Int) with
  | false => rfl
  | true => have := fm_ge hq e (by omega) k h2; omega
theorem age_key {x z : Int} (hx : 0 ≤ x ∧ x ≤ 3652058) (hz : 0 ≤ z ∧ z ≤ 3652058) (h : x ≤ z) : ∃ y sh, sp_addM (sp_mm 12 0 x 0 (z * 86400)) 0 x = some (y, sh) ∧ 0 ≤ sp_mm 12 0 x 0 (z * 86400) ∧ sp_mm 12 0 x 0 (z * 86400) % 12 = 0 ∧ (0 ≤ y ∧ y ≤ z) ∧ z - y ≤ 366 := by
  have G86 : z * 86400 / 86400 = z := by omega
  obtain ⟨y, sh, e1, by', hw, hwM, h12, -⟩ := mm_ok (st := 12) (law := 0) (x := x) (t := 0) (G := z * 86400) hx (by omega)
  have em : sp_m0 12 0 x 0 (z * 86400) = sp_mm 12 0 x 0 (z * 86400) := if_neg (by omega)
  rw [em] at e1 hwM h12
  have ew : sp_way x 0 (z * 86400) = 1 := by unfold sp_way; rw [if_neg (by omega)]
  rw [ew] at hw hwM
  have yz : y ≤ z := by omega
  obtain ⟨a1, a2, a3, a4, a5⟩ := mi_all hx.1 hx.2
  obtain ⟨c1, c2, c3, c4, c5⟩ := mi_all hz.1 hz.2
  have ha := ap_way (x := x) (t := 0) (G := z * 86400) hx (by omega) (by omega)
  rw [ew, G86] at ha
  obtain ⟨A, hA⟩ : ∃ A, A = sp_ap x (z * 86400) := ⟨_, rfl⟩
  rw [← hA] at ha
  obtain ⟨M, hM⟩ : ∃ M, M = sp_fm 12 1 0 x 0 (z * 86400) (A + 1) := ⟨_, rfl⟩
  have eM : sp_mm 12 0 x 0 (z * 86400) = (M : Int) := by unfold sp_mm; rw [ew, ← hA, ← hM]; omega
  rw [eM] at e1 hwM h12 ⊢
  have hM12 := h12 rfl
  refine ⟨y, sh, e1, by omega, hM12, ⟨by'.1, yz⟩, ?_⟩
  have yi := addM_in hx e1
  have zs := first_step (sp_mi z)
  have Mle : M ≤ A + 1 := by rw [hM]; exact fm_le ..
  by_cases hq : A + 1 < M + 12
  · have s1 := first_le (a := sp_mi z + 1) (b := sp_mi x + M + 12) (by omega)
    have s2 := first_12m (sp_mi x + M)
    omega
  · have no := fm_no (st := 12) (way := 1) (law := 0) (x := x) (t := 0) (G := z * 86400) (q := M + 12) (by omega) (A + 1) (by omega) (by omega)
    by_cases hr : sp_mi x + (M + 12) ≤ 119999
    · obtain ⟨sh2, e2⟩ := addM_cl (m := (M : Int) + 12) hx (by omega)
      unfold sp_okB at no
      rw [show (1 : Int) * ((M + 12 : Nat) : Int) = (M : Int) + 12 by omega, e2] at no
      have no' := of_decide_eq_false no
      obtain ⟨sh3, e3⟩ := addM_cl (m := (M : Int)) hx (by omega)
      rw [e1] at e3
      have e3 := (Prod.mk.inj (Option.some.inj e3)).1
      have s2 := first_12m (sp_mi x + M)
      have s3 := gl_12 (sp_mi x + M)
      have no2 : ¬ (0 ≤ 1 * (z * 86400 - (sp_cl x ((M : Int) + 12) * 86400 + 0))) := no'
      rw [show (1 : Int) * (z * 86400 - (sp_cl x ((M : Int) + 12) * 86400 + 0)) = (z - sp_cl x ((M : Int) + 12)) * 86400 by omega] at no2
      have no3 : z < sp_cl x ((M : Int) + 12) := by omega
      unfold sp_cl at e3 no3
      rw [show sp_mi x + ((M : Int) + 12) = sp_mi x + M + 12 by omega] at no3
      split at e3 <;> split at no3 <;> omega
    · have s2 := first_12m (sp_mi x + M)
      have s1 := first_le (a := sp_mi z + 1) (b := sp_mi x + M + 12) (by omega)
      omega
theorem s_age (N : Nat) (hN : 200000 ≤ N) {p1 p2 ks tl : Int32} {nn : Nat → Int64} {k1 k2 : Nat} {f g ad : Nat → Int32} {dd ss : Nat → Int} (hM : DM dd ss f g) (had : AdW ad) (e1 : p1 = zI k1) (e2 : p2 = zI k2) (hk1 : k1 < 8) (hk2 : k2 < 8) :
    ∃ (v R : Int) (nn' : Nat → Int64) (ad' : Nat → Int32), fX9_age N p1 p2 ks f tl nn ad = some (zI v, zI 2, nn', ad') ∧ AdW ad' ∧ (0 ≤ v ∧ v ≤ 10000) ∧ nn' 0 = zL R ∧ (-4000000 ≤ R ∧ R ≤ 4000000) ∧ (dd k1 ≤ dd k2 → 0 ≤ R ∧ R ≤ 366) := by
  subst e1; subst e2
  obtain ⟨f1, f2, f5, f6⟩ := hM k1 hk1
  obtain ⟨p1, p2, p5, p6⟩ := hM k2 hk2
  obtain ⟨X, hX⟩ : ∃ X, X = dd k1 := ⟨_, rfl⟩
  obtain ⟨Z, hZ⟩ : ∃ Z, Z = dd k2 := ⟨_, rfl⟩
  rw [← hX] at f1 f5 ⊢
  rw [← hZ] at p1 p5 ⊢
  unfold fX9_age
  rw [c_slot1 N (by omega), bd1_s, if_neg z10, c_slot1 N (by omega), bd1_s, if_neg z10, e_dayAt N f hk1, bd1_s, e_dayAt N f hk2, bd1_s, f1, p1]
  have eT : ∀ m (a : Nat → Int32), fX0_takesNumbers N (zI m) (0 : Int32) (0 : Int32) (0 : Int32) a = some (adT a m 0 0 0) := fun m a => by rw [zl_0]; exact e_takesN N a m 0 0 0
  have key : ∃ (v y sh : Int) (ad1 : Nat → Int32), AdW ad1 ∧ (0 ≤ v ∧ v ≤ 9999) ∧ sp_addM (12 * v) 0 X = some (y, sh) ∧ (0 ≤ y ∧ y ≤ 3652058) ∧ (X ≤ Z → y ≤ Z ∧ Z - y ≤ 366) ∧ (if zI X ≤ zI Z then (bd1 (fX9_instantOf N (zI Z) (0 : Int32)) fun r30 => (bd2 (fX9_mostMonths N (zI X) (0 : Int32) r30 (0 : Int32) (1 : Int32) ks ad) fun r32 ad33 => (fX9_age_j62 N ks f (zI X) (zI Z) (r32 / (12 : Int32)) tl nn ad33))) else (fX9_age_j62 N ks f (zI X) (zI Z) (0 : Int32) tl nn ad)) = fX9_age_j62 N ks f (zI X) (zI Z) (zI v) tl nn ad1 := by
    by_cases h : Z < X
    · rw [if_neg (i_nle rfl (by omega))]
      exact ⟨0, X, 0, ad, had, by omega, addM_0 0 X, f5, by omega, by rw [zl_0]⟩
    · obtain ⟨ad1, eM, AM⟩ := e_most N hN (ks := ks) (law := 0) (x := X) (t := 0) (G := Z * 86400) (wy := 1) (st := 12) had f5 (by omega) (by omega) (by omega) (Or.inr ⟨rfl, rfl⟩)
      rw [← zl_0, ← zl_1] at eM
      have iZ : fX9_instantOf N (zI Z) (0 : Int32) = some (zL (Z * 86400)) := by
        have := e_instantOf N (x := Z) (t := 0) (by omega) (by omega)
        rw [Int.add_zero, ← zl_0] at this
        exact this
      obtain ⟨y, sh, k1, k2, k3, k4, k5⟩ := age_key f5 p5 (by omega)
      have bm := mm_b (st := 12) (law := 0) (x := X) (t := 0) (G := Z * 86400) f5 (by omega)
      obtain ⟨M, hM⟩ : ∃ M, M = sp_mm 12 0 X 0 (Z * 86400) := ⟨_, rfl⟩
      rw [← hM] at k1 k2 k3 bm eM
      refine ⟨M / 12, y, sh, ad1, AM, by omega, ?_, by omega, fun _ => ⟨by omega, k5⟩, ?_⟩
      · rw [show 12 * (M / 12) = M by omega]; exact k1
      · rw [if_pos (i_le rfl (by omega)), iZ, bd1_s, eM, bd2_s, zl_12, zI_div (by omega) (by omega) (by omega) (by omega)]
  obtain ⟨v, y, sh, ad1, A1, bv, v3, by', hR, kc⟩ := key
  rw [kc]
  have c2 : (12 : Int32) * zI v = zI (12 * v) := by rw [zl_12, zI_mul]
  have c3 : zI (12 * v) + (12 : Int32) = zI (12 * (v + 1)) := by rw [zl_12, zI_add]; congr 1; omega
  obtain ⟨a2, r2, w2, A2, g2⟩ := e_leadsM N (m := 12 * v) (law := 0) (t := 0) A1 (by omega) (by omega) f5 (by omega)
  rw [← zl_0] at w2
  obtain ⟨a3, r3, w3, A3, g3⟩ := e_leadsM N (m := 12 * (v + 1)) (law := 0) (t := 0) A2 (by omega) (by omega) f5 (by omega)
  rw [← zl_0] at w3
  unfold fX9_age_j62
  rw [c2, c3, eT, bd1_s, w2, bd2_s, eT]
  rcases g2 with ⟨y2, sh2, e2, rfl, a8, a9, b2⟩ | ⟨e2, -⟩
  case inr => rw [v3] at e2; exact absurd e2 (by simp)
  rw [v3] at e2
  injection e2 with e2
  injection e2 with e3 e4
  subst e3
  rw [a8, nm_s, bd1_s, w3, bd2_s, zI_sub]
  rcases g3 with ⟨y3, sh3, e3, rfl, a8', a9', b3⟩ | ⟨e3, rfl⟩
  · rw [if_neg z10, a8', zI_sub, e_tell2, bd2_s]
    exact ⟨v, Z - y, _, _, rfl, A3, by omega, by rw [updL_n (by omega), updL_s, zI_toL (by omega) (by omega)], by omega, fun h => by have := hR h; omega⟩
  · rw [if_pos z00, e_tell2, bd2_s]
    exact ⟨v, Z - y, _, _, rfl, A3, by omega, by rw [updL_n (by omega), updL_s, zI_toL (by omega) (by omega)], by omega, fun h => by have := hR h; omega⟩
theorem ps_1 {n d : Int} (h1 : 1 ≤ n) : 1 ≤ sp_ps n d := by unfold sp_ps; omega
theorem l_leastC (N : Nat) {ks : Int32} {f : Nat → Int32} {tl : Int32} {nn : Nat → Int64} {law x z way most : Int} (hl : 0 ≤ law ∧ law ≤ 3) (hx : 0 ≤ x ∧ x ≤ 3652058) (hz : 0 ≤ z ∧ z ≤ 3652058) (hway : way = 1 ∨ way = -1) (hm : 0 ≤ most ∧ most ≤ 120000) : ∀ (n : Nat) (k sz mo da : Int) (ad : Nat → Int32), AdW ad → 1 ≤ k → k ≤ most + 1 → (0 ≤ sz ∧ sz ≤ 1000000) → most + 1 - k < n →
    ∃ (v : Int) (tl' : Int32) (nn' : Nat → Int64) (ad' : Nat → Int32), fX9_least_l104 N ks f n (zI law) (zI x) (zI z) (zI way) (zI most) (zI sz) (zI mo) (zI da) (zI k) tl nn ad = some (zI v, tl', nn', ad') ∧ AdW ad' ∧ (0 ≤ v ∧ v ≤ sz) ∧ (v = sz ∨ 1 ≤ v) ∧ ∀ q y sh, k ≤ q → q ≤ most → sp_addM (way * q) law x = some (y, sh) → v ≤ sp_ps q (z - y) := by
  intro n
  induction n with
  | zero => intro k sz mo da ad had h1 h2 hs hn; omega
  | succ n ih =>
    intro k sz mo da ad had h1 h2 hs hn
    rw [fX9_least_l104_s]
    by_cases hd : most < k
    · rw [if_pos (i_lt rfl (by omega)), e_tell2, bd2_s]
      exact ⟨sz, _, _, _, rfl, had, by omega, Or.inl rfl, fun q y sh h1 h2 => by omega⟩
    · have c1 : zI k + (1 : Int32) = zI (k + 1) := by rw [zl_1, zI_add]
      have hb : sp_b1 (way * k) := by rcases hway with rfl | rfl <;> omega
      obtain ⟨a1, r1, w1, A1, g1⟩ := e_leadsM N (m := way * k) (law := law) (t := 0) had hb hl hx (by omega)
      rw [← zl_0] at w1
      rw [if_neg (i_nlt (a := most) (b := k) rfl (by omega)), zI_mul, e_takesN0, bd1_s, w1, bd2_s]
      rcases g1 with ⟨y, sh, e1, rfl, a8, a9, b1⟩ | ⟨e1, rfl⟩
      · have bp := ps_b (n := k) (d := z - y) (by omega) (by omega)
        have p1 := ps_1 (n := k) (d := z - y) h1
        rw [if_neg z10, a8, zI_sub, e_ps N (by omega) (by omega), bd1_s]
        by_cases hc : sz ≤ sp_ps k (z - y)
        · rw [if_pos (i_le rfl (by omega)), nm_s, c1]
          obtain ⟨v, tl', nn', ad', v1, v2, v3, v4, v5⟩ := ih (k + 1) sz mo da a1 A1 (by omega) (by omega) hs (by omega)
          refine ⟨v, tl', nn', ad', v1, v2, v3, v4, fun q y' sh' h3 h4 h5 => ?_⟩
          by_cases e : q = k
          · subst e; rw [e1] at h5; injection h5 with h5; injection h5 with h6 h7; subst h6; omega
          · exact v5 q y' sh' (by omega) h4 h5
        · rw [if_neg (i_nle rfl (by omega))]
          simp only [nm_s, bd1_s, c1]
          obtain ⟨v, tl', nn', ad', v1, v2, v3, v4, v5⟩ := ih (k + 1) (sp_ps k (z - y)) (way * k) (z - y) a1 A1 (by omega) (by omega) bp (by omega)
          refine ⟨v, tl', nn', ad', v1, v2, by omega, by omega, fun q y' sh' h3 h4 h5 => ?_⟩
          by_cases e : q = k
          · subst e; rw [e1] at h5; injection h5 with h5; injection h5 with h6 h7; subst h6; omega
          · exact v5 q y' sh' (by omega) h4 h5
      · rw [if_pos z00, nm_s, c1]
        obtain ⟨v, tl', nn', ad', v1, v2, v3, v4, v5⟩ := ih (k + 1) sz mo da a1 A1 (by omega) (by omega) hs (by omega)
        refine ⟨v, tl', nn', ad', v1, v2, v3, v4, fun q y' sh' h3 h4 h5 => ?_⟩
        by_cases e : q = k
        · subst e; rw [e1] at h5; exact absurd h5 (by simp)
        · exact v5 q y' sh' (by omega) h4 h5
/-- CLAMP: one month less than they are apart leads near -/
theorem least_near {x z : Int} (hx : 0 ≤ x ∧ x ≤ 3652058) (hz : 0 ≤ z ∧ z ≤ 3652058) (h2 : 2 ≤ sp_ap x (z * 86400)) : ∃ (q : Nat) (y sh : Int), 1 ≤ q ∧ q ≤ 119987 ∧ (q : Int) ≤ ((sp_mm 1 0 x 0 (z * 86400)).natAbs : Int) ∧ sp_addM (sp_way x 0 (z * 86400) * (q : Int)) 0 x = some (y, sh) ∧ -62 ≤ z - y ∧ z - y ≤ 62 := by
  have G86 : z * 86400 / 86400 = z := by omega
  obtain ⟨a1, a2, a3, a4, a5⟩ := mi_all hx.1 hx.2
  obtain ⟨c1, c2, c3, c4, c5⟩ := mi_all hz.1 hz.2
  have ha := ap_way (x := x) (t := 0) (G := z * 86400) hx (by omega) (by omega)
  have hb := ap_b (x := x) (G := z * 86400) hx (by omega)
  have hw : (sp_way x 0 (z * 86400) = 1 ∧ x ≤ z) ∨ (sp_way x 0 (z * 86400) = -1 ∧ z < x) := by unfold sp_way; split <;> omega
  rw [G86] at ha
  obtain ⟨A, hA⟩ : ∃ A, A = sp_ap x (z * 86400) := ⟨_, rfl⟩
  rw [← hA] at ha hb h2
  have bx := gl_b (sp_mi x)
  have bz := gl_b (sp_mi z)
  have fz := first_step (sp_mi z)
  have f0 := first_step (sp_mi z - 1)
  rw [show sp_mi z - 1 + 1 = sp_mi z by omega] at f0
  have f2 := first_step (sp_mi z + 1)
  have g0 := gl_b (sp_mi z - 1)
  have g2 := gl_b (sp_mi z + 1)
  obtain ⟨W, hW⟩ : ∃ W, W = sp_way x 0 (z * 86400) := ⟨_, rfl⟩
  rw [← hW] at ha hw ⊢
  have em : sp_mi x + W * ((A - 1 : Nat) : Int) = sp_mi z - W := by rcases hw with ⟨e, -⟩ | ⟨e, -⟩ <;> rw [e] at ha ⊢ <;> omega
  obtain ⟨sh, e1⟩ := addM_cl (x := x) (m := W * ((A - 1 : Nat) : Int)) hx (by rw [em]; rcases hw with ⟨e, -⟩ | ⟨e, -⟩ <;> rw [e] at ha ⊢ <;> omega)
  have near : -62 ≤ z - sp_cl x (W * ((A - 1 : Nat) : Int)) ∧ z - sp_cl x (W * ((A - 1 : Nat) : Int)) ≤ 62 ∧ 0 ≤ W * (z * 86400 - (sp_cl x (W * ((A - 1 : Nat) : Int)) * 86400 + 0)) := by
    unfold sp_cl
    rw [em]
    rcases hw with ⟨e, -⟩ | ⟨e, -⟩
    · rw [e]
      split <;> omega
    · rw [e, show sp_mi z - -1 = sp_mi z + 1 by omega]
      split <;> omega
  have ok : sp_okB W 0 x 0 (z * 86400) ((A - 1 : Nat) : Int) = true := by
    unfold sp_okB
    rw [e1]
    exact decide_eq_true near.2.2
  have ge := fm_ge (st := 1) (way := W) (law := 0) (x := x) (t := 0) (G := z * 86400) (q := A - 1) (by omega) ok (by omega) (A + 1) (by omega)
  refine ⟨A - 1, _, sh, by omega, by omega, ?_, e1, near.1, near.2.1⟩
  have emm : sp_mm 1 0 x 0 (z * 86400) = W * (sp_fm 1 W 0 x 0 (z * 86400) (A + 1) : Int) := by unfold sp_mm; rw [← hW, ← hA]
  rw [emm]
  rcases hw with ⟨e, -⟩ | ⟨e, -⟩ <;> rw [e] at ge ⊢ <;> omega
theorem s_least (N : Nat) (hN : 200000 ≤ N) {p1 p2 ks tl : Int32} {nn : Nat → Int64} {k1 k2 : Nat} {f g ad : Nat → Int32} {dd ss : Nat → Int} (hM : DM dd ss f g) (had : AdW ad) (e1 : p1 = zI k1) (e2 : p2 = zI k2) (hk1 : k1 < 8) (hk2 : k2 < 8) :
    ∃ (v : Int) (tl' : Int32) (nn' : Nat → Int64) (ad' : Nat → Int32), fX9_least N p1 p2 0 ks f tl nn ad = some (zI v, tl', nn', ad') ∧ AdW ad' ∧ (0 ≤ v ∧ v ≤ 36600) ∧ (v = 0 ↔ dd k1 = dd k2) := by
  subst e1; subst e2
  obtain ⟨f1, f2, f5, f6⟩ := hM k1 hk1
  obtain ⟨p1, p2, p5, p6⟩ := hM k2 hk2
  obtain ⟨X, hX⟩ : ∃ X, X = dd k1 := ⟨_, rfl⟩
  obtain ⟨Z, hZ⟩ : ∃ Z, Z = dd k2 := ⟨_, rfl⟩
  rw [← hX] at f1 f5 ⊢
  rw [← hZ] at p1 p5 ⊢
  have bG : 0 ≤ Z * 86400 ∧ Z * 86400 ≤ 315537897599 := by omega
  have h0 : (0 : Int) ≤ 0 ∧ (0 : Int) ≤ 86399 := by omega
  obtain ⟨ad1, eM, AM⟩ := e_most N hN (ks := ks) (law := 0) (t := 0) (wy := 0) (st := 1) had f5 h0 bG (by omega) (Or.inl ⟨rfl, rfl⟩)
  rw [← zl_0] at eM
  have bm := mm_b (st := 1) (law := 0) (x := X) (t := 0) f5 bG
  have iZ : fX9_instantOf N (zI Z) (0 : Int32) = some (zL (Z * 86400)) := by
    have := e_instantOf N (x := Z) (t := 0) (by omega) (by omega)
    rw [Int.add_zero, ← zl_0] at this
    exact this
  have lN := least_near f5 p5
  have aN : sp_ap X (Z * 86400) < 2 → -62 ≤ Z - X ∧ Z - X ≤ 62 := by
    intro h
    obtain ⟨a1, a2, a3, a4, a5⟩ := mi_all f5.1 f5.2
    obtain ⟨c1, c2, c3, c4, c5⟩ := mi_all p5.1 p5.2
    have G86 : Z * 86400 / 86400 = Z := by omega
    unfold sp_ap at h
    rw [G86] at h
    have bx := gl_b (sp_mi X)
    have bz := gl_b (sp_mi Z)
    have fz := first_step (sp_mi Z)
    have fx := first_step (sp_mi X)
    rcases (show sp_mi Z = sp_mi X ∨ sp_mi Z = sp_mi X + 1 ∨ sp_mi Z + 1 = sp_mi X by omega) with e | e | e
    · rw [e] at c2 c3 c5 fz bz; omega
    · rw [e] at c2 c5 fz bz; omega
    · rw [← e] at a2 a5 fx bx; omega
  obtain ⟨M, hM0⟩ : ∃ M, M = sp_mm 1 0 X 0 (Z * 86400) := ⟨_, rfl⟩
  rw [← hM0] at eM bm lN
  unfold fX9_least
  rw [c_slot1 N (by omega), bd1_s, if_neg z10, c_slot1 N (by omega), bd1_s, if_neg z10, show (0 : Int32) = zI 0 from zl_0, c_law1 N (by omega), bd1_s, if_neg (show ¬ (zI 1 = zI 0) by decide), e_dayAt N f hk1, bd1_s, e_dayAt N f hk2, bd1_s, f1, p1]
  have key : ∀ way : Int, way = sp_way X 0 (Z * 86400) → ∃ (v : Int) (tl' : Int32) (nn' : Nat → Int64) (ad' : Nat → Int32), fX9_least_j55 N ks f (zI 0) (zI X) (zI Z) (zI way) tl nn ad = some (zI v, tl', nn', ad') ∧ AdW ad' ∧ (0 ≤ v ∧ v ≤ 36600) ∧ (v = 0 ↔ X = Z) := by
    intro way ew
    have hway : way = 1 ∨ way = -1 := by rw [ew]; exact way_01 ..
    unfold fX9_least_j55
    have eA : (if (0 : Int32) ≤ zI M then zI M else 0 - zI M) = zI (M.natAbs : Int) := by
      by_cases h : 0 ≤ M
      · rw [if_pos (i_ge' (b := 0) (by decide) (by omega))]; congr 1; omega
      · rw [if_neg (i_nge' (b := 0) (by decide) (by omega)), zl_0, zI_sub]; congr 1; omega
    obtain ⟨A, hA⟩ : ∃ A : Int, A = (M.natAbs : Int) := ⟨_, rfl⟩
    have bA : 0 ≤ A ∧ A ≤ 119988 := by omega
    rw [← hA] at eA
    have c12 : zI A + (12 : Int32) = zI (A + 12) := by rw [zl_12, zI_add]
    rw [iZ, bd1_s, ← zl_0, eM, bd2_s, eA, nm_s, c12, nm_s, zI_sub, zl_0, e_ps N (by omega) (by omega), bd1_s]
    have b0 := ps_b (n := 0) (d := Z - X) (by omega) (by omega)
    obtain ⟨v, tl', nn', ad', v1, v2, v3, v4, v5⟩ := l_leastC N (ks := ks) (f := f) (tl := tl) (nn := nn) (law := 0) (by omega) f5 p5 hway (most := A + 12) (by omega) N 1 (sp_ps 0 (Z - X)) 0 (Z - X) ad1 AM (by omega) (by omega) b0 (by omega)
    simp only [nm_s, zl_1]
    refine ⟨v, tl', nn', ad', v1, v2, ⟨v3.1, ?_⟩, ?_⟩
    · by_cases h2 : 2 ≤ sp_ap X (Z * 86400)
      · obtain ⟨q, y, sh, q1, q2, q3, q4, q5, q6⟩ := lN h2
        rw [← ew] at q4
        have := v5 (q : Int) y sh (by omega) (by omega) q4
        unfold sp_ps at this
        omega
      · have := aN (by omega)
        unfold sp_ps at v3
        omega
    · constructor
      · intro h
        rcases v4 with h4 | h4
        · rw [h] at h4; unfold sp_ps at h4; omega
        · omega
      · intro h
        rw [h] at v3
        unfold sp_ps at v3
        omega
  by_cases h : X ≤ Z
  · rw [if_pos (i_le rfl (by omega)), zl_1]
    exact key 1 (by unfold sp_way; rw [if_neg (by omega)])
  · rw [if_neg (i_nle rfl (by omega)), zl_m1]
    exact key (-1) (by unfold sp_way; rw [if_pos (by omega)])
