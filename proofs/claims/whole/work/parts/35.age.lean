/-! age -/
theorem okB_1 {x z n : Int} {p : Int × Int} (e : sp_addM (1 * n) 0 x = some p) : sp_okB 1 0 x 0 (z * 86400) n = decide (p.1 ≤ z) := by
  unfold sp_okB
  rw [e]
  show decide _ = decide _
  rw [decide_eq_decide]
  omega
theorem l_age (N : Nat) (hN : 200000 ≤ N) {F : Nat → Int32} {j R : Nat → Int64} {x z : Int} (hx : 0 ≤ x ∧ x ≤ 3652058) (hz : 0 ≤ z ∧ z ≤ 3652058) : ∀ (n y : Nat) (i : Nat → Int32), y ≤ 10000 → y + 2 ≤ n →
    ∃ (m yy : Nat) (i1 : Nat → Int32) (y1 sh : Int), fX10_age_l71 N j F n (zI x) (zI z) (zI y) (0 : Int32) i R = fX10_age_l71 N j F (m + 1) (zI x) (zI z) (zI yy) (1 : Int32) i1 R ∧ 12 * yy = sp_fm 12 1 0 x 0 (z * 86400) (12 * y) ∧ sp_addM (12 * (yy : Int)) 0 x = some (y1, sh) ∧ i1 13 = zI y1 ∧ (∀ k, k < 10 ∨ 15 < k → i1 k = i k) := by
  intro n
  induction n with
  | zero => intro y i h1 h2; omega
  | succ n ih =>
    intro y i h1 h2
    obtain ⟨n, rfl⟩ : ∃ q, n = q + 1 := ⟨n - 1, by omega⟩
    have z1n : ¬ ((1 : Int32) = (0 : Int32)) := by decide
    rw [fX10_age_l71_s N j F (n + 1), if_pos rfl, e_stands, bd1_s, zll_12, zI_toL (by omega) (by omega), zL_mul]
    obtain ⟨i1, r, w, n1, i14, g⟩ := e_addsMonths N (by omega) (i := upd (upd i 13 (zI x)) 14 (0 : Int32)) (j := j) (m := 12 * (y : Int)) (t := 0) (law := 0) (by omega) (by omega) (by rw [upd_n (by omega), upd_s]) hx (by rw [upd_s, zl_0])
    have n1 : ∀ k, k < 10 ∨ 15 < k → i1 k = i k := fun k hk => by rw [n1 k hk, upd_n (by omega), upd_n (by omega)]
    rw [← zl_0] at w
    rw [w, bd2_s]
    by_cases h0 : y = 0
    · subst h0
      rcases g with ⟨y1, sh, e1, rfl, i13, i15⟩ | ⟨e1, -⟩
      case inr => rw [show 12 * ((0 : Nat) : Int) = 0 from rfl, addM_0] at e1; exact absurd e1 (by simp)
      refine ⟨n, 0, i1, y1, sh, ?_, rfl, e1, i13, n1⟩
      rw [if_neg z10]
      unfold fX10_age_j106
      rw [if_neg z1n, if_pos (i_eq (b := 0) (by decide) (by omega))]
      split <;> rfl
    · have hs : sp_fm 12 1 0 x 0 (z * 86400) (12 * y) = if sp_okB 1 0 x 0 (z * 86400) ((12 * y : Nat) : Int) = true then 12 * y else sp_fm 12 1 0 x 0 (z * 86400) (12 * (y - 1)) := by
        have e := fm_skip (st := 12) (way := 1) (law := 0) (x := x) (t := 0) (G := z * 86400) (Or.inr rfl) (a := 12 * (y - 1)) (by omega) 11 (by omega)
        rw [← e, show 12 * y = (12 * (y - 1) + 11) + 1 by omega, fm_s]
        by_cases hk : sp_okB 1 0 x 0 (z * 86400) ((12 * (y - 1) + 11 + 1 : Nat) : Int) = true
        · rw [if_pos hk, if_pos ⟨by omega, hk⟩]
        · rw [if_neg hk, if_neg (fun hh => hk hh.2)]
      have em : (1 : Int) * ((12 * y : Nat) : Int) = 12 * (y : Int) := by omega
      have cm : zI (y : Int) + (-1 : Int32) = zI ((y - 1 : Nat) : Int) := by rw [zl_m1, zI_add]; congr 1; omega
      have again : sp_okB 1 0 x 0 (z * 86400) ((12 * y : Nat) : Int) = false → ∃ (m yy : Nat) (i1' : Nat → Int32) (y1 sh : Int), fX10_age_j106 N j F (fX10_age_l71 N j F (n + 1)) (zI x) (zI z) (zI y) i1 R = fX10_age_l71 N j F (m + 1) (zI x) (zI z) (zI yy) (1 : Int32) i1' R ∧ 12 * yy = sp_fm 12 1 0 x 0 (z * 86400) (12 * y) ∧ sp_addM (12 * (yy : Int)) 0 x = some (y1, sh) ∧ i1' 13 = zI y1 ∧ (∀ k, k < 10 ∨ 15 < k → i1' k = i k) := by
        intro hno
        obtain ⟨m, yy, i2, y1, sh, v1, v2, v3, v4, v5⟩ := ih (y - 1) i1 (by omega) (by omega)
        unfold fX10_age_j106
        rw [if_neg (i_neq (b := 0) (by decide) (by omega)), if_pos rfl, nm_s, cm, hs, if_neg (by rw [hno]; decide)]
        exact ⟨m, yy, i2, y1, sh, v1, v2, v3, v4, fun k hk => by rw [v5 k hk, n1 k hk]⟩
      rcases g with ⟨y1, sh, e1, rfl, i13, i15⟩ | ⟨e1, rfl⟩
      · have b1 := addM_b hx e1
        have ok := okB_1 (z := z) (n := ((12 * y : Nat) : Int)) (by rw [em]; exact e1)
        rw [if_neg z10, i13]
        by_cases hc : y1 ≤ z
        · rw [if_pos (i_le rfl (by omega)), if_neg z1n, hs, if_pos (by rw [ok]; exact decide_eq_true hc)]
          exact ⟨n, y, i1, y1, sh, rfl, rfl, e1, i13, n1⟩
        · rw [if_neg (i_nle rfl (by omega))]
          exact again (by rw [ok]; exact decide_eq_false hc)
      · rw [if_pos z00]
        refine again ?_
        unfold sp_okB
        rw [em, e1]
theorem age_top {x z : Int} (hx : 0 ≤ x ∧ x ≤ 3652058) (hz : 0 ≤ z ∧ z ≤ 3652058) (Y0 : Nat) (hY : (Y0 : Int) = if 0 < sp_Y z - sp_Y x + 1 then sp_Y z - sp_Y x + 1 else 0) : (sp_fm 12 1 0 x 0 (z * 86400) (12 * Y0) : Int) = if z < x then 0 else sp_mm 12 0 x 0 (z * 86400) := by
  obtain ⟨g4, g5, g6, g7⟩ := sp_all hx.1 hx.2
  obtain ⟨g4', g5', g6', g7'⟩ := sp_all hz.1 hz.2
  have m1 : sp_mi x = 12 * sp_Y x + sp_M x - 1 := rfl
  have m2 : sp_mi z = 12 * sp_Y z + sp_M z - 1 := rfl
  have eZ : z * 86400 / 86400 = z := by omega
  by_cases h : z < x
  · have hm := mi_mono hz.1 (by omega : z ≤ x) hx.2
    rw [if_pos h]
    have f := fm_top (st := 12) (way := 1) (law := 0) (x := x) (t := 0) (G := z * 86400) (a := 0) (12 * Y0) (fun q h1 h2 => by
      cases e : sp_addM (1 * (q : Int)) 0 x with
      | none => unfold sp_okB; rw [e]
      | some p =>
        rw [okB_1 e]
        refine decide_eq_false ?_
        have k := addM_in hx (show sp_addM (1 * (q : Int)) 0 x = some (p.1, p.2) from e)
        obtain ⟨a1, a2, a3, a4, a5⟩ := mi_all hx.1 hx.2
        have fs := first_step (sp_mi x)
        have := first_le (a := sp_mi x + 1) (b := sp_mi x + 1 * (q : Int)) (by omega)
        omega)
    rw [Nat.zero_add] at f
    rw [f]
    rfl
  · have hm := mi_mono hx.1 (by omega : x ≤ z) hz.2
    have hap : sp_ap x (z * 86400) = (sp_mi z - sp_mi x).natAbs := by unfold sp_ap; rw [eZ]
    have ew : sp_way x 0 (z * 86400) = 1 := if_neg (by omega)
    rw [if_neg h]
    rw [if_pos (by omega)] at hY
    unfold sp_mm
    rw [ew, Int.one_mul]
    have f := fm_top (st := 12) (way := 1) (law := 0) (x := x) (t := 0) (G := z * 86400) (a := sp_ap x (z * 86400) + 1) (12 * Y0 - (sp_ap x (z * 86400) + 1)) (fun q h1 h2 => by
      have := ok_far (law := 0) (t := 0) hx (by omega) (show 0 ≤ z * 86400 ∧ z * 86400 ≤ 315537897599 by omega) (q := (q : Int)) (by omega)
      rw [ew] at this
      exact this)
    rw [show sp_ap x (z * 86400) + 1 + (12 * Y0 - (sp_ap x (z * 86400) + 1)) = 12 * Y0 by omega] at f
    rw [f]
theorem p_age (N : Nat) (hN : 200000 ≤ N) (p1 : Int32) (p2 : Int32) {ks : Int32} {f : Nat → Int32} {tl : Int32} {nn : Nat → Int64} {ad : Nat → Int32} {i : Nat → Int32} {j : Nat → Int64} {F : Nat → Int32} {R : Nat → Int64} {g : Nat → Int32} {G : Nat → Int32} {dd ss : Nat → Int} (hM : RelM dd ss f g F G) (hR : RelR tl nn i R) (had : AdW ad) : 
    ∃ (r : Int32) (tl' : Int32) (nn' : Nat → Int64) (ad' : Nat → Int32) (i' : Nat → Int32) (R' : Nat → Int64), fX9_age N p1 p2 ks f tl nn ad = some (r, tl', nn', ad') ∧ fX10_age N p1 p2 i j F R = some (r, i', R') ∧ RelR tl' nn' i' R' ∧ AdW ad' ∧ i' 4 = i 4 ∧ i' 6 = i 6 := by
  obtain ⟨z1, l1, v1, rfl⟩ := zI_of p1
  obtain ⟨z2, l2, v2, rfl⟩ := zI_of p2
  by_cases q0 : 0 ≤ z1 ∧ z1 ≤ 7
  case neg =>
    refine ⟨(-1 : Int32), tl, nn, ad, upd i 9 (zI 0), R, ?_, ?_, hR.f9, had, upd_n (by omega), upd_n (by omega)⟩
    · unfold fX9_age
      rw [c_slot0 N l1 v1 q0, bd1_s, if_pos z00]
    · unfold fX10_age
      rw [m_slot0 N l1 v1 q0, bd1_s, if_pos z00]
      rfl
  by_cases q1 : 0 ≤ z2 ∧ z2 ≤ 7
  case neg =>
    refine ⟨(-1 : Int32), tl, nn, ad, upd i 9 (zI 0), R, ?_, ?_, hR.f9, had, upd_n (by omega), upd_n (by omega)⟩
    · unfold fX9_age
      rw [c_slot1 N q0, bd1_s, if_neg z10]
      rw [c_slot0 N l2 v2 q1, bd1_s, if_pos z00]
    · unfold fX10_age
      rw [m_slot1 N q0, bd1_s, if_neg z10]
      rw [m_slot0 N l2 v2 q1, bd1_s, if_pos z00]
      rfl
  unfold fX9_age fX10_age
  rw [c_slot1 N q0, bd1_s, if_neg z10]
  rw [c_slot1 N q1, bd1_s, if_neg z10]
  rw [m_slot1 N q0, bd1_s, if_neg z10]
  rw [m_slot1 N q1, bd1_s, if_neg z10]
  obtain ⟨k1, hk1, rfl⟩ := slot_of q0
  obtain ⟨k2, hk2, rfl⟩ := slot_of q1
  obtain ⟨f1, f2, f3, f4, f5, f6⟩ := hM k1 hk1
  obtain ⟨p1, p2, p3, p4, p5, p6⟩ := hM k2 hk2
  obtain ⟨X, hX⟩ : ∃ X, X = dd k1 := ⟨_, rfl⟩
  obtain ⟨Z, hZ⟩ : ∃ Z, Z = dd k2 := ⟨_, rfl⟩
  rw [← hX] at f1 f3 f5
  rw [← hZ] at p1 p3 p5
  have bG : 0 ≤ Z * 86400 ∧ Z * 86400 ≤ 315537897599 := by omega
  obtain ⟨g4, g5, g6, g7⟩ := sp_all f5.1 f5.2
  obtain ⟨g4', g5', g6', g7'⟩ := sp_all p5.1 p5.2
  rw [e_dayAt N f hk1, bd1_s, e_dayAt N f hk2, bd1_s, f1, p1, gi_z (by omega) (by omega) (by omega), zI_cl (by omega) (by omega), tn1, f3, nm_s, gi_z (by omega) (by omega) (by omega), zI_cl (by omega) (by omega), tn1, p3, nm_s, e_dates N (by omega) _ j f5.1 f5.2, bd1_s]
  obtain ⟨i2, hi2⟩ : ∃ i2, i2 = upd (upd (upd (upd i 9 (0 : Int32)) 10 (zI (sp_Y X))) 11 (zI (sp_M X))) 12 (zI (sp_D X)) := ⟨_, rfl⟩
  have i10 : i2 10 = zI (sp_Y X) := by rw [hi2]; simp (disch := omega) only [upd_n, upd_s]
  rw [← hi2, i10, nm_s, e_dates N (by omega) i2 j p5.1 p5.2, bd1_s]
  obtain ⟨i3, hi3⟩ : ∃ i3, i3 = upd (upd (upd i2 10 (zI (sp_Y Z))) 11 (zI (sp_M Z))) 12 (zI (sp_D Z)) := ⟨_, rfl⟩
  have i10' : i3 10 = zI (sp_Y Z) := by rw [hi3]; simp (disch := omega) only [upd_n, upd_s]
  have fr3 : ∀ k, k < 9 → i3 k = i k := fun k hk => by rw [hi3, upd_n (by omega), upd_n (by omega), upd_n (by omega), hi2, upd_n (by omega), upd_n (by omega), upd_n (by omega), upd_n (by omega)]
  rw [← hi3, i10']
  obtain ⟨Y0, hY0⟩ : ∃ Y0 : Nat, (Y0 : Int) = if 0 < sp_Y Z - sp_Y X + 1 then sp_Y Z - sp_Y X + 1 else 0 := ⟨(if 0 < sp_Y Z - sp_Y X + 1 then sp_Y Z - sp_Y X + 1 else 0).toNat, by split <;> omega⟩
  have bY : Y0 ≤ 9999 := by
    have : (Y0 : Int) ≤ 9999 := by rw [hY0]; split <;> omega
    omega
  have eY : (if (0 : Int32) < ((zI (sp_Y Z) - zI (sp_Y X)) + (1 : Int32)) then ((zI (sp_Y Z) - zI (sp_Y X)) + (1 : Int32)) else (0 : Int32)) = zI (Y0 : Int) := by
    rw [hY0, zI_sub, show zI (sp_Y Z - sp_Y X) + (1 : Int32) = zI (sp_Y Z - sp_Y X + 1) by rw [zl_1, zI_add]]
    by_cases h : 0 < sp_Y Z - sp_Y X + 1
    · rw [if_pos (i_gt (b := 0) (by decide) (by omega)), if_pos h]
    · rw [if_neg (i_ngt (b := 0) (by decide) (by omega)), if_neg h, zl_0]
  rw [eY, nm_s]
  obtain ⟨m, yy, i4, y1, sh, v1, v2, v3, v4, v5⟩ := l_age N hN (F := F) (j := j) (R := R) f5 p5 N Y0 i3 (by omega) (by omega)
  have top := age_top f5 p5 Y0 hY0
  rw [← v2] at top
  have fmle := fm_le 12 1 0 X 0 (Z * 86400) (12 * Y0)
  have byy : yy ≤ 9999 := by omega
  have fr4 : ∀ k, k < 9 → i4 k = i k := fun k hk => by rw [v5 k (by omega), fr3 k hk]
  have eT : ∀ m (a : Nat → Int32), fX0_takesNumbers N (zI m) (0 : Int32) (0 : Int32) (0 : Int32) a = some (adT a m 0 0 0) := fun m a => by rw [zl_0]; exact e_takesN N a m 0 0 0
  -- the class comes to the same years
  have key : ∃ ad1, AdW ad1 ∧ (if zI X ≤ zI Z then (bd1 (fX9_instantOf N (zI Z) (0 : Int32)) fun r30 => (bd2 (fX9_mostMonths N (zI X) (0 : Int32) r30 (0 : Int32) (1 : Int32) ks ad) fun r32 ad33 => (fX9_age_j62 N ks f (zI X) (zI Z) (r32 / (12 : Int32)) tl nn ad33))) else (fX9_age_j62 N ks f (zI X) (zI Z) (0 : Int32) tl nn ad)) = fX9_age_j62 N ks f (zI X) (zI Z) (zI (yy : Int)) tl nn ad1 := by
    by_cases h : Z < X
    · rw [if_pos h] at top
      rw [if_neg (i_nle rfl (by omega)), show (yy : Int) = 0 by omega]
      exact ⟨ad, had, by rw [zl_0]⟩
    · rw [if_neg h] at top
      obtain ⟨ad1, eM, AM⟩ := e_most N hN (ks := ks) (law := 0) (x := X) (t := 0) (G := Z * 86400) (wy := 1) (st := 12) had f5 (by omega) bG (by omega) (Or.inr ⟨rfl, rfl⟩)
      rw [← zl_0, ← zl_1] at eM
      have iZ : fX9_instantOf N (zI Z) (0 : Int32) = some (zL (Z * 86400)) := by
        have := e_instantOf N (x := Z) (t := 0) (by omega) (by omega)
        rw [Int.add_zero, ← zl_0] at this
        exact this
      refine ⟨ad1, AM, ?_⟩
      rw [if_pos (i_le rfl (by omega)), iZ, bd1_s, eM, bd2_s, ← top, zl_12, zI_div (by omega) (by omega) (by omega) (by omega)]
      congr 2
      omega
  obtain ⟨ad1, A1, kc⟩ := key
  rw [kc, v1, fX10_age_l71_s, if_neg (show ¬ ((1 : Int32) = (0 : Int32)) by decide), v4, nm_s, e_stands, bd1_s]
  have c1 : zI (yy : Int) + (1 : Int32) = zI ((yy : Int) + 1) := by rw [zl_1, zI_add]
  have c2 : (12 : Int32) * zI (yy : Int) = zI (12 * (yy : Int)) := by rw [zl_12, zI_mul]
  have c3 : zI (12 * (yy : Int)) + (12 : Int32) = zI (12 * ((yy : Int) + 1)) := by rw [zl_12, zI_add]; congr 1
  have b1 := addM_b f5 v3
  obtain ⟨a2, r2, w2, A2, g2⟩ := e_leadsM N (m := 12 * (yy : Int)) (law := 0) (t := 0) A1 (by omega) (by omega) f5 (by omega)
  rw [← zl_0] at w2
  obtain ⟨a3, r3, w3, A3, g3⟩ := e_leadsM N (m := 12 * ((yy : Int) + 1)) (law := 0) (t := 0) A2 (by omega) (by omega) f5 (by omega)
  rw [← zl_0] at w3
  obtain ⟨i5, r5, w5, n5, -, g5'⟩ := e_addsMonths N (by omega) (i := upd (upd i4 13 (zI X)) 14 (0 : Int32)) (j := j) (m := 12 * ((yy : Int) + 1)) (t := 0) (law := 0) (by omega) (by omega) (by rw [upd_n (by omega), upd_s]) f5 (by rw [upd_s, zl_0])
  rw [← zl_0] at w5
  have n5 : ∀ k, k < 9 → i5 k = i k := fun k hk => by rw [n5 k (by omega), upd_n (by omega), upd_n (by omega), fr4 k hk]
  unfold fX9_age_j62
  rw [c2, c3, eT, bd1_s, w2, bd2_s, eT]
  rcases g2 with ⟨y2, sh2, e2, rfl, a8, a9, b2⟩ | ⟨e2, -⟩
  case inr => rw [v3] at e2; exact absurd e2 (by simp)
  rw [v3] at e2
  injection e2 with e2
  injection e2 with e3 e4
  subst e3
  rw [a8, nm_s, bd1_s, w3, bd2_s, c1, zI_toL (a := (yy : Int) + 1) (by omega) (by omega), zll_12, zL_mul, w5, bd2_s, zI_sub, e_tellA, bd2_s]
  rcases g3 with ⟨y3, sh3, e3, rfl, a8', a9', b3⟩ | ⟨e3, rfl⟩
  · rcases g5' with ⟨y4, sh4, e5, rfl, i13, i15⟩ | ⟨e5, -⟩
    case inr => rw [e3] at e5; exact absurd e5 (by simp)
    rw [e3] at e5
    injection e5 with e5
    injection e5 with e6 e7
    subst e6
    rw [if_neg z10, if_neg z10, upd_n (by omega), a8', i13, zI_sub, e_tell2, bd2_s, e_tellB N (by omega) (by omega), bd2_s]
    exact ⟨_, _, _, _, _, _, rfl, rfl, RelR.mk2 upd_s _ _, A3, by rw [upd_n (by omega), n5 4 (by omega)], by rw [upd_n (by omega), n5 6 (by omega)]⟩
  · rcases g5' with ⟨y4, sh4, e5, -⟩ | ⟨e5, rfl⟩
    · rw [e3] at e5; exact absurd e5 (by simp)
    rw [if_pos z00, if_pos z00, e_tell2, bd2_s, e_tellB N (by omega) (by omega), bd2_s]
    exact ⟨_, _, _, _, _, _, rfl, rfl, RelR.mk2 upd_s _ _, A3, by rw [upd_n (by omega), n5 4 (by omega)], by rw [upd_n (by omega), n5 6 (by omega)]⟩
