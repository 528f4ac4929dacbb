/-! what a span lasts: in how many ways -/
theorem fE (g : Int) : -1770546 ≤ 4800 * sp_first g - 146097 * g ∧ 4800 * sp_first g - 146097 * g ≤ -1745382 := by
  unfold sp_first
  rw [sp_dn_am]
  unfold sp_yb sp_am sp_ahead
  obtain ⟨y, hy⟩ : ∃ y, y = g / 12 := ⟨_, rfl⟩
  obtain ⟨r, hr⟩ : ∃ r, r = g % 12 + 1 := ⟨_, rfl⟩
  have hg : g = 12 * y + r - 1 := by omega
  have hb : 1 ≤ r ∧ r ≤ 12 := by omega
  rw [← hy, ← hr]
  clear hy hr
  subst hg
  rcases m12 hb.1 hb.2 with rfl | rfl | rfl | rfl | rfl | rfl | rfl | rfl | rfl | rfl | rfl | rfl
  all_goals
    simp only [Int.reduceEq, Int.reduceLT, ↓reduceIte, false_and, true_and]
    first | omega | (split <;> omega)
def sp_lc (m d : Int) : Int := (146097 * m - 25164) / 4800 - 3 + d
theorem addM_e {m law x y sh : Int} (h1 : 0 ≤ x ∧ x ≤ 3652058) (h : sp_addM m law x = some (y, sh)) : (146097 * m - 25164) / 4800 - 3 ≤ y - x ∧ y - x ≤ (146097 * m - 25164) / 4800 + 11 := by
  obtain ⟨a1, a2, a3, a4, a5⟩ := mi_all h1.1 h1.2
  unfold sp_addM at h
  split at h
  · rename_i h0
    injection h with h; injection h with h3 h4; subst h3; subst h0; omega
  · split at h
    · exact absurd h (by simp)
    · split at h
      · exact absurd h (by simp)
      · split at h
        · injection h with h; injection h with h3 h4; subst h3
          have b1 := gl_b (sp_mi x + m)
          have b2 := gl_b (sp_mi x)
          have f1 := fE (sp_mi x)
          have f2 := fE (sp_mi x + m)
          have f3 := fE (sp_mi x + 1)
          have f4 := fE (sp_mi x + m + 1)
          have g1 := first_step (sp_mi x)
          have g2 := first_step (sp_mi x + m)
          unfold sp_dd
          split
          · rename_i hc
            rcases hc with ⟨-, hc⟩ | ⟨hc, -⟩
            · omega
            · omega
          · omega
        · exact absurd h (by simp)
theorem add_e {m d s law x y u sh : Int} (h1 : 0 ≤ x ∧ x ≤ 3652058) (h : sp_add m d s law 0 x 0 = some (y, u, sh)) : ∃ e : Nat, e < 16 ∧ y * 86400 + u - x * 86400 = ((e : Int) + sp_lc m d) * 86400 + s := by
  unfold sp_add at h
  rw [if_pos rfl] at h
  cases e1 : sp_addM m law x with
  | none => rw [e1] at h; exact absurd h (by simp)
  | some p =>
    rw [e1] at h
    have k := addM_e h1 (show sp_addM m law x = some (p.1, p.2) from e1)
    cases e2 : sp_Dy d p.1 with
    | none => simp [e2] at h
    | some z =>
      have k2 : z = p.1 + d := by
        unfold sp_Dy at e2
        split at e2
        · injection e2 with e2; exact e2.symm
        · exact absurd e2 (by simp)
      cases e3 : sp_S s z 0 with
      | none => simp [e2, e3] at h
      | some q =>
        have k3 : q.1 * 86400 + q.2 = z * 86400 + s := by
          unfold sp_S at e3
          split at e3
          · injection e3 with e3; subst e3; show (z * 86400 + 0 + s) / 86400 * 86400 + (z * 86400 + 0 + s) % 86400 = _; omega
          · exact absurd e3 (by simp)
        simp [e2, e3] at h
        obtain ⟨h3, h4, h5⟩ := h
        unfold sp_lc
        refine ⟨(p.1 - x - ((146097 * m - 25164) / 4800 - 3)).toNat, by omega, ?_⟩
        rw [Int.toNat_of_nonneg (by omega)]
        omega
/-- no more unlike numbers below m than m -/
theorem pigeon : ∀ (m n : Nat) (e : Nat → Nat), (∀ k, k < n → e k < m) → (∀ k l, k < l → l < n → e k ≠ e l) → n ≤ m
  | 0, n, e, h1, h2 => by
    by_cases h : 0 < n
    · exact absurd (h1 0 h) (by omega)
    · omega
  | m + 1, n, e, h1, h2 => by
    by_cases h : ∃ k0, k0 < n ∧ e k0 = m
    · obtain ⟨k0, hk0, he⟩ := h
      have := pigeon m (n - 1) (fun k => if k < k0 then e k else e (k + 1)) (fun k hk => by
        show (if k < k0 then e k else e (k + 1)) < m
        split
        · rename_i hlt
          have a := h1 k (by omega)
          have b := h2 k k0 hlt hk0
          omega
        · rename_i hge
          have a := h1 (k + 1) (by omega)
          have b := h2 k0 (k + 1) (by omega) (by omega)
          omega) (fun k l hkl hl => by
        show (if k < k0 then e k else e (k + 1)) ≠ (if l < k0 then e l else e (l + 1))
        split
        · split
          · exact h2 k l hkl (by omega)
          · exact h2 k (l + 1) (by omega) (by omega)
        · rw [if_neg (by omega)]
          exact h2 (k + 1) (l + 1) (by omega) (by omega))
      omega
    · have := pigeon m n e (fun k hk => by
        have a := h1 k hk
        have b : e k ≠ m := fun hh => h ⟨k, hk, hh⟩
        omega) h2
      omega
theorem l_meet (N : Nat) {I : Nat → Int32} {J U : Nat → Int64} {many : Nat} {val : Nat → Int} {v : Int} (hI : I 1 = zI many) (hm : many ≤ 16) (hU : ∀ k, k < many → U k = zL (val k) ∧ -400000000000 ≤ val k ∧ val k ≤ 400000000000) (hv : -400000000000 ≤ v ∧ v ≤ 400000000000) : ∀ (n k : Nat), k ≤ many → (∀ q, q < k → val q ≠ v) → many < k + n →
    ((∃ q, q < many ∧ val q = v) → fX8_meet_l9 N n (zL v) (zI k) I J U = some (I, J, U)) ∧ ((∀ q, q < many → val q ≠ v) → many < 16 → fX8_meet_l9 N n (zL v) (zI k) I J U = some (upd I 1 (zI ((many + 1 : Nat) : Int)), J, vp_updL U many (zL v))) := by
  intro n
  induction n with
  | zero => intro k h1 h2 hn; omega
  | succ n ih =>
    intro k h1 h2 hn
    rw [fX8_meet_l9_s, hI]
    by_cases hk : many ≤ k
    · rw [if_pos (i_le rfl (by omega))]
      refine ⟨fun ⟨q, hq, he⟩ => absurd he (h2 q (by omega)), fun _ h16 => ?_⟩
      unfold fX8_meet_j47
      rw [hI, if_neg (i_nlt (b := 0) (by decide) (by omega)), if_neg (i_nge' (b := 16) (by decide) (by omega)), gi_z (by omega) (by omega) (by omega), zI_cl (by omega) (by omega), tn1, show zI (many : Int) + (1 : Int32) = zI ((many + 1 : Nat) : Int) by rw [zl_1, zI_add]; rfl]
    · obtain ⟨u1, u2⟩ := hU k (by omega)
      rw [if_neg (i_nle rfl (by omega)), if_neg (i_nge' (b := 16) (by decide) (by omega)), gi_z (by omega) (by omega) (by omega), zI_cl (by omega) (by omega), tn1, u1]
      by_cases he : val k = v
      · rw [if_pos (k_eq he)]
        exact ⟨fun _ => rfl, fun hh => absurd he (hh k (by omega))⟩
      · rw [if_neg (k_neq (by omega)), nm_s, show zI (k : Int) + (1 : Int32) = zI ((k + 1 : Nat) : Int) by rw [zl_1, zI_add]; rfl]
        exact ih (k + 1) (by omega) (fun q hq => by
          by_cases e : q = k
          · subst e; exact he
          · exact h2 q (by omega)) (by omega)
theorem l_sees (N : Nat) {i : Nat → Int32} {j U : Nat → Int64} {many : Nat} {val : Nat → Int} {v : Int} (hI : i 24 = zI many) (hm : many ≤ 16) (hU : ∀ k, k < many → U k = zL (val k) ∧ -400000000000 ≤ val k ∧ val k ≤ 400000000000) (hv : -400000000000 ≤ v ∧ v ≤ 400000000000) : ∀ (n k : Nat), k ≤ many → (∀ q, q < k → val q ≠ v) → many < k + n →
    ((∃ q, q < many ∧ val q = v) → fX10_seesLength_l2 N j n (zL v) (zI k) i U = some (i, U)) ∧ ((∀ q, q < many → val q ≠ v) → fX10_seesLength_l2 N j n (zL v) (zI k) i U = some (upd i 24 (zI ((many + 1 : Nat) : Int)), vp_updL U many (zL v))) := by
  intro n
  induction n with
  | zero => intro k h1 h2 hn; omega
  | succ n ih =>
    intro k h1 h2 hn
    rw [fX10_seesLength_l2_s, hI]
    by_cases hk : many ≤ k
    · rw [if_pos (i_le rfl (by omega))]
      refine ⟨fun ⟨q, hq, he⟩ => absurd he (h2 q (by omega)), fun _ => ?_⟩
      rw [gi_z (by omega) (by omega) (by omega), zI_cl (by omega) (by omega), tn1, show zI (many : Int) + (1 : Int32) = zI ((many + 1 : Nat) : Int) by rw [zl_1, zI_add]; rfl]
    · obtain ⟨u1, u2⟩ := hU k (by omega)
      rw [if_neg (i_nle rfl (by omega)), gi_z (by omega) (by omega) (by omega), zI_cl (by omega) (by omega), tn1, u1]
      by_cases he : val k = v
      · rw [if_pos (k_eq he)]
        exact ⟨fun _ => rfl, fun hh => absurd he (hh k (by omega))⟩
      · rw [if_neg (k_neq (by omega)), nm_s, show zI (k : Int) + (1 : Int32) = zI ((k + 1 : Nat) : Int) by rw [zl_1, zI_add]; rfl]
        exact ih (k + 1) (by omega) (fun q hq => by
          by_cases e : q = k
          · subst e; exact he
          · exact h2 q (by omega)) (by omega)
/-- what was seen so far -/
def Seen (c s : Int) (many : Nat) (wu le : Nat → Int64) : Prop := many ≤ 16 ∧ ∃ ε : Nat → Nat, (∀ k, k < many → ε k < 16 ∧ wu k = zL (((ε k : Int) + c) * 86400 + s) ∧ le k = zL (((ε k : Int) + c) * 86400 + s) ∧ -400000000000 ≤ ((ε k : Int) + c) * 86400 + s ∧ ((ε k : Int) + c) * 86400 + s ≤ 400000000000) ∧ (∀ k l, k < l → l < many → ε k ≠ ε l)
theorem e_seen (N : Nat) (hN : 200000 ≤ N) {I i : Nat → Int32} {J j wu le : Nat → Int64} {many : Nat} {c s v : Int} {e : Nat} (h : Seen c s many wu le) (hI : I 1 = zI many) (hi : i 24 = zI many) (he : e < 16) (hv : v = ((e : Int) + c) * 86400 + s) (bv : -400000000000 ≤ v ∧ v ≤ 400000000000) :
    ∃ (I' i' : Nat → Int32) (wu' le' : Nat → Int64) (many' : Nat), fX8_meet_l9 N N (zL v) (0 : Int32) I J wu = some (I', J, wu') ∧ fX10_seesLength N (zL v) i j le = some (i', le') ∧ Seen c s many' wu' le' ∧ I' 1 = zI many' ∧ i' 24 = zI many' ∧ (∀ k, k ≠ 1 → I' k = I k) ∧ (∀ k, k ≠ 24 → i' k = i k) ∧ many' ≠ 0 := by
  obtain ⟨hm, ε, h1, h2⟩ := h
  obtain ⟨a1, a2⟩ := l_meet N (J := J) (U := wu) (val := fun k => ((ε k : Int) + c) * 86400 + s) (v := v) hI hm (fun k hk => by obtain ⟨p1, p2, p3, p4⟩ := h1 k hk; exact ⟨p2, p4⟩) bv N 0 (by omega) (fun q hq => absurd hq (by omega)) (by omega)
  obtain ⟨b1, b2⟩ := l_sees N (j := j) (U := le) (val := fun k => ((ε k : Int) + c) * 86400 + s) (v := v) hi hm (fun k hk => by obtain ⟨p1, p2, p3, p4⟩ := h1 k hk; exact ⟨p3, p4⟩) bv N 0 (by omega) (fun q hq => absurd hq (by omega)) (by omega)
  have z0 : zI ((0 : Nat) : Int) = (0 : Int32) := by decide
  rw [z0] at a1 a2 b1 b2
  unfold fX10_seesLength
  by_cases hq : ∃ q, q < many ∧ ((ε q : Int) + c) * 86400 + s = v
  · refine ⟨I, i, wu, le, many, a1 hq, b1 hq, ⟨hm, ε, h1, h2⟩, hI, hi, fun _ _ => rfl, fun _ _ => rfl, ?_⟩
    obtain ⟨q, hq, -⟩ := hq
    omega
  · have hne : ∀ q, q < many → ((ε q : Int) + c) * 86400 + s ≠ v := fun q hq1 hq2 => hq ⟨q, hq1, hq2⟩
    have hε : ∀ k, k < many → ε k ≠ e := fun k hk hh => hne k hk (by rw [hv, hh])
    have key : ∀ k l, k < l → l < many + 1 → (if k = many then e else ε k) ≠ (if l = many then e else ε l) := by
      intro k l hkl hl
      rw [if_neg (show ¬ k = many by omega)]
      by_cases e1 : l = many
      · rw [if_pos e1]; exact hε k (by omega)
      · rw [if_neg e1]; exact h2 k l hkl (by omega)
    have hlt := pigeon 16 (many + 1) (fun k => if k = many then e else ε k) (fun k hk => by
      show (if k = many then e else ε k) < 16
      by_cases e1 : k = many
      · rw [if_pos e1]; exact he
      · rw [if_neg e1]; exact (h1 k (by omega)).1) key
    refine ⟨_, _, _, _, many + 1, a2 hne (by omega), b2 hne, ⟨hlt, fun k => if k = many then e else ε k, fun k hk => ?_, key⟩, upd_s, upd_s, fun k hk => upd_n hk, fun k hk => upd_n hk, by omega⟩
    by_cases e1 : k = many
    · subst e1
      simp only [if_true, updL_s]
      rw [← hv]
      exact ⟨he, rfl, rfl, bv⟩
    · simp only [if_neg e1, updL_n e1]
      exact h1 k (by omega)
theorem l_lasts (N : Nat) (hN : 200000 ≤ N) {ks : Int32} {a b c S : Nat → Int32} {tl : Int32} {nn j R : Nat → Int64} {k1 : Nat} (hk1 : k1 < 8) {m1 d1 s1 law : Int} (s4 : S (3 * k1) = zI m1) (s5 : S (3 * k1 + 1) = zI d1) (s6 : S (3 * k1 + 2) = zI s1) (hb1 : sp_b3 m1 d1 s1) (hl : 0 ≤ law ∧ law ≤ 3) : ∀ (n many : Nat) (d lo hi fl fm : Int) (ad i wi : Nat → Int32) (wj wu le : Nat → Int64), RelR tl nn i R → AdOK m1 d1 s1 law ad → WW wi wj lo hi fl fm → wi 1 = zI many → i 24 = zI many → Seen (sp_lc m1 d1) s1 many wu le → (many = 0 ∨ fl ≠ -1) → (-1000000000000 ≤ lo ∧ lo ≤ 1000000000000) → (-1000000000000 ≤ hi ∧ hi ≤ 1000000000000) → 730119 ≤ d → d ≤ 876216 → 876216 - d < n →
    ∃ (r : Int64) (tl' : Int32) (nn' : Nat → Int64) (ad' wi' : Nat → Int32) (wj' wu' : Nat → Int64) (i' : Nat → Int32) (R' le' : Nat → Int64), fX9_lasts_l43 N ks a b c n (zI d) tl nn ad wi wj wu = some (r, tl', nn', ad', wi', wj', wu') ∧ fX10_lasts_l44 N j S n (zI k1) (zI law) (zL lo) (zL hi) (zI fl) (zI fm) (zI d) i R le = some (r, i', R', le') ∧ RelR tl' nn' i' R' ∧ AdW ad' ∧ i' 4 = i 4 ∧ i' 6 = i 6 := by
  intro n
  induction n with
  | zero => intro many d lo hi fl fm ad i wi wj wu le hR hA hW hI h24 hS hf hlo hhi h1 h2 hn; omega
  | succ n ih =>
    intro many d lo hi fl fm ad i wi wj wu le hR hA hW hI h24 hS hf hlo hhi h1 h2 hn
    rw [fX9_lasts_l43_s, fX10_lasts_l44_s]
    by_cases hd : 876216 ≤ d
    · rw [if_pos (i_gt (b := 876215) (by decide) (by omega)), if_pos (i_ge' (b := 876216) (by decide) (by omega)), hI, h24]
      have hm16 := hS.1
      by_cases hm0 : many = 0
      · rw [if_pos (i_eq (b := 0) (by decide) (by omega)), if_pos (i_eq (b := 0) (by decide) (by omega))]
        exact ⟨_, _, _, _, _, _, _, _, _, _, rfl, rfl, hR, hA.w, rfl, rfl⟩
      · rw [if_neg (i_neq (b := 0) (by decide) (by omega)), if_neg (i_neq (b := 0) (by decide) (by omega))]
        rcases hW with ⟨e2, hfl, hfm⟩ | ⟨e2, j3, j4, i5, i6, p5, p6⟩
        · omega
        · rw [j3, j4, i5, i6, e_tell3, bd2_s, show (zI 3 : Int32) = zI ((3 : Nat) : Int) from rfl, e_push N (by omega), bd2_s, show zI (((3 : Nat) : Int) + 1) = zI ((4 : Nat) : Int) from rfl, e_push N (by omega), bd2_s, e_tellA, bd2_s]
          simp (disch := omega) only [e_tellB, bd2_t, upd_n, h24, Int.reduceAdd, Int.reduceToNat]
          exact ⟨_, _, _, _, _, _, _, _, _, _, rfl, rfl, RelR.mk5 upd_s _ _ _ _ _, hA.w, by simp (disch := omega) only [upd_n], by simp (disch := omega) only [upd_n]⟩
    · rw [if_neg (i_ngt (b := 876215) (by decide) (by omega)), if_neg (i_nge' (b := 876216) (by decide) (by omega)), e_stands, bd1_s]
      have h0 : (0 : Int) ≤ 0 ∧ (0 : Int) ≤ 86399 := by omega
      have c1 : zI d + (1 : Int32) = zI (d + 1) := by rw [zl_1, zI_add]
      obtain ⟨ad1, r1, w1, A1, g1⟩ := e_leads N (ord := 0) (x := d) (t := 0) hA hb1 hl (by omega) (by omega) h0
      obtain ⟨i1, r2, x1, n1, g2⟩ := e_addsO N (by omega) (i := upd (upd i 13 (zI d)) 14 (0 : Int32)) (j := j) (ord := 0) hk1 s4 s5 s6 hb1 hl (by omega) (by rw [upd_n (by omega), upd_s]) (x := d) (by omega) (by rw [upd_s, zl_0]) h0
      have n1 : ∀ k, k < 10 ∨ 15 < k → i1 k = i k := fun k hk => by rw [n1 k hk, upd_n (by omega), upd_n (by omega)]
      rw [← zl_0] at w1 x1
      rw [w1, bd2_s, x1, bd2_s]
      have hR1 : RelR tl nn i1 R := hR.cong (n1 8 (by omega))
      rcases g1 with ⟨y, u, sh, e1, rfl, a8, a9, a10, b1, b2, b3⟩ | ⟨e1, rfl⟩
      case inr =>
        rcases g2 with ⟨y', u', sh', e2, -⟩ | ⟨e2, rfl⟩
        · rw [e1] at e2; exact absurd e2 (by simp)
        rw [if_pos z00, if_pos z00, nm_s, nm_s, c1]
        obtain ⟨r, tl', nn', ad', wi', wj', wu', i', R', le', v1, v2, v3, v4, v5, v6⟩ := ih many (d + 1) lo hi fl fm ad1 i1 wi wj wu le hR1 A1 hW hI (by rw [n1 24 (by omega), h24]) hS hf hlo hhi (by omega) (by omega) (by omega)
        exact ⟨r, tl', nn', ad', wi', wj', wu', i', R', le', v1, v2, v3, v4, by rw [v5, n1 4 (by omega)], by rw [v6, n1 6 (by omega)]⟩
      rcases g2 with ⟨y', u', sh', e2, rfl, i13, i14, i15, -⟩ | ⟨e2, -⟩
      case inr => rw [e1] at e2; exact absurd e2 (by simp)
      obtain ⟨e, he, hv⟩ := add_e (x := d) (by omega) e1
      rw [e1] at e2
      injection e2 with e2
      injection e2 with e3 e2
      injection e2 with e4 e5
      subst e3; subst e4; subst e5
      rw [if_neg z10, if_neg z10, e_instant N a8 b1 a9 b2, bd1_s, e_instant_m N j i13 i14 b1 b2, bd1_s, show fX9_instantOf N (zI d) (0 : Int32) = some (zL (d * 86400 + 0)) by rw [zl_0]; exact e_instantOf N (by omega) (by omega), bd1_s, c1, Int.add_zero, zL_sub, nm_s, zI_toL (by omega) (by omega), zll_86400, zL_mul, zL_sub]
      obtain ⟨v, hv2⟩ : ∃ v, v = y * 86400 + u - d * 86400 := ⟨_, rfl⟩
      rw [← hv2] at hv ⊢
      have bv : -400000000000 ≤ v ∧ v ≤ 400000000000 := by omega
      unfold fX8_meet
      rcases hW with ⟨q2, hfl, hfm⟩ | ⟨q2, j3, j4, i5, i6, p5, p6⟩
      · rw [e_weighE N q2, bd2_s]
        obtain ⟨I', i2, wu', le', many', f1, f2, f3, f4, f5, f6, f7, f8⟩ := e_seen N hN (I := upd (upd (upd wi 5 (zI d)) 2 (zI 0)) 6 (zI d)) (i := i1) (J := vp_updL (vp_updL wj 3 (zL v)) 4 (zL v)) (j := j) hS (by simp (disch := omega) only [upd_n, hI]) (by rw [n1 24 (by omega), h24]) he hv bv
        rw [f1, bd3_s, nm_s, f2, bd2_s, if_pos (i_eq (b := -1) (by decide) hfl)]
        unfold fX10_lasts_j113
        rw [if_pos (i_eq (b := -1) (by decide) hfm), c1, nm_s]
        obtain ⟨r, tl', nn', ad', wi', wj', wu'', i', R', le'', v1, v2, v3, v4, v5, v6⟩ := ih many' (d + 1) v v d d ad1 i2 I' (vp_updL (vp_updL wj 3 (zL v)) 4 (zL v)) wu' le' (hR1.cong (f7 8 (by omega))) A1 (Or.inr ⟨by rw [f6 2 (by omega)]; simp (disch := omega) only [upd_n, upd_s], by rw [updL_n (by omega), updL_s], by rw [updL_s], by rw [f6 5 (by omega)]; simp (disch := omega) only [upd_n, upd_s], by rw [f6 6 (by omega)]; simp (disch := omega) only [upd_n, upd_s], by omega, by omega⟩) f4 f5 f3 (Or.inr (by omega)) (by omega) (by omega) (by omega) (by omega) (by omega)
        exact ⟨r, tl', nn', ad', wi', wj', wu'', i', R', le'', v1, v2, v3, v4, by rw [v5, f7 4 (by omega), n1 4 (by omega)], by rw [v6, f7 6 (by omega), n1 6 (by omega)]⟩
      · obtain ⟨I1, J1, g1, g2, g3, g4, g5, g6, g7⟩ := e_weighN N (w := d) (v := v) q2 j3 j4 i5 i6 (by omega) (by omega) (by omega)
        rw [g1, bd2_s]
        obtain ⟨I', i2, wu', le', many', f1, f2, f3, f4, f5, f6, f7, f8⟩ := e_seen N hN (I := I1) (i := i1) (J := J1) (j := j) hS (by rw [g7, hI]) (by rw [n1 24 (by omega), h24]) he hv bv
        rw [f1, bd3_s, nm_s, f2, bd2_s, if_neg (i_neq (b := -1) (by decide) (by omega))]
        unfold fX10_lasts_j113
        simp only [c1, nm_s]
        have key : ∀ lo' hi' fl' fm', lo' = (if v < lo then v else lo) → hi' = (if hi < v then v else hi) → fl' = (if v < lo then d else fl) → fm' = (if hi < v then d else fm) → ∃ (r : Int64) (tl' : Int32) (nn' : Nat → Int64) (ad' wi' : Nat → Int32) (wj' wu'' : Nat → Int64) (i' : Nat → Int32) (R' le'' : Nat → Int64), fX9_lasts_l43 N ks a b c n (zI (d + 1)) tl nn ad1 I' J1 wu' = some (r, tl', nn', ad', wi', wj', wu'') ∧ fX10_lasts_l44 N j S n (zI k1) (zI law) (zL lo') (zL hi') (zI fl') (zI fm') (zI (d + 1)) i2 R le' = some (r, i', R', le'') ∧ RelR tl' nn' i' R' ∧ AdW ad' ∧ i' 4 = i 4 ∧ i' 6 = i 6 := by
          intro lo' hi' fl' fm' t1 t2 t3 t4
          rw [← t1] at g3
          rw [← t2] at g4
          rw [← t3] at g5
          rw [← t4] at g6
          have k1' : (-1000000000000 ≤ lo' ∧ lo' ≤ 1000000000000) ∧ (0 ≤ fl' ∧ fl' ≤ 1000000) := by
            rw [t1, t3]; split <;> omega
          have k2' : (-1000000000000 ≤ hi' ∧ hi' ≤ 1000000000000) ∧ (0 ≤ fm' ∧ fm' ≤ 1000000) := by
            rw [t2, t4]; split <;> omega
          obtain ⟨r, tl', nn', ad', wi', wj', wu'', i', R', le'', v1, v2, v3, v4, v5, v6⟩ := ih many' (d + 1) lo' hi' fl' fm' ad1 i2 I' J1 wu' le' (hR1.cong (f7 8 (by omega))) A1 (Or.inr ⟨by rw [f6 2 (by omega), g2], g3, g4, by rw [f6 5 (by omega), g5], by rw [f6 6 (by omega), g6], k1'.2, k2'.2⟩) f4 f5 f3 (Or.inr (by omega)) k1'.1 k2'.1 (by omega) (by omega) (by omega)
          exact ⟨r, tl', nn', ad', wi', wj', wu'', i', R', le'', v1, v2, v3, v4, by rw [v5, f7 4 (by omega), n1 4 (by omega)], by rw [v6, f7 6 (by omega), n1 6 (by omega)]⟩
        by_cases c1 : v < lo
        · rw [if_neg (k_nge (by omega)), if_neg (i_neq (b := -1) (by decide) (by omega))]
          by_cases c2 : hi < v
          · rw [if_neg (k_nle (by omega))]
            exact key _ _ _ _ (by rw [if_pos c1]) (by rw [if_pos c2]) (by rw [if_pos c1]) (by rw [if_pos c2])
          · rw [if_pos (k_le (by omega))]
            exact key _ _ _ _ (by rw [if_pos c1]) (by rw [if_neg c2]) (by rw [if_pos c1]) (by rw [if_neg c2])
        · rw [if_pos (k_ge (by omega)), if_neg (i_neq (b := -1) (by decide) (by omega))]
          by_cases c2 : hi < v
          · rw [if_neg (k_nle (by omega))]
            exact key _ _ _ _ (by rw [if_neg c1]) (by rw [if_pos c2]) (by rw [if_neg c1]) (by rw [if_pos c2])
          · rw [if_pos (k_le (by omega))]
            exact key _ _ _ _ (by rw [if_neg c1]) (by rw [if_neg c2]) (by rw [if_neg c1]) (by rw [if_neg c2])
theorem p_lasts (N : Nat) (hN : 200000 ≤ N) (p1 : Int32) (p2 : Int32) {ks : Int32} {a : Nat → Int32} {b : Nat → Int32} {c : Nat → Int32} {tl : Int32} {nn : Nat → Int64} {ad : Nat → Int32} {wi : Nat → Int32} {wj : Nat → Int64} {wu : Nat → Int64} {i : Nat → Int32} {j : Nat → Int64} {S : Nat → Int32} {R : Nat → Int64} {le : Nat → Int64} {mm da se : Nat → Int} (hS : RelS mm da se a b c S) (hR : RelR tl nn i R) (had : AdW ad) : 
    ∃ (r : Int64) (tl' : Int32) (nn' : Nat → Int64) (ad' : Nat → Int32) (wi' : Nat → Int32) (wj' : Nat → Int64) (wu' : Nat → Int64) (i' : Nat → Int32) (R' : Nat → Int64) (le' : Nat → Int64), fX9_lasts N p1 p2 ks a b c tl nn ad wi wj wu = some (r, tl', nn', ad', wi', wj', wu') ∧ fX10_lasts N p1 p2 i j S R le = some (r, i', R', le') ∧ RelR tl' nn' i' R' ∧ AdW ad' ∧ i' 4 = i 4 ∧ i' 6 = i 6 := by
  obtain ⟨z1, l1, v1, rfl⟩ := zI_of p1
  obtain ⟨z2, l2, v2, rfl⟩ := zI_of p2
  by_cases q0 : 0 ≤ z1 ∧ z1 ≤ 7
  case neg =>
    refine ⟨(-1 : Int64), tl, nn, ad, wi, wj, wu, upd i 9 (zI 0), R, le, ?_, ?_, hR.f9, had, upd_n (by omega), upd_n (by omega)⟩
    · unfold fX9_lasts
      rw [c_slot0 N l1 v1 q0, bd1_s, if_pos z00]
    · unfold fX10_lasts
      rw [m_slot0 N l1 v1 q0, bd1_s, if_pos z00]
      rfl
  by_cases q1 : 0 ≤ z2 ∧ z2 ≤ 3
  case neg =>
    refine ⟨(-1 : Int64), tl, nn, ad, wi, wj, wu, upd i 9 (zI 0), R, le, ?_, ?_, hR.f9, had, upd_n (by omega), upd_n (by omega)⟩
    · unfold fX9_lasts
      rw [c_slot1 N q0, bd1_s, if_neg z10]
      rw [c_law0 N l2 v2 q1, bd1_s, if_pos z00]
    · unfold fX10_lasts
      rw [m_slot1 N q0, bd1_s, if_neg z10]
      rw [m_law0 N l2 v2 q1, bd1_s, if_pos z00]
      rfl
  unfold fX9_lasts fX10_lasts
  rw [c_slot1 N q0, bd1_s, if_neg z10]
  rw [c_law1 N q1, bd1_s, if_neg z10]
  rw [m_slot1 N q0, bd1_s, if_neg z10]
  rw [m_law1 N q1, bd1_s, if_neg z10]
  obtain ⟨k1, hk1, rfl⟩ := slot_of q0
  obtain ⟨s1, s2, s3, s4, s5, s6, s7⟩ := hS k1 hk1
  have cl : fX8_clear N wi wj = some (upd (upd wi 1 (zI 0)) 2 (zI 1)) := by
    unfold fX8_clear
    rw [zl_0, zl_1]
  rw [e_takesO N ad a b c hk1 s1 s2 s3 s7, bd2_s, cl, bd1_s]
  obtain ⟨r, tl', nn', ad', wi', wj', wu', i', R', le', v1, v2, v3, v4, v5, v6⟩ := l_lasts N hN (ks := ks) (a := a) (b := b) (c := c) (tl := tl) (nn := nn) (j := j) (R := R) hk1 s4 s5 s6 s7 q1 N 0 730119 0 0 (-1) (-1) (adT ad (mm k1) (da k1) (se k1) z2) (upd (upd i 9 (0 : Int32)) 24 (0 : Int32)) (upd (upd wi 1 (zI 0)) 2 (zI 1)) wj wu le (hR.cong (by simp (disch := omega) only [upd_n])) (had.adT _ _ _ _) (Or.inl ⟨upd_s, rfl, rfl⟩) (by simp (disch := omega) only [upd_n, upd_s]; rfl) (by rw [upd_s]; rfl) ⟨by omega, fun _ => 0, fun k hk => by omega, fun k l _ hl => by omega⟩ (Or.inl rfl) (by omega) (by omega) (by omega) (by omega) (by omega)
  rw [← zl_730119] at v1
  rw [← zl_730119, ← zll_0, ← zl_m1] at v2
  exact ⟨r, tl', nn', ad', wi', wj', wu', i', R', le', v1, v2, v3, v4, by rw [v5]; simp (disch := omega) only [upd_n], by rw [v6]; simp (disch := omega) only [upd_n]⟩
