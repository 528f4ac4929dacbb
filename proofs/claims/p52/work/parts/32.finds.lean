/-! the most months: both searches come to the same -/
def sp_way (x t G : Int) : Int := if G < x * 86400 + t then -1 else 1
def sp_ap (x G : Int) : Nat := (sp_mi (G / 86400) - sp_mi x).natAbs
def sp_mm (st : Nat) (law x t G : Int) : Int := sp_way x t G * (sp_fm st (sp_way x t G) law x t G (sp_ap x G + 1) : Int)
theorem way_01 (x t G : Int) : sp_way x t G = 1 ∨ sp_way x t G = -1 := by
  unfold sp_way; split
  · exact Or.inr rfl
  · exact Or.inl rfl
theorem mi_mono {x y : Int} (h1 : 0 ≤ x) (h2 : x ≤ y) (h3 : y ≤ 3652058) : sp_mi x ≤ sp_mi y := by
  obtain ⟨a1, a2, a3, a4, a5⟩ := mi_all h1 (by omega : x ≤ 3652058)
  obtain ⟨b1, b2, b3, b4, b5⟩ := mi_all (by omega : 0 ≤ y) h3
  have f := first_step (sp_mi y)
  apply Int.not_lt.mp
  intro h
  have := first_le (a := sp_mi y + 1) (b := sp_mi x) (by omega)
  omega
theorem addM_in {m law x y sh : Int} (h1 : 0 ≤ x ∧ x ≤ 3652058) (h : sp_addM m law x = some (y, sh)) : sp_first (sp_mi x + m) ≤ y ∧ y ≤ sp_first (sp_mi x + m) + 30 := by
  obtain ⟨a1, a2, a3, a4, a5⟩ := mi_all h1.1 h1.2
  have b2 := gl_b (sp_mi x)
  unfold sp_addM at h
  split at h
  · rename_i h0
    injection h with h; injection h with h3 h4; subst h3; subst h0
    rw [Int.add_zero]
    omega
  · split at h
    · exact absurd h (by simp)
    · split at h
      · exact absurd h (by simp)
      · split at h
        · injection h with h; injection h with h3 h4; subst h3
          have b1 := gl_b (sp_mi x + m)
          unfold sp_dd
          split <;> omega
        · exact absurd h (by simp)
theorem ap_b {x G : Int} (hx : 0 ≤ x ∧ x ≤ 3652058) (hG : 0 ≤ G ∧ G ≤ 315537897599) : sp_ap x G ≤ 119987 := by
  obtain ⟨a1, -⟩ := mi_all hx.1 hx.2
  obtain ⟨b1, -⟩ := mi_all (x := G / 86400) (by omega) (by omega)
  unfold sp_ap
  omega
theorem ap_way {x t G : Int} (hx : 0 ≤ x ∧ x ≤ 3652058) (ht : 0 ≤ t ∧ t ≤ 86399) (hG : 0 ≤ G ∧ G ≤ 315537897599) : sp_mi (G / 86400) - sp_mi x = sp_way x t G * (sp_ap x G : Int) := by
  unfold sp_way sp_ap
  split
  · have := mi_mono (x := G / 86400) (y := x) (by omega) (by omega) hx.2
    omega
  · have := mi_mono (x := x) (y := G / 86400) (by omega) (by omega) (by omega)
    omega
theorem ok_far {law x t G : Int} (hx : 0 ≤ x ∧ x ≤ 3652058) (ht : 0 ≤ t ∧ t ≤ 86399) (hG : 0 ≤ G ∧ G ≤ 315537897599) {q : Int} (hq : (sp_ap x G : Int) + 2 ≤ q) : sp_okB (sp_way x t G) law x t G q = false := by
  obtain ⟨b1, b2, b3, b4, b5⟩ := mi_all (x := G / 86400) (by omega) (by omega)
  have ha := ap_way hx ht hG
  unfold sp_okB
  cases e : sp_addM (sp_way x t G * q) law x with
  | none => rfl
  | some p =>
    have k := addM_in hx (show sp_addM (sp_way x t G * q) law x = some (p.1, p.2) from e)
    refine decide_eq_false ?_
    have f := first_step (sp_mi (G / 86400))
    by_cases hw : G < x * 86400 + t
    · have ew : sp_way x t G = -1 := if_pos hw
      rw [ew] at ha k ⊢
      have := first_le (a := sp_mi x + -1 * q) (b := sp_mi (G / 86400)) (by omega)
      omega
    · have ew : sp_way x t G = 1 := if_neg hw
      rw [ew] at ha k ⊢
      have := first_le (a := sp_mi (G / 86400) + 1) (b := sp_mi x + 1 * q) (by omega)
      omega
theorem e_most (N : Nat) (hN : 200000 ≤ N) {ks : Int32} {x t G law wy : Int} {st : Nat} {ad : Nat → Int32} (had : AdW ad) (hx : 0 ≤ x ∧ x ≤ 3652058) (ht : 0 ≤ t ∧ t ≤ 86399) (hG : 0 ≤ G ∧ G ≤ 315537897599) (hl : 0 ≤ law ∧ law ≤ 3) (hst : (wy = 0 ∧ st = 1) ∨ (wy = 1 ∧ st = 12)) :
    ∃ ad', fX9_mostMonths N (zI x) (zI t) (zL G) (zI law) (zI wy) ks ad = some (zI (sp_mm st law x t G), ad') ∧ AdW ad' := by
  have hb := ap_b hx hG
  obtain ⟨ad', e1, A1⟩ := e_l46 N (ks := ks) (law := law) hx ht hG hl (way_01 x t G) hst N (sp_ap x G + 1) ad had (by omega) (by omega)
  refine ⟨ad', ?_, A1⟩
  have m1 : fX1_monthOf N (zI x) = some (zI (sp_mi x)) := e_monthOf N hx.1 hx.2
  have m2 : fX1_monthOf N (zI (G / 86400)) = some (zI (sp_mi (G / 86400))) := e_monthOf N (by omega) (by omega)
  obtain ⟨a1, -⟩ := mi_all hx.1 hx.2
  obtain ⟨b1, -⟩ := mi_all (x := G / 86400) (by omega) (by omega)
  have j15 : fX9_mostMonths_j15 N ks (zI x) (zI t) (zL G) (zI law) (zI wy) (zI (sp_way x t G)) ad = some (zI (sp_mm st law x t G), ad') := by
    unfold fX9_mostMonths_j15
    have eA : (if (0 : Int32) ≤ zI (sp_mi (G / 86400) - sp_mi x) then zI (sp_mi (G / 86400) - sp_mi x) else 0 - zI (sp_mi (G / 86400) - sp_mi x)) = zI (sp_ap x G : Int) := by
      unfold sp_ap
      by_cases h : 0 ≤ sp_mi (G / 86400) - sp_mi x
      · rw [if_pos (i_ge' (b := 0) (by decide) (by omega))]; congr 1; omega
      · rw [if_neg (i_nge' (b := 0) (by decide) (by omega)), zl_0, zI_sub]; congr 1; omega
    have e1' : zI (sp_ap x G : Int) + (1 : Int32) = zI ((sp_ap x G + 1 : Nat) : Int) := by rw [zl_1, zI_add]; rfl
    rw [zll_86400, zL_div (by omega) (by omega) (by omega) (by omega), zL_toI, m2, bd1_s, m1, bd1_s, zI_sub, eA, nm_s, e1', nm_s, e1]
    rfl
  unfold fX9_mostMonths
  rw [e_instantOf N (by omega) (by omega), bd1_s]
  by_cases hw : G < x * 86400 + t
  · have ew : sp_way x t G = -1 := if_pos hw
    rw [if_neg (k_nge (by omega))]
    rw [ew, ← zl_m1] at j15
    exact j15
  · have ew : sp_way x t G = 1 := if_neg hw
    rw [if_pos (k_ge (by omega))]
    rw [ew, ← zl_1] at j15
    exact j15
theorem mm_b {st : Nat} {law x t G : Int} (hx : 0 ≤ x ∧ x ≤ 3652058) (hG : 0 ≤ G ∧ G ≤ 315537897599) : -119988 ≤ sp_mm st law x t G ∧ sp_mm st law x t G ≤ 119988 := by
  have a := ap_b hx hG
  have b := fm_le st (sp_way x t G) law x t G (sp_ap x G + 1)
  unfold sp_mm
  rcases way_01 x t G with e | e <;> rw [e] at b ⊢ <;> omega

