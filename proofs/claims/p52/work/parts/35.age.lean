/-! age -/
theorem okB_1 {x z n : Int} {p : Int × Int} (e : sp_addM (1 * n) 0 x = some p) : sp_okB 1 0 x 0 (z * 86400) n = decide (p.1 ≤ z) := by
  unfold sp_okB
  rw [e]
  show decide _ = decide _
  rw [decide_eq_decide]
  omega
theorem age_top {x z : Int} (hx : 0 ≤ x ∧ x ≤ 3652058) (hz : 0 ≤ z ∧ z ≤ 3652058) (Y0 : Nat) (hY : (Y0 : Int) = if 0 < sp_Y z - sp_Y x + 1 then sp_Y z - sp_Y x + 1 else 0) : (sp_fm 12 1 0 x 0 (z * 86400) (12 * Y0) : Int) = if z < x then 0 else sp_mm 12 0 x 0 (z * 86400) := by
  obtain ⟨g4, g5, g6, g7⟩ := sp_all hx.1 hx.2
  obtain ⟨g4', g5', g6', g7'⟩ := sp_all hz.1 hz.2
  have m1 : sp_mi x = 12 * sp_Y x + sp_M x - 1 := rfl
  have m2 : sp_mi z = 12 * sp_Y z + sp_M z - 1 := rfl
  have eZ : z * 86400 / 86400 = z := by omega
  by_cases h : z < x
  · have hm := mi_mono hz.1 (by omega : z ≤ x) hx.2
    rw [if_pos h]
    have f := fm_top (st := 12) (way := 1) (law := 0) (x := x) (t := 0) (G := z * 86400) (a := 0) (12 * Y0) (fun q h1 h2 => by
      cases e : sp_addM (1 * (q : Int)) 0 x with
      | none => unfold sp_okB; rw [e]
      | some p =>
        rw [okB_1 e]
        refine decide_eq_false ?_
        have k := addM_in hx (show sp_addM (1 * (q : Int)) 0 x = some (p.1, p.2) from e)
        obtain ⟨a1, a2, a3, a4, a5⟩ := mi_all hx.1 hx.2
        have fs := first_step (sp_mi x)
        have := first_le (a := sp_mi x + 1) (b := sp_mi x + 1 * (q : Int)) (by omega)
        omega)
    rw [Nat.zero_add] at f
    rw [f]
    rfl
  · have hm := mi_mono hx.1 (by omega : x ≤ z) hz.2
    have hap : sp_ap x (z * 86400) = (sp_mi z - sp_mi x).natAbs := by unfold sp_ap; rw [eZ]
    have ew : sp_way x 0 (z * 86400) = 1 := if_neg (by omega)
    rw [if_neg h]
    rw [if_pos (by omega)] at hY
    unfold sp_mm
    rw [ew, Int.one_mul]
    have f := fm_top (st := 12) (way := 1) (law := 0) (x := x) (t := 0) (G := z * 86400) (a := sp_ap x (z * 86400) + 1) (12 * Y0 - (sp_ap x (z * 86400) + 1)) (fun q h1 h2 => by
      have := ok_far (law := 0) (t := 0) hx (by omega) (show 0 ≤ z * 86400 ∧ z * 86400 ≤ 315537897599 by omega) (q := (q : Int)) (by omega)
      rw [ew] at this
      exact this)
    rw [show sp_ap x (z * 86400) + 1 + (12 * Y0 - (sp_ap x (z * 86400) + 1)) = 12 * Y0 by omega] at f
    rw [f]
