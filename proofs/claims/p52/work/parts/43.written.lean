/-! pages -/
theorem wb_tab : (List.range 128).all (fun k => decide (vp_nar .byte ((zI (k : Int)).toInt8.toInt32) = zI (k : Int))) = true := by decide +kernel
theorem wb_v {v : Int} (h : 0 ≤ v ∧ v ≤ 127) : vp_nar .byte ((zI v).toInt8.toInt32) = zI v := by
  have e := of_decide_eq_true (List.all_eq_true.mp wb_tab v.toNat (List.mem_range.mpr (by omega)))
  rw [show ((v.toNat : Nat) : Int) = v by omega] at e
  exact e
def PR (n : Nat) (ci : Int32) (cs i pg : Nat → Int32) : Prop := n ≤ 100 ∧ ci = zI (n : Int) ∧ i 28 = zI (n : Int) ∧ ∀ k, k < n → cs k = pg k
def FP (i i' : Nat → Int32) : Prop := ∀ k, k ≠ 28 → i' k = i k
theorem FP.tr {i i1 i2 : Nat → Int32} (h : FP i i1) (h2 : FP i1 i2) : FP i i2 := fun k hk => (h2 k hk).trans (h k hk)
theorem w_begin (N : Nat) {ci : Int32} (cs i pg : Nat → Int32) (hC : RelC ci) (h : i 28 = (0 : Int32)) : ∃ ci', fX6_cut N (0 : Int32) ci = some ci' ∧ PR 0 ci' cs i pg := by
  obtain ⟨n, hn, rfl⟩ := hC
  refine ⟨zI ((0 : Nat) : Int), ?_, by omega, rfl, h, fun k hk => by omega⟩
  unfold fX6_cut
  rw [if_neg (show ¬ ((0 : Int32) < (0 : Int32)) by decide), if_neg (i_nlt (b := 0) (by decide) (by omega))]; rfl
theorem PR.c {n : Nat} {ci : Int32} {cs i pg : Nat → Int32} (h : PR n ci cs i pg) : RelC ci := ⟨n, h.1, h.2.1⟩
