/-! sorts -/
theorem ag8 {key : Nat → Int} {nn R : Nat → Int64} (h1 : ∀ y, y < 8 → nn (sp_rk key y) = zL y) (h2 : ∀ y, y < 8 → R (sp_rk key y) = zL y) : Ag 8 nn R := by
  intro k hk
  obtain ⟨x, hx, rfl⟩ := rk_sur key hk
  rw [h1 x hx, h2 x hx]
