theorem nm_t {α β : Type} {x : α} {k : α → β} : nm x k = k x := Eq.trans (Eq.refl (nm x k)) nm_s
theorem bd1_t {a ρ : Type} {x : a} {k : a → Option ρ} : bd1 (some x) k = k x := Eq.trans (Eq.refl _) bd1_s
theorem bd2_t {a b ρ : Type} {x : a} {y : b} {k : a → b → Option ρ} : bd2 (some (x, y)) k = k x y := Eq.trans (Eq.refl _) bd2_s
theorem bd3_t {a b c ρ : Type} {x : a} {y : b} {z : c} {k : a → b → c → Option ρ} : bd3 (some (x, y, z)) k = k x y z := Eq.trans (Eq.refl _) bd3_s
theorem bd4_t {a b c d ρ : Type} {x : a} {y : b} {z : c} {w : d} {k : a → b → c → d → Option ρ} : bd4 (some (x, y, z, w)) k = k x y z w := Eq.trans (Eq.refl _) bd4_s
theorem bd5_t {a b c d e ρ : Type} {x : a} {y : b} {z : c} {w : d} {u : e} {k : a → b → c → d → e → Option ρ} : bd5 (some (x, y, z, w, u)) k = k x y z w u := Eq.trans (Eq.refl _) bd5_s
theorem bd6_t {a b c d e f ρ : Type} {x : a} {y : b} {z : c} {w : d} {u : e} {v : f} {k : a → b → c → d → e → f → Option ρ} : bd6 (some (x, y, z, w, u, v)) k = k x y z w u v := Eq.trans (Eq.refl _) bd6_s
/-! long numbers compared -/
theorem k_lt {a b : Int} (h : -4611686018427387904 ≤ a ∧ a ≤ 4611686018427387904 ∧ -4611686018427387904 ≤ b ∧ b ≤ 4611686018427387904 ∧ a < b) : lg_cmp (zL a) (zL b) < (0 : Int32) := by
  rw [zl_0, cz_lt, zL_lt (by omega) (by omega) (by omega) (by omega)]; omega
theorem k_nlt {a b : Int} (h : -4611686018427387904 ≤ a ∧ a ≤ 4611686018427387904 ∧ -4611686018427387904 ≤ b ∧ b ≤ 4611686018427387904 ∧ b ≤ a) : ¬ (lg_cmp (zL a) (zL b) < (0 : Int32)) := by
  rw [zl_0, cz_lt, zL_lt (by omega) (by omega) (by omega) (by omega)]; omega
theorem k_le {a b : Int} (h : -4611686018427387904 ≤ a ∧ a ≤ 4611686018427387904 ∧ -4611686018427387904 ≤ b ∧ b ≤ 4611686018427387904 ∧ a ≤ b) : lg_cmp (zL a) (zL b) ≤ (0 : Int32) := by
  rw [zl_0, cz_le, zL_le (by omega) (by omega) (by omega) (by omega)]; omega
theorem k_nle {a b : Int} (h : -4611686018427387904 ≤ a ∧ a ≤ 4611686018427387904 ∧ -4611686018427387904 ≤ b ∧ b ≤ 4611686018427387904 ∧ b < a) : ¬ (lg_cmp (zL a) (zL b) ≤ (0 : Int32)) := by
  rw [zl_0, cz_le, zL_le (by omega) (by omega) (by omega) (by omega)]; omega
theorem k_ge {a b : Int} (h : -4611686018427387904 ≤ a ∧ a ≤ 4611686018427387904 ∧ -4611686018427387904 ≤ b ∧ b ≤ 4611686018427387904 ∧ b ≤ a) : (0 : Int32) ≤ lg_cmp (zL a) (zL b) := by
  rw [zl_0, cz_ge, zL_le (by omega) (by omega) (by omega) (by omega)]; omega
theorem k_nge {a b : Int} (h : -4611686018427387904 ≤ a ∧ a ≤ 4611686018427387904 ∧ -4611686018427387904 ≤ b ∧ b ≤ 4611686018427387904 ∧ a < b) : ¬ ((0 : Int32) ≤ lg_cmp (zL a) (zL b)) := by
  rw [zl_0, cz_ge, zL_le (by omega) (by omega) (by omega) (by omega)]; omega
theorem k_eq {a b : Int} (h : a = b) : lg_cmp (zL a) (zL b) = (0 : Int32) := by
  rw [zl_0, cz_eq, h]
theorem k_neq {a b : Int} (h : -4611686018427387904 ≤ a ∧ a ≤ 4611686018427387904 ∧ -4611686018427387904 ≤ b ∧ b ≤ 4611686018427387904 ∧ a ≠ b) : ¬ (lg_cmp (zL a) (zL b) = (0 : Int32)) := by
  rw [zl_0, cz_eq, zL_eq (by omega) (by omega) (by omega) (by omega)]; omega
/-! a span so many times, at once -/
/-! next -/
/-! falls -/
theorem i_ge' {a b : Int} {B : Int32} (e : B = zI b) (h : -2147483648 ≤ a ∧ a ≤ 2147483647 ∧ -2147483648 ≤ b ∧ b ≤ 2147483647 ∧ b ≤ a) : B ≤ zI a := by
  subst e; rw [zI_le (by omega) (by omega) (by omega) (by omega)]; omega
theorem i_nge' {a b : Int} {B : Int32} (e : B = zI b) (h : -2147483648 ≤ a ∧ a ≤ 2147483647 ∧ -2147483648 ≤ b ∧ b ≤ 2147483647 ∧ a < b) : ¬ (B ≤ zI a) := by
  subst e; rw [zI_le (by omega) (by omega) (by omega) (by omega)]; omega

