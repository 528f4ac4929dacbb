/-! what is in use -/
def sp_um (u : Nat → Bool) : Nat → Int32
  | 0 => 0
  | k + 1 => if u k = true then sp_um u k ||| ((1 : Int32) <<< (zI k &&& 31)) else sp_um u k
theorem um_s (u : Nat → Bool) (k : Nat) : sp_um u (k + 1) = if u k = true then sp_um u k ||| ((1 : Int32) <<< (zI k &&& 31)) else sp_um u k := rfl
def sp_uM (dd ss : Nat → Int) (k : Nat) : Bool := decide (dd k ≠ 0 ∨ ss k ≠ 0)
def sp_uS (mm da se : Nat → Int) (k : Nat) : Bool := decide (mm k ≠ 0 ∨ da k ≠ 0 ∨ se k ≠ 0)
theorem or_0 (x : Int32) : x ||| (0 : Int32) = x := Int32.or_zero
/-! the text -/
def sp_byte (c : Int) : Int := if c < 128 then c else c - 256
def RelT (ti : Int32) (ts i T : Nat → Int32) : Prop := ∃ (n : Nat) (c : Nat → Int), n ≤ 100 ∧ ti = zI n ∧ i 6 = zI n ∧ ∀ k, k < n → ts k = zI (c k) ∧ T k = zI (sp_byte (c k)) ∧ 0 ≤ c k ∧ c k ≤ 255
def RelC (ci : Int32) : Prop := ∃ n : Nat, n ≤ 100 ∧ ci = zI n
theorem RelT.cong {ti : Int32} {ts i i2 T : Nat → Int32} (h : RelT ti ts i T) (e : i2 6 = i 6) : RelT ti ts i2 T := by
  obtain ⟨n, c, h1, h2, h3, h4⟩ := h
  exact ⟨n, c, h1, h2, by rw [e, h3], h4⟩
/-! end, sign -/
