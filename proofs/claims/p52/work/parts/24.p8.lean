/-! leaps -/
/-! shifts -/
