/-! a library name beyond the narrow imports, met at once -/
theorem wd_b64 : FP.Core.b64 = FP.Core.b64 := rfl
