/-! doubles by their fields -/
def nd (E T : Nat) : UInt64 := UInt64.ofNat (E * 2 ^ 52 + T)
theorem nd_nat {E T : Nat} (hE : E ≤ 2047) (hT : T < 2 ^ 52) : (nd E T).toNat = E * 2 ^ 52 + T := by
  unfold nd
  rw [UInt64.toNat_ofNat']
  exact Nat.mod_eq_of_lt (by omega)
theorem nd_val {E T : Nat} (h1 : 1 ≤ E) (hE : E ≤ 2046) (hT : T < 2 ^ 52) : FP.Core.val64 (nd E T) = .fin false (2 ^ 52 + T) ((E : Int) - 1075) := by
  have e1 : FP.Core.assemble FP.Core.b64 false E T = E * 2 ^ 52 + T := by
    show (0 * 2 ^ 11 + E) * 2 ^ 52 + T = E * 2 ^ 52 + T
    omega
  have e2 : FP.Core.b64.exps = 2048 := by decide +kernel
  have e3 : FP.Core.b64.tails = 2 ^ 52 := by decide +kernel
  have e4 : FP.Core.b64.qmin = -1074 := by decide +kernel
  have D := FP.Core.decode_assemble FP.Core.b64 false E T (by rw [e2]; omega) (by rw [e3]; exact hT)
  unfold FP.Core.val64
  rw [nd_nat (by omega) hT, ← e1, D, e2, e3, e4, if_neg (by omega), if_neg (by omega)]
  congr 1
  omega
theorem nd_fits {E T : Nat} (h1 : 1 ≤ E) (hE : E ≤ 2046) (hT : T < 2 ^ 52) (s : Bool) : FP.Core.fits FP.Core.b64 (.fin s (2 ^ 52 + T) ((E : Int) - 1075)) := by
  have e3 : FP.Core.b64.tails = 2 ^ 52 := by decide +kernel
  have e4 : FP.Core.b64.qmin = -1074 := by decide +kernel
  have e5 : FP.Core.b64.qmax = 971 := by decide +kernel
  refine ⟨?_, by rw [e4]; omega, by rw [e5]; omega, Or.inr (by rw [e3]; omega)⟩
  show 2 ^ 52 + T < 2 ^ 53
  omega
theorem nd_fin {E T : Nat} (h1 : 1 ≤ E) (hE : E ≤ 2046) (hT : T < 2 ^ 52) : FP.Core.DFin (nd E T) := ⟨_, _, _, nd_val h1 hE hT⟩
theorem nd_nn {E T : Nat} (h1 : 1 ≤ E) (hE : E ≤ 2046) (hT : T < 2 ^ 52) : FP.Core.val64 (nd E T) ≠ .nan := by
  rw [nd_val h1 hE hT]
  exact fun h => nomatch h
theorem two_val : FP.Core.val64 (4611686018427387904 : UInt64) = .fin false (2 ^ 52) (-51) := by decide +kernel
theorem nd_half {E T : Nat} (h1 : 2 ≤ E) (hE : E ≤ 2046) (hT : T < 2 ^ 52) : FP.ddiv (nd E T) (4611686018427387904 : UInt64) = nd (E - 1) T := by
  have v : FP.Core.val64 (FP.Core.ddiv (nd E T) (4611686018427387904 : UInt64)) = FP.Core.val64 (nd (E - 1) T) := by
    rw [FP.Core.val64_ddiv, nd_val (by omega) hE hT, two_val, nd_val (by omega) (by omega) hT]
    unfold FP.Core.quotient
    dsimp only
    rw [if_neg (by decide)]
    refine FP.Core.roundRatio_exact FP.Core.good_b64 (by decide) (nd_fits (by omega) (by omega) hT _) ?_
    rw [show ((E : Int) - 1075 - -51 - (((E - 1 : Nat) : Int) - 1075)).toNat = 52 by omega, show ((((E - 1 : Nat) : Int) - 1075) - ((E : Int) - 1075 - -51)).toNat = 0 by omega]
    omega
  exact FP.Core.val64_inj (by rw [v]; exact nd_nn (by omega) (by omega) hT) v
theorem nd_dbl {E T : Nat} (h1 : 1 ≤ E) (hE : E ≤ 2045) (hT : T < 2 ^ 52) : FP.dmul (nd E T) (4611686018427387904 : UInt64) = nd (E + 1) T := by
  have v : FP.Core.val64 (FP.Core.dmul (nd E T) (4611686018427387904 : UInt64)) = FP.Core.val64 (nd (E + 1) T) := by
    rw [FP.Core.val64_dmul, nd_val (by omega) (by omega) hT, two_val, nd_val (by omega) (by omega) hT]
    unfold FP.Core.exactProduct FP.Core.round
    dsimp only
    refine FP.Core.roundRatio_exact FP.Core.good_b64 (by decide) (nd_fits (by omega) (by omega) hT _) ?_
    rw [show ((E : Int) - 1075 + -51 - (((E + 1 : Nat) : Int) - 1075)).toNat = 0 by omega, show ((((E + 1 : Nat) : Int) - 1075) - ((E : Int) - 1075 + -51)).toNat = 52 by omega]
    omega
  exact FP.Core.val64_inj (by rw [v]; exact nd_nn (by omega) (by omega) hT) v
theorem nd_key {E T : Nat} (hE : E ≤ 2046) (hT : T < 2 ^ 52) : FP.Core.dkey (nd E T) = ((E * 2 ^ 52 + T : Nat) : Int) := by
  unfold FP.Core.dkey
  rw [nd_nat (by omega) hT, if_neg (by omega)]
theorem nd_cmp {E T E2 T2 : Nat} (h1 : 1 ≤ E) (hE : E ≤ 2046) (hT : T < 2 ^ 52) (h2 : 1 ≤ E2) (hE2 : E2 ≤ 2046) (hT2 : T2 < 2 ^ 52) : FP.dcmp (nd E T) (nd E2 T2) = some (compare ((E * 2 ^ 52 + T : Nat) : Int) ((E2 * 2 ^ 52 + T2 : Nat) : Int)) := by
  have q := FP.Core.dcmp_key (nd_nn h1 hE hT) (nd_nn h2 hE2 hT2)
  rw [nd_key hE hT, nd_key hE2 hT2] at q
  exact q
theorem nd_two : (4611686018427387904 : UInt64) = nd 1024 0 := by decide +kernel
theorem nd_one : FP.dconst1 = nd 1023 0 := by decide +kernel
theorem lt_two {E T : Nat} (h1 : 1 ≤ E) (hE : E ≤ 2046) (hT : T < 2 ^ 52) : Op.cmpValue (FP.dcmp (nd E T) (4611686018427387904 : UInt64)) .l < (0 : Int32) ↔ E < 1024 := by
  rw [nd_two, nd_cmp h1 hE hT (by omega) (by omega) (by omega), FP.Core.compare_ite]
  by_cases h : E < 1024
  · rw [if_pos (by omega)]
    exact ⟨fun _ => h, fun _ => by decide⟩
  · rw [if_neg (by omega)]
    by_cases h2 : ((E * 2 ^ 52 + T : Nat) : Int) = ((1024 * 2 ^ 52 + 0 : Nat) : Int)
    · rw [if_pos h2]
      exact ⟨fun q => absurd q (by decide), fun q => absurd q h⟩
    · rw [if_neg h2]
      exact ⟨fun q => absurd q (by decide), fun q => absurd q h⟩
theorem ge_one {E T : Nat} (h1 : 1 ≤ E) (hE : E ≤ 2046) (hT : T < 2 ^ 52) : (0 : Int32) ≤ Op.cmpValue (FP.dcmp (nd E T) FP.dconst1) .g ↔ 1023 ≤ E := by
  rw [nd_one, nd_cmp h1 hE hT (by omega) (by omega) (by omega), FP.Core.compare_ite]
  by_cases h : 1023 ≤ E
  · rw [if_neg (by omega)]
    by_cases h2 : ((E * 2 ^ 52 + T : Nat) : Int) = ((1023 * 2 ^ 52 + 0 : Nat) : Int)
    · rw [if_pos h2]
      exact ⟨fun _ => h, fun _ => by decide⟩
    · rw [if_neg h2]
      exact ⟨fun _ => h, fun _ => by decide⟩
  · rw [if_pos (by omega)]
    exact ⟨fun q => absurd q (by decide), fun q => absurd q h⟩
/-! power and fraction -/
theorem b_pow42 (N : Nat) {T : Nat} (hT : T < 2 ^ 52) : ∀ (r E n : Nat) (v4 : Int) (v5 : Nat), E + r = 1023 → 1 ≤ E → r < n → v5 + r ≤ 1099 → fX9_powerOf_l42 N n (nd E T) (zI v4) (zI (v5 : Int)) = some (zI (v4 - r)) := by
  intro r
  induction r with
  | zero =>
    intro E n v4 v5 hE h1 hn hv
    obtain ⟨n, rfl⟩ : ∃ m, n = m + 1 := ⟨n - 1, by omega⟩
    rw [fX9_powerOf_l42_s, if_neg (i_nge' (b := 1100) (by decide) (by omega)), if_pos ((ge_one h1 (by omega) hT).mpr (by omega)), show v4 - ((0 : Nat) : Int) = v4 by omega]
  | succ r ih =>
    intro E n v4 v5 hE h1 hn hv
    obtain ⟨n, rfl⟩ : ∃ m, n = m + 1 := ⟨n - 1, by omega⟩
    have e1 : zI v4 + (-1 : Int32) = zI (v4 - 1) := by rw [zl_m1, zI_add]; rfl
    have e2 : zI (v5 : Int) + (1 : Int32) = zI ((v5 + 1 : Nat) : Int) := by rw [zl_1, zI_add]; rfl
    rw [fX9_powerOf_l42_s, if_neg (i_nge' (b := 1100) (by decide) (by omega)), if_neg (fun h => absurd ((ge_one h1 (by omega) hT).mp h) (by omega)), nd_dbl h1 (by omega) hT, g64_fin (nd_fin (by omega) (by omega) hT), nm_s, nm_s, nm_s, e1, e2, ih (E + 1) n (v4 - 1) (v5 + 1) (by omega) (by omega) (by omega) (by omega)]
    congr 2
    omega
theorem b_pow8 (N : Nat) (hN : 2000 ≤ N) {T : Nat} (hT : T < 2 ^ 52) : ∀ (r E n : Nat) (v4 : Int) (v5 : Nat), E = 1023 + r → E ≤ 2046 → r < n → v5 + r ≤ 1099 → fX9_powerOf_l8 N n (nd E T) (zI v4) (zI (v5 : Int)) = some (zI (v4 + r)) := by
  intro r
  induction r with
  | zero =>
    intro E n v4 v5 hE h1 hn hv
    obtain ⟨n, rfl⟩ : ∃ m, n = m + 1 := ⟨n - 1, by omega⟩
    rw [fX9_powerOf_l8_s, if_neg (i_nge' (b := 1100) (by decide) (by omega)), if_pos ((lt_two (by omega) (by omega) hT).mpr (by omega))]
    exact (b_pow42 N hT 0 E N v4 0 (by omega) (by omega) (by omega) (by omega)).trans (by congr 2)
  | succ r ih =>
    intro E n v4 v5 hE h1 hn hv
    obtain ⟨n, rfl⟩ : ∃ m, n = m + 1 := ⟨n - 1, by omega⟩
    have e1 : zI v4 + (1 : Int32) = zI (v4 + 1) := by rw [zl_1, zI_add]
    have e2 : zI (v5 : Int) + (1 : Int32) = zI ((v5 + 1 : Nat) : Int) := by rw [zl_1, zI_add]; rfl
    rw [fX9_powerOf_l8_s, if_neg (i_nge' (b := 1100) (by decide) (by omega)), if_neg (fun h => absurd ((lt_two (by omega) (by omega) hT).mp h) (by omega)), nd_half (by omega) (by omega) hT, g64_fin (nd_fin (by omega) (by omega) hT), nm_s, nm_s, nm_s, e1, e2, ih (E - 1) n (v4 + 1) (v5 + 1) (by omega) (by omega) (by omega) (by omega)]
    congr 2
    omega
theorem b_pow (N : Nat) (hN : 2000 ≤ N) {E T : Nat} (h1 : 1 ≤ E) (hE : E ≤ 2046) (hT : T < 2 ^ 52) : fX9_powerOf N (nd E T) = some (zI ((E : Int) - 1023)) := by
  unfold fX9_powerOf
  by_cases h : 1023 ≤ E
  · have q := b_pow8 N hN hT (E - 1023) E N 0 0 (by omega) hE (by omega) (by omega)
    rw [show (0 : Int) + ((E - 1023 : Nat) : Int) = (E : Int) - 1023 by omega] at q
    exact q
  · obtain ⟨m, rfl⟩ : ∃ m, N = m + 1 := ⟨N - 1, by omega⟩
    rw [fX9_powerOf_l8_s, if_neg (by decide), if_pos ((lt_two h1 hE hT).mpr (by omega))]
    have q := b_pow42 (m + 1) hT (1023 - E) E (m + 1) 0 0 (by omega) h1 (by omega) (by omega)
    rw [show (0 : Int) - ((1023 - E : Nat) : Int) = (E : Int) - 1023 by omega] at q
    exact q
theorem b_fr29 (N : Nat) {T g : Nat} (hT : T < 2 ^ 52) (hg : g = 52 ∨ g = 23) (res : Option Int64) (hres : (some ((FP.d2l (nd (1023 + g) T)) - ((1 : Int64) <<< ((zI (g : Int)).toInt64 &&& 63)))) = res) : ∀ (r n : Nat) (v6 : Int), v6 = g + r → 1023 + g + r ≤ 2046 → r < n → fX9_fractionOf_l29 N n (zI (g : Int)) (nd (1023 + g + r) T) (zI v6) = res := by
  intro r
  induction r with
  | zero =>
    intro n v6 hv h1 hn
    obtain ⟨n, rfl⟩ : ∃ m, n = m + 1 := ⟨n - 1, by omega⟩
    rw [fX9_fractionOf_l29_s, if_pos (i_le rfl (by omega))]
    exact hres
  | succ r ih =>
    intro n v6 hv h1 hn
    obtain ⟨n, rfl⟩ : ∃ m, n = m + 1 := ⟨n - 1, by omega⟩
    have e1 : zI v6 + (-1 : Int32) = zI (v6 - 1) := by rw [zl_m1, zI_add]; rfl
    rw [fX9_fractionOf_l29_s, if_neg (i_nle rfl (by omega)), nd_half (by omega) (by omega) hT, g64_fin (nd_fin (by omega) (by omega) hT), nm_s, nm_s, e1, show 1023 + g + (r + 1) - 1 = 1023 + g + r by omega]
    exact ih n (v6 - 1) (by omega) (by omega) (by omega)
theorem b_fr6 (N : Nat) (hN : 3000 ≤ N) {T g : Nat} (hT : T < 2 ^ 52) (hg : g = 52 ∨ g = 23) (res : Option Int64) (hres : (some ((FP.d2l (nd (1023 + g) T)) - ((1 : Int64) <<< ((zI (g : Int)).toInt64 &&& 63)))) = res) (v2 : Int) (hv2 : -1022 ≤ v2 ∧ v2 ≤ g) : ∀ (r E n : Nat) (v6 : Int), E + r = 1023 + g → v6 + r = g → 1 ≤ E → r < n → fX9_fractionOf_l6 N n (zI v2) (zI (g : Int)) (nd E T) (zI v6) = res := by
  intro r
  induction r with
  | zero =>
    intro E n v6 hE hv h1 hn
    obtain ⟨n, rfl⟩ : ∃ m, n = m + 1 := ⟨n - 1, by omega⟩
    obtain ⟨N, rfl⟩ : ∃ m, N = m + 1 := ⟨N - 1, by omega⟩
    rw [fX9_fractionOf_l6_s, if_pos (i_le rfl (by omega)), show E = 1023 + g by omega, fX9_fractionOf_l29_s, if_pos (i_le rfl (by omega))]
    exact hres
  | succ r ih =>
    intro E n v6 hE hv h1 hn
    obtain ⟨n, rfl⟩ : ∃ m, n = m + 1 := ⟨n - 1, by omega⟩
    have e1 : zI v6 + (1 : Int32) = zI (v6 + 1) := by rw [zl_1, zI_add]
    rw [fX9_fractionOf_l6_s, if_neg (i_nle rfl (by omega)), nd_dbl h1 (by omega) hT, g64_fin (nd_fin (by omega) (by omega) hT), nm_s, nm_s, e1]
    exact ih (E + 1) n (v6 + 1) (by omega) (by omega) (by omega) (by omega)
theorem b_frac (N : Nat) (hN : 3000 ≤ N) {E T g : Nat} (h1 : 1 ≤ E) (hE : E ≤ 2046) (hT : T < 2 ^ 52) (hg : g = 52 ∨ g = 23) (res : Option Int64) (hres : (some ((FP.d2l (nd (1023 + g) T)) - ((1 : Int64) <<< ((zI (g : Int)).toInt64 &&& 63)))) = res) : fX9_fractionOf N (nd E T) (zI ((E : Int) - 1023)) (zI (g : Int)) = res := by
  unfold fX9_fractionOf
  by_cases h : E ≤ 1023 + g
  · exact b_fr6 N hN hT hg res hres ((E : Int) - 1023) (by omega) (1023 + g - E) E N ((E : Int) - 1023) (by omega) (by omega) h1 (by omega)
  · obtain ⟨m, rfl⟩ : ∃ m, N = m + 1 := ⟨N - 1, by omega⟩
    rw [fX9_fractionOf_l6_s, if_pos (i_le rfl (by omega))]
    have q := b_fr29 (m + 1) hT hg res hres (E - 1023 - g) (m + 1) ((E : Int) - 1023) (by omega) (by omega) (by omega)
    rw [show 1023 + g + (E - 1023 - g) = E by omega] at q
    exact q
/-! whole numbers out of scaled doubles -/
theorem nd_d2l {T g u : Nat} (hg : g ≤ 52) (hT : T = u * 2 ^ (52 - g)) (hu : u < 2 ^ g) : FP.d2l (nd (1023 + g) T) = zL ((2 ^ g + u : Nat) : Int) := by
  have p1 : 2 ^ g * 2 ^ (52 - g) = 2 ^ 52 := by rw [← Nat.pow_add]; congr 1; omega
  have p2 : (2 ^ g + u) * 2 ^ (52 - g) = 2 ^ 52 + T := by rw [Nat.add_mul, p1, hT]
  have pp : 0 < 2 ^ (52 - g) := Nat.two_pow_pos _
  have hT2 : T < 2 ^ 52 := by
    rw [hT, ← p1]
    exact Nat.mul_lt_mul_of_pos_right hu pp
  have le : 2 ^ g ≤ 2 ^ 52 := Nat.pow_le_pow_right (by omega) hg
  have ez : (zL ((2 ^ g + u : Nat) : Int)).toInt = ((2 ^ g + u : Nat) : Int) := zL_int (by omega) (by omega)
  refine FP.Core.d2l_int ?_
  rw [ez]
  unfold FP.Core.DInt
  rw [nd_val (by omega) (by omega) hT2]
  unfold FP.Core.Whole FP.Core.signed
  dsimp only
  rw [show (((1023 + g : Nat) : Int) - 1075).toNat = 0 by omega, show (-(((1023 + g : Nat) : Int) - 1075)).toNat = 52 - g by omega, ← Int.natCast_mul, p2]
  simp
