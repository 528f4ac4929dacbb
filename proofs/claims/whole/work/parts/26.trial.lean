/-! laws of order: what comes on both ways -/
def sp_I (p : Int × Int × Int) : Int := p.1 * 86400 + p.2.1
def sp_tr (w m1 d1 s1 m2 d2 s2 law x : Int) : Option (Int × Int) :=
  (sp_add m1 d1 s1 law 0 x 0).bind fun p =>
    if w = 3 then (sp_add m1 d1 s1 law 1 x 0).bind fun q => some (sp_I p, sp_I q)
    else if w = 1 then (sp_add (m1 * -1) (d1 * -1) (s1 * -1) law 0 p.1 p.2.1).bind fun q => some (sp_I q, x * 86400)
    else if w = 2 then (sp_add m1 d1 s1 law 0 p.1 p.2.1).bind fun q => (sp_add (m1 * 2) (d1 * 2) (s1 * 2) law 0 x 0).bind fun z => some (sp_I q, sp_I z)
    else (sp_add m2 d2 s2 law 0 p.1 p.2.1).bind fun q => (sp_add m2 d2 s2 law 0 x 0).bind fun z => (sp_add m1 d1 s1 law 0 z.1 z.2.1).bind fun v => some (sp_I q, sp_I v)
def TrOK (w m1 d1 s1 m2 d2 s2 law : Int) (u1 u2 u3 u4 : Nat → Int32) : Prop := AdOK m1 d1 s1 law u1 ∧ AdW u3 ∧ AdW u4 ∧ (w = 0 → AdOK m2 d2 s2 law u2 ∧ AdOK m2 d2 s2 law u3 ∧ AdOK m1 d1 s1 law u4) ∧ (w = 1 → AdOK (m1 * -1) (d1 * -1) (s1 * -1) law u2) ∧ (w = 2 → AdOK m1 d1 s1 law u2 ∧ AdOK (m1 * 2) (d1 * 2) (s1 * 2) law u3) ∧ (w = 3 → AdOK m1 d1 s1 law u2)
theorem b3_neg {m d s : Int} (h : sp_b3 m d s) : sp_b3 (m * -1) (d * -1) (s * -1) := by
  obtain ⟨h1, h2, h3⟩ := h
  refine ⟨?_, ?_, ?_⟩ <;> omega
theorem e_meets (N : Nat) {w m1 d1 s1 m2 d2 s2 law x : Int} {uj : Nat → Int64} {u1 u2 u3 u4 : Nat → Int32} (hT : TrOK w m1 d1 s1 m2 d2 s2 law u1 u2 u3 u4) (hb1 : sp_b3 m1 d1 s1) (hb2 : sp_b3 m2 d2 s2) (hb3 : w = 2 → sp_b3 (m1 * 2) (d1 * 2) (s1 * 2)) (hl : 0 ≤ law ∧ law ≤ 3) (hw : 0 ≤ w ∧ w ≤ 3) (hx : 0 ≤ x ∧ x ≤ 3652058) :
    ∃ r uj' u1' u2' u3' u4', fX7_meets N (zI x) (zI w) uj u1 u2 u3 u4 = some (r, uj', u1', u2', u3', u4') ∧ TrOK w m1 d1 s1 m2 d2 s2 law u1' u2' u3' u4' ∧ ((∃ p q : Int, sp_tr w m1 d1 s1 m2 d2 s2 law x = some (p, q) ∧ r = zI 1 ∧ uj' 5 = zL p ∧ uj' 6 = zL q ∧ (0 ≤ p ∧ p ≤ 315537897599) ∧ 0 ≤ q ∧ q ≤ 315537897599) ∨ (sp_tr w m1 d1 s1 m2 d2 s2 law x = none ∧ r = zI 0)) := by
  obtain ⟨t1, t3, t4, tA, tB, tC, tD⟩ := hT
  have h0 : (0 : Int) ≤ 0 ∧ (0 : Int) ≤ 86399 := by omega
  have cm : lg_cmp (-1 : Int64) (-1 : Int64) = (0 : Int32) := by rw [zll_m1]; exact k_eq rfl
  have cn : ∀ v : Int, 0 ≤ v ∧ v ≤ 315537897599 → ¬ (lg_cmp (zL v) (-1 : Int64) = (0 : Int32)) := fun v hv => by rw [zll_m1]; exact k_neq (by omega)
  have eI0 : fX9_instantOf N (zI x) (0 : Int32) = some (zL (x * 86400 + 0)) := by rw [zl_0]; exact e_instantOf N (by omega) (by omega)
  unfold fX7_meets
  obtain ⟨a1, r1, k1, A1, f1⟩ := e_leads N (ord := 0) t1 hb1 hl (by omega) hx h0
  rw [← zl_0] at k1
  rw [k1, bd2_s]
  rcases f1 with ⟨y, u, sh, e1, rfl, a8, a9, a10, b1, b2, b3⟩ | ⟨e1, rfl⟩
  case inr =>
    rw [if_pos z00]
    refine ⟨_, _, _, _, _, _, rfl, ⟨A1, t3, t4, tA, tB, tC, tD⟩, Or.inr ⟨?_, zl_0⟩⟩
    unfold sp_tr
    rw [e1]
    rfl
  rw [if_neg z10]
  have gI := e_instant N a8 b1 a9 b2
  rcases (show w = 0 ∨ w = 1 ∨ w = 2 ∨ w = 3 by omega) with rfl | rfl | rfl | rfl
  · rw [if_neg (i_neq (b := 3) (by decide) (by omega)), a8, a9]
    obtain ⟨tA2, tA3, tA4⟩ := tA rfl
    obtain ⟨a2, r2, k2, A2, f2⟩ := e_leads N (ord := 0) tA2 hb2 hl (by omega) b1 b2
    rw [← zl_0] at k2
    rw [k2, bd2_s]
    rcases f2 with ⟨y2, u2', sh2, e2, rfl, c8, c9, c10, c1, c2, c3⟩ | ⟨e2, rfl⟩
    case inr =>
      rw [if_pos z00]
      refine ⟨_, _, _, _, _, _, rfl, ⟨A1, t3, t4, fun _ => ⟨A2, tA3, tA4⟩, fun h => absurd h (by omega), fun h => absurd h (by omega), fun h => absurd h (by omega)⟩, Or.inr ⟨?_, zl_0⟩⟩
      unfold sp_tr
      simp [e1, e2]
    rw [if_neg z10, e_instant N c8 c1 c9 c2, bd1_s, if_neg (i_neq (b := 1) (by decide) (by omega))]
    obtain ⟨a3, r3, k3, A3, f3⟩ := e_leads N (ord := 0) tA3 hb2 hl (by omega) hx h0
    rw [← zl_0] at k3
    rw [k3, bd2_s]
    rcases f3 with ⟨y3, u3', sh3, e3, rfl, g8, g9, g10, g1, g2, g3⟩ | ⟨e3, rfl⟩
    case inr =>
      rw [if_pos z00]
      refine ⟨_, _, _, _, _, _, rfl, ⟨A1, A3.w, t4, fun _ => ⟨A2, A3, tA4⟩, fun h => absurd h (by omega), fun h => absurd h (by omega), fun h => absurd h (by omega)⟩, Or.inr ⟨?_, zl_0⟩⟩
      unfold sp_tr
      simp [e1, e2, e3]
    rw [if_neg z10, if_neg (i_neq (b := 2) (by decide) (by omega)), g8, g9]
    obtain ⟨a4, r4, k4, A4, f4⟩ := e_leads N (ord := 0) tA4 hb1 hl (by omega) g1 g2
    rw [← zl_0] at k4
    rw [k4, bd2_s]
    rcases f4 with ⟨y4, u4', sh4, e4, rfl, v8, v9, v10, v1, v2, v3⟩ | ⟨e4, rfl⟩
    case inr =>
      rw [if_pos z00, if_pos cm]
      refine ⟨_, _, _, _, _, _, rfl, ⟨A1, A3.w, A4.w, fun _ => ⟨A2, A3, A4⟩, fun h => absurd h (by omega), fun h => absurd h (by omega), fun h => absurd h (by omega)⟩, Or.inr ⟨?_, zl_0⟩⟩
      unfold sp_tr
      simp [e1, e2, e3, e4]
    rw [if_neg z10, e_instant N v8 v1 v9 v2, bd1_s, if_neg (cn _ (by omega))]
    refine ⟨_, _, _, _, _, _, rfl, ⟨A1, A3.w, A4.w, fun _ => ⟨A2, A3, A4⟩, fun h => absurd h (by omega), fun h => absurd h (by omega), fun h => absurd h (by omega)⟩, Or.inl ⟨y2 * 86400 + u2', y4 * 86400 + u4', ?_, zl_1, ?_, ?_, by omega, by omega⟩⟩
    · unfold sp_tr
      simp [e1, e2, e3, e4, sp_I]
    · rw [updL_n (by omega), updL_s]
    · rw [updL_s]
  · rw [if_neg (i_neq (b := 3) (by decide) (by omega)), a8, a9]
    have tB2 := tB rfl
    obtain ⟨a2, r2, k2, A2, f2⟩ := e_leads N (ord := 0) tB2 (b3_neg hb1) hl (by omega) b1 b2
    rw [← zl_0] at k2
    rw [k2, bd2_s]
    rcases f2 with ⟨y2, u2', sh2, e2, rfl, c8, c9, c10, c1, c2, c3⟩ | ⟨e2, rfl⟩
    case inr =>
      rw [if_pos z00]
      refine ⟨_, _, _, _, _, _, rfl, ⟨A1, t3, t4, fun h => absurd h (by omega), fun _ => A2, fun h => absurd h (by omega), fun h => absurd h (by omega)⟩, Or.inr ⟨?_, zl_0⟩⟩
      unfold sp_tr
      simp only [e1, Option.bind_some, Int.reduceEq, ↓reduceIte, e2, Option.bind_none]
    rw [if_neg z10, e_instant N c8 c1 c9 c2, bd1_s, if_pos (i_eq (b := 1) (by decide) rfl), eI0, bd1_s]
    refine ⟨_, _, _, _, _, _, rfl, ⟨A1, t3, t4, fun h => absurd h (by omega), fun _ => A2, fun h => absurd h (by omega), fun h => absurd h (by omega)⟩, Or.inl ⟨y2 * 86400 + u2', x * 86400, ?_, zl_1, ?_, ?_, by omega, by omega⟩⟩
    · unfold sp_tr
      simp only [e1, Option.bind_some, Int.reduceEq, ↓reduceIte, e2, sp_I]
    · rw [updL_n (by omega), updL_s]
    · rw [updL_s, Int.add_zero]
  · rw [if_neg (i_neq (b := 3) (by decide) (by omega)), a8, a9]
    obtain ⟨tC2, tC3⟩ := tC rfl
    obtain ⟨a2, r2, k2, A2, f2⟩ := e_leads N (ord := 0) tC2 hb1 hl (by omega) b1 b2
    rw [← zl_0] at k2
    rw [k2, bd2_s]
    rcases f2 with ⟨y2, u2', sh2, e2, rfl, c8, c9, c10, c1, c2, c3⟩ | ⟨e2, rfl⟩
    case inr =>
      rw [if_pos z00]
      refine ⟨_, _, _, _, _, _, rfl, ⟨A1, t3, t4, fun h => absurd h (by omega), fun h => absurd h (by omega), fun _ => ⟨A2, tC3⟩, fun h => absurd h (by omega)⟩, Or.inr ⟨?_, zl_0⟩⟩
      unfold sp_tr
      simp [e1, e2]
    rw [if_neg z10, e_instant N c8 c1 c9 c2, bd1_s, if_neg (i_neq (b := 1) (by decide) (by omega))]
    obtain ⟨a3, r3, k3, A3, f3⟩ := e_leads N (ord := 0) tC3 (hb3 rfl) hl (by omega) hx h0
    rw [← zl_0] at k3
    rw [k3, bd2_s]
    rcases f3 with ⟨y3, u3', sh3, e3, rfl, g8, g9, g10, g1, g2, g3⟩ | ⟨e3, rfl⟩
    case inr =>
      rw [if_pos z00]
      refine ⟨_, _, _, _, _, _, rfl, ⟨A1, A3.w, t4, fun h => absurd h (by omega), fun h => absurd h (by omega), fun _ => ⟨A2, A3⟩, fun h => absurd h (by omega)⟩, Or.inr ⟨?_, zl_0⟩⟩
      unfold sp_tr
      simp [e1, e2, e3]
    rw [if_neg z10, if_pos (i_eq (b := 2) (by decide) rfl), e_instant N g8 g1 g9 g2, bd1_s]
    refine ⟨_, _, _, _, _, _, rfl, ⟨A1, A3.w, t4, fun h => absurd h (by omega), fun h => absurd h (by omega), fun _ => ⟨A2, A3⟩, fun h => absurd h (by omega)⟩, Or.inl ⟨y2 * 86400 + u2', y3 * 86400 + u3', ?_, zl_1, ?_, ?_, by omega, by omega⟩⟩
    · unfold sp_tr
      simp [e1, e2, e3, sp_I]
    · rw [updL_n (by omega), updL_s]
    · rw [updL_s]
  · rw [if_pos (i_eq (b := 3) (by decide) rfl), gI, bd1_s]
    have tD2 := tD rfl
    obtain ⟨a2, r2, k2, A2, f2⟩ := e_leads N (ord := 1) tD2 hb1 hl (by omega) hx h0
    rw [← zl_0, ← zl_1] at k2
    rw [k2, bd2_s]
    rcases f2 with ⟨y2, u2', sh2, e2, rfl, c8, c9, c10, c1, c2, c3⟩ | ⟨e2, rfl⟩
    case inr =>
      rw [if_pos z00, if_pos cm]
      refine ⟨_, _, _, _, _, _, rfl, ⟨A1, t3, t4, fun h => absurd h (by omega), fun h => absurd h (by omega), fun h => absurd h (by omega), fun _ => A2⟩, Or.inr ⟨?_, zl_0⟩⟩
      unfold sp_tr
      simp [e1, e2]
    rw [if_neg z10, e_instant N c8 c1 c9 c2, bd1_s, if_neg (cn _ (by omega))]
    refine ⟨_, _, _, _, _, _, rfl, ⟨A1, t3, t4, fun h => absurd h (by omega), fun h => absurd h (by omega), fun h => absurd h (by omega), fun _ => A2⟩, Or.inl ⟨y * 86400 + u, y2 * 86400 + u2', ?_, zl_1, ?_, ?_, by omega, by omega⟩⟩
    · unfold sp_tr
      simp [e1, e2, sp_I]
    · rw [updL_n (by omega), updL_s]
    · rw [updL_s]
