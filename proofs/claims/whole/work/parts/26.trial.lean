/-! laws of order: what comes on both ways -/
def sp_I (p : Int × Int × Int) : Int := p.1 * 86400 + p.2.1
def sp_tr (w m1 d1 s1 m2 d2 s2 law x : Int) : Option (Int × Int) :=
  (sp_add m1 d1 s1 law 0 x 0).bind fun p =>
    if w = 3 then (sp_add m1 d1 s1 law 1 x 0).bind fun q => some (sp_I p, sp_I q)
    else if w = 1 then (sp_add (m1 * -1) (d1 * -1) (s1 * -1) law 0 p.1 p.2.1).bind fun q => some (sp_I q, x * 86400)
    else if w = 2 then (sp_add m1 d1 s1 law 0 p.1 p.2.1).bind fun q => (sp_add (m1 * 2) (d1 * 2) (s1 * 2) law 0 x 0).bind fun z => some (sp_I q, sp_I z)
    else (sp_add m2 d2 s2 law 0 p.1 p.2.1).bind fun q => (sp_add m2 d2 s2 law 0 x 0).bind fun z => (sp_add m1 d1 s1 law 0 z.1 z.2.1).bind fun v => some (sp_I q, sp_I v)
def TrOK (w m1 d1 s1 m2 d2 s2 law : Int) (u1 u2 u3 u4 : Nat → Int32) : Prop := AdOK m1 d1 s1 law u1 ∧ AdW u3 ∧ AdW u4 ∧ (w = 0 → AdOK m2 d2 s2 law u2 ∧ AdOK m2 d2 s2 law u3 ∧ AdOK m1 d1 s1 law u4) ∧ (w = 1 → AdOK (m1 * -1) (d1 * -1) (s1 * -1) law u2) ∧ (w = 2 → AdOK m1 d1 s1 law u2 ∧ AdOK (m1 * 2) (d1 * 2) (s1 * 2) law u3) ∧ (w = 3 → AdOK m1 d1 s1 law u2)
theorem b3_neg {m d s : Int} (h : sp_b3 m d s) : sp_b3 (m * -1) (d * -1) (s * -1) := by
  obtain ⟨h1, h2, h3⟩ := h
  refine ⟨?_, ?_, ?_⟩ <;> omega
theorem e_meets (N : Nat) {w m1 d1 s1 m2 d2 s2 law x : Int} {uj : Nat → Int64} {u1 u2 u3 u4 : Nat → Int32} (hT : TrOK w m1 d1 s1 m2 d2 s2 law u1 u2 u3 u4) (hb1 : sp_b3 m1 d1 s1) (hb2 : sp_b3 m2 d2 s2) (hb3 : w = 2 → sp_b3 (m1 * 2) (d1 * 2) (s1 * 2)) (hl : 0 ≤ law ∧ law ≤ 3) (hw : 0 ≤ w ∧ w ≤ 3) (hx : 0 ≤ x ∧ x ≤ 3652058) :
    ∃ r uj' u1' u2' u3' u4', fX7_meets N (zI x) (zI w) uj u1 u2 u3 u4 = some (r, uj', u1', u2', u3', u4') ∧ TrOK w m1 d1 s1 m2 d2 s2 law u1' u2' u3' u4' ∧ ((∃ p q : Int, sp_tr w m1 d1 s1 m2 d2 s2 law x = some (p, q) ∧ r = zI 1 ∧ uj' 5 = zL p ∧ uj' 6 = zL q ∧ (0 ≤ p ∧ p ≤ 315537897599) ∧ 0 ≤ q ∧ q ≤ 315537897599) ∨ (sp_tr w m1 d1 s1 m2 d2 s2 law x = none ∧ r = zI 0)) := by
  obtain ⟨t1, t3, t4, tA, tB, tC, tD⟩ := hT
  have h0 : (0 : Int) ≤ 0 ∧ (0 : Int) ≤ 86399 := by omega
  unfold fX7_meets
  simp only [zl_0, zl_1, zl_2, zl_3, zll_m1]
  obtain ⟨a1, r1, k1, A1, f1⟩ := e_leads N (ord := 0) t1 hb1 hl (by omega) hx h0
  rcases f1 with ⟨y, u, sh, e1, rfl, a8, a9, a10, b1, b2, b3⟩ | ⟨e1, rfl⟩
  case inr =>
    simp (disch := omega) only [bd1_t, bd2_t, bd3_t, nm_t, zI_eq, Int.reduceEq, Int.reduceNeg, ↓reduceIte, upd_s, upd_n, updL_s, updL_n, k1]
    refine ⟨_, _, _, _, _, _, rfl, ⟨A1, t3, t4, tA, tB, tC, tD⟩, Or.inr ⟨?_, rfl⟩⟩
    unfold sp_tr
    rw [e1]
    rfl
  have gI := e_instant N a8 b1 a9 b2
  rcases (show w = 0 ∨ w = 1 ∨ w = 2 ∨ w = 3 by omega) with rfl | rfl | rfl | rfl
  · obtain ⟨tA2, tA3, tA4⟩ := tA rfl
    obtain ⟨a2, r2, k2, A2, f2⟩ := e_leads N (ord := 0) tA2 hb2 hl (by omega) b1 b2
    rcases f2 with ⟨y2, u2', sh2, e2, rfl, c8, c9, c10, c1, c2, c3⟩ | ⟨e2, rfl⟩
    case inr =>
      simp (disch := omega) only [bd1_t, bd2_t, bd3_t, nm_t, zI_eq, Int.reduceEq, Int.reduceNeg, ↓reduceIte, upd_s, upd_n, updL_s, updL_n, k1, a8, a9, k2]
      refine ⟨_, _, _, _, _, _, rfl, ⟨A1, t3, t4, fun _ => ⟨A2, tA3, tA4⟩, fun h => absurd h (by omega), fun h => absurd h (by omega), fun h => absurd h (by omega)⟩, Or.inr ⟨?_, rfl⟩⟩
      unfold sp_tr
      simp [e1, e2]
    have gI2 := e_instant N c8 c1 c9 c2
    obtain ⟨a3, r3, k3, A3, f3⟩ := e_leads N (ord := 0) tA3 hb2 hl (by omega) hx h0
    rcases f3 with ⟨y3, u3', sh3, e3, rfl, g8, g9, g10, g1, g2, g3⟩ | ⟨e3, rfl⟩
    case inr =>
      simp (disch := omega) only [bd1_t, bd2_t, bd3_t, nm_t, zI_eq, Int.reduceEq, Int.reduceNeg, ↓reduceIte, upd_s, upd_n, updL_s, updL_n, k1, a8, a9, k2, gI2, k3]
      refine ⟨_, _, _, _, _, _, rfl, ⟨A1, A3.w, t4, fun _ => ⟨A2, A3, tA4⟩, fun h => absurd h (by omega), fun h => absurd h (by omega), fun h => absurd h (by omega)⟩, Or.inr ⟨?_, rfl⟩⟩
      unfold sp_tr
      simp [e1, e2, e3]
    obtain ⟨a4, r4, k4, A4, f4⟩ := e_leads N (ord := 0) tA4 hb1 hl (by omega) g1 g2
    rcases f4 with ⟨y4, u4', sh4, e4, rfl, v8, v9, v10, v1, v2, v3⟩ | ⟨e4, rfl⟩
    case inr =>
      simp (disch := omega) only [bd1_t, bd2_t, bd3_t, nm_t, zI_eq, Int.reduceEq, Int.reduceNeg, ↓reduceIte, upd_s, upd_n, updL_s, updL_n, k1, a8, a9, k2, gI2, k3, g8, g9, k4, cz_eq]
      refine ⟨_, _, _, _, _, _, rfl, ⟨A1, A3.w, A4.w, fun _ => ⟨A2, A3, A4⟩, fun h => absurd h (by omega), fun h => absurd h (by omega), fun h => absurd h (by omega)⟩, Or.inr ⟨?_, rfl⟩⟩
      unfold sp_tr
      simp [e1, e2, e3, e4]
    have gI4 := e_instant N v8 v1 v9 v2
    have ne : ¬ (y4 * 86400 + u4' = -1) := by omega
    simp (disch := omega) only [bd1_t, bd2_t, bd3_t, nm_t, zI_eq, Int.reduceEq, Int.reduceNeg, ↓reduceIte, upd_s, upd_n, updL_s, updL_n, k1, a8, a9, k2, gI2, k3, g8, g9, k4, gI4, cz_eq, zL_eq, ne]
    refine ⟨_, _, _, _, _, _, rfl, ⟨A1, A3.w, A4.w, fun _ => ⟨A2, A3, A4⟩, fun h => absurd h (by omega), fun h => absurd h (by omega), fun h => absurd h (by omega)⟩, Or.inl ⟨y2 * 86400 + u2', y4 * 86400 + u4', ?_, rfl, ?_, ?_, by omega, by omega⟩⟩
    · unfold sp_tr
      simp [e1, e2, e3, e4, sp_I]
    · rw [updL_n (by omega), updL_s]
    · rw [updL_s]
  · have tB2 := tB rfl
    obtain ⟨a2, r2, k2, A2, f2⟩ := e_leads N (ord := 0) tB2 (b3_neg hb1) hl (by omega) b1 b2
    rcases f2 with ⟨y2, u2', sh2, e2, rfl, c8, c9, c10, c1, c2, c3⟩ | ⟨e2, rfl⟩
    case inr =>
      simp (disch := omega) only [bd1_t, bd2_t, bd3_t, nm_t, zI_eq, Int.reduceEq, Int.reduceNeg, ↓reduceIte, upd_s, upd_n, updL_s, updL_n, k1, a8, a9, k2]
      refine ⟨_, _, _, _, _, _, rfl, ⟨A1, t3, t4, fun h => absurd h (by omega), fun _ => A2, fun h => absurd h (by omega), fun h => absurd h (by omega)⟩, Or.inr ⟨?_, rfl⟩⟩
      unfold sp_tr
      simp only [e1, Option.bind_some, Int.reduceEq, ↓reduceIte, e2, Option.bind_none]
    have gI2 := e_instant N c8 c1 c9 c2
    simp (disch := omega) only [bd1_t, bd2_t, bd3_t, nm_t, zI_eq, Int.reduceEq, Int.reduceNeg, ↓reduceIte, upd_s, upd_n, updL_s, updL_n, k1, a8, a9, k2, gI2, e_instantOf]
    refine ⟨_, _, _, _, _, _, rfl, ⟨A1, t3, t4, fun h => absurd h (by omega), fun _ => A2, fun h => absurd h (by omega), fun h => absurd h (by omega)⟩, Or.inl ⟨y2 * 86400 + u2', x * 86400, ?_, rfl, ?_, ?_, by omega, by omega⟩⟩
    · unfold sp_tr
      simp only [e1, Option.bind_some, Int.reduceEq, ↓reduceIte, e2, sp_I]
    · rw [updL_n (by omega), updL_s]
    · rw [updL_s, Int.add_zero]
  · obtain ⟨tC2, tC3⟩ := tC rfl
    obtain ⟨a2, r2, k2, A2, f2⟩ := e_leads N (ord := 0) tC2 hb1 hl (by omega) b1 b2
    rcases f2 with ⟨y2, u2', sh2, e2, rfl, c8, c9, c10, c1, c2, c3⟩ | ⟨e2, rfl⟩
    case inr =>
      simp (disch := omega) only [bd1_t, bd2_t, bd3_t, nm_t, zI_eq, Int.reduceEq, Int.reduceNeg, ↓reduceIte, upd_s, upd_n, updL_s, updL_n, k1, a8, a9, k2]
      refine ⟨_, _, _, _, _, _, rfl, ⟨A1, t3, t4, fun h => absurd h (by omega), fun h => absurd h (by omega), fun _ => ⟨A2, tC3⟩, fun h => absurd h (by omega)⟩, Or.inr ⟨?_, rfl⟩⟩
      unfold sp_tr
      simp [e1, e2]
    have gI2 := e_instant N c8 c1 c9 c2
    obtain ⟨a3, r3, k3, A3, f3⟩ := e_leads N (ord := 0) tC3 (hb3 rfl) hl (by omega) hx h0
    rcases f3 with ⟨y3, u3', sh3, e3, rfl, g8, g9, g10, g1, g2, g3⟩ | ⟨e3, rfl⟩
    case inr =>
      simp (disch := omega) only [bd1_t, bd2_t, bd3_t, nm_t, zI_eq, Int.reduceEq, Int.reduceNeg, ↓reduceIte, upd_s, upd_n, updL_s, updL_n, k1, a8, a9, k2, gI2, k3]
      refine ⟨_, _, _, _, _, _, rfl, ⟨A1, A3.w, t4, fun h => absurd h (by omega), fun h => absurd h (by omega), fun _ => ⟨A2, A3⟩, fun h => absurd h (by omega)⟩, Or.inr ⟨?_, rfl⟩⟩
      unfold sp_tr
      simp [e1, e2, e3]
    have gI3 := e_instant N g8 g1 g9 g2
    simp (disch := omega) only [bd1_t, bd2_t, bd3_t, nm_t, zI_eq, Int.reduceEq, Int.reduceNeg, ↓reduceIte, upd_s, upd_n, updL_s, updL_n, k1, a8, a9, k2, gI2, k3, gI3]
    refine ⟨_, _, _, _, _, _, rfl, ⟨A1, A3.w, t4, fun h => absurd h (by omega), fun h => absurd h (by omega), fun _ => ⟨A2, A3⟩, fun h => absurd h (by omega)⟩, Or.inl ⟨y2 * 86400 + u2', y3 * 86400 + u3', ?_, rfl, ?_, ?_, by omega, by omega⟩⟩
    · unfold sp_tr
      simp [e1, e2, e3, sp_I]
    · rw [updL_n (by omega), updL_s]
    · rw [updL_s]
  · have tD2 := tD rfl
    obtain ⟨a2, r2, k2, A2, f2⟩ := e_leads N (ord := 1) tD2 hb1 hl (by omega) hx h0
    rcases f2 with ⟨y2, u2', sh2, e2, rfl, c8, c9, c10, c1, c2, c3⟩ | ⟨e2, rfl⟩
    case inr =>
      simp (disch := omega) only [bd1_t, bd2_t, bd3_t, nm_t, zI_eq, Int.reduceEq, Int.reduceNeg, ↓reduceIte, upd_s, upd_n, updL_s, updL_n, k1, gI, k2, cz_eq]
      refine ⟨_, _, _, _, _, _, rfl, ⟨A1, t3, t4, fun h => absurd h (by omega), fun h => absurd h (by omega), fun h => absurd h (by omega), fun _ => A2⟩, Or.inr ⟨?_, rfl⟩⟩
      unfold sp_tr
      simp [e1, e2]
    have gI2 := e_instant N c8 c1 c9 c2
    have ne : ¬ (y2 * 86400 + u2' = -1) := by omega
    simp (disch := omega) only [bd1_t, bd2_t, bd3_t, nm_t, zI_eq, Int.reduceEq, Int.reduceNeg, ↓reduceIte, upd_s, upd_n, updL_s, updL_n, k1, gI, k2, gI2, cz_eq, zL_eq, ne]
    refine ⟨_, _, _, _, _, _, rfl, ⟨A1, t3, t4, fun h => absurd h (by omega), fun h => absurd h (by omega), fun h => absurd h (by omega), fun _ => A2⟩, Or.inl ⟨y * 86400 + u, y2 * 86400 + u2', ?_, rfl, ?_, ?_, by omega, by omega⟩⟩
    · unfold sp_tr
      simp [e1, e2, sp_I]
    · rw [updL_n (by omega), updL_s]
    · rw [updL_s]
