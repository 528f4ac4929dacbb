/-! laws of order: the reference -/
def sp_one (w m1 d1 s1 m2 d2 s2 law x : Int) : Option Int :=
  (sp_add m1 d1 s1 law 0 x 0).bind fun p =>
    if w = 3 then some (sp_I p)
    else if w = 1 then (sp_add (m1 * -1) (d1 * -1) (s1 * -1) law 0 p.1 p.2.1).bind fun q => some (sp_I q)
    else if w = 2 then (sp_add m1 d1 s1 law 0 p.1 p.2.1).bind fun q => some (sp_I q)
    else (sp_add m2 d2 s2 law 0 p.1 p.2.1).bind fun q => some (sp_I q)
def sp_two (w m1 d1 s1 m2 d2 s2 law x : Int) : Option Int :=
  if w = 3 then (sp_add m1 d1 s1 law 1 x 0).bind fun q => some (sp_I q)
  else if w = 1 then some (x * 86400)
  else if w = 2 then (sp_add (m1 * 2) (d1 * 2) (s1 * 2) law 0 x 0).bind fun z => some (sp_I z)
  else (sp_add m2 d2 s2 law 0 x 0).bind fun z => (sp_add m1 d1 s1 law 0 z.1 z.2.1).bind fun v => some (sp_I v)
theorem tr_split {w m1 d1 s1 m2 d2 s2 law x : Int} (hw : 0 ≤ w ∧ w ≤ 3) : sp_tr w m1 d1 s1 m2 d2 s2 law x = (sp_one w m1 d1 s1 m2 d2 s2 law x).bind fun p => (sp_two w m1 d1 s1 m2 d2 s2 law x).bind fun q => some (p, q) := by
  unfold sp_tr sp_one sp_two
  cases h1 : sp_add m1 d1 s1 law 0 x 0 with
  | none => rfl
  | some p =>
    rcases (show w = 0 ∨ w = 1 ∨ w = 2 ∨ w = 3 by omega) with rfl | rfl | rfl | rfl
    · simp only [Option.bind_some, Int.reduceEq, ↓reduceIte]
      cases sp_add m2 d2 s2 law 0 p.1 p.2.1 with
      | none => rfl
      | some q =>
        simp only [Option.bind_some]
        cases sp_add m2 d2 s2 law 0 x 0 with
        | none => rfl
        | some z =>
          simp only [Option.bind_some]
          cases sp_add m1 d1 s1 law 0 z.1 z.2.1 with
          | none => rfl
          | some v => rfl
    · simp only [Option.bind_some, Int.reduceEq, ↓reduceIte]
      cases sp_add (m1 * -1) (d1 * -1) (s1 * -1) law 0 p.1 p.2.1 with
      | none => rfl
      | some q => rfl
    · simp only [Option.bind_some, Int.reduceEq, ↓reduceIte]
      cases sp_add m1 d1 s1 law 0 p.1 p.2.1 with
      | none => rfl
      | some q =>
        simp only [Option.bind_some]
        cases sp_add (m1 * 2) (d1 * 2) (s1 * 2) law 0 x 0 with
        | none => rfl
        | some z => rfl
    · simp only [Option.bind_some, Int.reduceEq, ↓reduceIte]
      cases sp_add m1 d1 s1 law 1 x 0 with
      | none => rfl
      | some q => rfl
theorem one_f (N : Nat) {S i : Nat → Int32} {j : Nat → Int64} {w : Int} {v2 v4 : Int32} (hw : 0 ≤ w ∧ w ≤ 3) : ∃ j', fX10_goesOne_j46 N S (zI w) v2 v4 (zI 0) i j = some (zI 0, i, j') := by
  unfold fX10_goesOne_j46 fX10_goesOne_j77 fX10_instant
  simp only [zl_0, zl_1, zl_2]
  rcases (show w = 0 ∨ w = 1 ∨ w = 2 ∨ w = 3 by omega) with rfl | rfl | rfl | rfl
  all_goals
    simp (disch := omega) only [bd1_t, zI_eq, Int.reduceEq, ↓reduceIte, gz_0]
    exact ⟨_, rfl⟩
theorem e_one (N : Nat) (hN : 20000 ≤ N) {S i : Nat → Int32} {j : Nat → Int64} {k2 k3 : Nat} (hk2 : k2 < 8) (hk3 : k3 < 8) {w m1 d1 s1 m2 d2 s2 law x : Int} (s4 : S (3 * k2) = zI m1) (s5 : S (3 * k2 + 1) = zI d1) (s6 : S (3 * k2 + 2) = zI s1) (t4 : S (3 * k3) = zI m2) (t5 : S (3 * k3 + 1) = zI d2) (t6 : S (3 * k3 + 2) = zI s2) (hb1 : sp_b3 m1 d1 s1) (hb2 : sp_b3 m2 d2 s2) (hl : 0 ≤ law ∧ law ≤ 3) (hw : 0 ≤ w ∧ w ≤ 3) (hx : 0 ≤ x ∧ x ≤ 3652058) :
    ∃ i' j' r, fX10_goesOne N (zI w) (zI k2) (zI k3) (zI law) (zI x) i j S = some (r, i', j') ∧ (∀ k, k < 10 ∨ 15 < k → i' k = i k) ∧ ((∃ p, sp_one w m1 d1 s1 m2 d2 s2 law x = some p ∧ r = zI 1 ∧ j' 25 = zL p ∧ 0 ≤ p ∧ p ≤ 315537897599) ∨ (sp_one w m1 d1 s1 m2 d2 s2 law x = none ∧ r = zI 0)) := by
  have h0 : (0 : Int) ≤ 0 ∧ (0 : Int) ≤ 86399 := by omega
  obtain ⟨i1, r1, c1, n1, g1⟩ := e_addsO N hN (i := upd (upd i 13 (zI x)) 14 (zI 0)) (j := j) (ord := 0) hk2 s4 s5 s6 hb1 hl (by omega) (by rw [upd_n (by omega), upd_s]) hx upd_s h0
  have n1 : ∀ k, k < 10 ∨ 15 < k → i1 k = i k := fun k hk => by rw [n1 k hk, upd_n (by omega), upd_n (by omega)]
  unfold fX10_goesOne
  rw [e_stands, bd1_s]
  simp only [zl_0]
  rw [c1, bd2_s]
  rcases g1 with ⟨y, u, sh, e1, rfl, i13, i14, i15, b1, b2, b3⟩ | ⟨e1, rfl⟩
  case inr =>
    obtain ⟨j', f1⟩ := one_f N (S := S) (i := i1) (j := j) (w := w) (v2 := zI k2) (v4 := zI law) hw
    refine ⟨i1, j', zI 0, ?_, n1, Or.inr ⟨?_, rfl⟩⟩
    · by_cases h : w = 0
      · subst h
        rw [if_pos rfl, if_pos rfl]
        exact f1
      · rw [if_neg (by rw [zI_eq (by omega) (by omega) (by omega) (by omega)]; exact h)]
        exact f1
    · unfold sp_one
      rw [e1]
      rfl
  have z01 : ¬ (zI 1 = zI 0) := by decide
  rcases (show w = 0 ∨ w = 1 ∨ w = 2 ∨ w = 3 by omega) with rfl | rfl | rfl | rfl
  · rw [if_pos rfl, if_neg z01]
    obtain ⟨i2, r2, c2, n2, g2⟩ := e_addsO N hN (i := i1) (j := j) (ord := 0) hk3 t4 t5 t6 hb2 hl (by omega) i13 b1 i14 b2
    rw [c2, bd2_s]
    rcases g2 with ⟨y2, u2, sh2, e2, rfl, i13', i14', i15', b1', b2', b3'⟩ | ⟨e2, rfl⟩
    · rw [if_neg z01]
      have gI := e_instant_m N j i13' i14' b1' b2'
      unfold fX10_goesOne_j46 fX10_goesOne_j77
      simp (disch := omega) only [zl_0, zl_1, zl_2, bd1_t, zI_eq, Int.reduceEq, ↓reduceIte, gz_1, gI]
      refine ⟨_, _, _, rfl, fun k hk => by rw [n2 k hk, n1 k hk], Or.inl ⟨y2 * 86400 + u2, ?_, rfl, updL_s, by omega, by omega⟩⟩
      unfold sp_one
      simp only [e1, Option.bind_some, Int.reduceEq, ↓reduceIte, e2, sp_I]
    · rw [if_pos rfl]
      obtain ⟨j', f1⟩ := one_f N (S := S) (i := i2) (j := j) (w := 0) (v2 := zI k2) (v4 := zI law) hw
      refine ⟨i2, j', zI 0, f1, fun k hk => by rw [n2 k hk, n1 k hk], Or.inr ⟨?_, rfl⟩⟩
      unfold sp_one
      simp only [e1, Option.bind_some, Int.reduceEq, ↓reduceIte, e2, Option.bind_none]
  · obtain ⟨i2, r2, c2, n2, g2⟩ := e_addsSpan N hN (i := i1) (j := j) (n := -1) (ord := 0) hk2 s4 s5 s6 (b3_neg hb1) hb1 hl (by omega) i13 b1 i14 b2
    unfold fX10_goesOne_j46 fX10_goesOne_j77
    simp (disch := omega) only [zl_0, zl_1, zl_2, zll_m1, zI_eq, Int.reduceEq, ↓reduceIte, c2, bd2_t]
    rcases g2 with ⟨y2, u2, sh2, e2, rfl, i13', i14', i15', b1', b2', b3'⟩ | ⟨e2, rfl⟩
    · have gI := e_instant_m N j i13' i14' b1' b2'
      simp (disch := omega) only [zI_eq, Int.reduceEq, ↓reduceIte, gI, bd1_t, gz_1]
      refine ⟨_, _, _, rfl, fun k hk => by rw [n2 k hk, n1 k hk], Or.inl ⟨y2 * 86400 + u2, ?_, rfl, updL_s, by omega, by omega⟩⟩
      unfold sp_one
      simp only [e1, Option.bind_some, Int.reduceEq, ↓reduceIte, e2, sp_I]
    · unfold fX10_instant
      simp (disch := omega) only [zI_eq, Int.reduceEq, ↓reduceIte, bd1_t, gz_0]
      refine ⟨_, _, _, rfl, fun k hk => by rw [n2 k hk, n1 k hk], Or.inr ⟨?_, rfl⟩⟩
      unfold sp_one
      simp only [e1, Option.bind_some, Int.reduceEq, ↓reduceIte, e2, Option.bind_none]
  · obtain ⟨i2, r2, c2, n2, g2⟩ := e_addsO N hN (i := i1) (j := j) (ord := 0) hk2 s4 s5 s6 hb1 hl (by omega) i13 b1 i14 b2
    unfold fX10_goesOne_j46 fX10_goesOne_j77
    simp (disch := omega) only [zl_0, zl_1, zl_2, zI_eq, Int.reduceEq, ↓reduceIte, c2, bd2_t]
    rcases g2 with ⟨y2, u2, sh2, e2, rfl, i13', i14', i15', b1', b2', b3'⟩ | ⟨e2, rfl⟩
    · have gI := e_instant_m N j i13' i14' b1' b2'
      simp (disch := omega) only [zI_eq, Int.reduceEq, ↓reduceIte, gI, bd1_t, gz_1]
      refine ⟨_, _, _, rfl, fun k hk => by rw [n2 k hk, n1 k hk], Or.inl ⟨y2 * 86400 + u2, ?_, rfl, updL_s, by omega, by omega⟩⟩
      unfold sp_one
      simp only [e1, Option.bind_some, Int.reduceEq, ↓reduceIte, e2, sp_I]
    · unfold fX10_instant
      simp (disch := omega) only [zI_eq, Int.reduceEq, ↓reduceIte, bd1_t, gz_0]
      refine ⟨_, _, _, rfl, fun k hk => by rw [n2 k hk, n1 k hk], Or.inr ⟨?_, rfl⟩⟩
      unfold sp_one
      simp only [e1, Option.bind_some, Int.reduceEq, ↓reduceIte, e2, Option.bind_none]
  · have gI := e_instant_m N j i13 i14 b1 b2
    unfold fX10_goesOne_j46 fX10_goesOne_j77
    simp (disch := omega) only [zl_0, zl_1, zl_2, zI_eq, Int.reduceEq, ↓reduceIte, gI, bd1_t, gz_1]
    refine ⟨_, _, _, rfl, n1, Or.inl ⟨y * 86400 + u, ?_, rfl, updL_s, by omega, by omega⟩⟩
    unfold sp_one
    simp only [e1, Option.bind_some, ↓reduceIte, sp_I]
theorem e_two (N : Nat) (hN : 20000 ≤ N) {S i : Nat → Int32} {j : Nat → Int64} {k2 k3 : Nat} (hk2 : k2 < 8) (hk3 : k3 < 8) {w m1 d1 s1 m2 d2 s2 law x : Int} (s4 : S (3 * k2) = zI m1) (s5 : S (3 * k2 + 1) = zI d1) (s6 : S (3 * k2 + 2) = zI s1) (t4 : S (3 * k3) = zI m2) (t5 : S (3 * k3 + 1) = zI d2) (t6 : S (3 * k3 + 2) = zI s2) (hb1 : sp_b3 m1 d1 s1) (hb2 : sp_b3 m2 d2 s2) (hb3 : w = 2 → sp_b3 (m1 * 2) (d1 * 2) (s1 * 2)) (hl : 0 ≤ law ∧ law ≤ 3) (hw : 0 ≤ w ∧ w ≤ 3) (hx : 0 ≤ x ∧ x ≤ 3652058) :
    ∃ i' j' r, fX10_goesOther N (zI w) (zI k2) (zI k3) (zI law) (zI x) i j S = some (r, i', j') ∧ (∀ k, k < 10 ∨ 15 < k → i' k = i k) ∧ j' 25 = j 25 ∧ ((∃ p, sp_two w m1 d1 s1 m2 d2 s2 law x = some p ∧ r = zI 1 ∧ j' 26 = zL p ∧ 0 ≤ p ∧ p ≤ 315537897599) ∨ (sp_two w m1 d1 s1 m2 d2 s2 law x = none ∧ r = zI 0)) := by
  have h0 : (0 : Int) ≤ 0 ∧ (0 : Int) ≤ 86399 := by omega
  have z01 : ¬ (zI 1 = zI 0) := by decide
  obtain ⟨i1, hi1⟩ : ∃ i1, i1 = upd (upd i 13 (zI x)) 14 (zI 0) := ⟨_, rfl⟩
  have c13 : i1 13 = zI x := by rw [hi1, upd_n (by omega), upd_s]
  have c14 : i1 14 = zI 0 := by rw [hi1, upd_s]
  have n1 : ∀ k, k < 10 ∨ 15 < k → i1 k = i k := fun k hk => by rw [hi1, upd_n (by omega), upd_n (by omega)]
  unfold fX10_goesOther
  rw [e_stands, bd1_s]
  simp only [zl_0]
  rw [← hi1]
  unfold fX10_goesOther_j45 fX10_goesOther_j63
  simp only [zl_1, zl_2, zl_3, zll_2, zl_0]
  rcases (show w = 0 ∨ w = 1 ∨ w = 2 ∨ w = 3 by omega) with rfl | rfl | rfl | rfl
  · obtain ⟨i2, r2, c2, n2, g2⟩ := e_addsO N hN (i := i1) (j := j) (ord := 0) hk3 t4 t5 t6 hb2 hl (by omega) c13 hx c14 h0
    simp (disch := omega) only [zI_eq, Int.reduceEq, ↓reduceIte, c2, bd2_t]
    rcases g2 with ⟨y2, u2, sh2, e2, rfl, i13', i14', i15', b1', b2', b3'⟩ | ⟨e2, rfl⟩
    · obtain ⟨i3, r3, c3, n3, g3⟩ := e_addsO N hN (i := i2) (j := j) (ord := 0) hk2 s4 s5 s6 hb1 hl (by omega) i13' b1' i14' b2'
      simp (disch := omega) only [zI_eq, Int.reduceEq, ↓reduceIte, c3, bd2_t]
      rcases g3 with ⟨y3, u3, sh3, e3, rfl, i13', i14', i15', b1', b2', b3'⟩ | ⟨e3, rfl⟩
      · have gI := e_instant_m N j i13' i14' b1' b2'
        simp (disch := omega) only [zI_eq, Int.reduceEq, ↓reduceIte, gI, bd1_t, gz_1]
        refine ⟨_, _, _, rfl, fun k hk => by rw [n3 k hk, n2 k hk, n1 k hk], updL_n (by omega), Or.inl ⟨y3 * 86400 + u3, ?_, rfl, updL_s, by omega, by omega⟩⟩
        unfold sp_two
        simp only [Option.bind_some, Int.reduceEq, ↓reduceIte, e2, e3, sp_I]
      · unfold fX10_instant
        simp (disch := omega) only [zI_eq, Int.reduceEq, ↓reduceIte, bd1_t, gz_0]
        refine ⟨_, _, _, rfl, fun k hk => by rw [n3 k hk, n2 k hk, n1 k hk], updL_n (by omega), Or.inr ⟨?_, rfl⟩⟩
        unfold sp_two
        simp only [Option.bind_some, Int.reduceEq, ↓reduceIte, e2, e3, Option.bind_none]
    · unfold fX10_instant
      simp (disch := omega) only [zI_eq, Int.reduceEq, ↓reduceIte, bd1_t, gz_0]
      refine ⟨_, _, _, rfl, fun k hk => by rw [n2 k hk, n1 k hk], updL_n (by omega), Or.inr ⟨?_, rfl⟩⟩
      unfold sp_two
      simp only [Int.reduceEq, ↓reduceIte, e2, Option.bind_none]
  · have gI := e_instant_m N j c13 c14 hx h0
    simp (disch := omega) only [zI_eq, Int.reduceEq, ↓reduceIte, gI, bd1_t, gz_1]
    refine ⟨_, _, _, rfl, n1, updL_n (by omega), Or.inl ⟨x * 86400 + 0, ?_, rfl, updL_s, by omega, by omega⟩⟩
    unfold sp_two
    simp only [Int.reduceEq, ↓reduceIte, Int.add_zero]
  · obtain ⟨i2, r2, c2, n2, g2⟩ := e_addsSpan N hN (i := i1) (j := j) (n := 2) (ord := 0) hk2 s4 s5 s6 (hb3 rfl) hb1 hl (by omega) c13 hx c14 h0
    simp (disch := omega) only [zI_eq, Int.reduceEq, ↓reduceIte, c2, bd2_t]
    rcases g2 with ⟨y2, u2, sh2, e2, rfl, i13', i14', i15', b1', b2', b3'⟩ | ⟨e2, rfl⟩
    · have gI := e_instant_m N j i13' i14' b1' b2'
      simp (disch := omega) only [zI_eq, Int.reduceEq, ↓reduceIte, gI, bd1_t, gz_1]
      refine ⟨_, _, _, rfl, fun k hk => by rw [n2 k hk, n1 k hk], updL_n (by omega), Or.inl ⟨y2 * 86400 + u2, ?_, rfl, updL_s, by omega, by omega⟩⟩
      unfold sp_two
      simp only [Option.bind_some, Int.reduceEq, ↓reduceIte, e2, sp_I]
    · unfold fX10_instant
      simp (disch := omega) only [zI_eq, Int.reduceEq, ↓reduceIte, bd1_t, gz_0]
      refine ⟨_, _, _, rfl, fun k hk => by rw [n2 k hk, n1 k hk], updL_n (by omega), Or.inr ⟨?_, rfl⟩⟩
      unfold sp_two
      simp only [Int.reduceEq, ↓reduceIte, e2, Option.bind_none]
  · obtain ⟨i2, r2, c2, n2, g2⟩ := e_addsO N hN (i := i1) (j := j) (ord := 1) hk2 s4 s5 s6 hb1 hl (by omega) c13 hx c14 h0
    simp (disch := omega) only [zI_eq, Int.reduceEq, ↓reduceIte, c2, bd2_t]
    rcases g2 with ⟨y2, u2, sh2, e2, rfl, i13', i14', i15', b1', b2', b3'⟩ | ⟨e2, rfl⟩
    · have gI := e_instant_m N j i13' i14' b1' b2'
      simp (disch := omega) only [zI_eq, Int.reduceEq, ↓reduceIte, gI, bd1_t, gz_1]
      refine ⟨_, _, _, rfl, fun k hk => by rw [n2 k hk, n1 k hk], updL_n (by omega), Or.inl ⟨y2 * 86400 + u2, ?_, rfl, updL_s, by omega, by omega⟩⟩
      unfold sp_two
      simp only [Option.bind_some, ↓reduceIte, e2, sp_I]
    · unfold fX10_instant
      simp (disch := omega) only [zI_eq, Int.reduceEq, ↓reduceIte, bd1_t, gz_0]
      refine ⟨_, _, _, rfl, fun k hk => by rw [n2 k hk, n1 k hk], updL_n (by omega), Or.inr ⟨?_, rfl⟩⟩
      unfold sp_two
      simp only [↓reduceIte, e2, Option.bind_none]
theorem e_unlike (N : Nat) (hN : 20000 ≤ N) {S i : Nat → Int32} {j : Nat → Int64} {k2 k3 : Nat} (hk2 : k2 < 8) (hk3 : k3 < 8) {w m1 d1 s1 m2 d2 s2 law x : Int} (s4 : S (3 * k2) = zI m1) (s5 : S (3 * k2 + 1) = zI d1) (s6 : S (3 * k2 + 2) = zI s1) (t4 : S (3 * k3) = zI m2) (t5 : S (3 * k3 + 1) = zI d2) (t6 : S (3 * k3 + 2) = zI s2) (hb1 : sp_b3 m1 d1 s1) (hb2 : sp_b3 m2 d2 s2) (hb3 : w = 2 → sp_b3 (m1 * 2) (d1 * 2) (s1 * 2)) (hl : 0 ≤ law ∧ law ≤ 3) (hw : 0 ≤ w ∧ w ≤ 3) (hx : 0 ≤ x ∧ x ≤ 3652058) :
    ∃ i' j' r, fX10_isUnlike N (zI w) (zI k2) (zI k3) (zI law) (zI x) i j S = some (r, i', j') ∧ (∀ k, k < 10 ∨ 15 < k → i' k = i k) ∧ ((∃ p q, sp_tr w m1 d1 s1 m2 d2 s2 law x = some (p, q) ∧ r = zI (if p = q then 0 else 1) ∧ j' 25 = zL p ∧ j' 26 = zL q) ∨ (sp_tr w m1 d1 s1 m2 d2 s2 law x = none ∧ r = zI 0)) := by
  have z01 : ¬ (zI 1 = (0 : Int32)) := by decide
  obtain ⟨i1, j1, r1, c1, n1, g1⟩ := e_one N hN (i := i) (j := j) hk2 hk3 s4 s5 s6 t4 t5 t6 hb1 hb2 hl hw hx
  unfold fX10_isUnlike
  rw [c1, bd3_s, tr_split hw]
  rcases g1 with ⟨p, e1, rfl, jp, bp⟩ | ⟨e1, rfl⟩
  · rw [if_neg z01, e1, Option.bind_some]
    obtain ⟨i2, j2, r2, c2, n2, j25, g2⟩ := e_two N hN (i := i1) (j := j1) hk2 hk3 s4 s5 s6 t4 t5 t6 hb1 hb2 hb3 hl hw hx
    rw [c2, bd3_s]
    rcases g2 with ⟨q, e2, rfl, jq, bq⟩ | ⟨e2, rfl⟩
    · rw [if_neg z01, e2, Option.bind_some, j25, jp, jq]
      by_cases h : p = q
      · rw [if_pos (k_eq h)]
        exact ⟨_, _, _, rfl, fun k hk => by rw [n2 k hk, n1 k hk], Or.inl ⟨p, q, rfl, by rw [if_pos h, zl_0], by rw [j25, jp], jq⟩⟩
      · rw [if_neg (k_neq (by omega))]
        exact ⟨_, _, _, rfl, fun k hk => by rw [n2 k hk, n1 k hk], Or.inl ⟨p, q, rfl, by rw [if_neg h, zl_1], by rw [j25, jp], jq⟩⟩
    · rw [if_pos zl_0.symm, e2, Option.bind_none]
      exact ⟨_, _, _, rfl, fun k hk => by rw [n2 k hk, n1 k hk], Or.inr ⟨rfl, zl_0⟩⟩
  · rw [if_pos zl_0.symm, e1, Option.bind_none]
    exact ⟨_, _, _, rfl, n1, Or.inr ⟨rfl, zl_0⟩⟩
