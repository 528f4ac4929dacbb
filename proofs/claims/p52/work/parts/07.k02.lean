noncomputable def fX9_least_l104 (N : Nat) (i_this : Int32) (f_this_now_day : Nat → Int32) (n : Nat) : Int32 → Int32 → Int32 → Int32 → Int32 → Int32 → Int32 → Int32 → Int32 → Int32 → (Nat → Int64) → (Nat → Int32) → Option (Int32 × Int32 × (Nat → Int64) × (Nat → Int32)) := Nat.rec (motive := fun _ => Int32 → Int32 → Int32 → Int32 → Int32 → Int32 → Int32 → Int32 → Int32 → Int32 → (Nat → Int64) → (Nat → Int32) → Option (Int32 × Int32 × (Nat → Int64) × (Nat → Int32))) (fun _ _ _ _ _ _ _ _ _ _ _ _ => none) (fun _ K_104 v3 v4 v5 v6 v7 v8 v9 v10 v11 i_this_told f_this_told_numbers i_this_adder => (if v7 < v11 then (bd2 (fX3_tell_ N v9.toInt64 v10.toInt64 i_this_told f_this_told_numbers) fun i_this_told_2 f_this_told_numbers_3 => (some (v8, i_this_told_2, f_this_told_numbers_3, i_this_adder))) else (bd1 (fX0_takesNumbers N (v6 * v11) (0 : Int32) (0 : Int32) v3 i_this_adder) fun i_this_adder_5 => (bd2 (fX0_leads N v4 (0 : Int32) (0 : Int32) i_this_adder_5) fun r7 i_this_adder_8 => (if r7 = (0 : Int32) then (nm (v11 + (1 : Int32)) fun z11 => (K_104 v3 v4 v5 v6 v7 v8 v9 v10 z11 i_this_told f_this_told_numbers i_this_adder_8)) else (bd1 (fX9_phraseSize N v11 (v5 - (i_this_adder_8 8))) fun r12 => (if v8 ≤ r12 then (nm (v11 + (1 : Int32)) fun z15 => (K_104 v3 v4 v5 v6 v7 v8 v9 v10 z15 i_this_told f_this_told_numbers i_this_adder_8)) else (bd1 (fX9_phraseSize N v11 (v5 - (i_this_adder_8 8))) fun r16 => (nm (v6 * v11) fun z18 => (nm (v5 - (i_this_adder_8 8)) fun z19 => (nm (v11 + (1 : Int32)) fun z20 => (K_104 v3 v4 v5 v6 v7 r16 z18 z19 z20 i_this_told f_this_told_numbers i_this_adder_8)))))))))))) n
theorem fX9_least_l104_s (N : Nat) (i_this : Int32) (f_this_now_day : Nat → Int32) (n : Nat) (v3 : Int32) (v4 : Int32) (v5 : Int32) (v6 : Int32) (v7 : Int32) (v8 : Int32) (v9 : Int32) (v10 : Int32) (v11 : Int32) (i_this_told : Int32) (f_this_told_numbers : Nat → Int64) (i_this_adder : Nat → Int32) : fX9_least_l104 N i_this f_this_now_day (n + 1) v3 v4 v5 v6 v7 v8 v9 v10 v11 i_this_told f_this_told_numbers i_this_adder = (if v7 < v11 then (bd2 (fX3_tell_ N v9.toInt64 v10.toInt64 i_this_told f_this_told_numbers) fun i_this_told_2 f_this_told_numbers_3 => (some (v8, i_this_told_2, f_this_told_numbers_3, i_this_adder))) else (bd1 (fX0_takesNumbers N (v6 * v11) (0 : Int32) (0 : Int32) v3 i_this_adder) fun i_this_adder_5 => (bd2 (fX0_leads N v4 (0 : Int32) (0 : Int32) i_this_adder_5) fun r7 i_this_adder_8 => (if r7 = (0 : Int32) then (nm (v11 + (1 : Int32)) fun z11 => ((fX9_least_l104 N i_this f_this_now_day n) v3 v4 v5 v6 v7 v8 v9 v10 z11 i_this_told f_this_told_numbers i_this_adder_8)) else (bd1 (fX9_phraseSize N v11 (v5 - (i_this_adder_8 8))) fun r12 => (if v8 ≤ r12 then (nm (v11 + (1 : Int32)) fun z15 => ((fX9_least_l104 N i_this f_this_now_day n) v3 v4 v5 v6 v7 v8 v9 v10 z15 i_this_told f_this_told_numbers i_this_adder_8)) else (bd1 (fX9_phraseSize N v11 (v5 - (i_this_adder_8 8))) fun r16 => (nm (v6 * v11) fun z18 => (nm (v5 - (i_this_adder_8 8)) fun z19 => (nm (v11 + (1 : Int32)) fun z20 => ((fX9_least_l104 N i_this f_this_now_day n) v3 v4 v5 v6 v7 r16 z18 z19 z20 i_this_told f_this_told_numbers i_this_adder_8))))))))))) := rfl
theorem fX9_least_l104_0 (N : Nat) (i_this : Int32) (f_this_now_day : Nat → Int32) (v3 : Int32) (v4 : Int32) (v5 : Int32) (v6 : Int32) (v7 : Int32) (v8 : Int32) (v9 : Int32) (v10 : Int32) (v11 : Int32) (i_this_told : Int32) (f_this_told_numbers : Nat → Int64) (i_this_adder : Nat → Int32) : fX9_least_l104 N i_this f_this_now_day 0 v3 v4 v5 v6 v7 v8 v9 v10 v11 i_this_told f_this_told_numbers i_this_adder = none := rfl
noncomputable def fX9_least_j55 (N : Nat) (i_this : Int32) (f_this_now_day : Nat → Int32) (v3 : Int32) (v4 : Int32) (v5 : Int32) (t0 : Int32) (i_this_told : Int32) (f_this_told_numbers : Nat → Int64) (i_this_adder : Nat → Int32) : Option (Int32 × Int32 × (Nat → Int64) × (Nat → Int32)) := (bd1 (fX9_instantOf N v5 (0 : Int32)) fun r21 => (bd2 (fX9_mostMonths N v4 (0 : Int32) r21 v3 (0 : Int32) i_this i_this_adder) fun r23 i_this_adder_24 => (nm (if 0 ≤ r23 then r23 else 0 - r23) fun z26 => (nm (z26 + (12 : Int32)) fun z27 => (bd1 (fX9_phraseSize N (0 : Int32) (v5 - v4)) fun r28 => (nm (v5 - v4) fun z30 => (fX9_least_l104 N i_this f_this_now_day N v3 v4 v5 t0 z27 r28 (0 : Int32) z30 (1 : Int32) i_this_told f_this_told_numbers i_this_adder_24)))))))
noncomputable def fX9_least (N : Nat) (p1 : Int32) (p2 : Int32) (p3 : Int32) (i_this : Int32) (f_this_now_day : Nat → Int32) (i_this_told : Int32) (f_this_told_numbers : Nat → Int64) (i_this_adder : Nat → Int32) : Option (Int32 × Int32 × (Nat → Int64) × (Nat → Int32)) := (bd1 (fX9_isSlot N p1) fun r31 => (if r31 = (0 : Int32) then (some ((-1 : Int32), i_this_told, f_this_told_numbers, i_this_adder)) else (bd1 (fX9_isSlot N p2) fun r34 => (if r34 = (0 : Int32) then (some ((-1 : Int32), i_this_told, f_this_told_numbers, i_this_adder)) else (bd1 (fX9_isLaw N p3) fun r37 => (if r37 = (0 : Int32) then (some ((-1 : Int32), i_this_told, f_this_told_numbers, i_this_adder)) else (bd1 (fX4_dayAt N p1 f_this_now_day) fun r40 => (bd1 (fX4_dayAt N p2 f_this_now_day) fun r42 => (if r40 ≤ r42 then (fX9_least_j55 N i_this f_this_now_day p3 r40 r42 (1 : Int32) i_this_told f_this_told_numbers i_this_adder) else (fX9_least_j55 N i_this f_this_now_day p3 r40 r42 (-1 : Int32) i_this_told f_this_told_numbers i_this_adder))))))))))
set_option maxHeartbeats 4000000 in
set_option maxRecDepth 100000 in
theorem kX9_least (l : Launch) (dC : Nat → ClassId) (dI : Nat → Nat → Nat) (cI cJ cB : ClassId) (h_this h_this_now h_this_kept h_this_told h_this_text h_this_script h_this_momentReader h_this_spanReader h_this_adder h_this_other h_this_trial h_this_ways h_this_now_day h_this_now_second h_this_now_months h_this_now_days h_this_now_seconds h_this_told_numbers : Nat) (N : Nat) (p1 : Int32) (p2 : Int32) (p3 : Int32) (i_this : Int32) (f_this_now_day : Nat → Int32) (i_this_told : Int32) (f_this_told_numbers : Nat → Int64) (i_this_adder : Nat → Int32) (r : Int32) (o_i_this_told : Int32) (o_f_this_told_numbers : Nat → Int64) (o_i_this_adder : Nat → Int32) (hf : fX9_least N p1 p2 p3 i_this f_this_now_day i_this_told f_this_told_numbers i_this_adder = some (r, o_i_this_told, o_f_this_told_numbers, o_i_this_adder)) : MI l yX9_least (kws yX9_least cX9_least 12 (some .int)) (kR 6 147) (dC, dI) (kT cI cJ cB) [.ref h_this, .int p1, .int p2, .int p3] [cl_X9 h_this h_this_now h_this_kept h_this_told h_this_text h_this_script h_this_momentReader h_this_spanReader h_this_adder h_this_other h_this_trial h_this_ways i_this, cl_X4 h_this_now h_this_now_day h_this_now_second h_this_now_months h_this_now_days h_this_now_seconds, (h_this_now_day, .inl (cI, 8, .inl f_this_now_day)), cl_X3 h_this_told h_this_told_numbers i_this_told, (h_this_told_numbers, .inl (cJ, 8, .inr (.inl f_this_told_numbers))), cl_X0 h_this_adder i_this_adder] [cl_X9 h_this h_this_now h_this_kept h_this_told h_this_text h_this_script h_this_momentReader h_this_spanReader h_this_adder h_this_other h_this_trial h_this_ways i_this, cl_X4 h_this_now h_this_now_day h_this_now_second h_this_now_months h_this_now_days h_this_now_seconds, (h_this_now_day, .inl (cI, 8, .inl f_this_now_day)), cl_X3 h_this_told h_this_told_numbers o_i_this_told, (h_this_told_numbers, .inl (cJ, 8, .inr (.inl o_f_this_told_numbers))), cl_X0 h_this_adder o_i_this_adder] r := by
  refine MI.of (cc := cX9_least) (maxL := 12) (by decide) (Nat.le_of_ble_eq_true rfl) (fun p e s m args below meth c A Q ls KC hN hK hP hD hA hl hEnd => ?_)
  obtain ⟨hx, hb, hml, hown, hts⟩ := KC
  have hown : s.vm.findClass "DateSpans" = some m.cls := hown
  have hl : lv_has ls 12 [(0, .ref h_this), (1, .int p1), (2, .int p2), (3, .int p3)] := hl
  have hS : va_S A s.heap s.heap [] := va_S.rf
  have LP_104 : ∀ n_104 : Nat, ∀ (v3 : Int32) (v4 : Int32) (v5 : Int32) (v6 : Int32) (v7 : Int32) (v8 : Int32) (v9 : Int32) (v10 : Int32) (v11 : Int32) (i_this_told : Int32) (f_this_told_numbers : Nat → Int64) (i_this_adder : Nat → Int32) (ls : Array Slot) (H : Heap) (locs : List Loc), fX9_least_l104 N i_this f_this_now_day n_104 v3 v4 v5 v6 v7 v8 v9 v10 v11 i_this_told f_this_told_numbers i_this_adder = some (r, o_i_this_told, o_f_this_told_numbers, o_i_this_adder) → lv_has ls 12 [(0, .ref h_this), (3, .int v3), (4, .int v4), (5, .int v5), (6, .int v6), (7, .int v7), (8, .int v8), (9, .int v9), (10, .int v10), (11, .int v11)] → va_P (dC, dI) vwCl [cl_X9 h_this h_this_now h_this_kept h_this_told h_this_text h_this_script h_this_momentReader h_this_spanReader h_this_adder h_this_other h_this_trial h_this_ways i_this, cl_X4 h_this_now h_this_now_day h_this_now_second h_this_now_months h_this_now_days h_this_now_seconds, (h_this_now_day, .inl (cI, 8, .inl f_this_now_day)), cl_X3 h_this_told h_this_told_numbers i_this_told, (h_this_told_numbers, .inl (cJ, 8, .inr (.inl f_this_told_numbers))), cl_X0 h_this_adder i_this_adder] H → va_D A [cl_X9 h_this h_this_now h_this_kept h_this_told h_this_text h_this_script h_this_momentReader h_this_spanReader h_this_adder h_this_other h_this_trial h_this_ways i_this, cl_X4 h_this_now h_this_now_day h_this_now_second h_this_now_months h_this_now_days h_this_now_seconds, (h_this_now_day, .inl (cI, 8, .inl f_this_now_day)), cl_X3 h_this_told h_this_told_numbers i_this_told, (h_this_told_numbers, .inl (cJ, 8, .inr (.inl f_this_told_numbers))), cl_X0 h_this_adder i_this_adder] → va_S A s.heap H locs → W p l e (kR 6 147) s m args below meth c H locs 0 0 Q (F0 m 104 ls []) := by
    intro n_104
    induction n_104 with
    | zero =>
      intro v3 v4 v5 v6 v7 v8 v9 v10 v11 i_this_told f_this_told_numbers i_this_adder ls H locs h hl hP hD hS
      rw [fX9_least_l104_0] at h; cases h
    | succ n_104 ih_104 =>
      intro v3 v4 v5 v6 v7 v8 v9 v10 v11 i_this_told f_this_told_numbers i_this_adder ls H locs h hl hP hD hS
      rw [fX9_least_l104_s] at h
      refine lv_iload hx hb dX9_least_104 (lv_at hl 9 rfl) ?_
      refine lv_iload hx hb dX9_least_106 (lv_at hl 5 rfl) ?_
      refine lv_icmp_gt (tgt := 202) hx hb dX9_least_108 (by decide) (fun c1 => ?_) (fun c1 => ?_)
      · have h := ite_t c1 h
        refine lv_aload_n hx hb dX9_least_202 rfl (lv_at hl 0 rfl) ?_
        refine va_get (D := (dC, dI)) (ci := 8) (v := .ref h_this_told) (C := RX9) (T := TX9) (N := 12) hx hb hts inX9 hown hK hP 0 rfl rfl 3 (by decide) (hts _ (kq q_229 rfl)) (fun _ h9 => h9) rfl dX9_least_203 ?_
        refine lv_iload hx hb dX9_least_206 (lv_at hl 7 rfl) ?_
        refine lv_i2l hx hb dX9_least_208 rfl ?_
        refine lv_iload hx hb dX9_least_209 (lv_at hl 8 rfl) ?_
        refine lv_i2l hx hb dX9_least_211 rfl ?_
        obtain ⟨i_this_told_2, f_this_told_numbers_3, hc4, h⟩ := bd2_at h
        refine kjV (kV (own := "DateSpans") (C := "DateSpans$Row") (b := h_this_told) (As := [.long v9.toInt64, .long v10.toInt64]) (rest := []) ⟨hx, hb, hml, hown, hts⟩ (kX3_tell_ l dC dI cI cJ cB h_this_told h_this_told_numbers N v9.toInt64 v10.toInt64 i_this_told f_this_told_numbers i_this_told_2 f_this_told_numbers_3 hc4 _) (kgV (kq q_418 rfl) (kq q_419 rfl) (kq q_420 rfl) (kq q_20 rfl) (kq q_421 rfl)) yd_X3_tell_ ⟨Nat.le_of_ble_eq_true rfl, Nat.le_of_ble_eq_true rfl⟩ hN hK hP hD [3, 4] rfl rfl (ci := 2) rfl rfl rfl rfl rfl hl.1 rfl (lv_room (Nat.le_of_ble_eq_true rfl)) dX9_least_212) hP hD hS hA [3, 4] rfl rfl (fun H locs hP hD hS => ?_)
        have hP : va_P (dC, dI) vwCl [cl_X9 h_this h_this_now h_this_kept h_this_told h_this_text h_this_script h_this_momentReader h_this_spanReader h_this_adder h_this_other h_this_trial h_this_ways i_this, cl_X4 h_this_now h_this_now_day h_this_now_second h_this_now_months h_this_now_days h_this_now_seconds, (h_this_now_day, .inl (cI, 8, .inl f_this_now_day)), cl_X3 h_this_told h_this_told_numbers i_this_told_2, (h_this_told_numbers, .inl (cJ, 8, .inr (.inl f_this_told_numbers_3))), cl_X0 h_this_adder i_this_adder] H := hP
        have hD : va_D A [cl_X9 h_this h_this_now h_this_kept h_this_told h_this_text h_this_script h_this_momentReader h_this_spanReader h_this_adder h_this_other h_this_trial h_this_ways i_this, cl_X4 h_this_now h_this_now_day h_this_now_second h_this_now_months h_this_now_days h_this_now_seconds, (h_this_now_day, .inl (cI, 8, .inl f_this_now_day)), cl_X3 h_this_told h_this_told_numbers i_this_told_2, (h_this_told_numbers, .inl (cJ, 8, .inr (.inl f_this_told_numbers_3))), cl_X0 h_this_adder i_this_adder] := hD
        refine lv_iload hx hb dX9_least_215 (lv_at hl 6 rfl) ?_
        obtain ⟨rfl, rfl, rfl, rfl⟩ := pj4 h
        exact hEnd _ _ _ _ hP hS dX9_least_217 rfl
      have h := ite_f c1 h
      refine lv_aload_n hx hb dX9_least_111 rfl (lv_at hl 0 rfl) ?_
      refine va_get (D := (dC, dI)) (ci := 8) (v := .ref h_this_adder) (C := RX9) (T := TX9) (N := 12) hx hb hts inX9 hown hK hP 0 rfl rfl 8 (by decide) (hts _ (kq q_234 rfl)) (fun _ h9 => h9) rfl dX9_least_112 ?_
      refine lv_iload hx hb dX9_least_115 (lv_at hl 4 rfl) ?_
      refine lv_iload hx hb dX9_least_117 (lv_at hl 9 rfl) ?_
      refine lv_imul hx hb dX9_least_119 ?_
      refine lv_iconst (v := (0 : Int32)) hx hb dX9_least_120 (by decide) ?_
      refine lv_iconst (v := (0 : Int32)) hx hb dX9_least_121 (by decide) ?_
      refine lv_iload_n hx hb dX9_least_122 rfl (lv_at hl 1 rfl) ?_
      obtain ⟨i_this_adder_5, hc6, h⟩ := bd1_at h
      refine kjV (kV (own := "DateSpans") (C := "DateSpans$Adder") (b := h_this_adder) (As := [.int (v6 * v11), .int (0 : Int32), .int (0 : Int32), .int v3]) (rest := []) ⟨hx, hb, hml, hown, hts⟩ (kX0_takesNumbers l dC dI cI cJ cB h_this_adder N (v6 * v11) (0 : Int32) (0 : Int32) v3 i_this_adder i_this_adder_5 hc6 _) (kgV (kq q_459 rfl) (kq q_367 rfl) (kq q_368 rfl) (kq q_24 rfl) (kq q_369 rfl)) yd_X0_takesNumbers ⟨Nat.le_of_ble_eq_true rfl, Nat.le_of_ble_eq_true rfl⟩ hN hK hP hD [5] rfl rfl (ci := 0) rfl rfl rfl rfl rfl hl.1 rfl (lv_room (Nat.le_of_ble_eq_true rfl)) dX9_least_123) hP hD hS hA [5] rfl rfl (fun H locs hP hD hS => ?_)
      have hP : va_P (dC, dI) vwCl [cl_X9 h_this h_this_now h_this_kept h_this_told h_this_text h_this_script h_this_momentReader h_this_spanReader h_this_adder h_this_other h_this_trial h_this_ways i_this, cl_X4 h_this_now h_this_now_day h_this_now_second h_this_now_months h_this_now_days h_this_now_seconds, (h_this_now_day, .inl (cI, 8, .inl f_this_now_day)), cl_X3 h_this_told h_this_told_numbers i_this_told, (h_this_told_numbers, .inl (cJ, 8, .inr (.inl f_this_told_numbers))), cl_X0 h_this_adder i_this_adder_5] H := hP
      have hD : va_D A [cl_X9 h_this h_this_now h_this_kept h_this_told h_this_text h_this_script h_this_momentReader h_this_spanReader h_this_adder h_this_other h_this_trial h_this_ways i_this, cl_X4 h_this_now h_this_now_day h_this_now_second h_this_now_months h_this_now_days h_this_now_seconds, (h_this_now_day, .inl (cI, 8, .inl f_this_now_day)), cl_X3 h_this_told h_this_told_numbers i_this_told, (h_this_told_numbers, .inl (cJ, 8, .inr (.inl f_this_told_numbers))), cl_X0 h_this_adder i_this_adder_5] := hD
      refine lv_aload_n hx hb dX9_least_126 rfl (lv_at hl 0 rfl) ?_
      refine va_get (D := (dC, dI)) (ci := 8) (v := .ref h_this_adder) (C := RX9) (T := TX9) (N := 12) hx hb hts inX9 hown hK hP 0 rfl rfl 8 (by decide) (hts _ (kq q_234 rfl)) (fun _ h9 => h9) rfl dX9_least_127 ?_
      refine lv_iload hx hb dX9_least_130 (lv_at hl 2 rfl) ?_
      refine lv_iconst (v := (0 : Int32)) hx hb dX9_least_132 (by decide) ?_
      refine lv_iconst (v := (0 : Int32)) hx hb dX9_least_133 (by decide) ?_
      obtain ⟨r7, i_this_adder_8, hc9, h⟩ := bd2_at h
      refine kjI (kV (own := "DateSpans") (C := "DateSpans$Adder") (b := h_this_adder) (As := [.int v4, .int (0 : Int32), .int (0 : Int32)]) (rest := []) ⟨hx, hb, hml, hown, hts⟩ (kX0_leads l dC dI cI cJ cB h_this_adder N v4 (0 : Int32) (0 : Int32) i_this_adder_5 r7 i_this_adder_8 hc9 _) (kgV (kq q_370 rfl) (kq q_371 rfl) (kq q_372 rfl) (kq q_24 rfl) (kq q_373 rfl)) yd_X0_leads ⟨Nat.le_of_ble_eq_true rfl, Nat.le_of_ble_eq_true rfl⟩ hN hK hP hD [5] rfl rfl (ci := 0) rfl rfl rfl rfl rfl hl.1 rfl (lv_room (Nat.le_of_ble_eq_true rfl)) dX9_least_134) hP hD hS hA [5] rfl rfl (fun H locs hP hD hS => ?_)
      have hP : va_P (dC, dI) vwCl [cl_X9 h_this h_this_now h_this_kept h_this_told h_this_text h_this_script h_this_momentReader h_this_spanReader h_this_adder h_this_other h_this_trial h_this_ways i_this, cl_X4 h_this_now h_this_now_day h_this_now_second h_this_now_months h_this_now_days h_this_now_seconds, (h_this_now_day, .inl (cI, 8, .inl f_this_now_day)), cl_X3 h_this_told h_this_told_numbers i_this_told, (h_this_told_numbers, .inl (cJ, 8, .inr (.inl f_this_told_numbers))), cl_X0 h_this_adder i_this_adder_8] H := hP
      have hD : va_D A [cl_X9 h_this h_this_now h_this_kept h_this_told h_this_text h_this_script h_this_momentReader h_this_spanReader h_this_adder h_this_other h_this_trial h_this_ways i_this, cl_X4 h_this_now h_this_now_day h_this_now_second h_this_now_months h_this_now_days h_this_now_seconds, (h_this_now_day, .inl (cI, 8, .inl f_this_now_day)), cl_X3 h_this_told h_this_told_numbers i_this_told, (h_this_told_numbers, .inl (cJ, 8, .inr (.inl f_this_told_numbers))), cl_X0 h_this_adder i_this_adder_8] := hD
      refine lv_if_eq (tgt := 196) hx hb dX9_least_137 (by decide) (fun c10 => ?_) (fun c10 => ?_)
      · have h := ite_t c10 h
        obtain ⟨z11, ez11⟩ : ∃ y : Int32, y = (v11 + (1 : Int32)) := ⟨_, rfl⟩
        have h := nm_at ez11 h
        refine lv_iinc (v := z11) (lv' := [(11, .int z11), (0, .ref h_this), (3, .int v3), (4, .int v4), (5, .int v5), (6, .int v6), (7, .int v7), (8, .int v8), (9, .int v9), (10, .int v10)]) hx hb dX9_least_196 hl (k := 9) rfl (by rw [ez11]; rfl) (by decide) rfl (fun ls hl => ?_)
        refine lv_goto (tgt := 104) hx hb dX9_least_199 (by decide) ?_
        exact ih_104 _ _ _ _ _ _ _ _ _ _ _ _ _ _ _ h (lv_sub hl [1, 2, 3, 4, 5, 6, 7, 8, 9, 0] rfl) hP hD hS
      have h := ite_f c10 h
      refine lv_iload hx hb dX9_least_140 (lv_at hl 9 rfl) ?_
      refine lv_iload hx hb dX9_least_142 (lv_at hl 3 rfl) ?_
      refine lv_aload_n hx hb dX9_least_144 rfl (lv_at hl 0 rfl) ?_
      refine va_get (D := (dC, dI)) (ci := 8) (v := .ref h_this_adder) (C := RX9) (T := TX9) (N := 12) hx hb hts inX9 hown hK hP 0 rfl rfl 8 (by decide) (hts _ (kq q_234 rfl)) (fun _ h9 => h9) rfl dX9_least_145 ?_
      refine va_getN (D := (dC, dI)) (ci := 0) (v := .int (i_this_adder_8 8)) (C := RX0) (T := TX0) (N := 11) hx hb hts inX0 hown hK hP 5 rfl rfl 8 (by decide) (kN.use hN q_149 rfl) (fun _ h9 => h9) rfl dX9_least_148 ?_
      refine lv_isub hx hb dX9_least_151 ?_
      obtain ⟨r12, hc13, h⟩ := bd1_at h
      refine kjSI (kS0 (own := "DateSpans") (As := [.int v11, .int (v5 - (i_this_adder_8 8))]) (rest := []) ⟨hx, hb, hml, hown, hts⟩ (kX9_phraseSize l N v11 (v5 - (i_this_adder_8 8)) r12 hc13) (kgS (kq q_479 rfl) (kq q_480 rfl) (kq q_18 rfl) (kq q_481 rfl)) yd_X9_phraseSize ⟨Nat.le_of_ble_eq_true rfl, Nat.le_of_ble_eq_true rfl⟩ rfl rfl hl.1 rfl (lv_room (Nat.le_of_ble_eq_true rfl)) dX9_least_152) ?_
      refine lv_iload hx hb dX9_least_155 (lv_at hl 6 rfl) ?_
      refine lv_icmp_ge (tgt := 196) hx hb dX9_least_157 (by decide) (fun c14 => ?_) (fun c14 => ?_)
      · have h := ite_t c14 h
        obtain ⟨z15, ez15⟩ : ∃ y : Int32, y = (v11 + (1 : Int32)) := ⟨_, rfl⟩
        have h := nm_at ez15 h
        refine lv_iinc (v := z15) (lv' := [(11, .int z15), (0, .ref h_this), (3, .int v3), (4, .int v4), (5, .int v5), (6, .int v6), (7, .int v7), (8, .int v8), (9, .int v9), (10, .int v10)]) hx hb dX9_least_196 hl (k := 9) rfl (by rw [ez15]; rfl) (by decide) rfl (fun ls hl => ?_)
        refine lv_goto (tgt := 104) hx hb dX9_least_199 (by decide) ?_
        exact ih_104 _ _ _ _ _ _ _ _ _ _ _ _ _ _ _ h (lv_sub hl [1, 2, 3, 4, 5, 6, 7, 8, 9, 0] rfl) hP hD hS
      have h := ite_f c14 h
      refine lv_iload hx hb dX9_least_160 (lv_at hl 9 rfl) ?_
      refine lv_iload hx hb dX9_least_162 (lv_at hl 3 rfl) ?_
      refine lv_aload_n hx hb dX9_least_164 rfl (lv_at hl 0 rfl) ?_
      refine va_get (D := (dC, dI)) (ci := 8) (v := .ref h_this_adder) (C := RX9) (T := TX9) (N := 12) hx hb hts inX9 hown hK hP 0 rfl rfl 8 (by decide) (hts _ (kq q_234 rfl)) (fun _ h9 => h9) rfl dX9_least_165 ?_
      refine va_getN (D := (dC, dI)) (ci := 0) (v := .int (i_this_adder_8 8)) (C := RX0) (T := TX0) (N := 11) hx hb hts inX0 hown hK hP 5 rfl rfl 8 (by decide) (kN.use hN q_149 rfl) (fun _ h9 => h9) rfl dX9_least_168 ?_
      refine lv_isub hx hb dX9_least_171 ?_
      obtain ⟨r16, hc17, h⟩ := bd1_at h
      refine kjSI (kS0 (own := "DateSpans") (As := [.int v11, .int (v5 - (i_this_adder_8 8))]) (rest := []) ⟨hx, hb, hml, hown, hts⟩ (kX9_phraseSize l N v11 (v5 - (i_this_adder_8 8)) r16 hc17) (kgS (kq q_479 rfl) (kq q_480 rfl) (kq q_18 rfl) (kq q_481 rfl)) yd_X9_phraseSize ⟨Nat.le_of_ble_eq_true rfl, Nat.le_of_ble_eq_true rfl⟩ rfl rfl hl.1 rfl (lv_room (Nat.le_of_ble_eq_true rfl)) dX9_least_172) ?_
      refine lv_istore (lv' := [(8, .int r16), (0, .ref h_this), (3, .int v3), (4, .int v4), (5, .int v5), (6, .int v6), (7, .int v7), (9, .int v9), (10, .int v10), (11, .int v11)]) hx hb dX9_least_175 hl (by decide) rfl (fun ls hl => ?_)
      refine lv_iload hx hb dX9_least_177 (lv_at hl 5 rfl) ?_
      refine lv_iload hx hb dX9_least_179 (lv_at hl 9 rfl) ?_
      refine lv_imul hx hb dX9_least_181 ?_
      refine lv_topi (fun z18 ez18 => ?_)
      have h := nm_at ez18 h
      refine lv_istore (lv' := [(9, .int z18), (8, .int r16), (0, .ref h_this), (3, .int v3), (4, .int v4), (5, .int v5), (6, .int v6), (7, .int v7), (10, .int v10), (11, .int v11)]) hx hb dX9_least_182 hl (by decide) rfl (fun ls hl => ?_)
      refine lv_iload hx hb dX9_least_184 (lv_at hl 5 rfl) ?_
      refine lv_aload_n hx hb dX9_least_186 rfl (lv_at hl 2 rfl) ?_
      refine va_get (D := (dC, dI)) (ci := 8) (v := .ref h_this_adder) (C := RX9) (T := TX9) (N := 12) hx hb hts inX9 hown hK hP 0 rfl rfl 8 (by decide) (hts _ (kq q_234 rfl)) (fun _ h9 => h9) rfl dX9_least_187 ?_
      refine va_getN (D := (dC, dI)) (ci := 0) (v := .int (i_this_adder_8 8)) (C := RX0) (T := TX0) (N := 11) hx hb hts inX0 hown hK hP 5 rfl rfl 8 (by decide) (kN.use hN q_149 rfl) (fun _ h9 => h9) rfl dX9_least_190 ?_
      refine lv_isub hx hb dX9_least_193 ?_
      refine lv_topi (fun z19 ez19 => ?_)
      have h := nm_at ez19 h
      refine lv_istore (lv' := [(10, .int z19), (9, .int z18), (8, .int r16), (0, .ref h_this), (3, .int v3), (4, .int v4), (5, .int v5), (6, .int v6), (7, .int v7), (11, .int v11)]) hx hb dX9_least_194 hl (by decide) rfl (fun ls hl => ?_)
      obtain ⟨z20, ez20⟩ : ∃ y : Int32, y = (v11 + (1 : Int32)) := ⟨_, rfl⟩
      have h := nm_at ez20 h
      refine lv_iinc (v := z20) (lv' := [(11, .int z20), (10, .int z19), (9, .int z18), (8, .int r16), (0, .ref h_this), (3, .int v3), (4, .int v4), (5, .int v5), (6, .int v6), (7, .int v7)]) hx hb dX9_least_196 hl (k := 9) rfl (by rw [ez20]; rfl) (by decide) rfl (fun ls hl => ?_)
      refine lv_goto (tgt := 104) hx hb dX9_least_199 (by decide) ?_
      exact ih_104 _ _ _ _ _ _ _ _ _ _ _ _ _ _ _ h (lv_sub hl [4, 5, 6, 7, 8, 9, 3, 2, 1, 0] rfl) hP hD hS
  have JN_55 : ∀ (v3 : Int32) (v4 : Int32) (v5 : Int32) (t0 : Int32) (i_this_told : Int32) (f_this_told_numbers : Nat → Int64) (i_this_adder : Nat → Int32) (ls : Array Slot) (H : Heap) (locs : List Loc), (fX9_least_j55 N i_this f_this_now_day) v3 v4 v5 t0 i_this_told f_this_told_numbers i_this_adder = some (r, o_i_this_told, o_f_this_told_numbers, o_i_this_adder) → lv_has ls 12 [(0, .ref h_this), (3, .int v3), (4, .int v4), (5, .int v5)] → va_P (dC, dI) vwCl [cl_X9 h_this h_this_now h_this_kept h_this_told h_this_text h_this_script h_this_momentReader h_this_spanReader h_this_adder h_this_other h_this_trial h_this_ways i_this, cl_X4 h_this_now h_this_now_day h_this_now_second h_this_now_months h_this_now_days h_this_now_seconds, (h_this_now_day, .inl (cI, 8, .inl f_this_now_day)), cl_X3 h_this_told h_this_told_numbers i_this_told, (h_this_told_numbers, .inl (cJ, 8, .inr (.inl f_this_told_numbers))), cl_X0 h_this_adder i_this_adder] H → va_D A [cl_X9 h_this h_this_now h_this_kept h_this_told h_this_text h_this_script h_this_momentReader h_this_spanReader h_this_adder h_this_other h_this_trial h_this_ways i_this, cl_X4 h_this_now h_this_now_day h_this_now_second h_this_now_months h_this_now_days h_this_now_seconds, (h_this_now_day, .inl (cI, 8, .inl f_this_now_day)), cl_X3 h_this_told h_this_told_numbers i_this_told, (h_this_told_numbers, .inl (cJ, 8, .inr (.inl f_this_told_numbers))), cl_X0 h_this_adder i_this_adder] → va_S A s.heap H locs → W p l e (kR 6 147) s m args below meth c H locs 0 0 Q (F0 m 55 ls [.int t0]) := by
    intro v3 v4 v5 t0 i_this_told f_this_told_numbers i_this_adder ls H locs h hl hP hD hS
    unfold fX9_least_j55 at h
    refine lv_istore (lv' := [(6, .int t0), (0, .ref h_this), (3, .int v3), (4, .int v4), (5, .int v5)]) hx hb dX9_least_55 hl (by decide) rfl (fun ls hl => ?_)
    refine lv_aload_n hx hb dX9_least_57 rfl (lv_at hl 1 rfl) ?_
    refine lv_iload hx hb dX9_least_58 (lv_at hl 3 rfl) ?_
    refine lv_iconst (v := (0 : Int32)) hx hb dX9_least_60 (by decide) ?_
    refine lv_iload hx hb dX9_least_61 (lv_at hl 4 rfl) ?_
    refine lv_iconst (v := (0 : Int32)) hx hb dX9_least_63 (by decide) ?_
    obtain ⟨r21, hc22, h⟩ := bd1_at h
    refine kjSL (kS0 (own := "DateSpans") (As := [.int v5, .int (0 : Int32)]) (rest := [.int (0 : Int32), .int v4, .ref h_this]) ⟨hx, hb, hml, hown, hts⟩ (kX9_instantOf l N v5 (0 : Int32) r21 hc22) (kgS (kq q_454 rfl) (kq q_412 rfl) (kq q_18 rfl) (kq q_413 rfl)) yd_X9_instantOf ⟨Nat.le_of_ble_eq_true rfl, Nat.le_of_ble_eq_true rfl⟩ rfl rfl hl.1 rfl (lv_room (Nat.le_of_ble_eq_true rfl)) dX9_least_64) ?_
    refine lv_iload_n hx hb dX9_least_67 rfl (lv_at hl 2 rfl) ?_
    refine lv_iconst (v := (0 : Int32)) hx hb dX9_least_68 (by decide) ?_
    obtain ⟨r23, i_this_adder_24, hc25, h⟩ := bd2_at h
    refine kjI (kV (own := "DateSpans") (C := "DateSpans") (b := h_this) (As := [.int v4, .int (0 : Int32), .long r21, .int v3, .int (0 : Int32)]) (rest := []) ⟨hx, hb, hml, hown, hts⟩ (kX9_mostMonths l dC dI cI cJ cB h_this h_this_now h_this_kept h_this_told h_this_text h_this_script h_this_momentReader h_this_spanReader h_this_adder h_this_other h_this_trial h_this_ways N v4 (0 : Int32) r21 v3 (0 : Int32) i_this i_this_adder r23 i_this_adder_24 hc25 _) (kgV (kq q_450 rfl) (kq q_452 rfl) (kq q_4 rfl) (kq q_18 rfl) (kq q_453 rfl)) yd_X9_mostMonths ⟨Nat.le_of_ble_eq_true rfl, Nat.le_of_ble_eq_true rfl⟩ hN hK hP hD [0, 5] rfl rfl (ci := 8) rfl rfl rfl rfl rfl hl.1 rfl (lv_room (Nat.le_of_ble_eq_true rfl)) dX9_least_69) hP hD hS hA [0, 5] rfl rfl (fun H locs hP hD hS => ?_)
    have hP : va_P (dC, dI) vwCl [cl_X9 h_this h_this_now h_this_kept h_this_told h_this_text h_this_script h_this_momentReader h_this_spanReader h_this_adder h_this_other h_this_trial h_this_ways i_this, cl_X4 h_this_now h_this_now_day h_this_now_second h_this_now_months h_this_now_days h_this_now_seconds, (h_this_now_day, .inl (cI, 8, .inl f_this_now_day)), cl_X3 h_this_told h_this_told_numbers i_this_told, (h_this_told_numbers, .inl (cJ, 8, .inr (.inl f_this_told_numbers))), cl_X0 h_this_adder i_this_adder_24] H := hP
    have hD : va_D A [cl_X9 h_this h_this_now h_this_kept h_this_told h_this_text h_this_script h_this_momentReader h_this_spanReader h_this_adder h_this_other h_this_trial h_this_ways i_this, cl_X4 h_this_now h_this_now_day h_this_now_second h_this_now_months h_this_now_days h_this_now_seconds, (h_this_now_day, .inl (cI, 8, .inl f_this_now_day)), cl_X3 h_this_told h_this_told_numbers i_this_told, (h_this_told_numbers, .inl (cJ, 8, .inr (.inl f_this_told_numbers))), cl_X0 h_this_adder i_this_adder_24] := hD
    refine va_mabs (rest := []) hx hb (hml.trans hl.1.symm) hown (hts _ (kq q_456 rfl)) (hts _ (kq q_457 rfl)) (hts _ (kq q_27 rfl)) (hts _ (kq q_458 rfl)) (Nat.le_of_ble_eq_true rfl) (Nat.le_of_ble_eq_true rfl) (Nat.zero_le _) (Nat.zero_le _) dX9_least_72 ?_
    refine lv_topi (fun z26 ez26 => ?_)
    have h := nm_at ez26 h
    refine lv_bipush (v := (12 : Int32)) hx hb dX9_least_75 (by decide) ?_
    refine lv_iadd hx hb dX9_least_77 ?_
    refine lv_topi (fun z27 ez27 => ?_)
    have h := nm_at ez27 h
    refine lv_istore (lv' := [(7, .int z27), (6, .int t0), (0, .ref h_this), (3, .int v3), (4, .int v4), (5, .int v5)]) hx hb dX9_least_78 hl (by decide) rfl (fun ls hl => ?_)
    refine lv_iconst (v := (0 : Int32)) hx hb dX9_least_80 (by decide) ?_
    refine lv_iload hx hb dX9_least_81 (lv_at hl 5 rfl) ?_
    refine lv_iload hx hb dX9_least_83 (lv_at hl 4 rfl) ?_
    refine lv_isub hx hb dX9_least_85 ?_
    obtain ⟨r28, hc29, h⟩ := bd1_at h
    refine kjSI (kS0 (own := "DateSpans") (As := [.int (0 : Int32), .int (v5 - v4)]) (rest := []) ⟨hx, hb, hml, hown, hts⟩ (kX9_phraseSize l N (0 : Int32) (v5 - v4) r28 hc29) (kgS (kq q_479 rfl) (kq q_480 rfl) (kq q_18 rfl) (kq q_481 rfl)) yd_X9_phraseSize ⟨Nat.le_of_ble_eq_true rfl, Nat.le_of_ble_eq_true rfl⟩ rfl rfl hl.1 rfl (lv_room (Nat.le_of_ble_eq_true rfl)) dX9_least_86) ?_
    refine lv_istore (lv' := [(8, .int r28), (7, .int z27), (6, .int t0), (0, .ref h_this), (3, .int v3), (4, .int v4), (5, .int v5)]) hx hb dX9_least_89 hl (by decide) rfl (fun ls hl => ?_)
    refine lv_iconst (v := (0 : Int32)) hx hb dX9_least_91 (by decide) ?_
    refine lv_istore (lv' := [(9, .int (0 : Int32)), (8, .int r28), (7, .int z27), (6, .int t0), (0, .ref h_this), (3, .int v3), (4, .int v4), (5, .int v5)]) hx hb dX9_least_92 hl (by decide) rfl (fun ls hl => ?_)
    refine lv_iload hx hb dX9_least_94 (lv_at hl 7 rfl) ?_
    refine lv_iload hx hb dX9_least_96 (lv_at hl 6 rfl) ?_
    refine lv_isub hx hb dX9_least_98 ?_
    refine lv_topi (fun z30 ez30 => ?_)
    have h := nm_at ez30 h
    refine lv_istore (lv' := [(10, .int z30), (9, .int (0 : Int32)), (8, .int r28), (7, .int z27), (6, .int t0), (0, .ref h_this), (3, .int v3), (4, .int v4), (5, .int v5)]) hx hb dX9_least_99 hl (by decide) rfl (fun ls hl => ?_)
    refine lv_iconst (v := (1 : Int32)) hx hb dX9_least_101 (by decide) ?_
    refine lv_istore (lv' := [(11, .int (1 : Int32)), (10, .int z30), (9, .int (0 : Int32)), (8, .int r28), (7, .int z27), (6, .int t0), (0, .ref h_this), (3, .int v3), (4, .int v4), (5, .int v5)]) hx hb dX9_least_102 hl (by decide) rfl (fun ls hl => ?_)
    exact LP_104 N _ _ _ _ _ _ _ _ _ _ _ _ _ _ _ h (lv_sub hl [6, 7, 8, 9, 5, 4, 3, 2, 1, 0] rfl) hP hD hS
  have h := hf
  unfold fX9_least at h
  refine lv_iload_n hx hb dX9_least_0 rfl (lv_at hl 1 rfl) ?_
  obtain ⟨r31, hc32, h⟩ := bd1_at h
  refine kjSI (kS0 (own := "DateSpans") (As := [.int p1]) (rest := []) ⟨hx, hb, hml, hown, hts⟩ (kX9_isSlot l N p1 r31 hc32) (kgS (kq q_267 rfl) (kq q_268 rfl) (kq q_18 rfl) (kq q_269 rfl)) yd_X9_isSlot ⟨Nat.le_of_ble_eq_true rfl, Nat.le_of_ble_eq_true rfl⟩ rfl rfl hl.1 rfl (lv_room (Nat.le_of_ble_eq_true rfl)) dX9_least_1) ?_
  refine lv_if_eq (tgt := 21) hx hb dX9_least_4 (by decide) (fun c33 => ?_) (fun c33 => ?_)
  · have h := ite_t c33 h
    refine lv_iconst (v := (-1 : Int32)) hx hb dX9_least_21 (by decide) ?_
    obtain ⟨rfl, rfl, rfl, rfl⟩ := pj4 h
    exact hEnd _ _ _ _ hP hS dX9_least_22 rfl
  have h := ite_f c33 h
  refine lv_iload_n hx hb dX9_least_7 rfl (lv_at hl 2 rfl) ?_
  obtain ⟨r34, hc35, h⟩ := bd1_at h
  refine kjSI (kS0 (own := "DateSpans") (As := [.int p2]) (rest := []) ⟨hx, hb, hml, hown, hts⟩ (kX9_isSlot l N p2 r34 hc35) (kgS (kq q_267 rfl) (kq q_268 rfl) (kq q_18 rfl) (kq q_269 rfl)) yd_X9_isSlot ⟨Nat.le_of_ble_eq_true rfl, Nat.le_of_ble_eq_true rfl⟩ rfl rfl hl.1 rfl (lv_room (Nat.le_of_ble_eq_true rfl)) dX9_least_8) ?_
  refine lv_if_eq (tgt := 21) hx hb dX9_least_11 (by decide) (fun c36 => ?_) (fun c36 => ?_)
  · have h := ite_t c36 h
    refine lv_iconst (v := (-1 : Int32)) hx hb dX9_least_21 (by decide) ?_
    obtain ⟨rfl, rfl, rfl, rfl⟩ := pj4 h
    exact hEnd _ _ _ _ hP hS dX9_least_22 rfl
  have h := ite_f c36 h
  refine lv_iload_n hx hb dX9_least_14 rfl (lv_at hl 3 rfl) ?_
  obtain ⟨r37, hc38, h⟩ := bd1_at h
  refine kjSI (kS0 (own := "DateSpans") (As := [.int p3]) (rest := []) ⟨hx, hb, hml, hown, hts⟩ (kX9_isLaw l N p3 r37 hc38) (kgS (kq q_352 rfl) (kq q_353 rfl) (kq q_18 rfl) (kq q_354 rfl)) yd_X9_isLaw ⟨Nat.le_of_ble_eq_true rfl, Nat.le_of_ble_eq_true rfl⟩ rfl rfl hl.1 rfl (lv_room (Nat.le_of_ble_eq_true rfl)) dX9_least_15) ?_
  refine lv_if_ne (tgt := 23) hx hb dX9_least_18 (by decide) (fun c39 => ?_) (fun c39 => ?_)
  · have h := ite_f c39 h
    refine lv_aload_n hx hb dX9_least_23 rfl (lv_at hl 0 rfl) ?_
    refine va_get (D := (dC, dI)) (ci := 8) (v := .ref h_this_now) (C := RX9) (T := TX9) (N := 12) hx hb hts inX9 hown hK hP 0 rfl rfl 0 (by decide) (hts _ (kq q_226 rfl)) (fun _ h9 => h9) rfl dX9_least_24 ?_
    refine lv_iload_n hx hb dX9_least_27 rfl (lv_at hl 1 rfl) ?_
    obtain ⟨r40, hc41, h⟩ := bd1_at h
    refine kjI (kV (own := "DateSpans") (C := "DateSpans$Slots") (b := h_this_now) (As := [.int p1]) (rest := []) ⟨hx, hb, hml, hown, hts⟩ (kX4_dayAt l dC dI cI cJ cB h_this_now h_this_now_day h_this_now_second h_this_now_months h_this_now_days h_this_now_seconds N p1 f_this_now_day r40 hc41 _) (kgV (kq q_275 rfl) (kq q_276 rfl) (kq q_277 rfl) (kq q_19 rfl) (kq q_278 rfl)) yd_X4_dayAt ⟨Nat.le_of_ble_eq_true rfl, Nat.le_of_ble_eq_true rfl⟩ hN hK hP hD [1, 2] rfl rfl (ci := 3) rfl rfl rfl rfl rfl hl.1 rfl (lv_room (Nat.le_of_ble_eq_true rfl)) dX9_least_28) hP hD hS hA [1, 2] rfl rfl (fun H locs hP hD hS => ?_)
    have hP : va_P (dC, dI) vwCl [cl_X9 h_this h_this_now h_this_kept h_this_told h_this_text h_this_script h_this_momentReader h_this_spanReader h_this_adder h_this_other h_this_trial h_this_ways i_this, cl_X4 h_this_now h_this_now_day h_this_now_second h_this_now_months h_this_now_days h_this_now_seconds, (h_this_now_day, .inl (cI, 8, .inl f_this_now_day)), cl_X3 h_this_told h_this_told_numbers i_this_told, (h_this_told_numbers, .inl (cJ, 8, .inr (.inl f_this_told_numbers))), cl_X0 h_this_adder i_this_adder] H := hP
    have hD : va_D A [cl_X9 h_this h_this_now h_this_kept h_this_told h_this_text h_this_script h_this_momentReader h_this_spanReader h_this_adder h_this_other h_this_trial h_this_ways i_this, cl_X4 h_this_now h_this_now_day h_this_now_second h_this_now_months h_this_now_days h_this_now_seconds, (h_this_now_day, .inl (cI, 8, .inl f_this_now_day)), cl_X3 h_this_told h_this_told_numbers i_this_told, (h_this_told_numbers, .inl (cJ, 8, .inr (.inl f_this_told_numbers))), cl_X0 h_this_adder i_this_adder] := hD
    refine lv_istore (lv' := [(4, .int r40), (0, .ref h_this), (1, .int p1), (2, .int p2), (3, .int p3)]) hx hb dX9_least_31 hl (by decide) rfl (fun ls hl => ?_)
    refine lv_aload_n hx hb dX9_least_33 rfl (lv_at hl 1 rfl) ?_
    refine va_get (D := (dC, dI)) (ci := 8) (v := .ref h_this_now) (C := RX9) (T := TX9) (N := 12) hx hb hts inX9 hown hK hP 0 rfl rfl 0 (by decide) (hts _ (kq q_226 rfl)) (fun _ h9 => h9) rfl dX9_least_34 ?_
    refine lv_iload_n hx hb dX9_least_37 rfl (lv_at hl 3 rfl) ?_
    obtain ⟨r42, hc43, h⟩ := bd1_at h
    refine kjI (kV (own := "DateSpans") (C := "DateSpans$Slots") (b := h_this_now) (As := [.int p2]) (rest := []) ⟨hx, hb, hml, hown, hts⟩ (kX4_dayAt l dC dI cI cJ cB h_this_now h_this_now_day h_this_now_second h_this_now_months h_this_now_days h_this_now_seconds N p2 f_this_now_day r42 hc43 _) (kgV (kq q_275 rfl) (kq q_276 rfl) (kq q_277 rfl) (kq q_19 rfl) (kq q_278 rfl)) yd_X4_dayAt ⟨Nat.le_of_ble_eq_true rfl, Nat.le_of_ble_eq_true rfl⟩ hN hK hP hD [1, 2] rfl rfl (ci := 3) rfl rfl rfl rfl rfl hl.1 rfl (lv_room (Nat.le_of_ble_eq_true rfl)) dX9_least_38) hP hD hS hA [1, 2] rfl rfl (fun H locs hP hD hS => ?_)
    have hP : va_P (dC, dI) vwCl [cl_X9 h_this h_this_now h_this_kept h_this_told h_this_text h_this_script h_this_momentReader h_this_spanReader h_this_adder h_this_other h_this_trial h_this_ways i_this, cl_X4 h_this_now h_this_now_day h_this_now_second h_this_now_months h_this_now_days h_this_now_seconds, (h_this_now_day, .inl (cI, 8, .inl f_this_now_day)), cl_X3 h_this_told h_this_told_numbers i_this_told, (h_this_told_numbers, .inl (cJ, 8, .inr (.inl f_this_told_numbers))), cl_X0 h_this_adder i_this_adder] H := hP
    have hD : va_D A [cl_X9 h_this h_this_now h_this_kept h_this_told h_this_text h_this_script h_this_momentReader h_this_spanReader h_this_adder h_this_other h_this_trial h_this_ways i_this, cl_X4 h_this_now h_this_now_day h_this_now_second h_this_now_months h_this_now_days h_this_now_seconds, (h_this_now_day, .inl (cI, 8, .inl f_this_now_day)), cl_X3 h_this_told h_this_told_numbers i_this_told, (h_this_told_numbers, .inl (cJ, 8, .inr (.inl f_this_told_numbers))), cl_X0 h_this_adder i_this_adder] := hD
    refine lv_istore (lv' := [(5, .int r42), (4, .int r40), (0, .ref h_this), (1, .int p1), (2, .int p2), (3, .int p3)]) hx hb dX9_least_41 hl (by decide) rfl (fun ls hl => ?_)
    refine lv_iload hx hb dX9_least_43 (lv_at hl 0 rfl) ?_
    refine lv_iload hx hb dX9_least_45 (lv_at hl 1 rfl) ?_
    refine lv_icmp_ge (tgt := 54) hx hb dX9_least_47 (by decide) (fun c44 => ?_) (fun c44 => ?_)
    · have h := ite_t c44 h
      refine lv_iconst (v := (1 : Int32)) hx hb dX9_least_54 (by decide) ?_
      exact JN_55 _ _ _ _ _ _ _ _ _ _ h (lv_sub hl [2, 5, 1, 0] rfl) hP hD hS
    have h := ite_f c44 h
    refine lv_iconst (v := (-1 : Int32)) hx hb dX9_least_50 (by decide) ?_
    refine lv_goto (tgt := 55) hx hb dX9_least_51 (by decide) ?_
    exact JN_55 _ _ _ _ _ _ _ _ _ _ h (lv_sub hl [2, 5, 1, 0] rfl) hP hD hS
  have h := ite_t c39 h
  refine lv_iconst (v := (-1 : Int32)) hx hb dX9_least_21 (by decide) ?_
  obtain ⟨rfl, rfl, rfl, rfl⟩ := pj4 h
  exact hEnd _ _ _ _ hP hS dX9_least_22 rfl
noncomputable def fX9_age_j62 (N : Nat) (i_this : Int32) (f_this_now_day : Nat → Int32) (v3 : Int32) (v4 : Int32) (t0 : Int32) (i_this_told : Int32) (f_this_told_numbers : Nat → Int64) (i_this_adder : Nat → Int32) : Option (Int32 × Int32 × (Nat → Int64) × (Nat → Int32)) := (bd1 (fX0_takesNumbers N ((12 : Int32) * t0) (0 : Int32) (0 : Int32) (0 : Int32) i_this_adder) fun i_this_adder_1 => (bd2 (fX0_leads N v3 (0 : Int32) (0 : Int32) i_this_adder_1) fun r3 i_this_adder_4 => (nm (i_this_adder_4 8) fun z6 => (bd1 (fX0_takesNumbers N (((12 : Int32) * t0) + (12 : Int32)) (0 : Int32) (0 : Int32) (0 : Int32) i_this_adder_4) fun i_this_adder_7 => (bd2 (fX0_leads N v3 (0 : Int32) (0 : Int32) i_this_adder_7) fun r9 i_this_adder_10 => (if r9 = (0 : Int32) then (bd2 (fX3_tell_ N ((v4 - z6).toInt64) (-2 : Int64) i_this_told f_this_told_numbers) fun i_this_told_13 f_this_told_numbers_14 => (some (t0, i_this_told_13, f_this_told_numbers_14, i_this_adder_10))) else (bd2 (fX3_tell_ N ((v4 - z6).toInt64) (((i_this_adder_10 8) - v4).toInt64) i_this_told f_this_told_numbers) fun i_this_told_16 f_this_told_numbers_17 => (some (t0, i_this_told_16, f_this_told_numbers_17, i_this_adder_10)))))))))
noncomputable def fX9_age (N : Nat) (p1 : Int32) (p2 : Int32) (i_this : Int32) (f_this_now_day : Nat → Int32) (i_this_told : Int32) (f_this_told_numbers : Nat → Int64) (i_this_adder : Nat → Int32) : Option (Int32 × Int32 × (Nat → Int64) × (Nat → Int32)) := (bd1 (fX9_isSlot N p1) fun r19 => (if r19 = (0 : Int32) then (some ((-1 : Int32), i_this_told, f_this_told_numbers, i_this_adder)) else (bd1 (fX9_isSlot N p2) fun r22 => (if r22 = (0 : Int32) then (some ((-1 : Int32), i_this_told, f_this_told_numbers, i_this_adder)) else (bd1 (fX4_dayAt N p1 f_this_now_day) fun r25 => (bd1 (fX4_dayAt N p2 f_this_now_day) fun r27 => (if r25 ≤ r27 then (bd1 (fX9_instantOf N r27 (0 : Int32)) fun r30 => (bd2 (fX9_mostMonths N r25 (0 : Int32) r30 (0 : Int32) (1 : Int32) i_this i_this_adder) fun r32 i_this_adder_33 => (fX9_age_j62 N i_this f_this_now_day r25 r27 (r32 / (12 : Int32)) i_this_told f_this_told_numbers i_this_adder_33))) else (fX9_age_j62 N i_this f_this_now_day r25 r27 (0 : Int32) i_this_told f_this_told_numbers i_this_adder))))))))
set_option maxHeartbeats 4000000 in
set_option maxRecDepth 100000 in
theorem kX9_age (l : Launch) (dC : Nat → ClassId) (dI : Nat → Nat → Nat) (cI cJ cB : ClassId) (h_this h_this_now h_this_kept h_this_told h_this_text h_this_script h_this_momentReader h_this_spanReader h_this_adder h_this_other h_this_trial h_this_ways h_this_now_day h_this_now_second h_this_now_months h_this_now_days h_this_now_seconds h_this_told_numbers : Nat) (N : Nat) (p1 : Int32) (p2 : Int32) (i_this : Int32) (f_this_now_day : Nat → Int32) (i_this_told : Int32) (f_this_told_numbers : Nat → Int64) (i_this_adder : Nat → Int32) (r : Int32) (o_i_this_told : Int32) (o_f_this_told_numbers : Nat → Int64) (o_i_this_adder : Nat → Int32) (hf : fX9_age N p1 p2 i_this f_this_now_day i_this_told f_this_told_numbers i_this_adder = some (r, o_i_this_told, o_f_this_told_numbers, o_i_this_adder)) : MI l yX9_age (kws yX9_age cX9_age 8 (some .int)) (kR 6 147) (dC, dI) (kT cI cJ cB) [.ref h_this, .int p1, .int p2] [cl_X9 h_this h_this_now h_this_kept h_this_told h_this_text h_this_script h_this_momentReader h_this_spanReader h_this_adder h_this_other h_this_trial h_this_ways i_this, cl_X4 h_this_now h_this_now_day h_this_now_second h_this_now_months h_this_now_days h_this_now_seconds, (h_this_now_day, .inl (cI, 8, .inl f_this_now_day)), cl_X3 h_this_told h_this_told_numbers i_this_told, (h_this_told_numbers, .inl (cJ, 8, .inr (.inl f_this_told_numbers))), cl_X0 h_this_adder i_this_adder] [cl_X9 h_this h_this_now h_this_kept h_this_told h_this_text h_this_script h_this_momentReader h_this_spanReader h_this_adder h_this_other h_this_trial h_this_ways i_this, cl_X4 h_this_now h_this_now_day h_this_now_second h_this_now_months h_this_now_days h_this_now_seconds, (h_this_now_day, .inl (cI, 8, .inl f_this_now_day)), cl_X3 h_this_told h_this_told_numbers o_i_this_told, (h_this_told_numbers, .inl (cJ, 8, .inr (.inl o_f_this_told_numbers))), cl_X0 h_this_adder o_i_this_adder] r := by
  refine MI.of (cc := cX9_age) (maxL := 8) (by decide) (Nat.le_of_ble_eq_true rfl) (fun p e s m args below meth c A Q ls KC hN hK hP hD hA hl hEnd => ?_)
  obtain ⟨hx, hb, hml, hown, hts⟩ := KC
  have hown : s.vm.findClass "DateSpans" = some m.cls := hown
  have hl : lv_has ls 8 [(0, .ref h_this), (1, .int p1), (2, .int p2)] := hl
  have hS : va_S A s.heap s.heap [] := va_S.rf
  have JN_62 : ∀ (v3 : Int32) (v4 : Int32) (t0 : Int32) (i_this_told : Int32) (f_this_told_numbers : Nat → Int64) (i_this_adder : Nat → Int32) (ls : Array Slot) (H : Heap) (locs : List Loc), (fX9_age_j62 N i_this f_this_now_day) v3 v4 t0 i_this_told f_this_told_numbers i_this_adder = some (r, o_i_this_told, o_f_this_told_numbers, o_i_this_adder) → lv_has ls 8 [(0, .ref h_this), (3, .int v3), (4, .int v4)] → va_P (dC, dI) vwCl [cl_X9 h_this h_this_now h_this_kept h_this_told h_this_text h_this_script h_this_momentReader h_this_spanReader h_this_adder h_this_other h_this_trial h_this_ways i_this, cl_X4 h_this_now h_this_now_day h_this_now_second h_this_now_months h_this_now_days h_this_now_seconds, (h_this_now_day, .inl (cI, 8, .inl f_this_now_day)), cl_X3 h_this_told h_this_told_numbers i_this_told, (h_this_told_numbers, .inl (cJ, 8, .inr (.inl f_this_told_numbers))), cl_X0 h_this_adder i_this_adder] H → va_D A [cl_X9 h_this h_this_now h_this_kept h_this_told h_this_text h_this_script h_this_momentReader h_this_spanReader h_this_adder h_this_other h_this_trial h_this_ways i_this, cl_X4 h_this_now h_this_now_day h_this_now_second h_this_now_months h_this_now_days h_this_now_seconds, (h_this_now_day, .inl (cI, 8, .inl f_this_now_day)), cl_X3 h_this_told h_this_told_numbers i_this_told, (h_this_told_numbers, .inl (cJ, 8, .inr (.inl f_this_told_numbers))), cl_X0 h_this_adder i_this_adder] → va_S A s.heap H locs → W p l e (kR 6 147) s m args below meth c H locs 0 0 Q (F0 m 62 ls [.int t0]) := by
    intro v3 v4 t0 i_this_told f_this_told_numbers i_this_adder ls H locs h hl hP hD hS
    unfold fX9_age_j62 at h
    refine lv_istore (lv' := [(5, .int t0), (0, .ref h_this), (3, .int v3), (4, .int v4)]) hx hb dX9_age_62 hl (by decide) rfl (fun ls hl => ?_)
    refine lv_aload_n hx hb dX9_age_64 rfl (lv_at hl 1 rfl) ?_
    refine va_get (D := (dC, dI)) (ci := 8) (v := .ref h_this_adder) (C := RX9) (T := TX9) (N := 12) hx hb hts inX9 hown hK hP 0 rfl rfl 8 (by decide) (hts _ (kq q_234 rfl)) (fun _ h9 => h9) rfl dX9_age_65 ?_
    refine lv_bipush (v := (12 : Int32)) hx hb dX9_age_68 (by decide) ?_
    refine lv_iload hx hb dX9_age_70 (lv_at hl 0 rfl) ?_
    refine lv_imul hx hb dX9_age_72 ?_
    refine lv_iconst (v := (0 : Int32)) hx hb dX9_age_73 (by decide) ?_
    refine lv_iconst (v := (0 : Int32)) hx hb dX9_age_74 (by decide) ?_
    refine lv_iconst (v := (0 : Int32)) hx hb dX9_age_75 (by decide) ?_
    obtain ⟨i_this_adder_1, hc2, h⟩ := bd1_at h
    refine kjV (kV (own := "DateSpans") (C := "DateSpans$Adder") (b := h_this_adder) (As := [.int ((12 : Int32) * t0), .int (0 : Int32), .int (0 : Int32), .int (0 : Int32)]) (rest := []) ⟨hx, hb, hml, hown, hts⟩ (kX0_takesNumbers l dC dI cI cJ cB h_this_adder N ((12 : Int32) * t0) (0 : Int32) (0 : Int32) (0 : Int32) i_this_adder i_this_adder_1 hc2 _) (kgV (kq q_459 rfl) (kq q_367 rfl) (kq q_368 rfl) (kq q_24 rfl) (kq q_369 rfl)) yd_X0_takesNumbers ⟨Nat.le_of_ble_eq_true rfl, Nat.le_of_ble_eq_true rfl⟩ hN hK hP hD [5] rfl rfl (ci := 0) rfl rfl rfl rfl rfl hl.1 rfl (lv_room (Nat.le_of_ble_eq_true rfl)) dX9_age_76) hP hD hS hA [5] rfl rfl (fun H locs hP hD hS => ?_)
    have hP : va_P (dC, dI) vwCl [cl_X9 h_this h_this_now h_this_kept h_this_told h_this_text h_this_script h_this_momentReader h_this_spanReader h_this_adder h_this_other h_this_trial h_this_ways i_this, cl_X4 h_this_now h_this_now_day h_this_now_second h_this_now_months h_this_now_days h_this_now_seconds, (h_this_now_day, .inl (cI, 8, .inl f_this_now_day)), cl_X3 h_this_told h_this_told_numbers i_this_told, (h_this_told_numbers, .inl (cJ, 8, .inr (.inl f_this_told_numbers))), cl_X0 h_this_adder i_this_adder_1] H := hP
    have hD : va_D A [cl_X9 h_this h_this_now h_this_kept h_this_told h_this_text h_this_script h_this_momentReader h_this_spanReader h_this_adder h_this_other h_this_trial h_this_ways i_this, cl_X4 h_this_now h_this_now_day h_this_now_second h_this_now_months h_this_now_days h_this_now_seconds, (h_this_now_day, .inl (cI, 8, .inl f_this_now_day)), cl_X3 h_this_told h_this_told_numbers i_this_told, (h_this_told_numbers, .inl (cJ, 8, .inr (.inl f_this_told_numbers))), cl_X0 h_this_adder i_this_adder_1] := hD
    refine lv_aload_n hx hb dX9_age_79 rfl (lv_at hl 1 rfl) ?_
    refine va_get (D := (dC, dI)) (ci := 8) (v := .ref h_this_adder) (C := RX9) (T := TX9) (N := 12) hx hb hts inX9 hown hK hP 0 rfl rfl 8 (by decide) (hts _ (kq q_234 rfl)) (fun _ h9 => h9) rfl dX9_age_80 ?_
    refine lv_iload_n hx hb dX9_age_83 rfl (lv_at hl 2 rfl) ?_
    refine lv_iconst (v := (0 : Int32)) hx hb dX9_age_84 (by decide) ?_
    refine lv_iconst (v := (0 : Int32)) hx hb dX9_age_85 (by decide) ?_
    obtain ⟨r3, i_this_adder_4, hc5, h⟩ := bd2_at h
    refine kjI (kV (own := "DateSpans") (C := "DateSpans$Adder") (b := h_this_adder) (As := [.int v3, .int (0 : Int32), .int (0 : Int32)]) (rest := []) ⟨hx, hb, hml, hown, hts⟩ (kX0_leads l dC dI cI cJ cB h_this_adder N v3 (0 : Int32) (0 : Int32) i_this_adder_1 r3 i_this_adder_4 hc5 _) (kgV (kq q_370 rfl) (kq q_371 rfl) (kq q_372 rfl) (kq q_24 rfl) (kq q_373 rfl)) yd_X0_leads ⟨Nat.le_of_ble_eq_true rfl, Nat.le_of_ble_eq_true rfl⟩ hN hK hP hD [5] rfl rfl (ci := 0) rfl rfl rfl rfl rfl hl.1 rfl (lv_room (Nat.le_of_ble_eq_true rfl)) dX9_age_86) hP hD hS hA [5] rfl rfl (fun H locs hP hD hS => ?_)
    have hP : va_P (dC, dI) vwCl [cl_X9 h_this h_this_now h_this_kept h_this_told h_this_text h_this_script h_this_momentReader h_this_spanReader h_this_adder h_this_other h_this_trial h_this_ways i_this, cl_X4 h_this_now h_this_now_day h_this_now_second h_this_now_months h_this_now_days h_this_now_seconds, (h_this_now_day, .inl (cI, 8, .inl f_this_now_day)), cl_X3 h_this_told h_this_told_numbers i_this_told, (h_this_told_numbers, .inl (cJ, 8, .inr (.inl f_this_told_numbers))), cl_X0 h_this_adder i_this_adder_4] H := hP
    have hD : va_D A [cl_X9 h_this h_this_now h_this_kept h_this_told h_this_text h_this_script h_this_momentReader h_this_spanReader h_this_adder h_this_other h_this_trial h_this_ways i_this, cl_X4 h_this_now h_this_now_day h_this_now_second h_this_now_months h_this_now_days h_this_now_seconds, (h_this_now_day, .inl (cI, 8, .inl f_this_now_day)), cl_X3 h_this_told h_this_told_numbers i_this_told, (h_this_told_numbers, .inl (cJ, 8, .inr (.inl f_this_told_numbers))), cl_X0 h_this_adder i_this_adder_4] := hD
    refine lv_pop hx hb dX9_age_89 rfl ?_
    refine lv_aload_n hx hb dX9_age_90 rfl (lv_at hl 1 rfl) ?_
    refine va_get (D := (dC, dI)) (ci := 8) (v := .ref h_this_adder) (C := RX9) (T := TX9) (N := 12) hx hb hts inX9 hown hK hP 0 rfl rfl 8 (by decide) (hts _ (kq q_234 rfl)) (fun _ h9 => h9) rfl dX9_age_91 ?_
    refine va_getN (D := (dC, dI)) (ci := 0) (v := .int (i_this_adder_4 8)) (C := RX0) (T := TX0) (N := 11) hx hb hts inX0 hown hK hP 5 rfl rfl 8 (by decide) (kN.use hN q_149 rfl) (fun _ h9 => h9) rfl dX9_age_94 ?_
    refine lv_topi (fun z6 ez6 => ?_)
    have h := nm_at ez6 h
    refine lv_istore (lv' := [(6, .int z6), (5, .int t0), (0, .ref h_this), (3, .int v3), (4, .int v4)]) hx hb dX9_age_97 hl (by decide) rfl (fun ls hl => ?_)
    refine lv_aload_n hx hb dX9_age_99 rfl (lv_at hl 2 rfl) ?_
    refine va_get (D := (dC, dI)) (ci := 8) (v := .ref h_this_adder) (C := RX9) (T := TX9) (N := 12) hx hb hts inX9 hown hK hP 0 rfl rfl 8 (by decide) (hts _ (kq q_234 rfl)) (fun _ h9 => h9) rfl dX9_age_100 ?_
    refine lv_bipush (v := (12 : Int32)) hx hb dX9_age_103 (by decide) ?_
    refine lv_iload hx hb dX9_age_105 (lv_at hl 1 rfl) ?_
    refine lv_imul hx hb dX9_age_107 ?_
    refine lv_bipush (v := (12 : Int32)) hx hb dX9_age_108 (by decide) ?_
    refine lv_iadd hx hb dX9_age_110 ?_
    refine lv_iconst (v := (0 : Int32)) hx hb dX9_age_111 (by decide) ?_
    refine lv_iconst (v := (0 : Int32)) hx hb dX9_age_112 (by decide) ?_
    refine lv_iconst (v := (0 : Int32)) hx hb dX9_age_113 (by decide) ?_
    obtain ⟨i_this_adder_7, hc8, h⟩ := bd1_at h
    refine kjV (kV (own := "DateSpans") (C := "DateSpans$Adder") (b := h_this_adder) (As := [.int (((12 : Int32) * t0) + (12 : Int32)), .int (0 : Int32), .int (0 : Int32), .int (0 : Int32)]) (rest := []) ⟨hx, hb, hml, hown, hts⟩ (kX0_takesNumbers l dC dI cI cJ cB h_this_adder N (((12 : Int32) * t0) + (12 : Int32)) (0 : Int32) (0 : Int32) (0 : Int32) i_this_adder_4 i_this_adder_7 hc8 _) (kgV (kq q_459 rfl) (kq q_367 rfl) (kq q_368 rfl) (kq q_24 rfl) (kq q_369 rfl)) yd_X0_takesNumbers ⟨Nat.le_of_ble_eq_true rfl, Nat.le_of_ble_eq_true rfl⟩ hN hK hP hD [5] rfl rfl (ci := 0) rfl rfl rfl rfl rfl hl.1 rfl (lv_room (Nat.le_of_ble_eq_true rfl)) dX9_age_114) hP hD hS hA [5] rfl rfl (fun H locs hP hD hS => ?_)
    have hP : va_P (dC, dI) vwCl [cl_X9 h_this h_this_now h_this_kept h_this_told h_this_text h_this_script h_this_momentReader h_this_spanReader h_this_adder h_this_other h_this_trial h_this_ways i_this, cl_X4 h_this_now h_this_now_day h_this_now_second h_this_now_months h_this_now_days h_this_now_seconds, (h_this_now_day, .inl (cI, 8, .inl f_this_now_day)), cl_X3 h_this_told h_this_told_numbers i_this_told, (h_this_told_numbers, .inl (cJ, 8, .inr (.inl f_this_told_numbers))), cl_X0 h_this_adder i_this_adder_7] H := hP
    have hD : va_D A [cl_X9 h_this h_this_now h_this_kept h_this_told h_this_text h_this_script h_this_momentReader h_this_spanReader h_this_adder h_this_other h_this_trial h_this_ways i_this, cl_X4 h_this_now h_this_now_day h_this_now_second h_this_now_months h_this_now_days h_this_now_seconds, (h_this_now_day, .inl (cI, 8, .inl f_this_now_day)), cl_X3 h_this_told h_this_told_numbers i_this_told, (h_this_told_numbers, .inl (cJ, 8, .inr (.inl f_this_told_numbers))), cl_X0 h_this_adder i_this_adder_7] := hD
    refine lv_aload_n hx hb dX9_age_117 rfl (lv_at hl 2 rfl) ?_
    refine va_get (D := (dC, dI)) (ci := 8) (v := .ref h_this_adder) (C := RX9) (T := TX9) (N := 12) hx hb hts inX9 hown hK hP 0 rfl rfl 8 (by decide) (hts _ (kq q_234 rfl)) (fun _ h9 => h9) rfl dX9_age_118 ?_
    refine lv_iload_n hx hb dX9_age_121 rfl (lv_at hl 3 rfl) ?_
    refine lv_iconst (v := (0 : Int32)) hx hb dX9_age_122 (by decide) ?_
    refine lv_iconst (v := (0 : Int32)) hx hb dX9_age_123 (by decide) ?_
    obtain ⟨r9, i_this_adder_10, hc11, h⟩ := bd2_at h
    refine kjI (kV (own := "DateSpans") (C := "DateSpans$Adder") (b := h_this_adder) (As := [.int v3, .int (0 : Int32), .int (0 : Int32)]) (rest := []) ⟨hx, hb, hml, hown, hts⟩ (kX0_leads l dC dI cI cJ cB h_this_adder N v3 (0 : Int32) (0 : Int32) i_this_adder_7 r9 i_this_adder_10 hc11 _) (kgV (kq q_370 rfl) (kq q_371 rfl) (kq q_372 rfl) (kq q_24 rfl) (kq q_373 rfl)) yd_X0_leads ⟨Nat.le_of_ble_eq_true rfl, Nat.le_of_ble_eq_true rfl⟩ hN hK hP hD [5] rfl rfl (ci := 0) rfl rfl rfl rfl rfl hl.1 rfl (lv_room (Nat.le_of_ble_eq_true rfl)) dX9_age_124) hP hD hS hA [5] rfl rfl (fun H locs hP hD hS => ?_)
    have hP : va_P (dC, dI) vwCl [cl_X9 h_this h_this_now h_this_kept h_this_told h_this_text h_this_script h_this_momentReader h_this_spanReader h_this_adder h_this_other h_this_trial h_this_ways i_this, cl_X4 h_this_now h_this_now_day h_this_now_second h_this_now_months h_this_now_days h_this_now_seconds, (h_this_now_day, .inl (cI, 8, .inl f_this_now_day)), cl_X3 h_this_told h_this_told_numbers i_this_told, (h_this_told_numbers, .inl (cJ, 8, .inr (.inl f_this_told_numbers))), cl_X0 h_this_adder i_this_adder_10] H := hP
    have hD : va_D A [cl_X9 h_this h_this_now h_this_kept h_this_told h_this_text h_this_script h_this_momentReader h_this_spanReader h_this_adder h_this_other h_this_trial h_this_ways i_this, cl_X4 h_this_now h_this_now_day h_this_now_second h_this_now_months h_this_now_days h_this_now_seconds, (h_this_now_day, .inl (cI, 8, .inl f_this_now_day)), cl_X3 h_this_told h_this_told_numbers i_this_told, (h_this_told_numbers, .inl (cJ, 8, .inr (.inl f_this_told_numbers))), cl_X0 h_this_adder i_this_adder_10] := hD
    refine lv_istore (lv' := [(7, .int r9), (6, .int z6), (5, .int t0), (0, .ref h_this), (3, .int v3), (4, .int v4)]) hx hb dX9_age_127 hl (by decide) rfl (fun ls hl => ?_)
    refine lv_aload_n hx hb dX9_age_129 rfl (lv_at hl 3 rfl) ?_
    refine va_get (D := (dC, dI)) (ci := 8) (v := .ref h_this_told) (C := RX9) (T := TX9) (N := 12) hx hb hts inX9 hown hK hP 0 rfl rfl 3 (by decide) (hts _ (kq q_229 rfl)) (fun _ h9 => h9) rfl dX9_age_130 ?_
    refine lv_iload hx hb dX9_age_133 (lv_at hl 5 rfl) ?_
    refine lv_iload hx hb dX9_age_135 (lv_at hl 1 rfl) ?_
    refine lv_isub hx hb dX9_age_137 ?_
    refine lv_i2l hx hb dX9_age_138 rfl ?_
    refine lv_iload hx hb dX9_age_139 (lv_at hl 0 rfl) ?_
    refine lv_if_eq (tgt := 158) hx hb dX9_age_141 (by decide) (fun c12 => ?_) (fun c12 => ?_)
    · have h := ite_t c12 h
      refine lv_ldc2 (v := (-2 : Int64)) hx hb hown (hts _ (kq q_486 rfl)) dX9_age_158 ?_
      obtain ⟨i_this_told_13, f_this_told_numbers_14, hc15, h⟩ := bd2_at h
      refine kjV (kV (own := "DateSpans") (C := "DateSpans$Row") (b := h_this_told) (As := [.long ((v4 - z6).toInt64), .long (-2 : Int64)]) (rest := []) ⟨hx, hb, hml, hown, hts⟩ (kX3_tell_ l dC dI cI cJ cB h_this_told h_this_told_numbers N ((v4 - z6).toInt64) (-2 : Int64) i_this_told f_this_told_numbers i_this_told_13 f_this_told_numbers_14 hc15 _) (kgV (kq q_418 rfl) (kq q_419 rfl) (kq q_420 rfl) (kq q_20 rfl) (kq q_421 rfl)) yd_X3_tell_ ⟨Nat.le_of_ble_eq_true rfl, Nat.le_of_ble_eq_true rfl⟩ hN hK hP hD [3, 4] rfl rfl (ci := 2) rfl rfl rfl rfl rfl hl.1 rfl (lv_room (Nat.le_of_ble_eq_true rfl)) dX9_age_161) hP hD hS hA [3, 4] rfl rfl (fun H locs hP hD hS => ?_)
      have hP : va_P (dC, dI) vwCl [cl_X9 h_this h_this_now h_this_kept h_this_told h_this_text h_this_script h_this_momentReader h_this_spanReader h_this_adder h_this_other h_this_trial h_this_ways i_this, cl_X4 h_this_now h_this_now_day h_this_now_second h_this_now_months h_this_now_days h_this_now_seconds, (h_this_now_day, .inl (cI, 8, .inl f_this_now_day)), cl_X3 h_this_told h_this_told_numbers i_this_told_13, (h_this_told_numbers, .inl (cJ, 8, .inr (.inl f_this_told_numbers_14))), cl_X0 h_this_adder i_this_adder_10] H := hP
      have hD : va_D A [cl_X9 h_this h_this_now h_this_kept h_this_told h_this_text h_this_script h_this_momentReader h_this_spanReader h_this_adder h_this_other h_this_trial h_this_ways i_this, cl_X4 h_this_now h_this_now_day h_this_now_second h_this_now_months h_this_now_days h_this_now_seconds, (h_this_now_day, .inl (cI, 8, .inl f_this_now_day)), cl_X3 h_this_told h_this_told_numbers i_this_told_13, (h_this_told_numbers, .inl (cJ, 8, .inr (.inl f_this_told_numbers_14))), cl_X0 h_this_adder i_this_adder_10] := hD
      refine lv_iload hx hb dX9_age_164 (lv_at hl 2 rfl) ?_
      obtain ⟨rfl, rfl, rfl, rfl⟩ := pj4 h
      exact hEnd _ _ _ _ hP hS dX9_age_166 rfl
    have h := ite_f c12 h
    refine lv_aload_n hx hb dX9_age_144 rfl (lv_at hl 3 rfl) ?_
    refine va_get (D := (dC, dI)) (ci := 8) (v := .ref h_this_adder) (C := RX9) (T := TX9) (N := 12) hx hb hts inX9 hown hK hP 0 rfl rfl 8 (by decide) (hts _ (kq q_234 rfl)) (fun _ h9 => h9) rfl dX9_age_145 ?_
    refine va_getN (D := (dC, dI)) (ci := 0) (v := .int (i_this_adder_10 8)) (C := RX0) (T := TX0) (N := 11) hx hb hts inX0 hown hK hP 5 rfl rfl 8 (by decide) (kN.use hN q_149 rfl) (fun _ h9 => h9) rfl dX9_age_148 ?_
    refine lv_iload hx hb dX9_age_151 (lv_at hl 5 rfl) ?_
    refine lv_isub hx hb dX9_age_153 ?_
    refine lv_i2l hx hb dX9_age_154 rfl ?_
    refine lv_goto (tgt := 161) hx hb dX9_age_155 (by decide) ?_
    obtain ⟨i_this_told_16, f_this_told_numbers_17, hc18, h⟩ := bd2_at h
    refine kjV (kV (own := "DateSpans") (C := "DateSpans$Row") (b := h_this_told) (As := [.long ((v4 - z6).toInt64), .long (((i_this_adder_10 8) - v4).toInt64)]) (rest := []) ⟨hx, hb, hml, hown, hts⟩ (kX3_tell_ l dC dI cI cJ cB h_this_told h_this_told_numbers N ((v4 - z6).toInt64) (((i_this_adder_10 8) - v4).toInt64) i_this_told f_this_told_numbers i_this_told_16 f_this_told_numbers_17 hc18 _) (kgV (kq q_418 rfl) (kq q_419 rfl) (kq q_420 rfl) (kq q_20 rfl) (kq q_421 rfl)) yd_X3_tell_ ⟨Nat.le_of_ble_eq_true rfl, Nat.le_of_ble_eq_true rfl⟩ hN hK hP hD [3, 4] rfl rfl (ci := 2) rfl rfl rfl rfl rfl hl.1 rfl (lv_room (Nat.le_of_ble_eq_true rfl)) dX9_age_161) hP hD hS hA [3, 4] rfl rfl (fun H locs hP hD hS => ?_)
    have hP : va_P (dC, dI) vwCl [cl_X9 h_this h_this_now h_this_kept h_this_told h_this_text h_this_script h_this_momentReader h_this_spanReader h_this_adder h_this_other h_this_trial h_this_ways i_this, cl_X4 h_this_now h_this_now_day h_this_now_second h_this_now_months h_this_now_days h_this_now_seconds, (h_this_now_day, .inl (cI, 8, .inl f_this_now_day)), cl_X3 h_this_told h_this_told_numbers i_this_told_16, (h_this_told_numbers, .inl (cJ, 8, .inr (.inl f_this_told_numbers_17))), cl_X0 h_this_adder i_this_adder_10] H := hP
    have hD : va_D A [cl_X9 h_this h_this_now h_this_kept h_this_told h_this_text h_this_script h_this_momentReader h_this_spanReader h_this_adder h_this_other h_this_trial h_this_ways i_this, cl_X4 h_this_now h_this_now_day h_this_now_second h_this_now_months h_this_now_days h_this_now_seconds, (h_this_now_day, .inl (cI, 8, .inl f_this_now_day)), cl_X3 h_this_told h_this_told_numbers i_this_told_16, (h_this_told_numbers, .inl (cJ, 8, .inr (.inl f_this_told_numbers_17))), cl_X0 h_this_adder i_this_adder_10] := hD
    refine lv_iload hx hb dX9_age_164 (lv_at hl 2 rfl) ?_
    obtain ⟨rfl, rfl, rfl, rfl⟩ := pj4 h
    exact hEnd _ _ _ _ hP hS dX9_age_166 rfl
  have h := hf
  unfold fX9_age at h
  refine lv_iload_n hx hb dX9_age_0 rfl (lv_at hl 1 rfl) ?_
  obtain ⟨r19, hc20, h⟩ := bd1_at h
  refine kjSI (kS0 (own := "DateSpans") (As := [.int p1]) (rest := []) ⟨hx, hb, hml, hown, hts⟩ (kX9_isSlot l N p1 r19 hc20) (kgS (kq q_267 rfl) (kq q_268 rfl) (kq q_18 rfl) (kq q_269 rfl)) yd_X9_isSlot ⟨Nat.le_of_ble_eq_true rfl, Nat.le_of_ble_eq_true rfl⟩ rfl rfl hl.1 rfl (lv_room (Nat.le_of_ble_eq_true rfl)) dX9_age_1) ?_
  refine lv_if_eq (tgt := 14) hx hb dX9_age_4 (by decide) (fun c21 => ?_) (fun c21 => ?_)
  · have h := ite_t c21 h
    refine lv_iconst (v := (-1 : Int32)) hx hb dX9_age_14 (by decide) ?_
    obtain ⟨rfl, rfl, rfl, rfl⟩ := pj4 h
    exact hEnd _ _ _ _ hP hS dX9_age_15 rfl
  have h := ite_f c21 h
  refine lv_iload_n hx hb dX9_age_7 rfl (lv_at hl 2 rfl) ?_
  obtain ⟨r22, hc23, h⟩ := bd1_at h
  refine kjSI (kS0 (own := "DateSpans") (As := [.int p2]) (rest := []) ⟨hx, hb, hml, hown, hts⟩ (kX9_isSlot l N p2 r22 hc23) (kgS (kq q_267 rfl) (kq q_268 rfl) (kq q_18 rfl) (kq q_269 rfl)) yd_X9_isSlot ⟨Nat.le_of_ble_eq_true rfl, Nat.le_of_ble_eq_true rfl⟩ rfl rfl hl.1 rfl (lv_room (Nat.le_of_ble_eq_true rfl)) dX9_age_8) ?_
  refine lv_if_ne (tgt := 16) hx hb dX9_age_11 (by decide) (fun c24 => ?_) (fun c24 => ?_)
  · have h := ite_f c24 h
    refine lv_aload_n hx hb dX9_age_16 rfl (lv_at hl 0 rfl) ?_
    refine va_get (D := (dC, dI)) (ci := 8) (v := .ref h_this_now) (C := RX9) (T := TX9) (N := 12) hx hb hts inX9 hown hK hP 0 rfl rfl 0 (by decide) (hts _ (kq q_226 rfl)) (fun _ h9 => h9) rfl dX9_age_17 ?_
    refine lv_iload_n hx hb dX9_age_20 rfl (lv_at hl 1 rfl) ?_
    obtain ⟨r25, hc26, h⟩ := bd1_at h
    refine kjI (kV (own := "DateSpans") (C := "DateSpans$Slots") (b := h_this_now) (As := [.int p1]) (rest := []) ⟨hx, hb, hml, hown, hts⟩ (kX4_dayAt l dC dI cI cJ cB h_this_now h_this_now_day h_this_now_second h_this_now_months h_this_now_days h_this_now_seconds N p1 f_this_now_day r25 hc26 _) (kgV (kq q_275 rfl) (kq q_276 rfl) (kq q_277 rfl) (kq q_19 rfl) (kq q_278 rfl)) yd_X4_dayAt ⟨Nat.le_of_ble_eq_true rfl, Nat.le_of_ble_eq_true rfl⟩ hN hK hP hD [1, 2] rfl rfl (ci := 3) rfl rfl rfl rfl rfl hl.1 rfl (lv_room (Nat.le_of_ble_eq_true rfl)) dX9_age_21) hP hD hS hA [1, 2] rfl rfl (fun H locs hP hD hS => ?_)
    have hP : va_P (dC, dI) vwCl [cl_X9 h_this h_this_now h_this_kept h_this_told h_this_text h_this_script h_this_momentReader h_this_spanReader h_this_adder h_this_other h_this_trial h_this_ways i_this, cl_X4 h_this_now h_this_now_day h_this_now_second h_this_now_months h_this_now_days h_this_now_seconds, (h_this_now_day, .inl (cI, 8, .inl f_this_now_day)), cl_X3 h_this_told h_this_told_numbers i_this_told, (h_this_told_numbers, .inl (cJ, 8, .inr (.inl f_this_told_numbers))), cl_X0 h_this_adder i_this_adder] H := hP
    have hD : va_D A [cl_X9 h_this h_this_now h_this_kept h_this_told h_this_text h_this_script h_this_momentReader h_this_spanReader h_this_adder h_this_other h_this_trial h_this_ways i_this, cl_X4 h_this_now h_this_now_day h_this_now_second h_this_now_months h_this_now_days h_this_now_seconds, (h_this_now_day, .inl (cI, 8, .inl f_this_now_day)), cl_X3 h_this_told h_this_told_numbers i_this_told, (h_this_told_numbers, .inl (cJ, 8, .inr (.inl f_this_told_numbers))), cl_X0 h_this_adder i_this_adder] := hD
    refine lv_istore_n (lv' := [(3, .int r25), (0, .ref h_this), (1, .int p1), (2, .int p2)]) hx hb dX9_age_24 rfl hl (by decide) rfl (fun ls hl => ?_)
    refine lv_aload_n hx hb dX9_age_25 rfl (lv_at hl 1 rfl) ?_
    refine va_get (D := (dC, dI)) (ci := 8) (v := .ref h_this_now) (C := RX9) (T := TX9) (N := 12) hx hb hts inX9 hown hK hP 0 rfl rfl 0 (by decide) (hts _ (kq q_226 rfl)) (fun _ h9 => h9) rfl dX9_age_26 ?_
    refine lv_iload_n hx hb dX9_age_29 rfl (lv_at hl 3 rfl) ?_
    obtain ⟨r27, hc28, h⟩ := bd1_at h
    refine kjI (kV (own := "DateSpans") (C := "DateSpans$Slots") (b := h_this_now) (As := [.int p2]) (rest := []) ⟨hx, hb, hml, hown, hts⟩ (kX4_dayAt l dC dI cI cJ cB h_this_now h_this_now_day h_this_now_second h_this_now_months h_this_now_days h_this_now_seconds N p2 f_this_now_day r27 hc28 _) (kgV (kq q_275 rfl) (kq q_276 rfl) (kq q_277 rfl) (kq q_19 rfl) (kq q_278 rfl)) yd_X4_dayAt ⟨Nat.le_of_ble_eq_true rfl, Nat.le_of_ble_eq_true rfl⟩ hN hK hP hD [1, 2] rfl rfl (ci := 3) rfl rfl rfl rfl rfl hl.1 rfl (lv_room (Nat.le_of_ble_eq_true rfl)) dX9_age_30) hP hD hS hA [1, 2] rfl rfl (fun H locs hP hD hS => ?_)
    have hP : va_P (dC, dI) vwCl [cl_X9 h_this h_this_now h_this_kept h_this_told h_this_text h_this_script h_this_momentReader h_this_spanReader h_this_adder h_this_other h_this_trial h_this_ways i_this, cl_X4 h_this_now h_this_now_day h_this_now_second h_this_now_months h_this_now_days h_this_now_seconds, (h_this_now_day, .inl (cI, 8, .inl f_this_now_day)), cl_X3 h_this_told h_this_told_numbers i_this_told, (h_this_told_numbers, .inl (cJ, 8, .inr (.inl f_this_told_numbers))), cl_X0 h_this_adder i_this_adder] H := hP
    have hD : va_D A [cl_X9 h_this h_this_now h_this_kept h_this_told h_this_text h_this_script h_this_momentReader h_this_spanReader h_this_adder h_this_other h_this_trial h_this_ways i_this, cl_X4 h_this_now h_this_now_day h_this_now_second h_this_now_months h_this_now_days h_this_now_seconds, (h_this_now_day, .inl (cI, 8, .inl f_this_now_day)), cl_X3 h_this_told h_this_told_numbers i_this_told, (h_this_told_numbers, .inl (cJ, 8, .inr (.inl f_this_told_numbers))), cl_X0 h_this_adder i_this_adder] := hD
    refine lv_istore (lv' := [(4, .int r27), (3, .int r25), (0, .ref h_this), (1, .int p1), (2, .int p2)]) hx hb dX9_age_33 hl (by decide) rfl (fun ls hl => ?_)
    refine lv_iload hx hb dX9_age_35 (lv_at hl 0 rfl) ?_
    refine lv_iload_n hx hb dX9_age_37 rfl (lv_at hl 1 rfl) ?_
    refine lv_icmp_ge (tgt := 45) hx hb dX9_age_38 (by decide) (fun c29 => ?_) (fun c29 => ?_)
    · have h := ite_t c29 h
      refine lv_aload_n hx hb dX9_age_45 rfl (lv_at hl 2 rfl) ?_
      refine lv_iload_n hx hb dX9_age_46 rfl (lv_at hl 1 rfl) ?_
      refine lv_iconst (v := (0 : Int32)) hx hb dX9_age_47 (by decide) ?_
      refine lv_iload hx hb dX9_age_48 (lv_at hl 0 rfl) ?_
      refine lv_iconst (v := (0 : Int32)) hx hb dX9_age_50 (by decide) ?_
      obtain ⟨r30, hc31, h⟩ := bd1_at h
      refine kjSL (kS0 (own := "DateSpans") (As := [.int r27, .int (0 : Int32)]) (rest := [.int (0 : Int32), .int r25, .ref h_this]) ⟨hx, hb, hml, hown, hts⟩ (kX9_instantOf l N r27 (0 : Int32) r30 hc31) (kgS (kq q_454 rfl) (kq q_412 rfl) (kq q_18 rfl) (kq q_413 rfl)) yd_X9_instantOf ⟨Nat.le_of_ble_eq_true rfl, Nat.le_of_ble_eq_true rfl⟩ rfl rfl hl.1 rfl (lv_room (Nat.le_of_ble_eq_true rfl)) dX9_age_51) ?_
      refine lv_iconst (v := (0 : Int32)) hx hb dX9_age_54 (by decide) ?_
      refine lv_iconst (v := (1 : Int32)) hx hb dX9_age_55 (by decide) ?_
      obtain ⟨r32, i_this_adder_33, hc34, h⟩ := bd2_at h
      refine kjI (kV (own := "DateSpans") (C := "DateSpans") (b := h_this) (As := [.int r25, .int (0 : Int32), .long r30, .int (0 : Int32), .int (1 : Int32)]) (rest := []) ⟨hx, hb, hml, hown, hts⟩ (kX9_mostMonths l dC dI cI cJ cB h_this h_this_now h_this_kept h_this_told h_this_text h_this_script h_this_momentReader h_this_spanReader h_this_adder h_this_other h_this_trial h_this_ways N r25 (0 : Int32) r30 (0 : Int32) (1 : Int32) i_this i_this_adder r32 i_this_adder_33 hc34 _) (kgV (kq q_450 rfl) (kq q_452 rfl) (kq q_4 rfl) (kq q_18 rfl) (kq q_453 rfl)) yd_X9_mostMonths ⟨Nat.le_of_ble_eq_true rfl, Nat.le_of_ble_eq_true rfl⟩ hN hK hP hD [0, 5] rfl rfl (ci := 8) rfl rfl rfl rfl rfl hl.1 rfl (lv_room (Nat.le_of_ble_eq_true rfl)) dX9_age_56) hP hD hS hA [0, 5] rfl rfl (fun H locs hP hD hS => ?_)
      have hP : va_P (dC, dI) vwCl [cl_X9 h_this h_this_now h_this_kept h_this_told h_this_text h_this_script h_this_momentReader h_this_spanReader h_this_adder h_this_other h_this_trial h_this_ways i_this, cl_X4 h_this_now h_this_now_day h_this_now_second h_this_now_months h_this_now_days h_this_now_seconds, (h_this_now_day, .inl (cI, 8, .inl f_this_now_day)), cl_X3 h_this_told h_this_told_numbers i_this_told, (h_this_told_numbers, .inl (cJ, 8, .inr (.inl f_this_told_numbers))), cl_X0 h_this_adder i_this_adder_33] H := hP
      have hD : va_D A [cl_X9 h_this h_this_now h_this_kept h_this_told h_this_text h_this_script h_this_momentReader h_this_spanReader h_this_adder h_this_other h_this_trial h_this_ways i_this, cl_X4 h_this_now h_this_now_day h_this_now_second h_this_now_months h_this_now_days h_this_now_seconds, (h_this_now_day, .inl (cI, 8, .inl f_this_now_day)), cl_X3 h_this_told h_this_told_numbers i_this_told, (h_this_told_numbers, .inl (cJ, 8, .inr (.inl f_this_told_numbers))), cl_X0 h_this_adder i_this_adder_33] := hD
      refine lv_bipush (v := (12 : Int32)) hx hb dX9_age_59 (by decide) ?_
      refine lv_idiv hx hb dX9_age_61 (by decide) ?_
      exact JN_62 _ _ _ _ _ _ _ _ _ h (lv_sub hl [2, 1, 0] rfl) hP hD hS
    have h := ite_f c29 h
    refine lv_iconst (v := (0 : Int32)) hx hb dX9_age_41 (by decide) ?_
    refine lv_goto (tgt := 62) hx hb dX9_age_42 (by decide) ?_
    exact JN_62 _ _ _ _ _ _ _ _ _ h (lv_sub hl [2, 1, 0] rfl) hP hD hS
  have h := ite_t c24 h
  refine lv_iconst (v := (-1 : Int32)) hx hb dX9_age_14 (by decide) ?_
  obtain ⟨rfl, rfl, rfl, rfl⟩ := pj4 h
  exact hEnd _ _ _ _ hP hS dX9_age_15 rfl
noncomputable def fX9_drift_l132 (N : Nat) (i_this : Int32) (f_this_now_day : Nat → Int32) (f_this_now_second : Nat → Int32) (f_this_now_months : Nat → Int32) (f_this_now_days : Nat → Int32) (f_this_now_seconds : Nat → Int32) (n : Nat) : Int32 → Int32 → Int32 → (Nat → Int64) → (Nat → Int32) → (Nat → Int32) → Option (Int64 × Int32 × (Nat → Int64) × (Nat → Int32) × (Nat → Int32)) := Nat.rec (motive := fun _ => Int32 → Int32 → Int32 → (Nat → Int64) → (Nat → Int32) → (Nat → Int32) → Option (Int64 × Int32 × (Nat → Int64) × (Nat → Int32) × (Nat → Int32))) (fun _ _ _ _ _ _ => none) (fun _ K_132 v4 v5 i_this_told f_this_told_numbers i_this_adder i_this_other => (if v4 ≤ v5 then (bd1 (fX0_instant N i_this_adder) fun r2 => (bd1 (fX0_instant N i_this_other) fun r4 => (bd2 (fX3_tell_ N r2 r4 i_this_told f_this_told_numbers) fun i_this_told_6 f_this_told_numbers_7 => (bd1 (fX0_instant N i_this_adder) fun r9 => (bd1 (fX0_instant N i_this_other) fun r11 => (some ((r9 - r11), i_this_told_6, f_this_told_numbers_7, i_this_adder, i_this_other))))))) else (bd2 (fX0_leads N (i_this_adder 8) (i_this_adder 9) (0 : Int32) i_this_adder) fun r13 i_this_adder_14 => (if r13 = (0 : Int32) then (some ((-1000002 : Int64), i_this_told, f_this_told_numbers, i_this_adder_14, i_this_other)) else (nm (v5 + (1 : Int32)) fun z17 => (K_132 v4 z17 i_this_told f_this_told_numbers i_this_adder_14 i_this_other)))))) n
theorem fX9_drift_l132_s (N : Nat) (i_this : Int32) (f_this_now_day : Nat → Int32) (f_this_now_second : Nat → Int32) (f_this_now_months : Nat → Int32) (f_this_now_days : Nat → Int32) (f_this_now_seconds : Nat → Int32) (n : Nat) (v4 : Int32) (v5 : Int32) (i_this_told : Int32) (f_this_told_numbers : Nat → Int64) (i_this_adder : Nat → Int32) (i_this_other : Nat → Int32) : fX9_drift_l132 N i_this f_this_now_day f_this_now_second f_this_now_months f_this_now_days f_this_now_seconds (n + 1) v4 v5 i_this_told f_this_told_numbers i_this_adder i_this_other = (if v4 ≤ v5 then (bd1 (fX0_instant N i_this_adder) fun r2 => (bd1 (fX0_instant N i_this_other) fun r4 => (bd2 (fX3_tell_ N r2 r4 i_this_told f_this_told_numbers) fun i_this_told_6 f_this_told_numbers_7 => (bd1 (fX0_instant N i_this_adder) fun r9 => (bd1 (fX0_instant N i_this_other) fun r11 => (some ((r9 - r11), i_this_told_6, f_this_told_numbers_7, i_this_adder, i_this_other))))))) else (bd2 (fX0_leads N (i_this_adder 8) (i_this_adder 9) (0 : Int32) i_this_adder) fun r13 i_this_adder_14 => (if r13 = (0 : Int32) then (some ((-1000002 : Int64), i_this_told, f_this_told_numbers, i_this_adder_14, i_this_other)) else (nm (v5 + (1 : Int32)) fun z17 => ((fX9_drift_l132 N i_this f_this_now_day f_this_now_second f_this_now_months f_this_now_days f_this_now_seconds n) v4 z17 i_this_told f_this_told_numbers i_this_adder_14 i_this_other))))) := rfl
theorem fX9_drift_l132_0 (N : Nat) (i_this : Int32) (f_this_now_day : Nat → Int32) (f_this_now_second : Nat → Int32) (f_this_now_months : Nat → Int32) (f_this_now_days : Nat → Int32) (f_this_now_seconds : Nat → Int32) (v4 : Int32) (v5 : Int32) (i_this_told : Int32) (f_this_told_numbers : Nat → Int64) (i_this_adder : Nat → Int32) (i_this_other : Nat → Int32) : fX9_drift_l132 N i_this f_this_now_day f_this_now_second f_this_now_months f_this_now_days f_this_now_seconds 0 v4 v5 i_this_told f_this_told_numbers i_this_adder i_this_other = none := rfl
noncomputable def fX9_drift (N : Nat) (p1 : Int32) (p2 : Int32) (p3 : Int32) (p4 : Int32) (i_this : Int32) (f_this_now_day : Nat → Int32) (f_this_now_second : Nat → Int32) (f_this_now_months : Nat → Int32) (f_this_now_days : Nat → Int32) (f_this_now_seconds : Nat → Int32) (i_this_told : Int32) (f_this_told_numbers : Nat → Int64) (i_this_adder : Nat → Int32) (i_this_other : Nat → Int32) : Option (Int64 × Int32 × (Nat → Int64) × (Nat → Int32) × (Nat → Int32)) := (bd1 (fX9_isSlot N p1) fun r18 => (if r18 = (0 : Int32) then (some ((-1 : Int64), i_this_told, f_this_told_numbers, i_this_adder, i_this_other)) else (bd1 (fX9_isSlot N p2) fun r21 => (if r21 = (0 : Int32) then (some ((-1 : Int64), i_this_told, f_this_told_numbers, i_this_adder, i_this_other)) else (bd1 (fX9_isLaw N p3) fun r24 => (if r24 = (0 : Int32) then (some ((-1 : Int64), i_this_told, f_this_told_numbers, i_this_adder, i_this_other)) else (if p4 < (0 : Int32) then (some ((-1 : Int64), i_this_told, f_this_told_numbers, i_this_adder, i_this_other)) else (if p4 ≤ (1000 : Int32) then (bd2 (fX0_takes N p2 p4 p3 i_this_other f_this_now_months f_this_now_days f_this_now_seconds) fun r29 i_this_other_30 => (if r29 = (0 : Int32) then (some ((-1000009 : Int64), i_this_told, f_this_told_numbers, i_this_adder, i_this_other_30)) else (bd1 (fX4_dayAt N p1 f_this_now_day) fun r33 => (bd1 (fX4_secondAt N p1 f_this_now_second) fun r35 => (bd2 (fX0_leads N r33 r35 (0 : Int32) i_this_other_30) fun r37 i_this_other_38 => (if r37 = (0 : Int32) then (some ((-1000002 : Int64), i_this_told, f_this_told_numbers, i_this_adder, i_this_other_38)) else (bd2 (fX0_takes N p2 (1 : Int32) p3 i_this_adder f_this_now_months f_this_now_days f_this_now_seconds) fun r41 i_this_adder_42 => (bd1 (fX4_dayAt N p1 f_this_now_day) fun r44 => (bd1 (fX4_secondAt N p1 f_this_now_second) fun r46 => (bd1 (fX0_stands N r44 r46 i_this_adder_42) fun i_this_adder_48 => (fX9_drift_l132 N i_this f_this_now_day f_this_now_second f_this_now_months f_this_now_days f_this_now_seconds N p4 (0 : Int32) i_this_told f_this_told_numbers i_this_adder_48 i_this_other_38))))))))))) else (some ((-1 : Int64), i_this_told, f_this_told_numbers, i_this_adder, i_this_other))))))))))
set_option maxHeartbeats 4000000 in
set_option maxRecDepth 100000 in
theorem kX9_drift (l : Launch) (dC : Nat → ClassId) (dI : Nat → Nat → Nat) (cI cJ cB : ClassId) (h_this h_this_now h_this_kept h_this_told h_this_text h_this_script h_this_momentReader h_this_spanReader h_this_adder h_this_other h_this_trial h_this_ways h_this_now_day h_this_now_second h_this_now_months h_this_now_days h_this_now_seconds h_this_told_numbers : Nat) (N : Nat) (p1 : Int32) (p2 : Int32) (p3 : Int32) (p4 : Int32) (i_this : Int32) (f_this_now_day : Nat → Int32) (f_this_now_second : Nat → Int32) (f_this_now_months : Nat → Int32) (f_this_now_days : Nat → Int32) (f_this_now_seconds : Nat → Int32) (i_this_told : Int32) (f_this_told_numbers : Nat → Int64) (i_this_adder : Nat → Int32) (i_this_other : Nat → Int32) (r : Int64) (o_i_this_told : Int32) (o_f_this_told_numbers : Nat → Int64) (o_i_this_adder : Nat → Int32) (o_i_this_other : Nat → Int32) (hf : fX9_drift N p1 p2 p3 p4 i_this f_this_now_day f_this_now_second f_this_now_months f_this_now_days f_this_now_seconds i_this_told f_this_told_numbers i_this_adder i_this_other = some (r, o_i_this_told, o_f_this_told_numbers, o_i_this_adder, o_i_this_other)) : ML l yX9_drift (kws yX9_drift cX9_drift 6 (some .long)) (kR 5 117) (dC, dI) (kT cI cJ cB) [.ref h_this, .int p1, .int p2, .int p3, .int p4] [cl_X9 h_this h_this_now h_this_kept h_this_told h_this_text h_this_script h_this_momentReader h_this_spanReader h_this_adder h_this_other h_this_trial h_this_ways i_this, cl_X4 h_this_now h_this_now_day h_this_now_second h_this_now_months h_this_now_days h_this_now_seconds, (h_this_now_day, .inl (cI, 8, .inl f_this_now_day)), (h_this_now_second, .inl (cI, 8, .inl f_this_now_second)), (h_this_now_months, .inl (cI, 8, .inl f_this_now_months)), (h_this_now_days, .inl (cI, 8, .inl f_this_now_days)), (h_this_now_seconds, .inl (cI, 8, .inl f_this_now_seconds)), cl_X3 h_this_told h_this_told_numbers i_this_told, (h_this_told_numbers, .inl (cJ, 8, .inr (.inl f_this_told_numbers))), cl_X0 h_this_adder i_this_adder, cl_X0 h_this_other i_this_other] [cl_X9 h_this h_this_now h_this_kept h_this_told h_this_text h_this_script h_this_momentReader h_this_spanReader h_this_adder h_this_other h_this_trial h_this_ways i_this, cl_X4 h_this_now h_this_now_day h_this_now_second h_this_now_months h_this_now_days h_this_now_seconds, (h_this_now_day, .inl (cI, 8, .inl f_this_now_day)), (h_this_now_second, .inl (cI, 8, .inl f_this_now_second)), (h_this_now_months, .inl (cI, 8, .inl f_this_now_months)), (h_this_now_days, .inl (cI, 8, .inl f_this_now_days)), (h_this_now_seconds, .inl (cI, 8, .inl f_this_now_seconds)), cl_X3 h_this_told h_this_told_numbers o_i_this_told, (h_this_told_numbers, .inl (cJ, 8, .inr (.inl o_f_this_told_numbers))), cl_X0 h_this_adder o_i_this_adder, cl_X0 h_this_other o_i_this_other] r := by
  refine ML.of (cc := cX9_drift) (maxL := 6) (by decide) (Nat.le_of_ble_eq_true rfl) (fun p e s m args below meth c A Q ls KC hN hK hP hD hA hl hEnd => ?_)
  obtain ⟨hx, hb, hml, hown, hts⟩ := KC
  have hown : s.vm.findClass "DateSpans" = some m.cls := hown
  have hl : lv_has ls 6 [(0, .ref h_this), (1, .int p1), (2, .int p2), (3, .int p3), (4, .int p4)] := hl
  have hS : va_S A s.heap s.heap [] := va_S.rf
  have LP_132 : ∀ n_132 : Nat, ∀ (v4 : Int32) (v5 : Int32) (i_this_told : Int32) (f_this_told_numbers : Nat → Int64) (i_this_adder : Nat → Int32) (i_this_other : Nat → Int32) (ls : Array Slot) (H : Heap) (locs : List Loc), fX9_drift_l132 N i_this f_this_now_day f_this_now_second f_this_now_months f_this_now_days f_this_now_seconds n_132 v4 v5 i_this_told f_this_told_numbers i_this_adder i_this_other = some (r, o_i_this_told, o_f_this_told_numbers, o_i_this_adder, o_i_this_other) → lv_has ls 6 [(0, .ref h_this), (4, .int v4), (5, .int v5)] → va_P (dC, dI) vwCl [cl_X9 h_this h_this_now h_this_kept h_this_told h_this_text h_this_script h_this_momentReader h_this_spanReader h_this_adder h_this_other h_this_trial h_this_ways i_this, cl_X4 h_this_now h_this_now_day h_this_now_second h_this_now_months h_this_now_days h_this_now_seconds, (h_this_now_day, .inl (cI, 8, .inl f_this_now_day)), (h_this_now_second, .inl (cI, 8, .inl f_this_now_second)), (h_this_now_months, .inl (cI, 8, .inl f_this_now_months)), (h_this_now_days, .inl (cI, 8, .inl f_this_now_days)), (h_this_now_seconds, .inl (cI, 8, .inl f_this_now_seconds)), cl_X3 h_this_told h_this_told_numbers i_this_told, (h_this_told_numbers, .inl (cJ, 8, .inr (.inl f_this_told_numbers))), cl_X0 h_this_adder i_this_adder, cl_X0 h_this_other i_this_other] H → va_D A [cl_X9 h_this h_this_now h_this_kept h_this_told h_this_text h_this_script h_this_momentReader h_this_spanReader h_this_adder h_this_other h_this_trial h_this_ways i_this, cl_X4 h_this_now h_this_now_day h_this_now_second h_this_now_months h_this_now_days h_this_now_seconds, (h_this_now_day, .inl (cI, 8, .inl f_this_now_day)), (h_this_now_second, .inl (cI, 8, .inl f_this_now_second)), (h_this_now_months, .inl (cI, 8, .inl f_this_now_months)), (h_this_now_days, .inl (cI, 8, .inl f_this_now_days)), (h_this_now_seconds, .inl (cI, 8, .inl f_this_now_seconds)), cl_X3 h_this_told h_this_told_numbers i_this_told, (h_this_told_numbers, .inl (cJ, 8, .inr (.inl f_this_told_numbers))), cl_X0 h_this_adder i_this_adder, cl_X0 h_this_other i_this_other] → va_S A s.heap H locs → W p l e (kR 5 117) s m args below meth c H locs 0 0 Q (F0 m 132 ls []) := by
    intro n_132
    induction n_132 with
    | zero =>
      intro v4 v5 i_this_told f_this_told_numbers i_this_adder i_this_other ls H locs h hl hP hD hS
      rw [fX9_drift_l132_0] at h; cases h
    | succ n_132 ih_132 =>
      intro v4 v5 i_this_told f_this_told_numbers i_this_adder i_this_other ls H locs h hl hP hD hS
      rw [fX9_drift_l132_s] at h
      refine lv_iload hx hb dX9_drift_132 (lv_at hl 2 rfl) ?_
      refine lv_iload hx hb dX9_drift_134 (lv_at hl 1 rfl) ?_
      refine lv_icmp_ge (tgt := 174) hx hb dX9_drift_136 (by decide) (fun c1 => ?_) (fun c1 => ?_)
      · have h := ite_t c1 h
        refine lv_aload_n hx hb dX9_drift_174 rfl (lv_at hl 0 rfl) ?_
        refine va_get (D := (dC, dI)) (ci := 8) (v := .ref h_this_told) (C := RX9) (T := TX9) (N := 12) hx hb hts inX9 hown hK hP 0 rfl rfl 3 (by decide) (hts _ (kq q_229 rfl)) (fun _ h9 => h9) rfl dX9_drift_175 ?_
        refine lv_aload_n hx hb dX9_drift_178 rfl (lv_at hl 0 rfl) ?_
        refine va_get (D := (dC, dI)) (ci := 8) (v := .ref h_this_adder) (C := RX9) (T := TX9) (N := 12) hx hb hts inX9 hown hK hP 0 rfl rfl 8 (by decide) (hts _ (kq q_234 rfl)) (fun _ h9 => h9) rfl dX9_drift_179 ?_
        obtain ⟨r2, hc3, h⟩ := bd1_at h
        refine kjL (kV (own := "DateSpans") (C := "DateSpans$Adder") (b := h_this_adder) (As := []) (rest := [.ref h_this_told]) ⟨hx, hb, hml, hown, hts⟩ (kX0_instant l dC dI cI cJ cB h_this_adder N i_this_adder r2 hc3 _) (kgV (kq q_460 rfl) (kq q_408 rfl) (kq q_409 rfl) (kq q_24 rfl) (kq q_410 rfl)) yd_X0_instant ⟨Nat.le_of_ble_eq_true rfl, Nat.le_of_ble_eq_true rfl⟩ hN hK hP hD [9] rfl rfl (ci := 0) rfl rfl rfl rfl rfl hl.1 rfl (lv_room (Nat.le_of_ble_eq_true rfl)) dX9_drift_182) hP hD hS hA [9] rfl rfl (fun H locs hP hD hS => ?_)
        have hP : va_P (dC, dI) vwCl [cl_X9 h_this h_this_now h_this_kept h_this_told h_this_text h_this_script h_this_momentReader h_this_spanReader h_this_adder h_this_other h_this_trial h_this_ways i_this, cl_X4 h_this_now h_this_now_day h_this_now_second h_this_now_months h_this_now_days h_this_now_seconds, (h_this_now_day, .inl (cI, 8, .inl f_this_now_day)), (h_this_now_second, .inl (cI, 8, .inl f_this_now_second)), (h_this_now_months, .inl (cI, 8, .inl f_this_now_months)), (h_this_now_days, .inl (cI, 8, .inl f_this_now_days)), (h_this_now_seconds, .inl (cI, 8, .inl f_this_now_seconds)), cl_X3 h_this_told h_this_told_numbers i_this_told, (h_this_told_numbers, .inl (cJ, 8, .inr (.inl f_this_told_numbers))), cl_X0 h_this_adder i_this_adder, cl_X0 h_this_other i_this_other] H := hP
        have hD : va_D A [cl_X9 h_this h_this_now h_this_kept h_this_told h_this_text h_this_script h_this_momentReader h_this_spanReader h_this_adder h_this_other h_this_trial h_this_ways i_this, cl_X4 h_this_now h_this_now_day h_this_now_second h_this_now_months h_this_now_days h_this_now_seconds, (h_this_now_day, .inl (cI, 8, .inl f_this_now_day)), (h_this_now_second, .inl (cI, 8, .inl f_this_now_second)), (h_this_now_months, .inl (cI, 8, .inl f_this_now_months)), (h_this_now_days, .inl (cI, 8, .inl f_this_now_days)), (h_this_now_seconds, .inl (cI, 8, .inl f_this_now_seconds)), cl_X3 h_this_told h_this_told_numbers i_this_told, (h_this_told_numbers, .inl (cJ, 8, .inr (.inl f_this_told_numbers))), cl_X0 h_this_adder i_this_adder, cl_X0 h_this_other i_this_other] := hD
        refine lv_aload_n hx hb dX9_drift_185 rfl (lv_at hl 0 rfl) ?_
        refine va_get (D := (dC, dI)) (ci := 8) (v := .ref h_this_other) (C := RX9) (T := TX9) (N := 12) hx hb hts inX9 hown hK hP 0 rfl rfl 9 (by decide) (hts _ (kq q_235 rfl)) (fun _ h9 => h9) rfl dX9_drift_186 ?_
        obtain ⟨r4, hc5, h⟩ := bd1_at h
        refine kjL (kV (own := "DateSpans") (C := "DateSpans$Adder") (b := h_this_other) (As := []) (rest := [.long r2, .ref h_this_told]) ⟨hx, hb, hml, hown, hts⟩ (kX0_instant l dC dI cI cJ cB h_this_other N i_this_other r4 hc5 _) (kgV (kq q_460 rfl) (kq q_408 rfl) (kq q_409 rfl) (kq q_24 rfl) (kq q_410 rfl)) yd_X0_instant ⟨Nat.le_of_ble_eq_true rfl, Nat.le_of_ble_eq_true rfl⟩ hN hK hP hD [10] rfl rfl (ci := 0) rfl rfl rfl rfl rfl hl.1 rfl (lv_room (Nat.le_of_ble_eq_true rfl)) dX9_drift_189) hP hD hS hA [10] rfl rfl (fun H locs hP hD hS => ?_)
        have hP : va_P (dC, dI) vwCl [cl_X9 h_this h_this_now h_this_kept h_this_told h_this_text h_this_script h_this_momentReader h_this_spanReader h_this_adder h_this_other h_this_trial h_this_ways i_this, cl_X4 h_this_now h_this_now_day h_this_now_second h_this_now_months h_this_now_days h_this_now_seconds, (h_this_now_day, .inl (cI, 8, .inl f_this_now_day)), (h_this_now_second, .inl (cI, 8, .inl f_this_now_second)), (h_this_now_months, .inl (cI, 8, .inl f_this_now_months)), (h_this_now_days, .inl (cI, 8, .inl f_this_now_days)), (h_this_now_seconds, .inl (cI, 8, .inl f_this_now_seconds)), cl_X3 h_this_told h_this_told_numbers i_this_told, (h_this_told_numbers, .inl (cJ, 8, .inr (.inl f_this_told_numbers))), cl_X0 h_this_adder i_this_adder, cl_X0 h_this_other i_this_other] H := hP
        have hD : va_D A [cl_X9 h_this h_this_now h_this_kept h_this_told h_this_text h_this_script h_this_momentReader h_this_spanReader h_this_adder h_this_other h_this_trial h_this_ways i_this, cl_X4 h_this_now h_this_now_day h_this_now_second h_this_now_months h_this_now_days h_this_now_seconds, (h_this_now_day, .inl (cI, 8, .inl f_this_now_day)), (h_this_now_second, .inl (cI, 8, .inl f_this_now_second)), (h_this_now_months, .inl (cI, 8, .inl f_this_now_months)), (h_this_now_days, .inl (cI, 8, .inl f_this_now_days)), (h_this_now_seconds, .inl (cI, 8, .inl f_this_now_seconds)), cl_X3 h_this_told h_this_told_numbers i_this_told, (h_this_told_numbers, .inl (cJ, 8, .inr (.inl f_this_told_numbers))), cl_X0 h_this_adder i_this_adder, cl_X0 h_this_other i_this_other] := hD
        obtain ⟨i_this_told_6, f_this_told_numbers_7, hc8, h⟩ := bd2_at h
        refine kjV (kV (own := "DateSpans") (C := "DateSpans$Row") (b := h_this_told) (As := [.long r2, .long r4]) (rest := []) ⟨hx, hb, hml, hown, hts⟩ (kX3_tell_ l dC dI cI cJ cB h_this_told h_this_told_numbers N r2 r4 i_this_told f_this_told_numbers i_this_told_6 f_this_told_numbers_7 hc8 _) (kgV (kq q_418 rfl) (kq q_419 rfl) (kq q_420 rfl) (kq q_20 rfl) (kq q_421 rfl)) yd_X3_tell_ ⟨Nat.le_of_ble_eq_true rfl, Nat.le_of_ble_eq_true rfl⟩ hN hK hP hD [7, 8] rfl rfl (ci := 2) rfl rfl rfl rfl rfl hl.1 rfl (lv_room (Nat.le_of_ble_eq_true rfl)) dX9_drift_192) hP hD hS hA [7, 8] rfl rfl (fun H locs hP hD hS => ?_)
        have hP : va_P (dC, dI) vwCl [cl_X9 h_this h_this_now h_this_kept h_this_told h_this_text h_this_script h_this_momentReader h_this_spanReader h_this_adder h_this_other h_this_trial h_this_ways i_this, cl_X4 h_this_now h_this_now_day h_this_now_second h_this_now_months h_this_now_days h_this_now_seconds, (h_this_now_day, .inl (cI, 8, .inl f_this_now_day)), (h_this_now_second, .inl (cI, 8, .inl f_this_now_second)), (h_this_now_months, .inl (cI, 8, .inl f_this_now_months)), (h_this_now_days, .inl (cI, 8, .inl f_this_now_days)), (h_this_now_seconds, .inl (cI, 8, .inl f_this_now_seconds)), cl_X3 h_this_told h_this_told_numbers i_this_told_6, (h_this_told_numbers, .inl (cJ, 8, .inr (.inl f_this_told_numbers_7))), cl_X0 h_this_adder i_this_adder, cl_X0 h_this_other i_this_other] H := hP
        have hD : va_D A [cl_X9 h_this h_this_now h_this_kept h_this_told h_this_text h_this_script h_this_momentReader h_this_spanReader h_this_adder h_this_other h_this_trial h_this_ways i_this, cl_X4 h_this_now h_this_now_day h_this_now_second h_this_now_months h_this_now_days h_this_now_seconds, (h_this_now_day, .inl (cI, 8, .inl f_this_now_day)), (h_this_now_second, .inl (cI, 8, .inl f_this_now_second)), (h_this_now_months, .inl (cI, 8, .inl f_this_now_months)), (h_this_now_days, .inl (cI, 8, .inl f_this_now_days)), (h_this_now_seconds, .inl (cI, 8, .inl f_this_now_seconds)), cl_X3 h_this_told h_this_told_numbers i_this_told_6, (h_this_told_numbers, .inl (cJ, 8, .inr (.inl f_this_told_numbers_7))), cl_X0 h_this_adder i_this_adder, cl_X0 h_this_other i_this_other] := hD
        refine lv_aload_n hx hb dX9_drift_195 rfl (lv_at hl 0 rfl) ?_
        refine va_get (D := (dC, dI)) (ci := 8) (v := .ref h_this_adder) (C := RX9) (T := TX9) (N := 12) hx hb hts inX9 hown hK hP 0 rfl rfl 8 (by decide) (hts _ (kq q_234 rfl)) (fun _ h9 => h9) rfl dX9_drift_196 ?_
        obtain ⟨r9, hc10, h⟩ := bd1_at h
        refine kjL (kV (own := "DateSpans") (C := "DateSpans$Adder") (b := h_this_adder) (As := []) (rest := []) ⟨hx, hb, hml, hown, hts⟩ (kX0_instant l dC dI cI cJ cB h_this_adder N i_this_adder r9 hc10 _) (kgV (kq q_460 rfl) (kq q_408 rfl) (kq q_409 rfl) (kq q_24 rfl) (kq q_410 rfl)) yd_X0_instant ⟨Nat.le_of_ble_eq_true rfl, Nat.le_of_ble_eq_true rfl⟩ hN hK hP hD [9] rfl rfl (ci := 0) rfl rfl rfl rfl rfl hl.1 rfl (lv_room (Nat.le_of_ble_eq_true rfl)) dX9_drift_199) hP hD hS hA [9] rfl rfl (fun H locs hP hD hS => ?_)
        have hP : va_P (dC, dI) vwCl [cl_X9 h_this h_this_now h_this_kept h_this_told h_this_text h_this_script h_this_momentReader h_this_spanReader h_this_adder h_this_other h_this_trial h_this_ways i_this, cl_X4 h_this_now h_this_now_day h_this_now_second h_this_now_months h_this_now_days h_this_now_seconds, (h_this_now_day, .inl (cI, 8, .inl f_this_now_day)), (h_this_now_second, .inl (cI, 8, .inl f_this_now_second)), (h_this_now_months, .inl (cI, 8, .inl f_this_now_months)), (h_this_now_days, .inl (cI, 8, .inl f_this_now_days)), (h_this_now_seconds, .inl (cI, 8, .inl f_this_now_seconds)), cl_X3 h_this_told h_this_told_numbers i_this_told_6, (h_this_told_numbers, .inl (cJ, 8, .inr (.inl f_this_told_numbers_7))), cl_X0 h_this_adder i_this_adder, cl_X0 h_this_other i_this_other] H := hP
        have hD : va_D A [cl_X9 h_this h_this_now h_this_kept h_this_told h_this_text h_this_script h_this_momentReader h_this_spanReader h_this_adder h_this_other h_this_trial h_this_ways i_this, cl_X4 h_this_now h_this_now_day h_this_now_second h_this_now_months h_this_now_days h_this_now_seconds, (h_this_now_day, .inl (cI, 8, .inl f_this_now_day)), (h_this_now_second, .inl (cI, 8, .inl f_this_now_second)), (h_this_now_months, .inl (cI, 8, .inl f_this_now_months)), (h_this_now_days, .inl (cI, 8, .inl f_this_now_days)), (h_this_now_seconds, .inl (cI, 8, .inl f_this_now_seconds)), cl_X3 h_this_told h_this_told_numbers i_this_told_6, (h_this_told_numbers, .inl (cJ, 8, .inr (.inl f_this_told_numbers_7))), cl_X0 h_this_adder i_this_adder, cl_X0 h_this_other i_this_other] := hD
        refine lv_aload_n hx hb dX9_drift_202 rfl (lv_at hl 0 rfl) ?_
        refine va_get (D := (dC, dI)) (ci := 8) (v := .ref h_this_other) (C := RX9) (T := TX9) (N := 12) hx hb hts inX9 hown hK hP 0 rfl rfl 9 (by decide) (hts _ (kq q_235 rfl)) (fun _ h9 => h9) rfl dX9_drift_203 ?_
        obtain ⟨r11, hc12, h⟩ := bd1_at h
        refine kjL (kV (own := "DateSpans") (C := "DateSpans$Adder") (b := h_this_other) (As := []) (rest := [.long r9]) ⟨hx, hb, hml, hown, hts⟩ (kX0_instant l dC dI cI cJ cB h_this_other N i_this_other r11 hc12 _) (kgV (kq q_460 rfl) (kq q_408 rfl) (kq q_409 rfl) (kq q_24 rfl) (kq q_410 rfl)) yd_X0_instant ⟨Nat.le_of_ble_eq_true rfl, Nat.le_of_ble_eq_true rfl⟩ hN hK hP hD [10] rfl rfl (ci := 0) rfl rfl rfl rfl rfl hl.1 rfl (lv_room (Nat.le_of_ble_eq_true rfl)) dX9_drift_206) hP hD hS hA [10] rfl rfl (fun H locs hP hD hS => ?_)
        have hP : va_P (dC, dI) vwCl [cl_X9 h_this h_this_now h_this_kept h_this_told h_this_text h_this_script h_this_momentReader h_this_spanReader h_this_adder h_this_other h_this_trial h_this_ways i_this, cl_X4 h_this_now h_this_now_day h_this_now_second h_this_now_months h_this_now_days h_this_now_seconds, (h_this_now_day, .inl (cI, 8, .inl f_this_now_day)), (h_this_now_second, .inl (cI, 8, .inl f_this_now_second)), (h_this_now_months, .inl (cI, 8, .inl f_this_now_months)), (h_this_now_days, .inl (cI, 8, .inl f_this_now_days)), (h_this_now_seconds, .inl (cI, 8, .inl f_this_now_seconds)), cl_X3 h_this_told h_this_told_numbers i_this_told_6, (h_this_told_numbers, .inl (cJ, 8, .inr (.inl f_this_told_numbers_7))), cl_X0 h_this_adder i_this_adder, cl_X0 h_this_other i_this_other] H := hP
        have hD : va_D A [cl_X9 h_this h_this_now h_this_kept h_this_told h_this_text h_this_script h_this_momentReader h_this_spanReader h_this_adder h_this_other h_this_trial h_this_ways i_this, cl_X4 h_this_now h_this_now_day h_this_now_second h_this_now_months h_this_now_days h_this_now_seconds, (h_this_now_day, .inl (cI, 8, .inl f_this_now_day)), (h_this_now_second, .inl (cI, 8, .inl f_this_now_second)), (h_this_now_months, .inl (cI, 8, .inl f_this_now_months)), (h_this_now_days, .inl (cI, 8, .inl f_this_now_days)), (h_this_now_seconds, .inl (cI, 8, .inl f_this_now_seconds)), cl_X3 h_this_told h_this_told_numbers i_this_told_6, (h_this_told_numbers, .inl (cJ, 8, .inr (.inl f_this_told_numbers_7))), cl_X0 h_this_adder i_this_adder, cl_X0 h_this_other i_this_other] := hD
        refine lv_lsub hx hb dX9_drift_209 ?_
        obtain ⟨rfl, rfl, rfl, rfl, rfl⟩ := pj5 h
        exact hEnd _ _ _ _ hP hS dX9_drift_210
      have h := ite_f c1 h
      refine lv_aload_n hx hb dX9_drift_139 rfl (lv_at hl 0 rfl) ?_
      refine va_get (D := (dC, dI)) (ci := 8) (v := .ref h_this_adder) (C := RX9) (T := TX9) (N := 12) hx hb hts inX9 hown hK hP 0 rfl rfl 8 (by decide) (hts _ (kq q_234 rfl)) (fun _ h9 => h9) rfl dX9_drift_140 ?_
      refine lv_aload_n hx hb dX9_drift_143 rfl (lv_at hl 0 rfl) ?_
      refine va_get (D := (dC, dI)) (ci := 8) (v := .ref h_this_adder) (C := RX9) (T := TX9) (N := 12) hx hb hts inX9 hown hK hP 0 rfl rfl 8 (by decide) (hts _ (kq q_234 rfl)) (fun _ h9 => h9) rfl dX9_drift_144 ?_
      refine va_getN (D := (dC, dI)) (ci := 0) (v := .int (i_this_adder 8)) (C := RX0) (T := TX0) (N := 11) hx hb hts inX0 hown hK hP 9 rfl rfl 8 (by decide) (kN.use hN q_149 rfl) (fun _ h9 => h9) rfl dX9_drift_147 ?_
      refine lv_aload_n hx hb dX9_drift_150 rfl (lv_at hl 0 rfl) ?_
      refine va_get (D := (dC, dI)) (ci := 8) (v := .ref h_this_adder) (C := RX9) (T := TX9) (N := 12) hx hb hts inX9 hown hK hP 0 rfl rfl 8 (by decide) (hts _ (kq q_234 rfl)) (fun _ h9 => h9) rfl dX9_drift_151 ?_
      refine va_getN (D := (dC, dI)) (ci := 0) (v := .int (i_this_adder 9)) (C := RX0) (T := TX0) (N := 11) hx hb hts inX0 hown hK hP 9 rfl rfl 9 (by decide) (kN.use hN q_151 rfl) (fun _ h9 => h9) rfl dX9_drift_154 ?_
      refine lv_iconst (v := (0 : Int32)) hx hb dX9_drift_157 (by decide) ?_
      obtain ⟨r13, i_this_adder_14, hc15, h⟩ := bd2_at h
      refine kjI (kV (own := "DateSpans") (C := "DateSpans$Adder") (b := h_this_adder) (As := [.int (i_this_adder 8), .int (i_this_adder 9), .int (0 : Int32)]) (rest := []) ⟨hx, hb, hml, hown, hts⟩ (kX0_leads l dC dI cI cJ cB h_this_adder N (i_this_adder 8) (i_this_adder 9) (0 : Int32) i_this_adder r13 i_this_adder_14 hc15 _) (kgV (kq q_370 rfl) (kq q_371 rfl) (kq q_372 rfl) (kq q_24 rfl) (kq q_373 rfl)) yd_X0_leads ⟨Nat.le_of_ble_eq_true rfl, Nat.le_of_ble_eq_true rfl⟩ hN hK hP hD [9] rfl rfl (ci := 0) rfl rfl rfl rfl rfl hl.1 rfl (lv_room (Nat.le_of_ble_eq_true rfl)) dX9_drift_158) hP hD hS hA [9] rfl rfl (fun H locs hP hD hS => ?_)
      have hP : va_P (dC, dI) vwCl [cl_X9 h_this h_this_now h_this_kept h_this_told h_this_text h_this_script h_this_momentReader h_this_spanReader h_this_adder h_this_other h_this_trial h_this_ways i_this, cl_X4 h_this_now h_this_now_day h_this_now_second h_this_now_months h_this_now_days h_this_now_seconds, (h_this_now_day, .inl (cI, 8, .inl f_this_now_day)), (h_this_now_second, .inl (cI, 8, .inl f_this_now_second)), (h_this_now_months, .inl (cI, 8, .inl f_this_now_months)), (h_this_now_days, .inl (cI, 8, .inl f_this_now_days)), (h_this_now_seconds, .inl (cI, 8, .inl f_this_now_seconds)), cl_X3 h_this_told h_this_told_numbers i_this_told, (h_this_told_numbers, .inl (cJ, 8, .inr (.inl f_this_told_numbers))), cl_X0 h_this_adder i_this_adder_14, cl_X0 h_this_other i_this_other] H := hP
      have hD : va_D A [cl_X9 h_this h_this_now h_this_kept h_this_told h_this_text h_this_script h_this_momentReader h_this_spanReader h_this_adder h_this_other h_this_trial h_this_ways i_this, cl_X4 h_this_now h_this_now_day h_this_now_second h_this_now_months h_this_now_days h_this_now_seconds, (h_this_now_day, .inl (cI, 8, .inl f_this_now_day)), (h_this_now_second, .inl (cI, 8, .inl f_this_now_second)), (h_this_now_months, .inl (cI, 8, .inl f_this_now_months)), (h_this_now_days, .inl (cI, 8, .inl f_this_now_days)), (h_this_now_seconds, .inl (cI, 8, .inl f_this_now_seconds)), cl_X3 h_this_told h_this_told_numbers i_this_told, (h_this_told_numbers, .inl (cJ, 8, .inr (.inl f_this_told_numbers))), cl_X0 h_this_adder i_this_adder_14, cl_X0 h_this_other i_this_other] := hD
      refine lv_if_ne (tgt := 168) hx hb dX9_drift_161 (by decide) (fun c16 => ?_) (fun c16 => ?_)
      · have h := ite_f c16 h
        obtain ⟨z17, ez17⟩ : ∃ y : Int32, y = (v5 + (1 : Int32)) := ⟨_, rfl⟩
        have h := nm_at ez17 h
        refine lv_iinc (v := z17) (lv' := [(5, .int z17), (0, .ref h_this), (4, .int v4)]) hx hb dX9_drift_168 hl (k := 2) rfl (by rw [ez17]; rfl) (by decide) rfl (fun ls hl => ?_)
        refine lv_goto (tgt := 132) hx hb dX9_drift_171 (by decide) ?_
        exact ih_132 _ _ _ _ _ _ _ _ _ h (lv_sub hl [1, 2, 0] rfl) hP hD hS
      have h := ite_t c16 h
      refine lv_ldc2 (v := (-1000002 : Int64)) hx hb hown (hts _ (kq q_493 rfl)) dX9_drift_164 ?_
      obtain ⟨rfl, rfl, rfl, rfl, rfl⟩ := pj5 h
      exact hEnd _ _ _ _ hP hS dX9_drift_167
  have h := hf
  unfold fX9_drift at h
  refine lv_iload_n hx hb dX9_drift_0 rfl (lv_at hl 1 rfl) ?_
  obtain ⟨r18, hc19, h⟩ := bd1_at h
  refine kjSI (kS0 (own := "DateSpans") (As := [.int p1]) (rest := []) ⟨hx, hb, hml, hown, hts⟩ (kX9_isSlot l N p1 r18 hc19) (kgS (kq q_267 rfl) (kq q_268 rfl) (kq q_18 rfl) (kq q_269 rfl)) yd_X9_isSlot ⟨Nat.le_of_ble_eq_true rfl, Nat.le_of_ble_eq_true rfl⟩ rfl rfl hl.1 rfl (lv_room (Nat.le_of_ble_eq_true rfl)) dX9_drift_1) ?_
  refine lv_if_eq (tgt := 34) hx hb dX9_drift_4 (by decide) (fun c20 => ?_) (fun c20 => ?_)
  · have h := ite_t c20 h
    refine lv_ldc2 (v := (-1 : Int64)) hx hb hown (hts _ (kq q_491 rfl)) dX9_drift_34 ?_
    obtain ⟨rfl, rfl, rfl, rfl, rfl⟩ := pj5 h
    exact hEnd _ _ _ _ hP hS dX9_drift_37
  have h := ite_f c20 h
  refine lv_iload_n hx hb dX9_drift_7 rfl (lv_at hl 2 rfl) ?_
  obtain ⟨r21, hc22, h⟩ := bd1_at h
  refine kjSI (kS0 (own := "DateSpans") (As := [.int p2]) (rest := []) ⟨hx, hb, hml, hown, hts⟩ (kX9_isSlot l N p2 r21 hc22) (kgS (kq q_267 rfl) (kq q_268 rfl) (kq q_18 rfl) (kq q_269 rfl)) yd_X9_isSlot ⟨Nat.le_of_ble_eq_true rfl, Nat.le_of_ble_eq_true rfl⟩ rfl rfl hl.1 rfl (lv_room (Nat.le_of_ble_eq_true rfl)) dX9_drift_8) ?_
  refine lv_if_eq (tgt := 34) hx hb dX9_drift_11 (by decide) (fun c23 => ?_) (fun c23 => ?_)
  · have h := ite_t c23 h
    refine lv_ldc2 (v := (-1 : Int64)) hx hb hown (hts _ (kq q_491 rfl)) dX9_drift_34 ?_
    obtain ⟨rfl, rfl, rfl, rfl, rfl⟩ := pj5 h
    exact hEnd _ _ _ _ hP hS dX9_drift_37
  have h := ite_f c23 h
  refine lv_iload_n hx hb dX9_drift_14 rfl (lv_at hl 3 rfl) ?_
  obtain ⟨r24, hc25, h⟩ := bd1_at h
  refine kjSI (kS0 (own := "DateSpans") (As := [.int p3]) (rest := []) ⟨hx, hb, hml, hown, hts⟩ (kX9_isLaw l N p3 r24 hc25) (kgS (kq q_352 rfl) (kq q_353 rfl) (kq q_18 rfl) (kq q_354 rfl)) yd_X9_isLaw ⟨Nat.le_of_ble_eq_true rfl, Nat.le_of_ble_eq_true rfl⟩ rfl rfl hl.1 rfl (lv_room (Nat.le_of_ble_eq_true rfl)) dX9_drift_15) ?_
  refine lv_if_eq (tgt := 34) hx hb dX9_drift_18 (by decide) (fun c26 => ?_) (fun c26 => ?_)
  · have h := ite_t c26 h
    refine lv_ldc2 (v := (-1 : Int64)) hx hb hown (hts _ (kq q_491 rfl)) dX9_drift_34 ?_
    obtain ⟨rfl, rfl, rfl, rfl, rfl⟩ := pj5 h
    exact hEnd _ _ _ _ hP hS dX9_drift_37
  have h := ite_f c26 h
  refine lv_iload hx hb dX9_drift_21 (lv_at hl 4 rfl) ?_
  refine lv_if_lt (tgt := 34) hx hb dX9_drift_23 (by decide) (fun c27 => ?_) (fun c27 => ?_)
  · have h := ite_t c27 h
    refine lv_ldc2 (v := (-1 : Int64)) hx hb hown (hts _ (kq q_491 rfl)) dX9_drift_34 ?_
    obtain ⟨rfl, rfl, rfl, rfl, rfl⟩ := pj5 h
    exact hEnd _ _ _ _ hP hS dX9_drift_37
  have h := ite_f c27 h
  refine lv_iload hx hb dX9_drift_26 (lv_at hl 4 rfl) ?_
  refine lv_sipush (v := (1000 : Int32)) hx hb dX9_drift_28 (by decide) ?_
  refine lv_icmp_le (tgt := 38) hx hb dX9_drift_31 (by decide) (fun c28 => ?_) (fun c28 => ?_)
  · have h := ite_t c28 h
    refine lv_aload_n hx hb dX9_drift_38 rfl (lv_at hl 0 rfl) ?_
    refine va_get (D := (dC, dI)) (ci := 8) (v := .ref h_this_other) (C := RX9) (T := TX9) (N := 12) hx hb hts inX9 hown hK hP 0 rfl rfl 9 (by decide) (hts _ (kq q_235 rfl)) (fun _ h9 => h9) rfl dX9_drift_39 ?_
    refine lv_aload_n hx hb dX9_drift_42 rfl (lv_at hl 0 rfl) ?_
    refine va_get (D := (dC, dI)) (ci := 8) (v := .ref h_this_now) (C := RX9) (T := TX9) (N := 12) hx hb hts inX9 hown hK hP 0 rfl rfl 0 (by decide) (hts _ (kq q_226 rfl)) (fun _ h9 => h9) rfl dX9_drift_43 ?_
    refine lv_iload_n hx hb dX9_drift_46 rfl (lv_at hl 2 rfl) ?_
    refine lv_iload hx hb dX9_drift_47 (lv_at hl 4 rfl) ?_
    refine lv_iload_n hx hb dX9_drift_49 rfl (lv_at hl 3 rfl) ?_
    obtain ⟨r29, i_this_other_30, hc31, h⟩ := bd2_at h
    refine kjI (kV (own := "DateSpans") (C := "DateSpans$Adder") (b := h_this_other) (As := [.ref h_this_now, .int p2, .int p4, .int p3]) (rest := []) ⟨hx, hb, hml, hown, hts⟩ (kX0_takes l dC dI cI cJ cB h_this_other h_this_now h_this_now_day h_this_now_second h_this_now_months h_this_now_days h_this_now_seconds N p2 p4 p3 i_this_other f_this_now_months f_this_now_days f_this_now_seconds r29 i_this_other_30 hc31 _) (kgV (kq q_358 rfl) (kq q_359 rfl) (kq q_360 rfl) (kq q_24 rfl) (kq q_361 rfl)) yd_X0_takes ⟨Nat.le_of_ble_eq_true rfl, Nat.le_of_ble_eq_true rfl⟩ hN hK hP hD [10, 1, 4, 5, 6] rfl rfl (ci := 0) rfl rfl rfl rfl rfl hl.1 rfl (lv_room (Nat.le_of_ble_eq_true rfl)) dX9_drift_50) hP hD hS hA [10, 1, 4, 5, 6] rfl rfl (fun H locs hP hD hS => ?_)
    have hP : va_P (dC, dI) vwCl [cl_X9 h_this h_this_now h_this_kept h_this_told h_this_text h_this_script h_this_momentReader h_this_spanReader h_this_adder h_this_other h_this_trial h_this_ways i_this, cl_X4 h_this_now h_this_now_day h_this_now_second h_this_now_months h_this_now_days h_this_now_seconds, (h_this_now_day, .inl (cI, 8, .inl f_this_now_day)), (h_this_now_second, .inl (cI, 8, .inl f_this_now_second)), (h_this_now_months, .inl (cI, 8, .inl f_this_now_months)), (h_this_now_days, .inl (cI, 8, .inl f_this_now_days)), (h_this_now_seconds, .inl (cI, 8, .inl f_this_now_seconds)), cl_X3 h_this_told h_this_told_numbers i_this_told, (h_this_told_numbers, .inl (cJ, 8, .inr (.inl f_this_told_numbers))), cl_X0 h_this_adder i_this_adder, cl_X0 h_this_other i_this_other_30] H := hP
    have hD : va_D A [cl_X9 h_this h_this_now h_this_kept h_this_told h_this_text h_this_script h_this_momentReader h_this_spanReader h_this_adder h_this_other h_this_trial h_this_ways i_this, cl_X4 h_this_now h_this_now_day h_this_now_second h_this_now_months h_this_now_days h_this_now_seconds, (h_this_now_day, .inl (cI, 8, .inl f_this_now_day)), (h_this_now_second, .inl (cI, 8, .inl f_this_now_second)), (h_this_now_months, .inl (cI, 8, .inl f_this_now_months)), (h_this_now_days, .inl (cI, 8, .inl f_this_now_days)), (h_this_now_seconds, .inl (cI, 8, .inl f_this_now_seconds)), cl_X3 h_this_told h_this_told_numbers i_this_told, (h_this_told_numbers, .inl (cJ, 8, .inr (.inl f_this_told_numbers))), cl_X0 h_this_adder i_this_adder, cl_X0 h_this_other i_this_other_30] := hD
    refine lv_if_ne (tgt := 60) hx hb dX9_drift_53 (by decide) (fun c32 => ?_) (fun c32 => ?_)
    · have h := ite_f c32 h
      refine lv_aload_n hx hb dX9_drift_60 rfl (lv_at hl 0 rfl) ?_
      refine va_get (D := (dC, dI)) (ci := 8) (v := .ref h_this_other) (C := RX9) (T := TX9) (N := 12) hx hb hts inX9 hown hK hP 0 rfl rfl 9 (by decide) (hts _ (kq q_235 rfl)) (fun _ h9 => h9) rfl dX9_drift_61 ?_
      refine lv_aload_n hx hb dX9_drift_64 rfl (lv_at hl 0 rfl) ?_
      refine va_get (D := (dC, dI)) (ci := 8) (v := .ref h_this_now) (C := RX9) (T := TX9) (N := 12) hx hb hts inX9 hown hK hP 0 rfl rfl 0 (by decide) (hts _ (kq q_226 rfl)) (fun _ h9 => h9) rfl dX9_drift_65 ?_
      refine lv_iload_n hx hb dX9_drift_68 rfl (lv_at hl 1 rfl) ?_
      obtain ⟨r33, hc34, h⟩ := bd1_at h
      refine kjI (kV (own := "DateSpans") (C := "DateSpans$Slots") (b := h_this_now) (As := [.int p1]) (rest := [.ref h_this_other]) ⟨hx, hb, hml, hown, hts⟩ (kX4_dayAt l dC dI cI cJ cB h_this_now h_this_now_day h_this_now_second h_this_now_months h_this_now_days h_this_now_seconds N p1 f_this_now_day r33 hc34 _) (kgV (kq q_275 rfl) (kq q_276 rfl) (kq q_277 rfl) (kq q_19 rfl) (kq q_278 rfl)) yd_X4_dayAt ⟨Nat.le_of_ble_eq_true rfl, Nat.le_of_ble_eq_true rfl⟩ hN hK hP hD [1, 2] rfl rfl (ci := 3) rfl rfl rfl rfl rfl hl.1 rfl (lv_room (Nat.le_of_ble_eq_true rfl)) dX9_drift_69) hP hD hS hA [1, 2] rfl rfl (fun H locs hP hD hS => ?_)
      have hP : va_P (dC, dI) vwCl [cl_X9 h_this h_this_now h_this_kept h_this_told h_this_text h_this_script h_this_momentReader h_this_spanReader h_this_adder h_this_other h_this_trial h_this_ways i_this, cl_X4 h_this_now h_this_now_day h_this_now_second h_this_now_months h_this_now_days h_this_now_seconds, (h_this_now_day, .inl (cI, 8, .inl f_this_now_day)), (h_this_now_second, .inl (cI, 8, .inl f_this_now_second)), (h_this_now_months, .inl (cI, 8, .inl f_this_now_months)), (h_this_now_days, .inl (cI, 8, .inl f_this_now_days)), (h_this_now_seconds, .inl (cI, 8, .inl f_this_now_seconds)), cl_X3 h_this_told h_this_told_numbers i_this_told, (h_this_told_numbers, .inl (cJ, 8, .inr (.inl f_this_told_numbers))), cl_X0 h_this_adder i_this_adder, cl_X0 h_this_other i_this_other_30] H := hP
      have hD : va_D A [cl_X9 h_this h_this_now h_this_kept h_this_told h_this_text h_this_script h_this_momentReader h_this_spanReader h_this_adder h_this_other h_this_trial h_this_ways i_this, cl_X4 h_this_now h_this_now_day h_this_now_second h_this_now_months h_this_now_days h_this_now_seconds, (h_this_now_day, .inl (cI, 8, .inl f_this_now_day)), (h_this_now_second, .inl (cI, 8, .inl f_this_now_second)), (h_this_now_months, .inl (cI, 8, .inl f_this_now_months)), (h_this_now_days, .inl (cI, 8, .inl f_this_now_days)), (h_this_now_seconds, .inl (cI, 8, .inl f_this_now_seconds)), cl_X3 h_this_told h_this_told_numbers i_this_told, (h_this_told_numbers, .inl (cJ, 8, .inr (.inl f_this_told_numbers))), cl_X0 h_this_adder i_this_adder, cl_X0 h_this_other i_this_other_30] := hD
      refine lv_aload_n hx hb dX9_drift_72 rfl (lv_at hl 0 rfl) ?_
      refine va_get (D := (dC, dI)) (ci := 8) (v := .ref h_this_now) (C := RX9) (T := TX9) (N := 12) hx hb hts inX9 hown hK hP 0 rfl rfl 0 (by decide) (hts _ (kq q_226 rfl)) (fun _ h9 => h9) rfl dX9_drift_73 ?_
      refine lv_iload_n hx hb dX9_drift_76 rfl (lv_at hl 1 rfl) ?_
      obtain ⟨r35, hc36, h⟩ := bd1_at h
      refine kjI (kV (own := "DateSpans") (C := "DateSpans$Slots") (b := h_this_now) (As := [.int p1]) (rest := [.int r33, .ref h_this_other]) ⟨hx, hb, hml, hown, hts⟩ (kX4_secondAt l dC dI cI cJ cB h_this_now h_this_now_day h_this_now_second h_this_now_months h_this_now_days h_this_now_seconds N p1 f_this_now_second r35 hc36 _) (kgV (kq q_310 rfl) (kq q_311 rfl) (kq q_312 rfl) (kq q_19 rfl) (kq q_313 rfl)) yd_X4_secondAt ⟨Nat.le_of_ble_eq_true rfl, Nat.le_of_ble_eq_true rfl⟩ hN hK hP hD [1, 3] rfl rfl (ci := 3) rfl rfl rfl rfl rfl hl.1 rfl (lv_room (Nat.le_of_ble_eq_true rfl)) dX9_drift_77) hP hD hS hA [1, 3] rfl rfl (fun H locs hP hD hS => ?_)
      have hP : va_P (dC, dI) vwCl [cl_X9 h_this h_this_now h_this_kept h_this_told h_this_text h_this_script h_this_momentReader h_this_spanReader h_this_adder h_this_other h_this_trial h_this_ways i_this, cl_X4 h_this_now h_this_now_day h_this_now_second h_this_now_months h_this_now_days h_this_now_seconds, (h_this_now_day, .inl (cI, 8, .inl f_this_now_day)), (h_this_now_second, .inl (cI, 8, .inl f_this_now_second)), (h_this_now_months, .inl (cI, 8, .inl f_this_now_months)), (h_this_now_days, .inl (cI, 8, .inl f_this_now_days)), (h_this_now_seconds, .inl (cI, 8, .inl f_this_now_seconds)), cl_X3 h_this_told h_this_told_numbers i_this_told, (h_this_told_numbers, .inl (cJ, 8, .inr (.inl f_this_told_numbers))), cl_X0 h_this_adder i_this_adder, cl_X0 h_this_other i_this_other_30] H := hP
      have hD : va_D A [cl_X9 h_this h_this_now h_this_kept h_this_told h_this_text h_this_script h_this_momentReader h_this_spanReader h_this_adder h_this_other h_this_trial h_this_ways i_this, cl_X4 h_this_now h_this_now_day h_this_now_second h_this_now_months h_this_now_days h_this_now_seconds, (h_this_now_day, .inl (cI, 8, .inl f_this_now_day)), (h_this_now_second, .inl (cI, 8, .inl f_this_now_second)), (h_this_now_months, .inl (cI, 8, .inl f_this_now_months)), (h_this_now_days, .inl (cI, 8, .inl f_this_now_days)), (h_this_now_seconds, .inl (cI, 8, .inl f_this_now_seconds)), cl_X3 h_this_told h_this_told_numbers i_this_told, (h_this_told_numbers, .inl (cJ, 8, .inr (.inl f_this_told_numbers))), cl_X0 h_this_adder i_this_adder, cl_X0 h_this_other i_this_other_30] := hD
      refine lv_iconst (v := (0 : Int32)) hx hb dX9_drift_80 (by decide) ?_
      obtain ⟨r37, i_this_other_38, hc39, h⟩ := bd2_at h
      refine kjI (kV (own := "DateSpans") (C := "DateSpans$Adder") (b := h_this_other) (As := [.int r33, .int r35, .int (0 : Int32)]) (rest := []) ⟨hx, hb, hml, hown, hts⟩ (kX0_leads l dC dI cI cJ cB h_this_other N r33 r35 (0 : Int32) i_this_other_30 r37 i_this_other_38 hc39 _) (kgV (kq q_370 rfl) (kq q_371 rfl) (kq q_372 rfl) (kq q_24 rfl) (kq q_373 rfl)) yd_X0_leads ⟨Nat.le_of_ble_eq_true rfl, Nat.le_of_ble_eq_true rfl⟩ hN hK hP hD [10] rfl rfl (ci := 0) rfl rfl rfl rfl rfl hl.1 rfl (lv_room (Nat.le_of_ble_eq_true rfl)) dX9_drift_81) hP hD hS hA [10] rfl rfl (fun H locs hP hD hS => ?_)
      have hP : va_P (dC, dI) vwCl [cl_X9 h_this h_this_now h_this_kept h_this_told h_this_text h_this_script h_this_momentReader h_this_spanReader h_this_adder h_this_other h_this_trial h_this_ways i_this, cl_X4 h_this_now h_this_now_day h_this_now_second h_this_now_months h_this_now_days h_this_now_seconds, (h_this_now_day, .inl (cI, 8, .inl f_this_now_day)), (h_this_now_second, .inl (cI, 8, .inl f_this_now_second)), (h_this_now_months, .inl (cI, 8, .inl f_this_now_months)), (h_this_now_days, .inl (cI, 8, .inl f_this_now_days)), (h_this_now_seconds, .inl (cI, 8, .inl f_this_now_seconds)), cl_X3 h_this_told h_this_told_numbers i_this_told, (h_this_told_numbers, .inl (cJ, 8, .inr (.inl f_this_told_numbers))), cl_X0 h_this_adder i_this_adder, cl_X0 h_this_other i_this_other_38] H := hP
      have hD : va_D A [cl_X9 h_this h_this_now h_this_kept h_this_told h_this_text h_this_script h_this_momentReader h_this_spanReader h_this_adder h_this_other h_this_trial h_this_ways i_this, cl_X4 h_this_now h_this_now_day h_this_now_second h_this_now_months h_this_now_days h_this_now_seconds, (h_this_now_day, .inl (cI, 8, .inl f_this_now_day)), (h_this_now_second, .inl (cI, 8, .inl f_this_now_second)), (h_this_now_months, .inl (cI, 8, .inl f_this_now_months)), (h_this_now_days, .inl (cI, 8, .inl f_this_now_days)), (h_this_now_seconds, .inl (cI, 8, .inl f_this_now_seconds)), cl_X3 h_this_told h_this_told_numbers i_this_told, (h_this_told_numbers, .inl (cJ, 8, .inr (.inl f_this_told_numbers))), cl_X0 h_this_adder i_this_adder, cl_X0 h_this_other i_this_other_38] := hD
      refine lv_if_ne (tgt := 91) hx hb dX9_drift_84 (by decide) (fun c40 => ?_) (fun c40 => ?_)
      · have h := ite_f c40 h
        refine lv_aload_n hx hb dX9_drift_91 rfl (lv_at hl 0 rfl) ?_
        refine va_get (D := (dC, dI)) (ci := 8) (v := .ref h_this_adder) (C := RX9) (T := TX9) (N := 12) hx hb hts inX9 hown hK hP 0 rfl rfl 8 (by decide) (hts _ (kq q_234 rfl)) (fun _ h9 => h9) rfl dX9_drift_92 ?_
        refine lv_aload_n hx hb dX9_drift_95 rfl (lv_at hl 0 rfl) ?_
        refine va_get (D := (dC, dI)) (ci := 8) (v := .ref h_this_now) (C := RX9) (T := TX9) (N := 12) hx hb hts inX9 hown hK hP 0 rfl rfl 0 (by decide) (hts _ (kq q_226 rfl)) (fun _ h9 => h9) rfl dX9_drift_96 ?_
        refine lv_iload_n hx hb dX9_drift_99 rfl (lv_at hl 2 rfl) ?_
        refine lv_iconst (v := (1 : Int32)) hx hb dX9_drift_100 (by decide) ?_
        refine lv_iload_n hx hb dX9_drift_101 rfl (lv_at hl 3 rfl) ?_
        obtain ⟨r41, i_this_adder_42, hc43, h⟩ := bd2_at h
        refine kjI (kV (own := "DateSpans") (C := "DateSpans$Adder") (b := h_this_adder) (As := [.ref h_this_now, .int p2, .int (1 : Int32), .int p3]) (rest := []) ⟨hx, hb, hml, hown, hts⟩ (kX0_takes l dC dI cI cJ cB h_this_adder h_this_now h_this_now_day h_this_now_second h_this_now_months h_this_now_days h_this_now_seconds N p2 (1 : Int32) p3 i_this_adder f_this_now_months f_this_now_days f_this_now_seconds r41 i_this_adder_42 hc43 _) (kgV (kq q_358 rfl) (kq q_359 rfl) (kq q_360 rfl) (kq q_24 rfl) (kq q_361 rfl)) yd_X0_takes ⟨Nat.le_of_ble_eq_true rfl, Nat.le_of_ble_eq_true rfl⟩ hN hK hP hD [9, 1, 4, 5, 6] rfl rfl (ci := 0) rfl rfl rfl rfl rfl hl.1 rfl (lv_room (Nat.le_of_ble_eq_true rfl)) dX9_drift_102) hP hD hS hA [9, 1, 4, 5, 6] rfl rfl (fun H locs hP hD hS => ?_)
        have hP : va_P (dC, dI) vwCl [cl_X9 h_this h_this_now h_this_kept h_this_told h_this_text h_this_script h_this_momentReader h_this_spanReader h_this_adder h_this_other h_this_trial h_this_ways i_this, cl_X4 h_this_now h_this_now_day h_this_now_second h_this_now_months h_this_now_days h_this_now_seconds, (h_this_now_day, .inl (cI, 8, .inl f_this_now_day)), (h_this_now_second, .inl (cI, 8, .inl f_this_now_second)), (h_this_now_months, .inl (cI, 8, .inl f_this_now_months)), (h_this_now_days, .inl (cI, 8, .inl f_this_now_days)), (h_this_now_seconds, .inl (cI, 8, .inl f_this_now_seconds)), cl_X3 h_this_told h_this_told_numbers i_this_told, (h_this_told_numbers, .inl (cJ, 8, .inr (.inl f_this_told_numbers))), cl_X0 h_this_adder i_this_adder_42, cl_X0 h_this_other i_this_other_38] H := hP
        have hD : va_D A [cl_X9 h_this h_this_now h_this_kept h_this_told h_this_text h_this_script h_this_momentReader h_this_spanReader h_this_adder h_this_other h_this_trial h_this_ways i_this, cl_X4 h_this_now h_this_now_day h_this_now_second h_this_now_months h_this_now_days h_this_now_seconds, (h_this_now_day, .inl (cI, 8, .inl f_this_now_day)), (h_this_now_second, .inl (cI, 8, .inl f_this_now_second)), (h_this_now_months, .inl (cI, 8, .inl f_this_now_months)), (h_this_now_days, .inl (cI, 8, .inl f_this_now_days)), (h_this_now_seconds, .inl (cI, 8, .inl f_this_now_seconds)), cl_X3 h_this_told h_this_told_numbers i_this_told, (h_this_told_numbers, .inl (cJ, 8, .inr (.inl f_this_told_numbers))), cl_X0 h_this_adder i_this_adder_42, cl_X0 h_this_other i_this_other_38] := hD
        refine lv_pop hx hb dX9_drift_105 rfl ?_
        refine lv_aload_n hx hb dX9_drift_106 rfl (lv_at hl 0 rfl) ?_
        refine va_get (D := (dC, dI)) (ci := 8) (v := .ref h_this_adder) (C := RX9) (T := TX9) (N := 12) hx hb hts inX9 hown hK hP 0 rfl rfl 8 (by decide) (hts _ (kq q_234 rfl)) (fun _ h9 => h9) rfl dX9_drift_107 ?_
        refine lv_aload_n hx hb dX9_drift_110 rfl (lv_at hl 0 rfl) ?_
        refine va_get (D := (dC, dI)) (ci := 8) (v := .ref h_this_now) (C := RX9) (T := TX9) (N := 12) hx hb hts inX9 hown hK hP 0 rfl rfl 0 (by decide) (hts _ (kq q_226 rfl)) (fun _ h9 => h9) rfl dX9_drift_111 ?_
        refine lv_iload_n hx hb dX9_drift_114 rfl (lv_at hl 1 rfl) ?_
        obtain ⟨r44, hc45, h⟩ := bd1_at h
        refine kjI (kV (own := "DateSpans") (C := "DateSpans$Slots") (b := h_this_now) (As := [.int p1]) (rest := [.ref h_this_adder]) ⟨hx, hb, hml, hown, hts⟩ (kX4_dayAt l dC dI cI cJ cB h_this_now h_this_now_day h_this_now_second h_this_now_months h_this_now_days h_this_now_seconds N p1 f_this_now_day r44 hc45 _) (kgV (kq q_275 rfl) (kq q_276 rfl) (kq q_277 rfl) (kq q_19 rfl) (kq q_278 rfl)) yd_X4_dayAt ⟨Nat.le_of_ble_eq_true rfl, Nat.le_of_ble_eq_true rfl⟩ hN hK hP hD [1, 2] rfl rfl (ci := 3) rfl rfl rfl rfl rfl hl.1 rfl (lv_room (Nat.le_of_ble_eq_true rfl)) dX9_drift_115) hP hD hS hA [1, 2] rfl rfl (fun H locs hP hD hS => ?_)
        have hP : va_P (dC, dI) vwCl [cl_X9 h_this h_this_now h_this_kept h_this_told h_this_text h_this_script h_this_momentReader h_this_spanReader h_this_adder h_this_other h_this_trial h_this_ways i_this, cl_X4 h_this_now h_this_now_day h_this_now_second h_this_now_months h_this_now_days h_this_now_seconds, (h_this_now_day, .inl (cI, 8, .inl f_this_now_day)), (h_this_now_second, .inl (cI, 8, .inl f_this_now_second)), (h_this_now_months, .inl (cI, 8, .inl f_this_now_months)), (h_this_now_days, .inl (cI, 8, .inl f_this_now_days)), (h_this_now_seconds, .inl (cI, 8, .inl f_this_now_seconds)), cl_X3 h_this_told h_this_told_numbers i_this_told, (h_this_told_numbers, .inl (cJ, 8, .inr (.inl f_this_told_numbers))), cl_X0 h_this_adder i_this_adder_42, cl_X0 h_this_other i_this_other_38] H := hP
        have hD : va_D A [cl_X9 h_this h_this_now h_this_kept h_this_told h_this_text h_this_script h_this_momentReader h_this_spanReader h_this_adder h_this_other h_this_trial h_this_ways i_this, cl_X4 h_this_now h_this_now_day h_this_now_second h_this_now_months h_this_now_days h_this_now_seconds, (h_this_now_day, .inl (cI, 8, .inl f_this_now_day)), (h_this_now_second, .inl (cI, 8, .inl f_this_now_second)), (h_this_now_months, .inl (cI, 8, .inl f_this_now_months)), (h_this_now_days, .inl (cI, 8, .inl f_this_now_days)), (h_this_now_seconds, .inl (cI, 8, .inl f_this_now_seconds)), cl_X3 h_this_told h_this_told_numbers i_this_told, (h_this_told_numbers, .inl (cJ, 8, .inr (.inl f_this_told_numbers))), cl_X0 h_this_adder i_this_adder_42, cl_X0 h_this_other i_this_other_38] := hD
        refine lv_aload_n hx hb dX9_drift_118 rfl (lv_at hl 0 rfl) ?_
        refine va_get (D := (dC, dI)) (ci := 8) (v := .ref h_this_now) (C := RX9) (T := TX9) (N := 12) hx hb hts inX9 hown hK hP 0 rfl rfl 0 (by decide) (hts _ (kq q_226 rfl)) (fun _ h9 => h9) rfl dX9_drift_119 ?_
        refine lv_iload_n hx hb dX9_drift_122 rfl (lv_at hl 1 rfl) ?_
        obtain ⟨r46, hc47, h⟩ := bd1_at h
        refine kjI (kV (own := "DateSpans") (C := "DateSpans$Slots") (b := h_this_now) (As := [.int p1]) (rest := [.int r44, .ref h_this_adder]) ⟨hx, hb, hml, hown, hts⟩ (kX4_secondAt l dC dI cI cJ cB h_this_now h_this_now_day h_this_now_second h_this_now_months h_this_now_days h_this_now_seconds N p1 f_this_now_second r46 hc47 _) (kgV (kq q_310 rfl) (kq q_311 rfl) (kq q_312 rfl) (kq q_19 rfl) (kq q_313 rfl)) yd_X4_secondAt ⟨Nat.le_of_ble_eq_true rfl, Nat.le_of_ble_eq_true rfl⟩ hN hK hP hD [1, 3] rfl rfl (ci := 3) rfl rfl rfl rfl rfl hl.1 rfl (lv_room (Nat.le_of_ble_eq_true rfl)) dX9_drift_123) hP hD hS hA [1, 3] rfl rfl (fun H locs hP hD hS => ?_)
        have hP : va_P (dC, dI) vwCl [cl_X9 h_this h_this_now h_this_kept h_this_told h_this_text h_this_script h_this_momentReader h_this_spanReader h_this_adder h_this_other h_this_trial h_this_ways i_this, cl_X4 h_this_now h_this_now_day h_this_now_second h_this_now_months h_this_now_days h_this_now_seconds, (h_this_now_day, .inl (cI, 8, .inl f_this_now_day)), (h_this_now_second, .inl (cI, 8, .inl f_this_now_second)), (h_this_now_months, .inl (cI, 8, .inl f_this_now_months)), (h_this_now_days, .inl (cI, 8, .inl f_this_now_days)), (h_this_now_seconds, .inl (cI, 8, .inl f_this_now_seconds)), cl_X3 h_this_told h_this_told_numbers i_this_told, (h_this_told_numbers, .inl (cJ, 8, .inr (.inl f_this_told_numbers))), cl_X0 h_this_adder i_this_adder_42, cl_X0 h_this_other i_this_other_38] H := hP
        have hD : va_D A [cl_X9 h_this h_this_now h_this_kept h_this_told h_this_text h_this_script h_this_momentReader h_this_spanReader h_this_adder h_this_other h_this_trial h_this_ways i_this, cl_X4 h_this_now h_this_now_day h_this_now_second h_this_now_months h_this_now_days h_this_now_seconds, (h_this_now_day, .inl (cI, 8, .inl f_this_now_day)), (h_this_now_second, .inl (cI, 8, .inl f_this_now_second)), (h_this_now_months, .inl (cI, 8, .inl f_this_now_months)), (h_this_now_days, .inl (cI, 8, .inl f_this_now_days)), (h_this_now_seconds, .inl (cI, 8, .inl f_this_now_seconds)), cl_X3 h_this_told h_this_told_numbers i_this_told, (h_this_told_numbers, .inl (cJ, 8, .inr (.inl f_this_told_numbers))), cl_X0 h_this_adder i_this_adder_42, cl_X0 h_this_other i_this_other_38] := hD
        obtain ⟨i_this_adder_48, hc49, h⟩ := bd1_at h
        refine kjV (kV (own := "DateSpans") (C := "DateSpans$Adder") (b := h_this_adder) (As := [.int r44, .int r46]) (rest := []) ⟨hx, hb, hml, hown, hts⟩ (kX0_stands l dC dI cI cJ cB h_this_adder N r44 r46 i_this_adder_42 i_this_adder_48 hc49 _) (kgV (kq q_438 rfl) (kq q_375 rfl) (kq q_376 rfl) (kq q_24 rfl) (kq q_377 rfl)) yd_X0_stands ⟨Nat.le_of_ble_eq_true rfl, Nat.le_of_ble_eq_true rfl⟩ hN hK hP hD [9] rfl rfl (ci := 0) rfl rfl rfl rfl rfl hl.1 rfl (lv_room (Nat.le_of_ble_eq_true rfl)) dX9_drift_126) hP hD hS hA [9] rfl rfl (fun H locs hP hD hS => ?_)
        have hP : va_P (dC, dI) vwCl [cl_X9 h_this h_this_now h_this_kept h_this_told h_this_text h_this_script h_this_momentReader h_this_spanReader h_this_adder h_this_other h_this_trial h_this_ways i_this, cl_X4 h_this_now h_this_now_day h_this_now_second h_this_now_months h_this_now_days h_this_now_seconds, (h_this_now_day, .inl (cI, 8, .inl f_this_now_day)), (h_this_now_second, .inl (cI, 8, .inl f_this_now_second)), (h_this_now_months, .inl (cI, 8, .inl f_this_now_months)), (h_this_now_days, .inl (cI, 8, .inl f_this_now_days)), (h_this_now_seconds, .inl (cI, 8, .inl f_this_now_seconds)), cl_X3 h_this_told h_this_told_numbers i_this_told, (h_this_told_numbers, .inl (cJ, 8, .inr (.inl f_this_told_numbers))), cl_X0 h_this_adder i_this_adder_48, cl_X0 h_this_other i_this_other_38] H := hP
        have hD : va_D A [cl_X9 h_this h_this_now h_this_kept h_this_told h_this_text h_this_script h_this_momentReader h_this_spanReader h_this_adder h_this_other h_this_trial h_this_ways i_this, cl_X4 h_this_now h_this_now_day h_this_now_second h_this_now_months h_this_now_days h_this_now_seconds, (h_this_now_day, .inl (cI, 8, .inl f_this_now_day)), (h_this_now_second, .inl (cI, 8, .inl f_this_now_second)), (h_this_now_months, .inl (cI, 8, .inl f_this_now_months)), (h_this_now_days, .inl (cI, 8, .inl f_this_now_days)), (h_this_now_seconds, .inl (cI, 8, .inl f_this_now_seconds)), cl_X3 h_this_told h_this_told_numbers i_this_told, (h_this_told_numbers, .inl (cJ, 8, .inr (.inl f_this_told_numbers))), cl_X0 h_this_adder i_this_adder_48, cl_X0 h_this_other i_this_other_38] := hD
        refine lv_iconst (v := (0 : Int32)) hx hb dX9_drift_129 (by decide) ?_
        refine lv_istore (lv' := [(5, .int (0 : Int32)), (0, .ref h_this), (1, .int p1), (2, .int p2), (3, .int p3), (4, .int p4)]) hx hb dX9_drift_130 hl (by decide) rfl (fun ls hl => ?_)
        exact LP_132 N _ _ _ _ _ _ _ _ _ h (lv_sub hl [1, 5, 0] rfl) hP hD hS
      have h := ite_t c40 h
      refine lv_ldc2 (v := (-1000002 : Int64)) hx hb hown (hts _ (kq q_493 rfl)) dX9_drift_87 ?_
      obtain ⟨rfl, rfl, rfl, rfl, rfl⟩ := pj5 h
      exact hEnd _ _ _ _ hP hS dX9_drift_90
    have h := ite_t c32 h
    refine lv_ldc2 (v := (-1000009 : Int64)) hx hb hown (hts _ (kq q_492 rfl)) dX9_drift_56 ?_
    obtain ⟨rfl, rfl, rfl, rfl, rfl⟩ := pj5 h
    exact hEnd _ _ _ _ hP hS dX9_drift_59
  have h := ite_f c28 h
  refine lv_ldc2 (v := (-1 : Int64)) hx hb hown (hts _ (kq q_491 rfl)) dX9_drift_34 ?_
  obtain ⟨rfl, rfl, rfl, rfl, rfl⟩ := pj5 h
  exact hEnd _ _ _ _ hP hS dX9_drift_37
noncomputable def fX9_leadsAtOnce (N : Nat) (p1 : Int32) (p2 : Int32) (p3 : Int32) (p4 : Int32) (i_this : Int32) (f_this_now_day : Nat → Int32) (f_this_now_second : Nat → Int32) (f_this_now_months : Nat → Int32) (f_this_now_days : Nat → Int32) (f_this_now_seconds : Nat → Int32) (i_this_adder : Nat → Int32) : Option (Int32 × (Nat → Int32)) := (bd2 (fX0_takes N p2 p4 p3 i_this_adder f_this_now_months f_this_now_days f_this_now_seconds) fun r1 i_this_adder_2 => (if r1 = (0 : Int32) then (some ((0 : Int32), i_this_adder_2)) else (bd1 (fX4_dayAt N p1 f_this_now_day) fun r5 => (bd1 (fX4_secondAt N p1 f_this_now_second) fun r7 => (bd2 (fX0_leads N r5 r7 (0 : Int32) i_this_adder_2) fun r9 i_this_adder_10 => (if r9 = (0 : Int32) then (some ((0 : Int32), i_this_adder_10)) else (some ((1 : Int32), i_this_adder_10))))))))
set_option maxHeartbeats 4000000 in
set_option maxRecDepth 100000 in
theorem kX9_leadsAtOnce (l : Launch) (dC : Nat → ClassId) (dI : Nat → Nat → Nat) (cI cJ cB : ClassId) (h_this h_this_now h_this_kept h_this_told h_this_text h_this_script h_this_momentReader h_this_spanReader h_this_adder h_this_other h_this_trial h_this_ways h_this_now_day h_this_now_second h_this_now_months h_this_now_days h_this_now_seconds : Nat) (N : Nat) (p1 : Int32) (p2 : Int32) (p3 : Int32) (p4 : Int32) (i_this : Int32) (f_this_now_day : Nat → Int32) (f_this_now_second : Nat → Int32) (f_this_now_months : Nat → Int32) (f_this_now_days : Nat → Int32) (f_this_now_seconds : Nat → Int32) (i_this_adder : Nat → Int32) (r : Int32) (o_i_this_adder : Nat → Int32) (hf : fX9_leadsAtOnce N p1 p2 p3 p4 i_this f_this_now_day f_this_now_second f_this_now_months f_this_now_days f_this_now_seconds i_this_adder = some (r, o_i_this_adder)) : MI l yX9_leadsAtOnce (kws yX9_leadsAtOnce cX9_leadsAtOnce 5 (some .boolean)) (kR 5 117) (dC, dI) (kT cI cJ cB) [.ref h_this, .int p1, .int p2, .int p3, .int p4] [cl_X9 h_this h_this_now h_this_kept h_this_told h_this_text h_this_script h_this_momentReader h_this_spanReader h_this_adder h_this_other h_this_trial h_this_ways i_this, cl_X4 h_this_now h_this_now_day h_this_now_second h_this_now_months h_this_now_days h_this_now_seconds, (h_this_now_day, .inl (cI, 8, .inl f_this_now_day)), (h_this_now_second, .inl (cI, 8, .inl f_this_now_second)), (h_this_now_months, .inl (cI, 8, .inl f_this_now_months)), (h_this_now_days, .inl (cI, 8, .inl f_this_now_days)), (h_this_now_seconds, .inl (cI, 8, .inl f_this_now_seconds)), cl_X0 h_this_adder i_this_adder] [cl_X9 h_this h_this_now h_this_kept h_this_told h_this_text h_this_script h_this_momentReader h_this_spanReader h_this_adder h_this_other h_this_trial h_this_ways i_this, cl_X4 h_this_now h_this_now_day h_this_now_second h_this_now_months h_this_now_days h_this_now_seconds, (h_this_now_day, .inl (cI, 8, .inl f_this_now_day)), (h_this_now_second, .inl (cI, 8, .inl f_this_now_second)), (h_this_now_months, .inl (cI, 8, .inl f_this_now_months)), (h_this_now_days, .inl (cI, 8, .inl f_this_now_days)), (h_this_now_seconds, .inl (cI, 8, .inl f_this_now_seconds)), cl_X0 h_this_adder o_i_this_adder] r := by
  refine MI.of (cc := cX9_leadsAtOnce) (maxL := 5) (by decide) (Nat.le_of_ble_eq_true rfl) (fun p e s m args below meth c A Q ls KC hN hK hP hD hA hl hEnd => ?_)
  obtain ⟨hx, hb, hml, hown, hts⟩ := KC
  have hown : s.vm.findClass "DateSpans" = some m.cls := hown
  have hl : lv_has ls 5 [(0, .ref h_this), (1, .int p1), (2, .int p2), (3, .int p3), (4, .int p4)] := hl
  have hS : va_S A s.heap s.heap [] := va_S.rf
  have h := hf
  unfold fX9_leadsAtOnce at h
  refine lv_aload_n hx hb dX9_leadsAtOnce_0 rfl (lv_at hl 0 rfl) ?_
  refine va_get (D := (dC, dI)) (ci := 8) (v := .ref h_this_adder) (C := RX9) (T := TX9) (N := 12) hx hb hts inX9 hown hK hP 0 rfl rfl 8 (by decide) (hts _ (kq q_234 rfl)) (fun _ h9 => h9) rfl dX9_leadsAtOnce_1 ?_
  refine lv_aload_n hx hb dX9_leadsAtOnce_4 rfl (lv_at hl 0 rfl) ?_
  refine va_get (D := (dC, dI)) (ci := 8) (v := .ref h_this_now) (C := RX9) (T := TX9) (N := 12) hx hb hts inX9 hown hK hP 0 rfl rfl 0 (by decide) (hts _ (kq q_226 rfl)) (fun _ h9 => h9) rfl dX9_leadsAtOnce_5 ?_
  refine lv_iload_n hx hb dX9_leadsAtOnce_8 rfl (lv_at hl 2 rfl) ?_
  refine lv_iload hx hb dX9_leadsAtOnce_9 (lv_at hl 4 rfl) ?_
  refine lv_iload_n hx hb dX9_leadsAtOnce_11 rfl (lv_at hl 3 rfl) ?_
  obtain ⟨r1, i_this_adder_2, hc3, h⟩ := bd2_at h
  refine kjI (kV (own := "DateSpans") (C := "DateSpans$Adder") (b := h_this_adder) (As := [.ref h_this_now, .int p2, .int p4, .int p3]) (rest := []) ⟨hx, hb, hml, hown, hts⟩ (kX0_takes l dC dI cI cJ cB h_this_adder h_this_now h_this_now_day h_this_now_second h_this_now_months h_this_now_days h_this_now_seconds N p2 p4 p3 i_this_adder f_this_now_months f_this_now_days f_this_now_seconds r1 i_this_adder_2 hc3 _) (kgV (kq q_358 rfl) (kq q_359 rfl) (kq q_360 rfl) (kq q_24 rfl) (kq q_361 rfl)) yd_X0_takes ⟨Nat.le_of_ble_eq_true rfl, Nat.le_of_ble_eq_true rfl⟩ hN hK hP hD [7, 1, 4, 5, 6] rfl rfl (ci := 0) rfl rfl rfl rfl rfl hl.1 rfl (lv_room (Nat.le_of_ble_eq_true rfl)) dX9_leadsAtOnce_12) hP hD hS hA [7, 1, 4, 5, 6] rfl rfl (fun H locs hP hD hS => ?_)
  have hP : va_P (dC, dI) vwCl [cl_X9 h_this h_this_now h_this_kept h_this_told h_this_text h_this_script h_this_momentReader h_this_spanReader h_this_adder h_this_other h_this_trial h_this_ways i_this, cl_X4 h_this_now h_this_now_day h_this_now_second h_this_now_months h_this_now_days h_this_now_seconds, (h_this_now_day, .inl (cI, 8, .inl f_this_now_day)), (h_this_now_second, .inl (cI, 8, .inl f_this_now_second)), (h_this_now_months, .inl (cI, 8, .inl f_this_now_months)), (h_this_now_days, .inl (cI, 8, .inl f_this_now_days)), (h_this_now_seconds, .inl (cI, 8, .inl f_this_now_seconds)), cl_X0 h_this_adder i_this_adder_2] H := hP
  have hD : va_D A [cl_X9 h_this h_this_now h_this_kept h_this_told h_this_text h_this_script h_this_momentReader h_this_spanReader h_this_adder h_this_other h_this_trial h_this_ways i_this, cl_X4 h_this_now h_this_now_day h_this_now_second h_this_now_months h_this_now_days h_this_now_seconds, (h_this_now_day, .inl (cI, 8, .inl f_this_now_day)), (h_this_now_second, .inl (cI, 8, .inl f_this_now_second)), (h_this_now_months, .inl (cI, 8, .inl f_this_now_months)), (h_this_now_days, .inl (cI, 8, .inl f_this_now_days)), (h_this_now_seconds, .inl (cI, 8, .inl f_this_now_seconds)), cl_X0 h_this_adder i_this_adder_2] := hD
  refine lv_if_eq (tgt := 49) hx hb dX9_leadsAtOnce_15 (by decide) (fun c4 => ?_) (fun c4 => ?_)
  · have h := ite_t c4 h
    refine lv_iconst (v := (0 : Int32)) hx hb dX9_leadsAtOnce_49 (by decide) ?_
    obtain ⟨rfl, rfl⟩ := pj2 h
    exact hEnd _ _ _ _ hP hS dX9_leadsAtOnce_50 rfl
  have h := ite_f c4 h
  refine lv_aload_n hx hb dX9_leadsAtOnce_18 rfl (lv_at hl 0 rfl) ?_
  refine va_get (D := (dC, dI)) (ci := 8) (v := .ref h_this_adder) (C := RX9) (T := TX9) (N := 12) hx hb hts inX9 hown hK hP 0 rfl rfl 8 (by decide) (hts _ (kq q_234 rfl)) (fun _ h9 => h9) rfl dX9_leadsAtOnce_19 ?_
  refine lv_aload_n hx hb dX9_leadsAtOnce_22 rfl (lv_at hl 0 rfl) ?_
  refine va_get (D := (dC, dI)) (ci := 8) (v := .ref h_this_now) (C := RX9) (T := TX9) (N := 12) hx hb hts inX9 hown hK hP 0 rfl rfl 0 (by decide) (hts _ (kq q_226 rfl)) (fun _ h9 => h9) rfl dX9_leadsAtOnce_23 ?_
  refine lv_iload_n hx hb dX9_leadsAtOnce_26 rfl (lv_at hl 1 rfl) ?_
  obtain ⟨r5, hc6, h⟩ := bd1_at h
  refine kjI (kV (own := "DateSpans") (C := "DateSpans$Slots") (b := h_this_now) (As := [.int p1]) (rest := [.ref h_this_adder]) ⟨hx, hb, hml, hown, hts⟩ (kX4_dayAt l dC dI cI cJ cB h_this_now h_this_now_day h_this_now_second h_this_now_months h_this_now_days h_this_now_seconds N p1 f_this_now_day r5 hc6 _) (kgV (kq q_275 rfl) (kq q_276 rfl) (kq q_277 rfl) (kq q_19 rfl) (kq q_278 rfl)) yd_X4_dayAt ⟨Nat.le_of_ble_eq_true rfl, Nat.le_of_ble_eq_true rfl⟩ hN hK hP hD [1, 2] rfl rfl (ci := 3) rfl rfl rfl rfl rfl hl.1 rfl (lv_room (Nat.le_of_ble_eq_true rfl)) dX9_leadsAtOnce_27) hP hD hS hA [1, 2] rfl rfl (fun H locs hP hD hS => ?_)
  have hP : va_P (dC, dI) vwCl [cl_X9 h_this h_this_now h_this_kept h_this_told h_this_text h_this_script h_this_momentReader h_this_spanReader h_this_adder h_this_other h_this_trial h_this_ways i_this, cl_X4 h_this_now h_this_now_day h_this_now_second h_this_now_months h_this_now_days h_this_now_seconds, (h_this_now_day, .inl (cI, 8, .inl f_this_now_day)), (h_this_now_second, .inl (cI, 8, .inl f_this_now_second)), (h_this_now_months, .inl (cI, 8, .inl f_this_now_months)), (h_this_now_days, .inl (cI, 8, .inl f_this_now_days)), (h_this_now_seconds, .inl (cI, 8, .inl f_this_now_seconds)), cl_X0 h_this_adder i_this_adder_2] H := hP
  have hD : va_D A [cl_X9 h_this h_this_now h_this_kept h_this_told h_this_text h_this_script h_this_momentReader h_this_spanReader h_this_adder h_this_other h_this_trial h_this_ways i_this, cl_X4 h_this_now h_this_now_day h_this_now_second h_this_now_months h_this_now_days h_this_now_seconds, (h_this_now_day, .inl (cI, 8, .inl f_this_now_day)), (h_this_now_second, .inl (cI, 8, .inl f_this_now_second)), (h_this_now_months, .inl (cI, 8, .inl f_this_now_months)), (h_this_now_days, .inl (cI, 8, .inl f_this_now_days)), (h_this_now_seconds, .inl (cI, 8, .inl f_this_now_seconds)), cl_X0 h_this_adder i_this_adder_2] := hD
  refine lv_aload_n hx hb dX9_leadsAtOnce_30 rfl (lv_at hl 0 rfl) ?_
  refine va_get (D := (dC, dI)) (ci := 8) (v := .ref h_this_now) (C := RX9) (T := TX9) (N := 12) hx hb hts inX9 hown hK hP 0 rfl rfl 0 (by decide) (hts _ (kq q_226 rfl)) (fun _ h9 => h9) rfl dX9_leadsAtOnce_31 ?_
  refine lv_iload_n hx hb dX9_leadsAtOnce_34 rfl (lv_at hl 1 rfl) ?_
  obtain ⟨r7, hc8, h⟩ := bd1_at h
  refine kjI (kV (own := "DateSpans") (C := "DateSpans$Slots") (b := h_this_now) (As := [.int p1]) (rest := [.int r5, .ref h_this_adder]) ⟨hx, hb, hml, hown, hts⟩ (kX4_secondAt l dC dI cI cJ cB h_this_now h_this_now_day h_this_now_second h_this_now_months h_this_now_days h_this_now_seconds N p1 f_this_now_second r7 hc8 _) (kgV (kq q_310 rfl) (kq q_311 rfl) (kq q_312 rfl) (kq q_19 rfl) (kq q_313 rfl)) yd_X4_secondAt ⟨Nat.le_of_ble_eq_true rfl, Nat.le_of_ble_eq_true rfl⟩ hN hK hP hD [1, 3] rfl rfl (ci := 3) rfl rfl rfl rfl rfl hl.1 rfl (lv_room (Nat.le_of_ble_eq_true rfl)) dX9_leadsAtOnce_35) hP hD hS hA [1, 3] rfl rfl (fun H locs hP hD hS => ?_)
  have hP : va_P (dC, dI) vwCl [cl_X9 h_this h_this_now h_this_kept h_this_told h_this_text h_this_script h_this_momentReader h_this_spanReader h_this_adder h_this_other h_this_trial h_this_ways i_this, cl_X4 h_this_now h_this_now_day h_this_now_second h_this_now_months h_this_now_days h_this_now_seconds, (h_this_now_day, .inl (cI, 8, .inl f_this_now_day)), (h_this_now_second, .inl (cI, 8, .inl f_this_now_second)), (h_this_now_months, .inl (cI, 8, .inl f_this_now_months)), (h_this_now_days, .inl (cI, 8, .inl f_this_now_days)), (h_this_now_seconds, .inl (cI, 8, .inl f_this_now_seconds)), cl_X0 h_this_adder i_this_adder_2] H := hP
  have hD : va_D A [cl_X9 h_this h_this_now h_this_kept h_this_told h_this_text h_this_script h_this_momentReader h_this_spanReader h_this_adder h_this_other h_this_trial h_this_ways i_this, cl_X4 h_this_now h_this_now_day h_this_now_second h_this_now_months h_this_now_days h_this_now_seconds, (h_this_now_day, .inl (cI, 8, .inl f_this_now_day)), (h_this_now_second, .inl (cI, 8, .inl f_this_now_second)), (h_this_now_months, .inl (cI, 8, .inl f_this_now_months)), (h_this_now_days, .inl (cI, 8, .inl f_this_now_days)), (h_this_now_seconds, .inl (cI, 8, .inl f_this_now_seconds)), cl_X0 h_this_adder i_this_adder_2] := hD
  refine lv_iconst (v := (0 : Int32)) hx hb dX9_leadsAtOnce_38 (by decide) ?_
  obtain ⟨r9, i_this_adder_10, hc11, h⟩ := bd2_at h
  refine kjI (kV (own := "DateSpans") (C := "DateSpans$Adder") (b := h_this_adder) (As := [.int r5, .int r7, .int (0 : Int32)]) (rest := []) ⟨hx, hb, hml, hown, hts⟩ (kX0_leads l dC dI cI cJ cB h_this_adder N r5 r7 (0 : Int32) i_this_adder_2 r9 i_this_adder_10 hc11 _) (kgV (kq q_370 rfl) (kq q_371 rfl) (kq q_372 rfl) (kq q_24 rfl) (kq q_373 rfl)) yd_X0_leads ⟨Nat.le_of_ble_eq_true rfl, Nat.le_of_ble_eq_true rfl⟩ hN hK hP hD [7] rfl rfl (ci := 0) rfl rfl rfl rfl rfl hl.1 rfl (lv_room (Nat.le_of_ble_eq_true rfl)) dX9_leadsAtOnce_39) hP hD hS hA [7] rfl rfl (fun H locs hP hD hS => ?_)
  have hP : va_P (dC, dI) vwCl [cl_X9 h_this h_this_now h_this_kept h_this_told h_this_text h_this_script h_this_momentReader h_this_spanReader h_this_adder h_this_other h_this_trial h_this_ways i_this, cl_X4 h_this_now h_this_now_day h_this_now_second h_this_now_months h_this_now_days h_this_now_seconds, (h_this_now_day, .inl (cI, 8, .inl f_this_now_day)), (h_this_now_second, .inl (cI, 8, .inl f_this_now_second)), (h_this_now_months, .inl (cI, 8, .inl f_this_now_months)), (h_this_now_days, .inl (cI, 8, .inl f_this_now_days)), (h_this_now_seconds, .inl (cI, 8, .inl f_this_now_seconds)), cl_X0 h_this_adder i_this_adder_10] H := hP
  have hD : va_D A [cl_X9 h_this h_this_now h_this_kept h_this_told h_this_text h_this_script h_this_momentReader h_this_spanReader h_this_adder h_this_other h_this_trial h_this_ways i_this, cl_X4 h_this_now h_this_now_day h_this_now_second h_this_now_months h_this_now_days h_this_now_seconds, (h_this_now_day, .inl (cI, 8, .inl f_this_now_day)), (h_this_now_second, .inl (cI, 8, .inl f_this_now_second)), (h_this_now_months, .inl (cI, 8, .inl f_this_now_months)), (h_this_now_days, .inl (cI, 8, .inl f_this_now_days)), (h_this_now_seconds, .inl (cI, 8, .inl f_this_now_seconds)), cl_X0 h_this_adder i_this_adder_10] := hD
  refine lv_if_eq (tgt := 49) hx hb dX9_leadsAtOnce_42 (by decide) (fun c12 => ?_) (fun c12 => ?_)
  · have h := ite_t c12 h
    refine lv_iconst (v := (0 : Int32)) hx hb dX9_leadsAtOnce_49 (by decide) ?_
    obtain ⟨rfl, rfl⟩ := pj2 h
    exact hEnd _ _ _ _ hP hS dX9_leadsAtOnce_50 rfl
  have h := ite_f c12 h
  refine lv_iconst (v := (1 : Int32)) hx hb dX9_leadsAtOnce_45 (by decide) ?_
  refine lv_goto (tgt := 50) hx hb dX9_leadsAtOnce_46 (by decide) ?_
  obtain ⟨rfl, rfl⟩ := pj2 h
  exact hEnd _ _ _ _ hP hS dX9_leadsAtOnce_50 rfl
noncomputable def fX9_next_l45 (N : Nat) (i_this : Int32) (f_this_now_day : Nat → Int32) (f_this_now_second : Nat → Int32) (f_this_now_months : Nat → Int32) (f_this_now_days : Nat → Int32) (f_this_now_seconds : Nat → Int32) (n : Nat) : Int32 → Int32 → Int32 → Int64 → Int32 → Int32 → (Nat → Int64) → (Nat → Int32) → Option (Int32 × Int32 × (Nat → Int64) × (Nat → Int32)) := Nat.rec (motive := fun _ => Int32 → Int32 → Int32 → Int64 → Int32 → Int32 → (Nat → Int64) → (Nat → Int32) → Option (Int32 × Int32 × (Nat → Int64) × (Nat → Int32))) (fun _ _ _ _ _ _ _ _ => none) (fun _ K_45 v1 v2 v3 v5 v7 i_this_told f_this_told_numbers i_this_adder => (if (10000 : Int32) < v7 then (some ((-2 : Int32), i_this_told, f_this_told_numbers, i_this_adder)) else (bd2 (fX9_leadsAtOnce N v1 v2 v3 v7 i_this f_this_now_day f_this_now_second f_this_now_months f_this_now_days f_this_now_seconds i_this_adder) fun r2 i_this_adder_3 => (if r2 = (0 : Int32) then (nm (v7 + (1 : Int32)) fun z6 => (K_45 v1 v2 v3 v5 z6 i_this_told f_this_told_numbers i_this_adder_3)) else (bd1 (fX0_instant N i_this_adder_3) fun r7 => (if (lg_cmp r7 v5) < (0 : Int32) then (nm (v7 + (1 : Int32)) fun z10 => (K_45 v1 v2 v3 v5 z10 i_this_told f_this_told_numbers i_this_adder_3)) else (bd2 (fX3_tell_ N ((i_this_adder_3 8).toInt64) ((i_this_adder_3 9).toInt64) i_this_told f_this_told_numbers) fun i_this_told_11 f_this_told_numbers_12 => (some (v7, i_this_told_11, f_this_told_numbers_12, i_this_adder_3))))))))) n
theorem fX9_next_l45_s (N : Nat) (i_this : Int32) (f_this_now_day : Nat → Int32) (f_this_now_second : Nat → Int32) (f_this_now_months : Nat → Int32) (f_this_now_days : Nat → Int32) (f_this_now_seconds : Nat → Int32) (n : Nat) (v1 : Int32) (v2 : Int32) (v3 : Int32) (v5 : Int64) (v7 : Int32) (i_this_told : Int32) (f_this_told_numbers : Nat → Int64) (i_this_adder : Nat → Int32) : fX9_next_l45 N i_this f_this_now_day f_this_now_second f_this_now_months f_this_now_days f_this_now_seconds (n + 1) v1 v2 v3 v5 v7 i_this_told f_this_told_numbers i_this_adder = (if (10000 : Int32) < v7 then (some ((-2 : Int32), i_this_told, f_this_told_numbers, i_this_adder)) else (bd2 (fX9_leadsAtOnce N v1 v2 v3 v7 i_this f_this_now_day f_this_now_second f_this_now_months f_this_now_days f_this_now_seconds i_this_adder) fun r2 i_this_adder_3 => (if r2 = (0 : Int32) then (nm (v7 + (1 : Int32)) fun z6 => ((fX9_next_l45 N i_this f_this_now_day f_this_now_second f_this_now_months f_this_now_days f_this_now_seconds n) v1 v2 v3 v5 z6 i_this_told f_this_told_numbers i_this_adder_3)) else (bd1 (fX0_instant N i_this_adder_3) fun r7 => (if (lg_cmp r7 v5) < (0 : Int32) then (nm (v7 + (1 : Int32)) fun z10 => ((fX9_next_l45 N i_this f_this_now_day f_this_now_second f_this_now_months f_this_now_days f_this_now_seconds n) v1 v2 v3 v5 z10 i_this_told f_this_told_numbers i_this_adder_3)) else (bd2 (fX3_tell_ N ((i_this_adder_3 8).toInt64) ((i_this_adder_3 9).toInt64) i_this_told f_this_told_numbers) fun i_this_told_11 f_this_told_numbers_12 => (some (v7, i_this_told_11, f_this_told_numbers_12, i_this_adder_3)))))))) := rfl
theorem fX9_next_l45_0 (N : Nat) (i_this : Int32) (f_this_now_day : Nat → Int32) (f_this_now_second : Nat → Int32) (f_this_now_months : Nat → Int32) (f_this_now_days : Nat → Int32) (f_this_now_seconds : Nat → Int32) (v1 : Int32) (v2 : Int32) (v3 : Int32) (v5 : Int64) (v7 : Int32) (i_this_told : Int32) (f_this_told_numbers : Nat → Int64) (i_this_adder : Nat → Int32) : fX9_next_l45 N i_this f_this_now_day f_this_now_second f_this_now_months f_this_now_days f_this_now_seconds 0 v1 v2 v3 v5 v7 i_this_told f_this_told_numbers i_this_adder = none := rfl
noncomputable def fX9_next (N : Nat) (p1 : Int32) (p2 : Int32) (p3 : Int32) (p4 : Int32) (i_this : Int32) (f_this_now_day : Nat → Int32) (f_this_now_second : Nat → Int32) (f_this_now_months : Nat → Int32) (f_this_now_days : Nat → Int32) (f_this_now_seconds : Nat → Int32) (i_this_told : Int32) (f_this_told_numbers : Nat → Int64) (i_this_adder : Nat → Int32) : Option (Int32 × Int32 × (Nat → Int64) × (Nat → Int32)) := (bd1 (fX9_isSlot N p1) fun r14 => (if r14 = (0 : Int32) then (some ((-1 : Int32), i_this_told, f_this_told_numbers, i_this_adder)) else (bd1 (fX9_isSlot N p2) fun r17 => (if r17 = (0 : Int32) then (some ((-1 : Int32), i_this_told, f_this_told_numbers, i_this_adder)) else (bd1 (fX9_isLaw N p3) fun r20 => (if r20 = (0 : Int32) then (some ((-1 : Int32), i_this_told, f_this_told_numbers, i_this_adder)) else (bd1 (fX9_isSlot N p4) fun r23 => (if r23 = (0 : Int32) then (some ((-1 : Int32), i_this_told, f_this_told_numbers, i_this_adder)) else (bd1 (fX4_instantAt N p4 f_this_now_day f_this_now_second) fun r26 => (fX9_next_l45 N i_this f_this_now_day f_this_now_second f_this_now_months f_this_now_days f_this_now_seconds N p1 p2 p3 r26 (0 : Int32) i_this_told f_this_told_numbers i_this_adder))))))))))
set_option maxHeartbeats 4000000 in
set_option maxRecDepth 100000 in
theorem kX9_next (l : Launch) (dC : Nat → ClassId) (dI : Nat → Nat → Nat) (cI cJ cB : ClassId) (h_this h_this_now h_this_kept h_this_told h_this_text h_this_script h_this_momentReader h_this_spanReader h_this_adder h_this_other h_this_trial h_this_ways h_this_now_day h_this_now_second h_this_now_months h_this_now_days h_this_now_seconds h_this_told_numbers : Nat) (N : Nat) (p1 : Int32) (p2 : Int32) (p3 : Int32) (p4 : Int32) (i_this : Int32) (f_this_now_day : Nat → Int32) (f_this_now_second : Nat → Int32) (f_this_now_months : Nat → Int32) (f_this_now_days : Nat → Int32) (f_this_now_seconds : Nat → Int32) (i_this_told : Int32) (f_this_told_numbers : Nat → Int64) (i_this_adder : Nat → Int32) (r : Int32) (o_i_this_told : Int32) (o_f_this_told_numbers : Nat → Int64) (o_i_this_adder : Nat → Int32) (hf : fX9_next N p1 p2 p3 p4 i_this f_this_now_day f_this_now_second f_this_now_months f_this_now_days f_this_now_seconds i_this_told f_this_told_numbers i_this_adder = some (r, o_i_this_told, o_f_this_told_numbers, o_i_this_adder)) : MI l yX9_next (kws yX9_next cX9_next 8 (some .int)) (kR 6 141) (dC, dI) (kT cI cJ cB) [.ref h_this, .int p1, .int p2, .int p3, .int p4] [cl_X9 h_this h_this_now h_this_kept h_this_told h_this_text h_this_script h_this_momentReader h_this_spanReader h_this_adder h_this_other h_this_trial h_this_ways i_this, cl_X4 h_this_now h_this_now_day h_this_now_second h_this_now_months h_this_now_days h_this_now_seconds, (h_this_now_day, .inl (cI, 8, .inl f_this_now_day)), (h_this_now_second, .inl (cI, 8, .inl f_this_now_second)), (h_this_now_months, .inl (cI, 8, .inl f_this_now_months)), (h_this_now_days, .inl (cI, 8, .inl f_this_now_days)), (h_this_now_seconds, .inl (cI, 8, .inl f_this_now_seconds)), cl_X3 h_this_told h_this_told_numbers i_this_told, (h_this_told_numbers, .inl (cJ, 8, .inr (.inl f_this_told_numbers))), cl_X0 h_this_adder i_this_adder] [cl_X9 h_this h_this_now h_this_kept h_this_told h_this_text h_this_script h_this_momentReader h_this_spanReader h_this_adder h_this_other h_this_trial h_this_ways i_this, cl_X4 h_this_now h_this_now_day h_this_now_second h_this_now_months h_this_now_days h_this_now_seconds, (h_this_now_day, .inl (cI, 8, .inl f_this_now_day)), (h_this_now_second, .inl (cI, 8, .inl f_this_now_second)), (h_this_now_months, .inl (cI, 8, .inl f_this_now_months)), (h_this_now_days, .inl (cI, 8, .inl f_this_now_days)), (h_this_now_seconds, .inl (cI, 8, .inl f_this_now_seconds)), cl_X3 h_this_told h_this_told_numbers o_i_this_told, (h_this_told_numbers, .inl (cJ, 8, .inr (.inl o_f_this_told_numbers))), cl_X0 h_this_adder o_i_this_adder] r := by
  refine MI.of (cc := cX9_next) (maxL := 8) (by decide) (Nat.le_of_ble_eq_true rfl) (fun p e s m args below meth c A Q ls KC hN hK hP hD hA hl hEnd => ?_)
  obtain ⟨hx, hb, hml, hown, hts⟩ := KC
  have hown : s.vm.findClass "DateSpans" = some m.cls := hown
  have hl : lv_has ls 8 [(0, .ref h_this), (1, .int p1), (2, .int p2), (3, .int p3), (4, .int p4)] := hl
  have hS : va_S A s.heap s.heap [] := va_S.rf
  have LP_45 : ∀ n_45 : Nat, ∀ (v1 : Int32) (v2 : Int32) (v3 : Int32) (v5 : Int64) (v7 : Int32) (i_this_told : Int32) (f_this_told_numbers : Nat → Int64) (i_this_adder : Nat → Int32) (ls : Array Slot) (H : Heap) (locs : List Loc), fX9_next_l45 N i_this f_this_now_day f_this_now_second f_this_now_months f_this_now_days f_this_now_seconds n_45 v1 v2 v3 v5 v7 i_this_told f_this_told_numbers i_this_adder = some (r, o_i_this_told, o_f_this_told_numbers, o_i_this_adder) → lv_has ls 8 [(0, .ref h_this), (1, .int v1), (2, .int v2), (3, .int v3), (5, .long v5), (7, .int v7)] → va_P (dC, dI) vwCl [cl_X9 h_this h_this_now h_this_kept h_this_told h_this_text h_this_script h_this_momentReader h_this_spanReader h_this_adder h_this_other h_this_trial h_this_ways i_this, cl_X4 h_this_now h_this_now_day h_this_now_second h_this_now_months h_this_now_days h_this_now_seconds, (h_this_now_day, .inl (cI, 8, .inl f_this_now_day)), (h_this_now_second, .inl (cI, 8, .inl f_this_now_second)), (h_this_now_months, .inl (cI, 8, .inl f_this_now_months)), (h_this_now_days, .inl (cI, 8, .inl f_this_now_days)), (h_this_now_seconds, .inl (cI, 8, .inl f_this_now_seconds)), cl_X3 h_this_told h_this_told_numbers i_this_told, (h_this_told_numbers, .inl (cJ, 8, .inr (.inl f_this_told_numbers))), cl_X0 h_this_adder i_this_adder] H → va_D A [cl_X9 h_this h_this_now h_this_kept h_this_told h_this_text h_this_script h_this_momentReader h_this_spanReader h_this_adder h_this_other h_this_trial h_this_ways i_this, cl_X4 h_this_now h_this_now_day h_this_now_second h_this_now_months h_this_now_days h_this_now_seconds, (h_this_now_day, .inl (cI, 8, .inl f_this_now_day)), (h_this_now_second, .inl (cI, 8, .inl f_this_now_second)), (h_this_now_months, .inl (cI, 8, .inl f_this_now_months)), (h_this_now_days, .inl (cI, 8, .inl f_this_now_days)), (h_this_now_seconds, .inl (cI, 8, .inl f_this_now_seconds)), cl_X3 h_this_told h_this_told_numbers i_this_told, (h_this_told_numbers, .inl (cJ, 8, .inr (.inl f_this_told_numbers))), cl_X0 h_this_adder i_this_adder] → va_S A s.heap H locs → W p l e (kR 6 141) s m args below meth c H locs 0 0 Q (F0 m 45 ls []) := by
    intro n_45
    induction n_45 with
    | zero =>
      intro v1 v2 v3 v5 v7 i_this_told f_this_told_numbers i_this_adder ls H locs h hl hP hD hS
      rw [fX9_next_l45_0] at h; cases h
    | succ n_45 ih_45 =>
      intro v1 v2 v3 v5 v7 i_this_told f_this_told_numbers i_this_adder ls H locs h hl hP hD hS
      rw [fX9_next_l45_s] at h
      refine lv_iload hx hb dX9_next_45 (lv_at hl 5 rfl) ?_
      refine lv_sipush (v := (10000 : Int32)) hx hb dX9_next_47 (by decide) ?_
      refine lv_icmp_gt (tgt := 110) hx hb dX9_next_50 (by decide) (fun c1 => ?_) (fun c1 => ?_)
      · have h := ite_t c1 h
        refine lv_bipush (v := (-2 : Int32)) hx hb dX9_next_110 (by decide) ?_
        obtain ⟨rfl, rfl, rfl, rfl⟩ := pj4 h
        exact hEnd _ _ _ _ hP hS dX9_next_112 rfl
      have h := ite_f c1 h
      refine lv_aload_n hx hb dX9_next_53 rfl (lv_at hl 0 rfl) ?_
      refine lv_iload_n hx hb dX9_next_54 rfl (lv_at hl 1 rfl) ?_
      refine lv_iload_n hx hb dX9_next_55 rfl (lv_at hl 2 rfl) ?_
      refine lv_iload_n hx hb dX9_next_56 rfl (lv_at hl 3 rfl) ?_
      refine lv_iload hx hb dX9_next_57 (lv_at hl 5 rfl) ?_
      obtain ⟨r2, i_this_adder_3, hc4, h⟩ := bd2_at h
      refine kjI (kV (own := "DateSpans") (C := "DateSpans") (b := h_this) (As := [.int v1, .int v2, .int v3, .int v7]) (rest := []) ⟨hx, hb, hml, hown, hts⟩ (kX9_leadsAtOnce l dC dI cI cJ cB h_this h_this_now h_this_kept h_this_told h_this_text h_this_script h_this_momentReader h_this_spanReader h_this_adder h_this_other h_this_trial h_this_ways h_this_now_day h_this_now_second h_this_now_months h_this_now_days h_this_now_seconds N v1 v2 v3 v7 i_this f_this_now_day f_this_now_second f_this_now_months f_this_now_days f_this_now_seconds i_this_adder r2 i_this_adder_3 hc4 _) (kgV (kq q_498 rfl) (kq q_500 rfl) (kq q_7 rfl) (kq q_18 rfl) (kq q_501 rfl)) yd_X9_leadsAtOnce ⟨Nat.le_of_ble_eq_true rfl, Nat.le_of_ble_eq_true rfl⟩ hN hK hP hD [0, 1, 2, 3, 4, 5, 6, 9] rfl rfl (ci := 8) rfl rfl rfl rfl rfl hl.1 rfl (lv_room (Nat.le_of_ble_eq_true rfl)) dX9_next_59) hP hD hS hA [0, 1, 2, 3, 4, 5, 6, 9] rfl rfl (fun H locs hP hD hS => ?_)
      have hP : va_P (dC, dI) vwCl [cl_X9 h_this h_this_now h_this_kept h_this_told h_this_text h_this_script h_this_momentReader h_this_spanReader h_this_adder h_this_other h_this_trial h_this_ways i_this, cl_X4 h_this_now h_this_now_day h_this_now_second h_this_now_months h_this_now_days h_this_now_seconds, (h_this_now_day, .inl (cI, 8, .inl f_this_now_day)), (h_this_now_second, .inl (cI, 8, .inl f_this_now_second)), (h_this_now_months, .inl (cI, 8, .inl f_this_now_months)), (h_this_now_days, .inl (cI, 8, .inl f_this_now_days)), (h_this_now_seconds, .inl (cI, 8, .inl f_this_now_seconds)), cl_X3 h_this_told h_this_told_numbers i_this_told, (h_this_told_numbers, .inl (cJ, 8, .inr (.inl f_this_told_numbers))), cl_X0 h_this_adder i_this_adder_3] H := hP
      have hD : va_D A [cl_X9 h_this h_this_now h_this_kept h_this_told h_this_text h_this_script h_this_momentReader h_this_spanReader h_this_adder h_this_other h_this_trial h_this_ways i_this, cl_X4 h_this_now h_this_now_day h_this_now_second h_this_now_months h_this_now_days h_this_now_seconds, (h_this_now_day, .inl (cI, 8, .inl f_this_now_day)), (h_this_now_second, .inl (cI, 8, .inl f_this_now_second)), (h_this_now_months, .inl (cI, 8, .inl f_this_now_months)), (h_this_now_days, .inl (cI, 8, .inl f_this_now_days)), (h_this_now_seconds, .inl (cI, 8, .inl f_this_now_seconds)), cl_X3 h_this_told h_this_told_numbers i_this_told, (h_this_told_numbers, .inl (cJ, 8, .inr (.inl f_this_told_numbers))), cl_X0 h_this_adder i_this_adder_3] := hD
      refine lv_if_eq (tgt := 104) hx hb dX9_next_62 (by decide) (fun c5 => ?_) (fun c5 => ?_)
      · have h := ite_t c5 h
        obtain ⟨z6, ez6⟩ : ∃ y : Int32, y = (v7 + (1 : Int32)) := ⟨_, rfl⟩
        have h := nm_at ez6 h
        refine lv_iinc (v := z6) (lv' := [(7, .int z6), (0, .ref h_this), (1, .int v1), (2, .int v2), (3, .int v3), (5, .long v5)]) hx hb dX9_next_104 hl (k := 5) rfl (by rw [ez6]; rfl) (by decide) rfl (fun ls hl => ?_)
        refine lv_goto (tgt := 45) hx hb dX9_next_107 (by decide) ?_
        exact ih_45 _ _ _ _ _ _ _ _ _ _ _ h (lv_sub hl [1, 2, 3, 4, 5, 0] rfl) hP hD hS
      have h := ite_f c5 h
      refine lv_aload_n hx hb dX9_next_65 rfl (lv_at hl 0 rfl) ?_
      refine va_get (D := (dC, dI)) (ci := 8) (v := .ref h_this_adder) (C := RX9) (T := TX9) (N := 12) hx hb hts inX9 hown hK hP 0 rfl rfl 8 (by decide) (hts _ (kq q_234 rfl)) (fun _ h9 => h9) rfl dX9_next_66 ?_
      obtain ⟨r7, hc8, h⟩ := bd1_at h
      refine kjL (kV (own := "DateSpans") (C := "DateSpans$Adder") (b := h_this_adder) (As := []) (rest := []) ⟨hx, hb, hml, hown, hts⟩ (kX0_instant l dC dI cI cJ cB h_this_adder N i_this_adder_3 r7 hc8 _) (kgV (kq q_460 rfl) (kq q_408 rfl) (kq q_409 rfl) (kq q_24 rfl) (kq q_410 rfl)) yd_X0_instant ⟨Nat.le_of_ble_eq_true rfl, Nat.le_of_ble_eq_true rfl⟩ hN hK hP hD [9] rfl rfl (ci := 0) rfl rfl rfl rfl rfl hl.1 rfl (lv_room (Nat.le_of_ble_eq_true rfl)) dX9_next_69) hP hD hS hA [9] rfl rfl (fun H locs hP hD hS => ?_)
      have hP : va_P (dC, dI) vwCl [cl_X9 h_this h_this_now h_this_kept h_this_told h_this_text h_this_script h_this_momentReader h_this_spanReader h_this_adder h_this_other h_this_trial h_this_ways i_this, cl_X4 h_this_now h_this_now_day h_this_now_second h_this_now_months h_this_now_days h_this_now_seconds, (h_this_now_day, .inl (cI, 8, .inl f_this_now_day)), (h_this_now_second, .inl (cI, 8, .inl f_this_now_second)), (h_this_now_months, .inl (cI, 8, .inl f_this_now_months)), (h_this_now_days, .inl (cI, 8, .inl f_this_now_days)), (h_this_now_seconds, .inl (cI, 8, .inl f_this_now_seconds)), cl_X3 h_this_told h_this_told_numbers i_this_told, (h_this_told_numbers, .inl (cJ, 8, .inr (.inl f_this_told_numbers))), cl_X0 h_this_adder i_this_adder_3] H := hP
      have hD : va_D A [cl_X9 h_this h_this_now h_this_kept h_this_told h_this_text h_this_script h_this_momentReader h_this_spanReader h_this_adder h_this_other h_this_trial h_this_ways i_this, cl_X4 h_this_now h_this_now_day h_this_now_second h_this_now_months h_this_now_days h_this_now_seconds, (h_this_now_day, .inl (cI, 8, .inl f_this_now_day)), (h_this_now_second, .inl (cI, 8, .inl f_this_now_second)), (h_this_now_months, .inl (cI, 8, .inl f_this_now_months)), (h_this_now_days, .inl (cI, 8, .inl f_this_now_days)), (h_this_now_seconds, .inl (cI, 8, .inl f_this_now_seconds)), cl_X3 h_this_told h_this_told_numbers i_this_told, (h_this_told_numbers, .inl (cJ, 8, .inr (.inl f_this_told_numbers))), cl_X0 h_this_adder i_this_adder_3] := hD
      refine lv_lload hx hb dX9_next_72 (lv_at hl 4 rfl) ?_
      refine W.lcmp hx hb dX9_next_74 ?_
      refine lv_if_lt (tgt := 104) hx hb dX9_next_75 (by decide) (fun c9 => ?_) (fun c9 => ?_)
      · have h := ite_t c9 h
        obtain ⟨z10, ez10⟩ : ∃ y : Int32, y = (v7 + (1 : Int32)) := ⟨_, rfl⟩
        have h := nm_at ez10 h
        refine lv_iinc (v := z10) (lv' := [(7, .int z10), (0, .ref h_this), (1, .int v1), (2, .int v2), (3, .int v3), (5, .long v5)]) hx hb dX9_next_104 hl (k := 5) rfl (by rw [ez10]; rfl) (by decide) rfl (fun ls hl => ?_)
        refine lv_goto (tgt := 45) hx hb dX9_next_107 (by decide) ?_
        exact ih_45 _ _ _ _ _ _ _ _ _ _ _ h (lv_sub hl [1, 2, 3, 4, 5, 0] rfl) hP hD hS
      have h := ite_f c9 h
      refine lv_aload_n hx hb dX9_next_78 rfl (lv_at hl 0 rfl) ?_
      refine va_get (D := (dC, dI)) (ci := 8) (v := .ref h_this_told) (C := RX9) (T := TX9) (N := 12) hx hb hts inX9 hown hK hP 0 rfl rfl 3 (by decide) (hts _ (kq q_229 rfl)) (fun _ h9 => h9) rfl dX9_next_79 ?_
      refine lv_aload_n hx hb dX9_next_82 rfl (lv_at hl 0 rfl) ?_
      refine va_get (D := (dC, dI)) (ci := 8) (v := .ref h_this_adder) (C := RX9) (T := TX9) (N := 12) hx hb hts inX9 hown hK hP 0 rfl rfl 8 (by decide) (hts _ (kq q_234 rfl)) (fun _ h9 => h9) rfl dX9_next_83 ?_
      refine va_getN (D := (dC, dI)) (ci := 0) (v := .int (i_this_adder_3 8)) (C := RX0) (T := TX0) (N := 11) hx hb hts inX0 hown hK hP 9 rfl rfl 8 (by decide) (kN.use hN q_149 rfl) (fun _ h9 => h9) rfl dX9_next_86 ?_
      refine lv_i2l hx hb dX9_next_89 rfl ?_
      refine lv_aload_n hx hb dX9_next_90 rfl (lv_at hl 0 rfl) ?_
      refine va_get (D := (dC, dI)) (ci := 8) (v := .ref h_this_adder) (C := RX9) (T := TX9) (N := 12) hx hb hts inX9 hown hK hP 0 rfl rfl 8 (by decide) (hts _ (kq q_234 rfl)) (fun _ h9 => h9) rfl dX9_next_91 ?_
      refine va_getN (D := (dC, dI)) (ci := 0) (v := .int (i_this_adder_3 9)) (C := RX0) (T := TX0) (N := 11) hx hb hts inX0 hown hK hP 9 rfl rfl 9 (by decide) (kN.use hN q_151 rfl) (fun _ h9 => h9) rfl dX9_next_94 ?_
      refine lv_i2l hx hb dX9_next_97 rfl ?_
      obtain ⟨i_this_told_11, f_this_told_numbers_12, hc13, h⟩ := bd2_at h
      refine kjV (kV (own := "DateSpans") (C := "DateSpans$Row") (b := h_this_told) (As := [.long ((i_this_adder_3 8).toInt64), .long ((i_this_adder_3 9).toInt64)]) (rest := []) ⟨hx, hb, hml, hown, hts⟩ (kX3_tell_ l dC dI cI cJ cB h_this_told h_this_told_numbers N ((i_this_adder_3 8).toInt64) ((i_this_adder_3 9).toInt64) i_this_told f_this_told_numbers i_this_told_11 f_this_told_numbers_12 hc13 _) (kgV (kq q_418 rfl) (kq q_419 rfl) (kq q_420 rfl) (kq q_20 rfl) (kq q_421 rfl)) yd_X3_tell_ ⟨Nat.le_of_ble_eq_true rfl, Nat.le_of_ble_eq_true rfl⟩ hN hK hP hD [7, 8] rfl rfl (ci := 2) rfl rfl rfl rfl rfl hl.1 rfl (lv_room (Nat.le_of_ble_eq_true rfl)) dX9_next_98) hP hD hS hA [7, 8] rfl rfl (fun H locs hP hD hS => ?_)
      have hP : va_P (dC, dI) vwCl [cl_X9 h_this h_this_now h_this_kept h_this_told h_this_text h_this_script h_this_momentReader h_this_spanReader h_this_adder h_this_other h_this_trial h_this_ways i_this, cl_X4 h_this_now h_this_now_day h_this_now_second h_this_now_months h_this_now_days h_this_now_seconds, (h_this_now_day, .inl (cI, 8, .inl f_this_now_day)), (h_this_now_second, .inl (cI, 8, .inl f_this_now_second)), (h_this_now_months, .inl (cI, 8, .inl f_this_now_months)), (h_this_now_days, .inl (cI, 8, .inl f_this_now_days)), (h_this_now_seconds, .inl (cI, 8, .inl f_this_now_seconds)), cl_X3 h_this_told h_this_told_numbers i_this_told_11, (h_this_told_numbers, .inl (cJ, 8, .inr (.inl f_this_told_numbers_12))), cl_X0 h_this_adder i_this_adder_3] H := hP
      have hD : va_D A [cl_X9 h_this h_this_now h_this_kept h_this_told h_this_text h_this_script h_this_momentReader h_this_spanReader h_this_adder h_this_other h_this_trial h_this_ways i_this, cl_X4 h_this_now h_this_now_day h_this_now_second h_this_now_months h_this_now_days h_this_now_seconds, (h_this_now_day, .inl (cI, 8, .inl f_this_now_day)), (h_this_now_second, .inl (cI, 8, .inl f_this_now_second)), (h_this_now_months, .inl (cI, 8, .inl f_this_now_months)), (h_this_now_days, .inl (cI, 8, .inl f_this_now_days)), (h_this_now_seconds, .inl (cI, 8, .inl f_this_now_seconds)), cl_X3 h_this_told h_this_told_numbers i_this_told_11, (h_this_told_numbers, .inl (cJ, 8, .inr (.inl f_this_told_numbers_12))), cl_X0 h_this_adder i_this_adder_3] := hD
      refine lv_iload hx hb dX9_next_101 (lv_at hl 5 rfl) ?_
      obtain ⟨rfl, rfl, rfl, rfl⟩ := pj4 h
      exact hEnd _ _ _ _ hP hS dX9_next_103 rfl
  have h := hf
  unfold fX9_next at h
  refine lv_iload_n hx hb dX9_next_0 rfl (lv_at hl 1 rfl) ?_
  obtain ⟨r14, hc15, h⟩ := bd1_at h
  refine kjSI (kS0 (own := "DateSpans") (As := [.int p1]) (rest := []) ⟨hx, hb, hml, hown, hts⟩ (kX9_isSlot l N p1 r14 hc15) (kgS (kq q_267 rfl) (kq q_268 rfl) (kq q_18 rfl) (kq q_269 rfl)) yd_X9_isSlot ⟨Nat.le_of_ble_eq_true rfl, Nat.le_of_ble_eq_true rfl⟩ rfl rfl hl.1 rfl (lv_room (Nat.le_of_ble_eq_true rfl)) dX9_next_1) ?_
  refine lv_if_eq (tgt := 29) hx hb dX9_next_4 (by decide) (fun c16 => ?_) (fun c16 => ?_)
  · have h := ite_t c16 h
    refine lv_iconst (v := (-1 : Int32)) hx hb dX9_next_29 (by decide) ?_
    obtain ⟨rfl, rfl, rfl, rfl⟩ := pj4 h
    exact hEnd _ _ _ _ hP hS dX9_next_30 rfl
  have h := ite_f c16 h
  refine lv_iload_n hx hb dX9_next_7 rfl (lv_at hl 2 rfl) ?_
  obtain ⟨r17, hc18, h⟩ := bd1_at h
  refine kjSI (kS0 (own := "DateSpans") (As := [.int p2]) (rest := []) ⟨hx, hb, hml, hown, hts⟩ (kX9_isSlot l N p2 r17 hc18) (kgS (kq q_267 rfl) (kq q_268 rfl) (kq q_18 rfl) (kq q_269 rfl)) yd_X9_isSlot ⟨Nat.le_of_ble_eq_true rfl, Nat.le_of_ble_eq_true rfl⟩ rfl rfl hl.1 rfl (lv_room (Nat.le_of_ble_eq_true rfl)) dX9_next_8) ?_
  refine lv_if_eq (tgt := 29) hx hb dX9_next_11 (by decide) (fun c19 => ?_) (fun c19 => ?_)
  · have h := ite_t c19 h
    refine lv_iconst (v := (-1 : Int32)) hx hb dX9_next_29 (by decide) ?_
    obtain ⟨rfl, rfl, rfl, rfl⟩ := pj4 h
    exact hEnd _ _ _ _ hP hS dX9_next_30 rfl
  have h := ite_f c19 h
  refine lv_iload_n hx hb dX9_next_14 rfl (lv_at hl 3 rfl) ?_
  obtain ⟨r20, hc21, h⟩ := bd1_at h
  refine kjSI (kS0 (own := "DateSpans") (As := [.int p3]) (rest := []) ⟨hx, hb, hml, hown, hts⟩ (kX9_isLaw l N p3 r20 hc21) (kgS (kq q_352 rfl) (kq q_353 rfl) (kq q_18 rfl) (kq q_354 rfl)) yd_X9_isLaw ⟨Nat.le_of_ble_eq_true rfl, Nat.le_of_ble_eq_true rfl⟩ rfl rfl hl.1 rfl (lv_room (Nat.le_of_ble_eq_true rfl)) dX9_next_15) ?_
  refine lv_if_eq (tgt := 29) hx hb dX9_next_18 (by decide) (fun c22 => ?_) (fun c22 => ?_)
  · have h := ite_t c22 h
    refine lv_iconst (v := (-1 : Int32)) hx hb dX9_next_29 (by decide) ?_
    obtain ⟨rfl, rfl, rfl, rfl⟩ := pj4 h
    exact hEnd _ _ _ _ hP hS dX9_next_30 rfl
  have h := ite_f c22 h
  refine lv_iload hx hb dX9_next_21 (lv_at hl 4 rfl) ?_
  obtain ⟨r23, hc24, h⟩ := bd1_at h
  refine kjSI (kS0 (own := "DateSpans") (As := [.int p4]) (rest := []) ⟨hx, hb, hml, hown, hts⟩ (kX9_isSlot l N p4 r23 hc24) (kgS (kq q_267 rfl) (kq q_268 rfl) (kq q_18 rfl) (kq q_269 rfl)) yd_X9_isSlot ⟨Nat.le_of_ble_eq_true rfl, Nat.le_of_ble_eq_true rfl⟩ rfl rfl hl.1 rfl (lv_room (Nat.le_of_ble_eq_true rfl)) dX9_next_23) ?_
  refine lv_if_ne (tgt := 31) hx hb dX9_next_26 (by decide) (fun c25 => ?_) (fun c25 => ?_)
  · have h := ite_f c25 h
    refine lv_aload_n hx hb dX9_next_31 rfl (lv_at hl 0 rfl) ?_
    refine va_get (D := (dC, dI)) (ci := 8) (v := .ref h_this_now) (C := RX9) (T := TX9) (N := 12) hx hb hts inX9 hown hK hP 0 rfl rfl 0 (by decide) (hts _ (kq q_226 rfl)) (fun _ h9 => h9) rfl dX9_next_32 ?_
    refine lv_iload hx hb dX9_next_35 (lv_at hl 4 rfl) ?_
    obtain ⟨r26, hc27, h⟩ := bd1_at h
    refine kjL (kV (own := "DateSpans") (C := "DateSpans$Slots") (b := h_this_now) (As := [.int p4]) (rest := []) ⟨hx, hb, hml, hown, hts⟩ (kX4_instantAt l dC dI cI cJ cB h_this_now h_this_now_day h_this_now_second h_this_now_months h_this_now_days h_this_now_seconds N p4 f_this_now_day f_this_now_second r26 hc27 _) (kgV (kq q_443 rfl) (kq q_444 rfl) (kq q_445 rfl) (kq q_19 rfl) (kq q_446 rfl)) yd_X4_instantAt ⟨Nat.le_of_ble_eq_true rfl, Nat.le_of_ble_eq_true rfl⟩ hN hK hP hD [1, 2, 3] rfl rfl (ci := 3) rfl rfl rfl rfl rfl hl.1 rfl (lv_room (Nat.le_of_ble_eq_true rfl)) dX9_next_37) hP hD hS hA [1, 2, 3] rfl rfl (fun H locs hP hD hS => ?_)
    have hP : va_P (dC, dI) vwCl [cl_X9 h_this h_this_now h_this_kept h_this_told h_this_text h_this_script h_this_momentReader h_this_spanReader h_this_adder h_this_other h_this_trial h_this_ways i_this, cl_X4 h_this_now h_this_now_day h_this_now_second h_this_now_months h_this_now_days h_this_now_seconds, (h_this_now_day, .inl (cI, 8, .inl f_this_now_day)), (h_this_now_second, .inl (cI, 8, .inl f_this_now_second)), (h_this_now_months, .inl (cI, 8, .inl f_this_now_months)), (h_this_now_days, .inl (cI, 8, .inl f_this_now_days)), (h_this_now_seconds, .inl (cI, 8, .inl f_this_now_seconds)), cl_X3 h_this_told h_this_told_numbers i_this_told, (h_this_told_numbers, .inl (cJ, 8, .inr (.inl f_this_told_numbers))), cl_X0 h_this_adder i_this_adder] H := hP
    have hD : va_D A [cl_X9 h_this h_this_now h_this_kept h_this_told h_this_text h_this_script h_this_momentReader h_this_spanReader h_this_adder h_this_other h_this_trial h_this_ways i_this, cl_X4 h_this_now h_this_now_day h_this_now_second h_this_now_months h_this_now_days h_this_now_seconds, (h_this_now_day, .inl (cI, 8, .inl f_this_now_day)), (h_this_now_second, .inl (cI, 8, .inl f_this_now_second)), (h_this_now_months, .inl (cI, 8, .inl f_this_now_months)), (h_this_now_days, .inl (cI, 8, .inl f_this_now_days)), (h_this_now_seconds, .inl (cI, 8, .inl f_this_now_seconds)), cl_X3 h_this_told h_this_told_numbers i_this_told, (h_this_told_numbers, .inl (cJ, 8, .inr (.inl f_this_told_numbers))), cl_X0 h_this_adder i_this_adder] := hD
    refine lv_lstore (lv' := [(5, .long r26), (0, .ref h_this), (1, .int p1), (2, .int p2), (3, .int p3), (4, .int p4)]) hx hb dX9_next_40 hl (by decide) rfl (fun ls hl => ?_)
    refine lv_iconst (v := (0 : Int32)) hx hb dX9_next_42 (by decide) ?_
    refine lv_istore (lv' := [(7, .int (0 : Int32)), (5, .long r26), (0, .ref h_this), (1, .int p1), (2, .int p2), (3, .int p3), (4, .int p4)]) hx hb dX9_next_43 hl (by decide) rfl (fun ls hl => ?_)
    exact LP_45 N _ _ _ _ _ _ _ _ _ _ _ h (lv_sub hl [2, 3, 4, 5, 1, 0] rfl) hP hD hS
  have h := ite_t c25 h
  refine lv_iconst (v := (-1 : Int32)) hx hb dX9_next_29 (by decide) ?_
  obtain ⟨rfl, rfl, rfl, rfl⟩ := pj4 h
  exact hEnd _ _ _ _ hP hS dX9_next_30 rfl
noncomputable def fX9_isWeekday (N : Nat) (p1 : Int32) : Option (Int32) := (if p1 < (0 : Int32) then (some (0 : Int32)) else (if (6 : Int32) < p1 then (some (0 : Int32)) else (some (1 : Int32))))
set_option maxHeartbeats 4000000 in
set_option maxRecDepth 100000 in
theorem kX9_isWeekday (l : Launch) (N : Nat) (p1 : Int32) (r : Int32) (hf : fX9_isWeekday N p1 = some r) : SI l yX9_isWeekday (kws yX9_isWeekday cX9_isWeekday 1 (some .boolean)) (kR 0 0) [.int p1] r := by
  refine SI.of (cc := cX9_isWeekday) (maxL := 1) (by decide) (Nat.le_of_ble_eq_true rfl) (fun p e s m args below meth c Q ls KC hl hEnd => ?_)
  obtain ⟨hx, hb, hml, hown, hts⟩ := KC
  have hown : s.vm.findClass "DateSpans" = some m.cls := hown
  have hl : lv_has ls 1 [(0, .int p1)] := hl
  have h := hf
  unfold fX9_isWeekday at h
  refine lv_iload_n hx hb dX9_isWeekday_0 rfl (lv_at hl 0 rfl) ?_
  refine lv_if_lt (tgt := 14) hx hb dX9_isWeekday_1 (by decide) (fun c1 => ?_) (fun c1 => ?_)
  · have h := ite_t c1 h
    refine lv_iconst (v := (0 : Int32)) hx hb dX9_isWeekday_14 (by decide) ?_
    obtain rfl := pj1 h
    exact hEnd _ _ dX9_isWeekday_15 rfl
  have h := ite_f c1 h
  refine lv_iload_n hx hb dX9_isWeekday_4 rfl (lv_at hl 0 rfl) ?_
  refine lv_bipush (v := (6 : Int32)) hx hb dX9_isWeekday_5 (by decide) ?_
  refine lv_icmp_gt (tgt := 14) hx hb dX9_isWeekday_7 (by decide) (fun c2 => ?_) (fun c2 => ?_)
  · have h := ite_t c2 h
    refine lv_iconst (v := (0 : Int32)) hx hb dX9_isWeekday_14 (by decide) ?_
    obtain rfl := pj1 h
    exact hEnd _ _ dX9_isWeekday_15 rfl
  have h := ite_f c2 h
  refine lv_iconst (v := (1 : Int32)) hx hb dX9_isWeekday_10 (by decide) ?_
  refine lv_goto (tgt := 15) hx hb dX9_isWeekday_11 (by decide) ?_
  obtain rfl := pj1 h
  exact hEnd _ _ dX9_isWeekday_15 rfl
noncomputable def fX9_nth_j117 (N : Nat) (i_this : Int32) (v5 : Int32) (v6 : Int32) (t0 : Int32) : Option (Int32) := (if t0 < v5 then (some (-2 : Int32)) else (if t0 ≤ v6 then (some t0) else (some (-2 : Int32))))
noncomputable def fX9_nth (N : Nat) (p1 : Int32) (p2 : Int32) (p3 : Int32) (p4 : Int32) (i_this : Int32) : Option (Int32) := (bd1 (fX1_isYear N p1) fun r3 => (if r3 = (0 : Int32) then (some (-1 : Int32)) else (bd1 (fX1_isMonth N p2) fun r6 => (if r6 = (0 : Int32) then (some (-1 : Int32)) else (bd1 (fX9_isWeekday N p3) fun r9 => (if r9 = (0 : Int32) then (some (-1 : Int32)) else (if p4 = (0 : Int32) then (some (-1 : Int32)) else (if p4 < (-5 : Int32) then (some (-1 : Int32)) else (if p4 ≤ (5 : Int32) then (bd1 (fX1_dayOf N p1 p2 (1 : Int32)) fun r15 => (bd1 (fX1_monthLength N p1 p2) fun r17 => (nm ((r15 + r17) - (1 : Int32)) fun z19 => (if p4 ≤ (0 : Int32) then (bd1 (fX1_weekdayOf N z19) fun r21 => (fX9_nth_j117 N i_this r15 z19 ((z19 - (((r21 - p3) + (7 : Int32)) - ((r21 - p3) + (7 : Int32)) / (7 : Int32) * (7 : Int32))) + ((7 : Int32) * (p4 + (1 : Int32)))))) else (bd1 (fX1_weekdayOf N r15) fun r23 => (fX9_nth_j117 N i_this r15 z19 ((r15 + (((p3 - r23) + (7 : Int32)) - ((p3 - r23) + (7 : Int32)) / (7 : Int32) * (7 : Int32))) + ((7 : Int32) * (p4 - (1 : Int32)))))))))) else (some (-1 : Int32)))))))))))
set_option maxHeartbeats 4000000 in
set_option maxRecDepth 100000 in
theorem kX9_nth (l : Launch) (dC : Nat → ClassId) (dI : Nat → Nat → Nat) (cI cJ cB : ClassId) (h_this h_this_now h_this_kept h_this_told h_this_text h_this_script h_this_momentReader h_this_spanReader h_this_adder h_this_other h_this_trial h_this_ways : Nat) (N : Nat) (p1 : Int32) (p2 : Int32) (p3 : Int32) (p4 : Int32) (i_this : Int32) (r : Int32) (hf : fX9_nth N p1 p2 p3 p4 i_this = some r) : MI l yX9_nth (kws yX9_nth cX9_nth 8 (some .int)) (kR 2 41) (dC, dI) (kT cI cJ cB) [.ref h_this, .int p1, .int p2, .int p3, .int p4] [cl_X9 h_this h_this_now h_this_kept h_this_told h_this_text h_this_script h_this_momentReader h_this_spanReader h_this_adder h_this_other h_this_trial h_this_ways i_this] [cl_X9 h_this h_this_now h_this_kept h_this_told h_this_text h_this_script h_this_momentReader h_this_spanReader h_this_adder h_this_other h_this_trial h_this_ways i_this] r := by
  refine MI.of (cc := cX9_nth) (maxL := 8) (by decide) (Nat.le_of_ble_eq_true rfl) (fun p e s m args below meth c A Q ls KC hN hK hP hD hA hl hEnd => ?_)
  obtain ⟨hx, hb, hml, hown, hts⟩ := KC
  have hown : s.vm.findClass "DateSpans" = some m.cls := hown
  have hl : lv_has ls 8 [(0, .ref h_this), (1, .int p1), (2, .int p2), (3, .int p3), (4, .int p4)] := hl
  have hS : va_S A s.heap s.heap [] := va_S.rf
  have JN_117 : ∀ (v5 : Int32) (v6 : Int32) (t0 : Int32) (ls : Array Slot) (H : Heap) (locs : List Loc), (fX9_nth_j117 N i_this) v5 v6 t0 = some r → lv_has ls 8 [(5, .int v5), (6, .int v6)] → va_P (dC, dI) vwCl [cl_X9 h_this h_this_now h_this_kept h_this_told h_this_text h_this_script h_this_momentReader h_this_spanReader h_this_adder h_this_other h_this_trial h_this_ways i_this] H → va_D A [cl_X9 h_this h_this_now h_this_kept h_this_told h_this_text h_this_script h_this_momentReader h_this_spanReader h_this_adder h_this_other h_this_trial h_this_ways i_this] → va_S A s.heap H locs → W p l e (kR 2 41) s m args below meth c H locs 0 0 Q (F0 m 117 ls [.int t0]) := by
    intro v5 v6 t0 ls H locs h hl hP hD hS
    unfold fX9_nth_j117 at h
    refine lv_istore (lv' := [(7, .int t0), (5, .int v5), (6, .int v6)]) hx hb dX9_nth_117 hl (by decide) rfl (fun ls hl => ?_)
    refine lv_iload hx hb dX9_nth_119 (lv_at hl 0 rfl) ?_
    refine lv_iload hx hb dX9_nth_121 (lv_at hl 1 rfl) ?_
    refine lv_icmp_lt (tgt := 133) hx hb dX9_nth_123 (by decide) (fun c1 => ?_) (fun c1 => ?_)
    · have h := ite_t c1 h
      refine lv_bipush (v := (-2 : Int32)) hx hb dX9_nth_133 (by decide) ?_
      refine lv_goto (tgt := 140) hx hb dX9_nth_135 (by decide) ?_
      obtain rfl := pj1 h
      exact hEnd _ _ _ _ hP hS dX9_nth_140 rfl
    have h := ite_f c1 h
    refine lv_iload hx hb dX9_nth_126 (lv_at hl 0 rfl) ?_
    refine lv_iload hx hb dX9_nth_128 (lv_at hl 2 rfl) ?_
    refine lv_icmp_le (tgt := 138) hx hb dX9_nth_130 (by decide) (fun c2 => ?_) (fun c2 => ?_)
    · have h := ite_t c2 h
      refine lv_iload hx hb dX9_nth_138 (lv_at hl 0 rfl) ?_
      obtain rfl := pj1 h
      exact hEnd _ _ _ _ hP hS dX9_nth_140 rfl
    have h := ite_f c2 h
    refine lv_bipush (v := (-2 : Int32)) hx hb dX9_nth_133 (by decide) ?_
    refine lv_goto (tgt := 140) hx hb dX9_nth_135 (by decide) ?_
    obtain rfl := pj1 h
    exact hEnd _ _ _ _ hP hS dX9_nth_140 rfl
  have h := hf
  unfold fX9_nth at h
  refine lv_iload_n hx hb dX9_nth_0 rfl (lv_at hl 1 rfl) ?_
  obtain ⟨r3, hc4, h⟩ := bd1_at h
  refine kjSI (kS0 (own := "DateSpans") (As := [.int p1]) (rest := []) ⟨hx, hb, hml, hown, hts⟩ (kX1_isYear l N p1 r3 hc4) (kgS (kq q_506 rfl) (kq q_507 rfl) (kq q_28 rfl) (kq q_508 rfl)) yd_X1_isYear ⟨Nat.le_of_ble_eq_true rfl, Nat.le_of_ble_eq_true rfl⟩ rfl rfl hl.1 rfl (lv_room (Nat.le_of_ble_eq_true rfl)) dX9_nth_1) ?_
  refine lv_if_eq (tgt := 39) hx hb dX9_nth_4 (by decide) (fun c5 => ?_) (fun c5 => ?_)
  · have h := ite_t c5 h
    refine lv_iconst (v := (-1 : Int32)) hx hb dX9_nth_39 (by decide) ?_
    obtain rfl := pj1 h
    exact hEnd _ _ _ _ hP hS dX9_nth_40 rfl
  have h := ite_f c5 h
  refine lv_iload_n hx hb dX9_nth_7 rfl (lv_at hl 2 rfl) ?_
  obtain ⟨r6, hc7, h⟩ := bd1_at h
  refine kjSI (kS0 (own := "DateSpans") (As := [.int p2]) (rest := []) ⟨hx, hb, hml, hown, hts⟩ (kX1_isMonth l N p2 r6 hc7) (kgS (kq q_509 rfl) (kq q_510 rfl) (kq q_28 rfl) (kq q_511 rfl)) yd_X1_isMonth ⟨Nat.le_of_ble_eq_true rfl, Nat.le_of_ble_eq_true rfl⟩ rfl rfl hl.1 rfl (lv_room (Nat.le_of_ble_eq_true rfl)) dX9_nth_8) ?_
  refine lv_if_eq (tgt := 39) hx hb dX9_nth_11 (by decide) (fun c8 => ?_) (fun c8 => ?_)
  · have h := ite_t c8 h
    refine lv_iconst (v := (-1 : Int32)) hx hb dX9_nth_39 (by decide) ?_
    obtain rfl := pj1 h
    exact hEnd _ _ _ _ hP hS dX9_nth_40 rfl
  have h := ite_f c8 h
  refine lv_iload_n hx hb dX9_nth_14 rfl (lv_at hl 3 rfl) ?_
  obtain ⟨r9, hc10, h⟩ := bd1_at h
  refine kjSI (kS0 (own := "DateSpans") (As := [.int p3]) (rest := []) ⟨hx, hb, hml, hown, hts⟩ (kX9_isWeekday l N p3 r9 hc10) (kgS (kq q_512 rfl) (kq q_513 rfl) (kq q_18 rfl) (kq q_514 rfl)) yd_X9_isWeekday ⟨Nat.le_of_ble_eq_true rfl, Nat.le_of_ble_eq_true rfl⟩ rfl rfl hl.1 rfl (lv_room (Nat.le_of_ble_eq_true rfl)) dX9_nth_15) ?_
  refine lv_if_eq (tgt := 39) hx hb dX9_nth_18 (by decide) (fun c11 => ?_) (fun c11 => ?_)
  · have h := ite_t c11 h
    refine lv_iconst (v := (-1 : Int32)) hx hb dX9_nth_39 (by decide) ?_
    obtain rfl := pj1 h
    exact hEnd _ _ _ _ hP hS dX9_nth_40 rfl
  have h := ite_f c11 h
  refine lv_iload hx hb dX9_nth_21 (lv_at hl 4 rfl) ?_
  refine lv_if_eq (tgt := 39) hx hb dX9_nth_23 (by decide) (fun c12 => ?_) (fun c12 => ?_)
  · have h := ite_t c12 h
    refine lv_iconst (v := (-1 : Int32)) hx hb dX9_nth_39 (by decide) ?_
    obtain rfl := pj1 h
    exact hEnd _ _ _ _ hP hS dX9_nth_40 rfl
  have h := ite_f c12 h
  refine lv_iload hx hb dX9_nth_26 (lv_at hl 4 rfl) ?_
  refine lv_bipush (v := (-5 : Int32)) hx hb dX9_nth_28 (by decide) ?_
  refine lv_icmp_lt (tgt := 39) hx hb dX9_nth_30 (by decide) (fun c13 => ?_) (fun c13 => ?_)
  · have h := ite_t c13 h
    refine lv_iconst (v := (-1 : Int32)) hx hb dX9_nth_39 (by decide) ?_
    obtain rfl := pj1 h
    exact hEnd _ _ _ _ hP hS dX9_nth_40 rfl
  have h := ite_f c13 h
  refine lv_iload hx hb dX9_nth_33 (lv_at hl 4 rfl) ?_
  refine lv_iconst (v := (5 : Int32)) hx hb dX9_nth_35 (by decide) ?_
  refine lv_icmp_le (tgt := 41) hx hb dX9_nth_36 (by decide) (fun c14 => ?_) (fun c14 => ?_)
  · have h := ite_t c14 h
    refine lv_iload_n hx hb dX9_nth_41 rfl (lv_at hl 1 rfl) ?_
    refine lv_iload_n hx hb dX9_nth_42 rfl (lv_at hl 2 rfl) ?_
    refine lv_iconst (v := (1 : Int32)) hx hb dX9_nth_43 (by decide) ?_
    obtain ⟨r15, hc16, h⟩ := bd1_at h
    refine kjSI (kS0 (own := "DateSpans") (As := [.int p1, .int p2, .int (1 : Int32)]) (rest := []) ⟨hx, hb, hml, hown, hts⟩ (kX1_dayOf l N p1 p2 (1 : Int32) r15 hc16) (kgS (kq q_317 rfl) (kq q_318 rfl) (kq q_28 rfl) (kq q_319 rfl)) yd_X1_dayOf ⟨Nat.le_of_ble_eq_true rfl, Nat.le_of_ble_eq_true rfl⟩ rfl rfl hl.1 rfl (lv_room (Nat.le_of_ble_eq_true rfl)) dX9_nth_44) ?_
    refine lv_istore (lv' := [(5, .int r15), (0, .ref h_this), (1, .int p1), (2, .int p2), (3, .int p3), (4, .int p4)]) hx hb dX9_nth_47 hl (by decide) rfl (fun ls hl => ?_)
    refine lv_iload hx hb dX9_nth_49 (lv_at hl 0 rfl) ?_
    refine lv_iload_n hx hb dX9_nth_51 rfl (lv_at hl 2 rfl) ?_
    refine lv_iload_n hx hb dX9_nth_52 rfl (lv_at hl 3 rfl) ?_
    obtain ⟨r17, hc18, h⟩ := bd1_at h
    refine kjSI (kS0 (own := "DateSpans") (As := [.int p1, .int p2]) (rest := [.int r15]) ⟨hx, hb, hml, hown, hts⟩ (kX1_monthLength l N p1 p2 r17 hc18) (kgS (kq q_320 rfl) (kq q_321 rfl) (kq q_28 rfl) (kq q_322 rfl)) yd_X1_monthLength ⟨Nat.le_of_ble_eq_true rfl, Nat.le_of_ble_eq_true rfl⟩ rfl rfl hl.1 rfl (lv_room (Nat.le_of_ble_eq_true rfl)) dX9_nth_53) ?_
    refine lv_iadd hx hb dX9_nth_56 ?_
    refine lv_iconst (v := (1 : Int32)) hx hb dX9_nth_57 (by decide) ?_
    refine lv_isub hx hb dX9_nth_58 ?_
    refine lv_topi (fun z19 ez19 => ?_)
    have h := nm_at ez19 h
    refine lv_istore (lv' := [(6, .int z19), (5, .int r15), (0, .ref h_this), (1, .int p1), (2, .int p2), (3, .int p3), (4, .int p4)]) hx hb dX9_nth_59 hl (by decide) rfl (fun ls hl => ?_)
    refine lv_iload hx hb dX9_nth_61 (lv_at hl 6 rfl) ?_
    refine lv_if_le (tgt := 93) hx hb dX9_nth_63 (by decide) (fun c20 => ?_) (fun c20 => ?_)
    · have h := ite_t c20 h
      refine lv_iload hx hb dX9_nth_93 (lv_at hl 0 rfl) ?_
      refine lv_iload hx hb dX9_nth_95 (lv_at hl 0 rfl) ?_
      obtain ⟨r21, hc22, h⟩ := bd1_at h
      refine kjSI (kS0 (own := "DateSpans") (As := [.int z19]) (rest := [.int z19]) ⟨hx, hb, hml, hown, hts⟩ (kX1_weekdayOf l N z19 r21 hc22) (kgS (kq q_314 rfl) (kq q_315 rfl) (kq q_28 rfl) (kq q_316 rfl)) yd_X1_weekdayOf ⟨Nat.le_of_ble_eq_true rfl, Nat.le_of_ble_eq_true rfl⟩ rfl rfl hl.1 rfl (lv_room (Nat.le_of_ble_eq_true rfl)) dX9_nth_97) ?_
      refine lv_iload_n hx hb dX9_nth_100 rfl (lv_at hl 5 rfl) ?_
      refine lv_isub hx hb dX9_nth_101 ?_
      refine lv_bipush (v := (7 : Int32)) hx hb dX9_nth_102 (by decide) ?_
      refine lv_iadd hx hb dX9_nth_104 ?_
      refine lv_bipush (v := (7 : Int32)) hx hb dX9_nth_105 (by decide) ?_
      refine lv_irem hx hb dX9_nth_107 (by decide) ?_
      refine lv_isub hx hb dX9_nth_108 ?_
      refine lv_bipush (v := (7 : Int32)) hx hb dX9_nth_109 (by decide) ?_
      refine lv_iload hx hb dX9_nth_111 (lv_at hl 6 rfl) ?_
      refine lv_iconst (v := (1 : Int32)) hx hb dX9_nth_113 (by decide) ?_
      refine lv_iadd hx hb dX9_nth_114 ?_
      refine lv_imul hx hb dX9_nth_115 ?_
      refine lv_iadd hx hb dX9_nth_116 ?_
      exact JN_117 _ _ _ _ _ _ h (lv_sub hl [1, 0] rfl) hP hD hS
    have h := ite_f c20 h
    refine lv_iload hx hb dX9_nth_66 (lv_at hl 1 rfl) ?_
    refine lv_iload_n hx hb dX9_nth_68 rfl (lv_at hl 5 rfl) ?_
    refine lv_iload hx hb dX9_nth_69 (lv_at hl 1 rfl) ?_
    obtain ⟨r23, hc24, h⟩ := bd1_at h
    refine kjSI (kS0 (own := "DateSpans") (As := [.int r15]) (rest := [.int p3, .int r15]) ⟨hx, hb, hml, hown, hts⟩ (kX1_weekdayOf l N r15 r23 hc24) (kgS (kq q_314 rfl) (kq q_315 rfl) (kq q_28 rfl) (kq q_316 rfl)) yd_X1_weekdayOf ⟨Nat.le_of_ble_eq_true rfl, Nat.le_of_ble_eq_true rfl⟩ rfl rfl hl.1 rfl (lv_room (Nat.le_of_ble_eq_true rfl)) dX9_nth_71) ?_
    refine lv_isub hx hb dX9_nth_74 ?_
    refine lv_bipush (v := (7 : Int32)) hx hb dX9_nth_75 (by decide) ?_
    refine lv_iadd hx hb dX9_nth_77 ?_
    refine lv_bipush (v := (7 : Int32)) hx hb dX9_nth_78 (by decide) ?_
    refine lv_irem hx hb dX9_nth_80 (by decide) ?_
    refine lv_iadd hx hb dX9_nth_81 ?_
    refine lv_bipush (v := (7 : Int32)) hx hb dX9_nth_82 (by decide) ?_
    refine lv_iload hx hb dX9_nth_84 (lv_at hl 6 rfl) ?_
    refine lv_iconst (v := (1 : Int32)) hx hb dX9_nth_86 (by decide) ?_
    refine lv_isub hx hb dX9_nth_87 ?_
    refine lv_imul hx hb dX9_nth_88 ?_
    refine lv_iadd hx hb dX9_nth_89 ?_
    refine lv_goto (tgt := 117) hx hb dX9_nth_90 (by decide) ?_
    exact JN_117 _ _ _ _ _ _ h (lv_sub hl [1, 0] rfl) hP hD hS
  have h := ite_f c14 h
  refine lv_iconst (v := (-1 : Int32)) hx hb dX9_nth_39 (by decide) ?_
  obtain rfl := pj1 h
  exact hEnd _ _ _ _ hP hS dX9_nth_40 rfl
noncomputable def fX9_workdays_j126 (N : Nat) (i_this : Int32) (f_this_now_day : Nat → Int32) (K_88 : Int32 → Int32 → Int32 → Int32 → Int32 → Int32 → Int32 → Int32 → (Nat → Int64) → Option (Int32 × Int32 × (Nat → Int64))) (v1 : Int32) (v2 : Int32) (v3 : Int32) (v5 : Int32) (v6 : Int32) (v7 : Int32) (v8 : Int32) (t0 : Int32) (i_this_told : Int32) (f_this_told_numbers : Nat → Int64) : Option (Int32 × Int32 × (Nat → Int64)) := (bd2 (fX3_push N t0.toInt64 i_this_told f_this_told_numbers) fun i_this_told_1 f_this_told_numbers_2 => (if (5 : Int32) ≤ v8 then (nm (v8 + (1 : Int32)) fun z5 => (K_88 v1 v2 v3 v5 v6 v7 z5 i_this_told_1 f_this_told_numbers_2)) else (nm (v7 + t0) fun z6 => (nm (v8 + (1 : Int32)) fun z7 => (K_88 v1 v2 v3 v5 v6 z6 z7 i_this_told_1 f_this_told_numbers_2)))))
noncomputable def fX9_workdays_l88 (N : Nat) (i_this : Int32) (f_this_now_day : Nat → Int32) (n : Nat) : Int32 → Int32 → Int32 → Int32 → Int32 → Int32 → Int32 → Int32 → (Nat → Int64) → Option (Int32 × Int32 × (Nat → Int64)) := Nat.rec (motive := fun _ => Int32 → Int32 → Int32 → Int32 → Int32 → Int32 → Int32 → Int32 → (Nat → Int64) → Option (Int32 × Int32 × (Nat → Int64))) (fun _ _ _ _ _ _ _ _ _ => none) (fun _ K_88 v1 v2 v3 v5 v6 v7 v8 i_this_told f_this_told_numbers => (if (7 : Int32) ≤ v8 then (bd1 (fX4_dayAt N v2 f_this_now_day) fun r9 => (bd1 (fX4_dayAt N v1 f_this_now_day) fun r11 => (if r11 ≤ r9 then (some (v7, i_this_told, f_this_told_numbers)) else (some ((-v7), i_this_told, f_this_told_numbers))))) else (bd1 (fX1_weekdayOf N v3) fun r14 => (nm (((v8 - r14) + (7 : Int32)) - ((v8 - r14) + (7 : Int32)) / (7 : Int32) * (7 : Int32)) fun z16 => (if v6 ≤ z16 then (fX9_workdays_j126 N i_this f_this_now_day K_88 v1 v2 v3 v5 v6 v7 v8 v5 i_this_told f_this_told_numbers) else (fX9_workdays_j126 N i_this f_this_now_day K_88 v1 v2 v3 v5 v6 v7 v8 (v5 + (1 : Int32)) i_this_told f_this_told_numbers)))))) n
theorem fX9_workdays_l88_s (N : Nat) (i_this : Int32) (f_this_now_day : Nat → Int32) (n : Nat) (v1 : Int32) (v2 : Int32) (v3 : Int32) (v5 : Int32) (v6 : Int32) (v7 : Int32) (v8 : Int32) (i_this_told : Int32) (f_this_told_numbers : Nat → Int64) : fX9_workdays_l88 N i_this f_this_now_day (n + 1) v1 v2 v3 v5 v6 v7 v8 i_this_told f_this_told_numbers = (if (7 : Int32) ≤ v8 then (bd1 (fX4_dayAt N v2 f_this_now_day) fun r9 => (bd1 (fX4_dayAt N v1 f_this_now_day) fun r11 => (if r11 ≤ r9 then (some (v7, i_this_told, f_this_told_numbers)) else (some ((-v7), i_this_told, f_this_told_numbers))))) else (bd1 (fX1_weekdayOf N v3) fun r14 => (nm (((v8 - r14) + (7 : Int32)) - ((v8 - r14) + (7 : Int32)) / (7 : Int32) * (7 : Int32)) fun z16 => (if v6 ≤ z16 then (fX9_workdays_j126 N i_this f_this_now_day (fX9_workdays_l88 N i_this f_this_now_day n) v1 v2 v3 v5 v6 v7 v8 v5 i_this_told f_this_told_numbers) else (fX9_workdays_j126 N i_this f_this_now_day (fX9_workdays_l88 N i_this f_this_now_day n) v1 v2 v3 v5 v6 v7 v8 (v5 + (1 : Int32)) i_this_told f_this_told_numbers))))) := rfl
theorem fX9_workdays_l88_0 (N : Nat) (i_this : Int32) (f_this_now_day : Nat → Int32) (v1 : Int32) (v2 : Int32) (v3 : Int32) (v5 : Int32) (v6 : Int32) (v7 : Int32) (v8 : Int32) (i_this_told : Int32) (f_this_told_numbers : Nat → Int64) : fX9_workdays_l88 N i_this f_this_now_day 0 v1 v2 v3 v5 v6 v7 v8 i_this_told f_this_told_numbers = none := rfl
noncomputable def fX9_workdays (N : Nat) (p1 : Int32) (p2 : Int32) (i_this : Int32) (f_this_now_day : Nat → Int32) (i_this_told : Int32) (f_this_told_numbers : Nat → Int64) : Option (Int32 × Int32 × (Nat → Int64)) := (bd1 (fX9_isSlot N p1) fun r18 => (if r18 = (0 : Int32) then (some ((-1 : Int32), i_this_told, f_this_told_numbers)) else (bd1 (fX9_isSlot N p2) fun r21 => (if r21 = (0 : Int32) then (some ((-1 : Int32), i_this_told, f_this_told_numbers)) else (bd1 (fX4_dayAt N p1 f_this_now_day) fun r24 => (bd1 (fX4_dayAt N p2 f_this_now_day) fun r26 => (nm (if r26 < r24 then r26 else r24) fun z28 => (bd1 (fX4_dayAt N p1 f_this_now_day) fun r29 => (bd1 (fX4_dayAt N p2 f_this_now_day) fun r31 => (nm (if r29 < r31 then r31 else r29) fun z33 => (nm ((z33 - z28) / (7 : Int32)) fun z34 => (nm ((z33 - z28) - (z33 - z28) / (7 : Int32) * (7 : Int32)) fun z35 => (bd1 (fX3_begin N i_this_told) fun i_this_told_36 => (fX9_workdays_l88 N i_this f_this_now_day N p1 p2 z28 z34 z35 (0 : Int32) (0 : Int32) i_this_told_36 f_this_told_numbers))))))))))))))
set_option maxHeartbeats 4000000 in
set_option maxRecDepth 100000 in
theorem kX9_workdays (l : Launch) (dC : Nat → ClassId) (dI : Nat → Nat → Nat) (cI cJ cB : ClassId) (h_this h_this_now h_this_kept h_this_told h_this_text h_this_script h_this_momentReader h_this_spanReader h_this_adder h_this_other h_this_trial h_this_ways h_this_now_day h_this_now_second h_this_now_months h_this_now_days h_this_now_seconds h_this_told_numbers : Nat) (N : Nat) (p1 : Int32) (p2 : Int32) (i_this : Int32) (f_this_now_day : Nat → Int32) (i_this_told : Int32) (f_this_told_numbers : Nat → Int64) (r : Int32) (o_i_this_told : Int32) (o_f_this_told_numbers : Nat → Int64) (hf : fX9_workdays N p1 p2 i_this f_this_now_day i_this_told f_this_told_numbers = some (r, o_i_this_told, o_f_this_told_numbers)) : MI l yX9_workdays (kws yX9_workdays cX9_workdays 11 (some .int)) (kR 2 41) (dC, dI) (kT cI cJ cB) [.ref h_this, .int p1, .int p2] [cl_X9 h_this h_this_now h_this_kept h_this_told h_this_text h_this_script h_this_momentReader h_this_spanReader h_this_adder h_this_other h_this_trial h_this_ways i_this, cl_X4 h_this_now h_this_now_day h_this_now_second h_this_now_months h_this_now_days h_this_now_seconds, (h_this_now_day, .inl (cI, 8, .inl f_this_now_day)), cl_X3 h_this_told h_this_told_numbers i_this_told, (h_this_told_numbers, .inl (cJ, 8, .inr (.inl f_this_told_numbers)))] [cl_X9 h_this h_this_now h_this_kept h_this_told h_this_text h_this_script h_this_momentReader h_this_spanReader h_this_adder h_this_other h_this_trial h_this_ways i_this, cl_X4 h_this_now h_this_now_day h_this_now_second h_this_now_months h_this_now_days h_this_now_seconds, (h_this_now_day, .inl (cI, 8, .inl f_this_now_day)), cl_X3 h_this_told h_this_told_numbers o_i_this_told, (h_this_told_numbers, .inl (cJ, 8, .inr (.inl o_f_this_told_numbers)))] r := by
  refine MI.of (cc := cX9_workdays) (maxL := 11) (by decide) (Nat.le_of_ble_eq_true rfl) (fun p e s m args below meth c A Q ls KC hN hK hP hD hA hl hEnd => ?_)
  obtain ⟨hx, hb, hml, hown, hts⟩ := KC
  have hown : s.vm.findClass "DateSpans" = some m.cls := hown
  have hl : lv_has ls 11 [(0, .ref h_this), (1, .int p1), (2, .int p2)] := hl
  have hS : va_S A s.heap s.heap [] := va_S.rf
  have LP_88 : ∀ n_88 : Nat, ∀ (v1 : Int32) (v2 : Int32) (v3 : Int32) (v5 : Int32) (v6 : Int32) (v7 : Int32) (v8 : Int32) (i_this_told : Int32) (f_this_told_numbers : Nat → Int64) (ls : Array Slot) (H : Heap) (locs : List Loc), fX9_workdays_l88 N i_this f_this_now_day n_88 v1 v2 v3 v5 v6 v7 v8 i_this_told f_this_told_numbers = some (r, o_i_this_told, o_f_this_told_numbers) → lv_has ls 11 [(0, .ref h_this), (1, .int v1), (2, .int v2), (3, .int v3), (5, .int v5), (6, .int v6), (7, .int v7), (8, .int v8)] → va_P (dC, dI) vwCl [cl_X9 h_this h_this_now h_this_kept h_this_told h_this_text h_this_script h_this_momentReader h_this_spanReader h_this_adder h_this_other h_this_trial h_this_ways i_this, cl_X4 h_this_now h_this_now_day h_this_now_second h_this_now_months h_this_now_days h_this_now_seconds, (h_this_now_day, .inl (cI, 8, .inl f_this_now_day)), cl_X3 h_this_told h_this_told_numbers i_this_told, (h_this_told_numbers, .inl (cJ, 8, .inr (.inl f_this_told_numbers)))] H → va_D A [cl_X9 h_this h_this_now h_this_kept h_this_told h_this_text h_this_script h_this_momentReader h_this_spanReader h_this_adder h_this_other h_this_trial h_this_ways i_this, cl_X4 h_this_now h_this_now_day h_this_now_second h_this_now_months h_this_now_days h_this_now_seconds, (h_this_now_day, .inl (cI, 8, .inl f_this_now_day)), cl_X3 h_this_told h_this_told_numbers i_this_told, (h_this_told_numbers, .inl (cJ, 8, .inr (.inl f_this_told_numbers)))] → va_S A s.heap H locs → W p l e (kR 2 41) s m args below meth c H locs 0 0 Q (F0 m 88 ls []) := by
    intro n_88
    induction n_88 with
    | zero =>
      intro v1 v2 v3 v5 v6 v7 v8 i_this_told f_this_told_numbers ls H locs h hl hP hD hS
      rw [fX9_workdays_l88_0] at h; cases h
    | succ n_88 ih_88 =>
      have JN_126 : ∀ (v1 : Int32) (v2 : Int32) (v3 : Int32) (v5 : Int32) (v6 : Int32) (v7 : Int32) (v8 : Int32) (t0 : Int32) (i_this_told : Int32) (f_this_told_numbers : Nat → Int64) (ls : Array Slot) (H : Heap) (locs : List Loc), (fX9_workdays_j126 N i_this f_this_now_day (fX9_workdays_l88 N i_this f_this_now_day n_88)) v1 v2 v3 v5 v6 v7 v8 t0 i_this_told f_this_told_numbers = some (r, o_i_this_told, o_f_this_told_numbers) → lv_has ls 11 [(0, .ref h_this), (1, .int v1), (2, .int v2), (3, .int v3), (5, .int v5), (6, .int v6), (7, .int v7), (8, .int v8)] → va_P (dC, dI) vwCl [cl_X9 h_this h_this_now h_this_kept h_this_told h_this_text h_this_script h_this_momentReader h_this_spanReader h_this_adder h_this_other h_this_trial h_this_ways i_this, cl_X4 h_this_now h_this_now_day h_this_now_second h_this_now_months h_this_now_days h_this_now_seconds, (h_this_now_day, .inl (cI, 8, .inl f_this_now_day)), cl_X3 h_this_told h_this_told_numbers i_this_told, (h_this_told_numbers, .inl (cJ, 8, .inr (.inl f_this_told_numbers)))] H → va_D A [cl_X9 h_this h_this_now h_this_kept h_this_told h_this_text h_this_script h_this_momentReader h_this_spanReader h_this_adder h_this_other h_this_trial h_this_ways i_this, cl_X4 h_this_now h_this_now_day h_this_now_second h_this_now_months h_this_now_days h_this_now_seconds, (h_this_now_day, .inl (cI, 8, .inl f_this_now_day)), cl_X3 h_this_told h_this_told_numbers i_this_told, (h_this_told_numbers, .inl (cJ, 8, .inr (.inl f_this_told_numbers)))] → va_S A s.heap H locs → W p l e (kR 2 41) s m args below meth c H locs 0 0 Q (F0 m 126 ls [.int t0]) := by
        intro v1 v2 v3 v5 v6 v7 v8 t0 i_this_told f_this_told_numbers ls H locs h hl hP hD hS
        unfold fX9_workdays_j126 at h
        refine lv_istore (lv' := [(10, .int t0), (0, .ref h_this), (1, .int v1), (2, .int v2), (3, .int v3), (5, .int v5), (6, .int v6), (7, .int v7), (8, .int v8)]) hx hb dX9_workdays_126 hl (by decide) rfl (fun ls hl => ?_)
        refine lv_aload_n hx hb dX9_workdays_128 rfl (lv_at hl 1 rfl) ?_
        refine va_get (D := (dC, dI)) (ci := 8) (v := .ref h_this_told) (C := RX9) (T := TX9) (N := 12) hx hb hts inX9 hown hK hP 0 rfl rfl 3 (by decide) (hts _ (kq q_229 rfl)) (fun _ h9 => h9) rfl dX9_workdays_129 ?_
        refine lv_iload hx hb dX9_workdays_132 (lv_at hl 0 rfl) ?_
        refine lv_i2l hx hb dX9_workdays_134 rfl ?_
        obtain ⟨i_this_told_1, f_this_told_numbers_2, hc3, h⟩ := bd2_at h
        refine kjV (kV (own := "DateSpans") (C := "DateSpans$Row") (b := h_this_told) (As := [.long t0.toInt64]) (rest := []) ⟨hx, hb, hml, hown, hts⟩ (kX3_push l dC dI cI cJ cB h_this_told h_this_told_numbers N t0.toInt64 i_this_told f_this_told_numbers i_this_told_1 f_this_told_numbers_2 hc3 _) (kgV (kq q_474 rfl) (kq q_431 rfl) (kq q_432 rfl) (kq q_20 rfl) (kq q_433 rfl)) yd_X3_push ⟨Nat.le_of_ble_eq_true rfl, Nat.le_of_ble_eq_true rfl⟩ hN hK hP hD [3, 4] rfl rfl (ci := 2) rfl rfl rfl rfl rfl hl.1 rfl (lv_room (Nat.le_of_ble_eq_true rfl)) dX9_workdays_135) hP hD hS hA [3, 4] rfl rfl (fun H locs hP hD hS => ?_)
        have hP : va_P (dC, dI) vwCl [cl_X9 h_this h_this_now h_this_kept h_this_told h_this_text h_this_script h_this_momentReader h_this_spanReader h_this_adder h_this_other h_this_trial h_this_ways i_this, cl_X4 h_this_now h_this_now_day h_this_now_second h_this_now_months h_this_now_days h_this_now_seconds, (h_this_now_day, .inl (cI, 8, .inl f_this_now_day)), cl_X3 h_this_told h_this_told_numbers i_this_told_1, (h_this_told_numbers, .inl (cJ, 8, .inr (.inl f_this_told_numbers_2)))] H := hP
        have hD : va_D A [cl_X9 h_this h_this_now h_this_kept h_this_told h_this_text h_this_script h_this_momentReader h_this_spanReader h_this_adder h_this_other h_this_trial h_this_ways i_this, cl_X4 h_this_now h_this_now_day h_this_now_second h_this_now_months h_this_now_days h_this_now_seconds, (h_this_now_day, .inl (cI, 8, .inl f_this_now_day)), cl_X3 h_this_told h_this_told_numbers i_this_told_1, (h_this_told_numbers, .inl (cJ, 8, .inr (.inl f_this_told_numbers_2)))] := hD
        refine lv_iload hx hb dX9_workdays_138 (lv_at hl 8 rfl) ?_
        refine lv_iconst (v := (5 : Int32)) hx hb dX9_workdays_140 (by decide) ?_
        refine lv_icmp_ge (tgt := 151) hx hb dX9_workdays_141 (by decide) (fun c4 => ?_) (fun c4 => ?_)
        · have h := ite_t c4 h
          obtain ⟨z5, ez5⟩ : ∃ y : Int32, y = (v8 + (1 : Int32)) := ⟨_, rfl⟩
          have h := nm_at ez5 h
          refine lv_iinc (v := z5) (lv' := [(8, .int z5), (10, .int t0), (0, .ref h_this), (1, .int v1), (2, .int v2), (3, .int v3), (5, .int v5), (6, .int v6), (7, .int v7)]) hx hb dX9_workdays_151 hl (k := 8) rfl (by rw [ez5]; rfl) (by decide) rfl (fun ls hl => ?_)
          refine lv_goto (tgt := 88) hx hb dX9_workdays_154 (by decide) ?_
          exact ih_88 _ _ _ _ _ _ _ _ _ _ _ _ h (lv_sub hl [2, 3, 4, 5, 6, 7, 8, 0] rfl) hP hD hS
        have h := ite_f c4 h
        refine lv_iload hx hb dX9_workdays_144 (lv_at hl 7 rfl) ?_
        refine lv_iload hx hb dX9_workdays_146 (lv_at hl 0 rfl) ?_
        refine lv_iadd hx hb dX9_workdays_148 ?_
        refine lv_topi (fun z6 ez6 => ?_)
        have h := nm_at ez6 h
        refine lv_istore (lv' := [(7, .int z6), (10, .int t0), (0, .ref h_this), (1, .int v1), (2, .int v2), (3, .int v3), (5, .int v5), (6, .int v6), (8, .int v8)]) hx hb dX9_workdays_149 hl (by decide) rfl (fun ls hl => ?_)
        obtain ⟨z7, ez7⟩ : ∃ y : Int32, y = (v8 + (1 : Int32)) := ⟨_, rfl⟩
        have h := nm_at ez7 h
        refine lv_iinc (v := z7) (lv' := [(8, .int z7), (7, .int z6), (10, .int t0), (0, .ref h_this), (1, .int v1), (2, .int v2), (3, .int v3), (5, .int v5), (6, .int v6)]) hx hb dX9_workdays_151 hl (k := 8) rfl (by rw [ez7]; rfl) (by decide) rfl (fun ls hl => ?_)
        refine lv_goto (tgt := 88) hx hb dX9_workdays_154 (by decide) ?_
        exact ih_88 _ _ _ _ _ _ _ _ _ _ _ _ h (lv_sub hl [3, 4, 5, 6, 7, 8, 1, 0] rfl) hP hD hS
      intro v1 v2 v3 v5 v6 v7 v8 i_this_told f_this_told_numbers ls H locs h hl hP hD hS
      rw [fX9_workdays_l88_s] at h
      refine lv_iload hx hb dX9_workdays_88 (lv_at hl 7 rfl) ?_
      refine lv_bipush (v := (7 : Int32)) hx hb dX9_workdays_90 (by decide) ?_
      refine lv_icmp_ge (tgt := 157) hx hb dX9_workdays_92 (by decide) (fun c8 => ?_) (fun c8 => ?_)
      · have h := ite_t c8 h
        refine lv_aload_n hx hb dX9_workdays_157 rfl (lv_at hl 0 rfl) ?_
        refine va_get (D := (dC, dI)) (ci := 8) (v := .ref h_this_now) (C := RX9) (T := TX9) (N := 12) hx hb hts inX9 hown hK hP 0 rfl rfl 0 (by decide) (hts _ (kq q_226 rfl)) (fun _ h9 => h9) rfl dX9_workdays_158 ?_
        refine lv_iload_n hx hb dX9_workdays_161 rfl (lv_at hl 2 rfl) ?_
        obtain ⟨r9, hc10, h⟩ := bd1_at h
        refine kjI (kV (own := "DateSpans") (C := "DateSpans$Slots") (b := h_this_now) (As := [.int v2]) (rest := []) ⟨hx, hb, hml, hown, hts⟩ (kX4_dayAt l dC dI cI cJ cB h_this_now h_this_now_day h_this_now_second h_this_now_months h_this_now_days h_this_now_seconds N v2 f_this_now_day r9 hc10 _) (kgV (kq q_275 rfl) (kq q_276 rfl) (kq q_277 rfl) (kq q_19 rfl) (kq q_278 rfl)) yd_X4_dayAt ⟨Nat.le_of_ble_eq_true rfl, Nat.le_of_ble_eq_true rfl⟩ hN hK hP hD [1, 2] rfl rfl (ci := 3) rfl rfl rfl rfl rfl hl.1 rfl (lv_room (Nat.le_of_ble_eq_true rfl)) dX9_workdays_162) hP hD hS hA [1, 2] rfl rfl (fun H locs hP hD hS => ?_)
        have hP : va_P (dC, dI) vwCl [cl_X9 h_this h_this_now h_this_kept h_this_told h_this_text h_this_script h_this_momentReader h_this_spanReader h_this_adder h_this_other h_this_trial h_this_ways i_this, cl_X4 h_this_now h_this_now_day h_this_now_second h_this_now_months h_this_now_days h_this_now_seconds, (h_this_now_day, .inl (cI, 8, .inl f_this_now_day)), cl_X3 h_this_told h_this_told_numbers i_this_told, (h_this_told_numbers, .inl (cJ, 8, .inr (.inl f_this_told_numbers)))] H := hP
        have hD : va_D A [cl_X9 h_this h_this_now h_this_kept h_this_told h_this_text h_this_script h_this_momentReader h_this_spanReader h_this_adder h_this_other h_this_trial h_this_ways i_this, cl_X4 h_this_now h_this_now_day h_this_now_second h_this_now_months h_this_now_days h_this_now_seconds, (h_this_now_day, .inl (cI, 8, .inl f_this_now_day)), cl_X3 h_this_told h_this_told_numbers i_this_told, (h_this_told_numbers, .inl (cJ, 8, .inr (.inl f_this_told_numbers)))] := hD
        refine lv_aload_n hx hb dX9_workdays_165 rfl (lv_at hl 0 rfl) ?_
        refine va_get (D := (dC, dI)) (ci := 8) (v := .ref h_this_now) (C := RX9) (T := TX9) (N := 12) hx hb hts inX9 hown hK hP 0 rfl rfl 0 (by decide) (hts _ (kq q_226 rfl)) (fun _ h9 => h9) rfl dX9_workdays_166 ?_
        refine lv_iload_n hx hb dX9_workdays_169 rfl (lv_at hl 1 rfl) ?_
        obtain ⟨r11, hc12, h⟩ := bd1_at h
        refine kjI (kV (own := "DateSpans") (C := "DateSpans$Slots") (b := h_this_now) (As := [.int v1]) (rest := [.int r9]) ⟨hx, hb, hml, hown, hts⟩ (kX4_dayAt l dC dI cI cJ cB h_this_now h_this_now_day h_this_now_second h_this_now_months h_this_now_days h_this_now_seconds N v1 f_this_now_day r11 hc12 _) (kgV (kq q_275 rfl) (kq q_276 rfl) (kq q_277 rfl) (kq q_19 rfl) (kq q_278 rfl)) yd_X4_dayAt ⟨Nat.le_of_ble_eq_true rfl, Nat.le_of_ble_eq_true rfl⟩ hN hK hP hD [1, 2] rfl rfl (ci := 3) rfl rfl rfl rfl rfl hl.1 rfl (lv_room (Nat.le_of_ble_eq_true rfl)) dX9_workdays_170) hP hD hS hA [1, 2] rfl rfl (fun H locs hP hD hS => ?_)
        have hP : va_P (dC, dI) vwCl [cl_X9 h_this h_this_now h_this_kept h_this_told h_this_text h_this_script h_this_momentReader h_this_spanReader h_this_adder h_this_other h_this_trial h_this_ways i_this, cl_X4 h_this_now h_this_now_day h_this_now_second h_this_now_months h_this_now_days h_this_now_seconds, (h_this_now_day, .inl (cI, 8, .inl f_this_now_day)), cl_X3 h_this_told h_this_told_numbers i_this_told, (h_this_told_numbers, .inl (cJ, 8, .inr (.inl f_this_told_numbers)))] H := hP
        have hD : va_D A [cl_X9 h_this h_this_now h_this_kept h_this_told h_this_text h_this_script h_this_momentReader h_this_spanReader h_this_adder h_this_other h_this_trial h_this_ways i_this, cl_X4 h_this_now h_this_now_day h_this_now_second h_this_now_months h_this_now_days h_this_now_seconds, (h_this_now_day, .inl (cI, 8, .inl f_this_now_day)), cl_X3 h_this_told h_this_told_numbers i_this_told, (h_this_told_numbers, .inl (cJ, 8, .inr (.inl f_this_told_numbers)))] := hD
        refine lv_icmp_ge (tgt := 182) hx hb dX9_workdays_173 (by decide) (fun c13 => ?_) (fun c13 => ?_)
        · have h := ite_t c13 h
          refine lv_iload hx hb dX9_workdays_182 (lv_at hl 6 rfl) ?_
          obtain ⟨rfl, rfl, rfl⟩ := pj3 h
          exact hEnd _ _ _ _ hP hS dX9_workdays_184 rfl
        have h := ite_f c13 h
        refine lv_iload hx hb dX9_workdays_176 (lv_at hl 6 rfl) ?_
        refine lv_ineg hx hb dX9_workdays_178 ?_
        refine lv_goto (tgt := 184) hx hb dX9_workdays_179 (by decide) ?_
        obtain ⟨rfl, rfl, rfl⟩ := pj3 h
        exact hEnd _ _ _ _ hP hS dX9_workdays_184 rfl
      have h := ite_f c8 h
      refine lv_iload hx hb dX9_workdays_95 (lv_at hl 7 rfl) ?_
      refine lv_iload_n hx hb dX9_workdays_97 rfl (lv_at hl 3 rfl) ?_
      obtain ⟨r14, hc15, h⟩ := bd1_at h
      refine kjSI (kS0 (own := "DateSpans") (As := [.int v3]) (rest := [.int v8]) ⟨hx, hb, hml, hown, hts⟩ (kX1_weekdayOf l N v3 r14 hc15) (kgS (kq q_314 rfl) (kq q_315 rfl) (kq q_28 rfl) (kq q_316 rfl)) yd_X1_weekdayOf ⟨Nat.le_of_ble_eq_true rfl, Nat.le_of_ble_eq_true rfl⟩ rfl rfl hl.1 rfl (lv_room (Nat.le_of_ble_eq_true rfl)) dX9_workdays_98) ?_
      refine lv_isub hx hb dX9_workdays_101 ?_
      refine lv_bipush (v := (7 : Int32)) hx hb dX9_workdays_102 (by decide) ?_
      refine lv_iadd hx hb dX9_workdays_104 ?_
      refine lv_bipush (v := (7 : Int32)) hx hb dX9_workdays_105 (by decide) ?_
      refine lv_irem hx hb dX9_workdays_107 (by decide) ?_
      refine lv_topi (fun z16 ez16 => ?_)
      have h := nm_at ez16 h
      refine lv_istore (lv' := [(9, .int z16), (0, .ref h_this), (1, .int v1), (2, .int v2), (3, .int v3), (5, .int v5), (6, .int v6), (7, .int v7), (8, .int v8)]) hx hb dX9_workdays_108 hl (by decide) rfl (fun ls hl => ?_)
      refine lv_iload hx hb dX9_workdays_110 (lv_at hl 0 rfl) ?_
      refine lv_iload hx hb dX9_workdays_112 (lv_at hl 6 rfl) ?_
      refine lv_icmp_ge (tgt := 124) hx hb dX9_workdays_114 (by decide) (fun c17 => ?_) (fun c17 => ?_)
      · have h := ite_t c17 h
        refine lv_iload hx hb dX9_workdays_124 (lv_at hl 5 rfl) ?_
        exact JN_126 _ _ _ _ _ _ _ _ _ _ _ _ _ h (lv_sub hl [1, 2, 3, 4, 5, 6, 7, 8] rfl) hP hD hS
      have h := ite_f c17 h
      refine lv_iload hx hb dX9_workdays_117 (lv_at hl 5 rfl) ?_
      refine lv_iconst (v := (1 : Int32)) hx hb dX9_workdays_119 (by decide) ?_
      refine lv_iadd hx hb dX9_workdays_120 ?_
      refine lv_goto (tgt := 126) hx hb dX9_workdays_121 (by decide) ?_
      exact JN_126 _ _ _ _ _ _ _ _ _ _ _ _ _ h (lv_sub hl [1, 2, 3, 4, 5, 6, 7, 8] rfl) hP hD hS
  have h := hf
  unfold fX9_workdays at h
  refine lv_iload_n hx hb dX9_workdays_0 rfl (lv_at hl 1 rfl) ?_
  obtain ⟨r18, hc19, h⟩ := bd1_at h
  refine kjSI (kS0 (own := "DateSpans") (As := [.int p1]) (rest := []) ⟨hx, hb, hml, hown, hts⟩ (kX9_isSlot l N p1 r18 hc19) (kgS (kq q_267 rfl) (kq q_268 rfl) (kq q_18 rfl) (kq q_269 rfl)) yd_X9_isSlot ⟨Nat.le_of_ble_eq_true rfl, Nat.le_of_ble_eq_true rfl⟩ rfl rfl hl.1 rfl (lv_room (Nat.le_of_ble_eq_true rfl)) dX9_workdays_1) ?_
  refine lv_if_eq (tgt := 14) hx hb dX9_workdays_4 (by decide) (fun c20 => ?_) (fun c20 => ?_)
  · have h := ite_t c20 h
    refine lv_iconst (v := (-1 : Int32)) hx hb dX9_workdays_14 (by decide) ?_
    obtain ⟨rfl, rfl, rfl⟩ := pj3 h
    exact hEnd _ _ _ _ hP hS dX9_workdays_15 rfl
  have h := ite_f c20 h
  refine lv_iload_n hx hb dX9_workdays_7 rfl (lv_at hl 2 rfl) ?_
  obtain ⟨r21, hc22, h⟩ := bd1_at h
  refine kjSI (kS0 (own := "DateSpans") (As := [.int p2]) (rest := []) ⟨hx, hb, hml, hown, hts⟩ (kX9_isSlot l N p2 r21 hc22) (kgS (kq q_267 rfl) (kq q_268 rfl) (kq q_18 rfl) (kq q_269 rfl)) yd_X9_isSlot ⟨Nat.le_of_ble_eq_true rfl, Nat.le_of_ble_eq_true rfl⟩ rfl rfl hl.1 rfl (lv_room (Nat.le_of_ble_eq_true rfl)) dX9_workdays_8) ?_
  refine lv_if_ne (tgt := 16) hx hb dX9_workdays_11 (by decide) (fun c23 => ?_) (fun c23 => ?_)
  · have h := ite_f c23 h
    refine lv_aload_n hx hb dX9_workdays_16 rfl (lv_at hl 0 rfl) ?_
    refine va_get (D := (dC, dI)) (ci := 8) (v := .ref h_this_now) (C := RX9) (T := TX9) (N := 12) hx hb hts inX9 hown hK hP 0 rfl rfl 0 (by decide) (hts _ (kq q_226 rfl)) (fun _ h9 => h9) rfl dX9_workdays_17 ?_
    refine lv_iload_n hx hb dX9_workdays_20 rfl (lv_at hl 1 rfl) ?_
    obtain ⟨r24, hc25, h⟩ := bd1_at h
    refine kjI (kV (own := "DateSpans") (C := "DateSpans$Slots") (b := h_this_now) (As := [.int p1]) (rest := []) ⟨hx, hb, hml, hown, hts⟩ (kX4_dayAt l dC dI cI cJ cB h_this_now h_this_now_day h_this_now_second h_this_now_months h_this_now_days h_this_now_seconds N p1 f_this_now_day r24 hc25 _) (kgV (kq q_275 rfl) (kq q_276 rfl) (kq q_277 rfl) (kq q_19 rfl) (kq q_278 rfl)) yd_X4_dayAt ⟨Nat.le_of_ble_eq_true rfl, Nat.le_of_ble_eq_true rfl⟩ hN hK hP hD [1, 2] rfl rfl (ci := 3) rfl rfl rfl rfl rfl hl.1 rfl (lv_room (Nat.le_of_ble_eq_true rfl)) dX9_workdays_21) hP hD hS hA [1, 2] rfl rfl (fun H locs hP hD hS => ?_)
    have hP : va_P (dC, dI) vwCl [cl_X9 h_this h_this_now h_this_kept h_this_told h_this_text h_this_script h_this_momentReader h_this_spanReader h_this_adder h_this_other h_this_trial h_this_ways i_this, cl_X4 h_this_now h_this_now_day h_this_now_second h_this_now_months h_this_now_days h_this_now_seconds, (h_this_now_day, .inl (cI, 8, .inl f_this_now_day)), cl_X3 h_this_told h_this_told_numbers i_this_told, (h_this_told_numbers, .inl (cJ, 8, .inr (.inl f_this_told_numbers)))] H := hP
    have hD : va_D A [cl_X9 h_this h_this_now h_this_kept h_this_told h_this_text h_this_script h_this_momentReader h_this_spanReader h_this_adder h_this_other h_this_trial h_this_ways i_this, cl_X4 h_this_now h_this_now_day h_this_now_second h_this_now_months h_this_now_days h_this_now_seconds, (h_this_now_day, .inl (cI, 8, .inl f_this_now_day)), cl_X3 h_this_told h_this_told_numbers i_this_told, (h_this_told_numbers, .inl (cJ, 8, .inr (.inl f_this_told_numbers)))] := hD
    refine lv_aload_n hx hb dX9_workdays_24 rfl (lv_at hl 0 rfl) ?_
    refine va_get (D := (dC, dI)) (ci := 8) (v := .ref h_this_now) (C := RX9) (T := TX9) (N := 12) hx hb hts inX9 hown hK hP 0 rfl rfl 0 (by decide) (hts _ (kq q_226 rfl)) (fun _ h9 => h9) rfl dX9_workdays_25 ?_
    refine lv_iload_n hx hb dX9_workdays_28 rfl (lv_at hl 2 rfl) ?_
    obtain ⟨r26, hc27, h⟩ := bd1_at h
    refine kjI (kV (own := "DateSpans") (C := "DateSpans$Slots") (b := h_this_now) (As := [.int p2]) (rest := [.int r24]) ⟨hx, hb, hml, hown, hts⟩ (kX4_dayAt l dC dI cI cJ cB h_this_now h_this_now_day h_this_now_second h_this_now_months h_this_now_days h_this_now_seconds N p2 f_this_now_day r26 hc27 _) (kgV (kq q_275 rfl) (kq q_276 rfl) (kq q_277 rfl) (kq q_19 rfl) (kq q_278 rfl)) yd_X4_dayAt ⟨Nat.le_of_ble_eq_true rfl, Nat.le_of_ble_eq_true rfl⟩ hN hK hP hD [1, 2] rfl rfl (ci := 3) rfl rfl rfl rfl rfl hl.1 rfl (lv_room (Nat.le_of_ble_eq_true rfl)) dX9_workdays_29) hP hD hS hA [1, 2] rfl rfl (fun H locs hP hD hS => ?_)
    have hP : va_P (dC, dI) vwCl [cl_X9 h_this h_this_now h_this_kept h_this_told h_this_text h_this_script h_this_momentReader h_this_spanReader h_this_adder h_this_other h_this_trial h_this_ways i_this, cl_X4 h_this_now h_this_now_day h_this_now_second h_this_now_months h_this_now_days h_this_now_seconds, (h_this_now_day, .inl (cI, 8, .inl f_this_now_day)), cl_X3 h_this_told h_this_told_numbers i_this_told, (h_this_told_numbers, .inl (cJ, 8, .inr (.inl f_this_told_numbers)))] H := hP
    have hD : va_D A [cl_X9 h_this h_this_now h_this_kept h_this_told h_this_text h_this_script h_this_momentReader h_this_spanReader h_this_adder h_this_other h_this_trial h_this_ways i_this, cl_X4 h_this_now h_this_now_day h_this_now_second h_this_now_months h_this_now_days h_this_now_seconds, (h_this_now_day, .inl (cI, 8, .inl f_this_now_day)), cl_X3 h_this_told h_this_told_numbers i_this_told, (h_this_told_numbers, .inl (cJ, 8, .inr (.inl f_this_told_numbers)))] := hD
    refine va_mmin (rest := []) hx hb (hml.trans hl.1.symm) hown (hts _ (kq q_519 rfl)) (hts _ (kq q_520 rfl)) (hts _ (kq q_27 rfl)) (hts _ (kq q_521 rfl)) (Nat.le_of_ble_eq_true rfl) (Nat.le_of_ble_eq_true rfl) (Nat.zero_le _) (Nat.zero_le _) dX9_workdays_32 ?_
    refine lv_topi (fun z28 ez28 => ?_)
    have h := nm_at ez28 h
    refine lv_istore_n (lv' := [(3, .int z28), (0, .ref h_this), (1, .int p1), (2, .int p2)]) hx hb dX9_workdays_35 rfl hl (by decide) rfl (fun ls hl => ?_)
    refine lv_aload_n hx hb dX9_workdays_36 rfl (lv_at hl 1 rfl) ?_
    refine va_get (D := (dC, dI)) (ci := 8) (v := .ref h_this_now) (C := RX9) (T := TX9) (N := 12) hx hb hts inX9 hown hK hP 0 rfl rfl 0 (by decide) (hts _ (kq q_226 rfl)) (fun _ h9 => h9) rfl dX9_workdays_37 ?_
    refine lv_iload_n hx hb dX9_workdays_40 rfl (lv_at hl 2 rfl) ?_
    obtain ⟨r29, hc30, h⟩ := bd1_at h
    refine kjI (kV (own := "DateSpans") (C := "DateSpans$Slots") (b := h_this_now) (As := [.int p1]) (rest := []) ⟨hx, hb, hml, hown, hts⟩ (kX4_dayAt l dC dI cI cJ cB h_this_now h_this_now_day h_this_now_second h_this_now_months h_this_now_days h_this_now_seconds N p1 f_this_now_day r29 hc30 _) (kgV (kq q_275 rfl) (kq q_276 rfl) (kq q_277 rfl) (kq q_19 rfl) (kq q_278 rfl)) yd_X4_dayAt ⟨Nat.le_of_ble_eq_true rfl, Nat.le_of_ble_eq_true rfl⟩ hN hK hP hD [1, 2] rfl rfl (ci := 3) rfl rfl rfl rfl rfl hl.1 rfl (lv_room (Nat.le_of_ble_eq_true rfl)) dX9_workdays_41) hP hD hS hA [1, 2] rfl rfl (fun H locs hP hD hS => ?_)
    have hP : va_P (dC, dI) vwCl [cl_X9 h_this h_this_now h_this_kept h_this_told h_this_text h_this_script h_this_momentReader h_this_spanReader h_this_adder h_this_other h_this_trial h_this_ways i_this, cl_X4 h_this_now h_this_now_day h_this_now_second h_this_now_months h_this_now_days h_this_now_seconds, (h_this_now_day, .inl (cI, 8, .inl f_this_now_day)), cl_X3 h_this_told h_this_told_numbers i_this_told, (h_this_told_numbers, .inl (cJ, 8, .inr (.inl f_this_told_numbers)))] H := hP
    have hD : va_D A [cl_X9 h_this h_this_now h_this_kept h_this_told h_this_text h_this_script h_this_momentReader h_this_spanReader h_this_adder h_this_other h_this_trial h_this_ways i_this, cl_X4 h_this_now h_this_now_day h_this_now_second h_this_now_months h_this_now_days h_this_now_seconds, (h_this_now_day, .inl (cI, 8, .inl f_this_now_day)), cl_X3 h_this_told h_this_told_numbers i_this_told, (h_this_told_numbers, .inl (cJ, 8, .inr (.inl f_this_told_numbers)))] := hD
    refine lv_aload_n hx hb dX9_workdays_44 rfl (lv_at hl 1 rfl) ?_
    refine va_get (D := (dC, dI)) (ci := 8) (v := .ref h_this_now) (C := RX9) (T := TX9) (N := 12) hx hb hts inX9 hown hK hP 0 rfl rfl 0 (by decide) (hts _ (kq q_226 rfl)) (fun _ h9 => h9) rfl dX9_workdays_45 ?_
    refine lv_iload_n hx hb dX9_workdays_48 rfl (lv_at hl 3 rfl) ?_
    obtain ⟨r31, hc32, h⟩ := bd1_at h
    refine kjI (kV (own := "DateSpans") (C := "DateSpans$Slots") (b := h_this_now) (As := [.int p2]) (rest := [.int r29]) ⟨hx, hb, hml, hown, hts⟩ (kX4_dayAt l dC dI cI cJ cB h_this_now h_this_now_day h_this_now_second h_this_now_months h_this_now_days h_this_now_seconds N p2 f_this_now_day r31 hc32 _) (kgV (kq q_275 rfl) (kq q_276 rfl) (kq q_277 rfl) (kq q_19 rfl) (kq q_278 rfl)) yd_X4_dayAt ⟨Nat.le_of_ble_eq_true rfl, Nat.le_of_ble_eq_true rfl⟩ hN hK hP hD [1, 2] rfl rfl (ci := 3) rfl rfl rfl rfl rfl hl.1 rfl (lv_room (Nat.le_of_ble_eq_true rfl)) dX9_workdays_49) hP hD hS hA [1, 2] rfl rfl (fun H locs hP hD hS => ?_)
    have hP : va_P (dC, dI) vwCl [cl_X9 h_this h_this_now h_this_kept h_this_told h_this_text h_this_script h_this_momentReader h_this_spanReader h_this_adder h_this_other h_this_trial h_this_ways i_this, cl_X4 h_this_now h_this_now_day h_this_now_second h_this_now_months h_this_now_days h_this_now_seconds, (h_this_now_day, .inl (cI, 8, .inl f_this_now_day)), cl_X3 h_this_told h_this_told_numbers i_this_told, (h_this_told_numbers, .inl (cJ, 8, .inr (.inl f_this_told_numbers)))] H := hP
    have hD : va_D A [cl_X9 h_this h_this_now h_this_kept h_this_told h_this_text h_this_script h_this_momentReader h_this_spanReader h_this_adder h_this_other h_this_trial h_this_ways i_this, cl_X4 h_this_now h_this_now_day h_this_now_second h_this_now_months h_this_now_days h_this_now_seconds, (h_this_now_day, .inl (cI, 8, .inl f_this_now_day)), cl_X3 h_this_told h_this_told_numbers i_this_told, (h_this_told_numbers, .inl (cJ, 8, .inr (.inl f_this_told_numbers)))] := hD
    refine va_mmax (rest := []) hx hb (hml.trans hl.1.symm) hown (hts _ (kq q_522 rfl)) (hts _ (kq q_396 rfl)) (hts _ (kq q_27 rfl)) (hts _ (kq q_397 rfl)) (Nat.le_of_ble_eq_true rfl) (Nat.le_of_ble_eq_true rfl) (Nat.zero_le _) (Nat.zero_le _) dX9_workdays_52 ?_
    refine lv_topi (fun z33 ez33 => ?_)
    have h := nm_at ez33 h
    refine lv_istore (lv' := [(4, .int z33), (3, .int z28), (0, .ref h_this), (1, .int p1), (2, .int p2)]) hx hb dX9_workdays_55 hl (by decide) rfl (fun ls hl => ?_)
    refine lv_iload hx hb dX9_workdays_57 (lv_at hl 0 rfl) ?_
    refine lv_iload_n hx hb dX9_workdays_59 rfl (lv_at hl 1 rfl) ?_
    refine lv_isub hx hb dX9_workdays_60 ?_
    refine lv_bipush (v := (7 : Int32)) hx hb dX9_workdays_61 (by decide) ?_
    refine lv_idiv hx hb dX9_workdays_63 (by decide) ?_
    refine lv_topi (fun z34 ez34 => ?_)
    have h := nm_at ez34 h
    refine lv_istore (lv' := [(5, .int z34), (4, .int z33), (3, .int z28), (0, .ref h_this), (1, .int p1), (2, .int p2)]) hx hb dX9_workdays_64 hl (by decide) rfl (fun ls hl => ?_)
    refine lv_iload hx hb dX9_workdays_66 (lv_at hl 1 rfl) ?_
    refine lv_iload_n hx hb dX9_workdays_68 rfl (lv_at hl 2 rfl) ?_
    refine lv_isub hx hb dX9_workdays_69 ?_
    refine lv_bipush (v := (7 : Int32)) hx hb dX9_workdays_70 (by decide) ?_
    refine lv_irem hx hb dX9_workdays_72 (by decide) ?_
    refine lv_topi (fun z35 ez35 => ?_)
    have h := nm_at ez35 h
    refine lv_istore (lv' := [(6, .int z35), (5, .int z34), (4, .int z33), (3, .int z28), (0, .ref h_this), (1, .int p1), (2, .int p2)]) hx hb dX9_workdays_73 hl (by decide) rfl (fun ls hl => ?_)
    refine lv_iconst (v := (0 : Int32)) hx hb dX9_workdays_75 (by decide) ?_
    refine lv_istore (lv' := [(7, .int (0 : Int32)), (6, .int z35), (5, .int z34), (4, .int z33), (3, .int z28), (0, .ref h_this), (1, .int p1), (2, .int p2)]) hx hb dX9_workdays_76 hl (by decide) rfl (fun ls hl => ?_)
    refine lv_aload_n hx hb dX9_workdays_78 rfl (lv_at hl 5 rfl) ?_
    refine va_get (D := (dC, dI)) (ci := 8) (v := .ref h_this_told) (C := RX9) (T := TX9) (N := 12) hx hb hts inX9 hown hK hP 0 rfl rfl 3 (by decide) (hts _ (kq q_229 rfl)) (fun _ h9 => h9) rfl dX9_workdays_79 ?_
    obtain ⟨i_this_told_36, hc37, h⟩ := bd1_at h
    refine kjV (kV (own := "DateSpans") (C := "DateSpans$Row") (b := h_this_told) (As := []) (rest := []) ⟨hx, hb, hml, hown, hts⟩ (kX3_begin l dC dI cI cJ cB h_this_told h_this_told_numbers N i_this_told i_this_told_36 hc37 _) (kgV (kq q_523 rfl) (kq q_427 rfl) (kq q_428 rfl) (kq q_20 rfl) (kq q_429 rfl)) yd_X3_begin ⟨Nat.le_of_ble_eq_true rfl, Nat.le_of_ble_eq_true rfl⟩ hN hK hP hD [3] rfl rfl (ci := 2) rfl rfl rfl rfl rfl hl.1 rfl (lv_room (Nat.le_of_ble_eq_true rfl)) dX9_workdays_82) hP hD hS hA [3] rfl rfl (fun H locs hP hD hS => ?_)
    have hP : va_P (dC, dI) vwCl [cl_X9 h_this h_this_now h_this_kept h_this_told h_this_text h_this_script h_this_momentReader h_this_spanReader h_this_adder h_this_other h_this_trial h_this_ways i_this, cl_X4 h_this_now h_this_now_day h_this_now_second h_this_now_months h_this_now_days h_this_now_seconds, (h_this_now_day, .inl (cI, 8, .inl f_this_now_day)), cl_X3 h_this_told h_this_told_numbers i_this_told_36, (h_this_told_numbers, .inl (cJ, 8, .inr (.inl f_this_told_numbers)))] H := hP
    have hD : va_D A [cl_X9 h_this h_this_now h_this_kept h_this_told h_this_text h_this_script h_this_momentReader h_this_spanReader h_this_adder h_this_other h_this_trial h_this_ways i_this, cl_X4 h_this_now h_this_now_day h_this_now_second h_this_now_months h_this_now_days h_this_now_seconds, (h_this_now_day, .inl (cI, 8, .inl f_this_now_day)), cl_X3 h_this_told h_this_told_numbers i_this_told_36, (h_this_told_numbers, .inl (cJ, 8, .inr (.inl f_this_told_numbers)))] := hD
    refine lv_iconst (v := (0 : Int32)) hx hb dX9_workdays_85 (by decide) ?_
    refine lv_istore (lv' := [(8, .int (0 : Int32)), (7, .int (0 : Int32)), (6, .int z35), (5, .int z34), (4, .int z33), (3, .int z28), (0, .ref h_this), (1, .int p1), (2, .int p2)]) hx hb dX9_workdays_86 hl (by decide) rfl (fun ls hl => ?_)
    exact LP_88 N _ _ _ _ _ _ _ _ _ _ _ _ h (lv_sub hl [6, 7, 8, 5, 3, 2, 1, 0] rfl) hP hD hS
  have h := ite_t c23 h
  refine lv_iconst (v := (-1 : Int32)) hx hb dX9_workdays_14 (by decide) ?_
  obtain ⟨rfl, rfl, rfl⟩ := pj3 h
  exact hEnd _ _ _ _ hP hS dX9_workdays_15 rfl
noncomputable def fX9_shifts_j118 (N : Nat) (i_this : Int32) (v1 : Int32) (v3 : Int32) (v6 : Int32) (v7 : Int32) (f_this_now_day : Nat → Int32) (f_this_now_second : Nat → Int32) (i_this_told : Int32) (f_this_told_numbers : Nat → Int64) : Option (Int32 × (Nat → Int32) × (Nat → Int32) × Int32 × (Nat → Int64)) := (bd1 (fX4_secondAt N v1 f_this_now_second) fun r1 => (bd2 (fX4_putMoment N v3 v6 r1 f_this_now_day f_this_now_second) fun f_this_now_day_3 f_this_now_second_4 => (bd2 (fX3_tell N v7.toInt64 i_this_told f_this_told_numbers) fun i_this_told_6 f_this_told_numbers_7 => (some (v6, f_this_now_day_3, f_this_now_second_4, i_this_told_6, f_this_told_numbers_7)))))
noncomputable def fX9_shifts_l63 (N : Nat) (i_this : Int32) (n : Nat) : Int32 → Int32 → Int32 → Int32 → Int32 → Int32 → Int32 → (Nat → Int32) → (Nat → Int32) → Int32 → (Nat → Int64) → Option (Int32 × (Nat → Int32) × (Nat → Int32) × Int32 × (Nat → Int64)) := Nat.rec (motive := fun _ => Int32 → Int32 → Int32 → Int32 → Int32 → Int32 → Int32 → (Nat → Int32) → (Nat → Int32) → Int32 → (Nat → Int64) → Option (Int32 × (Nat → Int32) × (Nat → Int32) × Int32 × (Nat → Int64))) (fun _ _ _ _ _ _ _ _ _ _ _ => none) (fun _ K_63 v1 v3 v4 v5 v6 v7 v8 f_this_now_day f_this_now_second i_this_told f_this_told_numbers => (if (30000 : Int32) ≤ v8 then (fX9_shifts_j118 N i_this v1 v3 v6 v7 f_this_now_day f_this_now_second i_this_told f_this_told_numbers) else (if v5 ≤ (0 : Int32) then (fX9_shifts_j118 N i_this v1 v3 v6 v7 f_this_now_day f_this_now_second i_this_told f_this_told_numbers) else (nm (v6 + v4) fun z11 => (bd1 (fX9_isDay N z11) fun r12 => (if r12 = (0 : Int32) then (some ((-2 : Int32), f_this_now_day, f_this_now_second, i_this_told, f_this_told_numbers)) else (bd1 (fX1_weekdayOf N z11) fun r15 => (if (5 : Int32) ≤ r15 then (nm (v7 + (1 : Int32)) fun z18 => (nm (v8 + (1 : Int32)) fun z19 => (K_63 v1 v3 v4 v5 z11 z18 z19 f_this_now_day f_this_now_second i_this_told f_this_told_numbers))) else (nm (v5 + (-1 : Int32)) fun z20 => (nm (v8 + (1 : Int32)) fun z21 => (K_63 v1 v3 v4 z20 z11 v7 z21 f_this_now_day f_this_now_second i_this_told f_this_told_numbers))))))))))) n
theorem fX9_shifts_l63_s (N : Nat) (i_this : Int32) (n : Nat) (v1 : Int32) (v3 : Int32) (v4 : Int32) (v5 : Int32) (v6 : Int32) (v7 : Int32) (v8 : Int32) (f_this_now_day : Nat → Int32) (f_this_now_second : Nat → Int32) (i_this_told : Int32) (f_this_told_numbers : Nat → Int64) : fX9_shifts_l63 N i_this (n + 1) v1 v3 v4 v5 v6 v7 v8 f_this_now_day f_this_now_second i_this_told f_this_told_numbers = (if (30000 : Int32) ≤ v8 then (fX9_shifts_j118 N i_this v1 v3 v6 v7 f_this_now_day f_this_now_second i_this_told f_this_told_numbers) else (if v5 ≤ (0 : Int32) then (fX9_shifts_j118 N i_this v1 v3 v6 v7 f_this_now_day f_this_now_second i_this_told f_this_told_numbers) else (nm (v6 + v4) fun z11 => (bd1 (fX9_isDay N z11) fun r12 => (if r12 = (0 : Int32) then (some ((-2 : Int32), f_this_now_day, f_this_now_second, i_this_told, f_this_told_numbers)) else (bd1 (fX1_weekdayOf N z11) fun r15 => (if (5 : Int32) ≤ r15 then (nm (v7 + (1 : Int32)) fun z18 => (nm (v8 + (1 : Int32)) fun z19 => ((fX9_shifts_l63 N i_this n) v1 v3 v4 v5 z11 z18 z19 f_this_now_day f_this_now_second i_this_told f_this_told_numbers))) else (nm (v5 + (-1 : Int32)) fun z20 => (nm (v8 + (1 : Int32)) fun z21 => ((fX9_shifts_l63 N i_this n) v1 v3 v4 z20 z11 v7 z21 f_this_now_day f_this_now_second i_this_told f_this_told_numbers)))))))))) := rfl
theorem fX9_shifts_l63_0 (N : Nat) (i_this : Int32) (v1 : Int32) (v3 : Int32) (v4 : Int32) (v5 : Int32) (v6 : Int32) (v7 : Int32) (v8 : Int32) (f_this_now_day : Nat → Int32) (f_this_now_second : Nat → Int32) (i_this_told : Int32) (f_this_told_numbers : Nat → Int64) : fX9_shifts_l63 N i_this 0 v1 v3 v4 v5 v6 v7 v8 f_this_now_day f_this_now_second i_this_told f_this_told_numbers = none := rfl
noncomputable def fX9_shifts_j39 (N : Nat) (i_this : Int32) (v1 : Int32) (v2 : Int32) (v3 : Int32) (t0 : Int32) (f_this_now_day : Nat → Int32) (f_this_now_second : Nat → Int32) (i_this_told : Int32) (f_this_told_numbers : Nat → Int64) : Option (Int32 × (Nat → Int32) × (Nat → Int32) × Int32 × (Nat → Int64)) := (nm (if 0 ≤ v2 then v2 else 0 - v2) fun z22 => (bd1 (fX4_dayAt N v1 f_this_now_day) fun r23 => (fX9_shifts_l63 N i_this N v1 v3 t0 z22 r23 (0 : Int32) (0 : Int32) f_this_now_day f_this_now_second i_this_told f_this_told_numbers)))
noncomputable def fX9_shifts (N : Nat) (p1 : Int32) (p2 : Int32) (p3 : Int32) (i_this : Int32) (f_this_now_day : Nat → Int32) (f_this_now_second : Nat → Int32) (i_this_told : Int32) (f_this_told_numbers : Nat → Int64) : Option (Int32 × (Nat → Int32) × (Nat → Int32) × Int32 × (Nat → Int64)) := (bd1 (fX9_isSlot N p1) fun r25 => (if r25 = (0 : Int32) then (some ((-1 : Int32), f_this_now_day, f_this_now_second, i_this_told, f_this_told_numbers)) else (if p2 < (-10000 : Int32) then (some ((-1 : Int32), f_this_now_day, f_this_now_second, i_this_told, f_this_told_numbers)) else (if (10000 : Int32) < p2 then (some ((-1 : Int32), f_this_now_day, f_this_now_second, i_this_told, f_this_told_numbers)) else (bd1 (fX9_isSlot N p3) fun r30 => (if r30 = (0 : Int32) then (some ((-1 : Int32), f_this_now_day, f_this_now_second, i_this_told, f_this_told_numbers)) else (if (0 : Int32) ≤ p2 then (fX9_shifts_j39 N i_this p1 p2 p3 (1 : Int32) f_this_now_day f_this_now_second i_this_told f_this_told_numbers) else (fX9_shifts_j39 N i_this p1 p2 p3 (-1 : Int32) f_this_now_day f_this_now_second i_this_told f_this_told_numbers))))))))
set_option maxHeartbeats 4000000 in
set_option maxRecDepth 100000 in
theorem kX9_shifts (l : Launch) (dC : Nat → ClassId) (dI : Nat → Nat → Nat) (cI cJ cB : ClassId) (h_this h_this_now h_this_kept h_this_told h_this_text h_this_script h_this_momentReader h_this_spanReader h_this_adder h_this_other h_this_trial h_this_ways h_this_now_day h_this_now_second h_this_now_months h_this_now_days h_this_now_seconds h_this_told_numbers : Nat) (N : Nat) (p1 : Int32) (p2 : Int32) (p3 : Int32) (i_this : Int32) (f_this_now_day : Nat → Int32) (f_this_now_second : Nat → Int32) (i_this_told : Int32) (f_this_told_numbers : Nat → Int64) (r : Int32) (o_f_this_now_day : Nat → Int32) (o_f_this_now_second : Nat → Int32) (o_i_this_told : Int32) (o_f_this_told_numbers : Nat → Int64) (hf : fX9_shifts N p1 p2 p3 i_this f_this_now_day f_this_now_second i_this_told f_this_told_numbers = some (r, o_f_this_now_day, o_f_this_now_second, o_i_this_told, o_f_this_told_numbers)) : MI l yX9_shifts (kws yX9_shifts cX9_shifts 9 (some .int)) (kR 2 44) (dC, dI) (kT cI cJ cB) [.ref h_this, .int p1, .int p2, .int p3] [cl_X9 h_this h_this_now h_this_kept h_this_told h_this_text h_this_script h_this_momentReader h_this_spanReader h_this_adder h_this_other h_this_trial h_this_ways i_this, cl_X4 h_this_now h_this_now_day h_this_now_second h_this_now_months h_this_now_days h_this_now_seconds, (h_this_now_day, .inl (cI, 8, .inl f_this_now_day)), (h_this_now_second, .inl (cI, 8, .inl f_this_now_second)), cl_X3 h_this_told h_this_told_numbers i_this_told, (h_this_told_numbers, .inl (cJ, 8, .inr (.inl f_this_told_numbers)))] [cl_X9 h_this h_this_now h_this_kept h_this_told h_this_text h_this_script h_this_momentReader h_this_spanReader h_this_adder h_this_other h_this_trial h_this_ways i_this, cl_X4 h_this_now h_this_now_day h_this_now_second h_this_now_months h_this_now_days h_this_now_seconds, (h_this_now_day, .inl (cI, 8, .inl o_f_this_now_day)), (h_this_now_second, .inl (cI, 8, .inl o_f_this_now_second)), cl_X3 h_this_told h_this_told_numbers o_i_this_told, (h_this_told_numbers, .inl (cJ, 8, .inr (.inl o_f_this_told_numbers)))] r := by
  refine MI.of (cc := cX9_shifts) (maxL := 9) (by decide) (Nat.le_of_ble_eq_true rfl) (fun p e s m args below meth c A Q ls KC hN hK hP hD hA hl hEnd => ?_)
  obtain ⟨hx, hb, hml, hown, hts⟩ := KC
  have hown : s.vm.findClass "DateSpans" = some m.cls := hown
  have hl : lv_has ls 9 [(0, .ref h_this), (1, .int p1), (2, .int p2), (3, .int p3)] := hl
  have hS : va_S A s.heap s.heap [] := va_S.rf
  have JN_118 : ∀ (v1 : Int32) (v3 : Int32) (v6 : Int32) (v7 : Int32) (f_this_now_day : Nat → Int32) (f_this_now_second : Nat → Int32) (i_this_told : Int32) (f_this_told_numbers : Nat → Int64) (ls : Array Slot) (H : Heap) (locs : List Loc), (fX9_shifts_j118 N i_this) v1 v3 v6 v7 f_this_now_day f_this_now_second i_this_told f_this_told_numbers = some (r, o_f_this_now_day, o_f_this_now_second, o_i_this_told, o_f_this_told_numbers) → lv_has ls 9 [(0, .ref h_this), (1, .int v1), (3, .int v3), (6, .int v6), (7, .int v7)] → va_P (dC, dI) vwCl [cl_X9 h_this h_this_now h_this_kept h_this_told h_this_text h_this_script h_this_momentReader h_this_spanReader h_this_adder h_this_other h_this_trial h_this_ways i_this, cl_X4 h_this_now h_this_now_day h_this_now_second h_this_now_months h_this_now_days h_this_now_seconds, (h_this_now_day, .inl (cI, 8, .inl f_this_now_day)), (h_this_now_second, .inl (cI, 8, .inl f_this_now_second)), cl_X3 h_this_told h_this_told_numbers i_this_told, (h_this_told_numbers, .inl (cJ, 8, .inr (.inl f_this_told_numbers)))] H → va_D A [cl_X9 h_this h_this_now h_this_kept h_this_told h_this_text h_this_script h_this_momentReader h_this_spanReader h_this_adder h_this_other h_this_trial h_this_ways i_this, cl_X4 h_this_now h_this_now_day h_this_now_second h_this_now_months h_this_now_days h_this_now_seconds, (h_this_now_day, .inl (cI, 8, .inl f_this_now_day)), (h_this_now_second, .inl (cI, 8, .inl f_this_now_second)), cl_X3 h_this_told h_this_told_numbers i_this_told, (h_this_told_numbers, .inl (cJ, 8, .inr (.inl f_this_told_numbers)))] → va_S A s.heap H locs → W p l e (kR 2 44) s m args below meth c H locs 0 0 Q (F0 m 118 ls []) := by
    intro v1 v3 v6 v7 f_this_now_day f_this_now_second i_this_told f_this_told_numbers ls H locs h hl hP hD hS
    unfold fX9_shifts_j118 at h
    refine lv_aload_n hx hb dX9_shifts_118 rfl (lv_at hl 0 rfl) ?_
    refine va_get (D := (dC, dI)) (ci := 8) (v := .ref h_this_now) (C := RX9) (T := TX9) (N := 12) hx hb hts inX9 hown hK hP 0 rfl rfl 0 (by decide) (hts _ (kq q_226 rfl)) (fun _ h9 => h9) rfl dX9_shifts_119 ?_
    refine lv_iload_n hx hb dX9_shifts_122 rfl (lv_at hl 2 rfl) ?_
    refine lv_iload hx hb dX9_shifts_123 (lv_at hl 3 rfl) ?_
    refine lv_aload_n hx hb dX9_shifts_125 rfl (lv_at hl 0 rfl) ?_
    refine va_get (D := (dC, dI)) (ci := 8) (v := .ref h_this_now) (C := RX9) (T := TX9) (N := 12) hx hb hts inX9 hown hK hP 0 rfl rfl 0 (by decide) (hts _ (kq q_226 rfl)) (fun _ h9 => h9) rfl dX9_shifts_126 ?_
    refine lv_iload_n hx hb dX9_shifts_129 rfl (lv_at hl 1 rfl) ?_
    obtain ⟨r1, hc2, h⟩ := bd1_at h
    refine kjI (kV (own := "DateSpans") (C := "DateSpans$Slots") (b := h_this_now) (As := [.int v1]) (rest := [.int v6, .int v3, .ref h_this_now]) ⟨hx, hb, hml, hown, hts⟩ (kX4_secondAt l dC dI cI cJ cB h_this_now h_this_now_day h_this_now_second h_this_now_months h_this_now_days h_this_now_seconds N v1 f_this_now_second r1 hc2 _) (kgV (kq q_310 rfl) (kq q_311 rfl) (kq q_312 rfl) (kq q_19 rfl) (kq q_313 rfl)) yd_X4_secondAt ⟨Nat.le_of_ble_eq_true rfl, Nat.le_of_ble_eq_true rfl⟩ hN hK hP hD [1, 3] rfl rfl (ci := 3) rfl rfl rfl rfl rfl hl.1 rfl (lv_room (Nat.le_of_ble_eq_true rfl)) dX9_shifts_130) hP hD hS hA [1, 3] rfl rfl (fun H locs hP hD hS => ?_)
    have hP : va_P (dC, dI) vwCl [cl_X9 h_this h_this_now h_this_kept h_this_told h_this_text h_this_script h_this_momentReader h_this_spanReader h_this_adder h_this_other h_this_trial h_this_ways i_this, cl_X4 h_this_now h_this_now_day h_this_now_second h_this_now_months h_this_now_days h_this_now_seconds, (h_this_now_day, .inl (cI, 8, .inl f_this_now_day)), (h_this_now_second, .inl (cI, 8, .inl f_this_now_second)), cl_X3 h_this_told h_this_told_numbers i_this_told, (h_this_told_numbers, .inl (cJ, 8, .inr (.inl f_this_told_numbers)))] H := hP
    have hD : va_D A [cl_X9 h_this h_this_now h_this_kept h_this_told h_this_text h_this_script h_this_momentReader h_this_spanReader h_this_adder h_this_other h_this_trial h_this_ways i_this, cl_X4 h_this_now h_this_now_day h_this_now_second h_this_now_months h_this_now_days h_this_now_seconds, (h_this_now_day, .inl (cI, 8, .inl f_this_now_day)), (h_this_now_second, .inl (cI, 8, .inl f_this_now_second)), cl_X3 h_this_told h_this_told_numbers i_this_told, (h_this_told_numbers, .inl (cJ, 8, .inr (.inl f_this_told_numbers)))] := hD
    obtain ⟨f_this_now_day_3, f_this_now_second_4, hc5, h⟩ := bd2_at h
    refine kjV (kV (own := "DateSpans") (C := "DateSpans$Slots") (b := h_this_now) (As := [.int v3, .int v6, .int r1]) (rest := []) ⟨hx, hb, hml, hown, hts⟩ (kX4_putMoment l dC dI cI cJ cB h_this_now h_this_now_day h_this_now_second h_this_now_months h_this_now_days h_this_now_seconds N v3 v6 r1 f_this_now_day f_this_now_second f_this_now_day_3 f_this_now_second_4 hc5 _) (kgV (kq q_280 rfl) (kq q_281 rfl) (kq q_282 rfl) (kq q_19 rfl) (kq q_283 rfl)) yd_X4_putMoment ⟨Nat.le_of_ble_eq_true rfl, Nat.le_of_ble_eq_true rfl⟩ hN hK hP hD [1, 2, 3] rfl rfl (ci := 3) rfl rfl rfl rfl rfl hl.1 rfl (lv_room (Nat.le_of_ble_eq_true rfl)) dX9_shifts_133) hP hD hS hA [1, 2, 3] rfl rfl (fun H locs hP hD hS => ?_)
    have hP : va_P (dC, dI) vwCl [cl_X9 h_this h_this_now h_this_kept h_this_told h_this_text h_this_script h_this_momentReader h_this_spanReader h_this_adder h_this_other h_this_trial h_this_ways i_this, cl_X4 h_this_now h_this_now_day h_this_now_second h_this_now_months h_this_now_days h_this_now_seconds, (h_this_now_day, .inl (cI, 8, .inl f_this_now_day_3)), (h_this_now_second, .inl (cI, 8, .inl f_this_now_second_4)), cl_X3 h_this_told h_this_told_numbers i_this_told, (h_this_told_numbers, .inl (cJ, 8, .inr (.inl f_this_told_numbers)))] H := hP
    have hD : va_D A [cl_X9 h_this h_this_now h_this_kept h_this_told h_this_text h_this_script h_this_momentReader h_this_spanReader h_this_adder h_this_other h_this_trial h_this_ways i_this, cl_X4 h_this_now h_this_now_day h_this_now_second h_this_now_months h_this_now_days h_this_now_seconds, (h_this_now_day, .inl (cI, 8, .inl f_this_now_day_3)), (h_this_now_second, .inl (cI, 8, .inl f_this_now_second_4)), cl_X3 h_this_told h_this_told_numbers i_this_told, (h_this_told_numbers, .inl (cJ, 8, .inr (.inl f_this_told_numbers)))] := hD
    refine lv_aload_n hx hb dX9_shifts_136 rfl (lv_at hl 0 rfl) ?_
    refine va_get (D := (dC, dI)) (ci := 8) (v := .ref h_this_told) (C := RX9) (T := TX9) (N := 12) hx hb hts inX9 hown hK hP 0 rfl rfl 3 (by decide) (hts _ (kq q_229 rfl)) (fun _ h9 => h9) rfl dX9_shifts_137 ?_
    refine lv_iload hx hb dX9_shifts_140 (lv_at hl 4 rfl) ?_
    refine lv_i2l hx hb dX9_shifts_142 rfl ?_
    obtain ⟨i_this_told_6, f_this_told_numbers_7, hc8, h⟩ := bd2_at h
    refine kjV (kV (own := "DateSpans") (C := "DateSpans$Row") (b := h_this_told) (As := [.long v7.toInt64]) (rest := []) ⟨hx, hb, hml, hown, hts⟩ (kX3_tell l dC dI cI cJ cB h_this_told h_this_told_numbers N v7.toInt64 i_this_told f_this_told_numbers i_this_told_6 f_this_told_numbers_7 hc8 _) (kgV (kq q_528 rfl) (kq q_423 rfl) (kq q_424 rfl) (kq q_20 rfl) (kq q_425 rfl)) yd_X3_tell ⟨Nat.le_of_ble_eq_true rfl, Nat.le_of_ble_eq_true rfl⟩ hN hK hP hD [4, 5] rfl rfl (ci := 2) rfl rfl rfl rfl rfl hl.1 rfl (lv_room (Nat.le_of_ble_eq_true rfl)) dX9_shifts_143) hP hD hS hA [4, 5] rfl rfl (fun H locs hP hD hS => ?_)
    have hP : va_P (dC, dI) vwCl [cl_X9 h_this h_this_now h_this_kept h_this_told h_this_text h_this_script h_this_momentReader h_this_spanReader h_this_adder h_this_other h_this_trial h_this_ways i_this, cl_X4 h_this_now h_this_now_day h_this_now_second h_this_now_months h_this_now_days h_this_now_seconds, (h_this_now_day, .inl (cI, 8, .inl f_this_now_day_3)), (h_this_now_second, .inl (cI, 8, .inl f_this_now_second_4)), cl_X3 h_this_told h_this_told_numbers i_this_told_6, (h_this_told_numbers, .inl (cJ, 8, .inr (.inl f_this_told_numbers_7)))] H := hP
    have hD : va_D A [cl_X9 h_this h_this_now h_this_kept h_this_told h_this_text h_this_script h_this_momentReader h_this_spanReader h_this_adder h_this_other h_this_trial h_this_ways i_this, cl_X4 h_this_now h_this_now_day h_this_now_second h_this_now_months h_this_now_days h_this_now_seconds, (h_this_now_day, .inl (cI, 8, .inl f_this_now_day_3)), (h_this_now_second, .inl (cI, 8, .inl f_this_now_second_4)), cl_X3 h_this_told h_this_told_numbers i_this_told_6, (h_this_told_numbers, .inl (cJ, 8, .inr (.inl f_this_told_numbers_7)))] := hD
    refine lv_iload hx hb dX9_shifts_146 (lv_at hl 3 rfl) ?_
    obtain ⟨rfl, rfl, rfl, rfl, rfl⟩ := pj5 h
    exact hEnd _ _ _ _ hP hS dX9_shifts_148 rfl
  have LP_63 : ∀ n_63 : Nat, ∀ (v1 : Int32) (v3 : Int32) (v4 : Int32) (v5 : Int32) (v6 : Int32) (v7 : Int32) (v8 : Int32) (f_this_now_day : Nat → Int32) (f_this_now_second : Nat → Int32) (i_this_told : Int32) (f_this_told_numbers : Nat → Int64) (ls : Array Slot) (H : Heap) (locs : List Loc), fX9_shifts_l63 N i_this n_63 v1 v3 v4 v5 v6 v7 v8 f_this_now_day f_this_now_second i_this_told f_this_told_numbers = some (r, o_f_this_now_day, o_f_this_now_second, o_i_this_told, o_f_this_told_numbers) → lv_has ls 9 [(0, .ref h_this), (1, .int v1), (3, .int v3), (4, .int v4), (5, .int v5), (6, .int v6), (7, .int v7), (8, .int v8)] → va_P (dC, dI) vwCl [cl_X9 h_this h_this_now h_this_kept h_this_told h_this_text h_this_script h_this_momentReader h_this_spanReader h_this_adder h_this_other h_this_trial h_this_ways i_this, cl_X4 h_this_now h_this_now_day h_this_now_second h_this_now_months h_this_now_days h_this_now_seconds, (h_this_now_day, .inl (cI, 8, .inl f_this_now_day)), (h_this_now_second, .inl (cI, 8, .inl f_this_now_second)), cl_X3 h_this_told h_this_told_numbers i_this_told, (h_this_told_numbers, .inl (cJ, 8, .inr (.inl f_this_told_numbers)))] H → va_D A [cl_X9 h_this h_this_now h_this_kept h_this_told h_this_text h_this_script h_this_momentReader h_this_spanReader h_this_adder h_this_other h_this_trial h_this_ways i_this, cl_X4 h_this_now h_this_now_day h_this_now_second h_this_now_months h_this_now_days h_this_now_seconds, (h_this_now_day, .inl (cI, 8, .inl f_this_now_day)), (h_this_now_second, .inl (cI, 8, .inl f_this_now_second)), cl_X3 h_this_told h_this_told_numbers i_this_told, (h_this_told_numbers, .inl (cJ, 8, .inr (.inl f_this_told_numbers)))] → va_S A s.heap H locs → W p l e (kR 2 44) s m args below meth c H locs 0 0 Q (F0 m 63 ls []) := by
    intro n_63
    induction n_63 with
    | zero =>
      intro v1 v3 v4 v5 v6 v7 v8 f_this_now_day f_this_now_second i_this_told f_this_told_numbers ls H locs h hl hP hD hS
      rw [fX9_shifts_l63_0] at h; cases h
    | succ n_63 ih_63 =>
      intro v1 v3 v4 v5 v6 v7 v8 f_this_now_day f_this_now_second i_this_told f_this_told_numbers ls H locs h hl hP hD hS
      rw [fX9_shifts_l63_s] at h
      refine lv_iload hx hb dX9_shifts_63 (lv_at hl 7 rfl) ?_
      refine lv_sipush (v := (30000 : Int32)) hx hb dX9_shifts_65 (by decide) ?_
      refine lv_icmp_ge (tgt := 118) hx hb dX9_shifts_68 (by decide) (fun c9 => ?_) (fun c9 => ?_)
      · have h := ite_t c9 h
        exact JN_118 _ _ _ _ _ _ _ _ _ _ _ h (lv_sub hl [0, 1, 2, 5, 6] rfl) hP hD hS
      have h := ite_f c9 h
      refine lv_iload hx hb dX9_shifts_71 (lv_at hl 4 rfl) ?_
      refine lv_if_le (tgt := 118) hx hb dX9_shifts_73 (by decide) (fun c10 => ?_) (fun c10 => ?_)
      · have h := ite_t c10 h
        exact JN_118 _ _ _ _ _ _ _ _ _ _ _ h (lv_sub hl [0, 1, 2, 5, 6] rfl) hP hD hS
      have h := ite_f c10 h
      refine lv_iload hx hb dX9_shifts_76 (lv_at hl 5 rfl) ?_
      refine lv_iload hx hb dX9_shifts_78 (lv_at hl 3 rfl) ?_
      refine lv_iadd hx hb dX9_shifts_80 ?_
      refine lv_topi (fun z11 ez11 => ?_)
      have h := nm_at ez11 h
      refine lv_istore (lv' := [(6, .int z11), (0, .ref h_this), (1, .int v1), (3, .int v3), (4, .int v4), (5, .int v5), (7, .int v7), (8, .int v8)]) hx hb dX9_shifts_81 hl (by decide) rfl (fun ls hl => ?_)
      refine lv_iload hx hb dX9_shifts_83 (lv_at hl 0 rfl) ?_
      obtain ⟨r12, hc13, h⟩ := bd1_at h
      refine kjSI (kS0 (own := "DateSpans") (As := [.int z11]) (rest := []) ⟨hx, hb, hml, hown, hts⟩ (kX9_isDay l N z11 r12 hc13) (kgS (kq q_270 rfl) (kq q_271 rfl) (kq q_18 rfl) (kq q_272 rfl)) yd_X9_isDay ⟨Nat.le_of_ble_eq_true rfl, Nat.le_of_ble_eq_true rfl⟩ rfl rfl hl.1 rfl (lv_room (Nat.le_of_ble_eq_true rfl)) dX9_shifts_85) ?_
      refine lv_if_ne (tgt := 94) hx hb dX9_shifts_88 (by decide) (fun c14 => ?_) (fun c14 => ?_)
      · have h := ite_f c14 h
        refine lv_iload hx hb dX9_shifts_94 (lv_at hl 0 rfl) ?_
        obtain ⟨r15, hc16, h⟩ := bd1_at h
        refine kjSI (kS0 (own := "DateSpans") (As := [.int z11]) (rest := []) ⟨hx, hb, hml, hown, hts⟩ (kX1_weekdayOf l N z11 r15 hc16) (kgS (kq q_314 rfl) (kq q_315 rfl) (kq q_28 rfl) (kq q_316 rfl)) yd_X1_weekdayOf ⟨Nat.le_of_ble_eq_true rfl, Nat.le_of_ble_eq_true rfl⟩ rfl rfl hl.1 rfl (lv_room (Nat.le_of_ble_eq_true rfl)) dX9_shifts_96) ?_
        refine lv_iconst (v := (5 : Int32)) hx hb dX9_shifts_99 (by decide) ?_
        refine lv_icmp_ge (tgt := 109) hx hb dX9_shifts_100 (by decide) (fun c17 => ?_) (fun c17 => ?_)
        · have h := ite_t c17 h
          obtain ⟨z18, ez18⟩ : ∃ y : Int32, y = (v7 + (1 : Int32)) := ⟨_, rfl⟩
          have h := nm_at ez18 h
          refine lv_iinc (v := z18) (lv' := [(7, .int z18), (6, .int z11), (0, .ref h_this), (1, .int v1), (3, .int v3), (4, .int v4), (5, .int v5), (8, .int v8)]) hx hb dX9_shifts_109 hl (k := 6) rfl (by rw [ez18]; rfl) (by decide) rfl (fun ls hl => ?_)
          obtain ⟨z19, ez19⟩ : ∃ y : Int32, y = (v8 + (1 : Int32)) := ⟨_, rfl⟩
          have h := nm_at ez19 h
          refine lv_iinc (v := z19) (lv' := [(8, .int z19), (7, .int z18), (6, .int z11), (0, .ref h_this), (1, .int v1), (3, .int v3), (4, .int v4), (5, .int v5)]) hx hb dX9_shifts_112 hl (k := 7) rfl (by rw [ez19]; rfl) (by decide) rfl (fun ls hl => ?_)
          refine lv_goto (tgt := 63) hx hb dX9_shifts_115 (by decide) ?_
          exact ih_63 _ _ _ _ _ _ _ _ _ _ _ _ _ _ h (lv_sub hl [3, 4, 5, 6, 7, 2, 1, 0] rfl) hP hD hS
        have h := ite_f c17 h
        obtain ⟨z20, ez20⟩ : ∃ y : Int32, y = (v5 + (-1 : Int32)) := ⟨_, rfl⟩
        have h := nm_at ez20 h
        refine lv_iinc (v := z20) (lv' := [(5, .int z20), (6, .int z11), (0, .ref h_this), (1, .int v1), (3, .int v3), (4, .int v4), (7, .int v7), (8, .int v8)]) hx hb dX9_shifts_103 hl (k := 5) rfl (by rw [ez20]; rfl) (by decide) rfl (fun ls hl => ?_)
        refine lv_goto (tgt := 112) hx hb dX9_shifts_106 (by decide) ?_
        obtain ⟨z21, ez21⟩ : ∃ y : Int32, y = (v8 + (1 : Int32)) := ⟨_, rfl⟩
        have h := nm_at ez21 h
        refine lv_iinc (v := z21) (lv' := [(8, .int z21), (5, .int z20), (6, .int z11), (0, .ref h_this), (1, .int v1), (3, .int v3), (4, .int v4), (7, .int v7)]) hx hb dX9_shifts_112 hl (k := 7) rfl (by rw [ez21]; rfl) (by decide) rfl (fun ls hl => ?_)
        refine lv_goto (tgt := 63) hx hb dX9_shifts_115 (by decide) ?_
        exact ih_63 _ _ _ _ _ _ _ _ _ _ _ _ _ _ h (lv_sub hl [3, 4, 5, 6, 1, 2, 7, 0] rfl) hP hD hS
      have h := ite_t c14 h
      refine lv_bipush (v := (-2 : Int32)) hx hb dX9_shifts_91 (by decide) ?_
      obtain ⟨rfl, rfl, rfl, rfl, rfl⟩ := pj5 h
      exact hEnd _ _ _ _ hP hS dX9_shifts_93 rfl
  have JN_39 : ∀ (v1 : Int32) (v2 : Int32) (v3 : Int32) (t0 : Int32) (f_this_now_day : Nat → Int32) (f_this_now_second : Nat → Int32) (i_this_told : Int32) (f_this_told_numbers : Nat → Int64) (ls : Array Slot) (H : Heap) (locs : List Loc), (fX9_shifts_j39 N i_this) v1 v2 v3 t0 f_this_now_day f_this_now_second i_this_told f_this_told_numbers = some (r, o_f_this_now_day, o_f_this_now_second, o_i_this_told, o_f_this_told_numbers) → lv_has ls 9 [(0, .ref h_this), (1, .int v1), (2, .int v2), (3, .int v3)] → va_P (dC, dI) vwCl [cl_X9 h_this h_this_now h_this_kept h_this_told h_this_text h_this_script h_this_momentReader h_this_spanReader h_this_adder h_this_other h_this_trial h_this_ways i_this, cl_X4 h_this_now h_this_now_day h_this_now_second h_this_now_months h_this_now_days h_this_now_seconds, (h_this_now_day, .inl (cI, 8, .inl f_this_now_day)), (h_this_now_second, .inl (cI, 8, .inl f_this_now_second)), cl_X3 h_this_told h_this_told_numbers i_this_told, (h_this_told_numbers, .inl (cJ, 8, .inr (.inl f_this_told_numbers)))] H → va_D A [cl_X9 h_this h_this_now h_this_kept h_this_told h_this_text h_this_script h_this_momentReader h_this_spanReader h_this_adder h_this_other h_this_trial h_this_ways i_this, cl_X4 h_this_now h_this_now_day h_this_now_second h_this_now_months h_this_now_days h_this_now_seconds, (h_this_now_day, .inl (cI, 8, .inl f_this_now_day)), (h_this_now_second, .inl (cI, 8, .inl f_this_now_second)), cl_X3 h_this_told h_this_told_numbers i_this_told, (h_this_told_numbers, .inl (cJ, 8, .inr (.inl f_this_told_numbers)))] → va_S A s.heap H locs → W p l e (kR 2 44) s m args below meth c H locs 0 0 Q (F0 m 39 ls [.int t0]) := by
    intro v1 v2 v3 t0 f_this_now_day f_this_now_second i_this_told f_this_told_numbers ls H locs h hl hP hD hS
    unfold fX9_shifts_j39 at h
    refine lv_istore (lv' := [(4, .int t0), (0, .ref h_this), (1, .int v1), (2, .int v2), (3, .int v3)]) hx hb dX9_shifts_39 hl (by decide) rfl (fun ls hl => ?_)
    refine lv_iload_n hx hb dX9_shifts_41 rfl (lv_at hl 3 rfl) ?_
    refine va_mabs (rest := []) hx hb (hml.trans hl.1.symm) hown (hts _ (kq q_456 rfl)) (hts _ (kq q_457 rfl)) (hts _ (kq q_27 rfl)) (hts _ (kq q_458 rfl)) (Nat.le_of_ble_eq_true rfl) (Nat.le_of_ble_eq_true rfl) (Nat.zero_le _) (Nat.zero_le _) dX9_shifts_42 ?_
    refine lv_topi (fun z22 ez22 => ?_)
    have h := nm_at ez22 h
    refine lv_istore (lv' := [(5, .int z22), (4, .int t0), (0, .ref h_this), (1, .int v1), (2, .int v2), (3, .int v3)]) hx hb dX9_shifts_45 hl (by decide) rfl (fun ls hl => ?_)
    refine lv_aload_n hx hb dX9_shifts_47 rfl (lv_at hl 2 rfl) ?_
    refine va_get (D := (dC, dI)) (ci := 8) (v := .ref h_this_now) (C := RX9) (T := TX9) (N := 12) hx hb hts inX9 hown hK hP 0 rfl rfl 0 (by decide) (hts _ (kq q_226 rfl)) (fun _ h9 => h9) rfl dX9_shifts_48 ?_
    refine lv_iload_n hx hb dX9_shifts_51 rfl (lv_at hl 3 rfl) ?_
    obtain ⟨r23, hc24, h⟩ := bd1_at h
    refine kjI (kV (own := "DateSpans") (C := "DateSpans$Slots") (b := h_this_now) (As := [.int v1]) (rest := []) ⟨hx, hb, hml, hown, hts⟩ (kX4_dayAt l dC dI cI cJ cB h_this_now h_this_now_day h_this_now_second h_this_now_months h_this_now_days h_this_now_seconds N v1 f_this_now_day r23 hc24 _) (kgV (kq q_275 rfl) (kq q_276 rfl) (kq q_277 rfl) (kq q_19 rfl) (kq q_278 rfl)) yd_X4_dayAt ⟨Nat.le_of_ble_eq_true rfl, Nat.le_of_ble_eq_true rfl⟩ hN hK hP hD [1, 2] rfl rfl (ci := 3) rfl rfl rfl rfl rfl hl.1 rfl (lv_room (Nat.le_of_ble_eq_true rfl)) dX9_shifts_52) hP hD hS hA [1, 2] rfl rfl (fun H locs hP hD hS => ?_)
    have hP : va_P (dC, dI) vwCl [cl_X9 h_this h_this_now h_this_kept h_this_told h_this_text h_this_script h_this_momentReader h_this_spanReader h_this_adder h_this_other h_this_trial h_this_ways i_this, cl_X4 h_this_now h_this_now_day h_this_now_second h_this_now_months h_this_now_days h_this_now_seconds, (h_this_now_day, .inl (cI, 8, .inl f_this_now_day)), (h_this_now_second, .inl (cI, 8, .inl f_this_now_second)), cl_X3 h_this_told h_this_told_numbers i_this_told, (h_this_told_numbers, .inl (cJ, 8, .inr (.inl f_this_told_numbers)))] H := hP
    have hD : va_D A [cl_X9 h_this h_this_now h_this_kept h_this_told h_this_text h_this_script h_this_momentReader h_this_spanReader h_this_adder h_this_other h_this_trial h_this_ways i_this, cl_X4 h_this_now h_this_now_day h_this_now_second h_this_now_months h_this_now_days h_this_now_seconds, (h_this_now_day, .inl (cI, 8, .inl f_this_now_day)), (h_this_now_second, .inl (cI, 8, .inl f_this_now_second)), cl_X3 h_this_told h_this_told_numbers i_this_told, (h_this_told_numbers, .inl (cJ, 8, .inr (.inl f_this_told_numbers)))] := hD
    refine lv_istore (lv' := [(6, .int r23), (5, .int z22), (4, .int t0), (0, .ref h_this), (1, .int v1), (2, .int v2), (3, .int v3)]) hx hb dX9_shifts_55 hl (by decide) rfl (fun ls hl => ?_)
    refine lv_iconst (v := (0 : Int32)) hx hb dX9_shifts_57 (by decide) ?_
    refine lv_istore (lv' := [(7, .int (0 : Int32)), (6, .int r23), (5, .int z22), (4, .int t0), (0, .ref h_this), (1, .int v1), (2, .int v2), (3, .int v3)]) hx hb dX9_shifts_58 hl (by decide) rfl (fun ls hl => ?_)
    refine lv_iconst (v := (0 : Int32)) hx hb dX9_shifts_60 (by decide) ?_
    refine lv_istore (lv' := [(8, .int (0 : Int32)), (7, .int (0 : Int32)), (6, .int r23), (5, .int z22), (4, .int t0), (0, .ref h_this), (1, .int v1), (2, .int v2), (3, .int v3)]) hx hb dX9_shifts_61 hl (by decide) rfl (fun ls hl => ?_)
    exact LP_63 N _ _ _ _ _ _ _ _ _ _ _ _ _ _ h (lv_sub hl [5, 6, 8, 4, 3, 2, 1, 0] rfl) hP hD hS
  have h := hf
  unfold fX9_shifts at h
  refine lv_iload_n hx hb dX9_shifts_0 rfl (lv_at hl 1 rfl) ?_
  obtain ⟨r25, hc26, h⟩ := bd1_at h
  refine kjSI (kS0 (own := "DateSpans") (As := [.int p1]) (rest := []) ⟨hx, hb, hml, hown, hts⟩ (kX9_isSlot l N p1 r25 hc26) (kgS (kq q_267 rfl) (kq q_268 rfl) (kq q_18 rfl) (kq q_269 rfl)) yd_X9_isSlot ⟨Nat.le_of_ble_eq_true rfl, Nat.le_of_ble_eq_true rfl⟩ rfl rfl hl.1 rfl (lv_room (Nat.le_of_ble_eq_true rfl)) dX9_shifts_1) ?_
  refine lv_if_eq (tgt := 28) hx hb dX9_shifts_4 (by decide) (fun c27 => ?_) (fun c27 => ?_)
  · have h := ite_t c27 h
    refine lv_iconst (v := (-1 : Int32)) hx hb dX9_shifts_28 (by decide) ?_
    obtain ⟨rfl, rfl, rfl, rfl, rfl⟩ := pj5 h
    exact hEnd _ _ _ _ hP hS dX9_shifts_29 rfl
  have h := ite_f c27 h
  refine lv_iload_n hx hb dX9_shifts_7 rfl (lv_at hl 2 rfl) ?_
  refine lv_sipush (v := (-10000 : Int32)) hx hb dX9_shifts_8 (by decide) ?_
  refine lv_icmp_lt (tgt := 28) hx hb dX9_shifts_11 (by decide) (fun c28 => ?_) (fun c28 => ?_)
  · have h := ite_t c28 h
    refine lv_iconst (v := (-1 : Int32)) hx hb dX9_shifts_28 (by decide) ?_
    obtain ⟨rfl, rfl, rfl, rfl, rfl⟩ := pj5 h
    exact hEnd _ _ _ _ hP hS dX9_shifts_29 rfl
  have h := ite_f c28 h
  refine lv_iload_n hx hb dX9_shifts_14 rfl (lv_at hl 2 rfl) ?_
  refine lv_sipush (v := (10000 : Int32)) hx hb dX9_shifts_15 (by decide) ?_
  refine lv_icmp_gt (tgt := 28) hx hb dX9_shifts_18 (by decide) (fun c29 => ?_) (fun c29 => ?_)
  · have h := ite_t c29 h
    refine lv_iconst (v := (-1 : Int32)) hx hb dX9_shifts_28 (by decide) ?_
    obtain ⟨rfl, rfl, rfl, rfl, rfl⟩ := pj5 h
    exact hEnd _ _ _ _ hP hS dX9_shifts_29 rfl
  have h := ite_f c29 h
  refine lv_iload_n hx hb dX9_shifts_21 rfl (lv_at hl 3 rfl) ?_
  obtain ⟨r30, hc31, h⟩ := bd1_at h
  refine kjSI (kS0 (own := "DateSpans") (As := [.int p3]) (rest := []) ⟨hx, hb, hml, hown, hts⟩ (kX9_isSlot l N p3 r30 hc31) (kgS (kq q_267 rfl) (kq q_268 rfl) (kq q_18 rfl) (kq q_269 rfl)) yd_X9_isSlot ⟨Nat.le_of_ble_eq_true rfl, Nat.le_of_ble_eq_true rfl⟩ rfl rfl hl.1 rfl (lv_room (Nat.le_of_ble_eq_true rfl)) dX9_shifts_22) ?_
  refine lv_if_ne (tgt := 30) hx hb dX9_shifts_25 (by decide) (fun c32 => ?_) (fun c32 => ?_)
  · have h := ite_f c32 h
    refine lv_iload_n hx hb dX9_shifts_30 rfl (lv_at hl 2 rfl) ?_
    refine lv_if_ge (tgt := 38) hx hb dX9_shifts_31 (by decide) (fun c33 => ?_) (fun c33 => ?_)
    · have h := ite_t c33 h
      refine lv_iconst (v := (1 : Int32)) hx hb dX9_shifts_38 (by decide) ?_
      exact JN_39 _ _ _ _ _ _ _ _ _ _ _ h (lv_sub hl [0, 1, 2, 3] rfl) hP hD hS
    have h := ite_f c33 h
    refine lv_iconst (v := (-1 : Int32)) hx hb dX9_shifts_34 (by decide) ?_
    refine lv_goto (tgt := 39) hx hb dX9_shifts_35 (by decide) ?_
    exact JN_39 _ _ _ _ _ _ _ _ _ _ _ h (lv_sub hl [0, 1, 2, 3] rfl) hP hD hS
  have h := ite_t c32 h
  refine lv_iconst (v := (-1 : Int32)) hx hb dX9_shifts_28 (by decide) ?_
  obtain ⟨rfl, rfl, rfl, rfl, rfl⟩ := pj5 h
  exact hEnd _ _ _ _ hP hS dX9_shifts_29 rfl
noncomputable def fX9_overlaps (N : Nat) (p1 : Int32) (p2 : Int32) (p3 : Int32) (p4 : Int32) (i_this : Int32) (f_this_now_day : Nat → Int32) (f_this_now_second : Nat → Int32) (i_this_told : Int32) (f_this_told_numbers : Nat → Int64) : Option (Int64 × Int32 × (Nat → Int64)) := (bd1 (fX9_isSlot N p1) fun r1 => (if r1 = (0 : Int32) then (some ((-1 : Int64), i_this_told, f_this_told_numbers)) else (bd1 (fX9_isSlot N p2) fun r4 => (if r4 = (0 : Int32) then (some ((-1 : Int64), i_this_told, f_this_told_numbers)) else (bd1 (fX9_isSlot N p3) fun r7 => (if r7 = (0 : Int32) then (some ((-1 : Int64), i_this_told, f_this_told_numbers)) else (bd1 (fX9_isSlot N p4) fun r10 => (if r10 = (0 : Int32) then (some ((-1 : Int64), i_this_told, f_this_told_numbers)) else (bd1 (fX4_instantAt N p1 f_this_now_day f_this_now_second) fun r13 => (bd1 (fX4_instantAt N p2 f_this_now_day f_this_now_second) fun r15 => (nm (if r15 < r13 then r15 else r13) fun z17 => (bd1 (fX4_instantAt N p3 f_this_now_day f_this_now_second) fun r18 => (bd1 (fX4_instantAt N p4 f_this_now_day f_this_now_second) fun r20 => (nm (if r20 < r18 then r20 else r18) fun z22 => (nm (if z22 < z17 then z17 else z22) fun z23 => (bd1 (fX4_instantAt N p1 f_this_now_day f_this_now_second) fun r24 => (bd1 (fX4_instantAt N p2 f_this_now_day f_this_now_second) fun r26 => (nm (if r26 < r24 then r24 else r26) fun z28 => (bd1 (fX4_instantAt N p3 f_this_now_day f_this_now_second) fun r29 => (bd1 (fX4_instantAt N p4 f_this_now_day f_this_now_second) fun r31 => (nm (if r31 < r29 then r29 else r31) fun z33 => (nm (if z33 < z28 then z33 else z28) fun z34 => (nm (if (0 : Int64) < (z23 - z34) then (z23 - z34) else (0 : Int64)) fun z35 => (bd2 (fX3_tell_ N z23 z35 i_this_told f_this_told_numbers) fun i_this_told_36 f_this_told_numbers_37 => (nm (if (0 : Int64) < (z34 - z23) then (z34 - z23) else (0 : Int64)) fun z39 => (some (z39, i_this_told_36, f_this_told_numbers_37)))))))))))))))))))))))))))
set_option maxHeartbeats 4000000 in
set_option maxRecDepth 100000 in
theorem kX9_overlaps (l : Launch) (dC : Nat → ClassId) (dI : Nat → Nat → Nat) (cI cJ cB : ClassId) (h_this h_this_now h_this_kept h_this_told h_this_text h_this_script h_this_momentReader h_this_spanReader h_this_adder h_this_other h_this_trial h_this_ways h_this_now_day h_this_now_second h_this_now_months h_this_now_days h_this_now_seconds h_this_told_numbers : Nat) (N : Nat) (p1 : Int32) (p2 : Int32) (p3 : Int32) (p4 : Int32) (i_this : Int32) (f_this_now_day : Nat → Int32) (f_this_now_second : Nat → Int32) (i_this_told : Int32) (f_this_told_numbers : Nat → Int64) (r : Int64) (o_i_this_told : Int32) (o_f_this_told_numbers : Nat → Int64) (hf : fX9_overlaps N p1 p2 p3 p4 i_this f_this_now_day f_this_now_second i_this_told f_this_told_numbers = some (r, o_i_this_told, o_f_this_told_numbers)) : ML l yX9_overlaps (kws yX9_overlaps cX9_overlaps 9 (some .long)) (kR 3 68) (dC, dI) (kT cI cJ cB) [.ref h_this, .int p1, .int p2, .int p3, .int p4] [cl_X9 h_this h_this_now h_this_kept h_this_told h_this_text h_this_script h_this_momentReader h_this_spanReader h_this_adder h_this_other h_this_trial h_this_ways i_this, cl_X4 h_this_now h_this_now_day h_this_now_second h_this_now_months h_this_now_days h_this_now_seconds, (h_this_now_day, .inl (cI, 8, .inl f_this_now_day)), (h_this_now_second, .inl (cI, 8, .inl f_this_now_second)), cl_X3 h_this_told h_this_told_numbers i_this_told, (h_this_told_numbers, .inl (cJ, 8, .inr (.inl f_this_told_numbers)))] [cl_X9 h_this h_this_now h_this_kept h_this_told h_this_text h_this_script h_this_momentReader h_this_spanReader h_this_adder h_this_other h_this_trial h_this_ways i_this, cl_X4 h_this_now h_this_now_day h_this_now_second h_this_now_months h_this_now_days h_this_now_seconds, (h_this_now_day, .inl (cI, 8, .inl f_this_now_day)), (h_this_now_second, .inl (cI, 8, .inl f_this_now_second)), cl_X3 h_this_told h_this_told_numbers o_i_this_told, (h_this_told_numbers, .inl (cJ, 8, .inr (.inl o_f_this_told_numbers)))] r := by
  refine ML.of (cc := cX9_overlaps) (maxL := 9) (by decide) (Nat.le_of_ble_eq_true rfl) (fun p e s m args below meth c A Q ls KC hN hK hP hD hA hl hEnd => ?_)
  obtain ⟨hx, hb, hml, hown, hts⟩ := KC
  have hown : s.vm.findClass "DateSpans" = some m.cls := hown
  have hl : lv_has ls 9 [(0, .ref h_this), (1, .int p1), (2, .int p2), (3, .int p3), (4, .int p4)] := hl
  have hS : va_S A s.heap s.heap [] := va_S.rf
  have h := hf
  unfold fX9_overlaps at h
  refine lv_iload_n hx hb dX9_overlaps_0 rfl (lv_at hl 1 rfl) ?_
  obtain ⟨r1, hc2, h⟩ := bd1_at h
  refine kjSI (kS0 (own := "DateSpans") (As := [.int p1]) (rest := []) ⟨hx, hb, hml, hown, hts⟩ (kX9_isSlot l N p1 r1 hc2) (kgS (kq q_267 rfl) (kq q_268 rfl) (kq q_18 rfl) (kq q_269 rfl)) yd_X9_isSlot ⟨Nat.le_of_ble_eq_true rfl, Nat.le_of_ble_eq_true rfl⟩ rfl rfl hl.1 rfl (lv_room (Nat.le_of_ble_eq_true rfl)) dX9_overlaps_1) ?_
  refine lv_if_eq (tgt := 29) hx hb dX9_overlaps_4 (by decide) (fun c3 => ?_) (fun c3 => ?_)
  · have h := ite_t c3 h
    refine lv_ldc2 (v := (-1 : Int64)) hx hb hown (hts _ (kq q_491 rfl)) dX9_overlaps_29 ?_
    obtain ⟨rfl, rfl, rfl⟩ := pj3 h
    exact hEnd _ _ _ _ hP hS dX9_overlaps_32
  have h := ite_f c3 h
  refine lv_iload_n hx hb dX9_overlaps_7 rfl (lv_at hl 2 rfl) ?_
  obtain ⟨r4, hc5, h⟩ := bd1_at h
  refine kjSI (kS0 (own := "DateSpans") (As := [.int p2]) (rest := []) ⟨hx, hb, hml, hown, hts⟩ (kX9_isSlot l N p2 r4 hc5) (kgS (kq q_267 rfl) (kq q_268 rfl) (kq q_18 rfl) (kq q_269 rfl)) yd_X9_isSlot ⟨Nat.le_of_ble_eq_true rfl, Nat.le_of_ble_eq_true rfl⟩ rfl rfl hl.1 rfl (lv_room (Nat.le_of_ble_eq_true rfl)) dX9_overlaps_8) ?_
  refine lv_if_eq (tgt := 29) hx hb dX9_overlaps_11 (by decide) (fun c6 => ?_) (fun c6 => ?_)
  · have h := ite_t c6 h
    refine lv_ldc2 (v := (-1 : Int64)) hx hb hown (hts _ (kq q_491 rfl)) dX9_overlaps_29 ?_
    obtain ⟨rfl, rfl, rfl⟩ := pj3 h
    exact hEnd _ _ _ _ hP hS dX9_overlaps_32
  have h := ite_f c6 h
  refine lv_iload_n hx hb dX9_overlaps_14 rfl (lv_at hl 3 rfl) ?_
  obtain ⟨r7, hc8, h⟩ := bd1_at h
  refine kjSI (kS0 (own := "DateSpans") (As := [.int p3]) (rest := []) ⟨hx, hb, hml, hown, hts⟩ (kX9_isSlot l N p3 r7 hc8) (kgS (kq q_267 rfl) (kq q_268 rfl) (kq q_18 rfl) (kq q_269 rfl)) yd_X9_isSlot ⟨Nat.le_of_ble_eq_true rfl, Nat.le_of_ble_eq_true rfl⟩ rfl rfl hl.1 rfl (lv_room (Nat.le_of_ble_eq_true rfl)) dX9_overlaps_15) ?_
  refine lv_if_eq (tgt := 29) hx hb dX9_overlaps_18 (by decide) (fun c9 => ?_) (fun c9 => ?_)
  · have h := ite_t c9 h
    refine lv_ldc2 (v := (-1 : Int64)) hx hb hown (hts _ (kq q_491 rfl)) dX9_overlaps_29 ?_
    obtain ⟨rfl, rfl, rfl⟩ := pj3 h
    exact hEnd _ _ _ _ hP hS dX9_overlaps_32
  have h := ite_f c9 h
  refine lv_iload hx hb dX9_overlaps_21 (lv_at hl 4 rfl) ?_
  obtain ⟨r10, hc11, h⟩ := bd1_at h
  refine kjSI (kS0 (own := "DateSpans") (As := [.int p4]) (rest := []) ⟨hx, hb, hml, hown, hts⟩ (kX9_isSlot l N p4 r10 hc11) (kgS (kq q_267 rfl) (kq q_268 rfl) (kq q_18 rfl) (kq q_269 rfl)) yd_X9_isSlot ⟨Nat.le_of_ble_eq_true rfl, Nat.le_of_ble_eq_true rfl⟩ rfl rfl hl.1 rfl (lv_room (Nat.le_of_ble_eq_true rfl)) dX9_overlaps_23) ?_
  refine lv_if_ne (tgt := 33) hx hb dX9_overlaps_26 (by decide) (fun c12 => ?_) (fun c12 => ?_)
  · have h := ite_f c12 h
    refine lv_aload_n hx hb dX9_overlaps_33 rfl (lv_at hl 0 rfl) ?_
    refine va_get (D := (dC, dI)) (ci := 8) (v := .ref h_this_now) (C := RX9) (T := TX9) (N := 12) hx hb hts inX9 hown hK hP 0 rfl rfl 0 (by decide) (hts _ (kq q_226 rfl)) (fun _ h9 => h9) rfl dX9_overlaps_34 ?_
    refine lv_iload_n hx hb dX9_overlaps_37 rfl (lv_at hl 1 rfl) ?_
    obtain ⟨r13, hc14, h⟩ := bd1_at h
    refine kjL (kV (own := "DateSpans") (C := "DateSpans$Slots") (b := h_this_now) (As := [.int p1]) (rest := []) ⟨hx, hb, hml, hown, hts⟩ (kX4_instantAt l dC dI cI cJ cB h_this_now h_this_now_day h_this_now_second h_this_now_months h_this_now_days h_this_now_seconds N p1 f_this_now_day f_this_now_second r13 hc14 _) (kgV (kq q_443 rfl) (kq q_444 rfl) (kq q_445 rfl) (kq q_19 rfl) (kq q_446 rfl)) yd_X4_instantAt ⟨Nat.le_of_ble_eq_true rfl, Nat.le_of_ble_eq_true rfl⟩ hN hK hP hD [1, 2, 3] rfl rfl (ci := 3) rfl rfl rfl rfl rfl hl.1 rfl (lv_room (Nat.le_of_ble_eq_true rfl)) dX9_overlaps_38) hP hD hS hA [1, 2, 3] rfl rfl (fun H locs hP hD hS => ?_)
    have hP : va_P (dC, dI) vwCl [cl_X9 h_this h_this_now h_this_kept h_this_told h_this_text h_this_script h_this_momentReader h_this_spanReader h_this_adder h_this_other h_this_trial h_this_ways i_this, cl_X4 h_this_now h_this_now_day h_this_now_second h_this_now_months h_this_now_days h_this_now_seconds, (h_this_now_day, .inl (cI, 8, .inl f_this_now_day)), (h_this_now_second, .inl (cI, 8, .inl f_this_now_second)), cl_X3 h_this_told h_this_told_numbers i_this_told, (h_this_told_numbers, .inl (cJ, 8, .inr (.inl f_this_told_numbers)))] H := hP
    have hD : va_D A [cl_X9 h_this h_this_now h_this_kept h_this_told h_this_text h_this_script h_this_momentReader h_this_spanReader h_this_adder h_this_other h_this_trial h_this_ways i_this, cl_X4 h_this_now h_this_now_day h_this_now_second h_this_now_months h_this_now_days h_this_now_seconds, (h_this_now_day, .inl (cI, 8, .inl f_this_now_day)), (h_this_now_second, .inl (cI, 8, .inl f_this_now_second)), cl_X3 h_this_told h_this_told_numbers i_this_told, (h_this_told_numbers, .inl (cJ, 8, .inr (.inl f_this_told_numbers)))] := hD
    refine lv_aload_n hx hb dX9_overlaps_41 rfl (lv_at hl 0 rfl) ?_
    refine va_get (D := (dC, dI)) (ci := 8) (v := .ref h_this_now) (C := RX9) (T := TX9) (N := 12) hx hb hts inX9 hown hK hP 0 rfl rfl 0 (by decide) (hts _ (kq q_226 rfl)) (fun _ h9 => h9) rfl dX9_overlaps_42 ?_
    refine lv_iload_n hx hb dX9_overlaps_45 rfl (lv_at hl 2 rfl) ?_
    obtain ⟨r15, hc16, h⟩ := bd1_at h
    refine kjL (kV (own := "DateSpans") (C := "DateSpans$Slots") (b := h_this_now) (As := [.int p2]) (rest := [.long r13]) ⟨hx, hb, hml, hown, hts⟩ (kX4_instantAt l dC dI cI cJ cB h_this_now h_this_now_day h_this_now_second h_this_now_months h_this_now_days h_this_now_seconds N p2 f_this_now_day f_this_now_second r15 hc16 _) (kgV (kq q_443 rfl) (kq q_444 rfl) (kq q_445 rfl) (kq q_19 rfl) (kq q_446 rfl)) yd_X4_instantAt ⟨Nat.le_of_ble_eq_true rfl, Nat.le_of_ble_eq_true rfl⟩ hN hK hP hD [1, 2, 3] rfl rfl (ci := 3) rfl rfl rfl rfl rfl hl.1 rfl (lv_room (Nat.le_of_ble_eq_true rfl)) dX9_overlaps_46) hP hD hS hA [1, 2, 3] rfl rfl (fun H locs hP hD hS => ?_)
    have hP : va_P (dC, dI) vwCl [cl_X9 h_this h_this_now h_this_kept h_this_told h_this_text h_this_script h_this_momentReader h_this_spanReader h_this_adder h_this_other h_this_trial h_this_ways i_this, cl_X4 h_this_now h_this_now_day h_this_now_second h_this_now_months h_this_now_days h_this_now_seconds, (h_this_now_day, .inl (cI, 8, .inl f_this_now_day)), (h_this_now_second, .inl (cI, 8, .inl f_this_now_second)), cl_X3 h_this_told h_this_told_numbers i_this_told, (h_this_told_numbers, .inl (cJ, 8, .inr (.inl f_this_told_numbers)))] H := hP
    have hD : va_D A [cl_X9 h_this h_this_now h_this_kept h_this_told h_this_text h_this_script h_this_momentReader h_this_spanReader h_this_adder h_this_other h_this_trial h_this_ways i_this, cl_X4 h_this_now h_this_now_day h_this_now_second h_this_now_months h_this_now_days h_this_now_seconds, (h_this_now_day, .inl (cI, 8, .inl f_this_now_day)), (h_this_now_second, .inl (cI, 8, .inl f_this_now_second)), cl_X3 h_this_told h_this_told_numbers i_this_told, (h_this_told_numbers, .inl (cJ, 8, .inr (.inl f_this_told_numbers)))] := hD
    refine va_mmin_long (rest := []) hx hb (hml.trans hl.1.symm) hown (hts _ (kq q_533 rfl)) (hts _ (kq q_534 rfl)) (hts _ (kq q_27 rfl)) (hts _ (kq q_535 rfl)) (Nat.le_of_ble_eq_true rfl) (Nat.le_of_ble_eq_true rfl) (Nat.zero_le _) (Nat.zero_le _) dX9_overlaps_49 ?_
    refine lv_topl (fun z17 ez17 => ?_)
    have h := nm_at ez17 h
    refine lv_aload_n hx hb dX9_overlaps_52 rfl (lv_at hl 0 rfl) ?_
    refine va_get (D := (dC, dI)) (ci := 8) (v := .ref h_this_now) (C := RX9) (T := TX9) (N := 12) hx hb hts inX9 hown hK hP 0 rfl rfl 0 (by decide) (hts _ (kq q_226 rfl)) (fun _ h9 => h9) rfl dX9_overlaps_53 ?_
    refine lv_iload_n hx hb dX9_overlaps_56 rfl (lv_at hl 3 rfl) ?_
    obtain ⟨r18, hc19, h⟩ := bd1_at h
    refine kjL (kV (own := "DateSpans") (C := "DateSpans$Slots") (b := h_this_now) (As := [.int p3]) (rest := [.long z17]) ⟨hx, hb, hml, hown, hts⟩ (kX4_instantAt l dC dI cI cJ cB h_this_now h_this_now_day h_this_now_second h_this_now_months h_this_now_days h_this_now_seconds N p3 f_this_now_day f_this_now_second r18 hc19 _) (kgV (kq q_443 rfl) (kq q_444 rfl) (kq q_445 rfl) (kq q_19 rfl) (kq q_446 rfl)) yd_X4_instantAt ⟨Nat.le_of_ble_eq_true rfl, Nat.le_of_ble_eq_true rfl⟩ hN hK hP hD [1, 2, 3] rfl rfl (ci := 3) rfl rfl rfl rfl rfl hl.1 rfl (lv_room (Nat.le_of_ble_eq_true rfl)) dX9_overlaps_57) hP hD hS hA [1, 2, 3] rfl rfl (fun H locs hP hD hS => ?_)
    have hP : va_P (dC, dI) vwCl [cl_X9 h_this h_this_now h_this_kept h_this_told h_this_text h_this_script h_this_momentReader h_this_spanReader h_this_adder h_this_other h_this_trial h_this_ways i_this, cl_X4 h_this_now h_this_now_day h_this_now_second h_this_now_months h_this_now_days h_this_now_seconds, (h_this_now_day, .inl (cI, 8, .inl f_this_now_day)), (h_this_now_second, .inl (cI, 8, .inl f_this_now_second)), cl_X3 h_this_told h_this_told_numbers i_this_told, (h_this_told_numbers, .inl (cJ, 8, .inr (.inl f_this_told_numbers)))] H := hP
    have hD : va_D A [cl_X9 h_this h_this_now h_this_kept h_this_told h_this_text h_this_script h_this_momentReader h_this_spanReader h_this_adder h_this_other h_this_trial h_this_ways i_this, cl_X4 h_this_now h_this_now_day h_this_now_second h_this_now_months h_this_now_days h_this_now_seconds, (h_this_now_day, .inl (cI, 8, .inl f_this_now_day)), (h_this_now_second, .inl (cI, 8, .inl f_this_now_second)), cl_X3 h_this_told h_this_told_numbers i_this_told, (h_this_told_numbers, .inl (cJ, 8, .inr (.inl f_this_told_numbers)))] := hD
    refine lv_aload_n hx hb dX9_overlaps_60 rfl (lv_at hl 0 rfl) ?_
    refine va_get (D := (dC, dI)) (ci := 8) (v := .ref h_this_now) (C := RX9) (T := TX9) (N := 12) hx hb hts inX9 hown hK hP 0 rfl rfl 0 (by decide) (hts _ (kq q_226 rfl)) (fun _ h9 => h9) rfl dX9_overlaps_61 ?_
    refine lv_iload hx hb dX9_overlaps_64 (lv_at hl 4 rfl) ?_
    obtain ⟨r20, hc21, h⟩ := bd1_at h
    refine kjL (kV (own := "DateSpans") (C := "DateSpans$Slots") (b := h_this_now) (As := [.int p4]) (rest := [.long r18, .long z17]) ⟨hx, hb, hml, hown, hts⟩ (kX4_instantAt l dC dI cI cJ cB h_this_now h_this_now_day h_this_now_second h_this_now_months h_this_now_days h_this_now_seconds N p4 f_this_now_day f_this_now_second r20 hc21 _) (kgV (kq q_443 rfl) (kq q_444 rfl) (kq q_445 rfl) (kq q_19 rfl) (kq q_446 rfl)) yd_X4_instantAt ⟨Nat.le_of_ble_eq_true rfl, Nat.le_of_ble_eq_true rfl⟩ hN hK hP hD [1, 2, 3] rfl rfl (ci := 3) rfl rfl rfl rfl rfl hl.1 rfl (lv_room (Nat.le_of_ble_eq_true rfl)) dX9_overlaps_66) hP hD hS hA [1, 2, 3] rfl rfl (fun H locs hP hD hS => ?_)
    have hP : va_P (dC, dI) vwCl [cl_X9 h_this h_this_now h_this_kept h_this_told h_this_text h_this_script h_this_momentReader h_this_spanReader h_this_adder h_this_other h_this_trial h_this_ways i_this, cl_X4 h_this_now h_this_now_day h_this_now_second h_this_now_months h_this_now_days h_this_now_seconds, (h_this_now_day, .inl (cI, 8, .inl f_this_now_day)), (h_this_now_second, .inl (cI, 8, .inl f_this_now_second)), cl_X3 h_this_told h_this_told_numbers i_this_told, (h_this_told_numbers, .inl (cJ, 8, .inr (.inl f_this_told_numbers)))] H := hP
    have hD : va_D A [cl_X9 h_this h_this_now h_this_kept h_this_told h_this_text h_this_script h_this_momentReader h_this_spanReader h_this_adder h_this_other h_this_trial h_this_ways i_this, cl_X4 h_this_now h_this_now_day h_this_now_second h_this_now_months h_this_now_days h_this_now_seconds, (h_this_now_day, .inl (cI, 8, .inl f_this_now_day)), (h_this_now_second, .inl (cI, 8, .inl f_this_now_second)), cl_X3 h_this_told h_this_told_numbers i_this_told, (h_this_told_numbers, .inl (cJ, 8, .inr (.inl f_this_told_numbers)))] := hD
    refine va_mmin_long (rest := [.long z17]) hx hb (hml.trans hl.1.symm) hown (hts _ (kq q_533 rfl)) (hts _ (kq q_534 rfl)) (hts _ (kq q_27 rfl)) (hts _ (kq q_535 rfl)) (Nat.le_of_ble_eq_true rfl) (Nat.le_of_ble_eq_true rfl) (Nat.zero_le _) (Nat.zero_le _) dX9_overlaps_69 ?_
    refine lv_topl (fun z22 ez22 => ?_)
    have h := nm_at ez22 h
    refine va_mmax_long (rest := []) hx hb (hml.trans hl.1.symm) hown (hts _ (kq q_536 rfl)) (hts _ (kq q_537 rfl)) (hts _ (kq q_27 rfl)) (hts _ (kq q_538 rfl)) (Nat.le_of_ble_eq_true rfl) (Nat.le_of_ble_eq_true rfl) (Nat.zero_le _) (Nat.zero_le _) dX9_overlaps_72 ?_
    refine lv_topl (fun z23 ez23 => ?_)
    have h := nm_at ez23 h
    refine lv_lstore (lv' := [(5, .long z23), (0, .ref h_this), (1, .int p1), (2, .int p2), (3, .int p3), (4, .int p4)]) hx hb dX9_overlaps_75 hl (by decide) rfl (fun ls hl => ?_)
    refine lv_aload_n hx hb dX9_overlaps_77 rfl (lv_at hl 1 rfl) ?_
    refine va_get (D := (dC, dI)) (ci := 8) (v := .ref h_this_now) (C := RX9) (T := TX9) (N := 12) hx hb hts inX9 hown hK hP 0 rfl rfl 0 (by decide) (hts _ (kq q_226 rfl)) (fun _ h9 => h9) rfl dX9_overlaps_78 ?_
    refine lv_iload_n hx hb dX9_overlaps_81 rfl (lv_at hl 2 rfl) ?_
    obtain ⟨r24, hc25, h⟩ := bd1_at h
    refine kjL (kV (own := "DateSpans") (C := "DateSpans$Slots") (b := h_this_now) (As := [.int p1]) (rest := []) ⟨hx, hb, hml, hown, hts⟩ (kX4_instantAt l dC dI cI cJ cB h_this_now h_this_now_day h_this_now_second h_this_now_months h_this_now_days h_this_now_seconds N p1 f_this_now_day f_this_now_second r24 hc25 _) (kgV (kq q_443 rfl) (kq q_444 rfl) (kq q_445 rfl) (kq q_19 rfl) (kq q_446 rfl)) yd_X4_instantAt ⟨Nat.le_of_ble_eq_true rfl, Nat.le_of_ble_eq_true rfl⟩ hN hK hP hD [1, 2, 3] rfl rfl (ci := 3) rfl rfl rfl rfl rfl hl.1 rfl (lv_room (Nat.le_of_ble_eq_true rfl)) dX9_overlaps_82) hP hD hS hA [1, 2, 3] rfl rfl (fun H locs hP hD hS => ?_)
    have hP : va_P (dC, dI) vwCl [cl_X9 h_this h_this_now h_this_kept h_this_told h_this_text h_this_script h_this_momentReader h_this_spanReader h_this_adder h_this_other h_this_trial h_this_ways i_this, cl_X4 h_this_now h_this_now_day h_this_now_second h_this_now_months h_this_now_days h_this_now_seconds, (h_this_now_day, .inl (cI, 8, .inl f_this_now_day)), (h_this_now_second, .inl (cI, 8, .inl f_this_now_second)), cl_X3 h_this_told h_this_told_numbers i_this_told, (h_this_told_numbers, .inl (cJ, 8, .inr (.inl f_this_told_numbers)))] H := hP
    have hD : va_D A [cl_X9 h_this h_this_now h_this_kept h_this_told h_this_text h_this_script h_this_momentReader h_this_spanReader h_this_adder h_this_other h_this_trial h_this_ways i_this, cl_X4 h_this_now h_this_now_day h_this_now_second h_this_now_months h_this_now_days h_this_now_seconds, (h_this_now_day, .inl (cI, 8, .inl f_this_now_day)), (h_this_now_second, .inl (cI, 8, .inl f_this_now_second)), cl_X3 h_this_told h_this_told_numbers i_this_told, (h_this_told_numbers, .inl (cJ, 8, .inr (.inl f_this_told_numbers)))] := hD
    refine lv_aload_n hx hb dX9_overlaps_85 rfl (lv_at hl 1 rfl) ?_
    refine va_get (D := (dC, dI)) (ci := 8) (v := .ref h_this_now) (C := RX9) (T := TX9) (N := 12) hx hb hts inX9 hown hK hP 0 rfl rfl 0 (by decide) (hts _ (kq q_226 rfl)) (fun _ h9 => h9) rfl dX9_overlaps_86 ?_
    refine lv_iload_n hx hb dX9_overlaps_89 rfl (lv_at hl 3 rfl) ?_
    obtain ⟨r26, hc27, h⟩ := bd1_at h
    refine kjL (kV (own := "DateSpans") (C := "DateSpans$Slots") (b := h_this_now) (As := [.int p2]) (rest := [.long r24]) ⟨hx, hb, hml, hown, hts⟩ (kX4_instantAt l dC dI cI cJ cB h_this_now h_this_now_day h_this_now_second h_this_now_months h_this_now_days h_this_now_seconds N p2 f_this_now_day f_this_now_second r26 hc27 _) (kgV (kq q_443 rfl) (kq q_444 rfl) (kq q_445 rfl) (kq q_19 rfl) (kq q_446 rfl)) yd_X4_instantAt ⟨Nat.le_of_ble_eq_true rfl, Nat.le_of_ble_eq_true rfl⟩ hN hK hP hD [1, 2, 3] rfl rfl (ci := 3) rfl rfl rfl rfl rfl hl.1 rfl (lv_room (Nat.le_of_ble_eq_true rfl)) dX9_overlaps_90) hP hD hS hA [1, 2, 3] rfl rfl (fun H locs hP hD hS => ?_)
    have hP : va_P (dC, dI) vwCl [cl_X9 h_this h_this_now h_this_kept h_this_told h_this_text h_this_script h_this_momentReader h_this_spanReader h_this_adder h_this_other h_this_trial h_this_ways i_this, cl_X4 h_this_now h_this_now_day h_this_now_second h_this_now_months h_this_now_days h_this_now_seconds, (h_this_now_day, .inl (cI, 8, .inl f_this_now_day)), (h_this_now_second, .inl (cI, 8, .inl f_this_now_second)), cl_X3 h_this_told h_this_told_numbers i_this_told, (h_this_told_numbers, .inl (cJ, 8, .inr (.inl f_this_told_numbers)))] H := hP
    have hD : va_D A [cl_X9 h_this h_this_now h_this_kept h_this_told h_this_text h_this_script h_this_momentReader h_this_spanReader h_this_adder h_this_other h_this_trial h_this_ways i_this, cl_X4 h_this_now h_this_now_day h_this_now_second h_this_now_months h_this_now_days h_this_now_seconds, (h_this_now_day, .inl (cI, 8, .inl f_this_now_day)), (h_this_now_second, .inl (cI, 8, .inl f_this_now_second)), cl_X3 h_this_told h_this_told_numbers i_this_told, (h_this_told_numbers, .inl (cJ, 8, .inr (.inl f_this_told_numbers)))] := hD
    refine va_mmax_long (rest := []) hx hb (hml.trans hl.1.symm) hown (hts _ (kq q_536 rfl)) (hts _ (kq q_537 rfl)) (hts _ (kq q_27 rfl)) (hts _ (kq q_538 rfl)) (Nat.le_of_ble_eq_true rfl) (Nat.le_of_ble_eq_true rfl) (Nat.zero_le _) (Nat.zero_le _) dX9_overlaps_93 ?_
    refine lv_topl (fun z28 ez28 => ?_)
    have h := nm_at ez28 h
    refine lv_aload_n hx hb dX9_overlaps_96 rfl (lv_at hl 1 rfl) ?_
    refine va_get (D := (dC, dI)) (ci := 8) (v := .ref h_this_now) (C := RX9) (T := TX9) (N := 12) hx hb hts inX9 hown hK hP 0 rfl rfl 0 (by decide) (hts _ (kq q_226 rfl)) (fun _ h9 => h9) rfl dX9_overlaps_97 ?_
    refine lv_iload_n hx hb dX9_overlaps_100 rfl (lv_at hl 4 rfl) ?_
    obtain ⟨r29, hc30, h⟩ := bd1_at h
    refine kjL (kV (own := "DateSpans") (C := "DateSpans$Slots") (b := h_this_now) (As := [.int p3]) (rest := [.long z28]) ⟨hx, hb, hml, hown, hts⟩ (kX4_instantAt l dC dI cI cJ cB h_this_now h_this_now_day h_this_now_second h_this_now_months h_this_now_days h_this_now_seconds N p3 f_this_now_day f_this_now_second r29 hc30 _) (kgV (kq q_443 rfl) (kq q_444 rfl) (kq q_445 rfl) (kq q_19 rfl) (kq q_446 rfl)) yd_X4_instantAt ⟨Nat.le_of_ble_eq_true rfl, Nat.le_of_ble_eq_true rfl⟩ hN hK hP hD [1, 2, 3] rfl rfl (ci := 3) rfl rfl rfl rfl rfl hl.1 rfl (lv_room (Nat.le_of_ble_eq_true rfl)) dX9_overlaps_101) hP hD hS hA [1, 2, 3] rfl rfl (fun H locs hP hD hS => ?_)
    have hP : va_P (dC, dI) vwCl [cl_X9 h_this h_this_now h_this_kept h_this_told h_this_text h_this_script h_this_momentReader h_this_spanReader h_this_adder h_this_other h_this_trial h_this_ways i_this, cl_X4 h_this_now h_this_now_day h_this_now_second h_this_now_months h_this_now_days h_this_now_seconds, (h_this_now_day, .inl (cI, 8, .inl f_this_now_day)), (h_this_now_second, .inl (cI, 8, .inl f_this_now_second)), cl_X3 h_this_told h_this_told_numbers i_this_told, (h_this_told_numbers, .inl (cJ, 8, .inr (.inl f_this_told_numbers)))] H := hP
    have hD : va_D A [cl_X9 h_this h_this_now h_this_kept h_this_told h_this_text h_this_script h_this_momentReader h_this_spanReader h_this_adder h_this_other h_this_trial h_this_ways i_this, cl_X4 h_this_now h_this_now_day h_this_now_second h_this_now_months h_this_now_days h_this_now_seconds, (h_this_now_day, .inl (cI, 8, .inl f_this_now_day)), (h_this_now_second, .inl (cI, 8, .inl f_this_now_second)), cl_X3 h_this_told h_this_told_numbers i_this_told, (h_this_told_numbers, .inl (cJ, 8, .inr (.inl f_this_told_numbers)))] := hD
    refine lv_aload_n hx hb dX9_overlaps_104 rfl (lv_at hl 1 rfl) ?_
    refine va_get (D := (dC, dI)) (ci := 8) (v := .ref h_this_now) (C := RX9) (T := TX9) (N := 12) hx hb hts inX9 hown hK hP 0 rfl rfl 0 (by decide) (hts _ (kq q_226 rfl)) (fun _ h9 => h9) rfl dX9_overlaps_105 ?_
    refine lv_iload hx hb dX9_overlaps_108 (lv_at hl 5 rfl) ?_
    obtain ⟨r31, hc32, h⟩ := bd1_at h
    refine kjL (kV (own := "DateSpans") (C := "DateSpans$Slots") (b := h_this_now) (As := [.int p4]) (rest := [.long r29, .long z28]) ⟨hx, hb, hml, hown, hts⟩ (kX4_instantAt l dC dI cI cJ cB h_this_now h_this_now_day h_this_now_second h_this_now_months h_this_now_days h_this_now_seconds N p4 f_this_now_day f_this_now_second r31 hc32 _) (kgV (kq q_443 rfl) (kq q_444 rfl) (kq q_445 rfl) (kq q_19 rfl) (kq q_446 rfl)) yd_X4_instantAt ⟨Nat.le_of_ble_eq_true rfl, Nat.le_of_ble_eq_true rfl⟩ hN hK hP hD [1, 2, 3] rfl rfl (ci := 3) rfl rfl rfl rfl rfl hl.1 rfl (lv_room (Nat.le_of_ble_eq_true rfl)) dX9_overlaps_110) hP hD hS hA [1, 2, 3] rfl rfl (fun H locs hP hD hS => ?_)
    have hP : va_P (dC, dI) vwCl [cl_X9 h_this h_this_now h_this_kept h_this_told h_this_text h_this_script h_this_momentReader h_this_spanReader h_this_adder h_this_other h_this_trial h_this_ways i_this, cl_X4 h_this_now h_this_now_day h_this_now_second h_this_now_months h_this_now_days h_this_now_seconds, (h_this_now_day, .inl (cI, 8, .inl f_this_now_day)), (h_this_now_second, .inl (cI, 8, .inl f_this_now_second)), cl_X3 h_this_told h_this_told_numbers i_this_told, (h_this_told_numbers, .inl (cJ, 8, .inr (.inl f_this_told_numbers)))] H := hP
    have hD : va_D A [cl_X9 h_this h_this_now h_this_kept h_this_told h_this_text h_this_script h_this_momentReader h_this_spanReader h_this_adder h_this_other h_this_trial h_this_ways i_this, cl_X4 h_this_now h_this_now_day h_this_now_second h_this_now_months h_this_now_days h_this_now_seconds, (h_this_now_day, .inl (cI, 8, .inl f_this_now_day)), (h_this_now_second, .inl (cI, 8, .inl f_this_now_second)), cl_X3 h_this_told h_this_told_numbers i_this_told, (h_this_told_numbers, .inl (cJ, 8, .inr (.inl f_this_told_numbers)))] := hD
    refine va_mmax_long (rest := [.long z28]) hx hb (hml.trans hl.1.symm) hown (hts _ (kq q_536 rfl)) (hts _ (kq q_537 rfl)) (hts _ (kq q_27 rfl)) (hts _ (kq q_538 rfl)) (Nat.le_of_ble_eq_true rfl) (Nat.le_of_ble_eq_true rfl) (Nat.zero_le _) (Nat.zero_le _) dX9_overlaps_113 ?_
    refine lv_topl (fun z33 ez33 => ?_)
    have h := nm_at ez33 h
    refine va_mmin_long (rest := []) hx hb (hml.trans hl.1.symm) hown (hts _ (kq q_533 rfl)) (hts _ (kq q_534 rfl)) (hts _ (kq q_27 rfl)) (hts _ (kq q_535 rfl)) (Nat.le_of_ble_eq_true rfl) (Nat.le_of_ble_eq_true rfl) (Nat.zero_le _) (Nat.zero_le _) dX9_overlaps_116 ?_
    refine lv_topl (fun z34 ez34 => ?_)
    have h := nm_at ez34 h
    refine lv_lstore (lv' := [(7, .long z34), (5, .long z23), (0, .ref h_this), (1, .int p1), (2, .int p2), (3, .int p3), (4, .int p4)]) hx hb dX9_overlaps_119 hl (by decide) rfl (fun ls hl => ?_)
    refine lv_aload_n hx hb dX9_overlaps_121 rfl (lv_at hl 2 rfl) ?_
    refine va_get (D := (dC, dI)) (ci := 8) (v := .ref h_this_told) (C := RX9) (T := TX9) (N := 12) hx hb hts inX9 hown hK hP 0 rfl rfl 3 (by decide) (hts _ (kq q_229 rfl)) (fun _ h9 => h9) rfl dX9_overlaps_122 ?_
    refine lv_lload hx hb dX9_overlaps_125 (lv_at hl 1 rfl) ?_
    refine lv_lload hx hb dX9_overlaps_127 (lv_at hl 1 rfl) ?_
    refine lv_lload hx hb dX9_overlaps_129 (lv_at hl 0 rfl) ?_
    refine lv_lsub hx hb dX9_overlaps_131 ?_
    refine lv_lconst (v := (0 : Int64)) hx hb dX9_overlaps_132 (by decide) ?_
    refine va_mmax_long (rest := [.long z23, .ref h_this_told]) hx hb (hml.trans hl.1.symm) hown (hts _ (kq q_536 rfl)) (hts _ (kq q_537 rfl)) (hts _ (kq q_27 rfl)) (hts _ (kq q_538 rfl)) (Nat.le_of_ble_eq_true rfl) (Nat.le_of_ble_eq_true rfl) (Nat.zero_le _) (Nat.zero_le _) dX9_overlaps_133 ?_
    refine lv_topl (fun z35 ez35 => ?_)
    have h := nm_at ez35 h
    obtain ⟨i_this_told_36, f_this_told_numbers_37, hc38, h⟩ := bd2_at h
    refine kjV (kV (own := "DateSpans") (C := "DateSpans$Row") (b := h_this_told) (As := [.long z23, .long z35]) (rest := []) ⟨hx, hb, hml, hown, hts⟩ (kX3_tell_ l dC dI cI cJ cB h_this_told h_this_told_numbers N z23 z35 i_this_told f_this_told_numbers i_this_told_36 f_this_told_numbers_37 hc38 _) (kgV (kq q_418 rfl) (kq q_419 rfl) (kq q_420 rfl) (kq q_20 rfl) (kq q_421 rfl)) yd_X3_tell_ ⟨Nat.le_of_ble_eq_true rfl, Nat.le_of_ble_eq_true rfl⟩ hN hK hP hD [4, 5] rfl rfl (ci := 2) rfl rfl rfl rfl rfl hl.1 rfl (lv_room (Nat.le_of_ble_eq_true rfl)) dX9_overlaps_136) hP hD hS hA [4, 5] rfl rfl (fun H locs hP hD hS => ?_)
    have hP : va_P (dC, dI) vwCl [cl_X9 h_this h_this_now h_this_kept h_this_told h_this_text h_this_script h_this_momentReader h_this_spanReader h_this_adder h_this_other h_this_trial h_this_ways i_this, cl_X4 h_this_now h_this_now_day h_this_now_second h_this_now_months h_this_now_days h_this_now_seconds, (h_this_now_day, .inl (cI, 8, .inl f_this_now_day)), (h_this_now_second, .inl (cI, 8, .inl f_this_now_second)), cl_X3 h_this_told h_this_told_numbers i_this_told_36, (h_this_told_numbers, .inl (cJ, 8, .inr (.inl f_this_told_numbers_37)))] H := hP
    have hD : va_D A [cl_X9 h_this h_this_now h_this_kept h_this_told h_this_text h_this_script h_this_momentReader h_this_spanReader h_this_adder h_this_other h_this_trial h_this_ways i_this, cl_X4 h_this_now h_this_now_day h_this_now_second h_this_now_months h_this_now_days h_this_now_seconds, (h_this_now_day, .inl (cI, 8, .inl f_this_now_day)), (h_this_now_second, .inl (cI, 8, .inl f_this_now_second)), cl_X3 h_this_told h_this_told_numbers i_this_told_36, (h_this_told_numbers, .inl (cJ, 8, .inr (.inl f_this_told_numbers_37)))] := hD
    refine lv_lload hx hb dX9_overlaps_139 (lv_at hl 0 rfl) ?_
    refine lv_lload hx hb dX9_overlaps_141 (lv_at hl 1 rfl) ?_
    refine lv_lsub hx hb dX9_overlaps_143 ?_
    refine lv_lconst (v := (0 : Int64)) hx hb dX9_overlaps_144 (by decide) ?_
    refine va_mmax_long (rest := []) hx hb (hml.trans hl.1.symm) hown (hts _ (kq q_536 rfl)) (hts _ (kq q_537 rfl)) (hts _ (kq q_27 rfl)) (hts _ (kq q_538 rfl)) (Nat.le_of_ble_eq_true rfl) (Nat.le_of_ble_eq_true rfl) (Nat.zero_le _) (Nat.zero_le _) dX9_overlaps_145 ?_
    refine lv_topl (fun z39 ez39 => ?_)
    have h := nm_at ez39 h
    obtain ⟨rfl, rfl, rfl⟩ := pj3 h
    exact hEnd _ _ _ _ hP hS dX9_overlaps_148
  have h := ite_t c12 h
  refine lv_ldc2 (v := (-1 : Int64)) hx hb hown (hts _ (kq q_491 rfl)) dX9_overlaps_29 ?_
  obtain ⟨rfl, rfl, rfl⟩ := pj3 h
  exact hEnd _ _ _ _ hP hS dX9_overlaps_32
noncomputable def fX9_leaps_l87 (N : Nat) (i_this : Int32) (f_this_now_day : Nat → Int32) (n : Nat) : Int32 → Int32 → Int32 → Int32 → Int32 → Int32 → Int32 → Int32 → (Nat → Int64) → Option (Int32 × Int32 × (Nat → Int64)) := Nat.rec (motive := fun _ => Int32 → Int32 → Int32 → Int32 → Int32 → Int32 → Int32 → Int32 → (Nat → Int64) → Option (Int32 × Int32 × (Nat → Int64))) (fun _ _ _ _ _ _ _ _ _ => none) (fun _ K_87 v3 v4 v5 v6 v7 v8 v9 i_this_told f_this_told_numbers => (if v5 < v9 then (bd2 (fX3_tell_ N v7.toInt64 v8.toInt64 i_this_told f_this_told_numbers) fun i_this_told_2 f_this_told_numbers_3 => (some (v6, i_this_told_2, f_this_told_numbers_3))) else (bd1 (fX1_dayOf N v9 (2 : Int32) (29 : Int32)) fun r5 => (bd1 (fX1_isLeap N v9) fun r7 => (if r7 = (0 : Int32) then (nm (v9 + (1 : Int32)) fun z10 => (K_87 v3 v4 v5 v6 v7 v8 z10 i_this_told f_this_told_numbers)) else (if r5 < v3 then (nm (v9 + (1 : Int32)) fun z12 => (K_87 v3 v4 v5 v6 v7 v8 z12 i_this_told f_this_told_numbers)) else (if v4 < r5 then (nm (v9 + (1 : Int32)) fun z14 => (K_87 v3 v4 v5 v6 v7 v8 z14 i_this_told f_this_told_numbers)) else (if v6 = (0 : Int32) then (nm (v6 + (1 : Int32)) fun z18 => (nm (v9 + (1 : Int32)) fun z19 => (K_87 v3 v4 v5 z18 r5 r5 z19 i_this_told f_this_told_numbers))) else (nm (v6 + (1 : Int32)) fun z16 => (nm (v9 + (1 : Int32)) fun z17 => (K_87 v3 v4 v5 z16 v7 r5 z17 i_this_told f_this_told_numbers))))))))))) n
theorem fX9_leaps_l87_s (N : Nat) (i_this : Int32) (f_this_now_day : Nat → Int32) (n : Nat) (v3 : Int32) (v4 : Int32) (v5 : Int32) (v6 : Int32) (v7 : Int32) (v8 : Int32) (v9 : Int32) (i_this_told : Int32) (f_this_told_numbers : Nat → Int64) : fX9_leaps_l87 N i_this f_this_now_day (n + 1) v3 v4 v5 v6 v7 v8 v9 i_this_told f_this_told_numbers = (if v5 < v9 then (bd2 (fX3_tell_ N v7.toInt64 v8.toInt64 i_this_told f_this_told_numbers) fun i_this_told_2 f_this_told_numbers_3 => (some (v6, i_this_told_2, f_this_told_numbers_3))) else (bd1 (fX1_dayOf N v9 (2 : Int32) (29 : Int32)) fun r5 => (bd1 (fX1_isLeap N v9) fun r7 => (if r7 = (0 : Int32) then (nm (v9 + (1 : Int32)) fun z10 => ((fX9_leaps_l87 N i_this f_this_now_day n) v3 v4 v5 v6 v7 v8 z10 i_this_told f_this_told_numbers)) else (if r5 < v3 then (nm (v9 + (1 : Int32)) fun z12 => ((fX9_leaps_l87 N i_this f_this_now_day n) v3 v4 v5 v6 v7 v8 z12 i_this_told f_this_told_numbers)) else (if v4 < r5 then (nm (v9 + (1 : Int32)) fun z14 => ((fX9_leaps_l87 N i_this f_this_now_day n) v3 v4 v5 v6 v7 v8 z14 i_this_told f_this_told_numbers)) else (if v6 = (0 : Int32) then (nm (v6 + (1 : Int32)) fun z18 => (nm (v9 + (1 : Int32)) fun z19 => ((fX9_leaps_l87 N i_this f_this_now_day n) v3 v4 v5 z18 r5 r5 z19 i_this_told f_this_told_numbers))) else (nm (v6 + (1 : Int32)) fun z16 => (nm (v9 + (1 : Int32)) fun z17 => ((fX9_leaps_l87 N i_this f_this_now_day n) v3 v4 v5 z16 v7 r5 z17 i_this_told f_this_told_numbers)))))))))) := rfl
theorem fX9_leaps_l87_0 (N : Nat) (i_this : Int32) (f_this_now_day : Nat → Int32) (v3 : Int32) (v4 : Int32) (v5 : Int32) (v6 : Int32) (v7 : Int32) (v8 : Int32) (v9 : Int32) (i_this_told : Int32) (f_this_told_numbers : Nat → Int64) : fX9_leaps_l87 N i_this f_this_now_day 0 v3 v4 v5 v6 v7 v8 v9 i_this_told f_this_told_numbers = none := rfl
noncomputable def fX9_leaps (N : Nat) (p1 : Int32) (p2 : Int32) (i_this : Int32) (f_this_now_day : Nat → Int32) (i_this_told : Int32) (f_this_told_numbers : Nat → Int64) : Option (Int32 × Int32 × (Nat → Int64)) := (bd1 (fX9_isSlot N p1) fun r20 => (if r20 = (0 : Int32) then (some ((-1 : Int32), i_this_told, f_this_told_numbers)) else (bd1 (fX9_isSlot N p2) fun r23 => (if r23 = (0 : Int32) then (some ((-1 : Int32), i_this_told, f_this_told_numbers)) else (bd1 (fX4_dayAt N p1 f_this_now_day) fun r26 => (bd1 (fX4_dayAt N p2 f_this_now_day) fun r28 => (nm (if r28 < r26 then r28 else r26) fun z30 => (bd1 (fX4_dayAt N p1 f_this_now_day) fun r31 => (bd1 (fX4_dayAt N p2 f_this_now_day) fun r33 => (nm (if r31 < r33 then r33 else r31) fun z35 => (bd1 (fX1_dateOf N z35) fun r36 => (nm (r36 / (10000 : Int32)) fun z38 => (bd1 (fX1_dateOf N z30) fun r39 => (nm (r39 / (10000 : Int32)) fun z41 => (fX9_leaps_l87 N i_this f_this_now_day N z30 z35 z38 (0 : Int32) (-1 : Int32) (-1 : Int32) z41 i_this_told f_this_told_numbers)))))))))))))))
set_option maxHeartbeats 4000000 in
set_option maxRecDepth 100000 in
theorem kX9_leaps (l : Launch) (dC : Nat → ClassId) (dI : Nat → Nat → Nat) (cI cJ cB : ClassId) (h_this h_this_now h_this_kept h_this_told h_this_text h_this_script h_this_momentReader h_this_spanReader h_this_adder h_this_other h_this_trial h_this_ways h_this_now_day h_this_now_second h_this_now_months h_this_now_days h_this_now_seconds h_this_told_numbers : Nat) (N : Nat) (p1 : Int32) (p2 : Int32) (i_this : Int32) (f_this_now_day : Nat → Int32) (i_this_told : Int32) (f_this_told_numbers : Nat → Int64) (r : Int32) (o_i_this_told : Int32) (o_f_this_told_numbers : Nat → Int64) (hf : fX9_leaps N p1 p2 i_this f_this_now_day i_this_told f_this_told_numbers = some (r, o_i_this_told, o_f_this_told_numbers)) : MI l yX9_leaps (kws yX9_leaps cX9_leaps 11 (some .int)) (kR 3 68) (dC, dI) (kT cI cJ cB) [.ref h_this, .int p1, .int p2] [cl_X9 h_this h_this_now h_this_kept h_this_told h_this_text h_this_script h_this_momentReader h_this_spanReader h_this_adder h_this_other h_this_trial h_this_ways i_this, cl_X4 h_this_now h_this_now_day h_this_now_second h_this_now_months h_this_now_days h_this_now_seconds, (h_this_now_day, .inl (cI, 8, .inl f_this_now_day)), cl_X3 h_this_told h_this_told_numbers i_this_told, (h_this_told_numbers, .inl (cJ, 8, .inr (.inl f_this_told_numbers)))] [cl_X9 h_this h_this_now h_this_kept h_this_told h_this_text h_this_script h_this_momentReader h_this_spanReader h_this_adder h_this_other h_this_trial h_this_ways i_this, cl_X4 h_this_now h_this_now_day h_this_now_second h_this_now_months h_this_now_days h_this_now_seconds, (h_this_now_day, .inl (cI, 8, .inl f_this_now_day)), cl_X3 h_this_told h_this_told_numbers o_i_this_told, (h_this_told_numbers, .inl (cJ, 8, .inr (.inl o_f_this_told_numbers)))] r := by
  refine MI.of (cc := cX9_leaps) (maxL := 11) (by decide) (Nat.le_of_ble_eq_true rfl) (fun p e s m args below meth c A Q ls KC hN hK hP hD hA hl hEnd => ?_)
  obtain ⟨hx, hb, hml, hown, hts⟩ := KC
  have hown : s.vm.findClass "DateSpans" = some m.cls := hown
  have hl : lv_has ls 11 [(0, .ref h_this), (1, .int p1), (2, .int p2)] := hl
  have hS : va_S A s.heap s.heap [] := va_S.rf
  have LP_87 : ∀ n_87 : Nat, ∀ (v3 : Int32) (v4 : Int32) (v5 : Int32) (v6 : Int32) (v7 : Int32) (v8 : Int32) (v9 : Int32) (i_this_told : Int32) (f_this_told_numbers : Nat → Int64) (ls : Array Slot) (H : Heap) (locs : List Loc), fX9_leaps_l87 N i_this f_this_now_day n_87 v3 v4 v5 v6 v7 v8 v9 i_this_told f_this_told_numbers = some (r, o_i_this_told, o_f_this_told_numbers) → lv_has ls 11 [(0, .ref h_this), (3, .int v3), (4, .int v4), (5, .int v5), (6, .int v6), (7, .int v7), (8, .int v8), (9, .int v9)] → va_P (dC, dI) vwCl [cl_X9 h_this h_this_now h_this_kept h_this_told h_this_text h_this_script h_this_momentReader h_this_spanReader h_this_adder h_this_other h_this_trial h_this_ways i_this, cl_X4 h_this_now h_this_now_day h_this_now_second h_this_now_months h_this_now_days h_this_now_seconds, (h_this_now_day, .inl (cI, 8, .inl f_this_now_day)), cl_X3 h_this_told h_this_told_numbers i_this_told, (h_this_told_numbers, .inl (cJ, 8, .inr (.inl f_this_told_numbers)))] H → va_D A [cl_X9 h_this h_this_now h_this_kept h_this_told h_this_text h_this_script h_this_momentReader h_this_spanReader h_this_adder h_this_other h_this_trial h_this_ways i_this, cl_X4 h_this_now h_this_now_day h_this_now_second h_this_now_months h_this_now_days h_this_now_seconds, (h_this_now_day, .inl (cI, 8, .inl f_this_now_day)), cl_X3 h_this_told h_this_told_numbers i_this_told, (h_this_told_numbers, .inl (cJ, 8, .inr (.inl f_this_told_numbers)))] → va_S A s.heap H locs → W p l e (kR 3 68) s m args below meth c H locs 0 0 Q (F0 m 87 ls []) := by
    intro n_87
    induction n_87 with
    | zero =>
      intro v3 v4 v5 v6 v7 v8 v9 i_this_told f_this_told_numbers ls H locs h hl hP hD hS
      rw [fX9_leaps_l87_0] at h; cases h
    | succ n_87 ih_87 =>
      intro v3 v4 v5 v6 v7 v8 v9 i_this_told f_this_told_numbers ls H locs h hl hP hD hS
      rw [fX9_leaps_l87_s] at h
      refine lv_iload hx hb dX9_leaps_87 (lv_at hl 7 rfl) ?_
      refine lv_iload hx hb dX9_leaps_89 (lv_at hl 3 rfl) ?_
      refine lv_icmp_gt (tgt := 147) hx hb dX9_leaps_91 (by decide) (fun c1 => ?_) (fun c1 => ?_)
      · have h := ite_t c1 h
        refine lv_aload_n hx hb dX9_leaps_147 rfl (lv_at hl 0 rfl) ?_
        refine va_get (D := (dC, dI)) (ci := 8) (v := .ref h_this_told) (C := RX9) (T := TX9) (N := 12) hx hb hts inX9 hown hK hP 0 rfl rfl 3 (by decide) (hts _ (kq q_229 rfl)) (fun _ h9 => h9) rfl dX9_leaps_148 ?_
        refine lv_iload hx hb dX9_leaps_151 (lv_at hl 5 rfl) ?_
        refine lv_i2l hx hb dX9_leaps_153 rfl ?_
        refine lv_iload hx hb dX9_leaps_154 (lv_at hl 6 rfl) ?_
        refine lv_i2l hx hb dX9_leaps_156 rfl ?_
        obtain ⟨i_this_told_2, f_this_told_numbers_3, hc4, h⟩ := bd2_at h
        refine kjV (kV (own := "DateSpans") (C := "DateSpans$Row") (b := h_this_told) (As := [.long v7.toInt64, .long v8.toInt64]) (rest := []) ⟨hx, hb, hml, hown, hts⟩ (kX3_tell_ l dC dI cI cJ cB h_this_told h_this_told_numbers N v7.toInt64 v8.toInt64 i_this_told f_this_told_numbers i_this_told_2 f_this_told_numbers_3 hc4 _) (kgV (kq q_418 rfl) (kq q_419 rfl) (kq q_420 rfl) (kq q_20 rfl) (kq q_421 rfl)) yd_X3_tell_ ⟨Nat.le_of_ble_eq_true rfl, Nat.le_of_ble_eq_true rfl⟩ hN hK hP hD [3, 4] rfl rfl (ci := 2) rfl rfl rfl rfl rfl hl.1 rfl (lv_room (Nat.le_of_ble_eq_true rfl)) dX9_leaps_157) hP hD hS hA [3, 4] rfl rfl (fun H locs hP hD hS => ?_)
        have hP : va_P (dC, dI) vwCl [cl_X9 h_this h_this_now h_this_kept h_this_told h_this_text h_this_script h_this_momentReader h_this_spanReader h_this_adder h_this_other h_this_trial h_this_ways i_this, cl_X4 h_this_now h_this_now_day h_this_now_second h_this_now_months h_this_now_days h_this_now_seconds, (h_this_now_day, .inl (cI, 8, .inl f_this_now_day)), cl_X3 h_this_told h_this_told_numbers i_this_told_2, (h_this_told_numbers, .inl (cJ, 8, .inr (.inl f_this_told_numbers_3)))] H := hP
        have hD : va_D A [cl_X9 h_this h_this_now h_this_kept h_this_told h_this_text h_this_script h_this_momentReader h_this_spanReader h_this_adder h_this_other h_this_trial h_this_ways i_this, cl_X4 h_this_now h_this_now_day h_this_now_second h_this_now_months h_this_now_days h_this_now_seconds, (h_this_now_day, .inl (cI, 8, .inl f_this_now_day)), cl_X3 h_this_told h_this_told_numbers i_this_told_2, (h_this_told_numbers, .inl (cJ, 8, .inr (.inl f_this_told_numbers_3)))] := hD
        refine lv_iload hx hb dX9_leaps_160 (lv_at hl 4 rfl) ?_
        obtain ⟨rfl, rfl, rfl⟩ := pj3 h
        exact hEnd _ _ _ _ hP hS dX9_leaps_162 rfl
      have h := ite_f c1 h
      refine lv_iload hx hb dX9_leaps_94 (lv_at hl 7 rfl) ?_
      refine lv_iconst (v := (2 : Int32)) hx hb dX9_leaps_96 (by decide) ?_
      refine lv_bipush (v := (29 : Int32)) hx hb dX9_leaps_97 (by decide) ?_
      obtain ⟨r5, hc6, h⟩ := bd1_at h
      refine kjSI (kS0 (own := "DateSpans") (As := [.int v9, .int (2 : Int32), .int (29 : Int32)]) (rest := []) ⟨hx, hb, hml, hown, hts⟩ (kX1_dayOf l N v9 (2 : Int32) (29 : Int32) r5 hc6) (kgS (kq q_317 rfl) (kq q_318 rfl) (kq q_28 rfl) (kq q_319 rfl)) yd_X1_dayOf ⟨Nat.le_of_ble_eq_true rfl, Nat.le_of_ble_eq_true rfl⟩ rfl rfl hl.1 rfl (lv_room (Nat.le_of_ble_eq_true rfl)) dX9_leaps_99) ?_
      refine lv_istore (lv' := [(10, .int r5), (0, .ref h_this), (3, .int v3), (4, .int v4), (5, .int v5), (6, .int v6), (7, .int v7), (8, .int v8), (9, .int v9)]) hx hb dX9_leaps_102 hl (by decide) rfl (fun ls hl => ?_)
      refine lv_iload hx hb dX9_leaps_104 (lv_at hl 8 rfl) ?_
      obtain ⟨r7, hc8, h⟩ := bd1_at h
      refine kjSI (kS0 (own := "DateSpans") (As := [.int v9]) (rest := []) ⟨hx, hb, hml, hown, hts⟩ (kX1_isLeap l N v9 r7 hc8) (kgS (kq q_326 rfl) (kq q_324 rfl) (kq q_28 rfl) (kq q_325 rfl)) yd_X1_isLeap ⟨Nat.le_of_ble_eq_true rfl, Nat.le_of_ble_eq_true rfl⟩ rfl rfl hl.1 rfl (lv_room (Nat.le_of_ble_eq_true rfl)) dX9_leaps_106) ?_
      refine lv_if_eq (tgt := 141) hx hb dX9_leaps_109 (by decide) (fun c9 => ?_) (fun c9 => ?_)
      · have h := ite_t c9 h
        obtain ⟨z10, ez10⟩ : ∃ y : Int32, y = (v9 + (1 : Int32)) := ⟨_, rfl⟩
        have h := nm_at ez10 h
        refine lv_iinc (v := z10) (lv' := [(9, .int z10), (10, .int r5), (0, .ref h_this), (3, .int v3), (4, .int v4), (5, .int v5), (6, .int v6), (7, .int v7), (8, .int v8)]) hx hb dX9_leaps_141 hl (k := 8) rfl (by rw [ez10]; rfl) (by decide) rfl (fun ls hl => ?_)
        refine lv_goto (tgt := 87) hx hb dX9_leaps_144 (by decide) ?_
        exact ih_87 _ _ _ _ _ _ _ _ _ _ _ _ h (lv_sub hl [2, 3, 4, 5, 6, 7, 8, 0] rfl) hP hD hS
      have h := ite_f c9 h
      refine lv_iload hx hb dX9_leaps_112 (lv_at hl 0 rfl) ?_
      refine lv_iload_n hx hb dX9_leaps_114 rfl (lv_at hl 2 rfl) ?_
      refine lv_icmp_lt (tgt := 141) hx hb dX9_leaps_115 (by decide) (fun c11 => ?_) (fun c11 => ?_)
      · have h := ite_t c11 h
        obtain ⟨z12, ez12⟩ : ∃ y : Int32, y = (v9 + (1 : Int32)) := ⟨_, rfl⟩
        have h := nm_at ez12 h
        refine lv_iinc (v := z12) (lv' := [(9, .int z12), (10, .int r5), (0, .ref h_this), (3, .int v3), (4, .int v4), (5, .int v5), (6, .int v6), (7, .int v7), (8, .int v8)]) hx hb dX9_leaps_141 hl (k := 8) rfl (by rw [ez12]; rfl) (by decide) rfl (fun ls hl => ?_)
        refine lv_goto (tgt := 87) hx hb dX9_leaps_144 (by decide) ?_
        exact ih_87 _ _ _ _ _ _ _ _ _ _ _ _ h (lv_sub hl [2, 3, 4, 5, 6, 7, 8, 0] rfl) hP hD hS
      have h := ite_f c11 h
      refine lv_iload hx hb dX9_leaps_118 (lv_at hl 0 rfl) ?_
      refine lv_iload hx hb dX9_leaps_120 (lv_at hl 3 rfl) ?_
      refine lv_icmp_gt (tgt := 141) hx hb dX9_leaps_122 (by decide) (fun c13 => ?_) (fun c13 => ?_)
      · have h := ite_t c13 h
        obtain ⟨z14, ez14⟩ : ∃ y : Int32, y = (v9 + (1 : Int32)) := ⟨_, rfl⟩
        have h := nm_at ez14 h
        refine lv_iinc (v := z14) (lv' := [(9, .int z14), (10, .int r5), (0, .ref h_this), (3, .int v3), (4, .int v4), (5, .int v5), (6, .int v6), (7, .int v7), (8, .int v8)]) hx hb dX9_leaps_141 hl (k := 8) rfl (by rw [ez14]; rfl) (by decide) rfl (fun ls hl => ?_)
        refine lv_goto (tgt := 87) hx hb dX9_leaps_144 (by decide) ?_
        exact ih_87 _ _ _ _ _ _ _ _ _ _ _ _ h (lv_sub hl [2, 3, 4, 5, 6, 7, 8, 0] rfl) hP hD hS
      have h := ite_f c13 h
      refine lv_iload hx hb dX9_leaps_125 (lv_at hl 5 rfl) ?_
      refine lv_if_ne (tgt := 134) hx hb dX9_leaps_127 (by decide) (fun c15 => ?_) (fun c15 => ?_)
      · have h := ite_f c15 h
        refine lv_iload hx hb dX9_leaps_134 (lv_at hl 0 rfl) ?_
        refine lv_istore (lv' := [(8, .int r5), (10, .int r5), (0, .ref h_this), (3, .int v3), (4, .int v4), (5, .int v5), (6, .int v6), (7, .int v7), (9, .int v9)]) hx hb dX9_leaps_136 hl (by decide) rfl (fun ls hl => ?_)
        obtain ⟨z16, ez16⟩ : ∃ y : Int32, y = (v6 + (1 : Int32)) := ⟨_, rfl⟩
        have h := nm_at ez16 h
        refine lv_iinc (v := z16) (lv' := [(6, .int z16), (8, .int r5), (10, .int r5), (0, .ref h_this), (3, .int v3), (4, .int v4), (5, .int v5), (7, .int v7), (9, .int v9)]) hx hb dX9_leaps_138 hl (k := 6) rfl (by rw [ez16]; rfl) (by decide) rfl (fun ls hl => ?_)
        obtain ⟨z17, ez17⟩ : ∃ y : Int32, y = (v9 + (1 : Int32)) := ⟨_, rfl⟩
        have h := nm_at ez17 h
        refine lv_iinc (v := z17) (lv' := [(9, .int z17), (6, .int z16), (8, .int r5), (10, .int r5), (0, .ref h_this), (3, .int v3), (4, .int v4), (5, .int v5), (7, .int v7)]) hx hb dX9_leaps_141 hl (k := 8) rfl (by rw [ez17]; rfl) (by decide) rfl (fun ls hl => ?_)
        refine lv_goto (tgt := 87) hx hb dX9_leaps_144 (by decide) ?_
        exact ih_87 _ _ _ _ _ _ _ _ _ _ _ _ h (lv_sub hl [4, 5, 6, 7, 1, 8, 2, 0] rfl) hP hD hS
      have h := ite_t c15 h
      refine lv_iload hx hb dX9_leaps_130 (lv_at hl 0 rfl) ?_
      refine lv_istore (lv' := [(7, .int r5), (10, .int r5), (0, .ref h_this), (3, .int v3), (4, .int v4), (5, .int v5), (6, .int v6), (8, .int v8), (9, .int v9)]) hx hb dX9_leaps_132 hl (by decide) rfl (fun ls hl => ?_)
      refine lv_iload hx hb dX9_leaps_134 (lv_at hl 1 rfl) ?_
      refine lv_istore (lv' := [(8, .int r5), (7, .int r5), (10, .int r5), (0, .ref h_this), (3, .int v3), (4, .int v4), (5, .int v5), (6, .int v6), (9, .int v9)]) hx hb dX9_leaps_136 hl (by decide) rfl (fun ls hl => ?_)
      obtain ⟨z18, ez18⟩ : ∃ y : Int32, y = (v6 + (1 : Int32)) := ⟨_, rfl⟩
      have h := nm_at ez18 h
      refine lv_iinc (v := z18) (lv' := [(6, .int z18), (8, .int r5), (7, .int r5), (10, .int r5), (0, .ref h_this), (3, .int v3), (4, .int v4), (5, .int v5), (9, .int v9)]) hx hb dX9_leaps_138 hl (k := 7) rfl (by rw [ez18]; rfl) (by decide) rfl (fun ls hl => ?_)
      obtain ⟨z19, ez19⟩ : ∃ y : Int32, y = (v9 + (1 : Int32)) := ⟨_, rfl⟩
      have h := nm_at ez19 h
      refine lv_iinc (v := z19) (lv' := [(9, .int z19), (6, .int z18), (8, .int r5), (7, .int r5), (10, .int r5), (0, .ref h_this), (3, .int v3), (4, .int v4), (5, .int v5)]) hx hb dX9_leaps_141 hl (k := 8) rfl (by rw [ez19]; rfl) (by decide) rfl (fun ls hl => ?_)
      refine lv_goto (tgt := 87) hx hb dX9_leaps_144 (by decide) ?_
      exact ih_87 _ _ _ _ _ _ _ _ _ _ _ _ h (lv_sub hl [5, 6, 7, 8, 1, 3, 2, 0] rfl) hP hD hS
  have h := hf
  unfold fX9_leaps at h
  refine lv_iload_n hx hb dX9_leaps_0 rfl (lv_at hl 1 rfl) ?_
  obtain ⟨r20, hc21, h⟩ := bd1_at h
  refine kjSI (kS0 (own := "DateSpans") (As := [.int p1]) (rest := []) ⟨hx, hb, hml, hown, hts⟩ (kX9_isSlot l N p1 r20 hc21) (kgS (kq q_267 rfl) (kq q_268 rfl) (kq q_18 rfl) (kq q_269 rfl)) yd_X9_isSlot ⟨Nat.le_of_ble_eq_true rfl, Nat.le_of_ble_eq_true rfl⟩ rfl rfl hl.1 rfl (lv_room (Nat.le_of_ble_eq_true rfl)) dX9_leaps_1) ?_
  refine lv_if_eq (tgt := 14) hx hb dX9_leaps_4 (by decide) (fun c22 => ?_) (fun c22 => ?_)
  · have h := ite_t c22 h
    refine lv_iconst (v := (-1 : Int32)) hx hb dX9_leaps_14 (by decide) ?_
    obtain ⟨rfl, rfl, rfl⟩ := pj3 h
    exact hEnd _ _ _ _ hP hS dX9_leaps_15 rfl
  have h := ite_f c22 h
  refine lv_iload_n hx hb dX9_leaps_7 rfl (lv_at hl 2 rfl) ?_
  obtain ⟨r23, hc24, h⟩ := bd1_at h
  refine kjSI (kS0 (own := "DateSpans") (As := [.int p2]) (rest := []) ⟨hx, hb, hml, hown, hts⟩ (kX9_isSlot l N p2 r23 hc24) (kgS (kq q_267 rfl) (kq q_268 rfl) (kq q_18 rfl) (kq q_269 rfl)) yd_X9_isSlot ⟨Nat.le_of_ble_eq_true rfl, Nat.le_of_ble_eq_true rfl⟩ rfl rfl hl.1 rfl (lv_room (Nat.le_of_ble_eq_true rfl)) dX9_leaps_8) ?_
  refine lv_if_ne (tgt := 16) hx hb dX9_leaps_11 (by decide) (fun c25 => ?_) (fun c25 => ?_)
  · have h := ite_f c25 h
    refine lv_aload_n hx hb dX9_leaps_16 rfl (lv_at hl 0 rfl) ?_
    refine va_get (D := (dC, dI)) (ci := 8) (v := .ref h_this_now) (C := RX9) (T := TX9) (N := 12) hx hb hts inX9 hown hK hP 0 rfl rfl 0 (by decide) (hts _ (kq q_226 rfl)) (fun _ h9 => h9) rfl dX9_leaps_17 ?_
    refine lv_iload_n hx hb dX9_leaps_20 rfl (lv_at hl 1 rfl) ?_
    obtain ⟨r26, hc27, h⟩ := bd1_at h
    refine kjI (kV (own := "DateSpans") (C := "DateSpans$Slots") (b := h_this_now) (As := [.int p1]) (rest := []) ⟨hx, hb, hml, hown, hts⟩ (kX4_dayAt l dC dI cI cJ cB h_this_now h_this_now_day h_this_now_second h_this_now_months h_this_now_days h_this_now_seconds N p1 f_this_now_day r26 hc27 _) (kgV (kq q_275 rfl) (kq q_276 rfl) (kq q_277 rfl) (kq q_19 rfl) (kq q_278 rfl)) yd_X4_dayAt ⟨Nat.le_of_ble_eq_true rfl, Nat.le_of_ble_eq_true rfl⟩ hN hK hP hD [1, 2] rfl rfl (ci := 3) rfl rfl rfl rfl rfl hl.1 rfl (lv_room (Nat.le_of_ble_eq_true rfl)) dX9_leaps_21) hP hD hS hA [1, 2] rfl rfl (fun H locs hP hD hS => ?_)
    have hP : va_P (dC, dI) vwCl [cl_X9 h_this h_this_now h_this_kept h_this_told h_this_text h_this_script h_this_momentReader h_this_spanReader h_this_adder h_this_other h_this_trial h_this_ways i_this, cl_X4 h_this_now h_this_now_day h_this_now_second h_this_now_months h_this_now_days h_this_now_seconds, (h_this_now_day, .inl (cI, 8, .inl f_this_now_day)), cl_X3 h_this_told h_this_told_numbers i_this_told, (h_this_told_numbers, .inl (cJ, 8, .inr (.inl f_this_told_numbers)))] H := hP
    have hD : va_D A [cl_X9 h_this h_this_now h_this_kept h_this_told h_this_text h_this_script h_this_momentReader h_this_spanReader h_this_adder h_this_other h_this_trial h_this_ways i_this, cl_X4 h_this_now h_this_now_day h_this_now_second h_this_now_months h_this_now_days h_this_now_seconds, (h_this_now_day, .inl (cI, 8, .inl f_this_now_day)), cl_X3 h_this_told h_this_told_numbers i_this_told, (h_this_told_numbers, .inl (cJ, 8, .inr (.inl f_this_told_numbers)))] := hD
    refine lv_aload_n hx hb dX9_leaps_24 rfl (lv_at hl 0 rfl) ?_
    refine va_get (D := (dC, dI)) (ci := 8) (v := .ref h_this_now) (C := RX9) (T := TX9) (N := 12) hx hb hts inX9 hown hK hP 0 rfl rfl 0 (by decide) (hts _ (kq q_226 rfl)) (fun _ h9 => h9) rfl dX9_leaps_25 ?_
    refine lv_iload_n hx hb dX9_leaps_28 rfl (lv_at hl 2 rfl) ?_
    obtain ⟨r28, hc29, h⟩ := bd1_at h
    refine kjI (kV (own := "DateSpans") (C := "DateSpans$Slots") (b := h_this_now) (As := [.int p2]) (rest := [.int r26]) ⟨hx, hb, hml, hown, hts⟩ (kX4_dayAt l dC dI cI cJ cB h_this_now h_this_now_day h_this_now_second h_this_now_months h_this_now_days h_this_now_seconds N p2 f_this_now_day r28 hc29 _) (kgV (kq q_275 rfl) (kq q_276 rfl) (kq q_277 rfl) (kq q_19 rfl) (kq q_278 rfl)) yd_X4_dayAt ⟨Nat.le_of_ble_eq_true rfl, Nat.le_of_ble_eq_true rfl⟩ hN hK hP hD [1, 2] rfl rfl (ci := 3) rfl rfl rfl rfl rfl hl.1 rfl (lv_room (Nat.le_of_ble_eq_true rfl)) dX9_leaps_29) hP hD hS hA [1, 2] rfl rfl (fun H locs hP hD hS => ?_)
    have hP : va_P (dC, dI) vwCl [cl_X9 h_this h_this_now h_this_kept h_this_told h_this_text h_this_script h_this_momentReader h_this_spanReader h_this_adder h_this_other h_this_trial h_this_ways i_this, cl_X4 h_this_now h_this_now_day h_this_now_second h_this_now_months h_this_now_days h_this_now_seconds, (h_this_now_day, .inl (cI, 8, .inl f_this_now_day)), cl_X3 h_this_told h_this_told_numbers i_this_told, (h_this_told_numbers, .inl (cJ, 8, .inr (.inl f_this_told_numbers)))] H := hP
    have hD : va_D A [cl_X9 h_this h_this_now h_this_kept h_this_told h_this_text h_this_script h_this_momentReader h_this_spanReader h_this_adder h_this_other h_this_trial h_this_ways i_this, cl_X4 h_this_now h_this_now_day h_this_now_second h_this_now_months h_this_now_days h_this_now_seconds, (h_this_now_day, .inl (cI, 8, .inl f_this_now_day)), cl_X3 h_this_told h_this_told_numbers i_this_told, (h_this_told_numbers, .inl (cJ, 8, .inr (.inl f_this_told_numbers)))] := hD
    refine va_mmin (rest := []) hx hb (hml.trans hl.1.symm) hown (hts _ (kq q_519 rfl)) (hts _ (kq q_520 rfl)) (hts _ (kq q_27 rfl)) (hts _ (kq q_521 rfl)) (Nat.le_of_ble_eq_true rfl) (Nat.le_of_ble_eq_true rfl) (Nat.zero_le _) (Nat.zero_le _) dX9_leaps_32 ?_
    refine lv_topi (fun z30 ez30 => ?_)
    have h := nm_at ez30 h
    refine lv_istore_n (lv' := [(3, .int z30), (0, .ref h_this), (1, .int p1), (2, .int p2)]) hx hb dX9_leaps_35 rfl hl (by decide) rfl (fun ls hl => ?_)
    refine lv_aload_n hx hb dX9_leaps_36 rfl (lv_at hl 1 rfl) ?_
    refine va_get (D := (dC, dI)) (ci := 8) (v := .ref h_this_now) (C := RX9) (T := TX9) (N := 12) hx hb hts inX9 hown hK hP 0 rfl rfl 0 (by decide) (hts _ (kq q_226 rfl)) (fun _ h9 => h9) rfl dX9_leaps_37 ?_
    refine lv_iload_n hx hb dX9_leaps_40 rfl (lv_at hl 2 rfl) ?_
    obtain ⟨r31, hc32, h⟩ := bd1_at h
    refine kjI (kV (own := "DateSpans") (C := "DateSpans$Slots") (b := h_this_now) (As := [.int p1]) (rest := []) ⟨hx, hb, hml, hown, hts⟩ (kX4_dayAt l dC dI cI cJ cB h_this_now h_this_now_day h_this_now_second h_this_now_months h_this_now_days h_this_now_seconds N p1 f_this_now_day r31 hc32 _) (kgV (kq q_275 rfl) (kq q_276 rfl) (kq q_277 rfl) (kq q_19 rfl) (kq q_278 rfl)) yd_X4_dayAt ⟨Nat.le_of_ble_eq_true rfl, Nat.le_of_ble_eq_true rfl⟩ hN hK hP hD [1, 2] rfl rfl (ci := 3) rfl rfl rfl rfl rfl hl.1 rfl (lv_room (Nat.le_of_ble_eq_true rfl)) dX9_leaps_41) hP hD hS hA [1, 2] rfl rfl (fun H locs hP hD hS => ?_)
    have hP : va_P (dC, dI) vwCl [cl_X9 h_this h_this_now h_this_kept h_this_told h_this_text h_this_script h_this_momentReader h_this_spanReader h_this_adder h_this_other h_this_trial h_this_ways i_this, cl_X4 h_this_now h_this_now_day h_this_now_second h_this_now_months h_this_now_days h_this_now_seconds, (h_this_now_day, .inl (cI, 8, .inl f_this_now_day)), cl_X3 h_this_told h_this_told_numbers i_this_told, (h_this_told_numbers, .inl (cJ, 8, .inr (.inl f_this_told_numbers)))] H := hP
    have hD : va_D A [cl_X9 h_this h_this_now h_this_kept h_this_told h_this_text h_this_script h_this_momentReader h_this_spanReader h_this_adder h_this_other h_this_trial h_this_ways i_this, cl_X4 h_this_now h_this_now_day h_this_now_second h_this_now_months h_this_now_days h_this_now_seconds, (h_this_now_day, .inl (cI, 8, .inl f_this_now_day)), cl_X3 h_this_told h_this_told_numbers i_this_told, (h_this_told_numbers, .inl (cJ, 8, .inr (.inl f_this_told_numbers)))] := hD
    refine lv_aload_n hx hb dX9_leaps_44 rfl (lv_at hl 1 rfl) ?_
    refine va_get (D := (dC, dI)) (ci := 8) (v := .ref h_this_now) (C := RX9) (T := TX9) (N := 12) hx hb hts inX9 hown hK hP 0 rfl rfl 0 (by decide) (hts _ (kq q_226 rfl)) (fun _ h9 => h9) rfl dX9_leaps_45 ?_
    refine lv_iload_n hx hb dX9_leaps_48 rfl (lv_at hl 3 rfl) ?_
    obtain ⟨r33, hc34, h⟩ := bd1_at h
    refine kjI (kV (own := "DateSpans") (C := "DateSpans$Slots") (b := h_this_now) (As := [.int p2]) (rest := [.int r31]) ⟨hx, hb, hml, hown, hts⟩ (kX4_dayAt l dC dI cI cJ cB h_this_now h_this_now_day h_this_now_second h_this_now_months h_this_now_days h_this_now_seconds N p2 f_this_now_day r33 hc34 _) (kgV (kq q_275 rfl) (kq q_276 rfl) (kq q_277 rfl) (kq q_19 rfl) (kq q_278 rfl)) yd_X4_dayAt ⟨Nat.le_of_ble_eq_true rfl, Nat.le_of_ble_eq_true rfl⟩ hN hK hP hD [1, 2] rfl rfl (ci := 3) rfl rfl rfl rfl rfl hl.1 rfl (lv_room (Nat.le_of_ble_eq_true rfl)) dX9_leaps_49) hP hD hS hA [1, 2] rfl rfl (fun H locs hP hD hS => ?_)
    have hP : va_P (dC, dI) vwCl [cl_X9 h_this h_this_now h_this_kept h_this_told h_this_text h_this_script h_this_momentReader h_this_spanReader h_this_adder h_this_other h_this_trial h_this_ways i_this, cl_X4 h_this_now h_this_now_day h_this_now_second h_this_now_months h_this_now_days h_this_now_seconds, (h_this_now_day, .inl (cI, 8, .inl f_this_now_day)), cl_X3 h_this_told h_this_told_numbers i_this_told, (h_this_told_numbers, .inl (cJ, 8, .inr (.inl f_this_told_numbers)))] H := hP
    have hD : va_D A [cl_X9 h_this h_this_now h_this_kept h_this_told h_this_text h_this_script h_this_momentReader h_this_spanReader h_this_adder h_this_other h_this_trial h_this_ways i_this, cl_X4 h_this_now h_this_now_day h_this_now_second h_this_now_months h_this_now_days h_this_now_seconds, (h_this_now_day, .inl (cI, 8, .inl f_this_now_day)), cl_X3 h_this_told h_this_told_numbers i_this_told, (h_this_told_numbers, .inl (cJ, 8, .inr (.inl f_this_told_numbers)))] := hD
    refine va_mmax (rest := []) hx hb (hml.trans hl.1.symm) hown (hts _ (kq q_522 rfl)) (hts _ (kq q_396 rfl)) (hts _ (kq q_27 rfl)) (hts _ (kq q_397 rfl)) (Nat.le_of_ble_eq_true rfl) (Nat.le_of_ble_eq_true rfl) (Nat.zero_le _) (Nat.zero_le _) dX9_leaps_52 ?_
    refine lv_topi (fun z35 ez35 => ?_)
    have h := nm_at ez35 h
    refine lv_istore (lv' := [(4, .int z35), (3, .int z30), (0, .ref h_this), (1, .int p1), (2, .int p2)]) hx hb dX9_leaps_55 hl (by decide) rfl (fun ls hl => ?_)
    refine lv_iload hx hb dX9_leaps_57 (lv_at hl 0 rfl) ?_
    obtain ⟨r36, hc37, h⟩ := bd1_at h
    refine kjSI (kS0 (own := "DateSpans") (As := [.int z35]) (rest := []) ⟨hx, hb, hml, hown, hts⟩ (kX1_dateOf l N z35 r36 hc37) (kgS (kq q_304 rfl) (kq q_305 rfl) (kq q_28 rfl) (kq q_306 rfl)) yd_X1_dateOf ⟨Nat.le_of_ble_eq_true rfl, Nat.le_of_ble_eq_true rfl⟩ rfl rfl hl.1 rfl (lv_room (Nat.le_of_ble_eq_true rfl)) dX9_leaps_59) ?_
    refine lv_sipush (v := (10000 : Int32)) hx hb dX9_leaps_62 (by decide) ?_
    refine lv_idiv hx hb dX9_leaps_65 (by decide) ?_
    refine lv_topi (fun z38 ez38 => ?_)
    have h := nm_at ez38 h
    refine lv_istore (lv' := [(5, .int z38), (4, .int z35), (3, .int z30), (0, .ref h_this), (1, .int p1), (2, .int p2)]) hx hb dX9_leaps_66 hl (by decide) rfl (fun ls hl => ?_)
    refine lv_iconst (v := (0 : Int32)) hx hb dX9_leaps_68 (by decide) ?_
    refine lv_istore (lv' := [(6, .int (0 : Int32)), (5, .int z38), (4, .int z35), (3, .int z30), (0, .ref h_this), (1, .int p1), (2, .int p2)]) hx hb dX9_leaps_69 hl (by decide) rfl (fun ls hl => ?_)
    refine lv_iconst (v := (-1 : Int32)) hx hb dX9_leaps_71 (by decide) ?_
    refine lv_istore (lv' := [(7, .int (-1 : Int32)), (6, .int (0 : Int32)), (5, .int z38), (4, .int z35), (3, .int z30), (0, .ref h_this), (1, .int p1), (2, .int p2)]) hx hb dX9_leaps_72 hl (by decide) rfl (fun ls hl => ?_)
    refine lv_iconst (v := (-1 : Int32)) hx hb dX9_leaps_74 (by decide) ?_
    refine lv_istore (lv' := [(8, .int (-1 : Int32)), (7, .int (-1 : Int32)), (6, .int (0 : Int32)), (5, .int z38), (4, .int z35), (3, .int z30), (0, .ref h_this), (1, .int p1), (2, .int p2)]) hx hb dX9_leaps_75 hl (by decide) rfl (fun ls hl => ?_)
    refine lv_iload_n hx hb dX9_leaps_77 rfl (lv_at hl 5 rfl) ?_
    obtain ⟨r39, hc40, h⟩ := bd1_at h
    refine kjSI (kS0 (own := "DateSpans") (As := [.int z30]) (rest := []) ⟨hx, hb, hml, hown, hts⟩ (kX1_dateOf l N z30 r39 hc40) (kgS (kq q_304 rfl) (kq q_305 rfl) (kq q_28 rfl) (kq q_306 rfl)) yd_X1_dateOf ⟨Nat.le_of_ble_eq_true rfl, Nat.le_of_ble_eq_true rfl⟩ rfl rfl hl.1 rfl (lv_room (Nat.le_of_ble_eq_true rfl)) dX9_leaps_78) ?_
    refine lv_sipush (v := (10000 : Int32)) hx hb dX9_leaps_81 (by decide) ?_
    refine lv_idiv hx hb dX9_leaps_84 (by decide) ?_
    refine lv_topi (fun z41 ez41 => ?_)
    have h := nm_at ez41 h
    refine lv_istore (lv' := [(9, .int z41), (8, .int (-1 : Int32)), (7, .int (-1 : Int32)), (6, .int (0 : Int32)), (5, .int z38), (4, .int z35), (3, .int z30), (0, .ref h_this), (1, .int p1), (2, .int p2)]) hx hb dX9_leaps_85 hl (by decide) rfl (fun ls hl => ?_)
    exact LP_87 N _ _ _ _ _ _ _ _ _ _ _ _ h (lv_sub hl [7, 6, 5, 4, 3, 2, 1, 0] rfl) hP hD hS
  have h := ite_t c25 h
  refine lv_iconst (v := (-1 : Int32)) hx hb dX9_leaps_14 (by decide) ?_
  obtain ⟨rfl, rfl, rfl⟩ := pj3 h
  exact hEnd _ _ _ _ hP hS dX9_leaps_15 rfl
noncomputable def fX9_whole_j75 (N : Nat) (i_this : Int32) (f_this_now_day : Nat → Int32) (v3 : Int32) (v4 : Int32) (v5 : Int32) (i_this_told : Int32) (f_this_told_numbers : Nat → Int64) : Option (Int32 × Int32 × (Nat → Int64)) := (bd1 (fX1_monthOf N v4) fun r1 => (if v5 < r1 then (bd1 (fX1_firstOf N v5) fun r4 => (bd1 (fX1_firstOf N r1) fun r6 => (bd2 (fX3_tell_ N ((r4 - v3).toInt64) ((v4 - r6).toInt64) i_this_told f_this_told_numbers) fun i_this_told_8 f_this_told_numbers_9 => (some ((r1 - v5), i_this_told_8, f_this_told_numbers_9))))) else (bd2 (fX3_tell_ N ((v4 - v3).toInt64) (0 : Int64) i_this_told f_this_told_numbers) fun i_this_told_11 f_this_told_numbers_12 => (some ((0 : Int32), i_this_told_11, f_this_told_numbers_12)))))
noncomputable def fX9_whole (N : Nat) (p1 : Int32) (p2 : Int32) (i_this : Int32) (f_this_now_day : Nat → Int32) (i_this_told : Int32) (f_this_told_numbers : Nat → Int64) : Option (Int32 × Int32 × (Nat → Int64)) := (bd1 (fX9_isSlot N p1) fun r14 => (if r14 = (0 : Int32) then (some ((-1 : Int32), i_this_told, f_this_told_numbers)) else (bd1 (fX9_isSlot N p2) fun r17 => (if r17 = (0 : Int32) then (some ((-1 : Int32), i_this_told, f_this_told_numbers)) else (bd1 (fX4_dayAt N p1 f_this_now_day) fun r20 => (bd1 (fX4_dayAt N p2 f_this_now_day) fun r22 => (nm (if r22 < r20 then r22 else r20) fun z24 => (bd1 (fX4_dayAt N p1 f_this_now_day) fun r25 => (bd1 (fX4_dayAt N p2 f_this_now_day) fun r27 => (nm (if r25 < r27 then r27 else r25) fun z29 => (bd1 (fX1_monthOf N z24) fun r30 => (bd1 (fX1_firstOf N r30) fun r32 => (if z24 ≤ r32 then (fX9_whole_j75 N i_this f_this_now_day z24 z29 r30 i_this_told f_this_told_numbers) else (nm (r30 + (1 : Int32)) fun z35 => (fX9_whole_j75 N i_this f_this_now_day z24 z29 z35 i_this_told f_this_told_numbers)))))))))))))))
set_option maxHeartbeats 4000000 in
set_option maxRecDepth 100000 in
theorem kX9_whole (l : Launch) (dC : Nat → ClassId) (dI : Nat → Nat → Nat) (cI cJ cB : ClassId) (h_this h_this_now h_this_kept h_this_told h_this_text h_this_script h_this_momentReader h_this_spanReader h_this_adder h_this_other h_this_trial h_this_ways h_this_now_day h_this_now_second h_this_now_months h_this_now_days h_this_now_seconds h_this_told_numbers : Nat) (N : Nat) (p1 : Int32) (p2 : Int32) (i_this : Int32) (f_this_now_day : Nat → Int32) (i_this_told : Int32) (f_this_told_numbers : Nat → Int64) (r : Int32) (o_i_this_told : Int32) (o_f_this_told_numbers : Nat → Int64) (hf : fX9_whole N p1 p2 i_this f_this_now_day i_this_told f_this_told_numbers = some (r, o_i_this_told, o_f_this_told_numbers)) : MI l yX9_whole (kws yX9_whole cX9_whole 7 (some .int)) (kR 3 68) (dC, dI) (kT cI cJ cB) [.ref h_this, .int p1, .int p2] [cl_X9 h_this h_this_now h_this_kept h_this_told h_this_text h_this_script h_this_momentReader h_this_spanReader h_this_adder h_this_other h_this_trial h_this_ways i_this, cl_X4 h_this_now h_this_now_day h_this_now_second h_this_now_months h_this_now_days h_this_now_seconds, (h_this_now_day, .inl (cI, 8, .inl f_this_now_day)), cl_X3 h_this_told h_this_told_numbers i_this_told, (h_this_told_numbers, .inl (cJ, 8, .inr (.inl f_this_told_numbers)))] [cl_X9 h_this h_this_now h_this_kept h_this_told h_this_text h_this_script h_this_momentReader h_this_spanReader h_this_adder h_this_other h_this_trial h_this_ways i_this, cl_X4 h_this_now h_this_now_day h_this_now_second h_this_now_months h_this_now_days h_this_now_seconds, (h_this_now_day, .inl (cI, 8, .inl f_this_now_day)), cl_X3 h_this_told h_this_told_numbers o_i_this_told, (h_this_told_numbers, .inl (cJ, 8, .inr (.inl o_f_this_told_numbers)))] r := by
  refine MI.of (cc := cX9_whole) (maxL := 7) (by decide) (Nat.le_of_ble_eq_true rfl) (fun p e s m args below meth c A Q ls KC hN hK hP hD hA hl hEnd => ?_)
  obtain ⟨hx, hb, hml, hown, hts⟩ := KC
  have hown : s.vm.findClass "DateSpans" = some m.cls := hown
  have hl : lv_has ls 7 [(0, .ref h_this), (1, .int p1), (2, .int p2)] := hl
  have hS : va_S A s.heap s.heap [] := va_S.rf
  have JN_75 : ∀ (v3 : Int32) (v4 : Int32) (v5 : Int32) (i_this_told : Int32) (f_this_told_numbers : Nat → Int64) (ls : Array Slot) (H : Heap) (locs : List Loc), (fX9_whole_j75 N i_this f_this_now_day) v3 v4 v5 i_this_told f_this_told_numbers = some (r, o_i_this_told, o_f_this_told_numbers) → lv_has ls 7 [(0, .ref h_this), (3, .int v3), (4, .int v4), (5, .int v5)] → va_P (dC, dI) vwCl [cl_X9 h_this h_this_now h_this_kept h_this_told h_this_text h_this_script h_this_momentReader h_this_spanReader h_this_adder h_this_other h_this_trial h_this_ways i_this, cl_X4 h_this_now h_this_now_day h_this_now_second h_this_now_months h_this_now_days h_this_now_seconds, (h_this_now_day, .inl (cI, 8, .inl f_this_now_day)), cl_X3 h_this_told h_this_told_numbers i_this_told, (h_this_told_numbers, .inl (cJ, 8, .inr (.inl f_this_told_numbers)))] H → va_D A [cl_X9 h_this h_this_now h_this_kept h_this_told h_this_text h_this_script h_this_momentReader h_this_spanReader h_this_adder h_this_other h_this_trial h_this_ways i_this, cl_X4 h_this_now h_this_now_day h_this_now_second h_this_now_months h_this_now_days h_this_now_seconds, (h_this_now_day, .inl (cI, 8, .inl f_this_now_day)), cl_X3 h_this_told h_this_told_numbers i_this_told, (h_this_told_numbers, .inl (cJ, 8, .inr (.inl f_this_told_numbers)))] → va_S A s.heap H locs → W p l e (kR 3 68) s m args below meth c H locs 0 0 Q (F0 m 75 ls []) := by
    intro v3 v4 v5 i_this_told f_this_told_numbers ls H locs h hl hP hD hS
    unfold fX9_whole_j75 at h
    refine lv_iload hx hb dX9_whole_75 (lv_at hl 2 rfl) ?_
    obtain ⟨r1, hc2, h⟩ := bd1_at h
    refine kjSI (kS0 (own := "DateSpans") (As := [.int v4]) (rest := []) ⟨hx, hb, hml, hown, hts⟩ (kX1_monthOf l N v4 r1 hc2) (kgS (kq q_455 rfl) (kq q_387 rfl) (kq q_28 rfl) (kq q_388 rfl)) yd_X1_monthOf ⟨Nat.le_of_ble_eq_true rfl, Nat.le_of_ble_eq_true rfl⟩ rfl rfl hl.1 rfl (lv_room (Nat.le_of_ble_eq_true rfl)) dX9_whole_77) ?_
    refine lv_istore (lv' := [(6, .int r1), (0, .ref h_this), (3, .int v3), (4, .int v4), (5, .int v5)]) hx hb dX9_whole_80 hl (by decide) rfl (fun ls hl => ?_)
    refine lv_iload hx hb dX9_whole_82 (lv_at hl 0 rfl) ?_
    refine lv_iload hx hb dX9_whole_84 (lv_at hl 4 rfl) ?_
    refine lv_icmp_gt (tgt := 104) hx hb dX9_whole_86 (by decide) (fun c3 => ?_) (fun c3 => ?_)
    · have h := ite_t c3 h
      refine lv_aload_n hx hb dX9_whole_104 rfl (lv_at hl 1 rfl) ?_
      refine va_get (D := (dC, dI)) (ci := 8) (v := .ref h_this_told) (C := RX9) (T := TX9) (N := 12) hx hb hts inX9 hown hK hP 0 rfl rfl 3 (by decide) (hts _ (kq q_229 rfl)) (fun _ h9 => h9) rfl dX9_whole_105 ?_
      refine lv_iload hx hb dX9_whole_108 (lv_at hl 4 rfl) ?_
      obtain ⟨r4, hc5, h⟩ := bd1_at h
      refine kjSI (kS0 (own := "DateSpans") (As := [.int v5]) (rest := [.ref h_this_told]) ⟨hx, hb, hml, hown, hts⟩ (kX1_firstOf l N v5 r4 hc5) (kgS (kq q_547 rfl) (kq q_391 rfl) (kq q_28 rfl) (kq q_392 rfl)) yd_X1_firstOf ⟨Nat.le_of_ble_eq_true rfl, Nat.le_of_ble_eq_true rfl⟩ rfl rfl hl.1 rfl (lv_room (Nat.le_of_ble_eq_true rfl)) dX9_whole_110) ?_
      refine lv_iload_n hx hb dX9_whole_113 rfl (lv_at hl 2 rfl) ?_
      refine lv_isub hx hb dX9_whole_114 ?_
      refine lv_i2l hx hb dX9_whole_115 rfl ?_
      refine lv_iload hx hb dX9_whole_116 (lv_at hl 3 rfl) ?_
      refine lv_iload hx hb dX9_whole_118 (lv_at hl 0 rfl) ?_
      obtain ⟨r6, hc7, h⟩ := bd1_at h
      refine kjSI (kS0 (own := "DateSpans") (As := [.int r1]) (rest := [.int v4, .long ((r4 - v3).toInt64), .ref h_this_told]) ⟨hx, hb, hml, hown, hts⟩ (kX1_firstOf l N r1 r6 hc7) (kgS (kq q_547 rfl) (kq q_391 rfl) (kq q_28 rfl) (kq q_392 rfl)) yd_X1_firstOf ⟨Nat.le_of_ble_eq_true rfl, Nat.le_of_ble_eq_true rfl⟩ rfl rfl hl.1 rfl (lv_room (Nat.le_of_ble_eq_true rfl)) dX9_whole_120) ?_
      refine lv_isub hx hb dX9_whole_123 ?_
      refine lv_i2l hx hb dX9_whole_124 rfl ?_
      obtain ⟨i_this_told_8, f_this_told_numbers_9, hc10, h⟩ := bd2_at h
      refine kjV (kV (own := "DateSpans") (C := "DateSpans$Row") (b := h_this_told) (As := [.long ((r4 - v3).toInt64), .long ((v4 - r6).toInt64)]) (rest := []) ⟨hx, hb, hml, hown, hts⟩ (kX3_tell_ l dC dI cI cJ cB h_this_told h_this_told_numbers N ((r4 - v3).toInt64) ((v4 - r6).toInt64) i_this_told f_this_told_numbers i_this_told_8 f_this_told_numbers_9 hc10 _) (kgV (kq q_418 rfl) (kq q_419 rfl) (kq q_420 rfl) (kq q_20 rfl) (kq q_421 rfl)) yd_X3_tell_ ⟨Nat.le_of_ble_eq_true rfl, Nat.le_of_ble_eq_true rfl⟩ hN hK hP hD [3, 4] rfl rfl (ci := 2) rfl rfl rfl rfl rfl hl.1 rfl (lv_room (Nat.le_of_ble_eq_true rfl)) dX9_whole_125) hP hD hS hA [3, 4] rfl rfl (fun H locs hP hD hS => ?_)
      have hP : va_P (dC, dI) vwCl [cl_X9 h_this h_this_now h_this_kept h_this_told h_this_text h_this_script h_this_momentReader h_this_spanReader h_this_adder h_this_other h_this_trial h_this_ways i_this, cl_X4 h_this_now h_this_now_day h_this_now_second h_this_now_months h_this_now_days h_this_now_seconds, (h_this_now_day, .inl (cI, 8, .inl f_this_now_day)), cl_X3 h_this_told h_this_told_numbers i_this_told_8, (h_this_told_numbers, .inl (cJ, 8, .inr (.inl f_this_told_numbers_9)))] H := hP
      have hD : va_D A [cl_X9 h_this h_this_now h_this_kept h_this_told h_this_text h_this_script h_this_momentReader h_this_spanReader h_this_adder h_this_other h_this_trial h_this_ways i_this, cl_X4 h_this_now h_this_now_day h_this_now_second h_this_now_months h_this_now_days h_this_now_seconds, (h_this_now_day, .inl (cI, 8, .inl f_this_now_day)), cl_X3 h_this_told h_this_told_numbers i_this_told_8, (h_this_told_numbers, .inl (cJ, 8, .inr (.inl f_this_told_numbers_9)))] := hD
      refine lv_iload hx hb dX9_whole_128 (lv_at hl 0 rfl) ?_
      refine lv_iload hx hb dX9_whole_130 (lv_at hl 4 rfl) ?_
      refine lv_isub hx hb dX9_whole_132 ?_
      obtain ⟨rfl, rfl, rfl⟩ := pj3 h
      exact hEnd _ _ _ _ hP hS dX9_whole_133 rfl
    have h := ite_f c3 h
    refine lv_aload_n hx hb dX9_whole_89 rfl (lv_at hl 1 rfl) ?_
    refine va_get (D := (dC, dI)) (ci := 8) (v := .ref h_this_told) (C := RX9) (T := TX9) (N := 12) hx hb hts inX9 hown hK hP 0 rfl rfl 3 (by decide) (hts _ (kq q_229 rfl)) (fun _ h9 => h9) rfl dX9_whole_90 ?_
    refine lv_iload hx hb dX9_whole_93 (lv_at hl 3 rfl) ?_
    refine lv_iload_n hx hb dX9_whole_95 rfl (lv_at hl 2 rfl) ?_
    refine lv_isub hx hb dX9_whole_96 ?_
    refine lv_i2l hx hb dX9_whole_97 rfl ?_
    refine lv_lconst (v := (0 : Int64)) hx hb dX9_whole_98 (by decide) ?_
    obtain ⟨i_this_told_11, f_this_told_numbers_12, hc13, h⟩ := bd2_at h
    refine kjV (kV (own := "DateSpans") (C := "DateSpans$Row") (b := h_this_told) (As := [.long ((v4 - v3).toInt64), .long (0 : Int64)]) (rest := []) ⟨hx, hb, hml, hown, hts⟩ (kX3_tell_ l dC dI cI cJ cB h_this_told h_this_told_numbers N ((v4 - v3).toInt64) (0 : Int64) i_this_told f_this_told_numbers i_this_told_11 f_this_told_numbers_12 hc13 _) (kgV (kq q_418 rfl) (kq q_419 rfl) (kq q_420 rfl) (kq q_20 rfl) (kq q_421 rfl)) yd_X3_tell_ ⟨Nat.le_of_ble_eq_true rfl, Nat.le_of_ble_eq_true rfl⟩ hN hK hP hD [3, 4] rfl rfl (ci := 2) rfl rfl rfl rfl rfl hl.1 rfl (lv_room (Nat.le_of_ble_eq_true rfl)) dX9_whole_99) hP hD hS hA [3, 4] rfl rfl (fun H locs hP hD hS => ?_)
    have hP : va_P (dC, dI) vwCl [cl_X9 h_this h_this_now h_this_kept h_this_told h_this_text h_this_script h_this_momentReader h_this_spanReader h_this_adder h_this_other h_this_trial h_this_ways i_this, cl_X4 h_this_now h_this_now_day h_this_now_second h_this_now_months h_this_now_days h_this_now_seconds, (h_this_now_day, .inl (cI, 8, .inl f_this_now_day)), cl_X3 h_this_told h_this_told_numbers i_this_told_11, (h_this_told_numbers, .inl (cJ, 8, .inr (.inl f_this_told_numbers_12)))] H := hP
    have hD : va_D A [cl_X9 h_this h_this_now h_this_kept h_this_told h_this_text h_this_script h_this_momentReader h_this_spanReader h_this_adder h_this_other h_this_trial h_this_ways i_this, cl_X4 h_this_now h_this_now_day h_this_now_second h_this_now_months h_this_now_days h_this_now_seconds, (h_this_now_day, .inl (cI, 8, .inl f_this_now_day)), cl_X3 h_this_told h_this_told_numbers i_this_told_11, (h_this_told_numbers, .inl (cJ, 8, .inr (.inl f_this_told_numbers_12)))] := hD
    refine lv_iconst (v := (0 : Int32)) hx hb dX9_whole_102 (by decide) ?_
    obtain ⟨rfl, rfl, rfl⟩ := pj3 h
    exact hEnd _ _ _ _ hP hS dX9_whole_103 rfl
  have h := hf
  unfold fX9_whole at h
  refine lv_iload_n hx hb dX9_whole_0 rfl (lv_at hl 1 rfl) ?_
  obtain ⟨r14, hc15, h⟩ := bd1_at h
  refine kjSI (kS0 (own := "DateSpans") (As := [.int p1]) (rest := []) ⟨hx, hb, hml, hown, hts⟩ (kX9_isSlot l N p1 r14 hc15) (kgS (kq q_267 rfl) (kq q_268 rfl) (kq q_18 rfl) (kq q_269 rfl)) yd_X9_isSlot ⟨Nat.le_of_ble_eq_true rfl, Nat.le_of_ble_eq_true rfl⟩ rfl rfl hl.1 rfl (lv_room (Nat.le_of_ble_eq_true rfl)) dX9_whole_1) ?_
  refine lv_if_eq (tgt := 14) hx hb dX9_whole_4 (by decide) (fun c16 => ?_) (fun c16 => ?_)
  · have h := ite_t c16 h
    refine lv_iconst (v := (-1 : Int32)) hx hb dX9_whole_14 (by decide) ?_
    obtain ⟨rfl, rfl, rfl⟩ := pj3 h
    exact hEnd _ _ _ _ hP hS dX9_whole_15 rfl
  have h := ite_f c16 h
  refine lv_iload_n hx hb dX9_whole_7 rfl (lv_at hl 2 rfl) ?_
  obtain ⟨r17, hc18, h⟩ := bd1_at h
  refine kjSI (kS0 (own := "DateSpans") (As := [.int p2]) (rest := []) ⟨hx, hb, hml, hown, hts⟩ (kX9_isSlot l N p2 r17 hc18) (kgS (kq q_267 rfl) (kq q_268 rfl) (kq q_18 rfl) (kq q_269 rfl)) yd_X9_isSlot ⟨Nat.le_of_ble_eq_true rfl, Nat.le_of_ble_eq_true rfl⟩ rfl rfl hl.1 rfl (lv_room (Nat.le_of_ble_eq_true rfl)) dX9_whole_8) ?_
  refine lv_if_ne (tgt := 16) hx hb dX9_whole_11 (by decide) (fun c19 => ?_) (fun c19 => ?_)
  · have h := ite_f c19 h
    refine lv_aload_n hx hb dX9_whole_16 rfl (lv_at hl 0 rfl) ?_
    refine va_get (D := (dC, dI)) (ci := 8) (v := .ref h_this_now) (C := RX9) (T := TX9) (N := 12) hx hb hts inX9 hown hK hP 0 rfl rfl 0 (by decide) (hts _ (kq q_226 rfl)) (fun _ h9 => h9) rfl dX9_whole_17 ?_
    refine lv_iload_n hx hb dX9_whole_20 rfl (lv_at hl 1 rfl) ?_
    obtain ⟨r20, hc21, h⟩ := bd1_at h
    refine kjI (kV (own := "DateSpans") (C := "DateSpans$Slots") (b := h_this_now) (As := [.int p1]) (rest := []) ⟨hx, hb, hml, hown, hts⟩ (kX4_dayAt l dC dI cI cJ cB h_this_now h_this_now_day h_this_now_second h_this_now_months h_this_now_days h_this_now_seconds N p1 f_this_now_day r20 hc21 _) (kgV (kq q_275 rfl) (kq q_276 rfl) (kq q_277 rfl) (kq q_19 rfl) (kq q_278 rfl)) yd_X4_dayAt ⟨Nat.le_of_ble_eq_true rfl, Nat.le_of_ble_eq_true rfl⟩ hN hK hP hD [1, 2] rfl rfl (ci := 3) rfl rfl rfl rfl rfl hl.1 rfl (lv_room (Nat.le_of_ble_eq_true rfl)) dX9_whole_21) hP hD hS hA [1, 2] rfl rfl (fun H locs hP hD hS => ?_)
    have hP : va_P (dC, dI) vwCl [cl_X9 h_this h_this_now h_this_kept h_this_told h_this_text h_this_script h_this_momentReader h_this_spanReader h_this_adder h_this_other h_this_trial h_this_ways i_this, cl_X4 h_this_now h_this_now_day h_this_now_second h_this_now_months h_this_now_days h_this_now_seconds, (h_this_now_day, .inl (cI, 8, .inl f_this_now_day)), cl_X3 h_this_told h_this_told_numbers i_this_told, (h_this_told_numbers, .inl (cJ, 8, .inr (.inl f_this_told_numbers)))] H := hP
    have hD : va_D A [cl_X9 h_this h_this_now h_this_kept h_this_told h_this_text h_this_script h_this_momentReader h_this_spanReader h_this_adder h_this_other h_this_trial h_this_ways i_this, cl_X4 h_this_now h_this_now_day h_this_now_second h_this_now_months h_this_now_days h_this_now_seconds, (h_this_now_day, .inl (cI, 8, .inl f_this_now_day)), cl_X3 h_this_told h_this_told_numbers i_this_told, (h_this_told_numbers, .inl (cJ, 8, .inr (.inl f_this_told_numbers)))] := hD
    refine lv_aload_n hx hb dX9_whole_24 rfl (lv_at hl 0 rfl) ?_
    refine va_get (D := (dC, dI)) (ci := 8) (v := .ref h_this_now) (C := RX9) (T := TX9) (N := 12) hx hb hts inX9 hown hK hP 0 rfl rfl 0 (by decide) (hts _ (kq q_226 rfl)) (fun _ h9 => h9) rfl dX9_whole_25 ?_
    refine lv_iload_n hx hb dX9_whole_28 rfl (lv_at hl 2 rfl) ?_
    obtain ⟨r22, hc23, h⟩ := bd1_at h
    refine kjI (kV (own := "DateSpans") (C := "DateSpans$Slots") (b := h_this_now) (As := [.int p2]) (rest := [.int r20]) ⟨hx, hb, hml, hown, hts⟩ (kX4_dayAt l dC dI cI cJ cB h_this_now h_this_now_day h_this_now_second h_this_now_months h_this_now_days h_this_now_seconds N p2 f_this_now_day r22 hc23 _) (kgV (kq q_275 rfl) (kq q_276 rfl) (kq q_277 rfl) (kq q_19 rfl) (kq q_278 rfl)) yd_X4_dayAt ⟨Nat.le_of_ble_eq_true rfl, Nat.le_of_ble_eq_true rfl⟩ hN hK hP hD [1, 2] rfl rfl (ci := 3) rfl rfl rfl rfl rfl hl.1 rfl (lv_room (Nat.le_of_ble_eq_true rfl)) dX9_whole_29) hP hD hS hA [1, 2] rfl rfl (fun H locs hP hD hS => ?_)
    have hP : va_P (dC, dI) vwCl [cl_X9 h_this h_this_now h_this_kept h_this_told h_this_text h_this_script h_this_momentReader h_this_spanReader h_this_adder h_this_other h_this_trial h_this_ways i_this, cl_X4 h_this_now h_this_now_day h_this_now_second h_this_now_months h_this_now_days h_this_now_seconds, (h_this_now_day, .inl (cI, 8, .inl f_this_now_day)), cl_X3 h_this_told h_this_told_numbers i_this_told, (h_this_told_numbers, .inl (cJ, 8, .inr (.inl f_this_told_numbers)))] H := hP
    have hD : va_D A [cl_X9 h_this h_this_now h_this_kept h_this_told h_this_text h_this_script h_this_momentReader h_this_spanReader h_this_adder h_this_other h_this_trial h_this_ways i_this, cl_X4 h_this_now h_this_now_day h_this_now_second h_this_now_months h_this_now_days h_this_now_seconds, (h_this_now_day, .inl (cI, 8, .inl f_this_now_day)), cl_X3 h_this_told h_this_told_numbers i_this_told, (h_this_told_numbers, .inl (cJ, 8, .inr (.inl f_this_told_numbers)))] := hD
    refine va_mmin (rest := []) hx hb (hml.trans hl.1.symm) hown (hts _ (kq q_519 rfl)) (hts _ (kq q_520 rfl)) (hts _ (kq q_27 rfl)) (hts _ (kq q_521 rfl)) (Nat.le_of_ble_eq_true rfl) (Nat.le_of_ble_eq_true rfl) (Nat.zero_le _) (Nat.zero_le _) dX9_whole_32 ?_
    refine lv_topi (fun z24 ez24 => ?_)
    have h := nm_at ez24 h
    refine lv_istore_n (lv' := [(3, .int z24), (0, .ref h_this), (1, .int p1), (2, .int p2)]) hx hb dX9_whole_35 rfl hl (by decide) rfl (fun ls hl => ?_)
    refine lv_aload_n hx hb dX9_whole_36 rfl (lv_at hl 1 rfl) ?_
    refine va_get (D := (dC, dI)) (ci := 8) (v := .ref h_this_now) (C := RX9) (T := TX9) (N := 12) hx hb hts inX9 hown hK hP 0 rfl rfl 0 (by decide) (hts _ (kq q_226 rfl)) (fun _ h9 => h9) rfl dX9_whole_37 ?_
    refine lv_iload_n hx hb dX9_whole_40 rfl (lv_at hl 2 rfl) ?_
    obtain ⟨r25, hc26, h⟩ := bd1_at h
    refine kjI (kV (own := "DateSpans") (C := "DateSpans$Slots") (b := h_this_now) (As := [.int p1]) (rest := []) ⟨hx, hb, hml, hown, hts⟩ (kX4_dayAt l dC dI cI cJ cB h_this_now h_this_now_day h_this_now_second h_this_now_months h_this_now_days h_this_now_seconds N p1 f_this_now_day r25 hc26 _) (kgV (kq q_275 rfl) (kq q_276 rfl) (kq q_277 rfl) (kq q_19 rfl) (kq q_278 rfl)) yd_X4_dayAt ⟨Nat.le_of_ble_eq_true rfl, Nat.le_of_ble_eq_true rfl⟩ hN hK hP hD [1, 2] rfl rfl (ci := 3) rfl rfl rfl rfl rfl hl.1 rfl (lv_room (Nat.le_of_ble_eq_true rfl)) dX9_whole_41) hP hD hS hA [1, 2] rfl rfl (fun H locs hP hD hS => ?_)
    have hP : va_P (dC, dI) vwCl [cl_X9 h_this h_this_now h_this_kept h_this_told h_this_text h_this_script h_this_momentReader h_this_spanReader h_this_adder h_this_other h_this_trial h_this_ways i_this, cl_X4 h_this_now h_this_now_day h_this_now_second h_this_now_months h_this_now_days h_this_now_seconds, (h_this_now_day, .inl (cI, 8, .inl f_this_now_day)), cl_X3 h_this_told h_this_told_numbers i_this_told, (h_this_told_numbers, .inl (cJ, 8, .inr (.inl f_this_told_numbers)))] H := hP
    have hD : va_D A [cl_X9 h_this h_this_now h_this_kept h_this_told h_this_text h_this_script h_this_momentReader h_this_spanReader h_this_adder h_this_other h_this_trial h_this_ways i_this, cl_X4 h_this_now h_this_now_day h_this_now_second h_this_now_months h_this_now_days h_this_now_seconds, (h_this_now_day, .inl (cI, 8, .inl f_this_now_day)), cl_X3 h_this_told h_this_told_numbers i_this_told, (h_this_told_numbers, .inl (cJ, 8, .inr (.inl f_this_told_numbers)))] := hD
    refine lv_aload_n hx hb dX9_whole_44 rfl (lv_at hl 1 rfl) ?_
    refine va_get (D := (dC, dI)) (ci := 8) (v := .ref h_this_now) (C := RX9) (T := TX9) (N := 12) hx hb hts inX9 hown hK hP 0 rfl rfl 0 (by decide) (hts _ (kq q_226 rfl)) (fun _ h9 => h9) rfl dX9_whole_45 ?_
    refine lv_iload_n hx hb dX9_whole_48 rfl (lv_at hl 3 rfl) ?_
    obtain ⟨r27, hc28, h⟩ := bd1_at h
    refine kjI (kV (own := "DateSpans") (C := "DateSpans$Slots") (b := h_this_now) (As := [.int p2]) (rest := [.int r25]) ⟨hx, hb, hml, hown, hts⟩ (kX4_dayAt l dC dI cI cJ cB h_this_now h_this_now_day h_this_now_second h_this_now_months h_this_now_days h_this_now_seconds N p2 f_this_now_day r27 hc28 _) (kgV (kq q_275 rfl) (kq q_276 rfl) (kq q_277 rfl) (kq q_19 rfl) (kq q_278 rfl)) yd_X4_dayAt ⟨Nat.le_of_ble_eq_true rfl, Nat.le_of_ble_eq_true rfl⟩ hN hK hP hD [1, 2] rfl rfl (ci := 3) rfl rfl rfl rfl rfl hl.1 rfl (lv_room (Nat.le_of_ble_eq_true rfl)) dX9_whole_49) hP hD hS hA [1, 2] rfl rfl (fun H locs hP hD hS => ?_)
    have hP : va_P (dC, dI) vwCl [cl_X9 h_this h_this_now h_this_kept h_this_told h_this_text h_this_script h_this_momentReader h_this_spanReader h_this_adder h_this_other h_this_trial h_this_ways i_this, cl_X4 h_this_now h_this_now_day h_this_now_second h_this_now_months h_this_now_days h_this_now_seconds, (h_this_now_day, .inl (cI, 8, .inl f_this_now_day)), cl_X3 h_this_told h_this_told_numbers i_this_told, (h_this_told_numbers, .inl (cJ, 8, .inr (.inl f_this_told_numbers)))] H := hP
    have hD : va_D A [cl_X9 h_this h_this_now h_this_kept h_this_told h_this_text h_this_script h_this_momentReader h_this_spanReader h_this_adder h_this_other h_this_trial h_this_ways i_this, cl_X4 h_this_now h_this_now_day h_this_now_second h_this_now_months h_this_now_days h_this_now_seconds, (h_this_now_day, .inl (cI, 8, .inl f_this_now_day)), cl_X3 h_this_told h_this_told_numbers i_this_told, (h_this_told_numbers, .inl (cJ, 8, .inr (.inl f_this_told_numbers)))] := hD
    refine va_mmax (rest := []) hx hb (hml.trans hl.1.symm) hown (hts _ (kq q_522 rfl)) (hts _ (kq q_396 rfl)) (hts _ (kq q_27 rfl)) (hts _ (kq q_397 rfl)) (Nat.le_of_ble_eq_true rfl) (Nat.le_of_ble_eq_true rfl) (Nat.zero_le _) (Nat.zero_le _) dX9_whole_52 ?_
    refine lv_topi (fun z29 ez29 => ?_)
    have h := nm_at ez29 h
    refine lv_istore (lv' := [(4, .int z29), (3, .int z24), (0, .ref h_this), (1, .int p1), (2, .int p2)]) hx hb dX9_whole_55 hl (by decide) rfl (fun ls hl => ?_)
    refine lv_iload_n hx hb dX9_whole_57 rfl (lv_at hl 1 rfl) ?_
    obtain ⟨r30, hc31, h⟩ := bd1_at h
    refine kjSI (kS0 (own := "DateSpans") (As := [.int z24]) (rest := []) ⟨hx, hb, hml, hown, hts⟩ (kX1_monthOf l N z24 r30 hc31) (kgS (kq q_455 rfl) (kq q_387 rfl) (kq q_28 rfl) (kq q_388 rfl)) yd_X1_monthOf ⟨Nat.le_of_ble_eq_true rfl, Nat.le_of_ble_eq_true rfl⟩ rfl rfl hl.1 rfl (lv_room (Nat.le_of_ble_eq_true rfl)) dX9_whole_58) ?_
    refine lv_istore (lv' := [(5, .int r30), (4, .int z29), (3, .int z24), (0, .ref h_this), (1, .int p1), (2, .int p2)]) hx hb dX9_whole_61 hl (by decide) rfl (fun ls hl => ?_)
    refine lv_iload hx hb dX9_whole_63 (lv_at hl 0 rfl) ?_
    obtain ⟨r32, hc33, h⟩ := bd1_at h
    refine kjSI (kS0 (own := "DateSpans") (As := [.int r30]) (rest := []) ⟨hx, hb, hml, hown, hts⟩ (kX1_firstOf l N r30 r32 hc33) (kgS (kq q_547 rfl) (kq q_391 rfl) (kq q_28 rfl) (kq q_392 rfl)) yd_X1_firstOf ⟨Nat.le_of_ble_eq_true rfl, Nat.le_of_ble_eq_true rfl⟩ rfl rfl hl.1 rfl (lv_room (Nat.le_of_ble_eq_true rfl)) dX9_whole_65) ?_
    refine lv_iload_n hx hb dX9_whole_68 rfl (lv_at hl 2 rfl) ?_
    refine lv_icmp_ge (tgt := 75) hx hb dX9_whole_69 (by decide) (fun c34 => ?_) (fun c34 => ?_)
    · have h := ite_t c34 h
      exact JN_75 _ _ _ _ _ _ _ _ h (lv_sub hl [3, 2, 1, 0] rfl) hP hD hS
    have h := ite_f c34 h
    obtain ⟨z35, ez35⟩ : ∃ y : Int32, y = (r30 + (1 : Int32)) := ⟨_, rfl⟩
    have h := nm_at ez35 h
    refine lv_iinc (v := z35) (lv' := [(5, .int z35), (4, .int z29), (3, .int z24), (0, .ref h_this), (1, .int p1), (2, .int p2)]) hx hb dX9_whole_72 hl (k := 0) rfl (by rw [ez35]; rfl) (by decide) rfl (fun ls hl => ?_)
    exact JN_75 _ _ _ _ _ _ _ _ h (lv_sub hl [3, 2, 1, 0] rfl) hP hD hS
  have h := ite_t c19 h
  refine lv_iconst (v := (-1 : Int32)) hx hb dX9_whole_14 (by decide) ?_
  obtain ⟨rfl, rfl, rfl⟩ := pj3 h
  exact hEnd _ _ _ _ hP hS dX9_whole_15 rfl
