noncomputable def fX9_least_l104 (N : Nat) (i_this : Int32) (f_this_now_day : Nat → Int32) (n : Nat) : Int32 → Int32 → Int32 → Int32 → Int32 → Int32 → Int32 → Int32 → Int32 → Int32 → (Nat → Int64) → (Nat → Int32) → Option (Int32 × Int32 × (Nat → Int64) × (Nat → Int32)) := Nat.rec (motive := fun _ => Int32 → Int32 → Int32 → Int32 → Int32 → Int32 → Int32 → Int32 → Int32 → Int32 → (Nat → Int64) → (Nat → Int32) → Option (Int32 × Int32 × (Nat → Int64) × (Nat → Int32))) (fun _ _ _ _ _ _ _ _ _ _ _ _ => none) (fun _ K_104 v3 v4 v5 v6 v7 v8 v9 v10 v11 i_this_told f_this_told_numbers i_this_adder => (if v7 < v11 then (bd2 (fX3_tell_ N v9.toInt64 v10.toInt64 i_this_told f_this_told_numbers) fun i_this_told_2 f_this_told_numbers_3 => (some (v8, i_this_told_2, f_this_told_numbers_3, i_this_adder))) else (bd1 (fX0_takesNumbers N (v6 * v11) (0 : Int32) (0 : Int32) v3 i_this_adder) fun i_this_adder_5 => (bd2 (fX0_leads N v4 (0 : Int32) (0 : Int32) i_this_adder_5) fun r7 i_this_adder_8 => (if r7 = (0 : Int32) then (nm (v11 + (1 : Int32)) fun z11 => (K_104 v3 v4 v5 v6 v7 v8 v9 v10 z11 i_this_told f_this_told_numbers i_this_adder_8)) else (bd1 (fX9_phraseSize N v11 (v5 - (i_this_adder_8 8))) fun r12 => (if v8 ≤ r12 then (nm (v11 + (1 : Int32)) fun z15 => (K_104 v3 v4 v5 v6 v7 v8 v9 v10 z15 i_this_told f_this_told_numbers i_this_adder_8)) else (bd1 (fX9_phraseSize N v11 (v5 - (i_this_adder_8 8))) fun r16 => (nm (v6 * v11) fun z18 => (nm (v5 - (i_this_adder_8 8)) fun z19 => (nm (v11 + (1 : Int32)) fun z20 => (K_104 v3 v4 v5 v6 v7 r16 z18 z19 z20 i_this_told f_this_told_numbers i_this_adder_8)))))))))))) n
theorem fX9_least_l104_s (N : Nat) (i_this : Int32) (f_this_now_day : Nat → Int32) (n : Nat) (v3 : Int32) (v4 : Int32) (v5 : Int32) (v6 : Int32) (v7 : Int32) (v8 : Int32) (v9 : Int32) (v10 : Int32) (v11 : Int32) (i_this_told : Int32) (f_this_told_numbers : Nat → Int64) (i_this_adder : Nat → Int32) : fX9_least_l104 N i_this f_this_now_day (n + 1) v3 v4 v5 v6 v7 v8 v9 v10 v11 i_this_told f_this_told_numbers i_this_adder = (if v7 < v11 then (bd2 (fX3_tell_ N v9.toInt64 v10.toInt64 i_this_told f_this_told_numbers) fun i_this_told_2 f_this_told_numbers_3 => (some (v8, i_this_told_2, f_this_told_numbers_3, i_this_adder))) else (bd1 (fX0_takesNumbers N (v6 * v11) (0 : Int32) (0 : Int32) v3 i_this_adder) fun i_this_adder_5 => (bd2 (fX0_leads N v4 (0 : Int32) (0 : Int32) i_this_adder_5) fun r7 i_this_adder_8 => (if r7 = (0 : Int32) then (nm (v11 + (1 : Int32)) fun z11 => ((fX9_least_l104 N i_this f_this_now_day n) v3 v4 v5 v6 v7 v8 v9 v10 z11 i_this_told f_this_told_numbers i_this_adder_8)) else (bd1 (fX9_phraseSize N v11 (v5 - (i_this_adder_8 8))) fun r12 => (if v8 ≤ r12 then (nm (v11 + (1 : Int32)) fun z15 => ((fX9_least_l104 N i_this f_this_now_day n) v3 v4 v5 v6 v7 v8 v9 v10 z15 i_this_told f_this_told_numbers i_this_adder_8)) else (bd1 (fX9_phraseSize N v11 (v5 - (i_this_adder_8 8))) fun r16 => (nm (v6 * v11) fun z18 => (nm (v5 - (i_this_adder_8 8)) fun z19 => (nm (v11 + (1 : Int32)) fun z20 => ((fX9_least_l104 N i_this f_this_now_day n) v3 v4 v5 v6 v7 r16 z18 z19 z20 i_this_told f_this_told_numbers i_this_adder_8))))))))))) := rfl
theorem fX9_least_l104_0 (N : Nat) (i_this : Int32) (f_this_now_day : Nat → Int32) (v3 : Int32) (v4 : Int32) (v5 : Int32) (v6 : Int32) (v7 : Int32) (v8 : Int32) (v9 : Int32) (v10 : Int32) (v11 : Int32) (i_this_told : Int32) (f_this_told_numbers : Nat → Int64) (i_this_adder : Nat → Int32) : fX9_least_l104 N i_this f_this_now_day 0 v3 v4 v5 v6 v7 v8 v9 v10 v11 i_this_told f_this_told_numbers i_this_adder = none := rfl
noncomputable def fX9_least_j55 (N : Nat) (i_this : Int32) (f_this_now_day : Nat → Int32) (v3 : Int32) (v4 : Int32) (v5 : Int32) (t0 : Int32) (i_this_told : Int32) (f_this_told_numbers : Nat → Int64) (i_this_adder : Nat → Int32) : Option (Int32 × Int32 × (Nat → Int64) × (Nat → Int32)) := (bd1 (fX9_instantOf N v5 (0 : Int32)) fun r21 => (bd2 (fX9_mostMonths N v4 (0 : Int32) r21 v3 (0 : Int32) i_this i_this_adder) fun r23 i_this_adder_24 => (nm (if 0 ≤ r23 then r23 else 0 - r23) fun z26 => (nm (z26 + (12 : Int32)) fun z27 => (bd1 (fX9_phraseSize N (0 : Int32) (v5 - v4)) fun r28 => (nm (v5 - v4) fun z30 => (fX9_least_l104 N i_this f_this_now_day N v3 v4 v5 t0 z27 r28 (0 : Int32) z30 (1 : Int32) i_this_told f_this_told_numbers i_this_adder_24)))))))
noncomputable def fX9_least (N : Nat) (p1 : Int32) (p2 : Int32) (p3 : Int32) (i_this : Int32) (f_this_now_day : Nat → Int32) (i_this_told : Int32) (f_this_told_numbers : Nat → Int64) (i_this_adder : Nat → Int32) : Option (Int32 × Int32 × (Nat → Int64) × (Nat → Int32)) := (bd1 (fX9_isSlot N p1) fun r31 => (if r31 = (0 : Int32) then (some ((-1 : Int32), i_this_told, f_this_told_numbers, i_this_adder)) else (bd1 (fX9_isSlot N p2) fun r34 => (if r34 = (0 : Int32) then (some ((-1 : Int32), i_this_told, f_this_told_numbers, i_this_adder)) else (bd1 (fX9_isLaw N p3) fun r37 => (if r37 = (0 : Int32) then (some ((-1 : Int32), i_this_told, f_this_told_numbers, i_this_adder)) else (bd1 (fX4_dayAt N p1 f_this_now_day) fun r40 => (bd1 (fX4_dayAt N p2 f_this_now_day) fun r42 => (if r40 ≤ r42 then (fX9_least_j55 N i_this f_this_now_day p3 r40 r42 (1 : Int32) i_this_told f_this_told_numbers i_this_adder) else (fX9_least_j55 N i_this f_this_now_day p3 r40 r42 (-1 : Int32) i_this_told f_this_told_numbers i_this_adder))))))))))
set_option maxHeartbeats 4000000 in
set_option maxRecDepth 100000 in
theorem kX9_least (l : Launch) (dC : Nat → ClassId) (dI : Nat → Nat → Nat) (cI cJ cB : ClassId) (h_this h_this_now h_this_kept h_this_told h_this_text h_this_script h_this_momentReader h_this_spanReader h_this_adder h_this_other h_this_trial h_this_ways h_this_now_day h_this_now_second h_this_now_months h_this_now_days h_this_now_seconds h_this_told_numbers : Nat) (N : Nat) (p1 : Int32) (p2 : Int32) (p3 : Int32) (i_this : Int32) (f_this_now_day : Nat → Int32) (i_this_told : Int32) (f_this_told_numbers : Nat → Int64) (i_this_adder : Nat → Int32) (r : Int32) (o_i_this_told : Int32) (o_f_this_told_numbers : Nat → Int64) (o_i_this_adder : Nat → Int32) (hf : fX9_least N p1 p2 p3 i_this f_this_now_day i_this_told f_this_told_numbers i_this_adder = some (r, o_i_this_told, o_f_this_told_numbers, o_i_this_adder)) : MI l yX9_least (kws yX9_least cX9_least 12 (some .int)) (kR 6 147) (dC, dI) (kT cI cJ cB) [.ref h_this, .int p1, .int p2, .int p3] [cl_X9 h_this h_this_now h_this_kept h_this_told h_this_text h_this_script h_this_momentReader h_this_spanReader h_this_adder h_this_other h_this_trial h_this_ways i_this, cl_X4 h_this_now h_this_now_day h_this_now_second h_this_now_months h_this_now_days h_this_now_seconds, (h_this_now_day, .inl (cI, 8, .inl f_this_now_day)), cl_X3 h_this_told h_this_told_numbers i_this_told, (h_this_told_numbers, .inl (cJ, 8, .inr (.inl f_this_told_numbers))), cl_X0 h_this_adder i_this_adder] [cl_X9 h_this h_this_now h_this_kept h_this_told h_this_text h_this_script h_this_momentReader h_this_spanReader h_this_adder h_this_other h_this_trial h_this_ways i_this, cl_X4 h_this_now h_this_now_day h_this_now_second h_this_now_months h_this_now_days h_this_now_seconds, (h_this_now_day, .inl (cI, 8, .inl f_this_now_day)), cl_X3 h_this_told h_this_told_numbers o_i_this_told, (h_this_told_numbers, .inl (cJ, 8, .inr (.inl o_f_this_told_numbers))), cl_X0 h_this_adder o_i_this_adder] r := by
  refine MI.of (cc := cX9_least) (maxL := 12) (by decide) (Nat.le_of_ble_eq_true rfl) (fun p e s m args below meth c A Q ls KC hN hK hP hD hA hl hEnd => ?_)
  obtain ⟨hx, hb, hml, hown, hts⟩ := KC
  have hown : s.vm.findClass "DateSpans" = some m.cls := hown
  have hl : lv_has ls 12 [(0, .ref h_this), (1, .int p1), (2, .int p2), (3, .int p3)] := hl
  have hS : va_S A s.heap s.heap [] := va_S.rf
  have LP_104 : ∀ n_104 : Nat, ∀ (v3 : Int32) (v4 : Int32) (v5 : Int32) (v6 : Int32) (v7 : Int32) (v8 : Int32) (v9 : Int32) (v10 : Int32) (v11 : Int32) (i_this_told : Int32) (f_this_told_numbers : Nat → Int64) (i_this_adder : Nat → Int32) (ls : Array Slot) (H : Heap) (locs : List Loc), fX9_least_l104 N i_this f_this_now_day n_104 v3 v4 v5 v6 v7 v8 v9 v10 v11 i_this_told f_this_told_numbers i_this_adder = some (r, o_i_this_told, o_f_this_told_numbers, o_i_this_adder) → lv_has ls 12 [(0, .ref h_this), (3, .int v3), (4, .int v4), (5, .int v5), (6, .int v6), (7, .int v7), (8, .int v8), (9, .int v9), (10, .int v10), (11, .int v11)] → va_P (dC, dI) vwCl [cl_X9 h_this h_this_now h_this_kept h_this_told h_this_text h_this_script h_this_momentReader h_this_spanReader h_this_adder h_this_other h_this_trial h_this_ways i_this, cl_X4 h_this_now h_this_now_day h_this_now_second h_this_now_months h_this_now_days h_this_now_seconds, (h_this_now_day, .inl (cI, 8, .inl f_this_now_day)), cl_X3 h_this_told h_this_told_numbers i_this_told, (h_this_told_numbers, .inl (cJ, 8, .inr (.inl f_this_told_numbers))), cl_X0 h_this_adder i_this_adder] H → va_D A [cl_X9 h_this h_this_now h_this_kept h_this_told h_this_text h_this_script h_this_momentReader h_this_spanReader h_this_adder h_this_other h_this_trial h_this_ways i_this, cl_X4 h_this_now h_this_now_day h_this_now_second h_this_now_months h_this_now_days h_this_now_seconds, (h_this_now_day, .inl (cI, 8, .inl f_this_now_day)), cl_X3 h_this_told h_this_told_numbers i_this_told, (h_this_told_numbers, .inl (cJ, 8, .inr (.inl f_this_told_numbers))), cl_X0 h_this_adder i_this_adder] → va_S A s.heap H locs → W p l e (kR 6 147) s m args below meth c H locs 0 0 Q (F0 m 104 ls []) := by
    intro n_104
    induction n_104 with
    | zero =>
      intro v3 v4 v5 v6 v7 v8 v9 v10 v11 i_this_told f_this_told_numbers i_this_adder ls H locs h hl hP hD hS
      rw [fX9_least_l104_0] at h; cases h
    | succ n_104 ih_104 =>
      intro v3 v4 v5 v6 v7 v8 v9 v10 v11 i_this_told f_this_told_numbers i_this_adder ls H locs h hl hP hD hS
      rw [fX9_least_l104_s] at h
      refine lv_iload hx hb dX9_least_104 (lv_at hl 9 rfl) ?_
      refine lv_iload hx hb dX9_least_106 (lv_at hl 5 rfl) ?_
      refine lv_icmp_gt (tgt := 202) hx hb dX9_least_108 (by decide) (fun c1 => ?_) (fun c1 => ?_)
      · have h := ite_t c1 h
        refine lv_aload_n hx hb dX9_least_202 rfl (lv_at hl 0 rfl) ?_
        refine va_get (D := (dC, dI)) (ci := 8) (v := .ref h_this_told) (C := RX9) (T := TX9) (N := 12) hx hb hts inX9 hown hK hP 0 rfl rfl 3 (by decide) (hts _ (kq q_295 rfl)) (fun _ h9 => h9) rfl dX9_least_203 ?_
        refine lv_iload hx hb dX9_least_206 (lv_at hl 7 rfl) ?_
        refine lv_i2l hx hb dX9_least_208 rfl ?_
        refine lv_iload hx hb dX9_least_209 (lv_at hl 8 rfl) ?_
        refine lv_i2l hx hb dX9_least_211 rfl ?_
        obtain ⟨i_this_told_2, f_this_told_numbers_3, hc4, h⟩ := bd2_at h
        refine kjV (kV (own := "DateSpans") (C := "DateSpans$Row") (b := h_this_told) (As := [.long v9.toInt64, .long v10.toInt64]) (rest := []) ⟨hx, hb, hml, hown, hts⟩ (kX3_tell_ l dC dI cI cJ cB h_this_told h_this_told_numbers N v9.toInt64 v10.toInt64 i_this_told f_this_told_numbers i_this_told_2 f_this_told_numbers_3 hc4 _) (kgV (kq q_591 rfl) (kq q_446 rfl) (kq q_447 rfl) (kq q_59 rfl) (kq q_448 rfl)) yd_X3_tell_ ⟨Nat.le_of_ble_eq_true rfl, Nat.le_of_ble_eq_true rfl⟩ hN hK hP hD [3, 4] rfl rfl (ci := 2) rfl rfl rfl rfl rfl hl.1 rfl (lv_room (Nat.le_of_ble_eq_true rfl)) dX9_least_212) hP hD hS hA [3, 4] rfl rfl (fun H locs hP hD hS => ?_)
        have hP : va_P (dC, dI) vwCl [cl_X9 h_this h_this_now h_this_kept h_this_told h_this_text h_this_script h_this_momentReader h_this_spanReader h_this_adder h_this_other h_this_trial h_this_ways i_this, cl_X4 h_this_now h_this_now_day h_this_now_second h_this_now_months h_this_now_days h_this_now_seconds, (h_this_now_day, .inl (cI, 8, .inl f_this_now_day)), cl_X3 h_this_told h_this_told_numbers i_this_told_2, (h_this_told_numbers, .inl (cJ, 8, .inr (.inl f_this_told_numbers_3))), cl_X0 h_this_adder i_this_adder] H := hP
        have hD : va_D A [cl_X9 h_this h_this_now h_this_kept h_this_told h_this_text h_this_script h_this_momentReader h_this_spanReader h_this_adder h_this_other h_this_trial h_this_ways i_this, cl_X4 h_this_now h_this_now_day h_this_now_second h_this_now_months h_this_now_days h_this_now_seconds, (h_this_now_day, .inl (cI, 8, .inl f_this_now_day)), cl_X3 h_this_told h_this_told_numbers i_this_told_2, (h_this_told_numbers, .inl (cJ, 8, .inr (.inl f_this_told_numbers_3))), cl_X0 h_this_adder i_this_adder] := hD
        refine lv_iload hx hb dX9_least_215 (lv_at hl 6 rfl) ?_
        obtain ⟨rfl, rfl, rfl, rfl⟩ := pj4 h
        exact hEnd _ _ _ _ hP hS dX9_least_217 rfl
      have h := ite_f c1 h
      refine lv_aload_n hx hb dX9_least_111 rfl (lv_at hl 0 rfl) ?_
      refine va_get (D := (dC, dI)) (ci := 8) (v := .ref h_this_adder) (C := RX9) (T := TX9) (N := 12) hx hb hts inX9 hown hK hP 0 rfl rfl 8 (by decide) (hts _ (kq q_300 rfl)) (fun _ h9 => h9) rfl dX9_least_112 ?_
      refine lv_iload hx hb dX9_least_115 (lv_at hl 4 rfl) ?_
      refine lv_iload hx hb dX9_least_117 (lv_at hl 9 rfl) ?_
      refine lv_imul hx hb dX9_least_119 ?_
      refine lv_iconst (v := (0 : Int32)) hx hb dX9_least_120 (by decide) ?_
      refine lv_iconst (v := (0 : Int32)) hx hb dX9_least_121 (by decide) ?_
      refine lv_iload_n hx hb dX9_least_122 rfl (lv_at hl 1 rfl) ?_
      obtain ⟨i_this_adder_5, hc6, h⟩ := bd1_at h
      refine kjV (kV (own := "DateSpans") (C := "DateSpans$Adder") (b := h_this_adder) (As := [.int (v6 * v11), .int (0 : Int32), .int (0 : Int32), .int v3]) (rest := []) ⟨hx, hb, hml, hown, hts⟩ (kX0_takesNumbers l dC dI cI cJ cB h_this_adder N (v6 * v11) (0 : Int32) (0 : Int32) v3 i_this_adder i_this_adder_5 hc6 _) (kgV (kq q_634 rfl) (kq q_540 rfl) (kq q_541 rfl) (kq q_63 rfl) (kq q_542 rfl)) yd_X0_takesNumbers ⟨Nat.le_of_ble_eq_true rfl, Nat.le_of_ble_eq_true rfl⟩ hN hK hP hD [5] rfl rfl (ci := 0) rfl rfl rfl rfl rfl hl.1 rfl (lv_room (Nat.le_of_ble_eq_true rfl)) dX9_least_123) hP hD hS hA [5] rfl rfl (fun H locs hP hD hS => ?_)
      have hP : va_P (dC, dI) vwCl [cl_X9 h_this h_this_now h_this_kept h_this_told h_this_text h_this_script h_this_momentReader h_this_spanReader h_this_adder h_this_other h_this_trial h_this_ways i_this, cl_X4 h_this_now h_this_now_day h_this_now_second h_this_now_months h_this_now_days h_this_now_seconds, (h_this_now_day, .inl (cI, 8, .inl f_this_now_day)), cl_X3 h_this_told h_this_told_numbers i_this_told, (h_this_told_numbers, .inl (cJ, 8, .inr (.inl f_this_told_numbers))), cl_X0 h_this_adder i_this_adder_5] H := hP
      have hD : va_D A [cl_X9 h_this h_this_now h_this_kept h_this_told h_this_text h_this_script h_this_momentReader h_this_spanReader h_this_adder h_this_other h_this_trial h_this_ways i_this, cl_X4 h_this_now h_this_now_day h_this_now_second h_this_now_months h_this_now_days h_this_now_seconds, (h_this_now_day, .inl (cI, 8, .inl f_this_now_day)), cl_X3 h_this_told h_this_told_numbers i_this_told, (h_this_told_numbers, .inl (cJ, 8, .inr (.inl f_this_told_numbers))), cl_X0 h_this_adder i_this_adder_5] := hD
      refine lv_aload_n hx hb dX9_least_126 rfl (lv_at hl 0 rfl) ?_
      refine va_get (D := (dC, dI)) (ci := 8) (v := .ref h_this_adder) (C := RX9) (T := TX9) (N := 12) hx hb hts inX9 hown hK hP 0 rfl rfl 8 (by decide) (hts _ (kq q_300 rfl)) (fun _ h9 => h9) rfl dX9_least_127 ?_
      refine lv_iload hx hb dX9_least_130 (lv_at hl 2 rfl) ?_
      refine lv_iconst (v := (0 : Int32)) hx hb dX9_least_132 (by decide) ?_
      refine lv_iconst (v := (0 : Int32)) hx hb dX9_least_133 (by decide) ?_
      obtain ⟨r7, i_this_adder_8, hc9, h⟩ := bd2_at h
      refine kjI (kV (own := "DateSpans") (C := "DateSpans$Adder") (b := h_this_adder) (As := [.int v4, .int (0 : Int32), .int (0 : Int32)]) (rest := []) ⟨hx, hb, hml, hown, hts⟩ (kX0_leads l dC dI cI cJ cB h_this_adder N v4 (0 : Int32) (0 : Int32) i_this_adder_5 r7 i_this_adder_8 hc9 _) (kgV (kq q_543 rfl) (kq q_544 rfl) (kq q_545 rfl) (kq q_63 rfl) (kq q_546 rfl)) yd_X0_leads ⟨Nat.le_of_ble_eq_true rfl, Nat.le_of_ble_eq_true rfl⟩ hN hK hP hD [5] rfl rfl (ci := 0) rfl rfl rfl rfl rfl hl.1 rfl (lv_room (Nat.le_of_ble_eq_true rfl)) dX9_least_134) hP hD hS hA [5] rfl rfl (fun H locs hP hD hS => ?_)
      have hP : va_P (dC, dI) vwCl [cl_X9 h_this h_this_now h_this_kept h_this_told h_this_text h_this_script h_this_momentReader h_this_spanReader h_this_adder h_this_other h_this_trial h_this_ways i_this, cl_X4 h_this_now h_this_now_day h_this_now_second h_this_now_months h_this_now_days h_this_now_seconds, (h_this_now_day, .inl (cI, 8, .inl f_this_now_day)), cl_X3 h_this_told h_this_told_numbers i_this_told, (h_this_told_numbers, .inl (cJ, 8, .inr (.inl f_this_told_numbers))), cl_X0 h_this_adder i_this_adder_8] H := hP
      have hD : va_D A [cl_X9 h_this h_this_now h_this_kept h_this_told h_this_text h_this_script h_this_momentReader h_this_spanReader h_this_adder h_this_other h_this_trial h_this_ways i_this, cl_X4 h_this_now h_this_now_day h_this_now_second h_this_now_months h_this_now_days h_this_now_seconds, (h_this_now_day, .inl (cI, 8, .inl f_this_now_day)), cl_X3 h_this_told h_this_told_numbers i_this_told, (h_this_told_numbers, .inl (cJ, 8, .inr (.inl f_this_told_numbers))), cl_X0 h_this_adder i_this_adder_8] := hD
      refine lv_if_eq (tgt := 196) hx hb dX9_least_137 (by decide) (fun c10 => ?_) (fun c10 => ?_)
      · have h := ite_t c10 h
        obtain ⟨z11, ez11⟩ : ∃ y : Int32, y = (v11 + (1 : Int32)) := ⟨_, rfl⟩
        have h := nm_at ez11 h
        refine lv_iinc (v := z11) (lv' := [(11, .int z11), (0, .ref h_this), (3, .int v3), (4, .int v4), (5, .int v5), (6, .int v6), (7, .int v7), (8, .int v8), (9, .int v9), (10, .int v10)]) hx hb dX9_least_196 hl (k := 9) rfl (by rw [ez11]; rfl) (by decide) rfl (fun ls hl => ?_)
        refine lv_goto (tgt := 104) hx hb dX9_least_199 (by decide) ?_
        exact ih_104 _ _ _ _ _ _ _ _ _ _ _ _ _ _ _ h (lv_sub hl [1, 2, 3, 4, 5, 6, 7, 8, 9, 0] rfl) hP hD hS
      have h := ite_f c10 h
      refine lv_iload hx hb dX9_least_140 (lv_at hl 9 rfl) ?_
      refine lv_iload hx hb dX9_least_142 (lv_at hl 3 rfl) ?_
      refine lv_aload_n hx hb dX9_least_144 rfl (lv_at hl 0 rfl) ?_
      refine va_get (D := (dC, dI)) (ci := 8) (v := .ref h_this_adder) (C := RX9) (T := TX9) (N := 12) hx hb hts inX9 hown hK hP 0 rfl rfl 8 (by decide) (hts _ (kq q_300 rfl)) (fun _ h9 => h9) rfl dX9_least_145 ?_
      refine va_getN (D := (dC, dI)) (ci := 0) (v := .int (i_this_adder_8 8)) (C := RX0) (T := TX0) (N := 11) hx hb hts inX0 hown hK hP 5 rfl rfl 8 (by decide) (kN.use hN q_198 rfl) (fun _ h9 => h9) rfl dX9_least_148 ?_
      refine lv_isub hx hb dX9_least_151 ?_
      obtain ⟨r12, hc13, h⟩ := bd1_at h
      refine kjSI (kS0 (own := "DateSpans") (As := [.int v11, .int (v5 - (i_this_adder_8 8))]) (rest := []) ⟨hx, hb, hml, hown, hts⟩ (kX9_phraseSize l N v11 (v5 - (i_this_adder_8 8)) r12 hc13) (kgS (kq q_645 rfl) (kq q_646 rfl) (kq q_57 rfl) (kq q_647 rfl)) yd_X9_phraseSize ⟨Nat.le_of_ble_eq_true rfl, Nat.le_of_ble_eq_true rfl⟩ rfl rfl hl.1 rfl (lv_room (Nat.le_of_ble_eq_true rfl)) dX9_least_152) ?_
      refine lv_iload hx hb dX9_least_155 (lv_at hl 6 rfl) ?_
      refine lv_icmp_ge (tgt := 196) hx hb dX9_least_157 (by decide) (fun c14 => ?_) (fun c14 => ?_)
      · have h := ite_t c14 h
        obtain ⟨z15, ez15⟩ : ∃ y : Int32, y = (v11 + (1 : Int32)) := ⟨_, rfl⟩
        have h := nm_at ez15 h
        refine lv_iinc (v := z15) (lv' := [(11, .int z15), (0, .ref h_this), (3, .int v3), (4, .int v4), (5, .int v5), (6, .int v6), (7, .int v7), (8, .int v8), (9, .int v9), (10, .int v10)]) hx hb dX9_least_196 hl (k := 9) rfl (by rw [ez15]; rfl) (by decide) rfl (fun ls hl => ?_)
        refine lv_goto (tgt := 104) hx hb dX9_least_199 (by decide) ?_
        exact ih_104 _ _ _ _ _ _ _ _ _ _ _ _ _ _ _ h (lv_sub hl [1, 2, 3, 4, 5, 6, 7, 8, 9, 0] rfl) hP hD hS
      have h := ite_f c14 h
      refine lv_iload hx hb dX9_least_160 (lv_at hl 9 rfl) ?_
      refine lv_iload hx hb dX9_least_162 (lv_at hl 3 rfl) ?_
      refine lv_aload_n hx hb dX9_least_164 rfl (lv_at hl 0 rfl) ?_
      refine va_get (D := (dC, dI)) (ci := 8) (v := .ref h_this_adder) (C := RX9) (T := TX9) (N := 12) hx hb hts inX9 hown hK hP 0 rfl rfl 8 (by decide) (hts _ (kq q_300 rfl)) (fun _ h9 => h9) rfl dX9_least_165 ?_
      refine va_getN (D := (dC, dI)) (ci := 0) (v := .int (i_this_adder_8 8)) (C := RX0) (T := TX0) (N := 11) hx hb hts inX0 hown hK hP 5 rfl rfl 8 (by decide) (kN.use hN q_198 rfl) (fun _ h9 => h9) rfl dX9_least_168 ?_
      refine lv_isub hx hb dX9_least_171 ?_
      obtain ⟨r16, hc17, h⟩ := bd1_at h
      refine kjSI (kS0 (own := "DateSpans") (As := [.int v11, .int (v5 - (i_this_adder_8 8))]) (rest := []) ⟨hx, hb, hml, hown, hts⟩ (kX9_phraseSize l N v11 (v5 - (i_this_adder_8 8)) r16 hc17) (kgS (kq q_645 rfl) (kq q_646 rfl) (kq q_57 rfl) (kq q_647 rfl)) yd_X9_phraseSize ⟨Nat.le_of_ble_eq_true rfl, Nat.le_of_ble_eq_true rfl⟩ rfl rfl hl.1 rfl (lv_room (Nat.le_of_ble_eq_true rfl)) dX9_least_172) ?_
      refine lv_istore (lv' := [(8, .int r16), (0, .ref h_this), (3, .int v3), (4, .int v4), (5, .int v5), (6, .int v6), (7, .int v7), (9, .int v9), (10, .int v10), (11, .int v11)]) hx hb dX9_least_175 hl (by decide) rfl (fun ls hl => ?_)
      refine lv_iload hx hb dX9_least_177 (lv_at hl 5 rfl) ?_
      refine lv_iload hx hb dX9_least_179 (lv_at hl 9 rfl) ?_
      refine lv_imul hx hb dX9_least_181 ?_
      refine lv_topi (fun z18 ez18 => ?_)
      have h := nm_at ez18 h
      refine lv_istore (lv' := [(9, .int z18), (8, .int r16), (0, .ref h_this), (3, .int v3), (4, .int v4), (5, .int v5), (6, .int v6), (7, .int v7), (10, .int v10), (11, .int v11)]) hx hb dX9_least_182 hl (by decide) rfl (fun ls hl => ?_)
      refine lv_iload hx hb dX9_least_184 (lv_at hl 5 rfl) ?_
      refine lv_aload_n hx hb dX9_least_186 rfl (lv_at hl 2 rfl) ?_
      refine va_get (D := (dC, dI)) (ci := 8) (v := .ref h_this_adder) (C := RX9) (T := TX9) (N := 12) hx hb hts inX9 hown hK hP 0 rfl rfl 8 (by decide) (hts _ (kq q_300 rfl)) (fun _ h9 => h9) rfl dX9_least_187 ?_
      refine va_getN (D := (dC, dI)) (ci := 0) (v := .int (i_this_adder_8 8)) (C := RX0) (T := TX0) (N := 11) hx hb hts inX0 hown hK hP 5 rfl rfl 8 (by decide) (kN.use hN q_198 rfl) (fun _ h9 => h9) rfl dX9_least_190 ?_
      refine lv_isub hx hb dX9_least_193 ?_
      refine lv_topi (fun z19 ez19 => ?_)
      have h := nm_at ez19 h
      refine lv_istore (lv' := [(10, .int z19), (9, .int z18), (8, .int r16), (0, .ref h_this), (3, .int v3), (4, .int v4), (5, .int v5), (6, .int v6), (7, .int v7), (11, .int v11)]) hx hb dX9_least_194 hl (by decide) rfl (fun ls hl => ?_)
      obtain ⟨z20, ez20⟩ : ∃ y : Int32, y = (v11 + (1 : Int32)) := ⟨_, rfl⟩
      have h := nm_at ez20 h
      refine lv_iinc (v := z20) (lv' := [(11, .int z20), (10, .int z19), (9, .int z18), (8, .int r16), (0, .ref h_this), (3, .int v3), (4, .int v4), (5, .int v5), (6, .int v6), (7, .int v7)]) hx hb dX9_least_196 hl (k := 9) rfl (by rw [ez20]; rfl) (by decide) rfl (fun ls hl => ?_)
      refine lv_goto (tgt := 104) hx hb dX9_least_199 (by decide) ?_
      exact ih_104 _ _ _ _ _ _ _ _ _ _ _ _ _ _ _ h (lv_sub hl [4, 5, 6, 7, 8, 9, 3, 2, 1, 0] rfl) hP hD hS
  have JN_55 : ∀ (v3 : Int32) (v4 : Int32) (v5 : Int32) (t0 : Int32) (i_this_told : Int32) (f_this_told_numbers : Nat → Int64) (i_this_adder : Nat → Int32) (ls : Array Slot) (H : Heap) (locs : List Loc), (fX9_least_j55 N i_this f_this_now_day) v3 v4 v5 t0 i_this_told f_this_told_numbers i_this_adder = some (r, o_i_this_told, o_f_this_told_numbers, o_i_this_adder) → lv_has ls 12 [(0, .ref h_this), (3, .int v3), (4, .int v4), (5, .int v5)] → va_P (dC, dI) vwCl [cl_X9 h_this h_this_now h_this_kept h_this_told h_this_text h_this_script h_this_momentReader h_this_spanReader h_this_adder h_this_other h_this_trial h_this_ways i_this, cl_X4 h_this_now h_this_now_day h_this_now_second h_this_now_months h_this_now_days h_this_now_seconds, (h_this_now_day, .inl (cI, 8, .inl f_this_now_day)), cl_X3 h_this_told h_this_told_numbers i_this_told, (h_this_told_numbers, .inl (cJ, 8, .inr (.inl f_this_told_numbers))), cl_X0 h_this_adder i_this_adder] H → va_D A [cl_X9 h_this h_this_now h_this_kept h_this_told h_this_text h_this_script h_this_momentReader h_this_spanReader h_this_adder h_this_other h_this_trial h_this_ways i_this, cl_X4 h_this_now h_this_now_day h_this_now_second h_this_now_months h_this_now_days h_this_now_seconds, (h_this_now_day, .inl (cI, 8, .inl f_this_now_day)), cl_X3 h_this_told h_this_told_numbers i_this_told, (h_this_told_numbers, .inl (cJ, 8, .inr (.inl f_this_told_numbers))), cl_X0 h_this_adder i_this_adder] → va_S A s.heap H locs → W p l e (kR 6 147) s m args below meth c H locs 0 0 Q (F0 m 55 ls [.int t0]) := by
    intro v3 v4 v5 t0 i_this_told f_this_told_numbers i_this_adder ls H locs h hl hP hD hS
    unfold fX9_least_j55 at h
    refine lv_istore (lv' := [(6, .int t0), (0, .ref h_this), (3, .int v3), (4, .int v4), (5, .int v5)]) hx hb dX9_least_55 hl (by decide) rfl (fun ls hl => ?_)
    refine lv_aload_n hx hb dX9_least_57 rfl (lv_at hl 1 rfl) ?_
    refine lv_iload hx hb dX9_least_58 (lv_at hl 3 rfl) ?_
    refine lv_iconst (v := (0 : Int32)) hx hb dX9_least_60 (by decide) ?_
    refine lv_iload hx hb dX9_least_61 (lv_at hl 4 rfl) ?_
    refine lv_iconst (v := (0 : Int32)) hx hb dX9_least_63 (by decide) ?_
    obtain ⟨r21, hc22, h⟩ := bd1_at h
    refine kjSL (kS0 (own := "DateSpans") (As := [.int v5, .int (0 : Int32)]) (rest := [.int (0 : Int32), .int v4, .ref h_this]) ⟨hx, hb, hml, hown, hts⟩ (kX9_instantOf l N v5 (0 : Int32) r21 hc22) (kgS (kq q_629 rfl) (kq q_585 rfl) (kq q_57 rfl) (kq q_586 rfl)) yd_X9_instantOf ⟨Nat.le_of_ble_eq_true rfl, Nat.le_of_ble_eq_true rfl⟩ rfl rfl hl.1 rfl (lv_room (Nat.le_of_ble_eq_true rfl)) dX9_least_64) ?_
    refine lv_iload_n hx hb dX9_least_67 rfl (lv_at hl 2 rfl) ?_
    refine lv_iconst (v := (0 : Int32)) hx hb dX9_least_68 (by decide) ?_
    obtain ⟨r23, i_this_adder_24, hc25, h⟩ := bd2_at h
    refine kjI (kV (own := "DateSpans") (C := "DateSpans") (b := h_this) (As := [.int v4, .int (0 : Int32), .long r21, .int v3, .int (0 : Int32)]) (rest := []) ⟨hx, hb, hml, hown, hts⟩ (kX9_mostMonths l dC dI cI cJ cB h_this h_this_now h_this_kept h_this_told h_this_text h_this_script h_this_momentReader h_this_spanReader h_this_adder h_this_other h_this_trial h_this_ways N v4 (0 : Int32) r21 v3 (0 : Int32) i_this i_this_adder r23 i_this_adder_24 hc25 _) (kgV (kq q_625 rfl) (kq q_627 rfl) (kq q_10 rfl) (kq q_57 rfl) (kq q_628 rfl)) yd_X9_mostMonths ⟨Nat.le_of_ble_eq_true rfl, Nat.le_of_ble_eq_true rfl⟩ hN hK hP hD [0, 5] rfl rfl (ci := 8) rfl rfl rfl rfl rfl hl.1 rfl (lv_room (Nat.le_of_ble_eq_true rfl)) dX9_least_69) hP hD hS hA [0, 5] rfl rfl (fun H locs hP hD hS => ?_)
    have hP : va_P (dC, dI) vwCl [cl_X9 h_this h_this_now h_this_kept h_this_told h_this_text h_this_script h_this_momentReader h_this_spanReader h_this_adder h_this_other h_this_trial h_this_ways i_this, cl_X4 h_this_now h_this_now_day h_this_now_second h_this_now_months h_this_now_days h_this_now_seconds, (h_this_now_day, .inl (cI, 8, .inl f_this_now_day)), cl_X3 h_this_told h_this_told_numbers i_this_told, (h_this_told_numbers, .inl (cJ, 8, .inr (.inl f_this_told_numbers))), cl_X0 h_this_adder i_this_adder_24] H := hP
    have hD : va_D A [cl_X9 h_this h_this_now h_this_kept h_this_told h_this_text h_this_script h_this_momentReader h_this_spanReader h_this_adder h_this_other h_this_trial h_this_ways i_this, cl_X4 h_this_now h_this_now_day h_this_now_second h_this_now_months h_this_now_days h_this_now_seconds, (h_this_now_day, .inl (cI, 8, .inl f_this_now_day)), cl_X3 h_this_told h_this_told_numbers i_this_told, (h_this_told_numbers, .inl (cJ, 8, .inr (.inl f_this_told_numbers))), cl_X0 h_this_adder i_this_adder_24] := hD
    refine va_mabs (rest := []) hx hb (hml.trans hl.1.symm) hown (hts _ (kq q_631 rfl)) (hts _ (kq q_632 rfl)) (hts _ (kq q_72 rfl)) (hts _ (kq q_633 rfl)) (Nat.le_of_ble_eq_true rfl) (Nat.le_of_ble_eq_true rfl) (Nat.zero_le _) (Nat.zero_le _) dX9_least_72 ?_
    refine lv_topi (fun z26 ez26 => ?_)
    have h := nm_at ez26 h
    refine lv_bipush (v := (12 : Int32)) hx hb dX9_least_75 (by decide) ?_
    refine lv_iadd hx hb dX9_least_77 ?_
    refine lv_topi (fun z27 ez27 => ?_)
    have h := nm_at ez27 h
    refine lv_istore (lv' := [(7, .int z27), (6, .int t0), (0, .ref h_this), (3, .int v3), (4, .int v4), (5, .int v5)]) hx hb dX9_least_78 hl (by decide) rfl (fun ls hl => ?_)
    refine lv_iconst (v := (0 : Int32)) hx hb dX9_least_80 (by decide) ?_
    refine lv_iload hx hb dX9_least_81 (lv_at hl 5 rfl) ?_
    refine lv_iload hx hb dX9_least_83 (lv_at hl 4 rfl) ?_
    refine lv_isub hx hb dX9_least_85 ?_
    obtain ⟨r28, hc29, h⟩ := bd1_at h
    refine kjSI (kS0 (own := "DateSpans") (As := [.int (0 : Int32), .int (v5 - v4)]) (rest := []) ⟨hx, hb, hml, hown, hts⟩ (kX9_phraseSize l N (0 : Int32) (v5 - v4) r28 hc29) (kgS (kq q_645 rfl) (kq q_646 rfl) (kq q_57 rfl) (kq q_647 rfl)) yd_X9_phraseSize ⟨Nat.le_of_ble_eq_true rfl, Nat.le_of_ble_eq_true rfl⟩ rfl rfl hl.1 rfl (lv_room (Nat.le_of_ble_eq_true rfl)) dX9_least_86) ?_
    refine lv_istore (lv' := [(8, .int r28), (7, .int z27), (6, .int t0), (0, .ref h_this), (3, .int v3), (4, .int v4), (5, .int v5)]) hx hb dX9_least_89 hl (by decide) rfl (fun ls hl => ?_)
    refine lv_iconst (v := (0 : Int32)) hx hb dX9_least_91 (by decide) ?_
    refine lv_istore (lv' := [(9, .int (0 : Int32)), (8, .int r28), (7, .int z27), (6, .int t0), (0, .ref h_this), (3, .int v3), (4, .int v4), (5, .int v5)]) hx hb dX9_least_92 hl (by decide) rfl (fun ls hl => ?_)
    refine lv_iload hx hb dX9_least_94 (lv_at hl 7 rfl) ?_
    refine lv_iload hx hb dX9_least_96 (lv_at hl 6 rfl) ?_
    refine lv_isub hx hb dX9_least_98 ?_
    refine lv_topi (fun z30 ez30 => ?_)
    have h := nm_at ez30 h
    refine lv_istore (lv' := [(10, .int z30), (9, .int (0 : Int32)), (8, .int r28), (7, .int z27), (6, .int t0), (0, .ref h_this), (3, .int v3), (4, .int v4), (5, .int v5)]) hx hb dX9_least_99 hl (by decide) rfl (fun ls hl => ?_)
    refine lv_iconst (v := (1 : Int32)) hx hb dX9_least_101 (by decide) ?_
    refine lv_istore (lv' := [(11, .int (1 : Int32)), (10, .int z30), (9, .int (0 : Int32)), (8, .int r28), (7, .int z27), (6, .int t0), (0, .ref h_this), (3, .int v3), (4, .int v4), (5, .int v5)]) hx hb dX9_least_102 hl (by decide) rfl (fun ls hl => ?_)
    exact LP_104 N _ _ _ _ _ _ _ _ _ _ _ _ _ _ _ h (lv_sub hl [6, 7, 8, 9, 5, 4, 3, 2, 1, 0] rfl) hP hD hS
  have h := hf
  unfold fX9_least at h
  refine lv_iload_n hx hb dX9_least_0 rfl (lv_at hl 1 rfl) ?_
  obtain ⟨r31, hc32, h⟩ := bd1_at h
  refine kjSI (kS0 (own := "DateSpans") (As := [.int p1]) (rest := []) ⟨hx, hb, hml, hown, hts⟩ (kX9_isSlot l N p1 r31 hc32) (kgS (kq q_387 rfl) (kq q_388 rfl) (kq q_57 rfl) (kq q_389 rfl)) yd_X9_isSlot ⟨Nat.le_of_ble_eq_true rfl, Nat.le_of_ble_eq_true rfl⟩ rfl rfl hl.1 rfl (lv_room (Nat.le_of_ble_eq_true rfl)) dX9_least_1) ?_
  refine lv_if_eq (tgt := 21) hx hb dX9_least_4 (by decide) (fun c33 => ?_) (fun c33 => ?_)
  · have h := ite_t c33 h
    refine lv_iconst (v := (-1 : Int32)) hx hb dX9_least_21 (by decide) ?_
    obtain ⟨rfl, rfl, rfl, rfl⟩ := pj4 h
    exact hEnd _ _ _ _ hP hS dX9_least_22 rfl
  have h := ite_f c33 h
  refine lv_iload_n hx hb dX9_least_7 rfl (lv_at hl 2 rfl) ?_
  obtain ⟨r34, hc35, h⟩ := bd1_at h
  refine kjSI (kS0 (own := "DateSpans") (As := [.int p2]) (rest := []) ⟨hx, hb, hml, hown, hts⟩ (kX9_isSlot l N p2 r34 hc35) (kgS (kq q_387 rfl) (kq q_388 rfl) (kq q_57 rfl) (kq q_389 rfl)) yd_X9_isSlot ⟨Nat.le_of_ble_eq_true rfl, Nat.le_of_ble_eq_true rfl⟩ rfl rfl hl.1 rfl (lv_room (Nat.le_of_ble_eq_true rfl)) dX9_least_8) ?_
  refine lv_if_eq (tgt := 21) hx hb dX9_least_11 (by decide) (fun c36 => ?_) (fun c36 => ?_)
  · have h := ite_t c36 h
    refine lv_iconst (v := (-1 : Int32)) hx hb dX9_least_21 (by decide) ?_
    obtain ⟨rfl, rfl, rfl, rfl⟩ := pj4 h
    exact hEnd _ _ _ _ hP hS dX9_least_22 rfl
  have h := ite_f c36 h
  refine lv_iload_n hx hb dX9_least_14 rfl (lv_at hl 3 rfl) ?_
  obtain ⟨r37, hc38, h⟩ := bd1_at h
  refine kjSI (kS0 (own := "DateSpans") (As := [.int p3]) (rest := []) ⟨hx, hb, hml, hown, hts⟩ (kX9_isLaw l N p3 r37 hc38) (kgS (kq q_525 rfl) (kq q_526 rfl) (kq q_57 rfl) (kq q_527 rfl)) yd_X9_isLaw ⟨Nat.le_of_ble_eq_true rfl, Nat.le_of_ble_eq_true rfl⟩ rfl rfl hl.1 rfl (lv_room (Nat.le_of_ble_eq_true rfl)) dX9_least_15) ?_
  refine lv_if_ne (tgt := 23) hx hb dX9_least_18 (by decide) (fun c39 => ?_) (fun c39 => ?_)
  · have h := ite_f c39 h
    refine lv_aload_n hx hb dX9_least_23 rfl (lv_at hl 0 rfl) ?_
    refine va_get (D := (dC, dI)) (ci := 8) (v := .ref h_this_now) (C := RX9) (T := TX9) (N := 12) hx hb hts inX9 hown hK hP 0 rfl rfl 0 (by decide) (hts _ (kq q_292 rfl)) (fun _ h9 => h9) rfl dX9_least_24 ?_
    refine lv_iload_n hx hb dX9_least_27 rfl (lv_at hl 1 rfl) ?_
    obtain ⟨r40, hc41, h⟩ := bd1_at h
    refine kjI (kV (own := "DateSpans") (C := "DateSpans$Slots") (b := h_this_now) (As := [.int p1]) (rest := []) ⟨hx, hb, hml, hown, hts⟩ (kX4_dayAt l dC dI cI cJ cB h_this_now h_this_now_day h_this_now_second h_this_now_months h_this_now_days h_this_now_seconds N p1 f_this_now_day r40 hc41 _) (kgV (kq q_404 rfl) (kq q_405 rfl) (kq q_406 rfl) (kq q_58 rfl) (kq q_407 rfl)) yd_X4_dayAt ⟨Nat.le_of_ble_eq_true rfl, Nat.le_of_ble_eq_true rfl⟩ hN hK hP hD [1, 2] rfl rfl (ci := 3) rfl rfl rfl rfl rfl hl.1 rfl (lv_room (Nat.le_of_ble_eq_true rfl)) dX9_least_28) hP hD hS hA [1, 2] rfl rfl (fun H locs hP hD hS => ?_)
    have hP : va_P (dC, dI) vwCl [cl_X9 h_this h_this_now h_this_kept h_this_told h_this_text h_this_script h_this_momentReader h_this_spanReader h_this_adder h_this_other h_this_trial h_this_ways i_this, cl_X4 h_this_now h_this_now_day h_this_now_second h_this_now_months h_this_now_days h_this_now_seconds, (h_this_now_day, .inl (cI, 8, .inl f_this_now_day)), cl_X3 h_this_told h_this_told_numbers i_this_told, (h_this_told_numbers, .inl (cJ, 8, .inr (.inl f_this_told_numbers))), cl_X0 h_this_adder i_this_adder] H := hP
    have hD : va_D A [cl_X9 h_this h_this_now h_this_kept h_this_told h_this_text h_this_script h_this_momentReader h_this_spanReader h_this_adder h_this_other h_this_trial h_this_ways i_this, cl_X4 h_this_now h_this_now_day h_this_now_second h_this_now_months h_this_now_days h_this_now_seconds, (h_this_now_day, .inl (cI, 8, .inl f_this_now_day)), cl_X3 h_this_told h_this_told_numbers i_this_told, (h_this_told_numbers, .inl (cJ, 8, .inr (.inl f_this_told_numbers))), cl_X0 h_this_adder i_this_adder] := hD
    refine lv_istore (lv' := [(4, .int r40), (0, .ref h_this), (1, .int p1), (2, .int p2), (3, .int p3)]) hx hb dX9_least_31 hl (by decide) rfl (fun ls hl => ?_)
    refine lv_aload_n hx hb dX9_least_33 rfl (lv_at hl 1 rfl) ?_
    refine va_get (D := (dC, dI)) (ci := 8) (v := .ref h_this_now) (C := RX9) (T := TX9) (N := 12) hx hb hts inX9 hown hK hP 0 rfl rfl 0 (by decide) (hts _ (kq q_292 rfl)) (fun _ h9 => h9) rfl dX9_least_34 ?_
    refine lv_iload_n hx hb dX9_least_37 rfl (lv_at hl 3 rfl) ?_
    obtain ⟨r42, hc43, h⟩ := bd1_at h
    refine kjI (kV (own := "DateSpans") (C := "DateSpans$Slots") (b := h_this_now) (As := [.int p2]) (rest := []) ⟨hx, hb, hml, hown, hts⟩ (kX4_dayAt l dC dI cI cJ cB h_this_now h_this_now_day h_this_now_second h_this_now_months h_this_now_days h_this_now_seconds N p2 f_this_now_day r42 hc43 _) (kgV (kq q_404 rfl) (kq q_405 rfl) (kq q_406 rfl) (kq q_58 rfl) (kq q_407 rfl)) yd_X4_dayAt ⟨Nat.le_of_ble_eq_true rfl, Nat.le_of_ble_eq_true rfl⟩ hN hK hP hD [1, 2] rfl rfl (ci := 3) rfl rfl rfl rfl rfl hl.1 rfl (lv_room (Nat.le_of_ble_eq_true rfl)) dX9_least_38) hP hD hS hA [1, 2] rfl rfl (fun H locs hP hD hS => ?_)
    have hP : va_P (dC, dI) vwCl [cl_X9 h_this h_this_now h_this_kept h_this_told h_this_text h_this_script h_this_momentReader h_this_spanReader h_this_adder h_this_other h_this_trial h_this_ways i_this, cl_X4 h_this_now h_this_now_day h_this_now_second h_this_now_months h_this_now_days h_this_now_seconds, (h_this_now_day, .inl (cI, 8, .inl f_this_now_day)), cl_X3 h_this_told h_this_told_numbers i_this_told, (h_this_told_numbers, .inl (cJ, 8, .inr (.inl f_this_told_numbers))), cl_X0 h_this_adder i_this_adder] H := hP
    have hD : va_D A [cl_X9 h_this h_this_now h_this_kept h_this_told h_this_text h_this_script h_this_momentReader h_this_spanReader h_this_adder h_this_other h_this_trial h_this_ways i_this, cl_X4 h_this_now h_this_now_day h_this_now_second h_this_now_months h_this_now_days h_this_now_seconds, (h_this_now_day, .inl (cI, 8, .inl f_this_now_day)), cl_X3 h_this_told h_this_told_numbers i_this_told, (h_this_told_numbers, .inl (cJ, 8, .inr (.inl f_this_told_numbers))), cl_X0 h_this_adder i_this_adder] := hD
    refine lv_istore (lv' := [(5, .int r42), (4, .int r40), (0, .ref h_this), (1, .int p1), (2, .int p2), (3, .int p3)]) hx hb dX9_least_41 hl (by decide) rfl (fun ls hl => ?_)
    refine lv_iload hx hb dX9_least_43 (lv_at hl 0 rfl) ?_
    refine lv_iload hx hb dX9_least_45 (lv_at hl 1 rfl) ?_
    refine lv_icmp_ge (tgt := 54) hx hb dX9_least_47 (by decide) (fun c44 => ?_) (fun c44 => ?_)
    · have h := ite_t c44 h
      refine lv_iconst (v := (1 : Int32)) hx hb dX9_least_54 (by decide) ?_
      exact JN_55 _ _ _ _ _ _ _ _ _ _ h (lv_sub hl [2, 5, 1, 0] rfl) hP hD hS
    have h := ite_f c44 h
    refine lv_iconst (v := (-1 : Int32)) hx hb dX9_least_50 (by decide) ?_
    refine lv_goto (tgt := 55) hx hb dX9_least_51 (by decide) ?_
    exact JN_55 _ _ _ _ _ _ _ _ _ _ h (lv_sub hl [2, 5, 1, 0] rfl) hP hD hS
  have h := ite_t c39 h
  refine lv_iconst (v := (-1 : Int32)) hx hb dX9_least_21 (by decide) ?_
  obtain ⟨rfl, rfl, rfl, rfl⟩ := pj4 h
  exact hEnd _ _ _ _ hP hS dX9_least_22 rfl
noncomputable def fX9_age_j62 (N : Nat) (i_this : Int32) (f_this_now_day : Nat → Int32) (v3 : Int32) (v4 : Int32) (t0 : Int32) (i_this_told : Int32) (f_this_told_numbers : Nat → Int64) (i_this_adder : Nat → Int32) : Option (Int32 × Int32 × (Nat → Int64) × (Nat → Int32)) := (bd1 (fX0_takesNumbers N ((12 : Int32) * t0) (0 : Int32) (0 : Int32) (0 : Int32) i_this_adder) fun i_this_adder_1 => (bd2 (fX0_leads N v3 (0 : Int32) (0 : Int32) i_this_adder_1) fun r3 i_this_adder_4 => (nm (i_this_adder_4 8) fun z6 => (bd1 (fX0_takesNumbers N (((12 : Int32) * t0) + (12 : Int32)) (0 : Int32) (0 : Int32) (0 : Int32) i_this_adder_4) fun i_this_adder_7 => (bd2 (fX0_leads N v3 (0 : Int32) (0 : Int32) i_this_adder_7) fun r9 i_this_adder_10 => (if r9 = (0 : Int32) then (bd2 (fX3_tell_ N ((v4 - z6).toInt64) (-2 : Int64) i_this_told f_this_told_numbers) fun i_this_told_13 f_this_told_numbers_14 => (some (t0, i_this_told_13, f_this_told_numbers_14, i_this_adder_10))) else (bd2 (fX3_tell_ N ((v4 - z6).toInt64) (((i_this_adder_10 8) - v4).toInt64) i_this_told f_this_told_numbers) fun i_this_told_16 f_this_told_numbers_17 => (some (t0, i_this_told_16, f_this_told_numbers_17, i_this_adder_10)))))))))
noncomputable def fX9_age (N : Nat) (p1 : Int32) (p2 : Int32) (i_this : Int32) (f_this_now_day : Nat → Int32) (i_this_told : Int32) (f_this_told_numbers : Nat → Int64) (i_this_adder : Nat → Int32) : Option (Int32 × Int32 × (Nat → Int64) × (Nat → Int32)) := (bd1 (fX9_isSlot N p1) fun r19 => (if r19 = (0 : Int32) then (some ((-1 : Int32), i_this_told, f_this_told_numbers, i_this_adder)) else (bd1 (fX9_isSlot N p2) fun r22 => (if r22 = (0 : Int32) then (some ((-1 : Int32), i_this_told, f_this_told_numbers, i_this_adder)) else (bd1 (fX4_dayAt N p1 f_this_now_day) fun r25 => (bd1 (fX4_dayAt N p2 f_this_now_day) fun r27 => (if r25 ≤ r27 then (bd1 (fX9_instantOf N r27 (0 : Int32)) fun r30 => (bd2 (fX9_mostMonths N r25 (0 : Int32) r30 (0 : Int32) (1 : Int32) i_this i_this_adder) fun r32 i_this_adder_33 => (fX9_age_j62 N i_this f_this_now_day r25 r27 (r32 / (12 : Int32)) i_this_told f_this_told_numbers i_this_adder_33))) else (fX9_age_j62 N i_this f_this_now_day r25 r27 (0 : Int32) i_this_told f_this_told_numbers i_this_adder))))))))
set_option maxHeartbeats 4000000 in
set_option maxRecDepth 100000 in
theorem kX9_age (l : Launch) (dC : Nat → ClassId) (dI : Nat → Nat → Nat) (cI cJ cB : ClassId) (h_this h_this_now h_this_kept h_this_told h_this_text h_this_script h_this_momentReader h_this_spanReader h_this_adder h_this_other h_this_trial h_this_ways h_this_now_day h_this_now_second h_this_now_months h_this_now_days h_this_now_seconds h_this_told_numbers : Nat) (N : Nat) (p1 : Int32) (p2 : Int32) (i_this : Int32) (f_this_now_day : Nat → Int32) (i_this_told : Int32) (f_this_told_numbers : Nat → Int64) (i_this_adder : Nat → Int32) (r : Int32) (o_i_this_told : Int32) (o_f_this_told_numbers : Nat → Int64) (o_i_this_adder : Nat → Int32) (hf : fX9_age N p1 p2 i_this f_this_now_day i_this_told f_this_told_numbers i_this_adder = some (r, o_i_this_told, o_f_this_told_numbers, o_i_this_adder)) : MI l yX9_age (kws yX9_age cX9_age 8 (some .int)) (kR 6 147) (dC, dI) (kT cI cJ cB) [.ref h_this, .int p1, .int p2] [cl_X9 h_this h_this_now h_this_kept h_this_told h_this_text h_this_script h_this_momentReader h_this_spanReader h_this_adder h_this_other h_this_trial h_this_ways i_this, cl_X4 h_this_now h_this_now_day h_this_now_second h_this_now_months h_this_now_days h_this_now_seconds, (h_this_now_day, .inl (cI, 8, .inl f_this_now_day)), cl_X3 h_this_told h_this_told_numbers i_this_told, (h_this_told_numbers, .inl (cJ, 8, .inr (.inl f_this_told_numbers))), cl_X0 h_this_adder i_this_adder] [cl_X9 h_this h_this_now h_this_kept h_this_told h_this_text h_this_script h_this_momentReader h_this_spanReader h_this_adder h_this_other h_this_trial h_this_ways i_this, cl_X4 h_this_now h_this_now_day h_this_now_second h_this_now_months h_this_now_days h_this_now_seconds, (h_this_now_day, .inl (cI, 8, .inl f_this_now_day)), cl_X3 h_this_told h_this_told_numbers o_i_this_told, (h_this_told_numbers, .inl (cJ, 8, .inr (.inl o_f_this_told_numbers))), cl_X0 h_this_adder o_i_this_adder] r := by
  refine MI.of (cc := cX9_age) (maxL := 8) (by decide) (Nat.le_of_ble_eq_true rfl) (fun p e s m args below meth c A Q ls KC hN hK hP hD hA hl hEnd => ?_)
  obtain ⟨hx, hb, hml, hown, hts⟩ := KC
  have hown : s.vm.findClass "DateSpans" = some m.cls := hown
  have hl : lv_has ls 8 [(0, .ref h_this), (1, .int p1), (2, .int p2)] := hl
  have hS : va_S A s.heap s.heap [] := va_S.rf
  have JN_62 : ∀ (v3 : Int32) (v4 : Int32) (t0 : Int32) (i_this_told : Int32) (f_this_told_numbers : Nat → Int64) (i_this_adder : Nat → Int32) (ls : Array Slot) (H : Heap) (locs : List Loc), (fX9_age_j62 N i_this f_this_now_day) v3 v4 t0 i_this_told f_this_told_numbers i_this_adder = some (r, o_i_this_told, o_f_this_told_numbers, o_i_this_adder) → lv_has ls 8 [(0, .ref h_this), (3, .int v3), (4, .int v4)] → va_P (dC, dI) vwCl [cl_X9 h_this h_this_now h_this_kept h_this_told h_this_text h_this_script h_this_momentReader h_this_spanReader h_this_adder h_this_other h_this_trial h_this_ways i_this, cl_X4 h_this_now h_this_now_day h_this_now_second h_this_now_months h_this_now_days h_this_now_seconds, (h_this_now_day, .inl (cI, 8, .inl f_this_now_day)), cl_X3 h_this_told h_this_told_numbers i_this_told, (h_this_told_numbers, .inl (cJ, 8, .inr (.inl f_this_told_numbers))), cl_X0 h_this_adder i_this_adder] H → va_D A [cl_X9 h_this h_this_now h_this_kept h_this_told h_this_text h_this_script h_this_momentReader h_this_spanReader h_this_adder h_this_other h_this_trial h_this_ways i_this, cl_X4 h_this_now h_this_now_day h_this_now_second h_this_now_months h_this_now_days h_this_now_seconds, (h_this_now_day, .inl (cI, 8, .inl f_this_now_day)), cl_X3 h_this_told h_this_told_numbers i_this_told, (h_this_told_numbers, .inl (cJ, 8, .inr (.inl f_this_told_numbers))), cl_X0 h_this_adder i_this_adder] → va_S A s.heap H locs → W p l e (kR 6 147) s m args below meth c H locs 0 0 Q (F0 m 62 ls [.int t0]) := by
    intro v3 v4 t0 i_this_told f_this_told_numbers i_this_adder ls H locs h hl hP hD hS
    unfold fX9_age_j62 at h
    refine lv_istore (lv' := [(5, .int t0), (0, .ref h_this), (3, .int v3), (4, .int v4)]) hx hb dX9_age_62 hl (by decide) rfl (fun ls hl => ?_)
    refine lv_aload_n hx hb dX9_age_64 rfl (lv_at hl 1 rfl) ?_
    refine va_get (D := (dC, dI)) (ci := 8) (v := .ref h_this_adder) (C := RX9) (T := TX9) (N := 12) hx hb hts inX9 hown hK hP 0 rfl rfl 8 (by decide) (hts _ (kq q_300 rfl)) (fun _ h9 => h9) rfl dX9_age_65 ?_
    refine lv_bipush (v := (12 : Int32)) hx hb dX9_age_68 (by decide) ?_
    refine lv_iload hx hb dX9_age_70 (lv_at hl 0 rfl) ?_
    refine lv_imul hx hb dX9_age_72 ?_
    refine lv_iconst (v := (0 : Int32)) hx hb dX9_age_73 (by decide) ?_
    refine lv_iconst (v := (0 : Int32)) hx hb dX9_age_74 (by decide) ?_
    refine lv_iconst (v := (0 : Int32)) hx hb dX9_age_75 (by decide) ?_
    obtain ⟨i_this_adder_1, hc2, h⟩ := bd1_at h
    refine kjV (kV (own := "DateSpans") (C := "DateSpans$Adder") (b := h_this_adder) (As := [.int ((12 : Int32) * t0), .int (0 : Int32), .int (0 : Int32), .int (0 : Int32)]) (rest := []) ⟨hx, hb, hml, hown, hts⟩ (kX0_takesNumbers l dC dI cI cJ cB h_this_adder N ((12 : Int32) * t0) (0 : Int32) (0 : Int32) (0 : Int32) i_this_adder i_this_adder_1 hc2 _) (kgV (kq q_634 rfl) (kq q_540 rfl) (kq q_541 rfl) (kq q_63 rfl) (kq q_542 rfl)) yd_X0_takesNumbers ⟨Nat.le_of_ble_eq_true rfl, Nat.le_of_ble_eq_true rfl⟩ hN hK hP hD [5] rfl rfl (ci := 0) rfl rfl rfl rfl rfl hl.1 rfl (lv_room (Nat.le_of_ble_eq_true rfl)) dX9_age_76) hP hD hS hA [5] rfl rfl (fun H locs hP hD hS => ?_)
    have hP : va_P (dC, dI) vwCl [cl_X9 h_this h_this_now h_this_kept h_this_told h_this_text h_this_script h_this_momentReader h_this_spanReader h_this_adder h_this_other h_this_trial h_this_ways i_this, cl_X4 h_this_now h_this_now_day h_this_now_second h_this_now_months h_this_now_days h_this_now_seconds, (h_this_now_day, .inl (cI, 8, .inl f_this_now_day)), cl_X3 h_this_told h_this_told_numbers i_this_told, (h_this_told_numbers, .inl (cJ, 8, .inr (.inl f_this_told_numbers))), cl_X0 h_this_adder i_this_adder_1] H := hP
    have hD : va_D A [cl_X9 h_this h_this_now h_this_kept h_this_told h_this_text h_this_script h_this_momentReader h_this_spanReader h_this_adder h_this_other h_this_trial h_this_ways i_this, cl_X4 h_this_now h_this_now_day h_this_now_second h_this_now_months h_this_now_days h_this_now_seconds, (h_this_now_day, .inl (cI, 8, .inl f_this_now_day)), cl_X3 h_this_told h_this_told_numbers i_this_told, (h_this_told_numbers, .inl (cJ, 8, .inr (.inl f_this_told_numbers))), cl_X0 h_this_adder i_this_adder_1] := hD
    refine lv_aload_n hx hb dX9_age_79 rfl (lv_at hl 1 rfl) ?_
    refine va_get (D := (dC, dI)) (ci := 8) (v := .ref h_this_adder) (C := RX9) (T := TX9) (N := 12) hx hb hts inX9 hown hK hP 0 rfl rfl 8 (by decide) (hts _ (kq q_300 rfl)) (fun _ h9 => h9) rfl dX9_age_80 ?_
    refine lv_iload_n hx hb dX9_age_83 rfl (lv_at hl 2 rfl) ?_
    refine lv_iconst (v := (0 : Int32)) hx hb dX9_age_84 (by decide) ?_
    refine lv_iconst (v := (0 : Int32)) hx hb dX9_age_85 (by decide) ?_
    obtain ⟨r3, i_this_adder_4, hc5, h⟩ := bd2_at h
    refine kjI (kV (own := "DateSpans") (C := "DateSpans$Adder") (b := h_this_adder) (As := [.int v3, .int (0 : Int32), .int (0 : Int32)]) (rest := []) ⟨hx, hb, hml, hown, hts⟩ (kX0_leads l dC dI cI cJ cB h_this_adder N v3 (0 : Int32) (0 : Int32) i_this_adder_1 r3 i_this_adder_4 hc5 _) (kgV (kq q_543 rfl) (kq q_544 rfl) (kq q_545 rfl) (kq q_63 rfl) (kq q_546 rfl)) yd_X0_leads ⟨Nat.le_of_ble_eq_true rfl, Nat.le_of_ble_eq_true rfl⟩ hN hK hP hD [5] rfl rfl (ci := 0) rfl rfl rfl rfl rfl hl.1 rfl (lv_room (Nat.le_of_ble_eq_true rfl)) dX9_age_86) hP hD hS hA [5] rfl rfl (fun H locs hP hD hS => ?_)
    have hP : va_P (dC, dI) vwCl [cl_X9 h_this h_this_now h_this_kept h_this_told h_this_text h_this_script h_this_momentReader h_this_spanReader h_this_adder h_this_other h_this_trial h_this_ways i_this, cl_X4 h_this_now h_this_now_day h_this_now_second h_this_now_months h_this_now_days h_this_now_seconds, (h_this_now_day, .inl (cI, 8, .inl f_this_now_day)), cl_X3 h_this_told h_this_told_numbers i_this_told, (h_this_told_numbers, .inl (cJ, 8, .inr (.inl f_this_told_numbers))), cl_X0 h_this_adder i_this_adder_4] H := hP
    have hD : va_D A [cl_X9 h_this h_this_now h_this_kept h_this_told h_this_text h_this_script h_this_momentReader h_this_spanReader h_this_adder h_this_other h_this_trial h_this_ways i_this, cl_X4 h_this_now h_this_now_day h_this_now_second h_this_now_months h_this_now_days h_this_now_seconds, (h_this_now_day, .inl (cI, 8, .inl f_this_now_day)), cl_X3 h_this_told h_this_told_numbers i_this_told, (h_this_told_numbers, .inl (cJ, 8, .inr (.inl f_this_told_numbers))), cl_X0 h_this_adder i_this_adder_4] := hD
    refine lv_pop hx hb dX9_age_89 rfl ?_
    refine lv_aload_n hx hb dX9_age_90 rfl (lv_at hl 1 rfl) ?_
    refine va_get (D := (dC, dI)) (ci := 8) (v := .ref h_this_adder) (C := RX9) (T := TX9) (N := 12) hx hb hts inX9 hown hK hP 0 rfl rfl 8 (by decide) (hts _ (kq q_300 rfl)) (fun _ h9 => h9) rfl dX9_age_91 ?_
    refine va_getN (D := (dC, dI)) (ci := 0) (v := .int (i_this_adder_4 8)) (C := RX0) (T := TX0) (N := 11) hx hb hts inX0 hown hK hP 5 rfl rfl 8 (by decide) (kN.use hN q_198 rfl) (fun _ h9 => h9) rfl dX9_age_94 ?_
    refine lv_topi (fun z6 ez6 => ?_)
    have h := nm_at ez6 h
    refine lv_istore (lv' := [(6, .int z6), (5, .int t0), (0, .ref h_this), (3, .int v3), (4, .int v4)]) hx hb dX9_age_97 hl (by decide) rfl (fun ls hl => ?_)
    refine lv_aload_n hx hb dX9_age_99 rfl (lv_at hl 2 rfl) ?_
    refine va_get (D := (dC, dI)) (ci := 8) (v := .ref h_this_adder) (C := RX9) (T := TX9) (N := 12) hx hb hts inX9 hown hK hP 0 rfl rfl 8 (by decide) (hts _ (kq q_300 rfl)) (fun _ h9 => h9) rfl dX9_age_100 ?_
    refine lv_bipush (v := (12 : Int32)) hx hb dX9_age_103 (by decide) ?_
    refine lv_iload hx hb dX9_age_105 (lv_at hl 1 rfl) ?_
    refine lv_imul hx hb dX9_age_107 ?_
    refine lv_bipush (v := (12 : Int32)) hx hb dX9_age_108 (by decide) ?_
    refine lv_iadd hx hb dX9_age_110 ?_
    refine lv_iconst (v := (0 : Int32)) hx hb dX9_age_111 (by decide) ?_
    refine lv_iconst (v := (0 : Int32)) hx hb dX9_age_112 (by decide) ?_
    refine lv_iconst (v := (0 : Int32)) hx hb dX9_age_113 (by decide) ?_
    obtain ⟨i_this_adder_7, hc8, h⟩ := bd1_at h
    refine kjV (kV (own := "DateSpans") (C := "DateSpans$Adder") (b := h_this_adder) (As := [.int (((12 : Int32) * t0) + (12 : Int32)), .int (0 : Int32), .int (0 : Int32), .int (0 : Int32)]) (rest := []) ⟨hx, hb, hml, hown, hts⟩ (kX0_takesNumbers l dC dI cI cJ cB h_this_adder N (((12 : Int32) * t0) + (12 : Int32)) (0 : Int32) (0 : Int32) (0 : Int32) i_this_adder_4 i_this_adder_7 hc8 _) (kgV (kq q_634 rfl) (kq q_540 rfl) (kq q_541 rfl) (kq q_63 rfl) (kq q_542 rfl)) yd_X0_takesNumbers ⟨Nat.le_of_ble_eq_true rfl, Nat.le_of_ble_eq_true rfl⟩ hN hK hP hD [5] rfl rfl (ci := 0) rfl rfl rfl rfl rfl hl.1 rfl (lv_room (Nat.le_of_ble_eq_true rfl)) dX9_age_114) hP hD hS hA [5] rfl rfl (fun H locs hP hD hS => ?_)
    have hP : va_P (dC, dI) vwCl [cl_X9 h_this h_this_now h_this_kept h_this_told h_this_text h_this_script h_this_momentReader h_this_spanReader h_this_adder h_this_other h_this_trial h_this_ways i_this, cl_X4 h_this_now h_this_now_day h_this_now_second h_this_now_months h_this_now_days h_this_now_seconds, (h_this_now_day, .inl (cI, 8, .inl f_this_now_day)), cl_X3 h_this_told h_this_told_numbers i_this_told, (h_this_told_numbers, .inl (cJ, 8, .inr (.inl f_this_told_numbers))), cl_X0 h_this_adder i_this_adder_7] H := hP
    have hD : va_D A [cl_X9 h_this h_this_now h_this_kept h_this_told h_this_text h_this_script h_this_momentReader h_this_spanReader h_this_adder h_this_other h_this_trial h_this_ways i_this, cl_X4 h_this_now h_this_now_day h_this_now_second h_this_now_months h_this_now_days h_this_now_seconds, (h_this_now_day, .inl (cI, 8, .inl f_this_now_day)), cl_X3 h_this_told h_this_told_numbers i_this_told, (h_this_told_numbers, .inl (cJ, 8, .inr (.inl f_this_told_numbers))), cl_X0 h_this_adder i_this_adder_7] := hD
    refine lv_aload_n hx hb dX9_age_117 rfl (lv_at hl 2 rfl) ?_
    refine va_get (D := (dC, dI)) (ci := 8) (v := .ref h_this_adder) (C := RX9) (T := TX9) (N := 12) hx hb hts inX9 hown hK hP 0 rfl rfl 8 (by decide) (hts _ (kq q_300 rfl)) (fun _ h9 => h9) rfl dX9_age_118 ?_
    refine lv_iload_n hx hb dX9_age_121 rfl (lv_at hl 3 rfl) ?_
    refine lv_iconst (v := (0 : Int32)) hx hb dX9_age_122 (by decide) ?_
    refine lv_iconst (v := (0 : Int32)) hx hb dX9_age_123 (by decide) ?_
    obtain ⟨r9, i_this_adder_10, hc11, h⟩ := bd2_at h
    refine kjI (kV (own := "DateSpans") (C := "DateSpans$Adder") (b := h_this_adder) (As := [.int v3, .int (0 : Int32), .int (0 : Int32)]) (rest := []) ⟨hx, hb, hml, hown, hts⟩ (kX0_leads l dC dI cI cJ cB h_this_adder N v3 (0 : Int32) (0 : Int32) i_this_adder_7 r9 i_this_adder_10 hc11 _) (kgV (kq q_543 rfl) (kq q_544 rfl) (kq q_545 rfl) (kq q_63 rfl) (kq q_546 rfl)) yd_X0_leads ⟨Nat.le_of_ble_eq_true rfl, Nat.le_of_ble_eq_true rfl⟩ hN hK hP hD [5] rfl rfl (ci := 0) rfl rfl rfl rfl rfl hl.1 rfl (lv_room (Nat.le_of_ble_eq_true rfl)) dX9_age_124) hP hD hS hA [5] rfl rfl (fun H locs hP hD hS => ?_)
    have hP : va_P (dC, dI) vwCl [cl_X9 h_this h_this_now h_this_kept h_this_told h_this_text h_this_script h_this_momentReader h_this_spanReader h_this_adder h_this_other h_this_trial h_this_ways i_this, cl_X4 h_this_now h_this_now_day h_this_now_second h_this_now_months h_this_now_days h_this_now_seconds, (h_this_now_day, .inl (cI, 8, .inl f_this_now_day)), cl_X3 h_this_told h_this_told_numbers i_this_told, (h_this_told_numbers, .inl (cJ, 8, .inr (.inl f_this_told_numbers))), cl_X0 h_this_adder i_this_adder_10] H := hP
    have hD : va_D A [cl_X9 h_this h_this_now h_this_kept h_this_told h_this_text h_this_script h_this_momentReader h_this_spanReader h_this_adder h_this_other h_this_trial h_this_ways i_this, cl_X4 h_this_now h_this_now_day h_this_now_second h_this_now_months h_this_now_days h_this_now_seconds, (h_this_now_day, .inl (cI, 8, .inl f_this_now_day)), cl_X3 h_this_told h_this_told_numbers i_this_told, (h_this_told_numbers, .inl (cJ, 8, .inr (.inl f_this_told_numbers))), cl_X0 h_this_adder i_this_adder_10] := hD
    refine lv_istore (lv' := [(7, .int r9), (6, .int z6), (5, .int t0), (0, .ref h_this), (3, .int v3), (4, .int v4)]) hx hb dX9_age_127 hl (by decide) rfl (fun ls hl => ?_)
    refine lv_aload_n hx hb dX9_age_129 rfl (lv_at hl 3 rfl) ?_
    refine va_get (D := (dC, dI)) (ci := 8) (v := .ref h_this_told) (C := RX9) (T := TX9) (N := 12) hx hb hts inX9 hown hK hP 0 rfl rfl 3 (by decide) (hts _ (kq q_295 rfl)) (fun _ h9 => h9) rfl dX9_age_130 ?_
    refine lv_iload hx hb dX9_age_133 (lv_at hl 5 rfl) ?_
    refine lv_iload hx hb dX9_age_135 (lv_at hl 1 rfl) ?_
    refine lv_isub hx hb dX9_age_137 ?_
    refine lv_i2l hx hb dX9_age_138 rfl ?_
    refine lv_iload hx hb dX9_age_139 (lv_at hl 0 rfl) ?_
    refine lv_if_eq (tgt := 158) hx hb dX9_age_141 (by decide) (fun c12 => ?_) (fun c12 => ?_)
    · have h := ite_t c12 h
      refine lv_ldc2 (v := (-2 : Int64)) hx hb hown (hts _ (kq q_652 rfl)) dX9_age_158 ?_
      obtain ⟨i_this_told_13, f_this_told_numbers_14, hc15, h⟩ := bd2_at h
      refine kjV (kV (own := "DateSpans") (C := "DateSpans$Row") (b := h_this_told) (As := [.long ((v4 - z6).toInt64), .long (-2 : Int64)]) (rest := []) ⟨hx, hb, hml, hown, hts⟩ (kX3_tell_ l dC dI cI cJ cB h_this_told h_this_told_numbers N ((v4 - z6).toInt64) (-2 : Int64) i_this_told f_this_told_numbers i_this_told_13 f_this_told_numbers_14 hc15 _) (kgV (kq q_591 rfl) (kq q_446 rfl) (kq q_447 rfl) (kq q_59 rfl) (kq q_448 rfl)) yd_X3_tell_ ⟨Nat.le_of_ble_eq_true rfl, Nat.le_of_ble_eq_true rfl⟩ hN hK hP hD [3, 4] rfl rfl (ci := 2) rfl rfl rfl rfl rfl hl.1 rfl (lv_room (Nat.le_of_ble_eq_true rfl)) dX9_age_161) hP hD hS hA [3, 4] rfl rfl (fun H locs hP hD hS => ?_)
      have hP : va_P (dC, dI) vwCl [cl_X9 h_this h_this_now h_this_kept h_this_told h_this_text h_this_script h_this_momentReader h_this_spanReader h_this_adder h_this_other h_this_trial h_this_ways i_this, cl_X4 h_this_now h_this_now_day h_this_now_second h_this_now_months h_this_now_days h_this_now_seconds, (h_this_now_day, .inl (cI, 8, .inl f_this_now_day)), cl_X3 h_this_told h_this_told_numbers i_this_told_13, (h_this_told_numbers, .inl (cJ, 8, .inr (.inl f_this_told_numbers_14))), cl_X0 h_this_adder i_this_adder_10] H := hP
      have hD : va_D A [cl_X9 h_this h_this_now h_this_kept h_this_told h_this_text h_this_script h_this_momentReader h_this_spanReader h_this_adder h_this_other h_this_trial h_this_ways i_this, cl_X4 h_this_now h_this_now_day h_this_now_second h_this_now_months h_this_now_days h_this_now_seconds, (h_this_now_day, .inl (cI, 8, .inl f_this_now_day)), cl_X3 h_this_told h_this_told_numbers i_this_told_13, (h_this_told_numbers, .inl (cJ, 8, .inr (.inl f_this_told_numbers_14))), cl_X0 h_this_adder i_this_adder_10] := hD
      refine lv_iload hx hb dX9_age_164 (lv_at hl 2 rfl) ?_
      obtain ⟨rfl, rfl, rfl, rfl⟩ := pj4 h
      exact hEnd _ _ _ _ hP hS dX9_age_166 rfl
    have h := ite_f c12 h
    refine lv_aload_n hx hb dX9_age_144 rfl (lv_at hl 3 rfl) ?_
    refine va_get (D := (dC, dI)) (ci := 8) (v := .ref h_this_adder) (C := RX9) (T := TX9) (N := 12) hx hb hts inX9 hown hK hP 0 rfl rfl 8 (by decide) (hts _ (kq q_300 rfl)) (fun _ h9 => h9) rfl dX9_age_145 ?_
    refine va_getN (D := (dC, dI)) (ci := 0) (v := .int (i_this_adder_10 8)) (C := RX0) (T := TX0) (N := 11) hx hb hts inX0 hown hK hP 5 rfl rfl 8 (by decide) (kN.use hN q_198 rfl) (fun _ h9 => h9) rfl dX9_age_148 ?_
    refine lv_iload hx hb dX9_age_151 (lv_at hl 5 rfl) ?_
    refine lv_isub hx hb dX9_age_153 ?_
    refine lv_i2l hx hb dX9_age_154 rfl ?_
    refine lv_goto (tgt := 161) hx hb dX9_age_155 (by decide) ?_
    obtain ⟨i_this_told_16, f_this_told_numbers_17, hc18, h⟩ := bd2_at h
    refine kjV (kV (own := "DateSpans") (C := "DateSpans$Row") (b := h_this_told) (As := [.long ((v4 - z6).toInt64), .long (((i_this_adder_10 8) - v4).toInt64)]) (rest := []) ⟨hx, hb, hml, hown, hts⟩ (kX3_tell_ l dC dI cI cJ cB h_this_told h_this_told_numbers N ((v4 - z6).toInt64) (((i_this_adder_10 8) - v4).toInt64) i_this_told f_this_told_numbers i_this_told_16 f_this_told_numbers_17 hc18 _) (kgV (kq q_591 rfl) (kq q_446 rfl) (kq q_447 rfl) (kq q_59 rfl) (kq q_448 rfl)) yd_X3_tell_ ⟨Nat.le_of_ble_eq_true rfl, Nat.le_of_ble_eq_true rfl⟩ hN hK hP hD [3, 4] rfl rfl (ci := 2) rfl rfl rfl rfl rfl hl.1 rfl (lv_room (Nat.le_of_ble_eq_true rfl)) dX9_age_161) hP hD hS hA [3, 4] rfl rfl (fun H locs hP hD hS => ?_)
    have hP : va_P (dC, dI) vwCl [cl_X9 h_this h_this_now h_this_kept h_this_told h_this_text h_this_script h_this_momentReader h_this_spanReader h_this_adder h_this_other h_this_trial h_this_ways i_this, cl_X4 h_this_now h_this_now_day h_this_now_second h_this_now_months h_this_now_days h_this_now_seconds, (h_this_now_day, .inl (cI, 8, .inl f_this_now_day)), cl_X3 h_this_told h_this_told_numbers i_this_told_16, (h_this_told_numbers, .inl (cJ, 8, .inr (.inl f_this_told_numbers_17))), cl_X0 h_this_adder i_this_adder_10] H := hP
    have hD : va_D A [cl_X9 h_this h_this_now h_this_kept h_this_told h_this_text h_this_script h_this_momentReader h_this_spanReader h_this_adder h_this_other h_this_trial h_this_ways i_this, cl_X4 h_this_now h_this_now_day h_this_now_second h_this_now_months h_this_now_days h_this_now_seconds, (h_this_now_day, .inl (cI, 8, .inl f_this_now_day)), cl_X3 h_this_told h_this_told_numbers i_this_told_16, (h_this_told_numbers, .inl (cJ, 8, .inr (.inl f_this_told_numbers_17))), cl_X0 h_this_adder i_this_adder_10] := hD
    refine lv_iload hx hb dX9_age_164 (lv_at hl 2 rfl) ?_
    obtain ⟨rfl, rfl, rfl, rfl⟩ := pj4 h
    exact hEnd _ _ _ _ hP hS dX9_age_166 rfl
  have h := hf
  unfold fX9_age at h
  refine lv_iload_n hx hb dX9_age_0 rfl (lv_at hl 1 rfl) ?_
  obtain ⟨r19, hc20, h⟩ := bd1_at h
  refine kjSI (kS0 (own := "DateSpans") (As := [.int p1]) (rest := []) ⟨hx, hb, hml, hown, hts⟩ (kX9_isSlot l N p1 r19 hc20) (kgS (kq q_387 rfl) (kq q_388 rfl) (kq q_57 rfl) (kq q_389 rfl)) yd_X9_isSlot ⟨Nat.le_of_ble_eq_true rfl, Nat.le_of_ble_eq_true rfl⟩ rfl rfl hl.1 rfl (lv_room (Nat.le_of_ble_eq_true rfl)) dX9_age_1) ?_
  refine lv_if_eq (tgt := 14) hx hb dX9_age_4 (by decide) (fun c21 => ?_) (fun c21 => ?_)
  · have h := ite_t c21 h
    refine lv_iconst (v := (-1 : Int32)) hx hb dX9_age_14 (by decide) ?_
    obtain ⟨rfl, rfl, rfl, rfl⟩ := pj4 h
    exact hEnd _ _ _ _ hP hS dX9_age_15 rfl
  have h := ite_f c21 h
  refine lv_iload_n hx hb dX9_age_7 rfl (lv_at hl 2 rfl) ?_
  obtain ⟨r22, hc23, h⟩ := bd1_at h
  refine kjSI (kS0 (own := "DateSpans") (As := [.int p2]) (rest := []) ⟨hx, hb, hml, hown, hts⟩ (kX9_isSlot l N p2 r22 hc23) (kgS (kq q_387 rfl) (kq q_388 rfl) (kq q_57 rfl) (kq q_389 rfl)) yd_X9_isSlot ⟨Nat.le_of_ble_eq_true rfl, Nat.le_of_ble_eq_true rfl⟩ rfl rfl hl.1 rfl (lv_room (Nat.le_of_ble_eq_true rfl)) dX9_age_8) ?_
  refine lv_if_ne (tgt := 16) hx hb dX9_age_11 (by decide) (fun c24 => ?_) (fun c24 => ?_)
  · have h := ite_f c24 h
    refine lv_aload_n hx hb dX9_age_16 rfl (lv_at hl 0 rfl) ?_
    refine va_get (D := (dC, dI)) (ci := 8) (v := .ref h_this_now) (C := RX9) (T := TX9) (N := 12) hx hb hts inX9 hown hK hP 0 rfl rfl 0 (by decide) (hts _ (kq q_292 rfl)) (fun _ h9 => h9) rfl dX9_age_17 ?_
    refine lv_iload_n hx hb dX9_age_20 rfl (lv_at hl 1 rfl) ?_
    obtain ⟨r25, hc26, h⟩ := bd1_at h
    refine kjI (kV (own := "DateSpans") (C := "DateSpans$Slots") (b := h_this_now) (As := [.int p1]) (rest := []) ⟨hx, hb, hml, hown, hts⟩ (kX4_dayAt l dC dI cI cJ cB h_this_now h_this_now_day h_this_now_second h_this_now_months h_this_now_days h_this_now_seconds N p1 f_this_now_day r25 hc26 _) (kgV (kq q_404 rfl) (kq q_405 rfl) (kq q_406 rfl) (kq q_58 rfl) (kq q_407 rfl)) yd_X4_dayAt ⟨Nat.le_of_ble_eq_true rfl, Nat.le_of_ble_eq_true rfl⟩ hN hK hP hD [1, 2] rfl rfl (ci := 3) rfl rfl rfl rfl rfl hl.1 rfl (lv_room (Nat.le_of_ble_eq_true rfl)) dX9_age_21) hP hD hS hA [1, 2] rfl rfl (fun H locs hP hD hS => ?_)
    have hP : va_P (dC, dI) vwCl [cl_X9 h_this h_this_now h_this_kept h_this_told h_this_text h_this_script h_this_momentReader h_this_spanReader h_this_adder h_this_other h_this_trial h_this_ways i_this, cl_X4 h_this_now h_this_now_day h_this_now_second h_this_now_months h_this_now_days h_this_now_seconds, (h_this_now_day, .inl (cI, 8, .inl f_this_now_day)), cl_X3 h_this_told h_this_told_numbers i_this_told, (h_this_told_numbers, .inl (cJ, 8, .inr (.inl f_this_told_numbers))), cl_X0 h_this_adder i_this_adder] H := hP
    have hD : va_D A [cl_X9 h_this h_this_now h_this_kept h_this_told h_this_text h_this_script h_this_momentReader h_this_spanReader h_this_adder h_this_other h_this_trial h_this_ways i_this, cl_X4 h_this_now h_this_now_day h_this_now_second h_this_now_months h_this_now_days h_this_now_seconds, (h_this_now_day, .inl (cI, 8, .inl f_this_now_day)), cl_X3 h_this_told h_this_told_numbers i_this_told, (h_this_told_numbers, .inl (cJ, 8, .inr (.inl f_this_told_numbers))), cl_X0 h_this_adder i_this_adder] := hD
    refine lv_istore_n (lv' := [(3, .int r25), (0, .ref h_this), (1, .int p1), (2, .int p2)]) hx hb dX9_age_24 rfl hl (by decide) rfl (fun ls hl => ?_)
    refine lv_aload_n hx hb dX9_age_25 rfl (lv_at hl 1 rfl) ?_
    refine va_get (D := (dC, dI)) (ci := 8) (v := .ref h_this_now) (C := RX9) (T := TX9) (N := 12) hx hb hts inX9 hown hK hP 0 rfl rfl 0 (by decide) (hts _ (kq q_292 rfl)) (fun _ h9 => h9) rfl dX9_age_26 ?_
    refine lv_iload_n hx hb dX9_age_29 rfl (lv_at hl 3 rfl) ?_
    obtain ⟨r27, hc28, h⟩ := bd1_at h
    refine kjI (kV (own := "DateSpans") (C := "DateSpans$Slots") (b := h_this_now) (As := [.int p2]) (rest := []) ⟨hx, hb, hml, hown, hts⟩ (kX4_dayAt l dC dI cI cJ cB h_this_now h_this_now_day h_this_now_second h_this_now_months h_this_now_days h_this_now_seconds N p2 f_this_now_day r27 hc28 _) (kgV (kq q_404 rfl) (kq q_405 rfl) (kq q_406 rfl) (kq q_58 rfl) (kq q_407 rfl)) yd_X4_dayAt ⟨Nat.le_of_ble_eq_true rfl, Nat.le_of_ble_eq_true rfl⟩ hN hK hP hD [1, 2] rfl rfl (ci := 3) rfl rfl rfl rfl rfl hl.1 rfl (lv_room (Nat.le_of_ble_eq_true rfl)) dX9_age_30) hP hD hS hA [1, 2] rfl rfl (fun H locs hP hD hS => ?_)
    have hP : va_P (dC, dI) vwCl [cl_X9 h_this h_this_now h_this_kept h_this_told h_this_text h_this_script h_this_momentReader h_this_spanReader h_this_adder h_this_other h_this_trial h_this_ways i_this, cl_X4 h_this_now h_this_now_day h_this_now_second h_this_now_months h_this_now_days h_this_now_seconds, (h_this_now_day, .inl (cI, 8, .inl f_this_now_day)), cl_X3 h_this_told h_this_told_numbers i_this_told, (h_this_told_numbers, .inl (cJ, 8, .inr (.inl f_this_told_numbers))), cl_X0 h_this_adder i_this_adder] H := hP
    have hD : va_D A [cl_X9 h_this h_this_now h_this_kept h_this_told h_this_text h_this_script h_this_momentReader h_this_spanReader h_this_adder h_this_other h_this_trial h_this_ways i_this, cl_X4 h_this_now h_this_now_day h_this_now_second h_this_now_months h_this_now_days h_this_now_seconds, (h_this_now_day, .inl (cI, 8, .inl f_this_now_day)), cl_X3 h_this_told h_this_told_numbers i_this_told, (h_this_told_numbers, .inl (cJ, 8, .inr (.inl f_this_told_numbers))), cl_X0 h_this_adder i_this_adder] := hD
    refine lv_istore (lv' := [(4, .int r27), (3, .int r25), (0, .ref h_this), (1, .int p1), (2, .int p2)]) hx hb dX9_age_33 hl (by decide) rfl (fun ls hl => ?_)
    refine lv_iload hx hb dX9_age_35 (lv_at hl 0 rfl) ?_
    refine lv_iload_n hx hb dX9_age_37 rfl (lv_at hl 1 rfl) ?_
    refine lv_icmp_ge (tgt := 45) hx hb dX9_age_38 (by decide) (fun c29 => ?_) (fun c29 => ?_)
    · have h := ite_t c29 h
      refine lv_aload_n hx hb dX9_age_45 rfl (lv_at hl 2 rfl) ?_
      refine lv_iload_n hx hb dX9_age_46 rfl (lv_at hl 1 rfl) ?_
      refine lv_iconst (v := (0 : Int32)) hx hb dX9_age_47 (by decide) ?_
      refine lv_iload hx hb dX9_age_48 (lv_at hl 0 rfl) ?_
      refine lv_iconst (v := (0 : Int32)) hx hb dX9_age_50 (by decide) ?_
      obtain ⟨r30, hc31, h⟩ := bd1_at h
      refine kjSL (kS0 (own := "DateSpans") (As := [.int r27, .int (0 : Int32)]) (rest := [.int (0 : Int32), .int r25, .ref h_this]) ⟨hx, hb, hml, hown, hts⟩ (kX9_instantOf l N r27 (0 : Int32) r30 hc31) (kgS (kq q_629 rfl) (kq q_585 rfl) (kq q_57 rfl) (kq q_586 rfl)) yd_X9_instantOf ⟨Nat.le_of_ble_eq_true rfl, Nat.le_of_ble_eq_true rfl⟩ rfl rfl hl.1 rfl (lv_room (Nat.le_of_ble_eq_true rfl)) dX9_age_51) ?_
      refine lv_iconst (v := (0 : Int32)) hx hb dX9_age_54 (by decide) ?_
      refine lv_iconst (v := (1 : Int32)) hx hb dX9_age_55 (by decide) ?_
      obtain ⟨r32, i_this_adder_33, hc34, h⟩ := bd2_at h
      refine kjI (kV (own := "DateSpans") (C := "DateSpans") (b := h_this) (As := [.int r25, .int (0 : Int32), .long r30, .int (0 : Int32), .int (1 : Int32)]) (rest := []) ⟨hx, hb, hml, hown, hts⟩ (kX9_mostMonths l dC dI cI cJ cB h_this h_this_now h_this_kept h_this_told h_this_text h_this_script h_this_momentReader h_this_spanReader h_this_adder h_this_other h_this_trial h_this_ways N r25 (0 : Int32) r30 (0 : Int32) (1 : Int32) i_this i_this_adder r32 i_this_adder_33 hc34 _) (kgV (kq q_625 rfl) (kq q_627 rfl) (kq q_10 rfl) (kq q_57 rfl) (kq q_628 rfl)) yd_X9_mostMonths ⟨Nat.le_of_ble_eq_true rfl, Nat.le_of_ble_eq_true rfl⟩ hN hK hP hD [0, 5] rfl rfl (ci := 8) rfl rfl rfl rfl rfl hl.1 rfl (lv_room (Nat.le_of_ble_eq_true rfl)) dX9_age_56) hP hD hS hA [0, 5] rfl rfl (fun H locs hP hD hS => ?_)
      have hP : va_P (dC, dI) vwCl [cl_X9 h_this h_this_now h_this_kept h_this_told h_this_text h_this_script h_this_momentReader h_this_spanReader h_this_adder h_this_other h_this_trial h_this_ways i_this, cl_X4 h_this_now h_this_now_day h_this_now_second h_this_now_months h_this_now_days h_this_now_seconds, (h_this_now_day, .inl (cI, 8, .inl f_this_now_day)), cl_X3 h_this_told h_this_told_numbers i_this_told, (h_this_told_numbers, .inl (cJ, 8, .inr (.inl f_this_told_numbers))), cl_X0 h_this_adder i_this_adder_33] H := hP
      have hD : va_D A [cl_X9 h_this h_this_now h_this_kept h_this_told h_this_text h_this_script h_this_momentReader h_this_spanReader h_this_adder h_this_other h_this_trial h_this_ways i_this, cl_X4 h_this_now h_this_now_day h_this_now_second h_this_now_months h_this_now_days h_this_now_seconds, (h_this_now_day, .inl (cI, 8, .inl f_this_now_day)), cl_X3 h_this_told h_this_told_numbers i_this_told, (h_this_told_numbers, .inl (cJ, 8, .inr (.inl f_this_told_numbers))), cl_X0 h_this_adder i_this_adder_33] := hD
      refine lv_bipush (v := (12 : Int32)) hx hb dX9_age_59 (by decide) ?_
      refine lv_idiv hx hb dX9_age_61 (by decide) ?_
      exact JN_62 _ _ _ _ _ _ _ _ _ h (lv_sub hl [2, 1, 0] rfl) hP hD hS
    have h := ite_f c29 h
    refine lv_iconst (v := (0 : Int32)) hx hb dX9_age_41 (by decide) ?_
    refine lv_goto (tgt := 62) hx hb dX9_age_42 (by decide) ?_
    exact JN_62 _ _ _ _ _ _ _ _ _ h (lv_sub hl [2, 1, 0] rfl) hP hD hS
  have h := ite_t c24 h
  refine lv_iconst (v := (-1 : Int32)) hx hb dX9_age_14 (by decide) ?_
  obtain ⟨rfl, rfl, rfl, rfl⟩ := pj4 h
  exact hEnd _ _ _ _ hP hS dX9_age_15 rfl
noncomputable def fJ13_compare_74951 (N : Nat) (p1 : Int64) (p2 : Int64) : Option (Int32) := (if (0 : Int32) ≤ (lg_cmp p1 p2) then (if (lg_cmp p1 p2) = (0 : Int32) then (some (0 : Int32)) else (some (1 : Int32))) else (some (-1 : Int32)))
set_option maxHeartbeats 4000000 in
set_option maxRecDepth 100000 in
theorem kJ13_compare_74951 (l : Launch) (N : Nat) (p1 : Int64) (p2 : Int64) (r : Int32) (hf : fJ13_compare_74951 N p1 p2 = some r) : SI l yJ13_compare_74951 (kws yJ13_compare_74951 cJ13_compare_74951 4 (some .int)) (kR 0 0) [.long p1, .long p2] r := by
  refine SI.of (cc := cJ13_compare_74951) (maxL := 4) (by decide) (Nat.le_of_ble_eq_true rfl) (fun p e s m args below meth c Q ls KC hl hEnd => ?_)
  obtain ⟨hx, hb, hml, hown, hts⟩ := KC
  have hown : s.vm.findClass "java/lang/Long" = some m.cls := hown
  have hl : lv_has ls 4 [(0, .long p1), (2, .long p2)] := hl
  have h := hf
  unfold fJ13_compare_74951 at h
  refine lv_lload_n hx hb dJ13_compare_74951_0 rfl (lv_at hl 0 rfl) ?_
  refine lv_lload_n hx hb dJ13_compare_74951_1 rfl (lv_at hl 1 rfl) ?_
  refine W.lcmp hx hb dJ13_compare_74951_2 ?_
  refine lv_if_ge (tgt := 10) hx hb dJ13_compare_74951_3 (by decide) (fun c1 => ?_) (fun c1 => ?_)
  · have h := ite_t c1 h
    refine lv_lload_n hx hb dJ13_compare_74951_10 rfl (lv_at hl 0 rfl) ?_
    refine lv_lload_n hx hb dJ13_compare_74951_11 rfl (lv_at hl 1 rfl) ?_
    refine W.lcmp hx hb dJ13_compare_74951_12 ?_
    refine lv_if_ne (tgt := 20) hx hb dJ13_compare_74951_13 (by decide) (fun c2 => ?_) (fun c2 => ?_)
    · have h := ite_f c2 h
      refine lv_iconst (v := (1 : Int32)) hx hb dJ13_compare_74951_20 (by decide) ?_
      obtain rfl := pj1 h
      exact hEnd _ _ dJ13_compare_74951_21 rfl
    have h := ite_t c2 h
    refine lv_iconst (v := (0 : Int32)) hx hb dJ13_compare_74951_16 (by decide) ?_
    refine lv_goto (tgt := 21) hx hb dJ13_compare_74951_17 (by decide) ?_
    obtain rfl := pj1 h
    exact hEnd _ _ dJ13_compare_74951_21 rfl
  have h := ite_f c1 h
  refine lv_iconst (v := (-1 : Int32)) hx hb dJ13_compare_74951_6 (by decide) ?_
  refine lv_goto (tgt := 21) hx hb dJ13_compare_74951_7 (by decide) ?_
  obtain rfl := pj1 h
  exact hEnd _ _ dJ13_compare_74951_21 rfl
noncomputable def fX3_at (N : Nat) (p1 : Int32) (i_this : Int32) (f_this_numbers : Nat → Int64) : Option (Int64) := (if p1 < (0 : Int32) then (some (0 : Int64)) else (if (8 : Int32) ≤ p1 then (some (0 : Int64)) else (gi p1 8 (some (f_this_numbers p1.toNatClampNeg)))))
set_option maxHeartbeats 4000000 in
set_option maxRecDepth 100000 in
theorem kX3_at (l : Launch) (dC : Nat → ClassId) (dI : Nat → Nat → Nat) (cI cJ cB : ClassId) (h_this h_this_numbers : Nat) (N : Nat) (p1 : Int32) (i_this : Int32) (f_this_numbers : Nat → Int64) (r : Int64) (hf : fX3_at N p1 i_this f_this_numbers = some r) : ML l yX3_at (kws yX3_at cX3_at 2 (some .long)) (kR 0 0) (dC, dI) (kT cI cJ cB) [.ref h_this, .int p1] [cl_X3 h_this h_this_numbers i_this, (h_this_numbers, .inl (cJ, 8, .inr (.inl f_this_numbers)))] [cl_X3 h_this h_this_numbers i_this, (h_this_numbers, .inl (cJ, 8, .inr (.inl f_this_numbers)))] r := by
  refine ML.of (cc := cX3_at) (maxL := 2) (by decide) (Nat.le_of_ble_eq_true rfl) (fun p e s m args below meth c A Q ls KC hN hK hP hD hA hl hEnd => ?_)
  obtain ⟨hx, hb, hml, hown, hts⟩ := KC
  have hown : s.vm.findClass "DateSpans$Row" = some m.cls := hown
  have hl : lv_has ls 2 [(0, .ref h_this), (1, .int p1)] := hl
  have hS : va_S A s.heap s.heap [] := va_S.rf
  have h := hf
  unfold fX3_at at h
  refine lv_iload_n hx hb dX3_at_0 rfl (lv_at hl 1 rfl) ?_
  refine lv_if_lt (tgt := 22) hx hb dX3_at_1 (by decide) (fun c1 => ?_) (fun c1 => ?_)
  · have h := ite_t c1 h
    refine lv_lconst (v := (0 : Int64)) hx hb dX3_at_22 (by decide) ?_
    obtain rfl := pj1 h
    exact hEnd _ _ _ _ hP hS dX3_at_23
  have h := ite_f c1 h
  refine lv_iload_n hx hb dX3_at_4 rfl (lv_at hl 1 rfl) ?_
  refine lv_aload_n hx hb dX3_at_5 rfl (lv_at hl 0 rfl) ?_
  refine va_get (D := (dC, dI)) (ci := 2) (v := .ref h_this_numbers) (C := RX3) (T := TX3) (N := 2) hx hb hts inX3 hown hK hP 0 rfl rfl 0 (by decide) (hts _ (kq q_118 rfl)) (fun _ h9 => h9) rfl dX3_at_6 ?_
  refine va_alen (v := (8 : Int32)) hx hb hK hP 1 1 rfl (ty := .long) rfl (show Int32.ofNat 8 = (8 : Int32) by decide) dX3_at_9 ?_
  refine lv_icmp_ge (tgt := 22) hx hb dX3_at_10 (by decide) (fun c2 => ?_) (fun c2 => ?_)
  · have h := ite_t c2 h
    refine lv_lconst (v := (0 : Int64)) hx hb dX3_at_22 (by decide) ?_
    obtain rfl := pj1 h
    exact hEnd _ _ _ _ hP hS dX3_at_23
  have h := ite_f c2 h
  refine lv_aload_n hx hb dX3_at_13 rfl (lv_at hl 0 rfl) ?_
  refine va_get (D := (dC, dI)) (ci := 2) (v := .ref h_this_numbers) (C := RX3) (T := TX3) (N := 2) hx hb hts inX3 hown hK hP 0 rfl rfl 0 (by decide) (hts _ (kq q_118 rfl)) (fun _ h9 => h9) rfl dX3_at_14 ?_
  refine lv_iload_n hx hb dX3_at_17 rfl (lv_at hl 1 rfl) ?_
  obtain ⟨hi3, h⟩ := gi_at h
  refine va_lald hx hb hK hP 1 1 rfl rfl hi3 dX3_at_18 ?_
  refine lv_goto (tgt := 23) hx hb dX3_at_19 (by decide) ?_
  obtain rfl := pj1 h
  exact hEnd _ _ _ _ hP hS dX3_at_23
noncomputable def fX3_put (N : Nat) (p1 : Int32) (p2 : Int64) (i_this : Int32) (f_this_numbers : Nat → Int64) : Option ((Nat → Int64)) := (if p1 < (0 : Int32) then (some f_this_numbers) else (if (8 : Int32) ≤ p1 then (some f_this_numbers) else (gi p1 8 (some (vp_updL f_this_numbers p1.toNatClampNeg p2)))))
set_option maxHeartbeats 4000000 in
set_option maxRecDepth 100000 in
theorem kX3_put (l : Launch) (dC : Nat → ClassId) (dI : Nat → Nat → Nat) (cI cJ cB : ClassId) (h_this h_this_numbers : Nat) (N : Nat) (p1 : Int32) (p2 : Int64) (i_this : Int32) (f_this_numbers : Nat → Int64) (o_f_this_numbers : Nat → Int64) (hf : fX3_put N p1 p2 i_this f_this_numbers = some o_f_this_numbers) : MV l yX3_put (kws yX3_put cX3_put 4 (none)) (kR 0 0) (dC, dI) (kT cI cJ cB) [.ref h_this, .int p1, .long p2] [cl_X3 h_this h_this_numbers i_this, (h_this_numbers, .inl (cJ, 8, .inr (.inl f_this_numbers)))] [cl_X3 h_this h_this_numbers i_this, (h_this_numbers, .inl (cJ, 8, .inr (.inl o_f_this_numbers)))] := by
  refine MV.of (cc := cX3_put) (maxL := 4) (by decide) (Nat.le_of_ble_eq_true rfl) (fun p e s m args below meth c A Q ls KC hN hK hP hD hA hl hEnd => ?_)
  obtain ⟨hx, hb, hml, hown, hts⟩ := KC
  have hown : s.vm.findClass "DateSpans$Row" = some m.cls := hown
  have hl : lv_has ls 4 [(0, .ref h_this), (1, .int p1), (2, .long p2)] := hl
  have hS : va_S A s.heap s.heap [] := va_S.rf
  have h := hf
  unfold fX3_put at h
  refine lv_iload_n hx hb dX3_put_0 rfl (lv_at hl 1 rfl) ?_
  refine lv_if_lt (tgt := 20) hx hb dX3_put_1 (by decide) (fun c1 => ?_) (fun c1 => ?_)
  · have h := ite_t c1 h
    obtain rfl := pj1 h
    exact hEnd _ _ _ _ hP hS dX3_put_20
  have h := ite_f c1 h
  refine lv_iload_n hx hb dX3_put_4 rfl (lv_at hl 1 rfl) ?_
  refine lv_aload_n hx hb dX3_put_5 rfl (lv_at hl 0 rfl) ?_
  refine va_get (D := (dC, dI)) (ci := 2) (v := .ref h_this_numbers) (C := RX3) (T := TX3) (N := 2) hx hb hts inX3 hown hK hP 0 rfl rfl 0 (by decide) (hts _ (kq q_118 rfl)) (fun _ h9 => h9) rfl dX3_put_6 ?_
  refine va_alen (v := (8 : Int32)) hx hb hK hP 1 1 rfl (ty := .long) rfl (show Int32.ofNat 8 = (8 : Int32) by decide) dX3_put_9 ?_
  refine lv_icmp_ge (tgt := 20) hx hb dX3_put_10 (by decide) (fun c2 => ?_) (fun c2 => ?_)
  · have h := ite_t c2 h
    obtain rfl := pj1 h
    exact hEnd _ _ _ _ hP hS dX3_put_20
  have h := ite_f c2 h
  refine lv_aload_n hx hb dX3_put_13 rfl (lv_at hl 0 rfl) ?_
  refine va_get (D := (dC, dI)) (ci := 2) (v := .ref h_this_numbers) (C := RX3) (T := TX3) (N := 2) hx hb hts inX3 hown hK hP 0 rfl rfl 0 (by decide) (hts _ (kq q_118 rfl)) (fun _ h9 => h9) rfl dX3_put_14 ?_
  refine lv_iload_n hx hb dX3_put_17 rfl (lv_at hl 1 rfl) ?_
  refine lv_lload_n hx hb dX3_put_18 rfl (lv_at hl 2 rfl) ?_
  obtain ⟨hi3, h⟩ := gi_at h
  refine va_last hx hb hK hP hD hS 1 1 rfl rfl hi3 dX3_put_19 (fun H locs hP hD hS => ?_)
  have hP : va_P (dC, dI) vwCl [cl_X3 h_this h_this_numbers i_this, (h_this_numbers, .inl (cJ, 8, .inr (.inl (vp_updL f_this_numbers p1.toNatClampNeg p2))))] H := hP
  have hD : va_D A [cl_X3 h_this h_this_numbers i_this, (h_this_numbers, .inl (cJ, 8, .inr (.inl (vp_updL f_this_numbers p1.toNatClampNeg p2))))] := hD
  obtain rfl := pj1 h
  exact hEnd _ _ _ _ hP hS dX3_put_20
noncomputable def fX9_compare_j194 (N : Nat) (i_this : Int32) (f_this_now_months : Nat → Int32) (f_this_now_days : Nat → Int32) (f_this_now_seconds : Nat → Int32) (K_100 : Int32 → Int32 → Int32 → (Nat → Int64) → (Nat → Int32) → (Nat → Int32) → Option (Int32 × Int32 × (Nat → Int64) × (Nat → Int32) × (Nat → Int32))) (v4 : Int32) (v5 : Int32) (v6 : Int32) (i_this_told : Int32) (f_this_told_numbers : Nat → Int64) (i_this_adder : Nat → Int32) (i_this_other : Nat → Int32) : Option (Int32 × Int32 × (Nat → Int64) × (Nat → Int32) × (Nat → Int32)) := (bd1 (fX3_at N v6 i_this_told f_this_told_numbers) fun r1 => (bd1 (fX3_put N v6 (r1 + (1 : Int64)) i_this_told f_this_told_numbers) fun f_this_told_numbers_3 => (nm (v5 + (1 : Int32)) fun z5 => (K_100 v4 z5 i_this_told f_this_told_numbers_3 i_this_adder i_this_other))))
noncomputable def fX9_compare_l100 (N : Nat) (i_this : Int32) (f_this_now_months : Nat → Int32) (f_this_now_days : Nat → Int32) (f_this_now_seconds : Nat → Int32) (n : Nat) : Int32 → Int32 → Int32 → (Nat → Int64) → (Nat → Int32) → (Nat → Int32) → Option (Int32 × Int32 × (Nat → Int64) × (Nat → Int32) × (Nat → Int32)) := Nat.rec (motive := fun _ => Int32 → Int32 → Int32 → (Nat → Int64) → (Nat → Int32) → (Nat → Int32) → Option (Int32 × Int32 × (Nat → Int64) × (Nat → Int32) × (Nat → Int32))) (fun _ _ _ _ _ _ => none) (fun _ K_100 v4 v5 i_this_told f_this_told_numbers i_this_adder i_this_other => (if (876215 : Int32) < v5 then (some (v4, i_this_told, f_this_told_numbers, i_this_adder, i_this_other)) else (bd2 (fX0_leads N v5 (0 : Int32) (0 : Int32) i_this_adder) fun r7 i_this_adder_8 => (if r7 = (0 : Int32) then (nm (v5 + (1 : Int32)) fun z11 => (K_100 v4 z11 i_this_told f_this_told_numbers i_this_adder_8 i_this_other)) else (bd2 (fX0_leads N v5 (0 : Int32) (0 : Int32) i_this_other) fun r12 i_this_other_13 => (if r12 = (0 : Int32) then (nm (v5 + (1 : Int32)) fun z16 => (K_100 v4 z16 i_this_told f_this_told_numbers i_this_adder_8 i_this_other_13)) else (bd1 (fX0_instant N i_this_adder_8) fun r17 => (bd1 (fX0_instant N i_this_other_13) fun r19 => (bd1 (fJ13_compare_74951 N r17 r19) fun r21 => (nm ((1 : Int32) + r21) fun z23 => (bd1 (fX3_at N z23 i_this_told f_this_told_numbers) fun r24 => (if (lg_cmp r24 (0 : Int64)) = (0 : Int32) then (bd1 (fX3_put N (z23 + (3 : Int32)) v5.toInt64 i_this_told f_this_told_numbers) fun f_this_told_numbers_27 => (nm (v4 ||| ((1 : Int32) <<< (z23 &&& 31))) fun z29 => (fX9_compare_j194 N i_this f_this_now_months f_this_now_days f_this_now_seconds K_100 z29 v5 z23 i_this_told f_this_told_numbers_27 i_this_adder_8 i_this_other_13))) else (fX9_compare_j194 N i_this f_this_now_months f_this_now_days f_this_now_seconds K_100 v4 v5 z23 i_this_told f_this_told_numbers i_this_adder_8 i_this_other_13))))))))))))) n
theorem fX9_compare_l100_s (N : Nat) (i_this : Int32) (f_this_now_months : Nat → Int32) (f_this_now_days : Nat → Int32) (f_this_now_seconds : Nat → Int32) (n : Nat) (v4 : Int32) (v5 : Int32) (i_this_told : Int32) (f_this_told_numbers : Nat → Int64) (i_this_adder : Nat → Int32) (i_this_other : Nat → Int32) : fX9_compare_l100 N i_this f_this_now_months f_this_now_days f_this_now_seconds (n + 1) v4 v5 i_this_told f_this_told_numbers i_this_adder i_this_other = (if (876215 : Int32) < v5 then (some (v4, i_this_told, f_this_told_numbers, i_this_adder, i_this_other)) else (bd2 (fX0_leads N v5 (0 : Int32) (0 : Int32) i_this_adder) fun r7 i_this_adder_8 => (if r7 = (0 : Int32) then (nm (v5 + (1 : Int32)) fun z11 => ((fX9_compare_l100 N i_this f_this_now_months f_this_now_days f_this_now_seconds n) v4 z11 i_this_told f_this_told_numbers i_this_adder_8 i_this_other)) else (bd2 (fX0_leads N v5 (0 : Int32) (0 : Int32) i_this_other) fun r12 i_this_other_13 => (if r12 = (0 : Int32) then (nm (v5 + (1 : Int32)) fun z16 => ((fX9_compare_l100 N i_this f_this_now_months f_this_now_days f_this_now_seconds n) v4 z16 i_this_told f_this_told_numbers i_this_adder_8 i_this_other_13)) else (bd1 (fX0_instant N i_this_adder_8) fun r17 => (bd1 (fX0_instant N i_this_other_13) fun r19 => (bd1 (fJ13_compare_74951 N r17 r19) fun r21 => (nm ((1 : Int32) + r21) fun z23 => (bd1 (fX3_at N z23 i_this_told f_this_told_numbers) fun r24 => (if (lg_cmp r24 (0 : Int64)) = (0 : Int32) then (bd1 (fX3_put N (z23 + (3 : Int32)) v5.toInt64 i_this_told f_this_told_numbers) fun f_this_told_numbers_27 => (nm (v4 ||| ((1 : Int32) <<< (z23 &&& 31))) fun z29 => (fX9_compare_j194 N i_this f_this_now_months f_this_now_days f_this_now_seconds (fX9_compare_l100 N i_this f_this_now_months f_this_now_days f_this_now_seconds n) z29 v5 z23 i_this_told f_this_told_numbers_27 i_this_adder_8 i_this_other_13))) else (fX9_compare_j194 N i_this f_this_now_months f_this_now_days f_this_now_seconds (fX9_compare_l100 N i_this f_this_now_months f_this_now_days f_this_now_seconds n) v4 v5 z23 i_this_told f_this_told_numbers i_this_adder_8 i_this_other_13)))))))))))) := rfl
theorem fX9_compare_l100_0 (N : Nat) (i_this : Int32) (f_this_now_months : Nat → Int32) (f_this_now_days : Nat → Int32) (f_this_now_seconds : Nat → Int32) (v4 : Int32) (v5 : Int32) (i_this_told : Int32) (f_this_told_numbers : Nat → Int64) (i_this_adder : Nat → Int32) (i_this_other : Nat → Int32) : fX9_compare_l100 N i_this f_this_now_months f_this_now_days f_this_now_seconds 0 v4 v5 i_this_told f_this_told_numbers i_this_adder i_this_other = none := rfl
noncomputable def fX9_compare (N : Nat) (p1 : Int32) (p2 : Int32) (p3 : Int32) (i_this : Int32) (f_this_now_months : Nat → Int32) (f_this_now_days : Nat → Int32) (f_this_now_seconds : Nat → Int32) (i_this_told : Int32) (f_this_told_numbers : Nat → Int64) (i_this_adder : Nat → Int32) (i_this_other : Nat → Int32) : Option (Int32 × Int32 × (Nat → Int64) × (Nat → Int32) × (Nat → Int32)) := (bd1 (fX9_isSlot N p1) fun r30 => (if r30 = (0 : Int32) then (some ((-1 : Int32), i_this_told, f_this_told_numbers, i_this_adder, i_this_other)) else (bd1 (fX9_isSlot N p2) fun r33 => (if r33 = (0 : Int32) then (some ((-1 : Int32), i_this_told, f_this_told_numbers, i_this_adder, i_this_other)) else (bd1 (fX9_isLaw N p3) fun r36 => (if r36 = (0 : Int32) then (some ((-1 : Int32), i_this_told, f_this_told_numbers, i_this_adder, i_this_other)) else (bd2 (fX0_takes N p1 (1 : Int32) p3 i_this_adder f_this_now_months f_this_now_days f_this_now_seconds) fun r39 i_this_adder_40 => (bd2 (fX0_takes N p2 (1 : Int32) p3 i_this_other f_this_now_months f_this_now_days f_this_now_seconds) fun r42 i_this_other_43 => (bd2 (fX3_tell__ N (0 : Int64) (0 : Int64) (0 : Int64) i_this_told f_this_told_numbers) fun i_this_told_45 f_this_told_numbers_46 => (bd2 (fX3_push N (-1 : Int64) i_this_told_45 f_this_told_numbers_46) fun i_this_told_48 f_this_told_numbers_49 => (bd2 (fX3_push N (-1 : Int64) i_this_told_48 f_this_told_numbers_49) fun i_this_told_51 f_this_told_numbers_52 => (bd2 (fX3_push N (-1 : Int64) i_this_told_51 f_this_told_numbers_52) fun i_this_told_54 f_this_told_numbers_55 => (fX9_compare_l100 N i_this f_this_now_months f_this_now_days f_this_now_seconds N (0 : Int32) (730119 : Int32) i_this_told_54 f_this_told_numbers_55 i_this_adder_40 i_this_other_43)))))))))))))
set_option maxHeartbeats 4000000 in
set_option maxRecDepth 100000 in
theorem kX9_compare (l : Launch) (dC : Nat → ClassId) (dI : Nat → Nat → Nat) (cI cJ cB : ClassId) (h_this h_this_now h_this_kept h_this_told h_this_text h_this_script h_this_momentReader h_this_spanReader h_this_adder h_this_other h_this_trial h_this_ways h_this_now_day h_this_now_second h_this_now_months h_this_now_days h_this_now_seconds h_this_told_numbers : Nat) (N : Nat) (p1 : Int32) (p2 : Int32) (p3 : Int32) (i_this : Int32) (f_this_now_months : Nat → Int32) (f_this_now_days : Nat → Int32) (f_this_now_seconds : Nat → Int32) (i_this_told : Int32) (f_this_told_numbers : Nat → Int64) (i_this_adder : Nat → Int32) (i_this_other : Nat → Int32) (r : Int32) (o_i_this_told : Int32) (o_f_this_told_numbers : Nat → Int64) (o_i_this_adder : Nat → Int32) (o_i_this_other : Nat → Int32) (hf : fX9_compare N p1 p2 p3 i_this f_this_now_months f_this_now_days f_this_now_seconds i_this_told f_this_told_numbers i_this_adder i_this_other = some (r, o_i_this_told, o_f_this_told_numbers, o_i_this_adder, o_i_this_other)) : MI l yX9_compare (kws yX9_compare cX9_compare 7 (some .int)) (kR 5 117) (dC, dI) (kT cI cJ cB) [.ref h_this, .int p1, .int p2, .int p3] [cl_X9 h_this h_this_now h_this_kept h_this_told h_this_text h_this_script h_this_momentReader h_this_spanReader h_this_adder h_this_other h_this_trial h_this_ways i_this, cl_X4 h_this_now h_this_now_day h_this_now_second h_this_now_months h_this_now_days h_this_now_seconds, (h_this_now_months, .inl (cI, 8, .inl f_this_now_months)), (h_this_now_days, .inl (cI, 8, .inl f_this_now_days)), (h_this_now_seconds, .inl (cI, 8, .inl f_this_now_seconds)), cl_X3 h_this_told h_this_told_numbers i_this_told, (h_this_told_numbers, .inl (cJ, 8, .inr (.inl f_this_told_numbers))), cl_X0 h_this_adder i_this_adder, cl_X0 h_this_other i_this_other] [cl_X9 h_this h_this_now h_this_kept h_this_told h_this_text h_this_script h_this_momentReader h_this_spanReader h_this_adder h_this_other h_this_trial h_this_ways i_this, cl_X4 h_this_now h_this_now_day h_this_now_second h_this_now_months h_this_now_days h_this_now_seconds, (h_this_now_months, .inl (cI, 8, .inl f_this_now_months)), (h_this_now_days, .inl (cI, 8, .inl f_this_now_days)), (h_this_now_seconds, .inl (cI, 8, .inl f_this_now_seconds)), cl_X3 h_this_told h_this_told_numbers o_i_this_told, (h_this_told_numbers, .inl (cJ, 8, .inr (.inl o_f_this_told_numbers))), cl_X0 h_this_adder o_i_this_adder, cl_X0 h_this_other o_i_this_other] r := by
  refine MI.of (cc := cX9_compare) (maxL := 7) (by decide) (Nat.le_of_ble_eq_true rfl) (fun p e s m args below meth c A Q ls KC hN hK hP hD hA hl hEnd => ?_)
  obtain ⟨hx, hb, hml, hown, hts⟩ := KC
  have hown : s.vm.findClass "DateSpans" = some m.cls := hown
  have hl : lv_has ls 7 [(0, .ref h_this), (1, .int p1), (2, .int p2), (3, .int p3)] := hl
  have hS : va_S A s.heap s.heap [] := va_S.rf
  have LP_100 : ∀ n_100 : Nat, ∀ (v4 : Int32) (v5 : Int32) (i_this_told : Int32) (f_this_told_numbers : Nat → Int64) (i_this_adder : Nat → Int32) (i_this_other : Nat → Int32) (ls : Array Slot) (H : Heap) (locs : List Loc), fX9_compare_l100 N i_this f_this_now_months f_this_now_days f_this_now_seconds n_100 v4 v5 i_this_told f_this_told_numbers i_this_adder i_this_other = some (r, o_i_this_told, o_f_this_told_numbers, o_i_this_adder, o_i_this_other) → lv_has ls 7 [(0, .ref h_this), (4, .int v4), (5, .int v5)] → va_P (dC, dI) vwCl [cl_X9 h_this h_this_now h_this_kept h_this_told h_this_text h_this_script h_this_momentReader h_this_spanReader h_this_adder h_this_other h_this_trial h_this_ways i_this, cl_X4 h_this_now h_this_now_day h_this_now_second h_this_now_months h_this_now_days h_this_now_seconds, (h_this_now_months, .inl (cI, 8, .inl f_this_now_months)), (h_this_now_days, .inl (cI, 8, .inl f_this_now_days)), (h_this_now_seconds, .inl (cI, 8, .inl f_this_now_seconds)), cl_X3 h_this_told h_this_told_numbers i_this_told, (h_this_told_numbers, .inl (cJ, 8, .inr (.inl f_this_told_numbers))), cl_X0 h_this_adder i_this_adder, cl_X0 h_this_other i_this_other] H → va_D A [cl_X9 h_this h_this_now h_this_kept h_this_told h_this_text h_this_script h_this_momentReader h_this_spanReader h_this_adder h_this_other h_this_trial h_this_ways i_this, cl_X4 h_this_now h_this_now_day h_this_now_second h_this_now_months h_this_now_days h_this_now_seconds, (h_this_now_months, .inl (cI, 8, .inl f_this_now_months)), (h_this_now_days, .inl (cI, 8, .inl f_this_now_days)), (h_this_now_seconds, .inl (cI, 8, .inl f_this_now_seconds)), cl_X3 h_this_told h_this_told_numbers i_this_told, (h_this_told_numbers, .inl (cJ, 8, .inr (.inl f_this_told_numbers))), cl_X0 h_this_adder i_this_adder, cl_X0 h_this_other i_this_other] → va_S A s.heap H locs → W p l e (kR 5 117) s m args below meth c H locs 0 0 Q (F0 m 100 ls []) := by
    intro n_100
    induction n_100 with
    | zero =>
      intro v4 v5 i_this_told f_this_told_numbers i_this_adder i_this_other ls H locs h hl hP hD hS
      rw [fX9_compare_l100_0] at h; cases h
    | succ n_100 ih_100 =>
      have JN_194 : ∀ (v4 : Int32) (v5 : Int32) (v6 : Int32) (i_this_told : Int32) (f_this_told_numbers : Nat → Int64) (i_this_adder : Nat → Int32) (i_this_other : Nat → Int32) (ls : Array Slot) (H : Heap) (locs : List Loc), (fX9_compare_j194 N i_this f_this_now_months f_this_now_days f_this_now_seconds (fX9_compare_l100 N i_this f_this_now_months f_this_now_days f_this_now_seconds n_100)) v4 v5 v6 i_this_told f_this_told_numbers i_this_adder i_this_other = some (r, o_i_this_told, o_f_this_told_numbers, o_i_this_adder, o_i_this_other) → lv_has ls 7 [(0, .ref h_this), (4, .int v4), (5, .int v5), (6, .int v6)] → va_P (dC, dI) vwCl [cl_X9 h_this h_this_now h_this_kept h_this_told h_this_text h_this_script h_this_momentReader h_this_spanReader h_this_adder h_this_other h_this_trial h_this_ways i_this, cl_X4 h_this_now h_this_now_day h_this_now_second h_this_now_months h_this_now_days h_this_now_seconds, (h_this_now_months, .inl (cI, 8, .inl f_this_now_months)), (h_this_now_days, .inl (cI, 8, .inl f_this_now_days)), (h_this_now_seconds, .inl (cI, 8, .inl f_this_now_seconds)), cl_X3 h_this_told h_this_told_numbers i_this_told, (h_this_told_numbers, .inl (cJ, 8, .inr (.inl f_this_told_numbers))), cl_X0 h_this_adder i_this_adder, cl_X0 h_this_other i_this_other] H → va_D A [cl_X9 h_this h_this_now h_this_kept h_this_told h_this_text h_this_script h_this_momentReader h_this_spanReader h_this_adder h_this_other h_this_trial h_this_ways i_this, cl_X4 h_this_now h_this_now_day h_this_now_second h_this_now_months h_this_now_days h_this_now_seconds, (h_this_now_months, .inl (cI, 8, .inl f_this_now_months)), (h_this_now_days, .inl (cI, 8, .inl f_this_now_days)), (h_this_now_seconds, .inl (cI, 8, .inl f_this_now_seconds)), cl_X3 h_this_told h_this_told_numbers i_this_told, (h_this_told_numbers, .inl (cJ, 8, .inr (.inl f_this_told_numbers))), cl_X0 h_this_adder i_this_adder, cl_X0 h_this_other i_this_other] → va_S A s.heap H locs → W p l e (kR 5 117) s m args below meth c H locs 0 0 Q (F0 m 194 ls []) := by
        intro v4 v5 v6 i_this_told f_this_told_numbers i_this_adder i_this_other ls H locs h hl hP hD hS
        unfold fX9_compare_j194 at h
        refine lv_aload_n hx hb dX9_compare_194 rfl (lv_at hl 0 rfl) ?_
        refine va_get (D := (dC, dI)) (ci := 8) (v := .ref h_this_told) (C := RX9) (T := TX9) (N := 12) hx hb hts inX9 hown hK hP 0 rfl rfl 3 (by decide) (hts _ (kq q_295 rfl)) (fun _ h9 => h9) rfl dX9_compare_195 ?_
        refine lv_iload hx hb dX9_compare_198 (lv_at hl 3 rfl) ?_
        refine lv_aload_n hx hb dX9_compare_200 rfl (lv_at hl 0 rfl) ?_
        refine va_get (D := (dC, dI)) (ci := 8) (v := .ref h_this_told) (C := RX9) (T := TX9) (N := 12) hx hb hts inX9 hown hK hP 0 rfl rfl 3 (by decide) (hts _ (kq q_295 rfl)) (fun _ h9 => h9) rfl dX9_compare_201 ?_
        refine lv_iload hx hb dX9_compare_204 (lv_at hl 3 rfl) ?_
        obtain ⟨r1, hc2, h⟩ := bd1_at h
        refine kjL (kV (own := "DateSpans") (C := "DateSpans$Row") (b := h_this_told) (As := [.int v6]) (rest := [.int v6, .ref h_this_told]) ⟨hx, hb, hml, hown, hts⟩ (kX3_at l dC dI cI cJ cB h_this_told h_this_told_numbers N v6 i_this_told f_this_told_numbers r1 hc2 _) (kgV (kq q_663 rfl) (kq q_664 rfl) (kq q_665 rfl) (kq q_59 rfl) (kq q_666 rfl)) yd_X3_at ⟨Nat.le_of_ble_eq_true rfl, Nat.le_of_ble_eq_true rfl⟩ hN hK hP hD [5, 6] rfl rfl (ci := 2) rfl rfl rfl rfl rfl hl.1 rfl (lv_room (Nat.le_of_ble_eq_true rfl)) dX9_compare_206) hP hD hS hA [5, 6] rfl rfl (fun H locs hP hD hS => ?_)
        have hP : va_P (dC, dI) vwCl [cl_X9 h_this h_this_now h_this_kept h_this_told h_this_text h_this_script h_this_momentReader h_this_spanReader h_this_adder h_this_other h_this_trial h_this_ways i_this, cl_X4 h_this_now h_this_now_day h_this_now_second h_this_now_months h_this_now_days h_this_now_seconds, (h_this_now_months, .inl (cI, 8, .inl f_this_now_months)), (h_this_now_days, .inl (cI, 8, .inl f_this_now_days)), (h_this_now_seconds, .inl (cI, 8, .inl f_this_now_seconds)), cl_X3 h_this_told h_this_told_numbers i_this_told, (h_this_told_numbers, .inl (cJ, 8, .inr (.inl f_this_told_numbers))), cl_X0 h_this_adder i_this_adder, cl_X0 h_this_other i_this_other] H := hP
        have hD : va_D A [cl_X9 h_this h_this_now h_this_kept h_this_told h_this_text h_this_script h_this_momentReader h_this_spanReader h_this_adder h_this_other h_this_trial h_this_ways i_this, cl_X4 h_this_now h_this_now_day h_this_now_second h_this_now_months h_this_now_days h_this_now_seconds, (h_this_now_months, .inl (cI, 8, .inl f_this_now_months)), (h_this_now_days, .inl (cI, 8, .inl f_this_now_days)), (h_this_now_seconds, .inl (cI, 8, .inl f_this_now_seconds)), cl_X3 h_this_told h_this_told_numbers i_this_told, (h_this_told_numbers, .inl (cJ, 8, .inr (.inl f_this_told_numbers))), cl_X0 h_this_adder i_this_adder, cl_X0 h_this_other i_this_other] := hD
        refine lv_lconst (v := (1 : Int64)) hx hb dX9_compare_209 (by decide) ?_
        refine lv_ladd hx hb dX9_compare_210 ?_
        obtain ⟨f_this_told_numbers_3, hc4, h⟩ := bd1_at h
        refine kjV (kV (own := "DateSpans") (C := "DateSpans$Row") (b := h_this_told) (As := [.int v6, .long (r1 + (1 : Int64))]) (rest := []) ⟨hx, hb, hml, hown, hts⟩ (kX3_put l dC dI cI cJ cB h_this_told h_this_told_numbers N v6 (r1 + (1 : Int64)) i_this_told f_this_told_numbers f_this_told_numbers_3 hc4 _) (kgV (kq q_667 rfl) (kq q_668 rfl) (kq q_669 rfl) (kq q_59 rfl) (kq q_670 rfl)) yd_X3_put ⟨Nat.le_of_ble_eq_true rfl, Nat.le_of_ble_eq_true rfl⟩ hN hK hP hD [5, 6] rfl rfl (ci := 2) rfl rfl rfl rfl rfl hl.1 rfl (lv_room (Nat.le_of_ble_eq_true rfl)) dX9_compare_211) hP hD hS hA [5, 6] rfl rfl (fun H locs hP hD hS => ?_)
        have hP : va_P (dC, dI) vwCl [cl_X9 h_this h_this_now h_this_kept h_this_told h_this_text h_this_script h_this_momentReader h_this_spanReader h_this_adder h_this_other h_this_trial h_this_ways i_this, cl_X4 h_this_now h_this_now_day h_this_now_second h_this_now_months h_this_now_days h_this_now_seconds, (h_this_now_months, .inl (cI, 8, .inl f_this_now_months)), (h_this_now_days, .inl (cI, 8, .inl f_this_now_days)), (h_this_now_seconds, .inl (cI, 8, .inl f_this_now_seconds)), cl_X3 h_this_told h_this_told_numbers i_this_told, (h_this_told_numbers, .inl (cJ, 8, .inr (.inl f_this_told_numbers_3))), cl_X0 h_this_adder i_this_adder, cl_X0 h_this_other i_this_other] H := hP
        have hD : va_D A [cl_X9 h_this h_this_now h_this_kept h_this_told h_this_text h_this_script h_this_momentReader h_this_spanReader h_this_adder h_this_other h_this_trial h_this_ways i_this, cl_X4 h_this_now h_this_now_day h_this_now_second h_this_now_months h_this_now_days h_this_now_seconds, (h_this_now_months, .inl (cI, 8, .inl f_this_now_months)), (h_this_now_days, .inl (cI, 8, .inl f_this_now_days)), (h_this_now_seconds, .inl (cI, 8, .inl f_this_now_seconds)), cl_X3 h_this_told h_this_told_numbers i_this_told, (h_this_told_numbers, .inl (cJ, 8, .inr (.inl f_this_told_numbers_3))), cl_X0 h_this_adder i_this_adder, cl_X0 h_this_other i_this_other] := hD
        obtain ⟨z5, ez5⟩ : ∃ y : Int32, y = (v5 + (1 : Int32)) := ⟨_, rfl⟩
        have h := nm_at ez5 h
        refine lv_iinc (v := z5) (lv' := [(5, .int z5), (0, .ref h_this), (4, .int v4), (6, .int v6)]) hx hb dX9_compare_214 hl (k := 2) rfl (by rw [ez5]; rfl) (by decide) rfl (fun ls hl => ?_)
        refine lv_goto (tgt := 100) hx hb dX9_compare_217 (by decide) ?_
        exact ih_100 _ _ _ _ _ _ _ _ _ h (lv_sub hl [1, 2, 0] rfl) hP hD hS
      intro v4 v5 i_this_told f_this_told_numbers i_this_adder i_this_other ls H locs h hl hP hD hS
      rw [fX9_compare_l100_s] at h
      refine lv_iload hx hb dX9_compare_100 (lv_at hl 2 rfl) ?_
      refine lv_ldcw (v := (876215 : Int32)) hx hb hown (hts _ (kq q_659 rfl)) dX9_compare_102 ?_
      refine lv_icmp_gt (tgt := 220) hx hb dX9_compare_105 (by decide) (fun c6 => ?_) (fun c6 => ?_)
      · have h := ite_t c6 h
        refine lv_iload hx hb dX9_compare_220 (lv_at hl 1 rfl) ?_
        obtain ⟨rfl, rfl, rfl, rfl, rfl⟩ := pj5 h
        exact hEnd _ _ _ _ hP hS dX9_compare_222 rfl
      have h := ite_f c6 h
      refine lv_aload_n hx hb dX9_compare_108 rfl (lv_at hl 0 rfl) ?_
      refine va_get (D := (dC, dI)) (ci := 8) (v := .ref h_this_adder) (C := RX9) (T := TX9) (N := 12) hx hb hts inX9 hown hK hP 0 rfl rfl 8 (by decide) (hts _ (kq q_300 rfl)) (fun _ h9 => h9) rfl dX9_compare_109 ?_
      refine lv_iload hx hb dX9_compare_112 (lv_at hl 2 rfl) ?_
      refine lv_iconst (v := (0 : Int32)) hx hb dX9_compare_114 (by decide) ?_
      refine lv_iconst (v := (0 : Int32)) hx hb dX9_compare_115 (by decide) ?_
      obtain ⟨r7, i_this_adder_8, hc9, h⟩ := bd2_at h
      refine kjI (kV (own := "DateSpans") (C := "DateSpans$Adder") (b := h_this_adder) (As := [.int v5, .int (0 : Int32), .int (0 : Int32)]) (rest := []) ⟨hx, hb, hml, hown, hts⟩ (kX0_leads l dC dI cI cJ cB h_this_adder N v5 (0 : Int32) (0 : Int32) i_this_adder r7 i_this_adder_8 hc9 _) (kgV (kq q_543 rfl) (kq q_544 rfl) (kq q_545 rfl) (kq q_63 rfl) (kq q_546 rfl)) yd_X0_leads ⟨Nat.le_of_ble_eq_true rfl, Nat.le_of_ble_eq_true rfl⟩ hN hK hP hD [7] rfl rfl (ci := 0) rfl rfl rfl rfl rfl hl.1 rfl (lv_room (Nat.le_of_ble_eq_true rfl)) dX9_compare_116) hP hD hS hA [7] rfl rfl (fun H locs hP hD hS => ?_)
      have hP : va_P (dC, dI) vwCl [cl_X9 h_this h_this_now h_this_kept h_this_told h_this_text h_this_script h_this_momentReader h_this_spanReader h_this_adder h_this_other h_this_trial h_this_ways i_this, cl_X4 h_this_now h_this_now_day h_this_now_second h_this_now_months h_this_now_days h_this_now_seconds, (h_this_now_months, .inl (cI, 8, .inl f_this_now_months)), (h_this_now_days, .inl (cI, 8, .inl f_this_now_days)), (h_this_now_seconds, .inl (cI, 8, .inl f_this_now_seconds)), cl_X3 h_this_told h_this_told_numbers i_this_told, (h_this_told_numbers, .inl (cJ, 8, .inr (.inl f_this_told_numbers))), cl_X0 h_this_adder i_this_adder_8, cl_X0 h_this_other i_this_other] H := hP
      have hD : va_D A [cl_X9 h_this h_this_now h_this_kept h_this_told h_this_text h_this_script h_this_momentReader h_this_spanReader h_this_adder h_this_other h_this_trial h_this_ways i_this, cl_X4 h_this_now h_this_now_day h_this_now_second h_this_now_months h_this_now_days h_this_now_seconds, (h_this_now_months, .inl (cI, 8, .inl f_this_now_months)), (h_this_now_days, .inl (cI, 8, .inl f_this_now_days)), (h_this_now_seconds, .inl (cI, 8, .inl f_this_now_seconds)), cl_X3 h_this_told h_this_told_numbers i_this_told, (h_this_told_numbers, .inl (cJ, 8, .inr (.inl f_this_told_numbers))), cl_X0 h_this_adder i_this_adder_8, cl_X0 h_this_other i_this_other] := hD
      refine lv_if_eq (tgt := 214) hx hb dX9_compare_119 (by decide) (fun c10 => ?_) (fun c10 => ?_)
      · have h := ite_t c10 h
        obtain ⟨z11, ez11⟩ : ∃ y : Int32, y = (v5 + (1 : Int32)) := ⟨_, rfl⟩
        have h := nm_at ez11 h
        refine lv_iinc (v := z11) (lv' := [(5, .int z11), (0, .ref h_this), (4, .int v4)]) hx hb dX9_compare_214 hl (k := 2) rfl (by rw [ez11]; rfl) (by decide) rfl (fun ls hl => ?_)
        refine lv_goto (tgt := 100) hx hb dX9_compare_217 (by decide) ?_
        exact ih_100 _ _ _ _ _ _ _ _ _ h (lv_sub hl [1, 2, 0] rfl) hP hD hS
      have h := ite_f c10 h
      refine lv_aload_n hx hb dX9_compare_122 rfl (lv_at hl 0 rfl) ?_
      refine va_get (D := (dC, dI)) (ci := 8) (v := .ref h_this_other) (C := RX9) (T := TX9) (N := 12) hx hb hts inX9 hown hK hP 0 rfl rfl 9 (by decide) (hts _ (kq q_301 rfl)) (fun _ h9 => h9) rfl dX9_compare_123 ?_
      refine lv_iload hx hb dX9_compare_126 (lv_at hl 2 rfl) ?_
      refine lv_iconst (v := (0 : Int32)) hx hb dX9_compare_128 (by decide) ?_
      refine lv_iconst (v := (0 : Int32)) hx hb dX9_compare_129 (by decide) ?_
      obtain ⟨r12, i_this_other_13, hc14, h⟩ := bd2_at h
      refine kjI (kV (own := "DateSpans") (C := "DateSpans$Adder") (b := h_this_other) (As := [.int v5, .int (0 : Int32), .int (0 : Int32)]) (rest := []) ⟨hx, hb, hml, hown, hts⟩ (kX0_leads l dC dI cI cJ cB h_this_other N v5 (0 : Int32) (0 : Int32) i_this_other r12 i_this_other_13 hc14 _) (kgV (kq q_543 rfl) (kq q_544 rfl) (kq q_545 rfl) (kq q_63 rfl) (kq q_546 rfl)) yd_X0_leads ⟨Nat.le_of_ble_eq_true rfl, Nat.le_of_ble_eq_true rfl⟩ hN hK hP hD [8] rfl rfl (ci := 0) rfl rfl rfl rfl rfl hl.1 rfl (lv_room (Nat.le_of_ble_eq_true rfl)) dX9_compare_130) hP hD hS hA [8] rfl rfl (fun H locs hP hD hS => ?_)
      have hP : va_P (dC, dI) vwCl [cl_X9 h_this h_this_now h_this_kept h_this_told h_this_text h_this_script h_this_momentReader h_this_spanReader h_this_adder h_this_other h_this_trial h_this_ways i_this, cl_X4 h_this_now h_this_now_day h_this_now_second h_this_now_months h_this_now_days h_this_now_seconds, (h_this_now_months, .inl (cI, 8, .inl f_this_now_months)), (h_this_now_days, .inl (cI, 8, .inl f_this_now_days)), (h_this_now_seconds, .inl (cI, 8, .inl f_this_now_seconds)), cl_X3 h_this_told h_this_told_numbers i_this_told, (h_this_told_numbers, .inl (cJ, 8, .inr (.inl f_this_told_numbers))), cl_X0 h_this_adder i_this_adder_8, cl_X0 h_this_other i_this_other_13] H := hP
      have hD : va_D A [cl_X9 h_this h_this_now h_this_kept h_this_told h_this_text h_this_script h_this_momentReader h_this_spanReader h_this_adder h_this_other h_this_trial h_this_ways i_this, cl_X4 h_this_now h_this_now_day h_this_now_second h_this_now_months h_this_now_days h_this_now_seconds, (h_this_now_months, .inl (cI, 8, .inl f_this_now_months)), (h_this_now_days, .inl (cI, 8, .inl f_this_now_days)), (h_this_now_seconds, .inl (cI, 8, .inl f_this_now_seconds)), cl_X3 h_this_told h_this_told_numbers i_this_told, (h_this_told_numbers, .inl (cJ, 8, .inr (.inl f_this_told_numbers))), cl_X0 h_this_adder i_this_adder_8, cl_X0 h_this_other i_this_other_13] := hD
      refine lv_if_eq (tgt := 214) hx hb dX9_compare_133 (by decide) (fun c15 => ?_) (fun c15 => ?_)
      · have h := ite_t c15 h
        obtain ⟨z16, ez16⟩ : ∃ y : Int32, y = (v5 + (1 : Int32)) := ⟨_, rfl⟩
        have h := nm_at ez16 h
        refine lv_iinc (v := z16) (lv' := [(5, .int z16), (0, .ref h_this), (4, .int v4)]) hx hb dX9_compare_214 hl (k := 2) rfl (by rw [ez16]; rfl) (by decide) rfl (fun ls hl => ?_)
        refine lv_goto (tgt := 100) hx hb dX9_compare_217 (by decide) ?_
        exact ih_100 _ _ _ _ _ _ _ _ _ h (lv_sub hl [1, 2, 0] rfl) hP hD hS
      have h := ite_f c15 h
      refine lv_iconst (v := (1 : Int32)) hx hb dX9_compare_136 (by decide) ?_
      refine lv_aload_n hx hb dX9_compare_137 rfl (lv_at hl 0 rfl) ?_
      refine va_get (D := (dC, dI)) (ci := 8) (v := .ref h_this_adder) (C := RX9) (T := TX9) (N := 12) hx hb hts inX9 hown hK hP 0 rfl rfl 8 (by decide) (hts _ (kq q_300 rfl)) (fun _ h9 => h9) rfl dX9_compare_138 ?_
      obtain ⟨r17, hc18, h⟩ := bd1_at h
      refine kjL (kV (own := "DateSpans") (C := "DateSpans$Adder") (b := h_this_adder) (As := []) (rest := [.int (1 : Int32)]) ⟨hx, hb, hml, hown, hts⟩ (kX0_instant l dC dI cI cJ cB h_this_adder N i_this_adder_8 r17 hc18 _) (kgV (kq q_635 rfl) (kq q_581 rfl) (kq q_582 rfl) (kq q_63 rfl) (kq q_583 rfl)) yd_X0_instant ⟨Nat.le_of_ble_eq_true rfl, Nat.le_of_ble_eq_true rfl⟩ hN hK hP hD [7] rfl rfl (ci := 0) rfl rfl rfl rfl rfl hl.1 rfl (lv_room (Nat.le_of_ble_eq_true rfl)) dX9_compare_141) hP hD hS hA [7] rfl rfl (fun H locs hP hD hS => ?_)
      have hP : va_P (dC, dI) vwCl [cl_X9 h_this h_this_now h_this_kept h_this_told h_this_text h_this_script h_this_momentReader h_this_spanReader h_this_adder h_this_other h_this_trial h_this_ways i_this, cl_X4 h_this_now h_this_now_day h_this_now_second h_this_now_months h_this_now_days h_this_now_seconds, (h_this_now_months, .inl (cI, 8, .inl f_this_now_months)), (h_this_now_days, .inl (cI, 8, .inl f_this_now_days)), (h_this_now_seconds, .inl (cI, 8, .inl f_this_now_seconds)), cl_X3 h_this_told h_this_told_numbers i_this_told, (h_this_told_numbers, .inl (cJ, 8, .inr (.inl f_this_told_numbers))), cl_X0 h_this_adder i_this_adder_8, cl_X0 h_this_other i_this_other_13] H := hP
      have hD : va_D A [cl_X9 h_this h_this_now h_this_kept h_this_told h_this_text h_this_script h_this_momentReader h_this_spanReader h_this_adder h_this_other h_this_trial h_this_ways i_this, cl_X4 h_this_now h_this_now_day h_this_now_second h_this_now_months h_this_now_days h_this_now_seconds, (h_this_now_months, .inl (cI, 8, .inl f_this_now_months)), (h_this_now_days, .inl (cI, 8, .inl f_this_now_days)), (h_this_now_seconds, .inl (cI, 8, .inl f_this_now_seconds)), cl_X3 h_this_told h_this_told_numbers i_this_told, (h_this_told_numbers, .inl (cJ, 8, .inr (.inl f_this_told_numbers))), cl_X0 h_this_adder i_this_adder_8, cl_X0 h_this_other i_this_other_13] := hD
      refine lv_aload_n hx hb dX9_compare_144 rfl (lv_at hl 0 rfl) ?_
      refine va_get (D := (dC, dI)) (ci := 8) (v := .ref h_this_other) (C := RX9) (T := TX9) (N := 12) hx hb hts inX9 hown hK hP 0 rfl rfl 9 (by decide) (hts _ (kq q_301 rfl)) (fun _ h9 => h9) rfl dX9_compare_145 ?_
      obtain ⟨r19, hc20, h⟩ := bd1_at h
      refine kjL (kV (own := "DateSpans") (C := "DateSpans$Adder") (b := h_this_other) (As := []) (rest := [.long r17, .int (1 : Int32)]) ⟨hx, hb, hml, hown, hts⟩ (kX0_instant l dC dI cI cJ cB h_this_other N i_this_other_13 r19 hc20 _) (kgV (kq q_635 rfl) (kq q_581 rfl) (kq q_582 rfl) (kq q_63 rfl) (kq q_583 rfl)) yd_X0_instant ⟨Nat.le_of_ble_eq_true rfl, Nat.le_of_ble_eq_true rfl⟩ hN hK hP hD [8] rfl rfl (ci := 0) rfl rfl rfl rfl rfl hl.1 rfl (lv_room (Nat.le_of_ble_eq_true rfl)) dX9_compare_148) hP hD hS hA [8] rfl rfl (fun H locs hP hD hS => ?_)
      have hP : va_P (dC, dI) vwCl [cl_X9 h_this h_this_now h_this_kept h_this_told h_this_text h_this_script h_this_momentReader h_this_spanReader h_this_adder h_this_other h_this_trial h_this_ways i_this, cl_X4 h_this_now h_this_now_day h_this_now_second h_this_now_months h_this_now_days h_this_now_seconds, (h_this_now_months, .inl (cI, 8, .inl f_this_now_months)), (h_this_now_days, .inl (cI, 8, .inl f_this_now_days)), (h_this_now_seconds, .inl (cI, 8, .inl f_this_now_seconds)), cl_X3 h_this_told h_this_told_numbers i_this_told, (h_this_told_numbers, .inl (cJ, 8, .inr (.inl f_this_told_numbers))), cl_X0 h_this_adder i_this_adder_8, cl_X0 h_this_other i_this_other_13] H := hP
      have hD : va_D A [cl_X9 h_this h_this_now h_this_kept h_this_told h_this_text h_this_script h_this_momentReader h_this_spanReader h_this_adder h_this_other h_this_trial h_this_ways i_this, cl_X4 h_this_now h_this_now_day h_this_now_second h_this_now_months h_this_now_days h_this_now_seconds, (h_this_now_months, .inl (cI, 8, .inl f_this_now_months)), (h_this_now_days, .inl (cI, 8, .inl f_this_now_days)), (h_this_now_seconds, .inl (cI, 8, .inl f_this_now_seconds)), cl_X3 h_this_told h_this_told_numbers i_this_told, (h_this_told_numbers, .inl (cJ, 8, .inr (.inl f_this_told_numbers))), cl_X0 h_this_adder i_this_adder_8, cl_X0 h_this_other i_this_other_13] := hD
      obtain ⟨r21, hc22, h⟩ := bd1_at h
      refine kjSI (kS0 (own := "DateSpans") (As := [.long r17, .long r19]) (rest := [.int (1 : Int32)]) ⟨hx, hb, hml, hown, hts⟩ (kJ13_compare_74951 l N r17 r19 r21 hc22) (kgS (kq q_660 rfl) (kq q_661 rfl) (kq q_74 rfl) (kq q_662 rfl)) yd_J13_compare_74951 ⟨Nat.le_of_ble_eq_true rfl, Nat.le_of_ble_eq_true rfl⟩ rfl rfl hl.1 rfl (lv_room (Nat.le_of_ble_eq_true rfl)) dX9_compare_151) ?_
      refine lv_iadd hx hb dX9_compare_154 ?_
      refine lv_topi (fun z23 ez23 => ?_)
      have h := nm_at ez23 h
      refine lv_istore (lv' := [(6, .int z23), (0, .ref h_this), (4, .int v4), (5, .int v5)]) hx hb dX9_compare_155 hl (by decide) rfl (fun ls hl => ?_)
      refine lv_aload_n hx hb dX9_compare_157 rfl (lv_at hl 1 rfl) ?_
      refine va_get (D := (dC, dI)) (ci := 8) (v := .ref h_this_told) (C := RX9) (T := TX9) (N := 12) hx hb hts inX9 hown hK hP 0 rfl rfl 3 (by decide) (hts _ (kq q_295 rfl)) (fun _ h9 => h9) rfl dX9_compare_158 ?_
      refine lv_iload hx hb dX9_compare_161 (lv_at hl 0 rfl) ?_
      obtain ⟨r24, hc25, h⟩ := bd1_at h
      refine kjL (kV (own := "DateSpans") (C := "DateSpans$Row") (b := h_this_told) (As := [.int z23]) (rest := []) ⟨hx, hb, hml, hown, hts⟩ (kX3_at l dC dI cI cJ cB h_this_told h_this_told_numbers N z23 i_this_told f_this_told_numbers r24 hc25 _) (kgV (kq q_663 rfl) (kq q_664 rfl) (kq q_665 rfl) (kq q_59 rfl) (kq q_666 rfl)) yd_X3_at ⟨Nat.le_of_ble_eq_true rfl, Nat.le_of_ble_eq_true rfl⟩ hN hK hP hD [5, 6] rfl rfl (ci := 2) rfl rfl rfl rfl rfl hl.1 rfl (lv_room (Nat.le_of_ble_eq_true rfl)) dX9_compare_163) hP hD hS hA [5, 6] rfl rfl (fun H locs hP hD hS => ?_)
      have hP : va_P (dC, dI) vwCl [cl_X9 h_this h_this_now h_this_kept h_this_told h_this_text h_this_script h_this_momentReader h_this_spanReader h_this_adder h_this_other h_this_trial h_this_ways i_this, cl_X4 h_this_now h_this_now_day h_this_now_second h_this_now_months h_this_now_days h_this_now_seconds, (h_this_now_months, .inl (cI, 8, .inl f_this_now_months)), (h_this_now_days, .inl (cI, 8, .inl f_this_now_days)), (h_this_now_seconds, .inl (cI, 8, .inl f_this_now_seconds)), cl_X3 h_this_told h_this_told_numbers i_this_told, (h_this_told_numbers, .inl (cJ, 8, .inr (.inl f_this_told_numbers))), cl_X0 h_this_adder i_this_adder_8, cl_X0 h_this_other i_this_other_13] H := hP
      have hD : va_D A [cl_X9 h_this h_this_now h_this_kept h_this_told h_this_text h_this_script h_this_momentReader h_this_spanReader h_this_adder h_this_other h_this_trial h_this_ways i_this, cl_X4 h_this_now h_this_now_day h_this_now_second h_this_now_months h_this_now_days h_this_now_seconds, (h_this_now_months, .inl (cI, 8, .inl f_this_now_months)), (h_this_now_days, .inl (cI, 8, .inl f_this_now_days)), (h_this_now_seconds, .inl (cI, 8, .inl f_this_now_seconds)), cl_X3 h_this_told h_this_told_numbers i_this_told, (h_this_told_numbers, .inl (cJ, 8, .inr (.inl f_this_told_numbers))), cl_X0 h_this_adder i_this_adder_8, cl_X0 h_this_other i_this_other_13] := hD
      refine lv_lconst (v := (0 : Int64)) hx hb dX9_compare_166 (by decide) ?_
      refine W.lcmp hx hb dX9_compare_167 ?_
      refine lv_if_ne (tgt := 194) hx hb dX9_compare_168 (by decide) (fun c26 => ?_) (fun c26 => ?_)
      · have h := ite_f c26 h
        exact JN_194 _ _ _ _ _ _ _ _ _ _ h (lv_sub hl [1, 2, 3, 0] rfl) hP hD hS
      have h := ite_t c26 h
      refine lv_aload_n hx hb dX9_compare_171 rfl (lv_at hl 1 rfl) ?_
      refine va_get (D := (dC, dI)) (ci := 8) (v := .ref h_this_told) (C := RX9) (T := TX9) (N := 12) hx hb hts inX9 hown hK hP 0 rfl rfl 3 (by decide) (hts _ (kq q_295 rfl)) (fun _ h9 => h9) rfl dX9_compare_172 ?_
      refine lv_iload hx hb dX9_compare_175 (lv_at hl 0 rfl) ?_
      refine lv_iconst (v := (3 : Int32)) hx hb dX9_compare_177 (by decide) ?_
      refine lv_iadd hx hb dX9_compare_178 ?_
      refine lv_iload hx hb dX9_compare_179 (lv_at hl 3 rfl) ?_
      refine lv_i2l hx hb dX9_compare_181 rfl ?_
      obtain ⟨f_this_told_numbers_27, hc28, h⟩ := bd1_at h
      refine kjV (kV (own := "DateSpans") (C := "DateSpans$Row") (b := h_this_told) (As := [.int (z23 + (3 : Int32)), .long v5.toInt64]) (rest := []) ⟨hx, hb, hml, hown, hts⟩ (kX3_put l dC dI cI cJ cB h_this_told h_this_told_numbers N (z23 + (3 : Int32)) v5.toInt64 i_this_told f_this_told_numbers f_this_told_numbers_27 hc28 _) (kgV (kq q_667 rfl) (kq q_668 rfl) (kq q_669 rfl) (kq q_59 rfl) (kq q_670 rfl)) yd_X3_put ⟨Nat.le_of_ble_eq_true rfl, Nat.le_of_ble_eq_true rfl⟩ hN hK hP hD [5, 6] rfl rfl (ci := 2) rfl rfl rfl rfl rfl hl.1 rfl (lv_room (Nat.le_of_ble_eq_true rfl)) dX9_compare_182) hP hD hS hA [5, 6] rfl rfl (fun H locs hP hD hS => ?_)
      have hP : va_P (dC, dI) vwCl [cl_X9 h_this h_this_now h_this_kept h_this_told h_this_text h_this_script h_this_momentReader h_this_spanReader h_this_adder h_this_other h_this_trial h_this_ways i_this, cl_X4 h_this_now h_this_now_day h_this_now_second h_this_now_months h_this_now_days h_this_now_seconds, (h_this_now_months, .inl (cI, 8, .inl f_this_now_months)), (h_this_now_days, .inl (cI, 8, .inl f_this_now_days)), (h_this_now_seconds, .inl (cI, 8, .inl f_this_now_seconds)), cl_X3 h_this_told h_this_told_numbers i_this_told, (h_this_told_numbers, .inl (cJ, 8, .inr (.inl f_this_told_numbers_27))), cl_X0 h_this_adder i_this_adder_8, cl_X0 h_this_other i_this_other_13] H := hP
      have hD : va_D A [cl_X9 h_this h_this_now h_this_kept h_this_told h_this_text h_this_script h_this_momentReader h_this_spanReader h_this_adder h_this_other h_this_trial h_this_ways i_this, cl_X4 h_this_now h_this_now_day h_this_now_second h_this_now_months h_this_now_days h_this_now_seconds, (h_this_now_months, .inl (cI, 8, .inl f_this_now_months)), (h_this_now_days, .inl (cI, 8, .inl f_this_now_days)), (h_this_now_seconds, .inl (cI, 8, .inl f_this_now_seconds)), cl_X3 h_this_told h_this_told_numbers i_this_told, (h_this_told_numbers, .inl (cJ, 8, .inr (.inl f_this_told_numbers_27))), cl_X0 h_this_adder i_this_adder_8, cl_X0 h_this_other i_this_other_13] := hD
      refine lv_iload hx hb dX9_compare_185 (lv_at hl 2 rfl) ?_
      refine lv_iconst (v := (1 : Int32)) hx hb dX9_compare_187 (by decide) ?_
      refine lv_iload hx hb dX9_compare_188 (lv_at hl 0 rfl) ?_
      refine lv_ishl hx hb dX9_compare_190 ?_
      refine lv_ior hx hb dX9_compare_191 ?_
      refine lv_topi (fun z29 ez29 => ?_)
      have h := nm_at ez29 h
      refine lv_istore (lv' := [(4, .int z29), (6, .int z23), (0, .ref h_this), (5, .int v5)]) hx hb dX9_compare_192 hl (by decide) rfl (fun ls hl => ?_)
      exact JN_194 _ _ _ _ _ _ _ _ _ _ h (lv_sub hl [2, 0, 3, 1] rfl) hP hD hS
  have h := hf
  unfold fX9_compare at h
  refine lv_iload_n hx hb dX9_compare_0 rfl (lv_at hl 1 rfl) ?_
  obtain ⟨r30, hc31, h⟩ := bd1_at h
  refine kjSI (kS0 (own := "DateSpans") (As := [.int p1]) (rest := []) ⟨hx, hb, hml, hown, hts⟩ (kX9_isSlot l N p1 r30 hc31) (kgS (kq q_387 rfl) (kq q_388 rfl) (kq q_57 rfl) (kq q_389 rfl)) yd_X9_isSlot ⟨Nat.le_of_ble_eq_true rfl, Nat.le_of_ble_eq_true rfl⟩ rfl rfl hl.1 rfl (lv_room (Nat.le_of_ble_eq_true rfl)) dX9_compare_1) ?_
  refine lv_if_eq (tgt := 21) hx hb dX9_compare_4 (by decide) (fun c32 => ?_) (fun c32 => ?_)
  · have h := ite_t c32 h
    refine lv_iconst (v := (-1 : Int32)) hx hb dX9_compare_21 (by decide) ?_
    obtain ⟨rfl, rfl, rfl, rfl, rfl⟩ := pj5 h
    exact hEnd _ _ _ _ hP hS dX9_compare_22 rfl
  have h := ite_f c32 h
  refine lv_iload_n hx hb dX9_compare_7 rfl (lv_at hl 2 rfl) ?_
  obtain ⟨r33, hc34, h⟩ := bd1_at h
  refine kjSI (kS0 (own := "DateSpans") (As := [.int p2]) (rest := []) ⟨hx, hb, hml, hown, hts⟩ (kX9_isSlot l N p2 r33 hc34) (kgS (kq q_387 rfl) (kq q_388 rfl) (kq q_57 rfl) (kq q_389 rfl)) yd_X9_isSlot ⟨Nat.le_of_ble_eq_true rfl, Nat.le_of_ble_eq_true rfl⟩ rfl rfl hl.1 rfl (lv_room (Nat.le_of_ble_eq_true rfl)) dX9_compare_8) ?_
  refine lv_if_eq (tgt := 21) hx hb dX9_compare_11 (by decide) (fun c35 => ?_) (fun c35 => ?_)
  · have h := ite_t c35 h
    refine lv_iconst (v := (-1 : Int32)) hx hb dX9_compare_21 (by decide) ?_
    obtain ⟨rfl, rfl, rfl, rfl, rfl⟩ := pj5 h
    exact hEnd _ _ _ _ hP hS dX9_compare_22 rfl
  have h := ite_f c35 h
  refine lv_iload_n hx hb dX9_compare_14 rfl (lv_at hl 3 rfl) ?_
  obtain ⟨r36, hc37, h⟩ := bd1_at h
  refine kjSI (kS0 (own := "DateSpans") (As := [.int p3]) (rest := []) ⟨hx, hb, hml, hown, hts⟩ (kX9_isLaw l N p3 r36 hc37) (kgS (kq q_525 rfl) (kq q_526 rfl) (kq q_57 rfl) (kq q_527 rfl)) yd_X9_isLaw ⟨Nat.le_of_ble_eq_true rfl, Nat.le_of_ble_eq_true rfl⟩ rfl rfl hl.1 rfl (lv_room (Nat.le_of_ble_eq_true rfl)) dX9_compare_15) ?_
  refine lv_if_ne (tgt := 23) hx hb dX9_compare_18 (by decide) (fun c38 => ?_) (fun c38 => ?_)
  · have h := ite_f c38 h
    refine lv_aload_n hx hb dX9_compare_23 rfl (lv_at hl 0 rfl) ?_
    refine va_get (D := (dC, dI)) (ci := 8) (v := .ref h_this_adder) (C := RX9) (T := TX9) (N := 12) hx hb hts inX9 hown hK hP 0 rfl rfl 8 (by decide) (hts _ (kq q_300 rfl)) (fun _ h9 => h9) rfl dX9_compare_24 ?_
    refine lv_aload_n hx hb dX9_compare_27 rfl (lv_at hl 0 rfl) ?_
    refine va_get (D := (dC, dI)) (ci := 8) (v := .ref h_this_now) (C := RX9) (T := TX9) (N := 12) hx hb hts inX9 hown hK hP 0 rfl rfl 0 (by decide) (hts _ (kq q_292 rfl)) (fun _ h9 => h9) rfl dX9_compare_28 ?_
    refine lv_iload_n hx hb dX9_compare_31 rfl (lv_at hl 1 rfl) ?_
    refine lv_iconst (v := (1 : Int32)) hx hb dX9_compare_32 (by decide) ?_
    refine lv_iload_n hx hb dX9_compare_33 rfl (lv_at hl 3 rfl) ?_
    obtain ⟨r39, i_this_adder_40, hc41, h⟩ := bd2_at h
    refine kjI (kV (own := "DateSpans") (C := "DateSpans$Adder") (b := h_this_adder) (As := [.ref h_this_now, .int p1, .int (1 : Int32), .int p3]) (rest := []) ⟨hx, hb, hml, hown, hts⟩ (kX0_takes l dC dI cI cJ cB h_this_adder h_this_now h_this_now_day h_this_now_second h_this_now_months h_this_now_days h_this_now_seconds N p1 (1 : Int32) p3 i_this_adder f_this_now_months f_this_now_days f_this_now_seconds r39 i_this_adder_40 hc41 _) (kgV (kq q_531 rfl) (kq q_532 rfl) (kq q_533 rfl) (kq q_63 rfl) (kq q_534 rfl)) yd_X0_takes ⟨Nat.le_of_ble_eq_true rfl, Nat.le_of_ble_eq_true rfl⟩ hN hK hP hD [7, 1, 2, 3, 4] rfl rfl (ci := 0) rfl rfl rfl rfl rfl hl.1 rfl (lv_room (Nat.le_of_ble_eq_true rfl)) dX9_compare_34) hP hD hS hA [7, 1, 2, 3, 4] rfl rfl (fun H locs hP hD hS => ?_)
    have hP : va_P (dC, dI) vwCl [cl_X9 h_this h_this_now h_this_kept h_this_told h_this_text h_this_script h_this_momentReader h_this_spanReader h_this_adder h_this_other h_this_trial h_this_ways i_this, cl_X4 h_this_now h_this_now_day h_this_now_second h_this_now_months h_this_now_days h_this_now_seconds, (h_this_now_months, .inl (cI, 8, .inl f_this_now_months)), (h_this_now_days, .inl (cI, 8, .inl f_this_now_days)), (h_this_now_seconds, .inl (cI, 8, .inl f_this_now_seconds)), cl_X3 h_this_told h_this_told_numbers i_this_told, (h_this_told_numbers, .inl (cJ, 8, .inr (.inl f_this_told_numbers))), cl_X0 h_this_adder i_this_adder_40, cl_X0 h_this_other i_this_other] H := hP
    have hD : va_D A [cl_X9 h_this h_this_now h_this_kept h_this_told h_this_text h_this_script h_this_momentReader h_this_spanReader h_this_adder h_this_other h_this_trial h_this_ways i_this, cl_X4 h_this_now h_this_now_day h_this_now_second h_this_now_months h_this_now_days h_this_now_seconds, (h_this_now_months, .inl (cI, 8, .inl f_this_now_months)), (h_this_now_days, .inl (cI, 8, .inl f_this_now_days)), (h_this_now_seconds, .inl (cI, 8, .inl f_this_now_seconds)), cl_X3 h_this_told h_this_told_numbers i_this_told, (h_this_told_numbers, .inl (cJ, 8, .inr (.inl f_this_told_numbers))), cl_X0 h_this_adder i_this_adder_40, cl_X0 h_this_other i_this_other] := hD
    refine lv_pop hx hb dX9_compare_37 rfl ?_
    refine lv_aload_n hx hb dX9_compare_38 rfl (lv_at hl 0 rfl) ?_
    refine va_get (D := (dC, dI)) (ci := 8) (v := .ref h_this_other) (C := RX9) (T := TX9) (N := 12) hx hb hts inX9 hown hK hP 0 rfl rfl 9 (by decide) (hts _ (kq q_301 rfl)) (fun _ h9 => h9) rfl dX9_compare_39 ?_
    refine lv_aload_n hx hb dX9_compare_42 rfl (lv_at hl 0 rfl) ?_
    refine va_get (D := (dC, dI)) (ci := 8) (v := .ref h_this_now) (C := RX9) (T := TX9) (N := 12) hx hb hts inX9 hown hK hP 0 rfl rfl 0 (by decide) (hts _ (kq q_292 rfl)) (fun _ h9 => h9) rfl dX9_compare_43 ?_
    refine lv_iload_n hx hb dX9_compare_46 rfl (lv_at hl 2 rfl) ?_
    refine lv_iconst (v := (1 : Int32)) hx hb dX9_compare_47 (by decide) ?_
    refine lv_iload_n hx hb dX9_compare_48 rfl (lv_at hl 3 rfl) ?_
    obtain ⟨r42, i_this_other_43, hc44, h⟩ := bd2_at h
    refine kjI (kV (own := "DateSpans") (C := "DateSpans$Adder") (b := h_this_other) (As := [.ref h_this_now, .int p2, .int (1 : Int32), .int p3]) (rest := []) ⟨hx, hb, hml, hown, hts⟩ (kX0_takes l dC dI cI cJ cB h_this_other h_this_now h_this_now_day h_this_now_second h_this_now_months h_this_now_days h_this_now_seconds N p2 (1 : Int32) p3 i_this_other f_this_now_months f_this_now_days f_this_now_seconds r42 i_this_other_43 hc44 _) (kgV (kq q_531 rfl) (kq q_532 rfl) (kq q_533 rfl) (kq q_63 rfl) (kq q_534 rfl)) yd_X0_takes ⟨Nat.le_of_ble_eq_true rfl, Nat.le_of_ble_eq_true rfl⟩ hN hK hP hD [8, 1, 2, 3, 4] rfl rfl (ci := 0) rfl rfl rfl rfl rfl hl.1 rfl (lv_room (Nat.le_of_ble_eq_true rfl)) dX9_compare_49) hP hD hS hA [8, 1, 2, 3, 4] rfl rfl (fun H locs hP hD hS => ?_)
    have hP : va_P (dC, dI) vwCl [cl_X9 h_this h_this_now h_this_kept h_this_told h_this_text h_this_script h_this_momentReader h_this_spanReader h_this_adder h_this_other h_this_trial h_this_ways i_this, cl_X4 h_this_now h_this_now_day h_this_now_second h_this_now_months h_this_now_days h_this_now_seconds, (h_this_now_months, .inl (cI, 8, .inl f_this_now_months)), (h_this_now_days, .inl (cI, 8, .inl f_this_now_days)), (h_this_now_seconds, .inl (cI, 8, .inl f_this_now_seconds)), cl_X3 h_this_told h_this_told_numbers i_this_told, (h_this_told_numbers, .inl (cJ, 8, .inr (.inl f_this_told_numbers))), cl_X0 h_this_adder i_this_adder_40, cl_X0 h_this_other i_this_other_43] H := hP
    have hD : va_D A [cl_X9 h_this h_this_now h_this_kept h_this_told h_this_text h_this_script h_this_momentReader h_this_spanReader h_this_adder h_this_other h_this_trial h_this_ways i_this, cl_X4 h_this_now h_this_now_day h_this_now_second h_this_now_months h_this_now_days h_this_now_seconds, (h_this_now_months, .inl (cI, 8, .inl f_this_now_months)), (h_this_now_days, .inl (cI, 8, .inl f_this_now_days)), (h_this_now_seconds, .inl (cI, 8, .inl f_this_now_seconds)), cl_X3 h_this_told h_this_told_numbers i_this_told, (h_this_told_numbers, .inl (cJ, 8, .inr (.inl f_this_told_numbers))), cl_X0 h_this_adder i_this_adder_40, cl_X0 h_this_other i_this_other_43] := hD
    refine lv_pop hx hb dX9_compare_52 rfl ?_
    refine lv_aload_n hx hb dX9_compare_53 rfl (lv_at hl 0 rfl) ?_
    refine va_get (D := (dC, dI)) (ci := 8) (v := .ref h_this_told) (C := RX9) (T := TX9) (N := 12) hx hb hts inX9 hown hK hP 0 rfl rfl 3 (by decide) (hts _ (kq q_295 rfl)) (fun _ h9 => h9) rfl dX9_compare_54 ?_
    refine lv_lconst (v := (0 : Int64)) hx hb dX9_compare_57 (by decide) ?_
    refine lv_lconst (v := (0 : Int64)) hx hb dX9_compare_58 (by decide) ?_
    refine lv_lconst (v := (0 : Int64)) hx hb dX9_compare_59 (by decide) ?_
    obtain ⟨i_this_told_45, f_this_told_numbers_46, hc47, h⟩ := bd2_at h
    refine kjV (kV (own := "DateSpans") (C := "DateSpans$Row") (b := h_this_told) (As := [.long (0 : Int64), .long (0 : Int64), .long (0 : Int64)]) (rest := []) ⟨hx, hb, hml, hown, hts⟩ (kX3_tell__ l dC dI cI cJ cB h_this_told h_this_told_numbers N (0 : Int64) (0 : Int64) (0 : Int64) i_this_told f_this_told_numbers i_this_told_45 f_this_told_numbers_46 hc47 _) (kgV (kq q_441 rfl) (kq q_442 rfl) (kq q_443 rfl) (kq q_59 rfl) (kq q_444 rfl)) yd_X3_tell__ ⟨Nat.le_of_ble_eq_true rfl, Nat.le_of_ble_eq_true rfl⟩ hN hK hP hD [5, 6] rfl rfl (ci := 2) rfl rfl rfl rfl rfl hl.1 rfl (lv_room (Nat.le_of_ble_eq_true rfl)) dX9_compare_60) hP hD hS hA [5, 6] rfl rfl (fun H locs hP hD hS => ?_)
    have hP : va_P (dC, dI) vwCl [cl_X9 h_this h_this_now h_this_kept h_this_told h_this_text h_this_script h_this_momentReader h_this_spanReader h_this_adder h_this_other h_this_trial h_this_ways i_this, cl_X4 h_this_now h_this_now_day h_this_now_second h_this_now_months h_this_now_days h_this_now_seconds, (h_this_now_months, .inl (cI, 8, .inl f_this_now_months)), (h_this_now_days, .inl (cI, 8, .inl f_this_now_days)), (h_this_now_seconds, .inl (cI, 8, .inl f_this_now_seconds)), cl_X3 h_this_told h_this_told_numbers i_this_told_45, (h_this_told_numbers, .inl (cJ, 8, .inr (.inl f_this_told_numbers_46))), cl_X0 h_this_adder i_this_adder_40, cl_X0 h_this_other i_this_other_43] H := hP
    have hD : va_D A [cl_X9 h_this h_this_now h_this_kept h_this_told h_this_text h_this_script h_this_momentReader h_this_spanReader h_this_adder h_this_other h_this_trial h_this_ways i_this, cl_X4 h_this_now h_this_now_day h_this_now_second h_this_now_months h_this_now_days h_this_now_seconds, (h_this_now_months, .inl (cI, 8, .inl f_this_now_months)), (h_this_now_days, .inl (cI, 8, .inl f_this_now_days)), (h_this_now_seconds, .inl (cI, 8, .inl f_this_now_seconds)), cl_X3 h_this_told h_this_told_numbers i_this_told_45, (h_this_told_numbers, .inl (cJ, 8, .inr (.inl f_this_told_numbers_46))), cl_X0 h_this_adder i_this_adder_40, cl_X0 h_this_other i_this_other_43] := hD
    refine lv_aload_n hx hb dX9_compare_63 rfl (lv_at hl 0 rfl) ?_
    refine va_get (D := (dC, dI)) (ci := 8) (v := .ref h_this_told) (C := RX9) (T := TX9) (N := 12) hx hb hts inX9 hown hK hP 0 rfl rfl 3 (by decide) (hts _ (kq q_295 rfl)) (fun _ h9 => h9) rfl dX9_compare_64 ?_
    refine lv_ldc2 (v := (-1 : Int64)) hx hb hown (hts _ (kq q_657 rfl)) dX9_compare_67 ?_
    obtain ⟨i_this_told_48, f_this_told_numbers_49, hc50, h⟩ := bd2_at h
    refine kjV (kV (own := "DateSpans") (C := "DateSpans$Row") (b := h_this_told) (As := [.long (-1 : Int64)]) (rest := []) ⟨hx, hb, hml, hown, hts⟩ (kX3_push l dC dI cI cJ cB h_this_told h_this_told_numbers N (-1 : Int64) i_this_told_45 f_this_told_numbers_46 i_this_told_48 f_this_told_numbers_49 hc50 _) (kgV (kq q_640 rfl) (kq q_458 rfl) (kq q_459 rfl) (kq q_59 rfl) (kq q_460 rfl)) yd_X3_push ⟨Nat.le_of_ble_eq_true rfl, Nat.le_of_ble_eq_true rfl⟩ hN hK hP hD [5, 6] rfl rfl (ci := 2) rfl rfl rfl rfl rfl hl.1 rfl (lv_room (Nat.le_of_ble_eq_true rfl)) dX9_compare_70) hP hD hS hA [5, 6] rfl rfl (fun H locs hP hD hS => ?_)
    have hP : va_P (dC, dI) vwCl [cl_X9 h_this h_this_now h_this_kept h_this_told h_this_text h_this_script h_this_momentReader h_this_spanReader h_this_adder h_this_other h_this_trial h_this_ways i_this, cl_X4 h_this_now h_this_now_day h_this_now_second h_this_now_months h_this_now_days h_this_now_seconds, (h_this_now_months, .inl (cI, 8, .inl f_this_now_months)), (h_this_now_days, .inl (cI, 8, .inl f_this_now_days)), (h_this_now_seconds, .inl (cI, 8, .inl f_this_now_seconds)), cl_X3 h_this_told h_this_told_numbers i_this_told_48, (h_this_told_numbers, .inl (cJ, 8, .inr (.inl f_this_told_numbers_49))), cl_X0 h_this_adder i_this_adder_40, cl_X0 h_this_other i_this_other_43] H := hP
    have hD : va_D A [cl_X9 h_this h_this_now h_this_kept h_this_told h_this_text h_this_script h_this_momentReader h_this_spanReader h_this_adder h_this_other h_this_trial h_this_ways i_this, cl_X4 h_this_now h_this_now_day h_this_now_second h_this_now_months h_this_now_days h_this_now_seconds, (h_this_now_months, .inl (cI, 8, .inl f_this_now_months)), (h_this_now_days, .inl (cI, 8, .inl f_this_now_days)), (h_this_now_seconds, .inl (cI, 8, .inl f_this_now_seconds)), cl_X3 h_this_told h_this_told_numbers i_this_told_48, (h_this_told_numbers, .inl (cJ, 8, .inr (.inl f_this_told_numbers_49))), cl_X0 h_this_adder i_this_adder_40, cl_X0 h_this_other i_this_other_43] := hD
    refine lv_aload_n hx hb dX9_compare_73 rfl (lv_at hl 0 rfl) ?_
    refine va_get (D := (dC, dI)) (ci := 8) (v := .ref h_this_told) (C := RX9) (T := TX9) (N := 12) hx hb hts inX9 hown hK hP 0 rfl rfl 3 (by decide) (hts _ (kq q_295 rfl)) (fun _ h9 => h9) rfl dX9_compare_74 ?_
    refine lv_ldc2 (v := (-1 : Int64)) hx hb hown (hts _ (kq q_657 rfl)) dX9_compare_77 ?_
    obtain ⟨i_this_told_51, f_this_told_numbers_52, hc53, h⟩ := bd2_at h
    refine kjV (kV (own := "DateSpans") (C := "DateSpans$Row") (b := h_this_told) (As := [.long (-1 : Int64)]) (rest := []) ⟨hx, hb, hml, hown, hts⟩ (kX3_push l dC dI cI cJ cB h_this_told h_this_told_numbers N (-1 : Int64) i_this_told_48 f_this_told_numbers_49 i_this_told_51 f_this_told_numbers_52 hc53 _) (kgV (kq q_640 rfl) (kq q_458 rfl) (kq q_459 rfl) (kq q_59 rfl) (kq q_460 rfl)) yd_X3_push ⟨Nat.le_of_ble_eq_true rfl, Nat.le_of_ble_eq_true rfl⟩ hN hK hP hD [5, 6] rfl rfl (ci := 2) rfl rfl rfl rfl rfl hl.1 rfl (lv_room (Nat.le_of_ble_eq_true rfl)) dX9_compare_80) hP hD hS hA [5, 6] rfl rfl (fun H locs hP hD hS => ?_)
    have hP : va_P (dC, dI) vwCl [cl_X9 h_this h_this_now h_this_kept h_this_told h_this_text h_this_script h_this_momentReader h_this_spanReader h_this_adder h_this_other h_this_trial h_this_ways i_this, cl_X4 h_this_now h_this_now_day h_this_now_second h_this_now_months h_this_now_days h_this_now_seconds, (h_this_now_months, .inl (cI, 8, .inl f_this_now_months)), (h_this_now_days, .inl (cI, 8, .inl f_this_now_days)), (h_this_now_seconds, .inl (cI, 8, .inl f_this_now_seconds)), cl_X3 h_this_told h_this_told_numbers i_this_told_51, (h_this_told_numbers, .inl (cJ, 8, .inr (.inl f_this_told_numbers_52))), cl_X0 h_this_adder i_this_adder_40, cl_X0 h_this_other i_this_other_43] H := hP
    have hD : va_D A [cl_X9 h_this h_this_now h_this_kept h_this_told h_this_text h_this_script h_this_momentReader h_this_spanReader h_this_adder h_this_other h_this_trial h_this_ways i_this, cl_X4 h_this_now h_this_now_day h_this_now_second h_this_now_months h_this_now_days h_this_now_seconds, (h_this_now_months, .inl (cI, 8, .inl f_this_now_months)), (h_this_now_days, .inl (cI, 8, .inl f_this_now_days)), (h_this_now_seconds, .inl (cI, 8, .inl f_this_now_seconds)), cl_X3 h_this_told h_this_told_numbers i_this_told_51, (h_this_told_numbers, .inl (cJ, 8, .inr (.inl f_this_told_numbers_52))), cl_X0 h_this_adder i_this_adder_40, cl_X0 h_this_other i_this_other_43] := hD
    refine lv_aload_n hx hb dX9_compare_83 rfl (lv_at hl 0 rfl) ?_
    refine va_get (D := (dC, dI)) (ci := 8) (v := .ref h_this_told) (C := RX9) (T := TX9) (N := 12) hx hb hts inX9 hown hK hP 0 rfl rfl 3 (by decide) (hts _ (kq q_295 rfl)) (fun _ h9 => h9) rfl dX9_compare_84 ?_
    refine lv_ldc2 (v := (-1 : Int64)) hx hb hown (hts _ (kq q_657 rfl)) dX9_compare_87 ?_
    obtain ⟨i_this_told_54, f_this_told_numbers_55, hc56, h⟩ := bd2_at h
    refine kjV (kV (own := "DateSpans") (C := "DateSpans$Row") (b := h_this_told) (As := [.long (-1 : Int64)]) (rest := []) ⟨hx, hb, hml, hown, hts⟩ (kX3_push l dC dI cI cJ cB h_this_told h_this_told_numbers N (-1 : Int64) i_this_told_51 f_this_told_numbers_52 i_this_told_54 f_this_told_numbers_55 hc56 _) (kgV (kq q_640 rfl) (kq q_458 rfl) (kq q_459 rfl) (kq q_59 rfl) (kq q_460 rfl)) yd_X3_push ⟨Nat.le_of_ble_eq_true rfl, Nat.le_of_ble_eq_true rfl⟩ hN hK hP hD [5, 6] rfl rfl (ci := 2) rfl rfl rfl rfl rfl hl.1 rfl (lv_room (Nat.le_of_ble_eq_true rfl)) dX9_compare_90) hP hD hS hA [5, 6] rfl rfl (fun H locs hP hD hS => ?_)
    have hP : va_P (dC, dI) vwCl [cl_X9 h_this h_this_now h_this_kept h_this_told h_this_text h_this_script h_this_momentReader h_this_spanReader h_this_adder h_this_other h_this_trial h_this_ways i_this, cl_X4 h_this_now h_this_now_day h_this_now_second h_this_now_months h_this_now_days h_this_now_seconds, (h_this_now_months, .inl (cI, 8, .inl f_this_now_months)), (h_this_now_days, .inl (cI, 8, .inl f_this_now_days)), (h_this_now_seconds, .inl (cI, 8, .inl f_this_now_seconds)), cl_X3 h_this_told h_this_told_numbers i_this_told_54, (h_this_told_numbers, .inl (cJ, 8, .inr (.inl f_this_told_numbers_55))), cl_X0 h_this_adder i_this_adder_40, cl_X0 h_this_other i_this_other_43] H := hP
    have hD : va_D A [cl_X9 h_this h_this_now h_this_kept h_this_told h_this_text h_this_script h_this_momentReader h_this_spanReader h_this_adder h_this_other h_this_trial h_this_ways i_this, cl_X4 h_this_now h_this_now_day h_this_now_second h_this_now_months h_this_now_days h_this_now_seconds, (h_this_now_months, .inl (cI, 8, .inl f_this_now_months)), (h_this_now_days, .inl (cI, 8, .inl f_this_now_days)), (h_this_now_seconds, .inl (cI, 8, .inl f_this_now_seconds)), cl_X3 h_this_told h_this_told_numbers i_this_told_54, (h_this_told_numbers, .inl (cJ, 8, .inr (.inl f_this_told_numbers_55))), cl_X0 h_this_adder i_this_adder_40, cl_X0 h_this_other i_this_other_43] := hD
    refine lv_iconst (v := (0 : Int32)) hx hb dX9_compare_93 (by decide) ?_
    refine lv_istore (lv' := [(4, .int (0 : Int32)), (0, .ref h_this), (1, .int p1), (2, .int p2), (3, .int p3)]) hx hb dX9_compare_94 hl (by decide) rfl (fun ls hl => ?_)
    refine lv_ldc (v := (730119 : Int32)) hx hb hown (hts _ (kq q_658 rfl)) dX9_compare_96 ?_
    refine lv_istore (lv' := [(5, .int (730119 : Int32)), (4, .int (0 : Int32)), (0, .ref h_this), (1, .int p1), (2, .int p2), (3, .int p3)]) hx hb dX9_compare_98 hl (by decide) rfl (fun ls hl => ?_)
    exact LP_100 N _ _ _ _ _ _ _ _ _ h (lv_sub hl [2, 1, 0] rfl) hP hD hS
  have h := ite_t c38 h
  refine lv_iconst (v := (-1 : Int32)) hx hb dX9_compare_21 (by decide) ?_
  obtain ⟨rfl, rfl, rfl, rfl, rfl⟩ := pj5 h
  exact hEnd _ _ _ _ hP hS dX9_compare_22 rfl
noncomputable def fX8_clear (N : Nat) (i_this : Nat → Int32) (j_this : Nat → Int64) : Option ((Nat → Int32)) := (some (upd (upd i_this 1 (0 : Int32)) 2 (1 : Int32)))
set_option maxHeartbeats 4000000 in
set_option maxRecDepth 100000 in
theorem kX8_clear (l : Launch) (dC : Nat → ClassId) (dI : Nat → Nat → Nat) (cI cJ cB : ClassId) (h_this h_this_unlike : Nat) (N : Nat) (i_this : Nat → Int32) (j_this : Nat → Int64) (o_i_this : Nat → Int32) (hf : fX8_clear N i_this j_this = some o_i_this) : MV l yX8_clear (kws yX8_clear cX8_clear 1 (none)) (kR 0 0) (dC, dI) (kT cI cJ cB) [.ref h_this] [cl_X8 h_this h_this_unlike i_this j_this] [cl_X8 h_this h_this_unlike o_i_this j_this] := by
  refine MV.of (cc := cX8_clear) (maxL := 1) (by decide) (Nat.le_of_ble_eq_true rfl) (fun p e s m args below meth c A Q ls KC hN hK hP hD hA hl hEnd => ?_)
  obtain ⟨hx, hb, hml, hown, hts⟩ := KC
  have hown : s.vm.findClass "DateSpans$Ways" = some m.cls := hown
  have hl : lv_has ls 1 [(0, .ref h_this)] := hl
  have hS : va_S A s.heap s.heap [] := va_S.rf
  have h := hf
  unfold fX8_clear at h
  refine lv_aload_n hx hb dX8_clear_0 rfl (lv_at hl 0 rfl) ?_
  refine lv_iconst (v := (0 : Int32)) hx hb dX8_clear_1 (by decide) ?_
  refine va_put (D := (dC, dI)) (ci := 7) (v := .int (0 : Int32)) (ty := .int) (C := RX8) (T := TX8) (N := 7) hx hb hts inX8 tyX8 tyX8_ok nmX8 hown hK hP hD hS 0 rfl rfl 1 (by decide) (hts _ (kq q_266 rfl)) (fun _ h9 => h9) rfl (by decide +kernel) rfl rfl (Nat.le_of_ble_eq_true rfl) dX8_clear_2 (fun H locs hP hD hS => ?_)
  have hP : va_P (dC, dI) vwCl [(h_this, .inr (7, [.ref h_this_unlike, .int (0 : Int32), .int (i_this 2), .long (j_this 3), .long (j_this 4), .int (i_this 5), .int (i_this 6)]))] H := hP
  have hD : va_D A [(h_this, .inr (7, [.ref h_this_unlike, .int (0 : Int32), .int (i_this 2), .long (j_this 3), .long (j_this 4), .int (i_this 5), .int (i_this 6)]))] := hD
  refine lv_aload_n hx hb dX8_clear_5 rfl (lv_at hl 0 rfl) ?_
  refine lv_iconst (v := (1 : Int32)) hx hb dX8_clear_6 (by decide) ?_
  refine va_put (D := (dC, dI)) (ci := 7) (v := .int (1 : Int32)) (ty := .boolean) (C := RX8) (T := TX8) (N := 7) hx hb hts inX8 tyX8 tyX8_ok nmX8 hown hK hP hD hS 0 rfl rfl 2 (by decide) (hts _ (kq q_268 rfl)) (fun _ h9 => h9) rfl (by decide +kernel) rfl rfl (Nat.le_of_ble_eq_true rfl) dX8_clear_7 (fun H locs hP hD hS => ?_)
  have hP : va_P (dC, dI) vwCl [(h_this, .inr (7, [.ref h_this_unlike, .int (0 : Int32), .int (1 : Int32), .long (j_this 3), .long (j_this 4), .int (i_this 5), .int (i_this 6)]))] H := hP
  have hD : va_D A [(h_this, .inr (7, [.ref h_this_unlike, .int (0 : Int32), .int (1 : Int32), .long (j_this 3), .long (j_this 4), .int (i_this 5), .int (i_this 6)]))] := hD
  have hP : va_P (dC, dI) vwCl [cl_X8 h_this h_this_unlike (upd (upd i_this 1 (0 : Int32)) 2 (1 : Int32)) j_this] H := hP
  have hD : va_D A [cl_X8 h_this h_this_unlike (upd (upd i_this 1 (0 : Int32)) 2 (1 : Int32)) j_this] := hD
  obtain rfl := pj1 h
  exact hEnd _ _ _ _ hP hS dX8_clear_10
noncomputable def fX8_weigh_j26 (N : Nat)  (v1 : Int32) (v2 : Int64) (i_this : Nat → Int32) (j_this : Nat → Int64) : Option ((Nat → Int32) × (Nat → Int64)) := (if (i_this 2) = (0 : Int32) then (if (lg_cmp v2 (j_this 4)) ≤ (0 : Int32) then (some ((upd i_this 2 (0 : Int32)), j_this)) else (some ((upd (upd i_this 2 (0 : Int32)) 6 v1), (vp_updL j_this 4 v2)))) else (some ((upd (upd i_this 2 (0 : Int32)) 6 v1), (vp_updL j_this 4 v2))))
noncomputable def fX8_weigh (N : Nat) (p1 : Int32) (p2 : Int64) (i_this : Nat → Int32) (j_this : Nat → Int64) : Option ((Nat → Int32) × (Nat → Int64)) := (if (i_this 2) = (0 : Int32) then (if (0 : Int32) ≤ (lg_cmp p2 (j_this 3)) then (fX8_weigh_j26 N p1 p2 i_this j_this) else (fX8_weigh_j26 N p1 p2 (upd i_this 5 p1) (vp_updL j_this 3 p2))) else (fX8_weigh_j26 N p1 p2 (upd i_this 5 p1) (vp_updL j_this 3 p2)))
set_option maxHeartbeats 4000000 in
set_option maxRecDepth 100000 in
theorem kX8_weigh (l : Launch) (dC : Nat → ClassId) (dI : Nat → Nat → Nat) (cI cJ cB : ClassId) (h_this h_this_unlike : Nat) (N : Nat) (p1 : Int32) (p2 : Int64) (i_this : Nat → Int32) (j_this : Nat → Int64) (o_i_this : Nat → Int32) (o_j_this : Nat → Int64) (hf : fX8_weigh N p1 p2 i_this j_this = some (o_i_this, o_j_this)) : MV l yX8_weigh (kws yX8_weigh cX8_weigh 4 (none)) (kR 0 0) (dC, dI) (kT cI cJ cB) [.ref h_this, .int p1, .long p2] [cl_X8 h_this h_this_unlike i_this j_this] [cl_X8 h_this h_this_unlike o_i_this o_j_this] := by
  refine MV.of (cc := cX8_weigh) (maxL := 4) (by decide) (Nat.le_of_ble_eq_true rfl) (fun p e s m args below meth c A Q ls KC hN hK hP hD hA hl hEnd => ?_)
  obtain ⟨hx, hb, hml, hown, hts⟩ := KC
  have hown : s.vm.findClass "DateSpans$Ways" = some m.cls := hown
  have hl : lv_has ls 4 [(0, .ref h_this), (1, .int p1), (2, .long p2)] := hl
  have hS : va_S A s.heap s.heap [] := va_S.rf
  have JN_26 : ∀ (v1 : Int32) (v2 : Int64) (i_this : Nat → Int32) (j_this : Nat → Int64) (ls : Array Slot) (H : Heap) (locs : List Loc), (fX8_weigh_j26 N) v1 v2 i_this j_this = some (o_i_this, o_j_this) → lv_has ls 4 [(0, .ref h_this), (1, .int v1), (2, .long v2)] → va_P (dC, dI) vwCl [cl_X8 h_this h_this_unlike i_this j_this] H → va_D A [cl_X8 h_this h_this_unlike i_this j_this] → va_S A s.heap H locs → W p l e (kR 0 0) s m args below meth c H locs 0 0 Q (F0 m 26 ls []) := by
    intro v1 v2 i_this j_this ls H locs h hl hP hD hS
    unfold fX8_weigh_j26 at h
    refine lv_aload_n hx hb dX8_weigh_26 rfl (lv_at hl 0 rfl) ?_
    refine va_get (D := (dC, dI)) (ci := 7) (v := .int (i_this 2)) (C := RX8) (T := TX8) (N := 7) hx hb hts inX8 hown hK hP 0 rfl rfl 2 (by decide) (hts _ (kq q_268 rfl)) (fun _ h9 => h9) rfl dX8_weigh_27 ?_
    refine lv_if_ne (tgt := 42) hx hb dX8_weigh_30 (by decide) (fun c1 => ?_) (fun c1 => ?_)
    · have h := ite_f c1 h
      refine lv_aload_n hx hb dX8_weigh_42 rfl (lv_at hl 0 rfl) ?_
      refine lv_lload_n hx hb dX8_weigh_43 rfl (lv_at hl 2 rfl) ?_
      refine va_put (D := (dC, dI)) (ci := 7) (v := .long v2) (ty := .long) (C := RX8) (T := TX8) (N := 7) hx hb hts inX8 tyX8 tyX8_ok nmX8 hown hK hP hD hS 0 rfl rfl 4 (by decide) (hts _ (kq q_271 rfl)) (fun _ h9 => h9) rfl (by decide +kernel) rfl rfl (Nat.le_of_ble_eq_true rfl) dX8_weigh_44 (fun H locs hP hD hS => ?_)
      have hP : va_P (dC, dI) vwCl [(h_this, .inr (7, [.ref h_this_unlike, .int (i_this 1), .int (i_this 2), .long (j_this 3), .long v2, .int (i_this 5), .int (i_this 6)]))] H := hP
      have hD : va_D A [(h_this, .inr (7, [.ref h_this_unlike, .int (i_this 1), .int (i_this 2), .long (j_this 3), .long v2, .int (i_this 5), .int (i_this 6)]))] := hD
      refine lv_aload_n hx hb dX8_weigh_47 rfl (lv_at hl 0 rfl) ?_
      refine lv_iload_n hx hb dX8_weigh_48 rfl (lv_at hl 1 rfl) ?_
      refine va_put (D := (dC, dI)) (ci := 7) (v := .int v1) (ty := .int) (C := RX8) (T := TX8) (N := 7) hx hb hts inX8 tyX8 tyX8_ok nmX8 hown hK hP hD hS 0 rfl rfl 6 (by decide) (hts _ (kq q_275 rfl)) (fun _ h9 => h9) rfl (by decide +kernel) rfl rfl (Nat.le_of_ble_eq_true rfl) dX8_weigh_49 (fun H locs hP hD hS => ?_)
      have hP : va_P (dC, dI) vwCl [(h_this, .inr (7, [.ref h_this_unlike, .int (i_this 1), .int (i_this 2), .long (j_this 3), .long v2, .int (i_this 5), .int v1]))] H := hP
      have hD : va_D A [(h_this, .inr (7, [.ref h_this_unlike, .int (i_this 1), .int (i_this 2), .long (j_this 3), .long v2, .int (i_this 5), .int v1]))] := hD
      refine lv_aload_n hx hb dX8_weigh_52 rfl (lv_at hl 0 rfl) ?_
      refine lv_iconst (v := (0 : Int32)) hx hb dX8_weigh_53 (by decide) ?_
      refine va_put (D := (dC, dI)) (ci := 7) (v := .int (0 : Int32)) (ty := .boolean) (C := RX8) (T := TX8) (N := 7) hx hb hts inX8 tyX8 tyX8_ok nmX8 hown hK hP hD hS 0 rfl rfl 2 (by decide) (hts _ (kq q_268 rfl)) (fun _ h9 => h9) rfl (by decide +kernel) rfl rfl (Nat.le_of_ble_eq_true rfl) dX8_weigh_54 (fun H locs hP hD hS => ?_)
      have hP : va_P (dC, dI) vwCl [(h_this, .inr (7, [.ref h_this_unlike, .int (i_this 1), .int (0 : Int32), .long (j_this 3), .long v2, .int (i_this 5), .int v1]))] H := hP
      have hD : va_D A [(h_this, .inr (7, [.ref h_this_unlike, .int (i_this 1), .int (0 : Int32), .long (j_this 3), .long v2, .int (i_this 5), .int v1]))] := hD
      have hP : va_P (dC, dI) vwCl [cl_X8 h_this h_this_unlike (upd (upd i_this 2 (0 : Int32)) 6 v1) (vp_updL j_this 4 v2)] H := hP
      have hD : va_D A [cl_X8 h_this h_this_unlike (upd (upd i_this 2 (0 : Int32)) 6 v1) (vp_updL j_this 4 v2)] := hD
      obtain ⟨rfl, rfl⟩ := pj2 h
      exact hEnd _ _ _ _ hP hS dX8_weigh_57
    have h := ite_t c1 h
    refine lv_lload_n hx hb dX8_weigh_33 rfl (lv_at hl 2 rfl) ?_
    refine lv_aload_n hx hb dX8_weigh_34 rfl (lv_at hl 0 rfl) ?_
    refine va_get (D := (dC, dI)) (ci := 7) (v := .long (j_this 4)) (C := RX8) (T := TX8) (N := 7) hx hb hts inX8 hown hK hP 0 rfl rfl 4 (by decide) (hts _ (kq q_271 rfl)) (fun _ h9 => h9) rfl dX8_weigh_35 ?_
    refine W.lcmp hx hb dX8_weigh_38 ?_
    refine lv_if_le (tgt := 52) hx hb dX8_weigh_39 (by decide) (fun c2 => ?_) (fun c2 => ?_)
    · have h := ite_t c2 h
      refine lv_aload_n hx hb dX8_weigh_52 rfl (lv_at hl 0 rfl) ?_
      refine lv_iconst (v := (0 : Int32)) hx hb dX8_weigh_53 (by decide) ?_
      refine va_put (D := (dC, dI)) (ci := 7) (v := .int (0 : Int32)) (ty := .boolean) (C := RX8) (T := TX8) (N := 7) hx hb hts inX8 tyX8 tyX8_ok nmX8 hown hK hP hD hS 0 rfl rfl 2 (by decide) (hts _ (kq q_268 rfl)) (fun _ h9 => h9) rfl (by decide +kernel) rfl rfl (Nat.le_of_ble_eq_true rfl) dX8_weigh_54 (fun H locs hP hD hS => ?_)
      have hP : va_P (dC, dI) vwCl [(h_this, .inr (7, [.ref h_this_unlike, .int (i_this 1), .int (0 : Int32), .long (j_this 3), .long (j_this 4), .int (i_this 5), .int (i_this 6)]))] H := hP
      have hD : va_D A [(h_this, .inr (7, [.ref h_this_unlike, .int (i_this 1), .int (0 : Int32), .long (j_this 3), .long (j_this 4), .int (i_this 5), .int (i_this 6)]))] := hD
      have hP : va_P (dC, dI) vwCl [cl_X8 h_this h_this_unlike (upd i_this 2 (0 : Int32)) j_this] H := hP
      have hD : va_D A [cl_X8 h_this h_this_unlike (upd i_this 2 (0 : Int32)) j_this] := hD
      obtain ⟨rfl, rfl⟩ := pj2 h
      exact hEnd _ _ _ _ hP hS dX8_weigh_57
    have h := ite_f c2 h
    refine lv_aload_n hx hb dX8_weigh_42 rfl (lv_at hl 0 rfl) ?_
    refine lv_lload_n hx hb dX8_weigh_43 rfl (lv_at hl 2 rfl) ?_
    refine va_put (D := (dC, dI)) (ci := 7) (v := .long v2) (ty := .long) (C := RX8) (T := TX8) (N := 7) hx hb hts inX8 tyX8 tyX8_ok nmX8 hown hK hP hD hS 0 rfl rfl 4 (by decide) (hts _ (kq q_271 rfl)) (fun _ h9 => h9) rfl (by decide +kernel) rfl rfl (Nat.le_of_ble_eq_true rfl) dX8_weigh_44 (fun H locs hP hD hS => ?_)
    have hP : va_P (dC, dI) vwCl [(h_this, .inr (7, [.ref h_this_unlike, .int (i_this 1), .int (i_this 2), .long (j_this 3), .long v2, .int (i_this 5), .int (i_this 6)]))] H := hP
    have hD : va_D A [(h_this, .inr (7, [.ref h_this_unlike, .int (i_this 1), .int (i_this 2), .long (j_this 3), .long v2, .int (i_this 5), .int (i_this 6)]))] := hD
    refine lv_aload_n hx hb dX8_weigh_47 rfl (lv_at hl 0 rfl) ?_
    refine lv_iload_n hx hb dX8_weigh_48 rfl (lv_at hl 1 rfl) ?_
    refine va_put (D := (dC, dI)) (ci := 7) (v := .int v1) (ty := .int) (C := RX8) (T := TX8) (N := 7) hx hb hts inX8 tyX8 tyX8_ok nmX8 hown hK hP hD hS 0 rfl rfl 6 (by decide) (hts _ (kq q_275 rfl)) (fun _ h9 => h9) rfl (by decide +kernel) rfl rfl (Nat.le_of_ble_eq_true rfl) dX8_weigh_49 (fun H locs hP hD hS => ?_)
    have hP : va_P (dC, dI) vwCl [(h_this, .inr (7, [.ref h_this_unlike, .int (i_this 1), .int (i_this 2), .long (j_this 3), .long v2, .int (i_this 5), .int v1]))] H := hP
    have hD : va_D A [(h_this, .inr (7, [.ref h_this_unlike, .int (i_this 1), .int (i_this 2), .long (j_this 3), .long v2, .int (i_this 5), .int v1]))] := hD
    refine lv_aload_n hx hb dX8_weigh_52 rfl (lv_at hl 0 rfl) ?_
    refine lv_iconst (v := (0 : Int32)) hx hb dX8_weigh_53 (by decide) ?_
    refine va_put (D := (dC, dI)) (ci := 7) (v := .int (0 : Int32)) (ty := .boolean) (C := RX8) (T := TX8) (N := 7) hx hb hts inX8 tyX8 tyX8_ok nmX8 hown hK hP hD hS 0 rfl rfl 2 (by decide) (hts _ (kq q_268 rfl)) (fun _ h9 => h9) rfl (by decide +kernel) rfl rfl (Nat.le_of_ble_eq_true rfl) dX8_weigh_54 (fun H locs hP hD hS => ?_)
    have hP : va_P (dC, dI) vwCl [(h_this, .inr (7, [.ref h_this_unlike, .int (i_this 1), .int (0 : Int32), .long (j_this 3), .long v2, .int (i_this 5), .int v1]))] H := hP
    have hD : va_D A [(h_this, .inr (7, [.ref h_this_unlike, .int (i_this 1), .int (0 : Int32), .long (j_this 3), .long v2, .int (i_this 5), .int v1]))] := hD
    have hP : va_P (dC, dI) vwCl [cl_X8 h_this h_this_unlike (upd (upd i_this 2 (0 : Int32)) 6 v1) (vp_updL j_this 4 v2)] H := hP
    have hD : va_D A [cl_X8 h_this h_this_unlike (upd (upd i_this 2 (0 : Int32)) 6 v1) (vp_updL j_this 4 v2)] := hD
    obtain ⟨rfl, rfl⟩ := pj2 h
    exact hEnd _ _ _ _ hP hS dX8_weigh_57
  have h := hf
  unfold fX8_weigh at h
  refine lv_aload_n hx hb dX8_weigh_0 rfl (lv_at hl 0 rfl) ?_
  refine va_get (D := (dC, dI)) (ci := 7) (v := .int (i_this 2)) (C := RX8) (T := TX8) (N := 7) hx hb hts inX8 hown hK hP 0 rfl rfl 2 (by decide) (hts _ (kq q_268 rfl)) (fun _ h9 => h9) rfl dX8_weigh_1 ?_
  refine lv_if_ne (tgt := 16) hx hb dX8_weigh_4 (by decide) (fun c3 => ?_) (fun c3 => ?_)
  · have h := ite_f c3 h
    refine lv_aload_n hx hb dX8_weigh_16 rfl (lv_at hl 0 rfl) ?_
    refine lv_lload_n hx hb dX8_weigh_17 rfl (lv_at hl 2 rfl) ?_
    refine va_put (D := (dC, dI)) (ci := 7) (v := .long p2) (ty := .long) (C := RX8) (T := TX8) (N := 7) hx hb hts inX8 tyX8 tyX8_ok nmX8 hown hK hP hD hS 0 rfl rfl 3 (by decide) (hts _ (kq q_269 rfl)) (fun _ h9 => h9) rfl (by decide +kernel) rfl rfl (Nat.le_of_ble_eq_true rfl) dX8_weigh_18 (fun H locs hP hD hS => ?_)
    have hP : va_P (dC, dI) vwCl [(h_this, .inr (7, [.ref h_this_unlike, .int (i_this 1), .int (i_this 2), .long p2, .long (j_this 4), .int (i_this 5), .int (i_this 6)]))] H := hP
    have hD : va_D A [(h_this, .inr (7, [.ref h_this_unlike, .int (i_this 1), .int (i_this 2), .long p2, .long (j_this 4), .int (i_this 5), .int (i_this 6)]))] := hD
    refine lv_aload_n hx hb dX8_weigh_21 rfl (lv_at hl 0 rfl) ?_
    refine lv_iload_n hx hb dX8_weigh_22 rfl (lv_at hl 1 rfl) ?_
    refine va_put (D := (dC, dI)) (ci := 7) (v := .int p1) (ty := .int) (C := RX8) (T := TX8) (N := 7) hx hb hts inX8 tyX8 tyX8_ok nmX8 hown hK hP hD hS 0 rfl rfl 5 (by decide) (hts _ (kq q_273 rfl)) (fun _ h9 => h9) rfl (by decide +kernel) rfl rfl (Nat.le_of_ble_eq_true rfl) dX8_weigh_23 (fun H locs hP hD hS => ?_)
    have hP : va_P (dC, dI) vwCl [(h_this, .inr (7, [.ref h_this_unlike, .int (i_this 1), .int (i_this 2), .long p2, .long (j_this 4), .int p1, .int (i_this 6)]))] H := hP
    have hD : va_D A [(h_this, .inr (7, [.ref h_this_unlike, .int (i_this 1), .int (i_this 2), .long p2, .long (j_this 4), .int p1, .int (i_this 6)]))] := hD
    have hP : va_P (dC, dI) vwCl [cl_X8 h_this h_this_unlike (upd i_this 5 p1) (vp_updL j_this 3 p2)] H := hP
    have hD : va_D A [cl_X8 h_this h_this_unlike (upd i_this 5 p1) (vp_updL j_this 3 p2)] := hD
    exact JN_26 _ _ _ _ _ _ _ h (lv_sub hl [0, 1, 2] rfl) hP hD hS
  have h := ite_t c3 h
  refine lv_lload_n hx hb dX8_weigh_7 rfl (lv_at hl 2 rfl) ?_
  refine lv_aload_n hx hb dX8_weigh_8 rfl (lv_at hl 0 rfl) ?_
  refine va_get (D := (dC, dI)) (ci := 7) (v := .long (j_this 3)) (C := RX8) (T := TX8) (N := 7) hx hb hts inX8 hown hK hP 0 rfl rfl 3 (by decide) (hts _ (kq q_269 rfl)) (fun _ h9 => h9) rfl dX8_weigh_9 ?_
  refine W.lcmp hx hb dX8_weigh_12 ?_
  refine lv_if_ge (tgt := 26) hx hb dX8_weigh_13 (by decide) (fun c4 => ?_) (fun c4 => ?_)
  · have h := ite_t c4 h
    exact JN_26 _ _ _ _ _ _ _ h (lv_sub hl [0, 1, 2] rfl) hP hD hS
  have h := ite_f c4 h
  refine lv_aload_n hx hb dX8_weigh_16 rfl (lv_at hl 0 rfl) ?_
  refine lv_lload_n hx hb dX8_weigh_17 rfl (lv_at hl 2 rfl) ?_
  refine va_put (D := (dC, dI)) (ci := 7) (v := .long p2) (ty := .long) (C := RX8) (T := TX8) (N := 7) hx hb hts inX8 tyX8 tyX8_ok nmX8 hown hK hP hD hS 0 rfl rfl 3 (by decide) (hts _ (kq q_269 rfl)) (fun _ h9 => h9) rfl (by decide +kernel) rfl rfl (Nat.le_of_ble_eq_true rfl) dX8_weigh_18 (fun H locs hP hD hS => ?_)
  have hP : va_P (dC, dI) vwCl [(h_this, .inr (7, [.ref h_this_unlike, .int (i_this 1), .int (i_this 2), .long p2, .long (j_this 4), .int (i_this 5), .int (i_this 6)]))] H := hP
  have hD : va_D A [(h_this, .inr (7, [.ref h_this_unlike, .int (i_this 1), .int (i_this 2), .long p2, .long (j_this 4), .int (i_this 5), .int (i_this 6)]))] := hD
  refine lv_aload_n hx hb dX8_weigh_21 rfl (lv_at hl 0 rfl) ?_
  refine lv_iload_n hx hb dX8_weigh_22 rfl (lv_at hl 1 rfl) ?_
  refine va_put (D := (dC, dI)) (ci := 7) (v := .int p1) (ty := .int) (C := RX8) (T := TX8) (N := 7) hx hb hts inX8 tyX8 tyX8_ok nmX8 hown hK hP hD hS 0 rfl rfl 5 (by decide) (hts _ (kq q_273 rfl)) (fun _ h9 => h9) rfl (by decide +kernel) rfl rfl (Nat.le_of_ble_eq_true rfl) dX8_weigh_23 (fun H locs hP hD hS => ?_)
  have hP : va_P (dC, dI) vwCl [(h_this, .inr (7, [.ref h_this_unlike, .int (i_this 1), .int (i_this 2), .long p2, .long (j_this 4), .int p1, .int (i_this 6)]))] H := hP
  have hD : va_D A [(h_this, .inr (7, [.ref h_this_unlike, .int (i_this 1), .int (i_this 2), .long p2, .long (j_this 4), .int p1, .int (i_this 6)]))] := hD
  have hP : va_P (dC, dI) vwCl [cl_X8 h_this h_this_unlike (upd i_this 5 p1) (vp_updL j_this 3 p2)] H := hP
  have hD : va_D A [cl_X8 h_this h_this_unlike (upd i_this 5 p1) (vp_updL j_this 3 p2)] := hD
  exact JN_26 _ _ _ _ _ _ _ h (lv_sub hl [0, 1, 2] rfl) hP hD hS
noncomputable def fX8_meet_j47 (N : Nat)  (v2 : Int64) (i_this : Nat → Int32) (j_this : Nat → Int64) (f_this_unlike : Nat → Int64) : Option ((Nat → Int32) × (Nat → Int64) × (Nat → Int64)) := (if (i_this 1) < (0 : Int32) then (some (i_this, j_this, f_this_unlike)) else (if (16 : Int32) ≤ (i_this 1) then (some (i_this, j_this, f_this_unlike)) else (gi (i_this 1) 16 (some ((upd i_this 1 ((i_this 1) + (1 : Int32))), j_this, (vp_updL f_this_unlike (i_this 1).toNatClampNeg v2))))))
noncomputable def fX8_meet_l9 (N : Nat)  (n : Nat) : Int64 → Int32 → (Nat → Int32) → (Nat → Int64) → (Nat → Int64) → Option ((Nat → Int32) × (Nat → Int64) × (Nat → Int64)) := Nat.rec (motive := fun _ => Int64 → Int32 → (Nat → Int32) → (Nat → Int64) → (Nat → Int64) → Option ((Nat → Int32) × (Nat → Int64) × (Nat → Int64))) (fun _ _ _ _ _ => none) (fun _ K_9 v2 v4 i_this j_this f_this_unlike => (if (i_this 1) ≤ v4 then (fX8_meet_j47 N v2 i_this j_this f_this_unlike) else (if (16 : Int32) ≤ v4 then (fX8_meet_j47 N v2 i_this j_this f_this_unlike) else (gi v4 16 (if (lg_cmp (f_this_unlike v4.toNatClampNeg) v2) = (0 : Int32) then (some (i_this, j_this, f_this_unlike)) else (nm (v4 + (1 : Int32)) fun z8 => (K_9 v2 z8 i_this j_this f_this_unlike))))))) n
theorem fX8_meet_l9_s (N : Nat)  (n : Nat) (v2 : Int64) (v4 : Int32) (i_this : Nat → Int32) (j_this : Nat → Int64) (f_this_unlike : Nat → Int64) : fX8_meet_l9 N (n + 1) v2 v4 i_this j_this f_this_unlike = (if (i_this 1) ≤ v4 then (fX8_meet_j47 N v2 i_this j_this f_this_unlike) else (if (16 : Int32) ≤ v4 then (fX8_meet_j47 N v2 i_this j_this f_this_unlike) else (gi v4 16 (if (lg_cmp (f_this_unlike v4.toNatClampNeg) v2) = (0 : Int32) then (some (i_this, j_this, f_this_unlike)) else (nm (v4 + (1 : Int32)) fun z8 => ((fX8_meet_l9 N n) v2 z8 i_this j_this f_this_unlike)))))) := rfl
theorem fX8_meet_l9_0 (N : Nat)  (v2 : Int64) (v4 : Int32) (i_this : Nat → Int32) (j_this : Nat → Int64) (f_this_unlike : Nat → Int64) : fX8_meet_l9 N 0 v2 v4 i_this j_this f_this_unlike = none := rfl
noncomputable def fX8_meet (N : Nat) (p1 : Int32) (p2 : Int64) (i_this : Nat → Int32) (j_this : Nat → Int64) (f_this_unlike : Nat → Int64) : Option ((Nat → Int32) × (Nat → Int64) × (Nat → Int64)) := (bd2 (fX8_weigh N p1 p2 i_this j_this) fun i_this_9 j_this_10 => (fX8_meet_l9 N N p2 (0 : Int32) i_this_9 j_this_10 f_this_unlike))
set_option maxHeartbeats 4000000 in
set_option maxRecDepth 100000 in
theorem kX8_meet (l : Launch) (dC : Nat → ClassId) (dI : Nat → Nat → Nat) (cI cJ cB : ClassId) (h_this h_this_unlike : Nat) (N : Nat) (p1 : Int32) (p2 : Int64) (i_this : Nat → Int32) (j_this : Nat → Int64) (f_this_unlike : Nat → Int64) (o_i_this : Nat → Int32) (o_j_this : Nat → Int64) (o_f_this_unlike : Nat → Int64) (hf : fX8_meet N p1 p2 i_this j_this f_this_unlike = some (o_i_this, o_j_this, o_f_this_unlike)) : MV l yX8_meet (kws yX8_meet cX8_meet 5 (none)) (kR 1 23) (dC, dI) (kT cI cJ cB) [.ref h_this, .int p1, .long p2] [cl_X8 h_this h_this_unlike i_this j_this, (h_this_unlike, .inl (cJ, 16, .inr (.inl f_this_unlike)))] [cl_X8 h_this h_this_unlike o_i_this o_j_this, (h_this_unlike, .inl (cJ, 16, .inr (.inl o_f_this_unlike)))] := by
  refine MV.of (cc := cX8_meet) (maxL := 5) (by decide) (Nat.le_of_ble_eq_true rfl) (fun p e s m args below meth c A Q ls KC hN hK hP hD hA hl hEnd => ?_)
  obtain ⟨hx, hb, hml, hown, hts⟩ := KC
  have hown : s.vm.findClass "DateSpans$Ways" = some m.cls := hown
  have hl : lv_has ls 5 [(0, .ref h_this), (1, .int p1), (2, .long p2)] := hl
  have hS : va_S A s.heap s.heap [] := va_S.rf
  have JN_47 : ∀ (v2 : Int64) (i_this : Nat → Int32) (j_this : Nat → Int64) (f_this_unlike : Nat → Int64) (ls : Array Slot) (H : Heap) (locs : List Loc), (fX8_meet_j47 N) v2 i_this j_this f_this_unlike = some (o_i_this, o_j_this, o_f_this_unlike) → lv_has ls 5 [(0, .ref h_this), (2, .long v2)] → va_P (dC, dI) vwCl [cl_X8 h_this h_this_unlike i_this j_this, (h_this_unlike, .inl (cJ, 16, .inr (.inl f_this_unlike)))] H → va_D A [cl_X8 h_this h_this_unlike i_this j_this, (h_this_unlike, .inl (cJ, 16, .inr (.inl f_this_unlike)))] → va_S A s.heap H locs → W p l e (kR 1 23) s m args below meth c H locs 0 0 Q (F0 m 47 ls []) := by
    intro v2 i_this j_this f_this_unlike ls H locs h hl hP hD hS
    unfold fX8_meet_j47 at h
    refine lv_aload_n hx hb dX8_meet_47 rfl (lv_at hl 0 rfl) ?_
    refine va_get (D := (dC, dI)) (ci := 7) (v := .int (i_this 1)) (C := RX8) (T := TX8) (N := 7) hx hb hts inX8 hown hK hP 0 rfl rfl 1 (by decide) (hts _ (kq q_266 rfl)) (fun _ h9 => h9) rfl dX8_meet_48 ?_
    refine lv_if_lt (tgt := 86) hx hb dX8_meet_51 (by decide) (fun c1 => ?_) (fun c1 => ?_)
    · have h := ite_t c1 h
      obtain ⟨rfl, rfl, rfl⟩ := pj3 h
      exact hEnd _ _ _ _ hP hS dX8_meet_86
    have h := ite_f c1 h
    refine lv_aload_n hx hb dX8_meet_54 rfl (lv_at hl 0 rfl) ?_
    refine va_get (D := (dC, dI)) (ci := 7) (v := .int (i_this 1)) (C := RX8) (T := TX8) (N := 7) hx hb hts inX8 hown hK hP 0 rfl rfl 1 (by decide) (hts _ (kq q_266 rfl)) (fun _ h9 => h9) rfl dX8_meet_55 ?_
    refine lv_aload_n hx hb dX8_meet_58 rfl (lv_at hl 0 rfl) ?_
    refine va_get (D := (dC, dI)) (ci := 7) (v := .ref h_this_unlike) (C := RX8) (T := TX8) (N := 7) hx hb hts inX8 hown hK hP 0 rfl rfl 0 (by decide) (hts _ (kq q_265 rfl)) (fun _ h9 => h9) rfl dX8_meet_59 ?_
    refine va_alen (v := (16 : Int32)) hx hb hK hP 1 1 rfl (ty := .long) rfl (show Int32.ofNat 16 = (16 : Int32) by decide) dX8_meet_62 ?_
    refine lv_icmp_ge (tgt := 86) hx hb dX8_meet_63 (by decide) (fun c2 => ?_) (fun c2 => ?_)
    · have h := ite_t c2 h
      obtain ⟨rfl, rfl, rfl⟩ := pj3 h
      exact hEnd _ _ _ _ hP hS dX8_meet_86
    have h := ite_f c2 h
    refine lv_aload_n hx hb dX8_meet_66 rfl (lv_at hl 0 rfl) ?_
    refine va_get (D := (dC, dI)) (ci := 7) (v := .ref h_this_unlike) (C := RX8) (T := TX8) (N := 7) hx hb hts inX8 hown hK hP 0 rfl rfl 0 (by decide) (hts _ (kq q_265 rfl)) (fun _ h9 => h9) rfl dX8_meet_67 ?_
    refine lv_aload_n hx hb dX8_meet_70 rfl (lv_at hl 0 rfl) ?_
    refine va_get (D := (dC, dI)) (ci := 7) (v := .int (i_this 1)) (C := RX8) (T := TX8) (N := 7) hx hb hts inX8 hown hK hP 0 rfl rfl 1 (by decide) (hts _ (kq q_266 rfl)) (fun _ h9 => h9) rfl dX8_meet_71 ?_
    refine lv_lload_n hx hb dX8_meet_74 rfl (lv_at hl 1 rfl) ?_
    obtain ⟨hi3, h⟩ := gi_at h
    refine va_last hx hb hK hP hD hS 1 1 rfl rfl hi3 dX8_meet_75 (fun H locs hP hD hS => ?_)
    have hP : va_P (dC, dI) vwCl [cl_X8 h_this h_this_unlike i_this j_this, (h_this_unlike, .inl (cJ, 16, .inr (.inl (vp_updL f_this_unlike (i_this 1).toNatClampNeg v2))))] H := hP
    have hD : va_D A [cl_X8 h_this h_this_unlike i_this j_this, (h_this_unlike, .inl (cJ, 16, .inr (.inl (vp_updL f_this_unlike (i_this 1).toNatClampNeg v2))))] := hD
    refine lv_aload_n hx hb dX8_meet_76 rfl (lv_at hl 0 rfl) ?_
    refine lv_dup hx hb dX8_meet_77 rfl ?_
    refine va_get (D := (dC, dI)) (ci := 7) (v := .int (i_this 1)) (C := RX8) (T := TX8) (N := 7) hx hb hts inX8 hown hK hP 0 rfl rfl 1 (by decide) (hts _ (kq q_266 rfl)) (fun _ h9 => h9) rfl dX8_meet_78 ?_
    refine lv_iconst (v := (1 : Int32)) hx hb dX8_meet_81 (by decide) ?_
    refine lv_iadd hx hb dX8_meet_82 ?_
    refine va_put (D := (dC, dI)) (ci := 7) (v := .int ((i_this 1) + (1 : Int32))) (ty := .int) (C := RX8) (T := TX8) (N := 7) hx hb hts inX8 tyX8 tyX8_ok nmX8 hown hK hP hD hS 0 rfl rfl 1 (by decide) (hts _ (kq q_266 rfl)) (fun _ h9 => h9) rfl (by decide +kernel) rfl rfl (Nat.le_of_ble_eq_true rfl) dX8_meet_83 (fun H locs hP hD hS => ?_)
    have hP : va_P (dC, dI) vwCl [(h_this, .inr (7, [.ref h_this_unlike, .int ((i_this 1) + (1 : Int32)), .int (i_this 2), .long (j_this 3), .long (j_this 4), .int (i_this 5), .int (i_this 6)])), (h_this_unlike, .inl (cJ, 16, .inr (.inl (vp_updL f_this_unlike (i_this 1).toNatClampNeg v2))))] H := hP
    have hD : va_D A [(h_this, .inr (7, [.ref h_this_unlike, .int ((i_this 1) + (1 : Int32)), .int (i_this 2), .long (j_this 3), .long (j_this 4), .int (i_this 5), .int (i_this 6)])), (h_this_unlike, .inl (cJ, 16, .inr (.inl (vp_updL f_this_unlike (i_this 1).toNatClampNeg v2))))] := hD
    have hP : va_P (dC, dI) vwCl [cl_X8 h_this h_this_unlike (upd i_this 1 ((i_this 1) + (1 : Int32))) j_this, (h_this_unlike, .inl (cJ, 16, .inr (.inl (vp_updL f_this_unlike (i_this 1).toNatClampNeg v2))))] H := hP
    have hD : va_D A [cl_X8 h_this h_this_unlike (upd i_this 1 ((i_this 1) + (1 : Int32))) j_this, (h_this_unlike, .inl (cJ, 16, .inr (.inl (vp_updL f_this_unlike (i_this 1).toNatClampNeg v2))))] := hD
    obtain ⟨rfl, rfl, rfl⟩ := pj3 h
    exact hEnd _ _ _ _ hP hS dX8_meet_86
  have LP_9 : ∀ n_9 : Nat, ∀ (v2 : Int64) (v4 : Int32) (i_this : Nat → Int32) (j_this : Nat → Int64) (f_this_unlike : Nat → Int64) (ls : Array Slot) (H : Heap) (locs : List Loc), fX8_meet_l9 N n_9 v2 v4 i_this j_this f_this_unlike = some (o_i_this, o_j_this, o_f_this_unlike) → lv_has ls 5 [(0, .ref h_this), (2, .long v2), (4, .int v4)] → va_P (dC, dI) vwCl [cl_X8 h_this h_this_unlike i_this j_this, (h_this_unlike, .inl (cJ, 16, .inr (.inl f_this_unlike)))] H → va_D A [cl_X8 h_this h_this_unlike i_this j_this, (h_this_unlike, .inl (cJ, 16, .inr (.inl f_this_unlike)))] → va_S A s.heap H locs → W p l e (kR 1 23) s m args below meth c H locs 0 0 Q (F0 m 9 ls []) := by
    intro n_9
    induction n_9 with
    | zero =>
      intro v2 v4 i_this j_this f_this_unlike ls H locs h hl hP hD hS
      rw [fX8_meet_l9_0] at h; cases h
    | succ n_9 ih_9 =>
      intro v2 v4 i_this j_this f_this_unlike ls H locs h hl hP hD hS
      rw [fX8_meet_l9_s] at h
      refine lv_iload hx hb dX8_meet_9 (lv_at hl 2 rfl) ?_
      refine lv_aload_n hx hb dX8_meet_11 rfl (lv_at hl 0 rfl) ?_
      refine va_get (D := (dC, dI)) (ci := 7) (v := .int (i_this 1)) (C := RX8) (T := TX8) (N := 7) hx hb hts inX8 hown hK hP 0 rfl rfl 1 (by decide) (hts _ (kq q_266 rfl)) (fun _ h9 => h9) rfl dX8_meet_12 ?_
      refine lv_icmp_ge (tgt := 47) hx hb dX8_meet_15 (by decide) (fun c4 => ?_) (fun c4 => ?_)
      · have h := ite_t c4 h
        exact JN_47 _ _ _ _ _ _ _ h (lv_sub hl [0, 1] rfl) hP hD hS
      have h := ite_f c4 h
      refine lv_iload hx hb dX8_meet_18 (lv_at hl 2 rfl) ?_
      refine lv_aload_n hx hb dX8_meet_20 rfl (lv_at hl 0 rfl) ?_
      refine va_get (D := (dC, dI)) (ci := 7) (v := .ref h_this_unlike) (C := RX8) (T := TX8) (N := 7) hx hb hts inX8 hown hK hP 0 rfl rfl 0 (by decide) (hts _ (kq q_265 rfl)) (fun _ h9 => h9) rfl dX8_meet_21 ?_
      refine va_alen (v := (16 : Int32)) hx hb hK hP 1 1 rfl (ty := .long) rfl (show Int32.ofNat 16 = (16 : Int32) by decide) dX8_meet_24 ?_
      refine lv_icmp_ge (tgt := 47) hx hb dX8_meet_25 (by decide) (fun c5 => ?_) (fun c5 => ?_)
      · have h := ite_t c5 h
        exact JN_47 _ _ _ _ _ _ _ h (lv_sub hl [0, 1] rfl) hP hD hS
      have h := ite_f c5 h
      refine lv_aload_n hx hb dX8_meet_28 rfl (lv_at hl 0 rfl) ?_
      refine va_get (D := (dC, dI)) (ci := 7) (v := .ref h_this_unlike) (C := RX8) (T := TX8) (N := 7) hx hb hts inX8 hown hK hP 0 rfl rfl 0 (by decide) (hts _ (kq q_265 rfl)) (fun _ h9 => h9) rfl dX8_meet_29 ?_
      refine lv_iload hx hb dX8_meet_32 (lv_at hl 2 rfl) ?_
      obtain ⟨hi6, h⟩ := gi_at h
      refine va_lald hx hb hK hP 1 1 rfl rfl hi6 dX8_meet_34 ?_
      refine lv_lload_n hx hb dX8_meet_35 rfl (lv_at hl 1 rfl) ?_
      refine W.lcmp hx hb dX8_meet_36 ?_
      refine lv_if_ne (tgt := 41) hx hb dX8_meet_37 (by decide) (fun c7 => ?_) (fun c7 => ?_)
      · have h := ite_f c7 h
        obtain ⟨z8, ez8⟩ : ∃ y : Int32, y = (v4 + (1 : Int32)) := ⟨_, rfl⟩
        have h := nm_at ez8 h
        refine lv_iinc (v := z8) (lv' := [(4, .int z8), (0, .ref h_this), (2, .long v2)]) hx hb dX8_meet_41 hl (k := 2) rfl (by rw [ez8]; rfl) (by decide) rfl (fun ls hl => ?_)
        refine lv_goto (tgt := 9) hx hb dX8_meet_44 (by decide) ?_
        exact ih_9 _ _ _ _ _ _ _ _ h (lv_sub hl [1, 2, 0] rfl) hP hD hS
      have h := ite_t c7 h
      obtain ⟨rfl, rfl, rfl⟩ := pj3 h
      exact hEnd _ _ _ _ hP hS dX8_meet_40
  have h := hf
  unfold fX8_meet at h
  refine lv_aload_n hx hb dX8_meet_0 rfl (lv_at hl 0 rfl) ?_
  refine lv_iload_n hx hb dX8_meet_1 rfl (lv_at hl 1 rfl) ?_
  refine lv_lload_n hx hb dX8_meet_2 rfl (lv_at hl 2 rfl) ?_
  obtain ⟨i_this_9, j_this_10, hc11, h⟩ := bd2_at h
  refine kjV (kV (own := "DateSpans$Ways") (C := "DateSpans$Ways") (b := h_this) (As := [.int p1, .long p2]) (rest := []) ⟨hx, hb, hml, hown, hts⟩ (kX8_weigh l dC dI cI cJ cB h_this h_this_unlike N p1 p2 i_this j_this i_this_9 j_this_10 hc11 _) (kgV (kq q_683 rfl) (kq q_684 rfl) (kq q_685 rfl) (kq q_65 rfl) (kq q_686 rfl)) yd_X8_weigh ⟨Nat.le_of_ble_eq_true rfl, Nat.le_of_ble_eq_true rfl⟩ hN hK hP hD [0] rfl rfl (ci := 7) rfl rfl rfl rfl rfl hl.1 rfl (lv_room (Nat.le_of_ble_eq_true rfl)) dX8_meet_3) hP hD hS hA [0] rfl rfl (fun H locs hP hD hS => ?_)
  have hP : va_P (dC, dI) vwCl [cl_X8 h_this h_this_unlike i_this_9 j_this_10, (h_this_unlike, .inl (cJ, 16, .inr (.inl f_this_unlike)))] H := hP
  have hD : va_D A [cl_X8 h_this h_this_unlike i_this_9 j_this_10, (h_this_unlike, .inl (cJ, 16, .inr (.inl f_this_unlike)))] := hD
  refine lv_iconst (v := (0 : Int32)) hx hb dX8_meet_6 (by decide) ?_
  refine lv_istore (lv' := [(4, .int (0 : Int32)), (0, .ref h_this), (1, .int p1), (2, .long p2)]) hx hb dX8_meet_7 hl (by decide) rfl (fun ls hl => ?_)
  exact LP_9 N _ _ _ _ _ _ _ _ h (lv_sub hl [1, 3, 0] rfl) hP hD hS
noncomputable def fX9_lasts_l43 (N : Nat) (i_this : Int32) (f_this_now_months : Nat → Int32) (f_this_now_days : Nat → Int32) (f_this_now_seconds : Nat → Int32) (n : Nat) : Int32 → Int32 → (Nat → Int64) → (Nat → Int32) → (Nat → Int32) → (Nat → Int64) → (Nat → Int64) → Option (Int64 × Int32 × (Nat → Int64) × (Nat → Int32) × (Nat → Int32) × (Nat → Int64) × (Nat → Int64)) := Nat.rec (motive := fun _ => Int32 → Int32 → (Nat → Int64) → (Nat → Int32) → (Nat → Int32) → (Nat → Int64) → (Nat → Int64) → Option (Int64 × Int32 × (Nat → Int64) × (Nat → Int32) × (Nat → Int32) × (Nat → Int64) × (Nat → Int64))) (fun _ _ _ _ _ _ _ => none) (fun _ K_43 v3 i_this_told f_this_told_numbers i_this_adder i_this_ways j_this_ways f_this_ways_unlike => (if (876215 : Int32) < v3 then (if (i_this_ways 1) = (0 : Int32) then (some ((-2 : Int64), i_this_told, f_this_told_numbers, i_this_adder, i_this_ways, j_this_ways, f_this_ways_unlike)) else (bd2 (fX3_tell__ N (j_this_ways 3) (j_this_ways 4) ((i_this_ways 5).toInt64) i_this_told f_this_told_numbers) fun i_this_told_3 f_this_told_numbers_4 => (bd2 (fX3_push N ((i_this_ways 6).toInt64) i_this_told_3 f_this_told_numbers_4) fun i_this_told_6 f_this_told_numbers_7 => (bd2 (fX3_push N ((i_this_ways 1).toInt64) i_this_told_6 f_this_told_numbers_7) fun i_this_told_9 f_this_told_numbers_10 => (some ((j_this_ways 3), i_this_told_9, f_this_told_numbers_10, i_this_adder, i_this_ways, j_this_ways, f_this_ways_unlike)))))) else (bd2 (fX0_leads N v3 (0 : Int32) (0 : Int32) i_this_adder) fun r12 i_this_adder_13 => (if r12 = (0 : Int32) then (nm (v3 + (1 : Int32)) fun z16 => (K_43 z16 i_this_told f_this_told_numbers i_this_adder_13 i_this_ways j_this_ways f_this_ways_unlike)) else (bd1 (fX0_instant N i_this_adder_13) fun r17 => (bd1 (fX9_instantOf N v3 (0 : Int32)) fun r19 => (bd3 (fX8_meet N v3 (r17 - r19) i_this_ways j_this_ways f_this_ways_unlike) fun i_this_ways_21 j_this_ways_22 f_this_ways_unlike_23 => (nm (v3 + (1 : Int32)) fun z25 => (K_43 z25 i_this_told f_this_told_numbers i_this_adder_13 i_this_ways_21 j_this_ways_22 f_this_ways_unlike_23))))))))) n
theorem fX9_lasts_l43_s (N : Nat) (i_this : Int32) (f_this_now_months : Nat → Int32) (f_this_now_days : Nat → Int32) (f_this_now_seconds : Nat → Int32) (n : Nat) (v3 : Int32) (i_this_told : Int32) (f_this_told_numbers : Nat → Int64) (i_this_adder : Nat → Int32) (i_this_ways : Nat → Int32) (j_this_ways : Nat → Int64) (f_this_ways_unlike : Nat → Int64) : fX9_lasts_l43 N i_this f_this_now_months f_this_now_days f_this_now_seconds (n + 1) v3 i_this_told f_this_told_numbers i_this_adder i_this_ways j_this_ways f_this_ways_unlike = (if (876215 : Int32) < v3 then (if (i_this_ways 1) = (0 : Int32) then (some ((-2 : Int64), i_this_told, f_this_told_numbers, i_this_adder, i_this_ways, j_this_ways, f_this_ways_unlike)) else (bd2 (fX3_tell__ N (j_this_ways 3) (j_this_ways 4) ((i_this_ways 5).toInt64) i_this_told f_this_told_numbers) fun i_this_told_3 f_this_told_numbers_4 => (bd2 (fX3_push N ((i_this_ways 6).toInt64) i_this_told_3 f_this_told_numbers_4) fun i_this_told_6 f_this_told_numbers_7 => (bd2 (fX3_push N ((i_this_ways 1).toInt64) i_this_told_6 f_this_told_numbers_7) fun i_this_told_9 f_this_told_numbers_10 => (some ((j_this_ways 3), i_this_told_9, f_this_told_numbers_10, i_this_adder, i_this_ways, j_this_ways, f_this_ways_unlike)))))) else (bd2 (fX0_leads N v3 (0 : Int32) (0 : Int32) i_this_adder) fun r12 i_this_adder_13 => (if r12 = (0 : Int32) then (nm (v3 + (1 : Int32)) fun z16 => ((fX9_lasts_l43 N i_this f_this_now_months f_this_now_days f_this_now_seconds n) z16 i_this_told f_this_told_numbers i_this_adder_13 i_this_ways j_this_ways f_this_ways_unlike)) else (bd1 (fX0_instant N i_this_adder_13) fun r17 => (bd1 (fX9_instantOf N v3 (0 : Int32)) fun r19 => (bd3 (fX8_meet N v3 (r17 - r19) i_this_ways j_this_ways f_this_ways_unlike) fun i_this_ways_21 j_this_ways_22 f_this_ways_unlike_23 => (nm (v3 + (1 : Int32)) fun z25 => ((fX9_lasts_l43 N i_this f_this_now_months f_this_now_days f_this_now_seconds n) z25 i_this_told f_this_told_numbers i_this_adder_13 i_this_ways_21 j_this_ways_22 f_this_ways_unlike_23)))))))) := rfl
theorem fX9_lasts_l43_0 (N : Nat) (i_this : Int32) (f_this_now_months : Nat → Int32) (f_this_now_days : Nat → Int32) (f_this_now_seconds : Nat → Int32) (v3 : Int32) (i_this_told : Int32) (f_this_told_numbers : Nat → Int64) (i_this_adder : Nat → Int32) (i_this_ways : Nat → Int32) (j_this_ways : Nat → Int64) (f_this_ways_unlike : Nat → Int64) : fX9_lasts_l43 N i_this f_this_now_months f_this_now_days f_this_now_seconds 0 v3 i_this_told f_this_told_numbers i_this_adder i_this_ways j_this_ways f_this_ways_unlike = none := rfl
noncomputable def fX9_lasts (N : Nat) (p1 : Int32) (p2 : Int32) (i_this : Int32) (f_this_now_months : Nat → Int32) (f_this_now_days : Nat → Int32) (f_this_now_seconds : Nat → Int32) (i_this_told : Int32) (f_this_told_numbers : Nat → Int64) (i_this_adder : Nat → Int32) (i_this_ways : Nat → Int32) (j_this_ways : Nat → Int64) (f_this_ways_unlike : Nat → Int64) : Option (Int64 × Int32 × (Nat → Int64) × (Nat → Int32) × (Nat → Int32) × (Nat → Int64) × (Nat → Int64)) := (bd1 (fX9_isSlot N p1) fun r26 => (if r26 = (0 : Int32) then (some ((-1 : Int64), i_this_told, f_this_told_numbers, i_this_adder, i_this_ways, j_this_ways, f_this_ways_unlike)) else (bd1 (fX9_isLaw N p2) fun r29 => (if r29 = (0 : Int32) then (some ((-1 : Int64), i_this_told, f_this_told_numbers, i_this_adder, i_this_ways, j_this_ways, f_this_ways_unlike)) else (bd2 (fX0_takes N p1 (1 : Int32) p2 i_this_adder f_this_now_months f_this_now_days f_this_now_seconds) fun r32 i_this_adder_33 => (bd1 (fX8_clear N i_this_ways j_this_ways) fun i_this_ways_35 => (fX9_lasts_l43 N i_this f_this_now_months f_this_now_days f_this_now_seconds N (730119 : Int32) i_this_told f_this_told_numbers i_this_adder_33 i_this_ways_35 j_this_ways f_this_ways_unlike)))))))
set_option maxHeartbeats 4000000 in
set_option maxRecDepth 100000 in
theorem kX9_lasts (l : Launch) (dC : Nat → ClassId) (dI : Nat → Nat → Nat) (cI cJ cB : ClassId) (h_this h_this_now h_this_kept h_this_told h_this_text h_this_script h_this_momentReader h_this_spanReader h_this_adder h_this_other h_this_trial h_this_ways h_this_now_day h_this_now_second h_this_now_months h_this_now_days h_this_now_seconds h_this_told_numbers h_this_ways_unlike : Nat) (N : Nat) (p1 : Int32) (p2 : Int32) (i_this : Int32) (f_this_now_months : Nat → Int32) (f_this_now_days : Nat → Int32) (f_this_now_seconds : Nat → Int32) (i_this_told : Int32) (f_this_told_numbers : Nat → Int64) (i_this_adder : Nat → Int32) (i_this_ways : Nat → Int32) (j_this_ways : Nat → Int64) (f_this_ways_unlike : Nat → Int64) (r : Int64) (o_i_this_told : Int32) (o_f_this_told_numbers : Nat → Int64) (o_i_this_adder : Nat → Int32) (o_i_this_ways : Nat → Int32) (o_j_this_ways : Nat → Int64) (o_f_this_ways_unlike : Nat → Int64) (hf : fX9_lasts N p1 p2 i_this f_this_now_months f_this_now_days f_this_now_seconds i_this_told f_this_told_numbers i_this_adder i_this_ways j_this_ways f_this_ways_unlike = some (r, o_i_this_told, o_f_this_told_numbers, o_i_this_adder, o_i_this_ways, o_j_this_ways, o_f_this_ways_unlike)) : ML l yX9_lasts (kws yX9_lasts cX9_lasts 4 (some .long)) (kR 5 117) (dC, dI) (kT cI cJ cB) [.ref h_this, .int p1, .int p2] [cl_X9 h_this h_this_now h_this_kept h_this_told h_this_text h_this_script h_this_momentReader h_this_spanReader h_this_adder h_this_other h_this_trial h_this_ways i_this, cl_X4 h_this_now h_this_now_day h_this_now_second h_this_now_months h_this_now_days h_this_now_seconds, (h_this_now_months, .inl (cI, 8, .inl f_this_now_months)), (h_this_now_days, .inl (cI, 8, .inl f_this_now_days)), (h_this_now_seconds, .inl (cI, 8, .inl f_this_now_seconds)), cl_X3 h_this_told h_this_told_numbers i_this_told, (h_this_told_numbers, .inl (cJ, 8, .inr (.inl f_this_told_numbers))), cl_X0 h_this_adder i_this_adder, cl_X8 h_this_ways h_this_ways_unlike i_this_ways j_this_ways, (h_this_ways_unlike, .inl (cJ, 16, .inr (.inl f_this_ways_unlike)))] [cl_X9 h_this h_this_now h_this_kept h_this_told h_this_text h_this_script h_this_momentReader h_this_spanReader h_this_adder h_this_other h_this_trial h_this_ways i_this, cl_X4 h_this_now h_this_now_day h_this_now_second h_this_now_months h_this_now_days h_this_now_seconds, (h_this_now_months, .inl (cI, 8, .inl f_this_now_months)), (h_this_now_days, .inl (cI, 8, .inl f_this_now_days)), (h_this_now_seconds, .inl (cI, 8, .inl f_this_now_seconds)), cl_X3 h_this_told h_this_told_numbers o_i_this_told, (h_this_told_numbers, .inl (cJ, 8, .inr (.inl o_f_this_told_numbers))), cl_X0 h_this_adder o_i_this_adder, cl_X8 h_this_ways h_this_ways_unlike o_i_this_ways o_j_this_ways, (h_this_ways_unlike, .inl (cJ, 16, .inr (.inl o_f_this_ways_unlike)))] r := by
  refine ML.of (cc := cX9_lasts) (maxL := 4) (by decide) (Nat.le_of_ble_eq_true rfl) (fun p e s m args below meth c A Q ls KC hN hK hP hD hA hl hEnd => ?_)
  obtain ⟨hx, hb, hml, hown, hts⟩ := KC
  have hown : s.vm.findClass "DateSpans" = some m.cls := hown
  have hl : lv_has ls 4 [(0, .ref h_this), (1, .int p1), (2, .int p2)] := hl
  have hS : va_S A s.heap s.heap [] := va_S.rf
  have LP_43 : ∀ n_43 : Nat, ∀ (v3 : Int32) (i_this_told : Int32) (f_this_told_numbers : Nat → Int64) (i_this_adder : Nat → Int32) (i_this_ways : Nat → Int32) (j_this_ways : Nat → Int64) (f_this_ways_unlike : Nat → Int64) (ls : Array Slot) (H : Heap) (locs : List Loc), fX9_lasts_l43 N i_this f_this_now_months f_this_now_days f_this_now_seconds n_43 v3 i_this_told f_this_told_numbers i_this_adder i_this_ways j_this_ways f_this_ways_unlike = some (r, o_i_this_told, o_f_this_told_numbers, o_i_this_adder, o_i_this_ways, o_j_this_ways, o_f_this_ways_unlike) → lv_has ls 4 [(0, .ref h_this), (3, .int v3)] → va_P (dC, dI) vwCl [cl_X9 h_this h_this_now h_this_kept h_this_told h_this_text h_this_script h_this_momentReader h_this_spanReader h_this_adder h_this_other h_this_trial h_this_ways i_this, cl_X4 h_this_now h_this_now_day h_this_now_second h_this_now_months h_this_now_days h_this_now_seconds, (h_this_now_months, .inl (cI, 8, .inl f_this_now_months)), (h_this_now_days, .inl (cI, 8, .inl f_this_now_days)), (h_this_now_seconds, .inl (cI, 8, .inl f_this_now_seconds)), cl_X3 h_this_told h_this_told_numbers i_this_told, (h_this_told_numbers, .inl (cJ, 8, .inr (.inl f_this_told_numbers))), cl_X0 h_this_adder i_this_adder, cl_X8 h_this_ways h_this_ways_unlike i_this_ways j_this_ways, (h_this_ways_unlike, .inl (cJ, 16, .inr (.inl f_this_ways_unlike)))] H → va_D A [cl_X9 h_this h_this_now h_this_kept h_this_told h_this_text h_this_script h_this_momentReader h_this_spanReader h_this_adder h_this_other h_this_trial h_this_ways i_this, cl_X4 h_this_now h_this_now_day h_this_now_second h_this_now_months h_this_now_days h_this_now_seconds, (h_this_now_months, .inl (cI, 8, .inl f_this_now_months)), (h_this_now_days, .inl (cI, 8, .inl f_this_now_days)), (h_this_now_seconds, .inl (cI, 8, .inl f_this_now_seconds)), cl_X3 h_this_told h_this_told_numbers i_this_told, (h_this_told_numbers, .inl (cJ, 8, .inr (.inl f_this_told_numbers))), cl_X0 h_this_adder i_this_adder, cl_X8 h_this_ways h_this_ways_unlike i_this_ways j_this_ways, (h_this_ways_unlike, .inl (cJ, 16, .inr (.inl f_this_ways_unlike)))] → va_S A s.heap H locs → W p l e (kR 5 117) s m args below meth c H locs 0 0 Q (F0 m 43 ls []) := by
    intro n_43
    induction n_43 with
    | zero =>
      intro v3 i_this_told f_this_told_numbers i_this_adder i_this_ways j_this_ways f_this_ways_unlike ls H locs h hl hP hD hS
      rw [fX9_lasts_l43_0] at h; cases h
    | succ n_43 ih_43 =>
      intro v3 i_this_told f_this_told_numbers i_this_adder i_this_ways j_this_ways f_this_ways_unlike ls H locs h hl hP hD hS
      rw [fX9_lasts_l43_s] at h
      refine lv_iload_n hx hb dX9_lasts_43 rfl (lv_at hl 1 rfl) ?_
      refine lv_ldcw (v := (876215 : Int32)) hx hb hown (hts _ (kq q_659 rfl)) dX9_lasts_44 ?_
      refine lv_icmp_gt (tgt := 90) hx hb dX9_lasts_47 (by decide) (fun c1 => ?_) (fun c1 => ?_)
      · have h := ite_t c1 h
        refine lv_aload_n hx hb dX9_lasts_90 rfl (lv_at hl 0 rfl) ?_
        refine va_get (D := (dC, dI)) (ci := 8) (v := .ref h_this_ways) (C := RX9) (T := TX9) (N := 12) hx hb hts inX9 hown hK hP 0 rfl rfl 11 (by decide) (hts _ (kq q_303 rfl)) (fun _ h9 => h9) rfl dX9_lasts_91 ?_
        refine va_getN (D := (dC, dI)) (ci := 7) (v := .int (i_this_ways 1)) (C := RX8) (T := TX8) (N := 7) hx hb hts inX8 hown hK hP 8 rfl rfl 1 (by decide) (kN.use hN q_267 rfl) (fun _ h9 => h9) rfl dX9_lasts_94 ?_
        refine lv_if_ne (tgt := 104) hx hb dX9_lasts_97 (by decide) (fun c2 => ?_) (fun c2 => ?_)
        · have h := ite_f c2 h
          refine lv_aload_n hx hb dX9_lasts_104 rfl (lv_at hl 0 rfl) ?_
          refine va_get (D := (dC, dI)) (ci := 8) (v := .ref h_this_told) (C := RX9) (T := TX9) (N := 12) hx hb hts inX9 hown hK hP 0 rfl rfl 3 (by decide) (hts _ (kq q_295 rfl)) (fun _ h9 => h9) rfl dX9_lasts_105 ?_
          refine lv_aload_n hx hb dX9_lasts_108 rfl (lv_at hl 0 rfl) ?_
          refine va_get (D := (dC, dI)) (ci := 8) (v := .ref h_this_ways) (C := RX9) (T := TX9) (N := 12) hx hb hts inX9 hown hK hP 0 rfl rfl 11 (by decide) (hts _ (kq q_303 rfl)) (fun _ h9 => h9) rfl dX9_lasts_109 ?_
          refine va_getN (D := (dC, dI)) (ci := 7) (v := .long (j_this_ways 3)) (C := RX8) (T := TX8) (N := 7) hx hb hts inX8 hown hK hP 8 rfl rfl 3 (by decide) (kN.use hN q_270 rfl) (fun _ h9 => h9) rfl dX9_lasts_112 ?_
          refine lv_aload_n hx hb dX9_lasts_115 rfl (lv_at hl 0 rfl) ?_
          refine va_get (D := (dC, dI)) (ci := 8) (v := .ref h_this_ways) (C := RX9) (T := TX9) (N := 12) hx hb hts inX9 hown hK hP 0 rfl rfl 11 (by decide) (hts _ (kq q_303 rfl)) (fun _ h9 => h9) rfl dX9_lasts_116 ?_
          refine va_getN (D := (dC, dI)) (ci := 7) (v := .long (j_this_ways 4)) (C := RX8) (T := TX8) (N := 7) hx hb hts inX8 hown hK hP 8 rfl rfl 4 (by decide) (kN.use hN q_272 rfl) (fun _ h9 => h9) rfl dX9_lasts_119 ?_
          refine lv_aload_n hx hb dX9_lasts_122 rfl (lv_at hl 0 rfl) ?_
          refine va_get (D := (dC, dI)) (ci := 8) (v := .ref h_this_ways) (C := RX9) (T := TX9) (N := 12) hx hb hts inX9 hown hK hP 0 rfl rfl 11 (by decide) (hts _ (kq q_303 rfl)) (fun _ h9 => h9) rfl dX9_lasts_123 ?_
          refine va_getN (D := (dC, dI)) (ci := 7) (v := .int (i_this_ways 5)) (C := RX8) (T := TX8) (N := 7) hx hb hts inX8 hown hK hP 8 rfl rfl 5 (by decide) (kN.use hN q_274 rfl) (fun _ h9 => h9) rfl dX9_lasts_126 ?_
          refine lv_i2l hx hb dX9_lasts_129 rfl ?_
          obtain ⟨i_this_told_3, f_this_told_numbers_4, hc5, h⟩ := bd2_at h
          refine kjV (kV (own := "DateSpans") (C := "DateSpans$Row") (b := h_this_told) (As := [.long (j_this_ways 3), .long (j_this_ways 4), .long ((i_this_ways 5).toInt64)]) (rest := []) ⟨hx, hb, hml, hown, hts⟩ (kX3_tell__ l dC dI cI cJ cB h_this_told h_this_told_numbers N (j_this_ways 3) (j_this_ways 4) ((i_this_ways 5).toInt64) i_this_told f_this_told_numbers i_this_told_3 f_this_told_numbers_4 hc5 _) (kgV (kq q_441 rfl) (kq q_442 rfl) (kq q_443 rfl) (kq q_59 rfl) (kq q_444 rfl)) yd_X3_tell__ ⟨Nat.le_of_ble_eq_true rfl, Nat.le_of_ble_eq_true rfl⟩ hN hK hP hD [5, 6] rfl rfl (ci := 2) rfl rfl rfl rfl rfl hl.1 rfl (lv_room (Nat.le_of_ble_eq_true rfl)) dX9_lasts_130) hP hD hS hA [5, 6] rfl rfl (fun H locs hP hD hS => ?_)
          have hP : va_P (dC, dI) vwCl [cl_X9 h_this h_this_now h_this_kept h_this_told h_this_text h_this_script h_this_momentReader h_this_spanReader h_this_adder h_this_other h_this_trial h_this_ways i_this, cl_X4 h_this_now h_this_now_day h_this_now_second h_this_now_months h_this_now_days h_this_now_seconds, (h_this_now_months, .inl (cI, 8, .inl f_this_now_months)), (h_this_now_days, .inl (cI, 8, .inl f_this_now_days)), (h_this_now_seconds, .inl (cI, 8, .inl f_this_now_seconds)), cl_X3 h_this_told h_this_told_numbers i_this_told_3, (h_this_told_numbers, .inl (cJ, 8, .inr (.inl f_this_told_numbers_4))), cl_X0 h_this_adder i_this_adder, cl_X8 h_this_ways h_this_ways_unlike i_this_ways j_this_ways, (h_this_ways_unlike, .inl (cJ, 16, .inr (.inl f_this_ways_unlike)))] H := hP
          have hD : va_D A [cl_X9 h_this h_this_now h_this_kept h_this_told h_this_text h_this_script h_this_momentReader h_this_spanReader h_this_adder h_this_other h_this_trial h_this_ways i_this, cl_X4 h_this_now h_this_now_day h_this_now_second h_this_now_months h_this_now_days h_this_now_seconds, (h_this_now_months, .inl (cI, 8, .inl f_this_now_months)), (h_this_now_days, .inl (cI, 8, .inl f_this_now_days)), (h_this_now_seconds, .inl (cI, 8, .inl f_this_now_seconds)), cl_X3 h_this_told h_this_told_numbers i_this_told_3, (h_this_told_numbers, .inl (cJ, 8, .inr (.inl f_this_told_numbers_4))), cl_X0 h_this_adder i_this_adder, cl_X8 h_this_ways h_this_ways_unlike i_this_ways j_this_ways, (h_this_ways_unlike, .inl (cJ, 16, .inr (.inl f_this_ways_unlike)))] := hD
          refine lv_aload_n hx hb dX9_lasts_133 rfl (lv_at hl 0 rfl) ?_
          refine va_get (D := (dC, dI)) (ci := 8) (v := .ref h_this_told) (C := RX9) (T := TX9) (N := 12) hx hb hts inX9 hown hK hP 0 rfl rfl 3 (by decide) (hts _ (kq q_295 rfl)) (fun _ h9 => h9) rfl dX9_lasts_134 ?_
          refine lv_aload_n hx hb dX9_lasts_137 rfl (lv_at hl 0 rfl) ?_
          refine va_get (D := (dC, dI)) (ci := 8) (v := .ref h_this_ways) (C := RX9) (T := TX9) (N := 12) hx hb hts inX9 hown hK hP 0 rfl rfl 11 (by decide) (hts _ (kq q_303 rfl)) (fun _ h9 => h9) rfl dX9_lasts_138 ?_
          refine va_getN (D := (dC, dI)) (ci := 7) (v := .int (i_this_ways 6)) (C := RX8) (T := TX8) (N := 7) hx hb hts inX8 hown hK hP 8 rfl rfl 6 (by decide) (kN.use hN q_276 rfl) (fun _ h9 => h9) rfl dX9_lasts_141 ?_
          refine lv_i2l hx hb dX9_lasts_144 rfl ?_
          obtain ⟨i_this_told_6, f_this_told_numbers_7, hc8, h⟩ := bd2_at h
          refine kjV (kV (own := "DateSpans") (C := "DateSpans$Row") (b := h_this_told) (As := [.long ((i_this_ways 6).toInt64)]) (rest := []) ⟨hx, hb, hml, hown, hts⟩ (kX3_push l dC dI cI cJ cB h_this_told h_this_told_numbers N ((i_this_ways 6).toInt64) i_this_told_3 f_this_told_numbers_4 i_this_told_6 f_this_told_numbers_7 hc8 _) (kgV (kq q_640 rfl) (kq q_458 rfl) (kq q_459 rfl) (kq q_59 rfl) (kq q_460 rfl)) yd_X3_push ⟨Nat.le_of_ble_eq_true rfl, Nat.le_of_ble_eq_true rfl⟩ hN hK hP hD [5, 6] rfl rfl (ci := 2) rfl rfl rfl rfl rfl hl.1 rfl (lv_room (Nat.le_of_ble_eq_true rfl)) dX9_lasts_145) hP hD hS hA [5, 6] rfl rfl (fun H locs hP hD hS => ?_)
          have hP : va_P (dC, dI) vwCl [cl_X9 h_this h_this_now h_this_kept h_this_told h_this_text h_this_script h_this_momentReader h_this_spanReader h_this_adder h_this_other h_this_trial h_this_ways i_this, cl_X4 h_this_now h_this_now_day h_this_now_second h_this_now_months h_this_now_days h_this_now_seconds, (h_this_now_months, .inl (cI, 8, .inl f_this_now_months)), (h_this_now_days, .inl (cI, 8, .inl f_this_now_days)), (h_this_now_seconds, .inl (cI, 8, .inl f_this_now_seconds)), cl_X3 h_this_told h_this_told_numbers i_this_told_6, (h_this_told_numbers, .inl (cJ, 8, .inr (.inl f_this_told_numbers_7))), cl_X0 h_this_adder i_this_adder, cl_X8 h_this_ways h_this_ways_unlike i_this_ways j_this_ways, (h_this_ways_unlike, .inl (cJ, 16, .inr (.inl f_this_ways_unlike)))] H := hP
          have hD : va_D A [cl_X9 h_this h_this_now h_this_kept h_this_told h_this_text h_this_script h_this_momentReader h_this_spanReader h_this_adder h_this_other h_this_trial h_this_ways i_this, cl_X4 h_this_now h_this_now_day h_this_now_second h_this_now_months h_this_now_days h_this_now_seconds, (h_this_now_months, .inl (cI, 8, .inl f_this_now_months)), (h_this_now_days, .inl (cI, 8, .inl f_this_now_days)), (h_this_now_seconds, .inl (cI, 8, .inl f_this_now_seconds)), cl_X3 h_this_told h_this_told_numbers i_this_told_6, (h_this_told_numbers, .inl (cJ, 8, .inr (.inl f_this_told_numbers_7))), cl_X0 h_this_adder i_this_adder, cl_X8 h_this_ways h_this_ways_unlike i_this_ways j_this_ways, (h_this_ways_unlike, .inl (cJ, 16, .inr (.inl f_this_ways_unlike)))] := hD
          refine lv_aload_n hx hb dX9_lasts_148 rfl (lv_at hl 0 rfl) ?_
          refine va_get (D := (dC, dI)) (ci := 8) (v := .ref h_this_told) (C := RX9) (T := TX9) (N := 12) hx hb hts inX9 hown hK hP 0 rfl rfl 3 (by decide) (hts _ (kq q_295 rfl)) (fun _ h9 => h9) rfl dX9_lasts_149 ?_
          refine lv_aload_n hx hb dX9_lasts_152 rfl (lv_at hl 0 rfl) ?_
          refine va_get (D := (dC, dI)) (ci := 8) (v := .ref h_this_ways) (C := RX9) (T := TX9) (N := 12) hx hb hts inX9 hown hK hP 0 rfl rfl 11 (by decide) (hts _ (kq q_303 rfl)) (fun _ h9 => h9) rfl dX9_lasts_153 ?_
          refine va_getN (D := (dC, dI)) (ci := 7) (v := .int (i_this_ways 1)) (C := RX8) (T := TX8) (N := 7) hx hb hts inX8 hown hK hP 8 rfl rfl 1 (by decide) (kN.use hN q_267 rfl) (fun _ h9 => h9) rfl dX9_lasts_156 ?_
          refine lv_i2l hx hb dX9_lasts_159 rfl ?_
          obtain ⟨i_this_told_9, f_this_told_numbers_10, hc11, h⟩ := bd2_at h
          refine kjV (kV (own := "DateSpans") (C := "DateSpans$Row") (b := h_this_told) (As := [.long ((i_this_ways 1).toInt64)]) (rest := []) ⟨hx, hb, hml, hown, hts⟩ (kX3_push l dC dI cI cJ cB h_this_told h_this_told_numbers N ((i_this_ways 1).toInt64) i_this_told_6 f_this_told_numbers_7 i_this_told_9 f_this_told_numbers_10 hc11 _) (kgV (kq q_640 rfl) (kq q_458 rfl) (kq q_459 rfl) (kq q_59 rfl) (kq q_460 rfl)) yd_X3_push ⟨Nat.le_of_ble_eq_true rfl, Nat.le_of_ble_eq_true rfl⟩ hN hK hP hD [5, 6] rfl rfl (ci := 2) rfl rfl rfl rfl rfl hl.1 rfl (lv_room (Nat.le_of_ble_eq_true rfl)) dX9_lasts_160) hP hD hS hA [5, 6] rfl rfl (fun H locs hP hD hS => ?_)
          have hP : va_P (dC, dI) vwCl [cl_X9 h_this h_this_now h_this_kept h_this_told h_this_text h_this_script h_this_momentReader h_this_spanReader h_this_adder h_this_other h_this_trial h_this_ways i_this, cl_X4 h_this_now h_this_now_day h_this_now_second h_this_now_months h_this_now_days h_this_now_seconds, (h_this_now_months, .inl (cI, 8, .inl f_this_now_months)), (h_this_now_days, .inl (cI, 8, .inl f_this_now_days)), (h_this_now_seconds, .inl (cI, 8, .inl f_this_now_seconds)), cl_X3 h_this_told h_this_told_numbers i_this_told_9, (h_this_told_numbers, .inl (cJ, 8, .inr (.inl f_this_told_numbers_10))), cl_X0 h_this_adder i_this_adder, cl_X8 h_this_ways h_this_ways_unlike i_this_ways j_this_ways, (h_this_ways_unlike, .inl (cJ, 16, .inr (.inl f_this_ways_unlike)))] H := hP
          have hD : va_D A [cl_X9 h_this h_this_now h_this_kept h_this_told h_this_text h_this_script h_this_momentReader h_this_spanReader h_this_adder h_this_other h_this_trial h_this_ways i_this, cl_X4 h_this_now h_this_now_day h_this_now_second h_this_now_months h_this_now_days h_this_now_seconds, (h_this_now_months, .inl (cI, 8, .inl f_this_now_months)), (h_this_now_days, .inl (cI, 8, .inl f_this_now_days)), (h_this_now_seconds, .inl (cI, 8, .inl f_this_now_seconds)), cl_X3 h_this_told h_this_told_numbers i_this_told_9, (h_this_told_numbers, .inl (cJ, 8, .inr (.inl f_this_told_numbers_10))), cl_X0 h_this_adder i_this_adder, cl_X8 h_this_ways h_this_ways_unlike i_this_ways j_this_ways, (h_this_ways_unlike, .inl (cJ, 16, .inr (.inl f_this_ways_unlike)))] := hD
          refine lv_aload_n hx hb dX9_lasts_163 rfl (lv_at hl 0 rfl) ?_
          refine va_get (D := (dC, dI)) (ci := 8) (v := .ref h_this_ways) (C := RX9) (T := TX9) (N := 12) hx hb hts inX9 hown hK hP 0 rfl rfl 11 (by decide) (hts _ (kq q_303 rfl)) (fun _ h9 => h9) rfl dX9_lasts_164 ?_
          refine va_getN (D := (dC, dI)) (ci := 7) (v := .long (j_this_ways 3)) (C := RX8) (T := TX8) (N := 7) hx hb hts inX8 hown hK hP 8 rfl rfl 3 (by decide) (kN.use hN q_270 rfl) (fun _ h9 => h9) rfl dX9_lasts_167 ?_
          obtain ⟨rfl, rfl, rfl, rfl, rfl, rfl, rfl⟩ := pj7 h
          exact hEnd _ _ _ _ hP hS dX9_lasts_170
        have h := ite_t c2 h
        refine lv_ldc2 (v := (-2 : Int64)) hx hb hown (hts _ (kq q_652 rfl)) dX9_lasts_100 ?_
        obtain ⟨rfl, rfl, rfl, rfl, rfl, rfl, rfl⟩ := pj7 h
        exact hEnd _ _ _ _ hP hS dX9_lasts_103
      have h := ite_f c1 h
      refine lv_aload_n hx hb dX9_lasts_50 rfl (lv_at hl 0 rfl) ?_
      refine va_get (D := (dC, dI)) (ci := 8) (v := .ref h_this_adder) (C := RX9) (T := TX9) (N := 12) hx hb hts inX9 hown hK hP 0 rfl rfl 8 (by decide) (hts _ (kq q_300 rfl)) (fun _ h9 => h9) rfl dX9_lasts_51 ?_
      refine lv_iload_n hx hb dX9_lasts_54 rfl (lv_at hl 1 rfl) ?_
      refine lv_iconst (v := (0 : Int32)) hx hb dX9_lasts_55 (by decide) ?_
      refine lv_iconst (v := (0 : Int32)) hx hb dX9_lasts_56 (by decide) ?_
      obtain ⟨r12, i_this_adder_13, hc14, h⟩ := bd2_at h
      refine kjI (kV (own := "DateSpans") (C := "DateSpans$Adder") (b := h_this_adder) (As := [.int v3, .int (0 : Int32), .int (0 : Int32)]) (rest := []) ⟨hx, hb, hml, hown, hts⟩ (kX0_leads l dC dI cI cJ cB h_this_adder N v3 (0 : Int32) (0 : Int32) i_this_adder r12 i_this_adder_13 hc14 _) (kgV (kq q_543 rfl) (kq q_544 rfl) (kq q_545 rfl) (kq q_63 rfl) (kq q_546 rfl)) yd_X0_leads ⟨Nat.le_of_ble_eq_true rfl, Nat.le_of_ble_eq_true rfl⟩ hN hK hP hD [7] rfl rfl (ci := 0) rfl rfl rfl rfl rfl hl.1 rfl (lv_room (Nat.le_of_ble_eq_true rfl)) dX9_lasts_57) hP hD hS hA [7] rfl rfl (fun H locs hP hD hS => ?_)
      have hP : va_P (dC, dI) vwCl [cl_X9 h_this h_this_now h_this_kept h_this_told h_this_text h_this_script h_this_momentReader h_this_spanReader h_this_adder h_this_other h_this_trial h_this_ways i_this, cl_X4 h_this_now h_this_now_day h_this_now_second h_this_now_months h_this_now_days h_this_now_seconds, (h_this_now_months, .inl (cI, 8, .inl f_this_now_months)), (h_this_now_days, .inl (cI, 8, .inl f_this_now_days)), (h_this_now_seconds, .inl (cI, 8, .inl f_this_now_seconds)), cl_X3 h_this_told h_this_told_numbers i_this_told, (h_this_told_numbers, .inl (cJ, 8, .inr (.inl f_this_told_numbers))), cl_X0 h_this_adder i_this_adder_13, cl_X8 h_this_ways h_this_ways_unlike i_this_ways j_this_ways, (h_this_ways_unlike, .inl (cJ, 16, .inr (.inl f_this_ways_unlike)))] H := hP
      have hD : va_D A [cl_X9 h_this h_this_now h_this_kept h_this_told h_this_text h_this_script h_this_momentReader h_this_spanReader h_this_adder h_this_other h_this_trial h_this_ways i_this, cl_X4 h_this_now h_this_now_day h_this_now_second h_this_now_months h_this_now_days h_this_now_seconds, (h_this_now_months, .inl (cI, 8, .inl f_this_now_months)), (h_this_now_days, .inl (cI, 8, .inl f_this_now_days)), (h_this_now_seconds, .inl (cI, 8, .inl f_this_now_seconds)), cl_X3 h_this_told h_this_told_numbers i_this_told, (h_this_told_numbers, .inl (cJ, 8, .inr (.inl f_this_told_numbers))), cl_X0 h_this_adder i_this_adder_13, cl_X8 h_this_ways h_this_ways_unlike i_this_ways j_this_ways, (h_this_ways_unlike, .inl (cJ, 16, .inr (.inl f_this_ways_unlike)))] := hD
      refine lv_if_eq (tgt := 84) hx hb dX9_lasts_60 (by decide) (fun c15 => ?_) (fun c15 => ?_)
      · have h := ite_t c15 h
        obtain ⟨z16, ez16⟩ : ∃ y : Int32, y = (v3 + (1 : Int32)) := ⟨_, rfl⟩
        have h := nm_at ez16 h
        refine lv_iinc (v := z16) (lv' := [(3, .int z16), (0, .ref h_this)]) hx hb dX9_lasts_84 hl (k := 1) rfl (by rw [ez16]; rfl) (by decide) rfl (fun ls hl => ?_)
        refine lv_goto (tgt := 43) hx hb dX9_lasts_87 (by decide) ?_
        exact ih_43 _ _ _ _ _ _ _ _ _ _ h (lv_sub hl [1, 0] rfl) hP hD hS
      have h := ite_f c15 h
      refine lv_aload_n hx hb dX9_lasts_63 rfl (lv_at hl 0 rfl) ?_
      refine va_get (D := (dC, dI)) (ci := 8) (v := .ref h_this_ways) (C := RX9) (T := TX9) (N := 12) hx hb hts inX9 hown hK hP 0 rfl rfl 11 (by decide) (hts _ (kq q_303 rfl)) (fun _ h9 => h9) rfl dX9_lasts_64 ?_
      refine lv_iload_n hx hb dX9_lasts_67 rfl (lv_at hl 1 rfl) ?_
      refine lv_aload_n hx hb dX9_lasts_68 rfl (lv_at hl 0 rfl) ?_
      refine va_get (D := (dC, dI)) (ci := 8) (v := .ref h_this_adder) (C := RX9) (T := TX9) (N := 12) hx hb hts inX9 hown hK hP 0 rfl rfl 8 (by decide) (hts _ (kq q_300 rfl)) (fun _ h9 => h9) rfl dX9_lasts_69 ?_
      obtain ⟨r17, hc18, h⟩ := bd1_at h
      refine kjL (kV (own := "DateSpans") (C := "DateSpans$Adder") (b := h_this_adder) (As := []) (rest := [.int v3, .ref h_this_ways]) ⟨hx, hb, hml, hown, hts⟩ (kX0_instant l dC dI cI cJ cB h_this_adder N i_this_adder_13 r17 hc18 _) (kgV (kq q_635 rfl) (kq q_581 rfl) (kq q_582 rfl) (kq q_63 rfl) (kq q_583 rfl)) yd_X0_instant ⟨Nat.le_of_ble_eq_true rfl, Nat.le_of_ble_eq_true rfl⟩ hN hK hP hD [7] rfl rfl (ci := 0) rfl rfl rfl rfl rfl hl.1 rfl (lv_room (Nat.le_of_ble_eq_true rfl)) dX9_lasts_72) hP hD hS hA [7] rfl rfl (fun H locs hP hD hS => ?_)
      have hP : va_P (dC, dI) vwCl [cl_X9 h_this h_this_now h_this_kept h_this_told h_this_text h_this_script h_this_momentReader h_this_spanReader h_this_adder h_this_other h_this_trial h_this_ways i_this, cl_X4 h_this_now h_this_now_day h_this_now_second h_this_now_months h_this_now_days h_this_now_seconds, (h_this_now_months, .inl (cI, 8, .inl f_this_now_months)), (h_this_now_days, .inl (cI, 8, .inl f_this_now_days)), (h_this_now_seconds, .inl (cI, 8, .inl f_this_now_seconds)), cl_X3 h_this_told h_this_told_numbers i_this_told, (h_this_told_numbers, .inl (cJ, 8, .inr (.inl f_this_told_numbers))), cl_X0 h_this_adder i_this_adder_13, cl_X8 h_this_ways h_this_ways_unlike i_this_ways j_this_ways, (h_this_ways_unlike, .inl (cJ, 16, .inr (.inl f_this_ways_unlike)))] H := hP
      have hD : va_D A [cl_X9 h_this h_this_now h_this_kept h_this_told h_this_text h_this_script h_this_momentReader h_this_spanReader h_this_adder h_this_other h_this_trial h_this_ways i_this, cl_X4 h_this_now h_this_now_day h_this_now_second h_this_now_months h_this_now_days h_this_now_seconds, (h_this_now_months, .inl (cI, 8, .inl f_this_now_months)), (h_this_now_days, .inl (cI, 8, .inl f_this_now_days)), (h_this_now_seconds, .inl (cI, 8, .inl f_this_now_seconds)), cl_X3 h_this_told h_this_told_numbers i_this_told, (h_this_told_numbers, .inl (cJ, 8, .inr (.inl f_this_told_numbers))), cl_X0 h_this_adder i_this_adder_13, cl_X8 h_this_ways h_this_ways_unlike i_this_ways j_this_ways, (h_this_ways_unlike, .inl (cJ, 16, .inr (.inl f_this_ways_unlike)))] := hD
      refine lv_iload_n hx hb dX9_lasts_75 rfl (lv_at hl 1 rfl) ?_
      refine lv_iconst (v := (0 : Int32)) hx hb dX9_lasts_76 (by decide) ?_
      obtain ⟨r19, hc20, h⟩ := bd1_at h
      refine kjSL (kS0 (own := "DateSpans") (As := [.int v3, .int (0 : Int32)]) (rest := [.long r17, .int v3, .ref h_this_ways]) ⟨hx, hb, hml, hown, hts⟩ (kX9_instantOf l N v3 (0 : Int32) r19 hc20) (kgS (kq q_629 rfl) (kq q_585 rfl) (kq q_57 rfl) (kq q_586 rfl)) yd_X9_instantOf ⟨Nat.le_of_ble_eq_true rfl, Nat.le_of_ble_eq_true rfl⟩ rfl rfl hl.1 rfl (lv_room (Nat.le_of_ble_eq_true rfl)) dX9_lasts_77) ?_
      refine lv_lsub hx hb dX9_lasts_80 ?_
      obtain ⟨i_this_ways_21, j_this_ways_22, f_this_ways_unlike_23, hc24, h⟩ := bd3_at h
      refine kjV (kV (own := "DateSpans") (C := "DateSpans$Ways") (b := h_this_ways) (As := [.int v3, .long (r17 - r19)]) (rest := []) ⟨hx, hb, hml, hown, hts⟩ (kX8_meet l dC dI cI cJ cB h_this_ways h_this_ways_unlike N v3 (r17 - r19) i_this_ways j_this_ways f_this_ways_unlike i_this_ways_21 j_this_ways_22 f_this_ways_unlike_23 hc24 _) (kgV (kq q_679 rfl) (kq q_680 rfl) (kq q_681 rfl) (kq q_65 rfl) (kq q_682 rfl)) yd_X8_meet ⟨Nat.le_of_ble_eq_true rfl, Nat.le_of_ble_eq_true rfl⟩ hN hK hP hD [8, 9] rfl rfl (ci := 7) rfl rfl rfl rfl rfl hl.1 rfl (lv_room (Nat.le_of_ble_eq_true rfl)) dX9_lasts_81) hP hD hS hA [8, 9] rfl rfl (fun H locs hP hD hS => ?_)
      have hP : va_P (dC, dI) vwCl [cl_X9 h_this h_this_now h_this_kept h_this_told h_this_text h_this_script h_this_momentReader h_this_spanReader h_this_adder h_this_other h_this_trial h_this_ways i_this, cl_X4 h_this_now h_this_now_day h_this_now_second h_this_now_months h_this_now_days h_this_now_seconds, (h_this_now_months, .inl (cI, 8, .inl f_this_now_months)), (h_this_now_days, .inl (cI, 8, .inl f_this_now_days)), (h_this_now_seconds, .inl (cI, 8, .inl f_this_now_seconds)), cl_X3 h_this_told h_this_told_numbers i_this_told, (h_this_told_numbers, .inl (cJ, 8, .inr (.inl f_this_told_numbers))), cl_X0 h_this_adder i_this_adder_13, cl_X8 h_this_ways h_this_ways_unlike i_this_ways_21 j_this_ways_22, (h_this_ways_unlike, .inl (cJ, 16, .inr (.inl f_this_ways_unlike_23)))] H := hP
      have hD : va_D A [cl_X9 h_this h_this_now h_this_kept h_this_told h_this_text h_this_script h_this_momentReader h_this_spanReader h_this_adder h_this_other h_this_trial h_this_ways i_this, cl_X4 h_this_now h_this_now_day h_this_now_second h_this_now_months h_this_now_days h_this_now_seconds, (h_this_now_months, .inl (cI, 8, .inl f_this_now_months)), (h_this_now_days, .inl (cI, 8, .inl f_this_now_days)), (h_this_now_seconds, .inl (cI, 8, .inl f_this_now_seconds)), cl_X3 h_this_told h_this_told_numbers i_this_told, (h_this_told_numbers, .inl (cJ, 8, .inr (.inl f_this_told_numbers))), cl_X0 h_this_adder i_this_adder_13, cl_X8 h_this_ways h_this_ways_unlike i_this_ways_21 j_this_ways_22, (h_this_ways_unlike, .inl (cJ, 16, .inr (.inl f_this_ways_unlike_23)))] := hD
      obtain ⟨z25, ez25⟩ : ∃ y : Int32, y = (v3 + (1 : Int32)) := ⟨_, rfl⟩
      have h := nm_at ez25 h
      refine lv_iinc (v := z25) (lv' := [(3, .int z25), (0, .ref h_this)]) hx hb dX9_lasts_84 hl (k := 1) rfl (by rw [ez25]; rfl) (by decide) rfl (fun ls hl => ?_)
      refine lv_goto (tgt := 43) hx hb dX9_lasts_87 (by decide) ?_
      exact ih_43 _ _ _ _ _ _ _ _ _ _ h (lv_sub hl [1, 0] rfl) hP hD hS
  have h := hf
  unfold fX9_lasts at h
  refine lv_iload_n hx hb dX9_lasts_0 rfl (lv_at hl 1 rfl) ?_
  obtain ⟨r26, hc27, h⟩ := bd1_at h
  refine kjSI (kS0 (own := "DateSpans") (As := [.int p1]) (rest := []) ⟨hx, hb, hml, hown, hts⟩ (kX9_isSlot l N p1 r26 hc27) (kgS (kq q_387 rfl) (kq q_388 rfl) (kq q_57 rfl) (kq q_389 rfl)) yd_X9_isSlot ⟨Nat.le_of_ble_eq_true rfl, Nat.le_of_ble_eq_true rfl⟩ rfl rfl hl.1 rfl (lv_room (Nat.le_of_ble_eq_true rfl)) dX9_lasts_1) ?_
  refine lv_if_eq (tgt := 14) hx hb dX9_lasts_4 (by decide) (fun c28 => ?_) (fun c28 => ?_)
  · have h := ite_t c28 h
    refine lv_ldc2 (v := (-1 : Int64)) hx hb hown (hts _ (kq q_657 rfl)) dX9_lasts_14 ?_
    obtain ⟨rfl, rfl, rfl, rfl, rfl, rfl, rfl⟩ := pj7 h
    exact hEnd _ _ _ _ hP hS dX9_lasts_17
  have h := ite_f c28 h
  refine lv_iload_n hx hb dX9_lasts_7 rfl (lv_at hl 2 rfl) ?_
  obtain ⟨r29, hc30, h⟩ := bd1_at h
  refine kjSI (kS0 (own := "DateSpans") (As := [.int p2]) (rest := []) ⟨hx, hb, hml, hown, hts⟩ (kX9_isLaw l N p2 r29 hc30) (kgS (kq q_525 rfl) (kq q_526 rfl) (kq q_57 rfl) (kq q_527 rfl)) yd_X9_isLaw ⟨Nat.le_of_ble_eq_true rfl, Nat.le_of_ble_eq_true rfl⟩ rfl rfl hl.1 rfl (lv_room (Nat.le_of_ble_eq_true rfl)) dX9_lasts_8) ?_
  refine lv_if_ne (tgt := 18) hx hb dX9_lasts_11 (by decide) (fun c31 => ?_) (fun c31 => ?_)
  · have h := ite_f c31 h
    refine lv_aload_n hx hb dX9_lasts_18 rfl (lv_at hl 0 rfl) ?_
    refine va_get (D := (dC, dI)) (ci := 8) (v := .ref h_this_adder) (C := RX9) (T := TX9) (N := 12) hx hb hts inX9 hown hK hP 0 rfl rfl 8 (by decide) (hts _ (kq q_300 rfl)) (fun _ h9 => h9) rfl dX9_lasts_19 ?_
    refine lv_aload_n hx hb dX9_lasts_22 rfl (lv_at hl 0 rfl) ?_
    refine va_get (D := (dC, dI)) (ci := 8) (v := .ref h_this_now) (C := RX9) (T := TX9) (N := 12) hx hb hts inX9 hown hK hP 0 rfl rfl 0 (by decide) (hts _ (kq q_292 rfl)) (fun _ h9 => h9) rfl dX9_lasts_23 ?_
    refine lv_iload_n hx hb dX9_lasts_26 rfl (lv_at hl 1 rfl) ?_
    refine lv_iconst (v := (1 : Int32)) hx hb dX9_lasts_27 (by decide) ?_
    refine lv_iload_n hx hb dX9_lasts_28 rfl (lv_at hl 2 rfl) ?_
    obtain ⟨r32, i_this_adder_33, hc34, h⟩ := bd2_at h
    refine kjI (kV (own := "DateSpans") (C := "DateSpans$Adder") (b := h_this_adder) (As := [.ref h_this_now, .int p1, .int (1 : Int32), .int p2]) (rest := []) ⟨hx, hb, hml, hown, hts⟩ (kX0_takes l dC dI cI cJ cB h_this_adder h_this_now h_this_now_day h_this_now_second h_this_now_months h_this_now_days h_this_now_seconds N p1 (1 : Int32) p2 i_this_adder f_this_now_months f_this_now_days f_this_now_seconds r32 i_this_adder_33 hc34 _) (kgV (kq q_531 rfl) (kq q_532 rfl) (kq q_533 rfl) (kq q_63 rfl) (kq q_534 rfl)) yd_X0_takes ⟨Nat.le_of_ble_eq_true rfl, Nat.le_of_ble_eq_true rfl⟩ hN hK hP hD [7, 1, 2, 3, 4] rfl rfl (ci := 0) rfl rfl rfl rfl rfl hl.1 rfl (lv_room (Nat.le_of_ble_eq_true rfl)) dX9_lasts_29) hP hD hS hA [7, 1, 2, 3, 4] rfl rfl (fun H locs hP hD hS => ?_)
    have hP : va_P (dC, dI) vwCl [cl_X9 h_this h_this_now h_this_kept h_this_told h_this_text h_this_script h_this_momentReader h_this_spanReader h_this_adder h_this_other h_this_trial h_this_ways i_this, cl_X4 h_this_now h_this_now_day h_this_now_second h_this_now_months h_this_now_days h_this_now_seconds, (h_this_now_months, .inl (cI, 8, .inl f_this_now_months)), (h_this_now_days, .inl (cI, 8, .inl f_this_now_days)), (h_this_now_seconds, .inl (cI, 8, .inl f_this_now_seconds)), cl_X3 h_this_told h_this_told_numbers i_this_told, (h_this_told_numbers, .inl (cJ, 8, .inr (.inl f_this_told_numbers))), cl_X0 h_this_adder i_this_adder_33, cl_X8 h_this_ways h_this_ways_unlike i_this_ways j_this_ways, (h_this_ways_unlike, .inl (cJ, 16, .inr (.inl f_this_ways_unlike)))] H := hP
    have hD : va_D A [cl_X9 h_this h_this_now h_this_kept h_this_told h_this_text h_this_script h_this_momentReader h_this_spanReader h_this_adder h_this_other h_this_trial h_this_ways i_this, cl_X4 h_this_now h_this_now_day h_this_now_second h_this_now_months h_this_now_days h_this_now_seconds, (h_this_now_months, .inl (cI, 8, .inl f_this_now_months)), (h_this_now_days, .inl (cI, 8, .inl f_this_now_days)), (h_this_now_seconds, .inl (cI, 8, .inl f_this_now_seconds)), cl_X3 h_this_told h_this_told_numbers i_this_told, (h_this_told_numbers, .inl (cJ, 8, .inr (.inl f_this_told_numbers))), cl_X0 h_this_adder i_this_adder_33, cl_X8 h_this_ways h_this_ways_unlike i_this_ways j_this_ways, (h_this_ways_unlike, .inl (cJ, 16, .inr (.inl f_this_ways_unlike)))] := hD
    refine lv_pop hx hb dX9_lasts_32 rfl ?_
    refine lv_aload_n hx hb dX9_lasts_33 rfl (lv_at hl 0 rfl) ?_
    refine va_get (D := (dC, dI)) (ci := 8) (v := .ref h_this_ways) (C := RX9) (T := TX9) (N := 12) hx hb hts inX9 hown hK hP 0 rfl rfl 11 (by decide) (hts _ (kq q_303 rfl)) (fun _ h9 => h9) rfl dX9_lasts_34 ?_
    obtain ⟨i_this_ways_35, hc36, h⟩ := bd1_at h
    refine kjV (kV (own := "DateSpans") (C := "DateSpans$Ways") (b := h_this_ways) (As := []) (rest := []) ⟨hx, hb, hml, hown, hts⟩ (kX8_clear l dC dI cI cJ cB h_this_ways h_this_ways_unlike N i_this_ways j_this_ways i_this_ways_35 hc36 _) (kgV (kq q_675 rfl) (kq q_676 rfl) (kq q_677 rfl) (kq q_65 rfl) (kq q_678 rfl)) yd_X8_clear ⟨Nat.le_of_ble_eq_true rfl, Nat.le_of_ble_eq_true rfl⟩ hN hK hP hD [8] rfl rfl (ci := 7) rfl rfl rfl rfl rfl hl.1 rfl (lv_room (Nat.le_of_ble_eq_true rfl)) dX9_lasts_37) hP hD hS hA [8] rfl rfl (fun H locs hP hD hS => ?_)
    have hP : va_P (dC, dI) vwCl [cl_X9 h_this h_this_now h_this_kept h_this_told h_this_text h_this_script h_this_momentReader h_this_spanReader h_this_adder h_this_other h_this_trial h_this_ways i_this, cl_X4 h_this_now h_this_now_day h_this_now_second h_this_now_months h_this_now_days h_this_now_seconds, (h_this_now_months, .inl (cI, 8, .inl f_this_now_months)), (h_this_now_days, .inl (cI, 8, .inl f_this_now_days)), (h_this_now_seconds, .inl (cI, 8, .inl f_this_now_seconds)), cl_X3 h_this_told h_this_told_numbers i_this_told, (h_this_told_numbers, .inl (cJ, 8, .inr (.inl f_this_told_numbers))), cl_X0 h_this_adder i_this_adder_33, cl_X8 h_this_ways h_this_ways_unlike i_this_ways_35 j_this_ways, (h_this_ways_unlike, .inl (cJ, 16, .inr (.inl f_this_ways_unlike)))] H := hP
    have hD : va_D A [cl_X9 h_this h_this_now h_this_kept h_this_told h_this_text h_this_script h_this_momentReader h_this_spanReader h_this_adder h_this_other h_this_trial h_this_ways i_this, cl_X4 h_this_now h_this_now_day h_this_now_second h_this_now_months h_this_now_days h_this_now_seconds, (h_this_now_months, .inl (cI, 8, .inl f_this_now_months)), (h_this_now_days, .inl (cI, 8, .inl f_this_now_days)), (h_this_now_seconds, .inl (cI, 8, .inl f_this_now_seconds)), cl_X3 h_this_told h_this_told_numbers i_this_told, (h_this_told_numbers, .inl (cJ, 8, .inr (.inl f_this_told_numbers))), cl_X0 h_this_adder i_this_adder_33, cl_X8 h_this_ways h_this_ways_unlike i_this_ways_35 j_this_ways, (h_this_ways_unlike, .inl (cJ, 16, .inr (.inl f_this_ways_unlike)))] := hD
    refine lv_ldc (v := (730119 : Int32)) hx hb hown (hts _ (kq q_658 rfl)) dX9_lasts_40 ?_
    refine lv_istore_n (lv' := [(3, .int (730119 : Int32)), (0, .ref h_this), (1, .int p1), (2, .int p2)]) hx hb dX9_lasts_42 rfl hl (by decide) rfl (fun ls hl => ?_)
    exact LP_43 N _ _ _ _ _ _ _ _ _ _ h (lv_sub hl [1, 0] rfl) hP hD hS
  have h := ite_t c31 h
  refine lv_ldc2 (v := (-1 : Int64)) hx hb hown (hts _ (kq q_657 rfl)) dX9_lasts_14 ?_
  obtain ⟨rfl, rfl, rfl, rfl, rfl, rfl, rfl⟩ := pj7 h
  exact hEnd _ _ _ _ hP hS dX9_lasts_17
noncomputable def fX9_isTrial (N : Nat) (p1 : Int32) (p2 : Int32) (p3 : Int32) (p4 : Int32) : Option (Int32) := (if p1 < (0 : Int32) then (some (0 : Int32)) else (if (3 : Int32) < p1 then (some (0 : Int32)) else (bd1 (fX9_isSlot N p2) fun r3 => (if r3 = (0 : Int32) then (some (0 : Int32)) else (bd1 (fX9_isSlot N p3) fun r6 => (if r6 = (0 : Int32) then (some (0 : Int32)) else (bd1 (fX9_isLaw N p4) fun r9 => (if r9 = (0 : Int32) then (some (0 : Int32)) else (some (1 : Int32))))))))))
set_option maxHeartbeats 4000000 in
set_option maxRecDepth 100000 in
theorem kX9_isTrial (l : Launch) (N : Nat) (p1 : Int32) (p2 : Int32) (p3 : Int32) (p4 : Int32) (r : Int32) (hf : fX9_isTrial N p1 p2 p3 p4 = some r) : SI l yX9_isTrial (kws yX9_isTrial cX9_isTrial 4 (some .boolean)) (kR 1 20) [.int p1, .int p2, .int p3, .int p4] r := by
  refine SI.of (cc := cX9_isTrial) (maxL := 4) (by decide) (Nat.le_of_ble_eq_true rfl) (fun p e s m args below meth c Q ls KC hl hEnd => ?_)
  obtain ⟨hx, hb, hml, hown, hts⟩ := KC
  have hown : s.vm.findClass "DateSpans" = some m.cls := hown
  have hl : lv_has ls 4 [(0, .int p1), (1, .int p2), (2, .int p3), (3, .int p4)] := hl
  have h := hf
  unfold fX9_isTrial at h
  refine lv_iload_n hx hb dX9_isTrial_0 rfl (lv_at hl 0 rfl) ?_
  refine lv_if_lt (tgt := 34) hx hb dX9_isTrial_1 (by decide) (fun c1 => ?_) (fun c1 => ?_)
  · have h := ite_t c1 h
    refine lv_iconst (v := (0 : Int32)) hx hb dX9_isTrial_34 (by decide) ?_
    obtain rfl := pj1 h
    exact hEnd _ _ dX9_isTrial_35 rfl
  have h := ite_f c1 h
  refine lv_iload_n hx hb dX9_isTrial_4 rfl (lv_at hl 0 rfl) ?_
  refine lv_iconst (v := (3 : Int32)) hx hb dX9_isTrial_5 (by decide) ?_
  refine lv_icmp_gt (tgt := 34) hx hb dX9_isTrial_6 (by decide) (fun c2 => ?_) (fun c2 => ?_)
  · have h := ite_t c2 h
    refine lv_iconst (v := (0 : Int32)) hx hb dX9_isTrial_34 (by decide) ?_
    obtain rfl := pj1 h
    exact hEnd _ _ dX9_isTrial_35 rfl
  have h := ite_f c2 h
  refine lv_iload_n hx hb dX9_isTrial_9 rfl (lv_at hl 1 rfl) ?_
  obtain ⟨r3, hc4, h⟩ := bd1_at h
  refine kjSI (kS0 (own := "DateSpans") (As := [.int p2]) (rest := []) ⟨hx, hb, hml, hown, hts⟩ (kX9_isSlot l N p2 r3 hc4) (kgS (kq q_387 rfl) (kq q_388 rfl) (kq q_57 rfl) (kq q_389 rfl)) yd_X9_isSlot ⟨Nat.le_of_ble_eq_true rfl, Nat.le_of_ble_eq_true rfl⟩ rfl rfl hl.1 rfl (lv_room (Nat.le_of_ble_eq_true rfl)) dX9_isTrial_10) ?_
  refine lv_if_eq (tgt := 34) hx hb dX9_isTrial_13 (by decide) (fun c5 => ?_) (fun c5 => ?_)
  · have h := ite_t c5 h
    refine lv_iconst (v := (0 : Int32)) hx hb dX9_isTrial_34 (by decide) ?_
    obtain rfl := pj1 h
    exact hEnd _ _ dX9_isTrial_35 rfl
  have h := ite_f c5 h
  refine lv_iload_n hx hb dX9_isTrial_16 rfl (lv_at hl 2 rfl) ?_
  obtain ⟨r6, hc7, h⟩ := bd1_at h
  refine kjSI (kS0 (own := "DateSpans") (As := [.int p3]) (rest := []) ⟨hx, hb, hml, hown, hts⟩ (kX9_isSlot l N p3 r6 hc7) (kgS (kq q_387 rfl) (kq q_388 rfl) (kq q_57 rfl) (kq q_389 rfl)) yd_X9_isSlot ⟨Nat.le_of_ble_eq_true rfl, Nat.le_of_ble_eq_true rfl⟩ rfl rfl hl.1 rfl (lv_room (Nat.le_of_ble_eq_true rfl)) dX9_isTrial_17) ?_
  refine lv_if_eq (tgt := 34) hx hb dX9_isTrial_20 (by decide) (fun c8 => ?_) (fun c8 => ?_)
  · have h := ite_t c8 h
    refine lv_iconst (v := (0 : Int32)) hx hb dX9_isTrial_34 (by decide) ?_
    obtain rfl := pj1 h
    exact hEnd _ _ dX9_isTrial_35 rfl
  have h := ite_f c8 h
  refine lv_iload_n hx hb dX9_isTrial_23 rfl (lv_at hl 3 rfl) ?_
  obtain ⟨r9, hc10, h⟩ := bd1_at h
  refine kjSI (kS0 (own := "DateSpans") (As := [.int p4]) (rest := []) ⟨hx, hb, hml, hown, hts⟩ (kX9_isLaw l N p4 r9 hc10) (kgS (kq q_525 rfl) (kq q_526 rfl) (kq q_57 rfl) (kq q_527 rfl)) yd_X9_isLaw ⟨Nat.le_of_ble_eq_true rfl, Nat.le_of_ble_eq_true rfl⟩ rfl rfl hl.1 rfl (lv_room (Nat.le_of_ble_eq_true rfl)) dX9_isTrial_24) ?_
  refine lv_if_eq (tgt := 34) hx hb dX9_isTrial_27 (by decide) (fun c11 => ?_) (fun c11 => ?_)
  · have h := ite_t c11 h
    refine lv_iconst (v := (0 : Int32)) hx hb dX9_isTrial_34 (by decide) ?_
    obtain rfl := pj1 h
    exact hEnd _ _ dX9_isTrial_35 rfl
  have h := ite_f c11 h
  refine lv_iconst (v := (1 : Int32)) hx hb dX9_isTrial_30 (by decide) ?_
  refine lv_goto (tgt := 35) hx hb dX9_isTrial_31 (by decide) ?_
  obtain rfl := pj1 h
  exact hEnd _ _ dX9_isTrial_35 rfl
noncomputable def fX7_takes (N : Nat) (p2 : Int32) (p3 : Int32) (p4 : Int32) (p5 : Int32) (i_this : Int32) (j_this : Nat → Int64) (i_this_one : Nat → Int32) (i_this_two : Nat → Int32) (i_this_three : Nat → Int32) (i_this_four : Nat → Int32) (f_a1_months : Nat → Int32) (f_a1_days : Nat → Int32) (f_a1_seconds : Nat → Int32) : Option (Int32 × Int32 × (Nat → Int32) × (Nat → Int32) × (Nat → Int32) × (Nat → Int32)) := (bd2 (fX0_takes N p3 (1 : Int32) p5 i_this_one f_a1_months f_a1_days f_a1_seconds) fun r1 i_this_one_2 => (if p2 = (0 : Int32) then (bd2 (fX0_takes N p4 (1 : Int32) p5 i_this_two f_a1_months f_a1_days f_a1_seconds) fun r5 i_this_two_6 => (bd2 (fX0_takes N p4 (1 : Int32) p5 i_this_three f_a1_months f_a1_days f_a1_seconds) fun r8 i_this_three_9 => (bd2 (fX0_takes N p3 (1 : Int32) p5 i_this_four f_a1_months f_a1_days f_a1_seconds) fun r11 i_this_four_12 => (some ((1 : Int32), p2, i_this_one_2, i_this_two_6, i_this_three_9, i_this_four_12))))) else (if p2 = (1 : Int32) then (bd2 (fX0_takes N p3 (-1 : Int32) p5 i_this_two f_a1_months f_a1_days f_a1_seconds) fun r15 i_this_two_16 => (some ((1 : Int32), p2, i_this_one_2, i_this_two_16, i_this_three, i_this_four))) else (if p2 = (2 : Int32) then (bd2 (fX0_takes N p3 (1 : Int32) p5 i_this_two f_a1_months f_a1_days f_a1_seconds) fun r19 i_this_two_20 => (bd2 (fX0_takes N p3 (2 : Int32) p5 i_this_three f_a1_months f_a1_days f_a1_seconds) fun r22 i_this_three_23 => (gz r22 (some (r22, p2, i_this_one_2, i_this_two_20, i_this_three_23, i_this_four))))) else (bd2 (fX0_takes N p3 (1 : Int32) p5 i_this_two f_a1_months f_a1_days f_a1_seconds) fun r26 i_this_two_27 => (some ((1 : Int32), p2, i_this_one_2, i_this_two_27, i_this_three, i_this_four)))))))
set_option maxHeartbeats 4000000 in
set_option maxRecDepth 100000 in
theorem kX7_takes (l : Launch) (dC : Nat → ClassId) (dI : Nat → Nat → Nat) (cI cJ cB : ClassId) (h_this h_this_one h_this_two h_this_three h_this_four h_a1 h_a1_day h_a1_second h_a1_months h_a1_days h_a1_seconds : Nat) (N : Nat) (p2 : Int32) (p3 : Int32) (p4 : Int32) (p5 : Int32) (i_this : Int32) (j_this : Nat → Int64) (i_this_one : Nat → Int32) (i_this_two : Nat → Int32) (i_this_three : Nat → Int32) (i_this_four : Nat → Int32) (f_a1_months : Nat → Int32) (f_a1_days : Nat → Int32) (f_a1_seconds : Nat → Int32) (r : Int32) (o_i_this : Int32) (o_i_this_one : Nat → Int32) (o_i_this_two : Nat → Int32) (o_i_this_three : Nat → Int32) (o_i_this_four : Nat → Int32) (hf : fX7_takes N p2 p3 p4 p5 i_this j_this i_this_one i_this_two i_this_three i_this_four f_a1_months f_a1_days f_a1_seconds = some (r, o_i_this, o_i_this_one, o_i_this_two, o_i_this_three, o_i_this_four)) : MI l yX7_takes (kws yX7_takes cX7_takes 6 (some .boolean)) (kR 3 76) (dC, dI) (kT cI cJ cB) [.ref h_this, .ref h_a1, .int p2, .int p3, .int p4, .int p5] [cl_X7 h_this h_this_one h_this_two h_this_three h_this_four i_this j_this, cl_X0 h_this_one i_this_one, cl_X0 h_this_two i_this_two, cl_X0 h_this_three i_this_three, cl_X0 h_this_four i_this_four, cl_X4 h_a1 h_a1_day h_a1_second h_a1_months h_a1_days h_a1_seconds, (h_a1_months, .inl (cI, 8, .inl f_a1_months)), (h_a1_days, .inl (cI, 8, .inl f_a1_days)), (h_a1_seconds, .inl (cI, 8, .inl f_a1_seconds))] [cl_X7 h_this h_this_one h_this_two h_this_three h_this_four o_i_this j_this, cl_X0 h_this_one o_i_this_one, cl_X0 h_this_two o_i_this_two, cl_X0 h_this_three o_i_this_three, cl_X0 h_this_four o_i_this_four, cl_X4 h_a1 h_a1_day h_a1_second h_a1_months h_a1_days h_a1_seconds, (h_a1_months, .inl (cI, 8, .inl f_a1_months)), (h_a1_days, .inl (cI, 8, .inl f_a1_days)), (h_a1_seconds, .inl (cI, 8, .inl f_a1_seconds))] r := by
  refine MI.of (cc := cX7_takes) (maxL := 6) (by decide) (Nat.le_of_ble_eq_true rfl) (fun p e s m args below meth c A Q ls KC hN hK hP hD hA hl hEnd => ?_)
  obtain ⟨hx, hb, hml, hown, hts⟩ := KC
  have hown : s.vm.findClass "DateSpans$Trial" = some m.cls := hown
  have hl : lv_has ls 6 [(0, .ref h_this), (1, .ref h_a1), (2, .int p2), (3, .int p3), (4, .int p4), (5, .int p5)] := hl
  have hS : va_S A s.heap s.heap [] := va_S.rf
  have h := hf
  unfold fX7_takes at h
  refine lv_aload_n hx hb dX7_takes_0 rfl (lv_at hl 0 rfl) ?_
  refine lv_iload_n hx hb dX7_takes_1 rfl (lv_at hl 2 rfl) ?_
  refine va_put (D := (dC, dI)) (ci := 6) (v := .int p2) (ty := .int) (C := RX7) (T := TX7) (N := 7) hx hb hts inX7 tyX7 tyX7_ok nmX7 hown hK hP hD hS 0 rfl rfl 4 (by decide) (hts _ (kq q_239 rfl)) (fun _ h9 => h9) rfl (by decide +kernel) rfl rfl (Nat.le_of_ble_eq_true rfl) dX7_takes_2 (fun H locs hP hD hS => ?_)
  have hP : va_P (dC, dI) vwCl [cl_X7 h_this h_this_one h_this_two h_this_three h_this_four p2 j_this, cl_X0 h_this_one i_this_one, cl_X0 h_this_two i_this_two, cl_X0 h_this_three i_this_three, cl_X0 h_this_four i_this_four, cl_X4 h_a1 h_a1_day h_a1_second h_a1_months h_a1_days h_a1_seconds, (h_a1_months, .inl (cI, 8, .inl f_a1_months)), (h_a1_days, .inl (cI, 8, .inl f_a1_days)), (h_a1_seconds, .inl (cI, 8, .inl f_a1_seconds))] H := hP
  have hD : va_D A [cl_X7 h_this h_this_one h_this_two h_this_three h_this_four p2 j_this, cl_X0 h_this_one i_this_one, cl_X0 h_this_two i_this_two, cl_X0 h_this_three i_this_three, cl_X0 h_this_four i_this_four, cl_X4 h_a1 h_a1_day h_a1_second h_a1_months h_a1_days h_a1_seconds, (h_a1_months, .inl (cI, 8, .inl f_a1_months)), (h_a1_days, .inl (cI, 8, .inl f_a1_days)), (h_a1_seconds, .inl (cI, 8, .inl f_a1_seconds))] := hD
  refine lv_aload_n hx hb dX7_takes_5 rfl (lv_at hl 0 rfl) ?_
  refine va_get (D := (dC, dI)) (ci := 6) (v := .ref h_this_one) (C := RX7) (T := TX7) (N := 7) hx hb hts inX7 hown hK hP 0 rfl rfl 0 (by decide) (hts _ (kq q_235 rfl)) (fun _ h9 => h9) rfl dX7_takes_6 ?_
  refine lv_aload_n hx hb dX7_takes_9 rfl (lv_at hl 1 rfl) ?_
  refine lv_iload_n hx hb dX7_takes_10 rfl (lv_at hl 3 rfl) ?_
  refine lv_iconst (v := (1 : Int32)) hx hb dX7_takes_11 (by decide) ?_
  refine lv_iload hx hb dX7_takes_12 (lv_at hl 5 rfl) ?_
  obtain ⟨r1, i_this_one_2, hc3, h⟩ := bd2_at h
  refine kjI (kV (own := "DateSpans$Trial") (C := "DateSpans$Adder") (b := h_this_one) (As := [.ref h_a1, .int p3, .int (1 : Int32), .int p5]) (rest := []) ⟨hx, hb, hml, hown, hts⟩ (kX0_takes l dC dI cI cJ cB h_this_one h_a1 h_a1_day h_a1_second h_a1_months h_a1_days h_a1_seconds N p3 (1 : Int32) p5 i_this_one f_a1_months f_a1_days f_a1_seconds r1 i_this_one_2 hc3 _) (kgV (kq q_698 rfl) (kq q_532 rfl) (kq q_533 rfl) (kq q_63 rfl) (kq q_534 rfl)) yd_X0_takes ⟨Nat.le_of_ble_eq_true rfl, Nat.le_of_ble_eq_true rfl⟩ hN hK hP hD [1, 5, 6, 7, 8] rfl rfl (ci := 0) rfl rfl rfl rfl rfl hl.1 rfl (lv_room (Nat.le_of_ble_eq_true rfl)) dX7_takes_14) hP hD hS hA [1, 5, 6, 7, 8] rfl rfl (fun H locs hP hD hS => ?_)
  have hP : va_P (dC, dI) vwCl [cl_X7 h_this h_this_one h_this_two h_this_three h_this_four p2 j_this, cl_X0 h_this_one i_this_one_2, cl_X0 h_this_two i_this_two, cl_X0 h_this_three i_this_three, cl_X0 h_this_four i_this_four, cl_X4 h_a1 h_a1_day h_a1_second h_a1_months h_a1_days h_a1_seconds, (h_a1_months, .inl (cI, 8, .inl f_a1_months)), (h_a1_days, .inl (cI, 8, .inl f_a1_days)), (h_a1_seconds, .inl (cI, 8, .inl f_a1_seconds))] H := hP
  have hD : va_D A [cl_X7 h_this h_this_one h_this_two h_this_three h_this_four p2 j_this, cl_X0 h_this_one i_this_one_2, cl_X0 h_this_two i_this_two, cl_X0 h_this_three i_this_three, cl_X0 h_this_four i_this_four, cl_X4 h_a1 h_a1_day h_a1_second h_a1_months h_a1_days h_a1_seconds, (h_a1_months, .inl (cI, 8, .inl f_a1_months)), (h_a1_days, .inl (cI, 8, .inl f_a1_days)), (h_a1_seconds, .inl (cI, 8, .inl f_a1_seconds))] := hD
  refine lv_pop hx hb dX7_takes_17 rfl ?_
  refine lv_aload_n hx hb dX7_takes_18 rfl (lv_at hl 0 rfl) ?_
  refine va_get (D := (dC, dI)) (ci := 6) (v := .int p2) (C := RX7) (T := TX7) (N := 7) hx hb hts inX7 hown hK hP 0 rfl rfl 4 (by decide) (hts _ (kq q_239 rfl)) (fun _ h9 => h9) rfl dX7_takes_19 ?_
  by_cases c4 : p2 = (0 : Int32)
  · have h := ite_t c4 h
    refine lv_tableIn (x := p2) (tgt := 48) hx hb dX7_takes_22 (by rw [c4]; decide) (by rw [c4]; decide) (by rw [c4]; rfl) (by decide) ?_
    refine lv_aload_n hx hb dX7_takes_48 rfl (lv_at hl 0 rfl) ?_
    refine va_get (D := (dC, dI)) (ci := 6) (v := .ref h_this_two) (C := RX7) (T := TX7) (N := 7) hx hb hts inX7 hown hK hP 0 rfl rfl 1 (by decide) (hts _ (kq q_236 rfl)) (fun _ h9 => h9) rfl dX7_takes_49 ?_
    refine lv_aload_n hx hb dX7_takes_52 rfl (lv_at hl 1 rfl) ?_
    refine lv_iload hx hb dX7_takes_53 (lv_at hl 4 rfl) ?_
    refine lv_iconst (v := (1 : Int32)) hx hb dX7_takes_55 (by decide) ?_
    refine lv_iload hx hb dX7_takes_56 (lv_at hl 5 rfl) ?_
    obtain ⟨r5, i_this_two_6, hc7, h⟩ := bd2_at h
    refine kjI (kV (own := "DateSpans$Trial") (C := "DateSpans$Adder") (b := h_this_two) (As := [.ref h_a1, .int p4, .int (1 : Int32), .int p5]) (rest := []) ⟨hx, hb, hml, hown, hts⟩ (kX0_takes l dC dI cI cJ cB h_this_two h_a1 h_a1_day h_a1_second h_a1_months h_a1_days h_a1_seconds N p4 (1 : Int32) p5 i_this_two f_a1_months f_a1_days f_a1_seconds r5 i_this_two_6 hc7 _) (kgV (kq q_698 rfl) (kq q_532 rfl) (kq q_533 rfl) (kq q_63 rfl) (kq q_534 rfl)) yd_X0_takes ⟨Nat.le_of_ble_eq_true rfl, Nat.le_of_ble_eq_true rfl⟩ hN hK hP hD [2, 5, 6, 7, 8] rfl rfl (ci := 0) rfl rfl rfl rfl rfl hl.1 rfl (lv_room (Nat.le_of_ble_eq_true rfl)) dX7_takes_58) hP hD hS hA [2, 5, 6, 7, 8] rfl rfl (fun H locs hP hD hS => ?_)
    have hP : va_P (dC, dI) vwCl [cl_X7 h_this h_this_one h_this_two h_this_three h_this_four p2 j_this, cl_X0 h_this_one i_this_one_2, cl_X0 h_this_two i_this_two_6, cl_X0 h_this_three i_this_three, cl_X0 h_this_four i_this_four, cl_X4 h_a1 h_a1_day h_a1_second h_a1_months h_a1_days h_a1_seconds, (h_a1_months, .inl (cI, 8, .inl f_a1_months)), (h_a1_days, .inl (cI, 8, .inl f_a1_days)), (h_a1_seconds, .inl (cI, 8, .inl f_a1_seconds))] H := hP
    have hD : va_D A [cl_X7 h_this h_this_one h_this_two h_this_three h_this_four p2 j_this, cl_X0 h_this_one i_this_one_2, cl_X0 h_this_two i_this_two_6, cl_X0 h_this_three i_this_three, cl_X0 h_this_four i_this_four, cl_X4 h_a1 h_a1_day h_a1_second h_a1_months h_a1_days h_a1_seconds, (h_a1_months, .inl (cI, 8, .inl f_a1_months)), (h_a1_days, .inl (cI, 8, .inl f_a1_days)), (h_a1_seconds, .inl (cI, 8, .inl f_a1_seconds))] := hD
    refine lv_pop hx hb dX7_takes_61 rfl ?_
    refine lv_aload_n hx hb dX7_takes_62 rfl (lv_at hl 0 rfl) ?_
    refine va_get (D := (dC, dI)) (ci := 6) (v := .ref h_this_three) (C := RX7) (T := TX7) (N := 7) hx hb hts inX7 hown hK hP 0 rfl rfl 2 (by decide) (hts _ (kq q_237 rfl)) (fun _ h9 => h9) rfl dX7_takes_63 ?_
    refine lv_aload_n hx hb dX7_takes_66 rfl (lv_at hl 1 rfl) ?_
    refine lv_iload hx hb dX7_takes_67 (lv_at hl 4 rfl) ?_
    refine lv_iconst (v := (1 : Int32)) hx hb dX7_takes_69 (by decide) ?_
    refine lv_iload hx hb dX7_takes_70 (lv_at hl 5 rfl) ?_
    obtain ⟨r8, i_this_three_9, hc10, h⟩ := bd2_at h
    refine kjI (kV (own := "DateSpans$Trial") (C := "DateSpans$Adder") (b := h_this_three) (As := [.ref h_a1, .int p4, .int (1 : Int32), .int p5]) (rest := []) ⟨hx, hb, hml, hown, hts⟩ (kX0_takes l dC dI cI cJ cB h_this_three h_a1 h_a1_day h_a1_second h_a1_months h_a1_days h_a1_seconds N p4 (1 : Int32) p5 i_this_three f_a1_months f_a1_days f_a1_seconds r8 i_this_three_9 hc10 _) (kgV (kq q_698 rfl) (kq q_532 rfl) (kq q_533 rfl) (kq q_63 rfl) (kq q_534 rfl)) yd_X0_takes ⟨Nat.le_of_ble_eq_true rfl, Nat.le_of_ble_eq_true rfl⟩ hN hK hP hD [3, 5, 6, 7, 8] rfl rfl (ci := 0) rfl rfl rfl rfl rfl hl.1 rfl (lv_room (Nat.le_of_ble_eq_true rfl)) dX7_takes_72) hP hD hS hA [3, 5, 6, 7, 8] rfl rfl (fun H locs hP hD hS => ?_)
    have hP : va_P (dC, dI) vwCl [cl_X7 h_this h_this_one h_this_two h_this_three h_this_four p2 j_this, cl_X0 h_this_one i_this_one_2, cl_X0 h_this_two i_this_two_6, cl_X0 h_this_three i_this_three_9, cl_X0 h_this_four i_this_four, cl_X4 h_a1 h_a1_day h_a1_second h_a1_months h_a1_days h_a1_seconds, (h_a1_months, .inl (cI, 8, .inl f_a1_months)), (h_a1_days, .inl (cI, 8, .inl f_a1_days)), (h_a1_seconds, .inl (cI, 8, .inl f_a1_seconds))] H := hP
    have hD : va_D A [cl_X7 h_this h_this_one h_this_two h_this_three h_this_four p2 j_this, cl_X0 h_this_one i_this_one_2, cl_X0 h_this_two i_this_two_6, cl_X0 h_this_three i_this_three_9, cl_X0 h_this_four i_this_four, cl_X4 h_a1 h_a1_day h_a1_second h_a1_months h_a1_days h_a1_seconds, (h_a1_months, .inl (cI, 8, .inl f_a1_months)), (h_a1_days, .inl (cI, 8, .inl f_a1_days)), (h_a1_seconds, .inl (cI, 8, .inl f_a1_seconds))] := hD
    refine lv_pop hx hb dX7_takes_75 rfl ?_
    refine lv_aload_n hx hb dX7_takes_76 rfl (lv_at hl 0 rfl) ?_
    refine va_get (D := (dC, dI)) (ci := 6) (v := .ref h_this_four) (C := RX7) (T := TX7) (N := 7) hx hb hts inX7 hown hK hP 0 rfl rfl 3 (by decide) (hts _ (kq q_238 rfl)) (fun _ h9 => h9) rfl dX7_takes_77 ?_
    refine lv_aload_n hx hb dX7_takes_80 rfl (lv_at hl 1 rfl) ?_
    refine lv_iload_n hx hb dX7_takes_81 rfl (lv_at hl 3 rfl) ?_
    refine lv_iconst (v := (1 : Int32)) hx hb dX7_takes_82 (by decide) ?_
    refine lv_iload hx hb dX7_takes_83 (lv_at hl 5 rfl) ?_
    obtain ⟨r11, i_this_four_12, hc13, h⟩ := bd2_at h
    refine kjI (kV (own := "DateSpans$Trial") (C := "DateSpans$Adder") (b := h_this_four) (As := [.ref h_a1, .int p3, .int (1 : Int32), .int p5]) (rest := []) ⟨hx, hb, hml, hown, hts⟩ (kX0_takes l dC dI cI cJ cB h_this_four h_a1 h_a1_day h_a1_second h_a1_months h_a1_days h_a1_seconds N p3 (1 : Int32) p5 i_this_four f_a1_months f_a1_days f_a1_seconds r11 i_this_four_12 hc13 _) (kgV (kq q_698 rfl) (kq q_532 rfl) (kq q_533 rfl) (kq q_63 rfl) (kq q_534 rfl)) yd_X0_takes ⟨Nat.le_of_ble_eq_true rfl, Nat.le_of_ble_eq_true rfl⟩ hN hK hP hD [4, 5, 6, 7, 8] rfl rfl (ci := 0) rfl rfl rfl rfl rfl hl.1 rfl (lv_room (Nat.le_of_ble_eq_true rfl)) dX7_takes_85) hP hD hS hA [4, 5, 6, 7, 8] rfl rfl (fun H locs hP hD hS => ?_)
    have hP : va_P (dC, dI) vwCl [cl_X7 h_this h_this_one h_this_two h_this_three h_this_four p2 j_this, cl_X0 h_this_one i_this_one_2, cl_X0 h_this_two i_this_two_6, cl_X0 h_this_three i_this_three_9, cl_X0 h_this_four i_this_four_12, cl_X4 h_a1 h_a1_day h_a1_second h_a1_months h_a1_days h_a1_seconds, (h_a1_months, .inl (cI, 8, .inl f_a1_months)), (h_a1_days, .inl (cI, 8, .inl f_a1_days)), (h_a1_seconds, .inl (cI, 8, .inl f_a1_seconds))] H := hP
    have hD : va_D A [cl_X7 h_this h_this_one h_this_two h_this_three h_this_four p2 j_this, cl_X0 h_this_one i_this_one_2, cl_X0 h_this_two i_this_two_6, cl_X0 h_this_three i_this_three_9, cl_X0 h_this_four i_this_four_12, cl_X4 h_a1 h_a1_day h_a1_second h_a1_months h_a1_days h_a1_seconds, (h_a1_months, .inl (cI, 8, .inl f_a1_months)), (h_a1_days, .inl (cI, 8, .inl f_a1_days)), (h_a1_seconds, .inl (cI, 8, .inl f_a1_seconds))] := hD
    refine lv_pop hx hb dX7_takes_88 rfl ?_
    refine lv_iconst (v := (1 : Int32)) hx hb dX7_takes_89 (by decide) ?_
    obtain ⟨rfl, rfl, rfl, rfl, rfl, rfl⟩ := pj6 h
    exact hEnd _ _ _ _ hP hS dX7_takes_90 rfl
  have h := ite_f c4 h
  by_cases c14 : p2 = (1 : Int32)
  · have h := ite_t c14 h
    refine lv_tableIn (x := p2) (tgt := 91) hx hb dX7_takes_22 (by rw [c14]; decide) (by rw [c14]; decide) (by rw [c14]; rfl) (by decide) ?_
    refine lv_aload_n hx hb dX7_takes_91 rfl (lv_at hl 0 rfl) ?_
    refine va_get (D := (dC, dI)) (ci := 6) (v := .ref h_this_two) (C := RX7) (T := TX7) (N := 7) hx hb hts inX7 hown hK hP 0 rfl rfl 1 (by decide) (hts _ (kq q_236 rfl)) (fun _ h9 => h9) rfl dX7_takes_92 ?_
    refine lv_aload_n hx hb dX7_takes_95 rfl (lv_at hl 1 rfl) ?_
    refine lv_iload_n hx hb dX7_takes_96 rfl (lv_at hl 3 rfl) ?_
    refine lv_iconst (v := (-1 : Int32)) hx hb dX7_takes_97 (by decide) ?_
    refine lv_iload hx hb dX7_takes_98 (lv_at hl 5 rfl) ?_
    obtain ⟨r15, i_this_two_16, hc17, h⟩ := bd2_at h
    refine kjI (kV (own := "DateSpans$Trial") (C := "DateSpans$Adder") (b := h_this_two) (As := [.ref h_a1, .int p3, .int (-1 : Int32), .int p5]) (rest := []) ⟨hx, hb, hml, hown, hts⟩ (kX0_takes l dC dI cI cJ cB h_this_two h_a1 h_a1_day h_a1_second h_a1_months h_a1_days h_a1_seconds N p3 (-1 : Int32) p5 i_this_two f_a1_months f_a1_days f_a1_seconds r15 i_this_two_16 hc17 _) (kgV (kq q_698 rfl) (kq q_532 rfl) (kq q_533 rfl) (kq q_63 rfl) (kq q_534 rfl)) yd_X0_takes ⟨Nat.le_of_ble_eq_true rfl, Nat.le_of_ble_eq_true rfl⟩ hN hK hP hD [2, 5, 6, 7, 8] rfl rfl (ci := 0) rfl rfl rfl rfl rfl hl.1 rfl (lv_room (Nat.le_of_ble_eq_true rfl)) dX7_takes_100) hP hD hS hA [2, 5, 6, 7, 8] rfl rfl (fun H locs hP hD hS => ?_)
    have hP : va_P (dC, dI) vwCl [cl_X7 h_this h_this_one h_this_two h_this_three h_this_four p2 j_this, cl_X0 h_this_one i_this_one_2, cl_X0 h_this_two i_this_two_16, cl_X0 h_this_three i_this_three, cl_X0 h_this_four i_this_four, cl_X4 h_a1 h_a1_day h_a1_second h_a1_months h_a1_days h_a1_seconds, (h_a1_months, .inl (cI, 8, .inl f_a1_months)), (h_a1_days, .inl (cI, 8, .inl f_a1_days)), (h_a1_seconds, .inl (cI, 8, .inl f_a1_seconds))] H := hP
    have hD : va_D A [cl_X7 h_this h_this_one h_this_two h_this_three h_this_four p2 j_this, cl_X0 h_this_one i_this_one_2, cl_X0 h_this_two i_this_two_16, cl_X0 h_this_three i_this_three, cl_X0 h_this_four i_this_four, cl_X4 h_a1 h_a1_day h_a1_second h_a1_months h_a1_days h_a1_seconds, (h_a1_months, .inl (cI, 8, .inl f_a1_months)), (h_a1_days, .inl (cI, 8, .inl f_a1_days)), (h_a1_seconds, .inl (cI, 8, .inl f_a1_seconds))] := hD
    refine lv_pop hx hb dX7_takes_103 rfl ?_
    refine lv_iconst (v := (1 : Int32)) hx hb dX7_takes_104 (by decide) ?_
    obtain ⟨rfl, rfl, rfl, rfl, rfl, rfl⟩ := pj6 h
    exact hEnd _ _ _ _ hP hS dX7_takes_105 rfl
  have h := ite_f c14 h
  by_cases c18 : p2 = (2 : Int32)
  · have h := ite_t c18 h
    refine lv_tableIn (x := p2) (tgt := 106) hx hb dX7_takes_22 (by rw [c18]; decide) (by rw [c18]; decide) (by rw [c18]; rfl) (by decide) ?_
    refine lv_aload_n hx hb dX7_takes_106 rfl (lv_at hl 0 rfl) ?_
    refine va_get (D := (dC, dI)) (ci := 6) (v := .ref h_this_two) (C := RX7) (T := TX7) (N := 7) hx hb hts inX7 hown hK hP 0 rfl rfl 1 (by decide) (hts _ (kq q_236 rfl)) (fun _ h9 => h9) rfl dX7_takes_107 ?_
    refine lv_aload_n hx hb dX7_takes_110 rfl (lv_at hl 1 rfl) ?_
    refine lv_iload_n hx hb dX7_takes_111 rfl (lv_at hl 3 rfl) ?_
    refine lv_iconst (v := (1 : Int32)) hx hb dX7_takes_112 (by decide) ?_
    refine lv_iload hx hb dX7_takes_113 (lv_at hl 5 rfl) ?_
    obtain ⟨r19, i_this_two_20, hc21, h⟩ := bd2_at h
    refine kjI (kV (own := "DateSpans$Trial") (C := "DateSpans$Adder") (b := h_this_two) (As := [.ref h_a1, .int p3, .int (1 : Int32), .int p5]) (rest := []) ⟨hx, hb, hml, hown, hts⟩ (kX0_takes l dC dI cI cJ cB h_this_two h_a1 h_a1_day h_a1_second h_a1_months h_a1_days h_a1_seconds N p3 (1 : Int32) p5 i_this_two f_a1_months f_a1_days f_a1_seconds r19 i_this_two_20 hc21 _) (kgV (kq q_698 rfl) (kq q_532 rfl) (kq q_533 rfl) (kq q_63 rfl) (kq q_534 rfl)) yd_X0_takes ⟨Nat.le_of_ble_eq_true rfl, Nat.le_of_ble_eq_true rfl⟩ hN hK hP hD [2, 5, 6, 7, 8] rfl rfl (ci := 0) rfl rfl rfl rfl rfl hl.1 rfl (lv_room (Nat.le_of_ble_eq_true rfl)) dX7_takes_115) hP hD hS hA [2, 5, 6, 7, 8] rfl rfl (fun H locs hP hD hS => ?_)
    have hP : va_P (dC, dI) vwCl [cl_X7 h_this h_this_one h_this_two h_this_three h_this_four p2 j_this, cl_X0 h_this_one i_this_one_2, cl_X0 h_this_two i_this_two_20, cl_X0 h_this_three i_this_three, cl_X0 h_this_four i_this_four, cl_X4 h_a1 h_a1_day h_a1_second h_a1_months h_a1_days h_a1_seconds, (h_a1_months, .inl (cI, 8, .inl f_a1_months)), (h_a1_days, .inl (cI, 8, .inl f_a1_days)), (h_a1_seconds, .inl (cI, 8, .inl f_a1_seconds))] H := hP
    have hD : va_D A [cl_X7 h_this h_this_one h_this_two h_this_three h_this_four p2 j_this, cl_X0 h_this_one i_this_one_2, cl_X0 h_this_two i_this_two_20, cl_X0 h_this_three i_this_three, cl_X0 h_this_four i_this_four, cl_X4 h_a1 h_a1_day h_a1_second h_a1_months h_a1_days h_a1_seconds, (h_a1_months, .inl (cI, 8, .inl f_a1_months)), (h_a1_days, .inl (cI, 8, .inl f_a1_days)), (h_a1_seconds, .inl (cI, 8, .inl f_a1_seconds))] := hD
    refine lv_pop hx hb dX7_takes_118 rfl ?_
    refine lv_aload_n hx hb dX7_takes_119 rfl (lv_at hl 0 rfl) ?_
    refine va_get (D := (dC, dI)) (ci := 6) (v := .ref h_this_three) (C := RX7) (T := TX7) (N := 7) hx hb hts inX7 hown hK hP 0 rfl rfl 2 (by decide) (hts _ (kq q_237 rfl)) (fun _ h9 => h9) rfl dX7_takes_120 ?_
    refine lv_aload_n hx hb dX7_takes_123 rfl (lv_at hl 1 rfl) ?_
    refine lv_iload_n hx hb dX7_takes_124 rfl (lv_at hl 3 rfl) ?_
    refine lv_iconst (v := (2 : Int32)) hx hb dX7_takes_125 (by decide) ?_
    refine lv_iload hx hb dX7_takes_126 (lv_at hl 5 rfl) ?_
    obtain ⟨r22, i_this_three_23, hc24, h⟩ := bd2_at h
    refine kjI (kV (own := "DateSpans$Trial") (C := "DateSpans$Adder") (b := h_this_three) (As := [.ref h_a1, .int p3, .int (2 : Int32), .int p5]) (rest := []) ⟨hx, hb, hml, hown, hts⟩ (kX0_takes l dC dI cI cJ cB h_this_three h_a1 h_a1_day h_a1_second h_a1_months h_a1_days h_a1_seconds N p3 (2 : Int32) p5 i_this_three f_a1_months f_a1_days f_a1_seconds r22 i_this_three_23 hc24 _) (kgV (kq q_698 rfl) (kq q_532 rfl) (kq q_533 rfl) (kq q_63 rfl) (kq q_534 rfl)) yd_X0_takes ⟨Nat.le_of_ble_eq_true rfl, Nat.le_of_ble_eq_true rfl⟩ hN hK hP hD [3, 5, 6, 7, 8] rfl rfl (ci := 0) rfl rfl rfl rfl rfl hl.1 rfl (lv_room (Nat.le_of_ble_eq_true rfl)) dX7_takes_128) hP hD hS hA [3, 5, 6, 7, 8] rfl rfl (fun H locs hP hD hS => ?_)
    have hP : va_P (dC, dI) vwCl [cl_X7 h_this h_this_one h_this_two h_this_three h_this_four p2 j_this, cl_X0 h_this_one i_this_one_2, cl_X0 h_this_two i_this_two_20, cl_X0 h_this_three i_this_three_23, cl_X0 h_this_four i_this_four, cl_X4 h_a1 h_a1_day h_a1_second h_a1_months h_a1_days h_a1_seconds, (h_a1_months, .inl (cI, 8, .inl f_a1_months)), (h_a1_days, .inl (cI, 8, .inl f_a1_days)), (h_a1_seconds, .inl (cI, 8, .inl f_a1_seconds))] H := hP
    have hD : va_D A [cl_X7 h_this h_this_one h_this_two h_this_three h_this_four p2 j_this, cl_X0 h_this_one i_this_one_2, cl_X0 h_this_two i_this_two_20, cl_X0 h_this_three i_this_three_23, cl_X0 h_this_four i_this_four, cl_X4 h_a1 h_a1_day h_a1_second h_a1_months h_a1_days h_a1_seconds, (h_a1_months, .inl (cI, 8, .inl f_a1_months)), (h_a1_days, .inl (cI, 8, .inl f_a1_days)), (h_a1_seconds, .inl (cI, 8, .inl f_a1_seconds))] := hD
    obtain ⟨hz25, h⟩ := gz_at h
    obtain ⟨rfl, rfl, rfl, rfl, rfl, rfl⟩ := pj6 h
    exact hEnd _ _ _ _ hP hS dX7_takes_131 hz25
  have h := ite_f c18 h
  have gc4 := kne (k := 0) (by decide) c4
  have gc14 := kne (k := 1) (by decide) c14
  have gc18 := kne (k := 2) (by decide) c18
  refine lv_tableOut (x := p2) (tgt := 132) hx hb dX7_takes_22 (by omega) (by decide) ?_
  refine lv_aload_n hx hb dX7_takes_132 rfl (lv_at hl 0 rfl) ?_
  refine va_get (D := (dC, dI)) (ci := 6) (v := .ref h_this_two) (C := RX7) (T := TX7) (N := 7) hx hb hts inX7 hown hK hP 0 rfl rfl 1 (by decide) (hts _ (kq q_236 rfl)) (fun _ h9 => h9) rfl dX7_takes_133 ?_
  refine lv_aload_n hx hb dX7_takes_136 rfl (lv_at hl 1 rfl) ?_
  refine lv_iload_n hx hb dX7_takes_137 rfl (lv_at hl 3 rfl) ?_
  refine lv_iconst (v := (1 : Int32)) hx hb dX7_takes_138 (by decide) ?_
  refine lv_iload hx hb dX7_takes_139 (lv_at hl 5 rfl) ?_
  obtain ⟨r26, i_this_two_27, hc28, h⟩ := bd2_at h
  refine kjI (kV (own := "DateSpans$Trial") (C := "DateSpans$Adder") (b := h_this_two) (As := [.ref h_a1, .int p3, .int (1 : Int32), .int p5]) (rest := []) ⟨hx, hb, hml, hown, hts⟩ (kX0_takes l dC dI cI cJ cB h_this_two h_a1 h_a1_day h_a1_second h_a1_months h_a1_days h_a1_seconds N p3 (1 : Int32) p5 i_this_two f_a1_months f_a1_days f_a1_seconds r26 i_this_two_27 hc28 _) (kgV (kq q_698 rfl) (kq q_532 rfl) (kq q_533 rfl) (kq q_63 rfl) (kq q_534 rfl)) yd_X0_takes ⟨Nat.le_of_ble_eq_true rfl, Nat.le_of_ble_eq_true rfl⟩ hN hK hP hD [2, 5, 6, 7, 8] rfl rfl (ci := 0) rfl rfl rfl rfl rfl hl.1 rfl (lv_room (Nat.le_of_ble_eq_true rfl)) dX7_takes_141) hP hD hS hA [2, 5, 6, 7, 8] rfl rfl (fun H locs hP hD hS => ?_)
  have hP : va_P (dC, dI) vwCl [cl_X7 h_this h_this_one h_this_two h_this_three h_this_four p2 j_this, cl_X0 h_this_one i_this_one_2, cl_X0 h_this_two i_this_two_27, cl_X0 h_this_three i_this_three, cl_X0 h_this_four i_this_four, cl_X4 h_a1 h_a1_day h_a1_second h_a1_months h_a1_days h_a1_seconds, (h_a1_months, .inl (cI, 8, .inl f_a1_months)), (h_a1_days, .inl (cI, 8, .inl f_a1_days)), (h_a1_seconds, .inl (cI, 8, .inl f_a1_seconds))] H := hP
  have hD : va_D A [cl_X7 h_this h_this_one h_this_two h_this_three h_this_four p2 j_this, cl_X0 h_this_one i_this_one_2, cl_X0 h_this_two i_this_two_27, cl_X0 h_this_three i_this_three, cl_X0 h_this_four i_this_four, cl_X4 h_a1 h_a1_day h_a1_second h_a1_months h_a1_days h_a1_seconds, (h_a1_months, .inl (cI, 8, .inl f_a1_months)), (h_a1_days, .inl (cI, 8, .inl f_a1_days)), (h_a1_seconds, .inl (cI, 8, .inl f_a1_seconds))] := hD
  refine lv_pop hx hb dX7_takes_144 rfl ?_
  refine lv_iconst (v := (1 : Int32)) hx hb dX7_takes_145 (by decide) ?_
  obtain ⟨rfl, rfl, rfl, rfl, rfl, rfl⟩ := pj6 h
  exact hEnd _ _ _ _ hP hS dX7_takes_146 rfl
noncomputable def fX7_meets (N : Nat) (p1 : Int32) (i_this : Int32) (j_this : Nat → Int64) (i_this_one : Nat → Int32) (i_this_two : Nat → Int32) (i_this_three : Nat → Int32) (i_this_four : Nat → Int32) : Option (Int32 × (Nat → Int64) × (Nat → Int32) × (Nat → Int32) × (Nat → Int32) × (Nat → Int32)) := (bd2 (fX0_leads N p1 (0 : Int32) (0 : Int32) i_this_one) fun r1 i_this_one_2 => (if r1 = (0 : Int32) then (some ((0 : Int32), j_this, i_this_one_2, i_this_two, i_this_three, i_this_four)) else (if i_this = (3 : Int32) then (bd1 (fX0_instant N i_this_one_2) fun r30 => (bd2 (fX0_leads N p1 (0 : Int32) (1 : Int32) i_this_two) fun r32 i_this_two_33 => (if r32 = (0 : Int32) then (if (lg_cmp (-1 : Int64) (-1 : Int64)) = (0 : Int32) then (some ((0 : Int32), (vp_updL (vp_updL j_this 5 r30) 6 (-1 : Int64)), i_this_one_2, i_this_two_33, i_this_three, i_this_four)) else (some ((1 : Int32), (vp_updL (vp_updL j_this 5 r30) 6 (-1 : Int64)), i_this_one_2, i_this_two_33, i_this_three, i_this_four))) else (bd1 (fX0_instant N i_this_two_33) fun r37 => (if (lg_cmp r37 (-1 : Int64)) = (0 : Int32) then (some ((0 : Int32), (vp_updL (vp_updL j_this 5 r30) 6 r37), i_this_one_2, i_this_two_33, i_this_three, i_this_four)) else (some ((1 : Int32), (vp_updL (vp_updL j_this 5 r30) 6 r37), i_this_one_2, i_this_two_33, i_this_three, i_this_four))))))) else (bd2 (fX0_leads N (i_this_one_2 8) (i_this_one_2 9) (0 : Int32) i_this_two) fun r6 i_this_two_7 => (if r6 = (0 : Int32) then (some ((0 : Int32), j_this, i_this_one_2, i_this_two_7, i_this_three, i_this_four)) else (bd1 (fX0_instant N i_this_two_7) fun r10 => (if i_this = (1 : Int32) then (bd1 (fX9_instantOf N p1 (0 : Int32)) fun r28 => (some ((1 : Int32), (vp_updL (vp_updL j_this 5 r10) 6 r28), i_this_one_2, i_this_two_7, i_this_three, i_this_four))) else (bd2 (fX0_leads N p1 (0 : Int32) (0 : Int32) i_this_three) fun r13 i_this_three_14 => (if r13 = (0 : Int32) then (some ((0 : Int32), (vp_updL j_this 5 r10), i_this_one_2, i_this_two_7, i_this_three_14, i_this_four)) else (if i_this = (2 : Int32) then (bd1 (fX0_instant N i_this_three_14) fun r26 => (some ((1 : Int32), (vp_updL (vp_updL j_this 5 r10) 6 r26), i_this_one_2, i_this_two_7, i_this_three_14, i_this_four))) else (bd2 (fX0_leads N (i_this_three_14 8) (i_this_three_14 9) (0 : Int32) i_this_four) fun r18 i_this_four_19 => (if r18 = (0 : Int32) then (if (lg_cmp (-1 : Int64) (-1 : Int64)) = (0 : Int32) then (some ((0 : Int32), (vp_updL (vp_updL j_this 5 r10) 6 (-1 : Int64)), i_this_one_2, i_this_two_7, i_this_three_14, i_this_four_19)) else (some ((1 : Int32), (vp_updL (vp_updL j_this 5 r10) 6 (-1 : Int64)), i_this_one_2, i_this_two_7, i_this_three_14, i_this_four_19))) else (bd1 (fX0_instant N i_this_four_19) fun r23 => (if (lg_cmp r23 (-1 : Int64)) = (0 : Int32) then (some ((0 : Int32), (vp_updL (vp_updL j_this 5 r10) 6 r23), i_this_one_2, i_this_two_7, i_this_three_14, i_this_four_19)) else (some ((1 : Int32), (vp_updL (vp_updL j_this 5 r10) 6 r23), i_this_one_2, i_this_two_7, i_this_three_14, i_this_four_19))))))))))))))))
set_option maxHeartbeats 4000000 in
set_option maxRecDepth 100000 in
theorem kX7_meets (l : Launch) (dC : Nat → ClassId) (dI : Nat → Nat → Nat) (cI cJ cB : ClassId) (h_this h_this_one h_this_two h_this_three h_this_four : Nat) (N : Nat) (p1 : Int32) (i_this : Int32) (j_this : Nat → Int64) (i_this_one : Nat → Int32) (i_this_two : Nat → Int32) (i_this_three : Nat → Int32) (i_this_four : Nat → Int32) (r : Int32) (o_j_this : Nat → Int64) (o_i_this_one : Nat → Int32) (o_i_this_two : Nat → Int32) (o_i_this_three : Nat → Int32) (o_i_this_four : Nat → Int32) (hf : fX7_meets N p1 i_this j_this i_this_one i_this_two i_this_three i_this_four = some (r, o_j_this, o_i_this_one, o_i_this_two, o_i_this_three, o_i_this_four)) : MI l yX7_meets (kws yX7_meets cX7_meets 2 (some .boolean)) (kR 5 117) (dC, dI) (kT cI cJ cB) [.ref h_this, .int p1] [cl_X7 h_this h_this_one h_this_two h_this_three h_this_four i_this j_this, cl_X0 h_this_one i_this_one, cl_X0 h_this_two i_this_two, cl_X0 h_this_three i_this_three, cl_X0 h_this_four i_this_four] [cl_X7 h_this h_this_one h_this_two h_this_three h_this_four i_this o_j_this, cl_X0 h_this_one o_i_this_one, cl_X0 h_this_two o_i_this_two, cl_X0 h_this_three o_i_this_three, cl_X0 h_this_four o_i_this_four] r := by
  refine MI.of (cc := cX7_meets) (maxL := 2) (by decide) (Nat.le_of_ble_eq_true rfl) (fun p e s m args below meth c A Q ls KC hN hK hP hD hA hl hEnd => ?_)
  obtain ⟨hx, hb, hml, hown, hts⟩ := KC
  have hown : s.vm.findClass "DateSpans$Trial" = some m.cls := hown
  have hl : lv_has ls 2 [(0, .ref h_this), (1, .int p1)] := hl
  have hS : va_S A s.heap s.heap [] := va_S.rf
  have h := hf
  unfold fX7_meets at h
  refine lv_aload_n hx hb dX7_meets_0 rfl (lv_at hl 0 rfl) ?_
  refine va_get (D := (dC, dI)) (ci := 6) (v := .ref h_this_one) (C := RX7) (T := TX7) (N := 7) hx hb hts inX7 hown hK hP 0 rfl rfl 0 (by decide) (hts _ (kq q_235 rfl)) (fun _ h9 => h9) rfl dX7_meets_1 ?_
  refine lv_iload_n hx hb dX7_meets_4 rfl (lv_at hl 1 rfl) ?_
  refine lv_iconst (v := (0 : Int32)) hx hb dX7_meets_5 (by decide) ?_
  refine lv_iconst (v := (0 : Int32)) hx hb dX7_meets_6 (by decide) ?_
  obtain ⟨r1, i_this_one_2, hc3, h⟩ := bd2_at h
  refine kjI (kV (own := "DateSpans$Trial") (C := "DateSpans$Adder") (b := h_this_one) (As := [.int p1, .int (0 : Int32), .int (0 : Int32)]) (rest := []) ⟨hx, hb, hml, hown, hts⟩ (kX0_leads l dC dI cI cJ cB h_this_one N p1 (0 : Int32) (0 : Int32) i_this_one r1 i_this_one_2 hc3 _) (kgV (kq q_707 rfl) (kq q_544 rfl) (kq q_545 rfl) (kq q_63 rfl) (kq q_546 rfl)) yd_X0_leads ⟨Nat.le_of_ble_eq_true rfl, Nat.le_of_ble_eq_true rfl⟩ hN hK hP hD [1] rfl rfl (ci := 0) rfl rfl rfl rfl rfl hl.1 rfl (lv_room (Nat.le_of_ble_eq_true rfl)) dX7_meets_7) hP hD hS hA [1] rfl rfl (fun H locs hP hD hS => ?_)
  have hP : va_P (dC, dI) vwCl [cl_X7 h_this h_this_one h_this_two h_this_three h_this_four i_this j_this, cl_X0 h_this_one i_this_one_2, cl_X0 h_this_two i_this_two, cl_X0 h_this_three i_this_three, cl_X0 h_this_four i_this_four] H := hP
  have hD : va_D A [cl_X7 h_this h_this_one h_this_two h_this_three h_this_four i_this j_this, cl_X0 h_this_one i_this_one_2, cl_X0 h_this_two i_this_two, cl_X0 h_this_three i_this_three, cl_X0 h_this_four i_this_four] := hD
  refine lv_if_ne (tgt := 15) hx hb dX7_meets_10 (by decide) (fun c4 => ?_) (fun c4 => ?_)
  · have h := ite_f c4 h
    refine lv_aload_n hx hb dX7_meets_15 rfl (lv_at hl 0 rfl) ?_
    refine va_get (D := (dC, dI)) (ci := 6) (v := .int i_this) (C := RX7) (T := TX7) (N := 7) hx hb hts inX7 hown hK hP 0 rfl rfl 4 (by decide) (hts _ (kq q_239 rfl)) (fun _ h9 => h9) rfl dX7_meets_16 ?_
    refine lv_iconst (v := (3 : Int32)) hx hb dX7_meets_19 (by decide) ?_
    refine lv_icmp_ne (tgt := 81) hx hb dX7_meets_20 (by decide) (fun c5 => ?_) (fun c5 => ?_)
    · have h := ite_f c5 h
      refine lv_aload_n hx hb dX7_meets_81 rfl (lv_at hl 0 rfl) ?_
      refine va_get (D := (dC, dI)) (ci := 6) (v := .ref h_this_two) (C := RX7) (T := TX7) (N := 7) hx hb hts inX7 hown hK hP 0 rfl rfl 1 (by decide) (hts _ (kq q_236 rfl)) (fun _ h9 => h9) rfl dX7_meets_82 ?_
      refine lv_aload_n hx hb dX7_meets_85 rfl (lv_at hl 0 rfl) ?_
      refine va_get (D := (dC, dI)) (ci := 6) (v := .ref h_this_one) (C := RX7) (T := TX7) (N := 7) hx hb hts inX7 hown hK hP 0 rfl rfl 0 (by decide) (hts _ (kq q_235 rfl)) (fun _ h9 => h9) rfl dX7_meets_86 ?_
      refine va_getN (D := (dC, dI)) (ci := 0) (v := .int (i_this_one_2 8)) (C := RX0) (T := TX0) (N := 11) hx hb hts inX0 hown hK hP 1 rfl rfl 8 (by decide) (kN.use hN q_196 rfl) (fun _ h9 => h9) rfl dX7_meets_89 ?_
      refine lv_aload_n hx hb dX7_meets_92 rfl (lv_at hl 0 rfl) ?_
      refine va_get (D := (dC, dI)) (ci := 6) (v := .ref h_this_one) (C := RX7) (T := TX7) (N := 7) hx hb hts inX7 hown hK hP 0 rfl rfl 0 (by decide) (hts _ (kq q_235 rfl)) (fun _ h9 => h9) rfl dX7_meets_93 ?_
      refine va_getN (D := (dC, dI)) (ci := 0) (v := .int (i_this_one_2 9)) (C := RX0) (T := TX0) (N := 11) hx hb hts inX0 hown hK hP 1 rfl rfl 9 (by decide) (kN.use hN q_199 rfl) (fun _ h9 => h9) rfl dX7_meets_96 ?_
      refine lv_iconst (v := (0 : Int32)) hx hb dX7_meets_99 (by decide) ?_
      obtain ⟨r6, i_this_two_7, hc8, h⟩ := bd2_at h
      refine kjI (kV (own := "DateSpans$Trial") (C := "DateSpans$Adder") (b := h_this_two) (As := [.int (i_this_one_2 8), .int (i_this_one_2 9), .int (0 : Int32)]) (rest := []) ⟨hx, hb, hml, hown, hts⟩ (kX0_leads l dC dI cI cJ cB h_this_two N (i_this_one_2 8) (i_this_one_2 9) (0 : Int32) i_this_two r6 i_this_two_7 hc8 _) (kgV (kq q_707 rfl) (kq q_544 rfl) (kq q_545 rfl) (kq q_63 rfl) (kq q_546 rfl)) yd_X0_leads ⟨Nat.le_of_ble_eq_true rfl, Nat.le_of_ble_eq_true rfl⟩ hN hK hP hD [2] rfl rfl (ci := 0) rfl rfl rfl rfl rfl hl.1 rfl (lv_room (Nat.le_of_ble_eq_true rfl)) dX7_meets_100) hP hD hS hA [2] rfl rfl (fun H locs hP hD hS => ?_)
      have hP : va_P (dC, dI) vwCl [cl_X7 h_this h_this_one h_this_two h_this_three h_this_four i_this j_this, cl_X0 h_this_one i_this_one_2, cl_X0 h_this_two i_this_two_7, cl_X0 h_this_three i_this_three, cl_X0 h_this_four i_this_four] H := hP
      have hD : va_D A [cl_X7 h_this h_this_one h_this_two h_this_three h_this_four i_this j_this, cl_X0 h_this_one i_this_one_2, cl_X0 h_this_two i_this_two_7, cl_X0 h_this_three i_this_three, cl_X0 h_this_four i_this_four] := hD
      refine lv_if_ne (tgt := 108) hx hb dX7_meets_103 (by decide) (fun c9 => ?_) (fun c9 => ?_)
      · have h := ite_f c9 h
        refine lv_aload_n hx hb dX7_meets_108 rfl (lv_at hl 0 rfl) ?_
        refine lv_aload_n hx hb dX7_meets_109 rfl (lv_at hl 0 rfl) ?_
        refine va_get (D := (dC, dI)) (ci := 6) (v := .ref h_this_two) (C := RX7) (T := TX7) (N := 7) hx hb hts inX7 hown hK hP 0 rfl rfl 1 (by decide) (hts _ (kq q_236 rfl)) (fun _ h9 => h9) rfl dX7_meets_110 ?_
        obtain ⟨r10, hc11, h⟩ := bd1_at h
        refine kjL (kV (own := "DateSpans$Trial") (C := "DateSpans$Adder") (b := h_this_two) (As := []) (rest := [.ref h_this]) ⟨hx, hb, hml, hown, hts⟩ (kX0_instant l dC dI cI cJ cB h_this_two N i_this_two_7 r10 hc11 _) (kgV (kq q_708 rfl) (kq q_581 rfl) (kq q_582 rfl) (kq q_63 rfl) (kq q_583 rfl)) yd_X0_instant ⟨Nat.le_of_ble_eq_true rfl, Nat.le_of_ble_eq_true rfl⟩ hN hK hP hD [2] rfl rfl (ci := 0) rfl rfl rfl rfl rfl hl.1 rfl (lv_room (Nat.le_of_ble_eq_true rfl)) dX7_meets_113) hP hD hS hA [2] rfl rfl (fun H locs hP hD hS => ?_)
        have hP : va_P (dC, dI) vwCl [cl_X7 h_this h_this_one h_this_two h_this_three h_this_four i_this j_this, cl_X0 h_this_one i_this_one_2, cl_X0 h_this_two i_this_two_7, cl_X0 h_this_three i_this_three, cl_X0 h_this_four i_this_four] H := hP
        have hD : va_D A [cl_X7 h_this h_this_one h_this_two h_this_three h_this_four i_this j_this, cl_X0 h_this_one i_this_one_2, cl_X0 h_this_two i_this_two_7, cl_X0 h_this_three i_this_three, cl_X0 h_this_four i_this_four] := hD
        refine va_put (D := (dC, dI)) (ci := 6) (v := .long r10) (ty := .long) (C := RX7) (T := TX7) (N := 7) hx hb hts inX7 tyX7 tyX7_ok nmX7 hown hK hP hD hS 0 rfl rfl 5 (by decide) (hts _ (kq q_240 rfl)) (fun _ h9 => h9) rfl (by decide +kernel) rfl rfl (Nat.le_of_ble_eq_true rfl) dX7_meets_116 (fun H locs hP hD hS => ?_)
        have hP : va_P (dC, dI) vwCl [(h_this, .inr (6, [.ref h_this_one, .ref h_this_two, .ref h_this_three, .ref h_this_four, .int i_this, .long r10, .long (j_this 6)])), cl_X0 h_this_one i_this_one_2, cl_X0 h_this_two i_this_two_7, cl_X0 h_this_three i_this_three, cl_X0 h_this_four i_this_four] H := hP
        have hD : va_D A [(h_this, .inr (6, [.ref h_this_one, .ref h_this_two, .ref h_this_three, .ref h_this_four, .int i_this, .long r10, .long (j_this 6)])), cl_X0 h_this_one i_this_one_2, cl_X0 h_this_two i_this_two_7, cl_X0 h_this_three i_this_three, cl_X0 h_this_four i_this_four] := hD
        refine lv_aload_n hx hb dX7_meets_119 rfl (lv_at hl 0 rfl) ?_
        refine va_get (D := (dC, dI)) (ci := 6) (v := .int i_this) (C := RX7) (T := TX7) (N := 7) hx hb hts inX7 hown hK hP 0 rfl rfl 4 (by decide) (hts _ (kq q_239 rfl)) (fun _ h9 => h9) rfl dX7_meets_120 ?_
        refine lv_iconst (v := (1 : Int32)) hx hb dX7_meets_123 (by decide) ?_
        refine lv_icmp_ne (tgt := 138) hx hb dX7_meets_124 (by decide) (fun c12 => ?_) (fun c12 => ?_)
        · have h := ite_f c12 h
          refine lv_aload_n hx hb dX7_meets_138 rfl (lv_at hl 0 rfl) ?_
          refine va_get (D := (dC, dI)) (ci := 6) (v := .ref h_this_three) (C := RX7) (T := TX7) (N := 7) hx hb hts inX7 hown hK hP 0 rfl rfl 2 (by decide) (hts _ (kq q_237 rfl)) (fun _ h9 => h9) rfl dX7_meets_139 ?_
          refine lv_iload_n hx hb dX7_meets_142 rfl (lv_at hl 1 rfl) ?_
          refine lv_iconst (v := (0 : Int32)) hx hb dX7_meets_143 (by decide) ?_
          refine lv_iconst (v := (0 : Int32)) hx hb dX7_meets_144 (by decide) ?_
          have hP : va_P (dC, dI) vwCl [cl_X7 h_this h_this_one h_this_two h_this_three h_this_four i_this (vp_updL j_this 5 r10), cl_X0 h_this_one i_this_one_2, cl_X0 h_this_two i_this_two_7, cl_X0 h_this_three i_this_three, cl_X0 h_this_four i_this_four] H := hP
          have hD : va_D A [cl_X7 h_this h_this_one h_this_two h_this_three h_this_four i_this (vp_updL j_this 5 r10), cl_X0 h_this_one i_this_one_2, cl_X0 h_this_two i_this_two_7, cl_X0 h_this_three i_this_three, cl_X0 h_this_four i_this_four] := hD
          obtain ⟨r13, i_this_three_14, hc15, h⟩ := bd2_at h
          refine kjI (kV (own := "DateSpans$Trial") (C := "DateSpans$Adder") (b := h_this_three) (As := [.int p1, .int (0 : Int32), .int (0 : Int32)]) (rest := []) ⟨hx, hb, hml, hown, hts⟩ (kX0_leads l dC dI cI cJ cB h_this_three N p1 (0 : Int32) (0 : Int32) i_this_three r13 i_this_three_14 hc15 _) (kgV (kq q_707 rfl) (kq q_544 rfl) (kq q_545 rfl) (kq q_63 rfl) (kq q_546 rfl)) yd_X0_leads ⟨Nat.le_of_ble_eq_true rfl, Nat.le_of_ble_eq_true rfl⟩ hN hK hP hD [3] rfl rfl (ci := 0) rfl rfl rfl rfl rfl hl.1 rfl (lv_room (Nat.le_of_ble_eq_true rfl)) dX7_meets_145) hP hD hS hA [3] rfl rfl (fun H locs hP hD hS => ?_)
          have hP : va_P (dC, dI) vwCl [cl_X7 h_this h_this_one h_this_two h_this_three h_this_four i_this (vp_updL j_this 5 r10), cl_X0 h_this_one i_this_one_2, cl_X0 h_this_two i_this_two_7, cl_X0 h_this_three i_this_three_14, cl_X0 h_this_four i_this_four] H := hP
          have hD : va_D A [cl_X7 h_this h_this_one h_this_two h_this_three h_this_four i_this (vp_updL j_this 5 r10), cl_X0 h_this_one i_this_one_2, cl_X0 h_this_two i_this_two_7, cl_X0 h_this_three i_this_three_14, cl_X0 h_this_four i_this_four] := hD
          refine lv_if_ne (tgt := 153) hx hb dX7_meets_148 (by decide) (fun c16 => ?_) (fun c16 => ?_)
          · have h := ite_f c16 h
            refine lv_aload_n hx hb dX7_meets_153 rfl (lv_at hl 0 rfl) ?_
            refine va_get (D := (dC, dI)) (ci := 6) (v := .int i_this) (C := RX7) (T := TX7) (N := 7) hx hb hts inX7 hown hK hP 0 rfl rfl 4 (by decide) (hts _ (kq q_239 rfl)) (fun _ h9 => h9) rfl dX7_meets_154 ?_
            refine lv_iconst (v := (2 : Int32)) hx hb dX7_meets_157 (by decide) ?_
            refine lv_icmp_ne (tgt := 174) hx hb dX7_meets_158 (by decide) (fun c17 => ?_) (fun c17 => ?_)
            · have h := ite_f c17 h
              refine lv_aload_n hx hb dX7_meets_174 rfl (lv_at hl 0 rfl) ?_
              refine lv_aload_n hx hb dX7_meets_175 rfl (lv_at hl 0 rfl) ?_
              refine va_get (D := (dC, dI)) (ci := 6) (v := .ref h_this_four) (C := RX7) (T := TX7) (N := 7) hx hb hts inX7 hown hK hP 0 rfl rfl 3 (by decide) (hts _ (kq q_238 rfl)) (fun _ h9 => h9) rfl dX7_meets_176 ?_
              refine lv_aload_n hx hb dX7_meets_179 rfl (lv_at hl 0 rfl) ?_
              refine va_get (D := (dC, dI)) (ci := 6) (v := .ref h_this_three) (C := RX7) (T := TX7) (N := 7) hx hb hts inX7 hown hK hP 0 rfl rfl 2 (by decide) (hts _ (kq q_237 rfl)) (fun _ h9 => h9) rfl dX7_meets_180 ?_
              refine va_getN (D := (dC, dI)) (ci := 0) (v := .int (i_this_three_14 8)) (C := RX0) (T := TX0) (N := 11) hx hb hts inX0 hown hK hP 3 rfl rfl 8 (by decide) (kN.use hN q_196 rfl) (fun _ h9 => h9) rfl dX7_meets_183 ?_
              refine lv_aload_n hx hb dX7_meets_186 rfl (lv_at hl 0 rfl) ?_
              refine va_get (D := (dC, dI)) (ci := 6) (v := .ref h_this_three) (C := RX7) (T := TX7) (N := 7) hx hb hts inX7 hown hK hP 0 rfl rfl 2 (by decide) (hts _ (kq q_237 rfl)) (fun _ h9 => h9) rfl dX7_meets_187 ?_
              refine va_getN (D := (dC, dI)) (ci := 0) (v := .int (i_this_three_14 9)) (C := RX0) (T := TX0) (N := 11) hx hb hts inX0 hown hK hP 3 rfl rfl 9 (by decide) (kN.use hN q_199 rfl) (fun _ h9 => h9) rfl dX7_meets_190 ?_
              refine lv_iconst (v := (0 : Int32)) hx hb dX7_meets_193 (by decide) ?_
              obtain ⟨r18, i_this_four_19, hc20, h⟩ := bd2_at h
              refine kjI (kV (own := "DateSpans$Trial") (C := "DateSpans$Adder") (b := h_this_four) (As := [.int (i_this_three_14 8), .int (i_this_three_14 9), .int (0 : Int32)]) (rest := [.ref h_this]) ⟨hx, hb, hml, hown, hts⟩ (kX0_leads l dC dI cI cJ cB h_this_four N (i_this_three_14 8) (i_this_three_14 9) (0 : Int32) i_this_four r18 i_this_four_19 hc20 _) (kgV (kq q_707 rfl) (kq q_544 rfl) (kq q_545 rfl) (kq q_63 rfl) (kq q_546 rfl)) yd_X0_leads ⟨Nat.le_of_ble_eq_true rfl, Nat.le_of_ble_eq_true rfl⟩ hN hK hP hD [4] rfl rfl (ci := 0) rfl rfl rfl rfl rfl hl.1 rfl (lv_room (Nat.le_of_ble_eq_true rfl)) dX7_meets_194) hP hD hS hA [4] rfl rfl (fun H locs hP hD hS => ?_)
              have hP : va_P (dC, dI) vwCl [cl_X7 h_this h_this_one h_this_two h_this_three h_this_four i_this (vp_updL j_this 5 r10), cl_X0 h_this_one i_this_one_2, cl_X0 h_this_two i_this_two_7, cl_X0 h_this_three i_this_three_14, cl_X0 h_this_four i_this_four_19] H := hP
              have hD : va_D A [cl_X7 h_this h_this_one h_this_two h_this_three h_this_four i_this (vp_updL j_this 5 r10), cl_X0 h_this_one i_this_one_2, cl_X0 h_this_two i_this_two_7, cl_X0 h_this_three i_this_three_14, cl_X0 h_this_four i_this_four_19] := hD
              refine lv_if_eq (tgt := 210) hx hb dX7_meets_197 (by decide) (fun c21 => ?_) (fun c21 => ?_)
              · have h := ite_t c21 h
                refine lv_ldc2 (v := (-1 : Int64)) hx hb hown (hts _ (kq q_709 rfl)) dX7_meets_210 ?_
                refine va_put (D := (dC, dI)) (ci := 6) (v := .long (-1 : Int64)) (ty := .long) (C := RX7) (T := TX7) (N := 7) hx hb hts inX7 tyX7 tyX7_ok nmX7 hown hK hP hD hS 0 rfl rfl 6 (by decide) (hts _ (kq q_242 rfl)) (fun _ h9 => h9) rfl (by decide +kernel) rfl rfl (Nat.le_of_ble_eq_true rfl) dX7_meets_213 (fun H locs hP hD hS => ?_)
                have hP : va_P (dC, dI) vwCl [(h_this, .inr (6, [.ref h_this_one, .ref h_this_two, .ref h_this_three, .ref h_this_four, .int i_this, .long ((vp_updL j_this 5 r10) 5), .long (-1 : Int64)])), cl_X0 h_this_one i_this_one_2, cl_X0 h_this_two i_this_two_7, cl_X0 h_this_three i_this_three_14, cl_X0 h_this_four i_this_four_19] H := hP
                have hD : va_D A [(h_this, .inr (6, [.ref h_this_one, .ref h_this_two, .ref h_this_three, .ref h_this_four, .int i_this, .long ((vp_updL j_this 5 r10) 5), .long (-1 : Int64)])), cl_X0 h_this_one i_this_one_2, cl_X0 h_this_two i_this_two_7, cl_X0 h_this_three i_this_three_14, cl_X0 h_this_four i_this_four_19] := hD
                refine lv_aload_n hx hb dX7_meets_216 rfl (lv_at hl 0 rfl) ?_
                refine va_get (D := (dC, dI)) (ci := 6) (v := .long (-1 : Int64)) (C := RX7) (T := TX7) (N := 7) hx hb hts inX7 hown hK hP 0 rfl rfl 6 (by decide) (hts _ (kq q_242 rfl)) (fun _ h9 => h9) rfl dX7_meets_217 ?_
                refine lv_ldc2 (v := (-1 : Int64)) hx hb hown (hts _ (kq q_709 rfl)) dX7_meets_220 ?_
                refine W.lcmp hx hb dX7_meets_223 ?_
                refine lv_if_eq (tgt := 231) hx hb dX7_meets_224 (by decide) (fun c22 => ?_) (fun c22 => ?_)
                · have h := ite_t c22 h
                  refine lv_iconst (v := (0 : Int32)) hx hb dX7_meets_231 (by decide) ?_
                  have hP : va_P (dC, dI) vwCl [cl_X7 h_this h_this_one h_this_two h_this_three h_this_four i_this (vp_updL (vp_updL j_this 5 r10) 6 (-1 : Int64)), cl_X0 h_this_one i_this_one_2, cl_X0 h_this_two i_this_two_7, cl_X0 h_this_three i_this_three_14, cl_X0 h_this_four i_this_four_19] H := hP
                  have hD : va_D A [cl_X7 h_this h_this_one h_this_two h_this_three h_this_four i_this (vp_updL (vp_updL j_this 5 r10) 6 (-1 : Int64)), cl_X0 h_this_one i_this_one_2, cl_X0 h_this_two i_this_two_7, cl_X0 h_this_three i_this_three_14, cl_X0 h_this_four i_this_four_19] := hD
                  obtain ⟨rfl, rfl, rfl, rfl, rfl, rfl⟩ := pj6 h
                  exact hEnd _ _ _ _ hP hS dX7_meets_232 rfl
                have h := ite_f c22 h
                refine lv_iconst (v := (1 : Int32)) hx hb dX7_meets_227 (by decide) ?_
                refine lv_goto (tgt := 232) hx hb dX7_meets_228 (by decide) ?_
                have hP : va_P (dC, dI) vwCl [cl_X7 h_this h_this_one h_this_two h_this_three h_this_four i_this (vp_updL (vp_updL j_this 5 r10) 6 (-1 : Int64)), cl_X0 h_this_one i_this_one_2, cl_X0 h_this_two i_this_two_7, cl_X0 h_this_three i_this_three_14, cl_X0 h_this_four i_this_four_19] H := hP
                have hD : va_D A [cl_X7 h_this h_this_one h_this_two h_this_three h_this_four i_this (vp_updL (vp_updL j_this 5 r10) 6 (-1 : Int64)), cl_X0 h_this_one i_this_one_2, cl_X0 h_this_two i_this_two_7, cl_X0 h_this_three i_this_three_14, cl_X0 h_this_four i_this_four_19] := hD
                obtain ⟨rfl, rfl, rfl, rfl, rfl, rfl⟩ := pj6 h
                exact hEnd _ _ _ _ hP hS dX7_meets_232 rfl
              have h := ite_f c21 h
              refine lv_aload_n hx hb dX7_meets_200 rfl (lv_at hl 0 rfl) ?_
              refine va_get (D := (dC, dI)) (ci := 6) (v := .ref h_this_four) (C := RX7) (T := TX7) (N := 7) hx hb hts inX7 hown hK hP 0 rfl rfl 3 (by decide) (hts _ (kq q_238 rfl)) (fun _ h9 => h9) rfl dX7_meets_201 ?_
              obtain ⟨r23, hc24, h⟩ := bd1_at h
              refine kjL (kV (own := "DateSpans$Trial") (C := "DateSpans$Adder") (b := h_this_four) (As := []) (rest := [.ref h_this]) ⟨hx, hb, hml, hown, hts⟩ (kX0_instant l dC dI cI cJ cB h_this_four N i_this_four_19 r23 hc24 _) (kgV (kq q_708 rfl) (kq q_581 rfl) (kq q_582 rfl) (kq q_63 rfl) (kq q_583 rfl)) yd_X0_instant ⟨Nat.le_of_ble_eq_true rfl, Nat.le_of_ble_eq_true rfl⟩ hN hK hP hD [4] rfl rfl (ci := 0) rfl rfl rfl rfl rfl hl.1 rfl (lv_room (Nat.le_of_ble_eq_true rfl)) dX7_meets_204) hP hD hS hA [4] rfl rfl (fun H locs hP hD hS => ?_)
              have hP : va_P (dC, dI) vwCl [cl_X7 h_this h_this_one h_this_two h_this_three h_this_four i_this (vp_updL j_this 5 r10), cl_X0 h_this_one i_this_one_2, cl_X0 h_this_two i_this_two_7, cl_X0 h_this_three i_this_three_14, cl_X0 h_this_four i_this_four_19] H := hP
              have hD : va_D A [cl_X7 h_this h_this_one h_this_two h_this_three h_this_four i_this (vp_updL j_this 5 r10), cl_X0 h_this_one i_this_one_2, cl_X0 h_this_two i_this_two_7, cl_X0 h_this_three i_this_three_14, cl_X0 h_this_four i_this_four_19] := hD
              refine lv_goto (tgt := 213) hx hb dX7_meets_207 (by decide) ?_
              refine va_put (D := (dC, dI)) (ci := 6) (v := .long r23) (ty := .long) (C := RX7) (T := TX7) (N := 7) hx hb hts inX7 tyX7 tyX7_ok nmX7 hown hK hP hD hS 0 rfl rfl 6 (by decide) (hts _ (kq q_242 rfl)) (fun _ h9 => h9) rfl (by decide +kernel) rfl rfl (Nat.le_of_ble_eq_true rfl) dX7_meets_213 (fun H locs hP hD hS => ?_)
              have hP : va_P (dC, dI) vwCl [(h_this, .inr (6, [.ref h_this_one, .ref h_this_two, .ref h_this_three, .ref h_this_four, .int i_this, .long ((vp_updL j_this 5 r10) 5), .long r23])), cl_X0 h_this_one i_this_one_2, cl_X0 h_this_two i_this_two_7, cl_X0 h_this_three i_this_three_14, cl_X0 h_this_four i_this_four_19] H := hP
              have hD : va_D A [(h_this, .inr (6, [.ref h_this_one, .ref h_this_two, .ref h_this_three, .ref h_this_four, .int i_this, .long ((vp_updL j_this 5 r10) 5), .long r23])), cl_X0 h_this_one i_this_one_2, cl_X0 h_this_two i_this_two_7, cl_X0 h_this_three i_this_three_14, cl_X0 h_this_four i_this_four_19] := hD
              refine lv_aload_n hx hb dX7_meets_216 rfl (lv_at hl 0 rfl) ?_
              refine va_get (D := (dC, dI)) (ci := 6) (v := .long r23) (C := RX7) (T := TX7) (N := 7) hx hb hts inX7 hown hK hP 0 rfl rfl 6 (by decide) (hts _ (kq q_242 rfl)) (fun _ h9 => h9) rfl dX7_meets_217 ?_
              refine lv_ldc2 (v := (-1 : Int64)) hx hb hown (hts _ (kq q_709 rfl)) dX7_meets_220 ?_
              refine W.lcmp hx hb dX7_meets_223 ?_
              refine lv_if_eq (tgt := 231) hx hb dX7_meets_224 (by decide) (fun c25 => ?_) (fun c25 => ?_)
              · have h := ite_t c25 h
                refine lv_iconst (v := (0 : Int32)) hx hb dX7_meets_231 (by decide) ?_
                have hP : va_P (dC, dI) vwCl [cl_X7 h_this h_this_one h_this_two h_this_three h_this_four i_this (vp_updL (vp_updL j_this 5 r10) 6 r23), cl_X0 h_this_one i_this_one_2, cl_X0 h_this_two i_this_two_7, cl_X0 h_this_three i_this_three_14, cl_X0 h_this_four i_this_four_19] H := hP
                have hD : va_D A [cl_X7 h_this h_this_one h_this_two h_this_three h_this_four i_this (vp_updL (vp_updL j_this 5 r10) 6 r23), cl_X0 h_this_one i_this_one_2, cl_X0 h_this_two i_this_two_7, cl_X0 h_this_three i_this_three_14, cl_X0 h_this_four i_this_four_19] := hD
                obtain ⟨rfl, rfl, rfl, rfl, rfl, rfl⟩ := pj6 h
                exact hEnd _ _ _ _ hP hS dX7_meets_232 rfl
              have h := ite_f c25 h
              refine lv_iconst (v := (1 : Int32)) hx hb dX7_meets_227 (by decide) ?_
              refine lv_goto (tgt := 232) hx hb dX7_meets_228 (by decide) ?_
              have hP : va_P (dC, dI) vwCl [cl_X7 h_this h_this_one h_this_two h_this_three h_this_four i_this (vp_updL (vp_updL j_this 5 r10) 6 r23), cl_X0 h_this_one i_this_one_2, cl_X0 h_this_two i_this_two_7, cl_X0 h_this_three i_this_three_14, cl_X0 h_this_four i_this_four_19] H := hP
              have hD : va_D A [cl_X7 h_this h_this_one h_this_two h_this_three h_this_four i_this (vp_updL (vp_updL j_this 5 r10) 6 r23), cl_X0 h_this_one i_this_one_2, cl_X0 h_this_two i_this_two_7, cl_X0 h_this_three i_this_three_14, cl_X0 h_this_four i_this_four_19] := hD
              obtain ⟨rfl, rfl, rfl, rfl, rfl, rfl⟩ := pj6 h
              exact hEnd _ _ _ _ hP hS dX7_meets_232 rfl
            have h := ite_t c17 h
            refine lv_aload_n hx hb dX7_meets_161 rfl (lv_at hl 0 rfl) ?_
            refine lv_aload_n hx hb dX7_meets_162 rfl (lv_at hl 0 rfl) ?_
            refine va_get (D := (dC, dI)) (ci := 6) (v := .ref h_this_three) (C := RX7) (T := TX7) (N := 7) hx hb hts inX7 hown hK hP 0 rfl rfl 2 (by decide) (hts _ (kq q_237 rfl)) (fun _ h9 => h9) rfl dX7_meets_163 ?_
            obtain ⟨r26, hc27, h⟩ := bd1_at h
            refine kjL (kV (own := "DateSpans$Trial") (C := "DateSpans$Adder") (b := h_this_three) (As := []) (rest := [.ref h_this]) ⟨hx, hb, hml, hown, hts⟩ (kX0_instant l dC dI cI cJ cB h_this_three N i_this_three_14 r26 hc27 _) (kgV (kq q_708 rfl) (kq q_581 rfl) (kq q_582 rfl) (kq q_63 rfl) (kq q_583 rfl)) yd_X0_instant ⟨Nat.le_of_ble_eq_true rfl, Nat.le_of_ble_eq_true rfl⟩ hN hK hP hD [3] rfl rfl (ci := 0) rfl rfl rfl rfl rfl hl.1 rfl (lv_room (Nat.le_of_ble_eq_true rfl)) dX7_meets_166) hP hD hS hA [3] rfl rfl (fun H locs hP hD hS => ?_)
            have hP : va_P (dC, dI) vwCl [cl_X7 h_this h_this_one h_this_two h_this_three h_this_four i_this (vp_updL j_this 5 r10), cl_X0 h_this_one i_this_one_2, cl_X0 h_this_two i_this_two_7, cl_X0 h_this_three i_this_three_14, cl_X0 h_this_four i_this_four] H := hP
            have hD : va_D A [cl_X7 h_this h_this_one h_this_two h_this_three h_this_four i_this (vp_updL j_this 5 r10), cl_X0 h_this_one i_this_one_2, cl_X0 h_this_two i_this_two_7, cl_X0 h_this_three i_this_three_14, cl_X0 h_this_four i_this_four] := hD
            refine va_put (D := (dC, dI)) (ci := 6) (v := .long r26) (ty := .long) (C := RX7) (T := TX7) (N := 7) hx hb hts inX7 tyX7 tyX7_ok nmX7 hown hK hP hD hS 0 rfl rfl 6 (by decide) (hts _ (kq q_242 rfl)) (fun _ h9 => h9) rfl (by decide +kernel) rfl rfl (Nat.le_of_ble_eq_true rfl) dX7_meets_169 (fun H locs hP hD hS => ?_)
            have hP : va_P (dC, dI) vwCl [(h_this, .inr (6, [.ref h_this_one, .ref h_this_two, .ref h_this_three, .ref h_this_four, .int i_this, .long ((vp_updL j_this 5 r10) 5), .long r26])), cl_X0 h_this_one i_this_one_2, cl_X0 h_this_two i_this_two_7, cl_X0 h_this_three i_this_three_14, cl_X0 h_this_four i_this_four] H := hP
            have hD : va_D A [(h_this, .inr (6, [.ref h_this_one, .ref h_this_two, .ref h_this_three, .ref h_this_four, .int i_this, .long ((vp_updL j_this 5 r10) 5), .long r26])), cl_X0 h_this_one i_this_one_2, cl_X0 h_this_two i_this_two_7, cl_X0 h_this_three i_this_three_14, cl_X0 h_this_four i_this_four] := hD
            refine lv_iconst (v := (1 : Int32)) hx hb dX7_meets_172 (by decide) ?_
            have hP : va_P (dC, dI) vwCl [cl_X7 h_this h_this_one h_this_two h_this_three h_this_four i_this (vp_updL (vp_updL j_this 5 r10) 6 r26), cl_X0 h_this_one i_this_one_2, cl_X0 h_this_two i_this_two_7, cl_X0 h_this_three i_this_three_14, cl_X0 h_this_four i_this_four] H := hP
            have hD : va_D A [cl_X7 h_this h_this_one h_this_two h_this_three h_this_four i_this (vp_updL (vp_updL j_this 5 r10) 6 r26), cl_X0 h_this_one i_this_one_2, cl_X0 h_this_two i_this_two_7, cl_X0 h_this_three i_this_three_14, cl_X0 h_this_four i_this_four] := hD
            obtain ⟨rfl, rfl, rfl, rfl, rfl, rfl⟩ := pj6 h
            exact hEnd _ _ _ _ hP hS dX7_meets_173 rfl
          have h := ite_t c16 h
          refine lv_iconst (v := (0 : Int32)) hx hb dX7_meets_151 (by decide) ?_
          obtain ⟨rfl, rfl, rfl, rfl, rfl, rfl⟩ := pj6 h
          exact hEnd _ _ _ _ hP hS dX7_meets_152 rfl
        have h := ite_t c12 h
        refine lv_aload_n hx hb dX7_meets_127 rfl (lv_at hl 0 rfl) ?_
        refine lv_iload_n hx hb dX7_meets_128 rfl (lv_at hl 1 rfl) ?_
        refine lv_iconst (v := (0 : Int32)) hx hb dX7_meets_129 (by decide) ?_
        have hP : va_P (dC, dI) vwCl [cl_X7 h_this h_this_one h_this_two h_this_three h_this_four i_this (vp_updL j_this 5 r10), cl_X0 h_this_one i_this_one_2, cl_X0 h_this_two i_this_two_7, cl_X0 h_this_three i_this_three, cl_X0 h_this_four i_this_four] H := hP
        have hD : va_D A [cl_X7 h_this h_this_one h_this_two h_this_three h_this_four i_this (vp_updL j_this 5 r10), cl_X0 h_this_one i_this_one_2, cl_X0 h_this_two i_this_two_7, cl_X0 h_this_three i_this_three, cl_X0 h_this_four i_this_four] := hD
        obtain ⟨r28, hc29, h⟩ := bd1_at h
        refine kjSL (kSN0 (own := "DateSpans$Trial") (As := [.int p1, .int (0 : Int32)]) (rest := [.ref h_this]) ⟨hx, hb, hml, hown, hts⟩ (kX9_instantOf l N p1 (0 : Int32) r28 hc29) (kgN (kq q_586 rfl)) (hN _ q_710 rfl) (kq q_585 rfl) (kq q_57 rfl) yd_X9_instantOf ⟨Nat.le_of_ble_eq_true rfl, Nat.le_of_ble_eq_true rfl⟩ rfl rfl hl.1 rfl (lv_room (Nat.le_of_ble_eq_true rfl)) dX7_meets_130) ?_
        refine va_put (D := (dC, dI)) (ci := 6) (v := .long r28) (ty := .long) (C := RX7) (T := TX7) (N := 7) hx hb hts inX7 tyX7 tyX7_ok nmX7 hown hK hP hD hS 0 rfl rfl 6 (by decide) (hts _ (kq q_242 rfl)) (fun _ h9 => h9) rfl (by decide +kernel) rfl rfl (Nat.le_of_ble_eq_true rfl) dX7_meets_133 (fun H locs hP hD hS => ?_)
        have hP : va_P (dC, dI) vwCl [(h_this, .inr (6, [.ref h_this_one, .ref h_this_two, .ref h_this_three, .ref h_this_four, .int i_this, .long ((vp_updL j_this 5 r10) 5), .long r28])), cl_X0 h_this_one i_this_one_2, cl_X0 h_this_two i_this_two_7, cl_X0 h_this_three i_this_three, cl_X0 h_this_four i_this_four] H := hP
        have hD : va_D A [(h_this, .inr (6, [.ref h_this_one, .ref h_this_two, .ref h_this_three, .ref h_this_four, .int i_this, .long ((vp_updL j_this 5 r10) 5), .long r28])), cl_X0 h_this_one i_this_one_2, cl_X0 h_this_two i_this_two_7, cl_X0 h_this_three i_this_three, cl_X0 h_this_four i_this_four] := hD
        refine lv_iconst (v := (1 : Int32)) hx hb dX7_meets_136 (by decide) ?_
        have hP : va_P (dC, dI) vwCl [cl_X7 h_this h_this_one h_this_two h_this_three h_this_four i_this (vp_updL (vp_updL j_this 5 r10) 6 r28), cl_X0 h_this_one i_this_one_2, cl_X0 h_this_two i_this_two_7, cl_X0 h_this_three i_this_three, cl_X0 h_this_four i_this_four] H := hP
        have hD : va_D A [cl_X7 h_this h_this_one h_this_two h_this_three h_this_four i_this (vp_updL (vp_updL j_this 5 r10) 6 r28), cl_X0 h_this_one i_this_one_2, cl_X0 h_this_two i_this_two_7, cl_X0 h_this_three i_this_three, cl_X0 h_this_four i_this_four] := hD
        obtain ⟨rfl, rfl, rfl, rfl, rfl, rfl⟩ := pj6 h
        exact hEnd _ _ _ _ hP hS dX7_meets_137 rfl
      have h := ite_t c9 h
      refine lv_iconst (v := (0 : Int32)) hx hb dX7_meets_106 (by decide) ?_
      obtain ⟨rfl, rfl, rfl, rfl, rfl, rfl⟩ := pj6 h
      exact hEnd _ _ _ _ hP hS dX7_meets_107 rfl
    have h := ite_t c5 h
    refine lv_aload_n hx hb dX7_meets_23 rfl (lv_at hl 0 rfl) ?_
    refine lv_aload_n hx hb dX7_meets_24 rfl (lv_at hl 0 rfl) ?_
    refine va_get (D := (dC, dI)) (ci := 6) (v := .ref h_this_one) (C := RX7) (T := TX7) (N := 7) hx hb hts inX7 hown hK hP 0 rfl rfl 0 (by decide) (hts _ (kq q_235 rfl)) (fun _ h9 => h9) rfl dX7_meets_25 ?_
    obtain ⟨r30, hc31, h⟩ := bd1_at h
    refine kjL (kV (own := "DateSpans$Trial") (C := "DateSpans$Adder") (b := h_this_one) (As := []) (rest := [.ref h_this]) ⟨hx, hb, hml, hown, hts⟩ (kX0_instant l dC dI cI cJ cB h_this_one N i_this_one_2 r30 hc31 _) (kgV (kq q_708 rfl) (kq q_581 rfl) (kq q_582 rfl) (kq q_63 rfl) (kq q_583 rfl)) yd_X0_instant ⟨Nat.le_of_ble_eq_true rfl, Nat.le_of_ble_eq_true rfl⟩ hN hK hP hD [1] rfl rfl (ci := 0) rfl rfl rfl rfl rfl hl.1 rfl (lv_room (Nat.le_of_ble_eq_true rfl)) dX7_meets_28) hP hD hS hA [1] rfl rfl (fun H locs hP hD hS => ?_)
    have hP : va_P (dC, dI) vwCl [cl_X7 h_this h_this_one h_this_two h_this_three h_this_four i_this j_this, cl_X0 h_this_one i_this_one_2, cl_X0 h_this_two i_this_two, cl_X0 h_this_three i_this_three, cl_X0 h_this_four i_this_four] H := hP
    have hD : va_D A [cl_X7 h_this h_this_one h_this_two h_this_three h_this_four i_this j_this, cl_X0 h_this_one i_this_one_2, cl_X0 h_this_two i_this_two, cl_X0 h_this_three i_this_three, cl_X0 h_this_four i_this_four] := hD
    refine va_put (D := (dC, dI)) (ci := 6) (v := .long r30) (ty := .long) (C := RX7) (T := TX7) (N := 7) hx hb hts inX7 tyX7 tyX7_ok nmX7 hown hK hP hD hS 0 rfl rfl 5 (by decide) (hts _ (kq q_240 rfl)) (fun _ h9 => h9) rfl (by decide +kernel) rfl rfl (Nat.le_of_ble_eq_true rfl) dX7_meets_31 (fun H locs hP hD hS => ?_)
    have hP : va_P (dC, dI) vwCl [(h_this, .inr (6, [.ref h_this_one, .ref h_this_two, .ref h_this_three, .ref h_this_four, .int i_this, .long r30, .long (j_this 6)])), cl_X0 h_this_one i_this_one_2, cl_X0 h_this_two i_this_two, cl_X0 h_this_three i_this_three, cl_X0 h_this_four i_this_four] H := hP
    have hD : va_D A [(h_this, .inr (6, [.ref h_this_one, .ref h_this_two, .ref h_this_three, .ref h_this_four, .int i_this, .long r30, .long (j_this 6)])), cl_X0 h_this_one i_this_one_2, cl_X0 h_this_two i_this_two, cl_X0 h_this_three i_this_three, cl_X0 h_this_four i_this_four] := hD
    refine lv_aload_n hx hb dX7_meets_34 rfl (lv_at hl 0 rfl) ?_
    refine lv_aload_n hx hb dX7_meets_35 rfl (lv_at hl 0 rfl) ?_
    refine va_get (D := (dC, dI)) (ci := 6) (v := .ref h_this_two) (C := RX7) (T := TX7) (N := 7) hx hb hts inX7 hown hK hP 0 rfl rfl 1 (by decide) (hts _ (kq q_236 rfl)) (fun _ h9 => h9) rfl dX7_meets_36 ?_
    refine lv_iload_n hx hb dX7_meets_39 rfl (lv_at hl 1 rfl) ?_
    refine lv_iconst (v := (0 : Int32)) hx hb dX7_meets_40 (by decide) ?_
    refine lv_iconst (v := (1 : Int32)) hx hb dX7_meets_41 (by decide) ?_
    have hP : va_P (dC, dI) vwCl [cl_X7 h_this h_this_one h_this_two h_this_three h_this_four i_this (vp_updL j_this 5 r30), cl_X0 h_this_one i_this_one_2, cl_X0 h_this_two i_this_two, cl_X0 h_this_three i_this_three, cl_X0 h_this_four i_this_four] H := hP
    have hD : va_D A [cl_X7 h_this h_this_one h_this_two h_this_three h_this_four i_this (vp_updL j_this 5 r30), cl_X0 h_this_one i_this_one_2, cl_X0 h_this_two i_this_two, cl_X0 h_this_three i_this_three, cl_X0 h_this_four i_this_four] := hD
    obtain ⟨r32, i_this_two_33, hc34, h⟩ := bd2_at h
    refine kjI (kV (own := "DateSpans$Trial") (C := "DateSpans$Adder") (b := h_this_two) (As := [.int p1, .int (0 : Int32), .int (1 : Int32)]) (rest := [.ref h_this]) ⟨hx, hb, hml, hown, hts⟩ (kX0_leads l dC dI cI cJ cB h_this_two N p1 (0 : Int32) (1 : Int32) i_this_two r32 i_this_two_33 hc34 _) (kgV (kq q_707 rfl) (kq q_544 rfl) (kq q_545 rfl) (kq q_63 rfl) (kq q_546 rfl)) yd_X0_leads ⟨Nat.le_of_ble_eq_true rfl, Nat.le_of_ble_eq_true rfl⟩ hN hK hP hD [2] rfl rfl (ci := 0) rfl rfl rfl rfl rfl hl.1 rfl (lv_room (Nat.le_of_ble_eq_true rfl)) dX7_meets_42) hP hD hS hA [2] rfl rfl (fun H locs hP hD hS => ?_)
    have hP : va_P (dC, dI) vwCl [cl_X7 h_this h_this_one h_this_two h_this_three h_this_four i_this (vp_updL j_this 5 r30), cl_X0 h_this_one i_this_one_2, cl_X0 h_this_two i_this_two_33, cl_X0 h_this_three i_this_three, cl_X0 h_this_four i_this_four] H := hP
    have hD : va_D A [cl_X7 h_this h_this_one h_this_two h_this_three h_this_four i_this (vp_updL j_this 5 r30), cl_X0 h_this_one i_this_one_2, cl_X0 h_this_two i_this_two_33, cl_X0 h_this_three i_this_three, cl_X0 h_this_four i_this_four] := hD
    refine lv_if_eq (tgt := 58) hx hb dX7_meets_45 (by decide) (fun c35 => ?_) (fun c35 => ?_)
    · have h := ite_t c35 h
      refine lv_ldc2 (v := (-1 : Int64)) hx hb hown (hts _ (kq q_709 rfl)) dX7_meets_58 ?_
      refine va_put (D := (dC, dI)) (ci := 6) (v := .long (-1 : Int64)) (ty := .long) (C := RX7) (T := TX7) (N := 7) hx hb hts inX7 tyX7 tyX7_ok nmX7 hown hK hP hD hS 0 rfl rfl 6 (by decide) (hts _ (kq q_242 rfl)) (fun _ h9 => h9) rfl (by decide +kernel) rfl rfl (Nat.le_of_ble_eq_true rfl) dX7_meets_61 (fun H locs hP hD hS => ?_)
      have hP : va_P (dC, dI) vwCl [(h_this, .inr (6, [.ref h_this_one, .ref h_this_two, .ref h_this_three, .ref h_this_four, .int i_this, .long ((vp_updL j_this 5 r30) 5), .long (-1 : Int64)])), cl_X0 h_this_one i_this_one_2, cl_X0 h_this_two i_this_two_33, cl_X0 h_this_three i_this_three, cl_X0 h_this_four i_this_four] H := hP
      have hD : va_D A [(h_this, .inr (6, [.ref h_this_one, .ref h_this_two, .ref h_this_three, .ref h_this_four, .int i_this, .long ((vp_updL j_this 5 r30) 5), .long (-1 : Int64)])), cl_X0 h_this_one i_this_one_2, cl_X0 h_this_two i_this_two_33, cl_X0 h_this_three i_this_three, cl_X0 h_this_four i_this_four] := hD
      refine lv_aload_n hx hb dX7_meets_64 rfl (lv_at hl 0 rfl) ?_
      refine va_get (D := (dC, dI)) (ci := 6) (v := .long (-1 : Int64)) (C := RX7) (T := TX7) (N := 7) hx hb hts inX7 hown hK hP 0 rfl rfl 6 (by decide) (hts _ (kq q_242 rfl)) (fun _ h9 => h9) rfl dX7_meets_65 ?_
      refine lv_ldc2 (v := (-1 : Int64)) hx hb hown (hts _ (kq q_709 rfl)) dX7_meets_68 ?_
      refine W.lcmp hx hb dX7_meets_71 ?_
      refine lv_if_eq (tgt := 79) hx hb dX7_meets_72 (by decide) (fun c36 => ?_) (fun c36 => ?_)
      · have h := ite_t c36 h
        refine lv_iconst (v := (0 : Int32)) hx hb dX7_meets_79 (by decide) ?_
        have hP : va_P (dC, dI) vwCl [cl_X7 h_this h_this_one h_this_two h_this_three h_this_four i_this (vp_updL (vp_updL j_this 5 r30) 6 (-1 : Int64)), cl_X0 h_this_one i_this_one_2, cl_X0 h_this_two i_this_two_33, cl_X0 h_this_three i_this_three, cl_X0 h_this_four i_this_four] H := hP
        have hD : va_D A [cl_X7 h_this h_this_one h_this_two h_this_three h_this_four i_this (vp_updL (vp_updL j_this 5 r30) 6 (-1 : Int64)), cl_X0 h_this_one i_this_one_2, cl_X0 h_this_two i_this_two_33, cl_X0 h_this_three i_this_three, cl_X0 h_this_four i_this_four] := hD
        obtain ⟨rfl, rfl, rfl, rfl, rfl, rfl⟩ := pj6 h
        exact hEnd _ _ _ _ hP hS dX7_meets_80 rfl
      have h := ite_f c36 h
      refine lv_iconst (v := (1 : Int32)) hx hb dX7_meets_75 (by decide) ?_
      refine lv_goto (tgt := 80) hx hb dX7_meets_76 (by decide) ?_
      have hP : va_P (dC, dI) vwCl [cl_X7 h_this h_this_one h_this_two h_this_three h_this_four i_this (vp_updL (vp_updL j_this 5 r30) 6 (-1 : Int64)), cl_X0 h_this_one i_this_one_2, cl_X0 h_this_two i_this_two_33, cl_X0 h_this_three i_this_three, cl_X0 h_this_four i_this_four] H := hP
      have hD : va_D A [cl_X7 h_this h_this_one h_this_two h_this_three h_this_four i_this (vp_updL (vp_updL j_this 5 r30) 6 (-1 : Int64)), cl_X0 h_this_one i_this_one_2, cl_X0 h_this_two i_this_two_33, cl_X0 h_this_three i_this_three, cl_X0 h_this_four i_this_four] := hD
      obtain ⟨rfl, rfl, rfl, rfl, rfl, rfl⟩ := pj6 h
      exact hEnd _ _ _ _ hP hS dX7_meets_80 rfl
    have h := ite_f c35 h
    refine lv_aload_n hx hb dX7_meets_48 rfl (lv_at hl 0 rfl) ?_
    refine va_get (D := (dC, dI)) (ci := 6) (v := .ref h_this_two) (C := RX7) (T := TX7) (N := 7) hx hb hts inX7 hown hK hP 0 rfl rfl 1 (by decide) (hts _ (kq q_236 rfl)) (fun _ h9 => h9) rfl dX7_meets_49 ?_
    obtain ⟨r37, hc38, h⟩ := bd1_at h
    refine kjL (kV (own := "DateSpans$Trial") (C := "DateSpans$Adder") (b := h_this_two) (As := []) (rest := [.ref h_this]) ⟨hx, hb, hml, hown, hts⟩ (kX0_instant l dC dI cI cJ cB h_this_two N i_this_two_33 r37 hc38 _) (kgV (kq q_708 rfl) (kq q_581 rfl) (kq q_582 rfl) (kq q_63 rfl) (kq q_583 rfl)) yd_X0_instant ⟨Nat.le_of_ble_eq_true rfl, Nat.le_of_ble_eq_true rfl⟩ hN hK hP hD [2] rfl rfl (ci := 0) rfl rfl rfl rfl rfl hl.1 rfl (lv_room (Nat.le_of_ble_eq_true rfl)) dX7_meets_52) hP hD hS hA [2] rfl rfl (fun H locs hP hD hS => ?_)
    have hP : va_P (dC, dI) vwCl [cl_X7 h_this h_this_one h_this_two h_this_three h_this_four i_this (vp_updL j_this 5 r30), cl_X0 h_this_one i_this_one_2, cl_X0 h_this_two i_this_two_33, cl_X0 h_this_three i_this_three, cl_X0 h_this_four i_this_four] H := hP
    have hD : va_D A [cl_X7 h_this h_this_one h_this_two h_this_three h_this_four i_this (vp_updL j_this 5 r30), cl_X0 h_this_one i_this_one_2, cl_X0 h_this_two i_this_two_33, cl_X0 h_this_three i_this_three, cl_X0 h_this_four i_this_four] := hD
    refine lv_goto (tgt := 61) hx hb dX7_meets_55 (by decide) ?_
    refine va_put (D := (dC, dI)) (ci := 6) (v := .long r37) (ty := .long) (C := RX7) (T := TX7) (N := 7) hx hb hts inX7 tyX7 tyX7_ok nmX7 hown hK hP hD hS 0 rfl rfl 6 (by decide) (hts _ (kq q_242 rfl)) (fun _ h9 => h9) rfl (by decide +kernel) rfl rfl (Nat.le_of_ble_eq_true rfl) dX7_meets_61 (fun H locs hP hD hS => ?_)
    have hP : va_P (dC, dI) vwCl [(h_this, .inr (6, [.ref h_this_one, .ref h_this_two, .ref h_this_three, .ref h_this_four, .int i_this, .long ((vp_updL j_this 5 r30) 5), .long r37])), cl_X0 h_this_one i_this_one_2, cl_X0 h_this_two i_this_two_33, cl_X0 h_this_three i_this_three, cl_X0 h_this_four i_this_four] H := hP
    have hD : va_D A [(h_this, .inr (6, [.ref h_this_one, .ref h_this_two, .ref h_this_three, .ref h_this_four, .int i_this, .long ((vp_updL j_this 5 r30) 5), .long r37])), cl_X0 h_this_one i_this_one_2, cl_X0 h_this_two i_this_two_33, cl_X0 h_this_three i_this_three, cl_X0 h_this_four i_this_four] := hD
    refine lv_aload_n hx hb dX7_meets_64 rfl (lv_at hl 0 rfl) ?_
    refine va_get (D := (dC, dI)) (ci := 6) (v := .long r37) (C := RX7) (T := TX7) (N := 7) hx hb hts inX7 hown hK hP 0 rfl rfl 6 (by decide) (hts _ (kq q_242 rfl)) (fun _ h9 => h9) rfl dX7_meets_65 ?_
    refine lv_ldc2 (v := (-1 : Int64)) hx hb hown (hts _ (kq q_709 rfl)) dX7_meets_68 ?_
    refine W.lcmp hx hb dX7_meets_71 ?_
    refine lv_if_eq (tgt := 79) hx hb dX7_meets_72 (by decide) (fun c39 => ?_) (fun c39 => ?_)
    · have h := ite_t c39 h
      refine lv_iconst (v := (0 : Int32)) hx hb dX7_meets_79 (by decide) ?_
      have hP : va_P (dC, dI) vwCl [cl_X7 h_this h_this_one h_this_two h_this_three h_this_four i_this (vp_updL (vp_updL j_this 5 r30) 6 r37), cl_X0 h_this_one i_this_one_2, cl_X0 h_this_two i_this_two_33, cl_X0 h_this_three i_this_three, cl_X0 h_this_four i_this_four] H := hP
      have hD : va_D A [cl_X7 h_this h_this_one h_this_two h_this_three h_this_four i_this (vp_updL (vp_updL j_this 5 r30) 6 r37), cl_X0 h_this_one i_this_one_2, cl_X0 h_this_two i_this_two_33, cl_X0 h_this_three i_this_three, cl_X0 h_this_four i_this_four] := hD
      obtain ⟨rfl, rfl, rfl, rfl, rfl, rfl⟩ := pj6 h
      exact hEnd _ _ _ _ hP hS dX7_meets_80 rfl
    have h := ite_f c39 h
    refine lv_iconst (v := (1 : Int32)) hx hb dX7_meets_75 (by decide) ?_
    refine lv_goto (tgt := 80) hx hb dX7_meets_76 (by decide) ?_
    have hP : va_P (dC, dI) vwCl [cl_X7 h_this h_this_one h_this_two h_this_three h_this_four i_this (vp_updL (vp_updL j_this 5 r30) 6 r37), cl_X0 h_this_one i_this_one_2, cl_X0 h_this_two i_this_two_33, cl_X0 h_this_three i_this_three, cl_X0 h_this_four i_this_four] H := hP
    have hD : va_D A [cl_X7 h_this h_this_one h_this_two h_this_three h_this_four i_this (vp_updL (vp_updL j_this 5 r30) 6 r37), cl_X0 h_this_one i_this_one_2, cl_X0 h_this_two i_this_two_33, cl_X0 h_this_three i_this_three, cl_X0 h_this_four i_this_four] := hD
    obtain ⟨rfl, rfl, rfl, rfl, rfl, rfl⟩ := pj6 h
    exact hEnd _ _ _ _ hP hS dX7_meets_80 rfl
  have h := ite_t c4 h
  refine lv_iconst (v := (0 : Int32)) hx hb dX7_meets_13 (by decide) ?_
  obtain ⟨rfl, rfl, rfl, rfl, rfl, rfl⟩ := pj6 h
  exact hEnd _ _ _ _ hP hS dX7_meets_14 rfl
noncomputable def fX9_fails_l63 (N : Nat) (i_this : Int32) (f_this_now_months : Nat → Int32) (f_this_now_days : Nat → Int32) (f_this_now_seconds : Nat → Int32) (n : Nat) : Int32 → Int32 → Int32 → (Nat → Int64) → Int32 → (Nat → Int64) → (Nat → Int32) → (Nat → Int32) → (Nat → Int32) → (Nat → Int32) → Option (Int32 × Int32 × (Nat → Int64) × Int32 × (Nat → Int64) × (Nat → Int32) × (Nat → Int32) × (Nat → Int32) × (Nat → Int32)) := Nat.rec (motive := fun _ => Int32 → Int32 → Int32 → (Nat → Int64) → Int32 → (Nat → Int64) → (Nat → Int32) → (Nat → Int32) → (Nat → Int32) → (Nat → Int32) → Option (Int32 × Int32 × (Nat → Int64) × Int32 × (Nat → Int64) × (Nat → Int32) × (Nat → Int32) × (Nat → Int32) × (Nat → Int32))) (fun _ _ _ _ _ _ _ _ _ _ => none) (fun _ K_63 v6 v7 i_this_told f_this_told_numbers i_this_trial j_this_trial i_this_trial_one i_this_trial_two i_this_trial_three i_this_trial_four => (if v6 < v7 then (some ((-2 : Int32), i_this_told, f_this_told_numbers, i_this_trial, j_this_trial, i_this_trial_one, i_this_trial_two, i_this_trial_three, i_this_trial_four)) else (bd6 (fX7_meets N v7 i_this_trial j_this_trial i_this_trial_one i_this_trial_two i_this_trial_three i_this_trial_four) fun r2 j_this_trial_3 i_this_trial_one_4 i_this_trial_two_5 i_this_trial_three_6 i_this_trial_four_7 => (if r2 = (0 : Int32) then (nm (v7 + (1 : Int32)) fun z10 => (K_63 v6 z10 i_this_told f_this_told_numbers i_this_trial j_this_trial_3 i_this_trial_one_4 i_this_trial_two_5 i_this_trial_three_6 i_this_trial_four_7)) else (if (lg_cmp (j_this_trial_3 5) (j_this_trial_3 6)) = (0 : Int32) then (nm (v7 + (1 : Int32)) fun z12 => (K_63 v6 z12 i_this_told f_this_told_numbers i_this_trial j_this_trial_3 i_this_trial_one_4 i_this_trial_two_5 i_this_trial_three_6 i_this_trial_four_7)) else (bd2 (fX3_tell_ N (j_this_trial_3 5) (j_this_trial_3 6) i_this_told f_this_told_numbers) fun i_this_told_13 f_this_told_numbers_14 => (some (v7, i_this_told_13, f_this_told_numbers_14, i_this_trial, j_this_trial_3, i_this_trial_one_4, i_this_trial_two_5, i_this_trial_three_6, i_this_trial_four_7)))))))) n
theorem fX9_fails_l63_s (N : Nat) (i_this : Int32) (f_this_now_months : Nat → Int32) (f_this_now_days : Nat → Int32) (f_this_now_seconds : Nat → Int32) (n : Nat) (v6 : Int32) (v7 : Int32) (i_this_told : Int32) (f_this_told_numbers : Nat → Int64) (i_this_trial : Int32) (j_this_trial : Nat → Int64) (i_this_trial_one : Nat → Int32) (i_this_trial_two : Nat → Int32) (i_this_trial_three : Nat → Int32) (i_this_trial_four : Nat → Int32) : fX9_fails_l63 N i_this f_this_now_months f_this_now_days f_this_now_seconds (n + 1) v6 v7 i_this_told f_this_told_numbers i_this_trial j_this_trial i_this_trial_one i_this_trial_two i_this_trial_three i_this_trial_four = (if v6 < v7 then (some ((-2 : Int32), i_this_told, f_this_told_numbers, i_this_trial, j_this_trial, i_this_trial_one, i_this_trial_two, i_this_trial_three, i_this_trial_four)) else (bd6 (fX7_meets N v7 i_this_trial j_this_trial i_this_trial_one i_this_trial_two i_this_trial_three i_this_trial_four) fun r2 j_this_trial_3 i_this_trial_one_4 i_this_trial_two_5 i_this_trial_three_6 i_this_trial_four_7 => (if r2 = (0 : Int32) then (nm (v7 + (1 : Int32)) fun z10 => ((fX9_fails_l63 N i_this f_this_now_months f_this_now_days f_this_now_seconds n) v6 z10 i_this_told f_this_told_numbers i_this_trial j_this_trial_3 i_this_trial_one_4 i_this_trial_two_5 i_this_trial_three_6 i_this_trial_four_7)) else (if (lg_cmp (j_this_trial_3 5) (j_this_trial_3 6)) = (0 : Int32) then (nm (v7 + (1 : Int32)) fun z12 => ((fX9_fails_l63 N i_this f_this_now_months f_this_now_days f_this_now_seconds n) v6 z12 i_this_told f_this_told_numbers i_this_trial j_this_trial_3 i_this_trial_one_4 i_this_trial_two_5 i_this_trial_three_6 i_this_trial_four_7)) else (bd2 (fX3_tell_ N (j_this_trial_3 5) (j_this_trial_3 6) i_this_told f_this_told_numbers) fun i_this_told_13 f_this_told_numbers_14 => (some (v7, i_this_told_13, f_this_told_numbers_14, i_this_trial, j_this_trial_3, i_this_trial_one_4, i_this_trial_two_5, i_this_trial_three_6, i_this_trial_four_7))))))) := rfl
theorem fX9_fails_l63_0 (N : Nat) (i_this : Int32) (f_this_now_months : Nat → Int32) (f_this_now_days : Nat → Int32) (f_this_now_seconds : Nat → Int32) (v6 : Int32) (v7 : Int32) (i_this_told : Int32) (f_this_told_numbers : Nat → Int64) (i_this_trial : Int32) (j_this_trial : Nat → Int64) (i_this_trial_one : Nat → Int32) (i_this_trial_two : Nat → Int32) (i_this_trial_three : Nat → Int32) (i_this_trial_four : Nat → Int32) : fX9_fails_l63 N i_this f_this_now_months f_this_now_days f_this_now_seconds 0 v6 v7 i_this_told f_this_told_numbers i_this_trial j_this_trial i_this_trial_one i_this_trial_two i_this_trial_three i_this_trial_four = none := rfl
noncomputable def fX9_fails (N : Nat) (p1 : Int32) (p2 : Int32) (p3 : Int32) (p4 : Int32) (p5 : Int32) (i_this : Int32) (f_this_now_months : Nat → Int32) (f_this_now_days : Nat → Int32) (f_this_now_seconds : Nat → Int32) (i_this_told : Int32) (f_this_told_numbers : Nat → Int64) (i_this_trial : Int32) (j_this_trial : Nat → Int64) (i_this_trial_one : Nat → Int32) (i_this_trial_two : Nat → Int32) (i_this_trial_three : Nat → Int32) (i_this_trial_four : Nat → Int32) : Option (Int32 × Int32 × (Nat → Int64) × Int32 × (Nat → Int64) × (Nat → Int32) × (Nat → Int32) × (Nat → Int32) × (Nat → Int32)) := (bd1 (fX9_isTrial N p1 p2 p3 p4) fun r16 => (if r16 = (0 : Int32) then (some ((-1 : Int32), i_this_told, f_this_told_numbers, i_this_trial, j_this_trial, i_this_trial_one, i_this_trial_two, i_this_trial_three, i_this_trial_four)) else (bd1 (fX9_isDay N p5) fun r19 => (if r19 = (0 : Int32) then (some ((-1 : Int32), i_this_told, f_this_told_numbers, i_this_trial, j_this_trial, i_this_trial_one, i_this_trial_two, i_this_trial_three, i_this_trial_four)) else (bd6 (fX7_takes N p1 p2 p3 p4 i_this_trial j_this_trial i_this_trial_one i_this_trial_two i_this_trial_three i_this_trial_four f_this_now_months f_this_now_days f_this_now_seconds) fun r22 i_this_trial_23 i_this_trial_one_24 i_this_trial_two_25 i_this_trial_three_26 i_this_trial_four_27 => (if r22 = (0 : Int32) then (some ((-9 : Int32), i_this_told, f_this_told_numbers, i_this_trial_23, j_this_trial, i_this_trial_one_24, i_this_trial_two_25, i_this_trial_three_26, i_this_trial_four_27)) else (nm (if (3652058 : Int32) < ((p5 + (146097 : Int32)) - (1 : Int32)) then (3652058 : Int32) else ((p5 + (146097 : Int32)) - (1 : Int32))) fun z30 => (fX9_fails_l63 N i_this f_this_now_months f_this_now_days f_this_now_seconds N z30 p5 i_this_told f_this_told_numbers i_this_trial_23 j_this_trial i_this_trial_one_24 i_this_trial_two_25 i_this_trial_three_26 i_this_trial_four_27))))))))
set_option maxHeartbeats 4000000 in
set_option maxRecDepth 100000 in
theorem kX9_fails (l : Launch) (dC : Nat → ClassId) (dI : Nat → Nat → Nat) (cI cJ cB : ClassId) (h_this h_this_now h_this_kept h_this_told h_this_text h_this_script h_this_momentReader h_this_spanReader h_this_adder h_this_other h_this_trial h_this_ways h_this_now_day h_this_now_second h_this_now_months h_this_now_days h_this_now_seconds h_this_told_numbers h_this_trial_one h_this_trial_two h_this_trial_three h_this_trial_four : Nat) (N : Nat) (p1 : Int32) (p2 : Int32) (p3 : Int32) (p4 : Int32) (p5 : Int32) (i_this : Int32) (f_this_now_months : Nat → Int32) (f_this_now_days : Nat → Int32) (f_this_now_seconds : Nat → Int32) (i_this_told : Int32) (f_this_told_numbers : Nat → Int64) (i_this_trial : Int32) (j_this_trial : Nat → Int64) (i_this_trial_one : Nat → Int32) (i_this_trial_two : Nat → Int32) (i_this_trial_three : Nat → Int32) (i_this_trial_four : Nat → Int32) (r : Int32) (o_i_this_told : Int32) (o_f_this_told_numbers : Nat → Int64) (o_i_this_trial : Int32) (o_j_this_trial : Nat → Int64) (o_i_this_trial_one : Nat → Int32) (o_i_this_trial_two : Nat → Int32) (o_i_this_trial_three : Nat → Int32) (o_i_this_trial_four : Nat → Int32) (hf : fX9_fails N p1 p2 p3 p4 p5 i_this f_this_now_months f_this_now_days f_this_now_seconds i_this_told f_this_told_numbers i_this_trial j_this_trial i_this_trial_one i_this_trial_two i_this_trial_three i_this_trial_four = some (r, o_i_this_told, o_f_this_told_numbers, o_i_this_trial, o_j_this_trial, o_i_this_trial_one, o_i_this_trial_two, o_i_this_trial_three, o_i_this_trial_four)) : MI l yX9_fails (kws yX9_fails cX9_fails 8 (some .int)) (kR 6 138) (dC, dI) (kT cI cJ cB) [.ref h_this, .int p1, .int p2, .int p3, .int p4, .int p5] [cl_X9 h_this h_this_now h_this_kept h_this_told h_this_text h_this_script h_this_momentReader h_this_spanReader h_this_adder h_this_other h_this_trial h_this_ways i_this, cl_X4 h_this_now h_this_now_day h_this_now_second h_this_now_months h_this_now_days h_this_now_seconds, (h_this_now_months, .inl (cI, 8, .inl f_this_now_months)), (h_this_now_days, .inl (cI, 8, .inl f_this_now_days)), (h_this_now_seconds, .inl (cI, 8, .inl f_this_now_seconds)), cl_X3 h_this_told h_this_told_numbers i_this_told, (h_this_told_numbers, .inl (cJ, 8, .inr (.inl f_this_told_numbers))), cl_X7 h_this_trial h_this_trial_one h_this_trial_two h_this_trial_three h_this_trial_four i_this_trial j_this_trial, cl_X0 h_this_trial_one i_this_trial_one, cl_X0 h_this_trial_two i_this_trial_two, cl_X0 h_this_trial_three i_this_trial_three, cl_X0 h_this_trial_four i_this_trial_four] [cl_X9 h_this h_this_now h_this_kept h_this_told h_this_text h_this_script h_this_momentReader h_this_spanReader h_this_adder h_this_other h_this_trial h_this_ways i_this, cl_X4 h_this_now h_this_now_day h_this_now_second h_this_now_months h_this_now_days h_this_now_seconds, (h_this_now_months, .inl (cI, 8, .inl f_this_now_months)), (h_this_now_days, .inl (cI, 8, .inl f_this_now_days)), (h_this_now_seconds, .inl (cI, 8, .inl f_this_now_seconds)), cl_X3 h_this_told h_this_told_numbers o_i_this_told, (h_this_told_numbers, .inl (cJ, 8, .inr (.inl o_f_this_told_numbers))), cl_X7 h_this_trial h_this_trial_one h_this_trial_two h_this_trial_three h_this_trial_four o_i_this_trial o_j_this_trial, cl_X0 h_this_trial_one o_i_this_trial_one, cl_X0 h_this_trial_two o_i_this_trial_two, cl_X0 h_this_trial_three o_i_this_trial_three, cl_X0 h_this_trial_four o_i_this_trial_four] r := by
  refine MI.of (cc := cX9_fails) (maxL := 8) (by decide) (Nat.le_of_ble_eq_true rfl) (fun p e s m args below meth c A Q ls KC hN hK hP hD hA hl hEnd => ?_)
  obtain ⟨hx, hb, hml, hown, hts⟩ := KC
  have hown : s.vm.findClass "DateSpans" = some m.cls := hown
  have hl : lv_has ls 8 [(0, .ref h_this), (1, .int p1), (2, .int p2), (3, .int p3), (4, .int p4), (5, .int p5)] := hl
  have hS : va_S A s.heap s.heap [] := va_S.rf
  have LP_63 : ∀ n_63 : Nat, ∀ (v6 : Int32) (v7 : Int32) (i_this_told : Int32) (f_this_told_numbers : Nat → Int64) (i_this_trial : Int32) (j_this_trial : Nat → Int64) (i_this_trial_one : Nat → Int32) (i_this_trial_two : Nat → Int32) (i_this_trial_three : Nat → Int32) (i_this_trial_four : Nat → Int32) (ls : Array Slot) (H : Heap) (locs : List Loc), fX9_fails_l63 N i_this f_this_now_months f_this_now_days f_this_now_seconds n_63 v6 v7 i_this_told f_this_told_numbers i_this_trial j_this_trial i_this_trial_one i_this_trial_two i_this_trial_three i_this_trial_four = some (r, o_i_this_told, o_f_this_told_numbers, o_i_this_trial, o_j_this_trial, o_i_this_trial_one, o_i_this_trial_two, o_i_this_trial_three, o_i_this_trial_four) → lv_has ls 8 [(0, .ref h_this), (6, .int v6), (7, .int v7)] → va_P (dC, dI) vwCl [cl_X9 h_this h_this_now h_this_kept h_this_told h_this_text h_this_script h_this_momentReader h_this_spanReader h_this_adder h_this_other h_this_trial h_this_ways i_this, cl_X4 h_this_now h_this_now_day h_this_now_second h_this_now_months h_this_now_days h_this_now_seconds, (h_this_now_months, .inl (cI, 8, .inl f_this_now_months)), (h_this_now_days, .inl (cI, 8, .inl f_this_now_days)), (h_this_now_seconds, .inl (cI, 8, .inl f_this_now_seconds)), cl_X3 h_this_told h_this_told_numbers i_this_told, (h_this_told_numbers, .inl (cJ, 8, .inr (.inl f_this_told_numbers))), cl_X7 h_this_trial h_this_trial_one h_this_trial_two h_this_trial_three h_this_trial_four i_this_trial j_this_trial, cl_X0 h_this_trial_one i_this_trial_one, cl_X0 h_this_trial_two i_this_trial_two, cl_X0 h_this_trial_three i_this_trial_three, cl_X0 h_this_trial_four i_this_trial_four] H → va_D A [cl_X9 h_this h_this_now h_this_kept h_this_told h_this_text h_this_script h_this_momentReader h_this_spanReader h_this_adder h_this_other h_this_trial h_this_ways i_this, cl_X4 h_this_now h_this_now_day h_this_now_second h_this_now_months h_this_now_days h_this_now_seconds, (h_this_now_months, .inl (cI, 8, .inl f_this_now_months)), (h_this_now_days, .inl (cI, 8, .inl f_this_now_days)), (h_this_now_seconds, .inl (cI, 8, .inl f_this_now_seconds)), cl_X3 h_this_told h_this_told_numbers i_this_told, (h_this_told_numbers, .inl (cJ, 8, .inr (.inl f_this_told_numbers))), cl_X7 h_this_trial h_this_trial_one h_this_trial_two h_this_trial_three h_this_trial_four i_this_trial j_this_trial, cl_X0 h_this_trial_one i_this_trial_one, cl_X0 h_this_trial_two i_this_trial_two, cl_X0 h_this_trial_three i_this_trial_three, cl_X0 h_this_trial_four i_this_trial_four] → va_S A s.heap H locs → W p l e (kR 6 138) s m args below meth c H locs 0 0 Q (F0 m 63 ls []) := by
    intro n_63
    induction n_63 with
    | zero =>
      intro v6 v7 i_this_told f_this_told_numbers i_this_trial j_this_trial i_this_trial_one i_this_trial_two i_this_trial_three i_this_trial_four ls H locs h hl hP hD hS
      rw [fX9_fails_l63_0] at h; cases h
    | succ n_63 ih_63 =>
      intro v6 v7 i_this_told f_this_told_numbers i_this_trial j_this_trial i_this_trial_one i_this_trial_two i_this_trial_three i_this_trial_four ls H locs h hl hP hD hS
      rw [fX9_fails_l63_s] at h
      refine lv_iload hx hb dX9_fails_63 (lv_at hl 2 rfl) ?_
      refine lv_iload hx hb dX9_fails_65 (lv_at hl 1 rfl) ?_
      refine lv_icmp_gt (tgt := 130) hx hb dX9_fails_67 (by decide) (fun c1 => ?_) (fun c1 => ?_)
      · have h := ite_t c1 h
        refine lv_bipush (v := (-2 : Int32)) hx hb dX9_fails_130 (by decide) ?_
        obtain ⟨rfl, rfl, rfl, rfl, rfl, rfl, rfl, rfl, rfl⟩ := pj9 h
        exact hEnd _ _ _ _ hP hS dX9_fails_132 rfl
      have h := ite_f c1 h
      refine lv_aload_n hx hb dX9_fails_70 rfl (lv_at hl 0 rfl) ?_
      refine va_get (D := (dC, dI)) (ci := 8) (v := .ref h_this_trial) (C := RX9) (T := TX9) (N := 12) hx hb hts inX9 hown hK hP 0 rfl rfl 10 (by decide) (hts _ (kq q_302 rfl)) (fun _ h9 => h9) rfl dX9_fails_71 ?_
      refine lv_iload hx hb dX9_fails_74 (lv_at hl 2 rfl) ?_
      obtain ⟨r2, j_this_trial_3, i_this_trial_one_4, i_this_trial_two_5, i_this_trial_three_6, i_this_trial_four_7, hc8, h⟩ := bd6_at h
      refine kjI (kV (own := "DateSpans") (C := "DateSpans$Trial") (b := h_this_trial) (As := [.int v7]) (rest := []) ⟨hx, hb, hml, hown, hts⟩ (kX7_meets l dC dI cI cJ cB h_this_trial h_this_trial_one h_this_trial_two h_this_trial_three h_this_trial_four N v7 i_this_trial j_this_trial i_this_trial_one i_this_trial_two i_this_trial_three i_this_trial_four r2 j_this_trial_3 i_this_trial_one_4 i_this_trial_two_5 i_this_trial_three_6 i_this_trial_four_7 hc8 _) (kgV (kq q_703 rfl) (kq q_704 rfl) (kq q_705 rfl) (kq q_64 rfl) (kq q_706 rfl)) yd_X7_meets ⟨Nat.le_of_ble_eq_true rfl, Nat.le_of_ble_eq_true rfl⟩ hN hK hP hD [7, 8, 9, 10, 11] rfl rfl (ci := 6) rfl rfl rfl rfl rfl hl.1 rfl (lv_room (Nat.le_of_ble_eq_true rfl)) dX9_fails_76) hP hD hS hA [7, 8, 9, 10, 11] rfl rfl (fun H locs hP hD hS => ?_)
      have hP : va_P (dC, dI) vwCl [cl_X9 h_this h_this_now h_this_kept h_this_told h_this_text h_this_script h_this_momentReader h_this_spanReader h_this_adder h_this_other h_this_trial h_this_ways i_this, cl_X4 h_this_now h_this_now_day h_this_now_second h_this_now_months h_this_now_days h_this_now_seconds, (h_this_now_months, .inl (cI, 8, .inl f_this_now_months)), (h_this_now_days, .inl (cI, 8, .inl f_this_now_days)), (h_this_now_seconds, .inl (cI, 8, .inl f_this_now_seconds)), cl_X3 h_this_told h_this_told_numbers i_this_told, (h_this_told_numbers, .inl (cJ, 8, .inr (.inl f_this_told_numbers))), cl_X7 h_this_trial h_this_trial_one h_this_trial_two h_this_trial_three h_this_trial_four i_this_trial j_this_trial_3, cl_X0 h_this_trial_one i_this_trial_one_4, cl_X0 h_this_trial_two i_this_trial_two_5, cl_X0 h_this_trial_three i_this_trial_three_6, cl_X0 h_this_trial_four i_this_trial_four_7] H := hP
      have hD : va_D A [cl_X9 h_this h_this_now h_this_kept h_this_told h_this_text h_this_script h_this_momentReader h_this_spanReader h_this_adder h_this_other h_this_trial h_this_ways i_this, cl_X4 h_this_now h_this_now_day h_this_now_second h_this_now_months h_this_now_days h_this_now_seconds, (h_this_now_months, .inl (cI, 8, .inl f_this_now_months)), (h_this_now_days, .inl (cI, 8, .inl f_this_now_days)), (h_this_now_seconds, .inl (cI, 8, .inl f_this_now_seconds)), cl_X3 h_this_told h_this_told_numbers i_this_told, (h_this_told_numbers, .inl (cJ, 8, .inr (.inl f_this_told_numbers))), cl_X7 h_this_trial h_this_trial_one h_this_trial_two h_this_trial_three h_this_trial_four i_this_trial j_this_trial_3, cl_X0 h_this_trial_one i_this_trial_one_4, cl_X0 h_this_trial_two i_this_trial_two_5, cl_X0 h_this_trial_three i_this_trial_three_6, cl_X0 h_this_trial_four i_this_trial_four_7] := hD
      refine lv_if_eq (tgt := 124) hx hb dX9_fails_79 (by decide) (fun c9 => ?_) (fun c9 => ?_)
      · have h := ite_t c9 h
        obtain ⟨z10, ez10⟩ : ∃ y : Int32, y = (v7 + (1 : Int32)) := ⟨_, rfl⟩
        have h := nm_at ez10 h
        refine lv_iinc (v := z10) (lv' := [(7, .int z10), (0, .ref h_this), (6, .int v6)]) hx hb dX9_fails_124 hl (k := 2) rfl (by rw [ez10]; rfl) (by decide) rfl (fun ls hl => ?_)
        refine lv_goto (tgt := 63) hx hb dX9_fails_127 (by decide) ?_
        exact ih_63 _ _ _ _ _ _ _ _ _ _ _ _ _ h (lv_sub hl [1, 2, 0] rfl) hP hD hS
      have h := ite_f c9 h
      refine lv_aload_n hx hb dX9_fails_82 rfl (lv_at hl 0 rfl) ?_
      refine va_get (D := (dC, dI)) (ci := 8) (v := .ref h_this_trial) (C := RX9) (T := TX9) (N := 12) hx hb hts inX9 hown hK hP 0 rfl rfl 10 (by decide) (hts _ (kq q_302 rfl)) (fun _ h9 => h9) rfl dX9_fails_83 ?_
      refine va_getN (D := (dC, dI)) (ci := 6) (v := .long (j_this_trial_3 5)) (C := RX7) (T := TX7) (N := 7) hx hb hts inX7 hown hK hP 7 rfl rfl 5 (by decide) (kN.use hN q_241 rfl) (fun _ h9 => h9) rfl dX9_fails_86 ?_
      refine lv_aload_n hx hb dX9_fails_89 rfl (lv_at hl 0 rfl) ?_
      refine va_get (D := (dC, dI)) (ci := 8) (v := .ref h_this_trial) (C := RX9) (T := TX9) (N := 12) hx hb hts inX9 hown hK hP 0 rfl rfl 10 (by decide) (hts _ (kq q_302 rfl)) (fun _ h9 => h9) rfl dX9_fails_90 ?_
      refine va_getN (D := (dC, dI)) (ci := 6) (v := .long (j_this_trial_3 6)) (C := RX7) (T := TX7) (N := 7) hx hb hts inX7 hown hK hP 7 rfl rfl 6 (by decide) (kN.use hN q_243 rfl) (fun _ h9 => h9) rfl dX9_fails_93 ?_
      refine W.lcmp hx hb dX9_fails_96 ?_
      refine lv_if_eq (tgt := 124) hx hb dX9_fails_97 (by decide) (fun c11 => ?_) (fun c11 => ?_)
      · have h := ite_t c11 h
        obtain ⟨z12, ez12⟩ : ∃ y : Int32, y = (v7 + (1 : Int32)) := ⟨_, rfl⟩
        have h := nm_at ez12 h
        refine lv_iinc (v := z12) (lv' := [(7, .int z12), (0, .ref h_this), (6, .int v6)]) hx hb dX9_fails_124 hl (k := 2) rfl (by rw [ez12]; rfl) (by decide) rfl (fun ls hl => ?_)
        refine lv_goto (tgt := 63) hx hb dX9_fails_127 (by decide) ?_
        exact ih_63 _ _ _ _ _ _ _ _ _ _ _ _ _ h (lv_sub hl [1, 2, 0] rfl) hP hD hS
      have h := ite_f c11 h
      refine lv_aload_n hx hb dX9_fails_100 rfl (lv_at hl 0 rfl) ?_
      refine va_get (D := (dC, dI)) (ci := 8) (v := .ref h_this_told) (C := RX9) (T := TX9) (N := 12) hx hb hts inX9 hown hK hP 0 rfl rfl 3 (by decide) (hts _ (kq q_295 rfl)) (fun _ h9 => h9) rfl dX9_fails_101 ?_
      refine lv_aload_n hx hb dX9_fails_104 rfl (lv_at hl 0 rfl) ?_
      refine va_get (D := (dC, dI)) (ci := 8) (v := .ref h_this_trial) (C := RX9) (T := TX9) (N := 12) hx hb hts inX9 hown hK hP 0 rfl rfl 10 (by decide) (hts _ (kq q_302 rfl)) (fun _ h9 => h9) rfl dX9_fails_105 ?_
      refine va_getN (D := (dC, dI)) (ci := 6) (v := .long (j_this_trial_3 5)) (C := RX7) (T := TX7) (N := 7) hx hb hts inX7 hown hK hP 7 rfl rfl 5 (by decide) (kN.use hN q_241 rfl) (fun _ h9 => h9) rfl dX9_fails_108 ?_
      refine lv_aload_n hx hb dX9_fails_111 rfl (lv_at hl 0 rfl) ?_
      refine va_get (D := (dC, dI)) (ci := 8) (v := .ref h_this_trial) (C := RX9) (T := TX9) (N := 12) hx hb hts inX9 hown hK hP 0 rfl rfl 10 (by decide) (hts _ (kq q_302 rfl)) (fun _ h9 => h9) rfl dX9_fails_112 ?_
      refine va_getN (D := (dC, dI)) (ci := 6) (v := .long (j_this_trial_3 6)) (C := RX7) (T := TX7) (N := 7) hx hb hts inX7 hown hK hP 7 rfl rfl 6 (by decide) (kN.use hN q_243 rfl) (fun _ h9 => h9) rfl dX9_fails_115 ?_
      obtain ⟨i_this_told_13, f_this_told_numbers_14, hc15, h⟩ := bd2_at h
      refine kjV (kV (own := "DateSpans") (C := "DateSpans$Row") (b := h_this_told) (As := [.long (j_this_trial_3 5), .long (j_this_trial_3 6)]) (rest := []) ⟨hx, hb, hml, hown, hts⟩ (kX3_tell_ l dC dI cI cJ cB h_this_told h_this_told_numbers N (j_this_trial_3 5) (j_this_trial_3 6) i_this_told f_this_told_numbers i_this_told_13 f_this_told_numbers_14 hc15 _) (kgV (kq q_591 rfl) (kq q_446 rfl) (kq q_447 rfl) (kq q_59 rfl) (kq q_448 rfl)) yd_X3_tell_ ⟨Nat.le_of_ble_eq_true rfl, Nat.le_of_ble_eq_true rfl⟩ hN hK hP hD [5, 6] rfl rfl (ci := 2) rfl rfl rfl rfl rfl hl.1 rfl (lv_room (Nat.le_of_ble_eq_true rfl)) dX9_fails_118) hP hD hS hA [5, 6] rfl rfl (fun H locs hP hD hS => ?_)
      have hP : va_P (dC, dI) vwCl [cl_X9 h_this h_this_now h_this_kept h_this_told h_this_text h_this_script h_this_momentReader h_this_spanReader h_this_adder h_this_other h_this_trial h_this_ways i_this, cl_X4 h_this_now h_this_now_day h_this_now_second h_this_now_months h_this_now_days h_this_now_seconds, (h_this_now_months, .inl (cI, 8, .inl f_this_now_months)), (h_this_now_days, .inl (cI, 8, .inl f_this_now_days)), (h_this_now_seconds, .inl (cI, 8, .inl f_this_now_seconds)), cl_X3 h_this_told h_this_told_numbers i_this_told_13, (h_this_told_numbers, .inl (cJ, 8, .inr (.inl f_this_told_numbers_14))), cl_X7 h_this_trial h_this_trial_one h_this_trial_two h_this_trial_three h_this_trial_four i_this_trial j_this_trial_3, cl_X0 h_this_trial_one i_this_trial_one_4, cl_X0 h_this_trial_two i_this_trial_two_5, cl_X0 h_this_trial_three i_this_trial_three_6, cl_X0 h_this_trial_four i_this_trial_four_7] H := hP
      have hD : va_D A [cl_X9 h_this h_this_now h_this_kept h_this_told h_this_text h_this_script h_this_momentReader h_this_spanReader h_this_adder h_this_other h_this_trial h_this_ways i_this, cl_X4 h_this_now h_this_now_day h_this_now_second h_this_now_months h_this_now_days h_this_now_seconds, (h_this_now_months, .inl (cI, 8, .inl f_this_now_months)), (h_this_now_days, .inl (cI, 8, .inl f_this_now_days)), (h_this_now_seconds, .inl (cI, 8, .inl f_this_now_seconds)), cl_X3 h_this_told h_this_told_numbers i_this_told_13, (h_this_told_numbers, .inl (cJ, 8, .inr (.inl f_this_told_numbers_14))), cl_X7 h_this_trial h_this_trial_one h_this_trial_two h_this_trial_three h_this_trial_four i_this_trial j_this_trial_3, cl_X0 h_this_trial_one i_this_trial_one_4, cl_X0 h_this_trial_two i_this_trial_two_5, cl_X0 h_this_trial_three i_this_trial_three_6, cl_X0 h_this_trial_four i_this_trial_four_7] := hD
      refine lv_iload hx hb dX9_fails_121 (lv_at hl 2 rfl) ?_
      obtain ⟨rfl, rfl, rfl, rfl, rfl, rfl, rfl, rfl, rfl⟩ := pj9 h
      exact hEnd _ _ _ _ hP hS dX9_fails_123 rfl
  have h := hf
  unfold fX9_fails at h
  refine lv_iload_n hx hb dX9_fails_0 rfl (lv_at hl 1 rfl) ?_
  refine lv_iload_n hx hb dX9_fails_1 rfl (lv_at hl 2 rfl) ?_
  refine lv_iload_n hx hb dX9_fails_2 rfl (lv_at hl 3 rfl) ?_
  refine lv_iload hx hb dX9_fails_3 (lv_at hl 4 rfl) ?_
  obtain ⟨r16, hc17, h⟩ := bd1_at h
  refine kjSI (kS0 (own := "DateSpans") (As := [.int p1, .int p2, .int p3, .int p4]) (rest := []) ⟨hx, hb, hml, hown, hts⟩ (kX9_isTrial l N p1 p2 p3 p4 r16 hc17) (kgS (kq q_691 rfl) (kq q_692 rfl) (kq q_57 rfl) (kq q_693 rfl)) yd_X9_isTrial ⟨Nat.le_of_ble_eq_true rfl, Nat.le_of_ble_eq_true rfl⟩ rfl rfl hl.1 rfl (lv_room (Nat.le_of_ble_eq_true rfl)) dX9_fails_5) ?_
  refine lv_if_eq (tgt := 19) hx hb dX9_fails_8 (by decide) (fun c18 => ?_) (fun c18 => ?_)
  · have h := ite_t c18 h
    refine lv_iconst (v := (-1 : Int32)) hx hb dX9_fails_19 (by decide) ?_
    obtain ⟨rfl, rfl, rfl, rfl, rfl, rfl, rfl, rfl, rfl⟩ := pj9 h
    exact hEnd _ _ _ _ hP hS dX9_fails_20 rfl
  have h := ite_f c18 h
  refine lv_iload hx hb dX9_fails_11 (lv_at hl 5 rfl) ?_
  obtain ⟨r19, hc20, h⟩ := bd1_at h
  refine kjSI (kS0 (own := "DateSpans") (As := [.int p5]) (rest := []) ⟨hx, hb, hml, hown, hts⟩ (kX9_isDay l N p5 r19 hc20) (kgS (kq q_399 rfl) (kq q_400 rfl) (kq q_57 rfl) (kq q_401 rfl)) yd_X9_isDay ⟨Nat.le_of_ble_eq_true rfl, Nat.le_of_ble_eq_true rfl⟩ rfl rfl hl.1 rfl (lv_room (Nat.le_of_ble_eq_true rfl)) dX9_fails_13) ?_
  refine lv_if_ne (tgt := 21) hx hb dX9_fails_16 (by decide) (fun c21 => ?_) (fun c21 => ?_)
  · have h := ite_f c21 h
    refine lv_aload_n hx hb dX9_fails_21 rfl (lv_at hl 0 rfl) ?_
    refine va_get (D := (dC, dI)) (ci := 8) (v := .ref h_this_trial) (C := RX9) (T := TX9) (N := 12) hx hb hts inX9 hown hK hP 0 rfl rfl 10 (by decide) (hts _ (kq q_302 rfl)) (fun _ h9 => h9) rfl dX9_fails_22 ?_
    refine lv_aload_n hx hb dX9_fails_25 rfl (lv_at hl 0 rfl) ?_
    refine va_get (D := (dC, dI)) (ci := 8) (v := .ref h_this_now) (C := RX9) (T := TX9) (N := 12) hx hb hts inX9 hown hK hP 0 rfl rfl 0 (by decide) (hts _ (kq q_292 rfl)) (fun _ h9 => h9) rfl dX9_fails_26 ?_
    refine lv_iload_n hx hb dX9_fails_29 rfl (lv_at hl 1 rfl) ?_
    refine lv_iload_n hx hb dX9_fails_30 rfl (lv_at hl 2 rfl) ?_
    refine lv_iload_n hx hb dX9_fails_31 rfl (lv_at hl 3 rfl) ?_
    refine lv_iload hx hb dX9_fails_32 (lv_at hl 4 rfl) ?_
    obtain ⟨r22, i_this_trial_23, i_this_trial_one_24, i_this_trial_two_25, i_this_trial_three_26, i_this_trial_four_27, hc28, h⟩ := bd6_at h
    refine kjI (kV (own := "DateSpans") (C := "DateSpans$Trial") (b := h_this_trial) (As := [.ref h_this_now, .int p1, .int p2, .int p3, .int p4]) (rest := []) ⟨hx, hb, hml, hown, hts⟩ (kX7_takes l dC dI cI cJ cB h_this_trial h_this_trial_one h_this_trial_two h_this_trial_three h_this_trial_four h_this_now h_this_now_day h_this_now_second h_this_now_months h_this_now_days h_this_now_seconds N p1 p2 p3 p4 i_this_trial j_this_trial i_this_trial_one i_this_trial_two i_this_trial_three i_this_trial_four f_this_now_months f_this_now_days f_this_now_seconds r22 i_this_trial_23 i_this_trial_one_24 i_this_trial_two_25 i_this_trial_three_26 i_this_trial_four_27 hc28 _) (kgV (kq q_694 rfl) (kq q_695 rfl) (kq q_696 rfl) (kq q_64 rfl) (kq q_697 rfl)) yd_X7_takes ⟨Nat.le_of_ble_eq_true rfl, Nat.le_of_ble_eq_true rfl⟩ hN hK hP hD [7, 8, 9, 10, 11, 1, 2, 3, 4] rfl rfl (ci := 6) rfl rfl rfl rfl rfl hl.1 rfl (lv_room (Nat.le_of_ble_eq_true rfl)) dX9_fails_34) hP hD hS hA [7, 8, 9, 10, 11, 1, 2, 3, 4] rfl rfl (fun H locs hP hD hS => ?_)
    have hP : va_P (dC, dI) vwCl [cl_X9 h_this h_this_now h_this_kept h_this_told h_this_text h_this_script h_this_momentReader h_this_spanReader h_this_adder h_this_other h_this_trial h_this_ways i_this, cl_X4 h_this_now h_this_now_day h_this_now_second h_this_now_months h_this_now_days h_this_now_seconds, (h_this_now_months, .inl (cI, 8, .inl f_this_now_months)), (h_this_now_days, .inl (cI, 8, .inl f_this_now_days)), (h_this_now_seconds, .inl (cI, 8, .inl f_this_now_seconds)), cl_X3 h_this_told h_this_told_numbers i_this_told, (h_this_told_numbers, .inl (cJ, 8, .inr (.inl f_this_told_numbers))), cl_X7 h_this_trial h_this_trial_one h_this_trial_two h_this_trial_three h_this_trial_four i_this_trial_23 j_this_trial, cl_X0 h_this_trial_one i_this_trial_one_24, cl_X0 h_this_trial_two i_this_trial_two_25, cl_X0 h_this_trial_three i_this_trial_three_26, cl_X0 h_this_trial_four i_this_trial_four_27] H := hP
    have hD : va_D A [cl_X9 h_this h_this_now h_this_kept h_this_told h_this_text h_this_script h_this_momentReader h_this_spanReader h_this_adder h_this_other h_this_trial h_this_ways i_this, cl_X4 h_this_now h_this_now_day h_this_now_second h_this_now_months h_this_now_days h_this_now_seconds, (h_this_now_months, .inl (cI, 8, .inl f_this_now_months)), (h_this_now_days, .inl (cI, 8, .inl f_this_now_days)), (h_this_now_seconds, .inl (cI, 8, .inl f_this_now_seconds)), cl_X3 h_this_told h_this_told_numbers i_this_told, (h_this_told_numbers, .inl (cJ, 8, .inr (.inl f_this_told_numbers))), cl_X7 h_this_trial h_this_trial_one h_this_trial_two h_this_trial_three h_this_trial_four i_this_trial_23 j_this_trial, cl_X0 h_this_trial_one i_this_trial_one_24, cl_X0 h_this_trial_two i_this_trial_two_25, cl_X0 h_this_trial_three i_this_trial_three_26, cl_X0 h_this_trial_four i_this_trial_four_27] := hD
    refine lv_if_ne (tgt := 43) hx hb dX9_fails_37 (by decide) (fun c29 => ?_) (fun c29 => ?_)
    · have h := ite_f c29 h
      refine lv_iload hx hb dX9_fails_43 (lv_at hl 5 rfl) ?_
      refine lv_ldcw (v := (146097 : Int32)) hx hb hown (hts _ (kq q_699 rfl)) dX9_fails_45 ?_
      refine lv_iadd hx hb dX9_fails_48 ?_
      refine lv_iconst (v := (1 : Int32)) hx hb dX9_fails_49 (by decide) ?_
      refine lv_isub hx hb dX9_fails_50 ?_
      refine lv_ldcw (v := (3652058 : Int32)) hx hb hown (hts _ (kq q_402 rfl)) dX9_fails_51 ?_
      refine va_mmin (rest := []) hx hb (hml.trans hl.1.symm) hown (hts _ (kq q_700 rfl)) (hts _ (kq q_701 rfl)) (hts _ (kq q_72 rfl)) (hts _ (kq q_702 rfl)) (Nat.le_of_ble_eq_true rfl) (Nat.le_of_ble_eq_true rfl) (Nat.zero_le _) (Nat.zero_le _) dX9_fails_54 ?_
      refine lv_topi (fun z30 ez30 => ?_)
      have h := nm_at ez30 h
      refine lv_istore (lv' := [(6, .int z30), (0, .ref h_this), (1, .int p1), (2, .int p2), (3, .int p3), (4, .int p4), (5, .int p5)]) hx hb dX9_fails_57 hl (by decide) rfl (fun ls hl => ?_)
      refine lv_iload hx hb dX9_fails_59 (lv_at hl 6 rfl) ?_
      refine lv_istore (lv' := [(7, .int p5), (6, .int z30), (0, .ref h_this), (1, .int p1), (2, .int p2), (3, .int p3), (4, .int p4), (5, .int p5)]) hx hb dX9_fails_61 hl (by decide) rfl (fun ls hl => ?_)
      exact LP_63 N _ _ _ _ _ _ _ _ _ _ _ _ _ h (lv_sub hl [2, 1, 0] rfl) hP hD hS
    have h := ite_t c29 h
    refine lv_bipush (v := (-9 : Int32)) hx hb dX9_fails_40 (by decide) ?_
    obtain ⟨rfl, rfl, rfl, rfl, rfl, rfl, rfl, rfl, rfl⟩ := pj9 h
    exact hEnd _ _ _ _ hP hS dX9_fails_42 rfl
  have h := ite_t c21 h
  refine lv_iconst (v := (-1 : Int32)) hx hb dX9_fails_19 (by decide) ?_
  obtain ⟨rfl, rfl, rfl, rfl, rfl, rfl, rfl, rfl, rfl⟩ := pj9 h
  exact hEnd _ _ _ _ hP hS dX9_fails_20 rfl
noncomputable def fX9_often_l48 (N : Nat) (i_this : Int32) (f_this_now_months : Nat → Int32) (f_this_now_days : Nat → Int32) (f_this_now_seconds : Nat → Int32) (n : Nat) : Int32 → Int64 → Int32 → Int32 → Int32 → (Nat → Int64) → Int32 → (Nat → Int64) → (Nat → Int32) → (Nat → Int32) → (Nat → Int32) → (Nat → Int32) → Option (Int32 × Int32 × (Nat → Int64) × Int32 × (Nat → Int64) × (Nat → Int32) × (Nat → Int32) × (Nat → Int32) × (Nat → Int32)) := Nat.rec (motive := fun _ => Int32 → Int64 → Int32 → Int32 → Int32 → (Nat → Int64) → Int32 → (Nat → Int64) → (Nat → Int32) → (Nat → Int32) → (Nat → Int32) → (Nat → Int32) → Option (Int32 × Int32 × (Nat → Int64) × Int32 × (Nat → Int64) × (Nat → Int32) × (Nat → Int32) × (Nat → Int32) × (Nat → Int32))) (fun _ _ _ _ _ _ _ _ _ _ _ _ => none) (fun _ K_48 v5 v6 v8 v9 i_this_told f_this_told_numbers i_this_trial j_this_trial i_this_trial_one i_this_trial_two i_this_trial_three i_this_trial_four => (if (876215 : Int32) < v9 then (bd2 (fX3_tell_ N v6 v8.toInt64 i_this_told f_this_told_numbers) fun i_this_told_2 f_this_told_numbers_3 => (some (v5, i_this_told_2, f_this_told_numbers_3, i_this_trial, j_this_trial, i_this_trial_one, i_this_trial_two, i_this_trial_three, i_this_trial_four))) else (bd6 (fX7_meets N v9 i_this_trial j_this_trial i_this_trial_one i_this_trial_two i_this_trial_three i_this_trial_four) fun r5 j_this_trial_6 i_this_trial_one_7 i_this_trial_two_8 i_this_trial_three_9 i_this_trial_four_10 => (if r5 = (0 : Int32) then (nm (v9 + (1 : Int32)) fun z13 => (K_48 v5 v6 v8 z13 i_this_told f_this_told_numbers i_this_trial j_this_trial_6 i_this_trial_one_7 i_this_trial_two_8 i_this_trial_three_9 i_this_trial_four_10)) else (if (lg_cmp (j_this_trial_6 5) (j_this_trial_6 6)) = (0 : Int32) then (nm (v9 + (1 : Int32)) fun z15 => (K_48 v5 v6 v8 z15 i_this_told f_this_told_numbers i_this_trial j_this_trial_6 i_this_trial_one_7 i_this_trial_two_8 i_this_trial_three_9 i_this_trial_four_10)) else (nm (v5 + (1 : Int32)) fun z16 => (nm (if 0 < ((j_this_trial_6 5) - (j_this_trial_6 6)) then ((j_this_trial_6 5) - (j_this_trial_6 6)) else -((j_this_trial_6 5) - (j_this_trial_6 6))) fun z17 => (if (lg_cmp z17 v6) ≤ (0 : Int32) then (nm (v9 + (1 : Int32)) fun z19 => (K_48 z16 v6 v8 z19 i_this_told f_this_told_numbers i_this_trial j_this_trial_6 i_this_trial_one_7 i_this_trial_two_8 i_this_trial_three_9 i_this_trial_four_10)) else (nm (v9 + (1 : Int32)) fun z20 => (K_48 z16 z17 v9 z20 i_this_told f_this_told_numbers i_this_trial j_this_trial_6 i_this_trial_one_7 i_this_trial_two_8 i_this_trial_three_9 i_this_trial_four_10)))))))))) n
theorem fX9_often_l48_s (N : Nat) (i_this : Int32) (f_this_now_months : Nat → Int32) (f_this_now_days : Nat → Int32) (f_this_now_seconds : Nat → Int32) (n : Nat) (v5 : Int32) (v6 : Int64) (v8 : Int32) (v9 : Int32) (i_this_told : Int32) (f_this_told_numbers : Nat → Int64) (i_this_trial : Int32) (j_this_trial : Nat → Int64) (i_this_trial_one : Nat → Int32) (i_this_trial_two : Nat → Int32) (i_this_trial_three : Nat → Int32) (i_this_trial_four : Nat → Int32) : fX9_often_l48 N i_this f_this_now_months f_this_now_days f_this_now_seconds (n + 1) v5 v6 v8 v9 i_this_told f_this_told_numbers i_this_trial j_this_trial i_this_trial_one i_this_trial_two i_this_trial_three i_this_trial_four = (if (876215 : Int32) < v9 then (bd2 (fX3_tell_ N v6 v8.toInt64 i_this_told f_this_told_numbers) fun i_this_told_2 f_this_told_numbers_3 => (some (v5, i_this_told_2, f_this_told_numbers_3, i_this_trial, j_this_trial, i_this_trial_one, i_this_trial_two, i_this_trial_three, i_this_trial_four))) else (bd6 (fX7_meets N v9 i_this_trial j_this_trial i_this_trial_one i_this_trial_two i_this_trial_three i_this_trial_four) fun r5 j_this_trial_6 i_this_trial_one_7 i_this_trial_two_8 i_this_trial_three_9 i_this_trial_four_10 => (if r5 = (0 : Int32) then (nm (v9 + (1 : Int32)) fun z13 => ((fX9_often_l48 N i_this f_this_now_months f_this_now_days f_this_now_seconds n) v5 v6 v8 z13 i_this_told f_this_told_numbers i_this_trial j_this_trial_6 i_this_trial_one_7 i_this_trial_two_8 i_this_trial_three_9 i_this_trial_four_10)) else (if (lg_cmp (j_this_trial_6 5) (j_this_trial_6 6)) = (0 : Int32) then (nm (v9 + (1 : Int32)) fun z15 => ((fX9_often_l48 N i_this f_this_now_months f_this_now_days f_this_now_seconds n) v5 v6 v8 z15 i_this_told f_this_told_numbers i_this_trial j_this_trial_6 i_this_trial_one_7 i_this_trial_two_8 i_this_trial_three_9 i_this_trial_four_10)) else (nm (v5 + (1 : Int32)) fun z16 => (nm (if 0 < ((j_this_trial_6 5) - (j_this_trial_6 6)) then ((j_this_trial_6 5) - (j_this_trial_6 6)) else -((j_this_trial_6 5) - (j_this_trial_6 6))) fun z17 => (if (lg_cmp z17 v6) ≤ (0 : Int32) then (nm (v9 + (1 : Int32)) fun z19 => ((fX9_often_l48 N i_this f_this_now_months f_this_now_days f_this_now_seconds n) z16 v6 v8 z19 i_this_told f_this_told_numbers i_this_trial j_this_trial_6 i_this_trial_one_7 i_this_trial_two_8 i_this_trial_three_9 i_this_trial_four_10)) else (nm (v9 + (1 : Int32)) fun z20 => ((fX9_often_l48 N i_this f_this_now_months f_this_now_days f_this_now_seconds n) z16 z17 v9 z20 i_this_told f_this_told_numbers i_this_trial j_this_trial_6 i_this_trial_one_7 i_this_trial_two_8 i_this_trial_three_9 i_this_trial_four_10))))))))) := rfl
theorem fX9_often_l48_0 (N : Nat) (i_this : Int32) (f_this_now_months : Nat → Int32) (f_this_now_days : Nat → Int32) (f_this_now_seconds : Nat → Int32) (v5 : Int32) (v6 : Int64) (v8 : Int32) (v9 : Int32) (i_this_told : Int32) (f_this_told_numbers : Nat → Int64) (i_this_trial : Int32) (j_this_trial : Nat → Int64) (i_this_trial_one : Nat → Int32) (i_this_trial_two : Nat → Int32) (i_this_trial_three : Nat → Int32) (i_this_trial_four : Nat → Int32) : fX9_often_l48 N i_this f_this_now_months f_this_now_days f_this_now_seconds 0 v5 v6 v8 v9 i_this_told f_this_told_numbers i_this_trial j_this_trial i_this_trial_one i_this_trial_two i_this_trial_three i_this_trial_four = none := rfl
noncomputable def fX9_often (N : Nat) (p1 : Int32) (p2 : Int32) (p3 : Int32) (p4 : Int32) (i_this : Int32) (f_this_now_months : Nat → Int32) (f_this_now_days : Nat → Int32) (f_this_now_seconds : Nat → Int32) (i_this_told : Int32) (f_this_told_numbers : Nat → Int64) (i_this_trial : Int32) (j_this_trial : Nat → Int64) (i_this_trial_one : Nat → Int32) (i_this_trial_two : Nat → Int32) (i_this_trial_three : Nat → Int32) (i_this_trial_four : Nat → Int32) : Option (Int32 × Int32 × (Nat → Int64) × Int32 × (Nat → Int64) × (Nat → Int32) × (Nat → Int32) × (Nat → Int32) × (Nat → Int32)) := (bd1 (fX9_isTrial N p1 p2 p3 p4) fun r21 => (if r21 = (0 : Int32) then (some ((-1 : Int32), i_this_told, f_this_told_numbers, i_this_trial, j_this_trial, i_this_trial_one, i_this_trial_two, i_this_trial_three, i_this_trial_four)) else (bd6 (fX7_takes N p1 p2 p3 p4 i_this_trial j_this_trial i_this_trial_one i_this_trial_two i_this_trial_three i_this_trial_four f_this_now_months f_this_now_days f_this_now_seconds) fun r24 i_this_trial_25 i_this_trial_one_26 i_this_trial_two_27 i_this_trial_three_28 i_this_trial_four_29 => (if r24 = (0 : Int32) then (some ((-9 : Int32), i_this_told, f_this_told_numbers, i_this_trial_25, j_this_trial, i_this_trial_one_26, i_this_trial_two_27, i_this_trial_three_28, i_this_trial_four_29)) else (fX9_often_l48 N i_this f_this_now_months f_this_now_days f_this_now_seconds N (0 : Int32) (0 : Int64) (-1 : Int32) (730119 : Int32) i_this_told f_this_told_numbers i_this_trial_25 j_this_trial i_this_trial_one_26 i_this_trial_two_27 i_this_trial_three_28 i_this_trial_four_29)))))
set_option maxHeartbeats 4000000 in
set_option maxRecDepth 100000 in
theorem kX9_often (l : Launch) (dC : Nat → ClassId) (dI : Nat → Nat → Nat) (cI cJ cB : ClassId) (h_this h_this_now h_this_kept h_this_told h_this_text h_this_script h_this_momentReader h_this_spanReader h_this_adder h_this_other h_this_trial h_this_ways h_this_now_day h_this_now_second h_this_now_months h_this_now_days h_this_now_seconds h_this_told_numbers h_this_trial_one h_this_trial_two h_this_trial_three h_this_trial_four : Nat) (N : Nat) (p1 : Int32) (p2 : Int32) (p3 : Int32) (p4 : Int32) (i_this : Int32) (f_this_now_months : Nat → Int32) (f_this_now_days : Nat → Int32) (f_this_now_seconds : Nat → Int32) (i_this_told : Int32) (f_this_told_numbers : Nat → Int64) (i_this_trial : Int32) (j_this_trial : Nat → Int64) (i_this_trial_one : Nat → Int32) (i_this_trial_two : Nat → Int32) (i_this_trial_three : Nat → Int32) (i_this_trial_four : Nat → Int32) (r : Int32) (o_i_this_told : Int32) (o_f_this_told_numbers : Nat → Int64) (o_i_this_trial : Int32) (o_j_this_trial : Nat → Int64) (o_i_this_trial_one : Nat → Int32) (o_i_this_trial_two : Nat → Int32) (o_i_this_trial_three : Nat → Int32) (o_i_this_trial_four : Nat → Int32) (hf : fX9_often N p1 p2 p3 p4 i_this f_this_now_months f_this_now_days f_this_now_seconds i_this_told f_this_told_numbers i_this_trial j_this_trial i_this_trial_one i_this_trial_two i_this_trial_three i_this_trial_four = some (r, o_i_this_told, o_f_this_told_numbers, o_i_this_trial, o_j_this_trial, o_i_this_trial_one, o_i_this_trial_two, o_i_this_trial_three, o_i_this_trial_four)) : MI l yX9_often (kws yX9_often cX9_often 12 (some .int)) (kR 6 138) (dC, dI) (kT cI cJ cB) [.ref h_this, .int p1, .int p2, .int p3, .int p4] [cl_X9 h_this h_this_now h_this_kept h_this_told h_this_text h_this_script h_this_momentReader h_this_spanReader h_this_adder h_this_other h_this_trial h_this_ways i_this, cl_X4 h_this_now h_this_now_day h_this_now_second h_this_now_months h_this_now_days h_this_now_seconds, (h_this_now_months, .inl (cI, 8, .inl f_this_now_months)), (h_this_now_days, .inl (cI, 8, .inl f_this_now_days)), (h_this_now_seconds, .inl (cI, 8, .inl f_this_now_seconds)), cl_X3 h_this_told h_this_told_numbers i_this_told, (h_this_told_numbers, .inl (cJ, 8, .inr (.inl f_this_told_numbers))), cl_X7 h_this_trial h_this_trial_one h_this_trial_two h_this_trial_three h_this_trial_four i_this_trial j_this_trial, cl_X0 h_this_trial_one i_this_trial_one, cl_X0 h_this_trial_two i_this_trial_two, cl_X0 h_this_trial_three i_this_trial_three, cl_X0 h_this_trial_four i_this_trial_four] [cl_X9 h_this h_this_now h_this_kept h_this_told h_this_text h_this_script h_this_momentReader h_this_spanReader h_this_adder h_this_other h_this_trial h_this_ways i_this, cl_X4 h_this_now h_this_now_day h_this_now_second h_this_now_months h_this_now_days h_this_now_seconds, (h_this_now_months, .inl (cI, 8, .inl f_this_now_months)), (h_this_now_days, .inl (cI, 8, .inl f_this_now_days)), (h_this_now_seconds, .inl (cI, 8, .inl f_this_now_seconds)), cl_X3 h_this_told h_this_told_numbers o_i_this_told, (h_this_told_numbers, .inl (cJ, 8, .inr (.inl o_f_this_told_numbers))), cl_X7 h_this_trial h_this_trial_one h_this_trial_two h_this_trial_three h_this_trial_four o_i_this_trial o_j_this_trial, cl_X0 h_this_trial_one o_i_this_trial_one, cl_X0 h_this_trial_two o_i_this_trial_two, cl_X0 h_this_trial_three o_i_this_trial_three, cl_X0 h_this_trial_four o_i_this_trial_four] r := by
  refine MI.of (cc := cX9_often) (maxL := 12) (by decide) (Nat.le_of_ble_eq_true rfl) (fun p e s m args below meth c A Q ls KC hN hK hP hD hA hl hEnd => ?_)
  obtain ⟨hx, hb, hml, hown, hts⟩ := KC
  have hown : s.vm.findClass "DateSpans" = some m.cls := hown
  have hl : lv_has ls 12 [(0, .ref h_this), (1, .int p1), (2, .int p2), (3, .int p3), (4, .int p4)] := hl
  have hS : va_S A s.heap s.heap [] := va_S.rf
  have LP_48 : ∀ n_48 : Nat, ∀ (v5 : Int32) (v6 : Int64) (v8 : Int32) (v9 : Int32) (i_this_told : Int32) (f_this_told_numbers : Nat → Int64) (i_this_trial : Int32) (j_this_trial : Nat → Int64) (i_this_trial_one : Nat → Int32) (i_this_trial_two : Nat → Int32) (i_this_trial_three : Nat → Int32) (i_this_trial_four : Nat → Int32) (ls : Array Slot) (H : Heap) (locs : List Loc), fX9_often_l48 N i_this f_this_now_months f_this_now_days f_this_now_seconds n_48 v5 v6 v8 v9 i_this_told f_this_told_numbers i_this_trial j_this_trial i_this_trial_one i_this_trial_two i_this_trial_three i_this_trial_four = some (r, o_i_this_told, o_f_this_told_numbers, o_i_this_trial, o_j_this_trial, o_i_this_trial_one, o_i_this_trial_two, o_i_this_trial_three, o_i_this_trial_four) → lv_has ls 12 [(0, .ref h_this), (5, .int v5), (6, .long v6), (8, .int v8), (9, .int v9)] → va_P (dC, dI) vwCl [cl_X9 h_this h_this_now h_this_kept h_this_told h_this_text h_this_script h_this_momentReader h_this_spanReader h_this_adder h_this_other h_this_trial h_this_ways i_this, cl_X4 h_this_now h_this_now_day h_this_now_second h_this_now_months h_this_now_days h_this_now_seconds, (h_this_now_months, .inl (cI, 8, .inl f_this_now_months)), (h_this_now_days, .inl (cI, 8, .inl f_this_now_days)), (h_this_now_seconds, .inl (cI, 8, .inl f_this_now_seconds)), cl_X3 h_this_told h_this_told_numbers i_this_told, (h_this_told_numbers, .inl (cJ, 8, .inr (.inl f_this_told_numbers))), cl_X7 h_this_trial h_this_trial_one h_this_trial_two h_this_trial_three h_this_trial_four i_this_trial j_this_trial, cl_X0 h_this_trial_one i_this_trial_one, cl_X0 h_this_trial_two i_this_trial_two, cl_X0 h_this_trial_three i_this_trial_three, cl_X0 h_this_trial_four i_this_trial_four] H → va_D A [cl_X9 h_this h_this_now h_this_kept h_this_told h_this_text h_this_script h_this_momentReader h_this_spanReader h_this_adder h_this_other h_this_trial h_this_ways i_this, cl_X4 h_this_now h_this_now_day h_this_now_second h_this_now_months h_this_now_days h_this_now_seconds, (h_this_now_months, .inl (cI, 8, .inl f_this_now_months)), (h_this_now_days, .inl (cI, 8, .inl f_this_now_days)), (h_this_now_seconds, .inl (cI, 8, .inl f_this_now_seconds)), cl_X3 h_this_told h_this_told_numbers i_this_told, (h_this_told_numbers, .inl (cJ, 8, .inr (.inl f_this_told_numbers))), cl_X7 h_this_trial h_this_trial_one h_this_trial_two h_this_trial_three h_this_trial_four i_this_trial j_this_trial, cl_X0 h_this_trial_one i_this_trial_one, cl_X0 h_this_trial_two i_this_trial_two, cl_X0 h_this_trial_three i_this_trial_three, cl_X0 h_this_trial_four i_this_trial_four] → va_S A s.heap H locs → W p l e (kR 6 138) s m args below meth c H locs 0 0 Q (F0 m 48 ls []) := by
    intro n_48
    induction n_48 with
    | zero =>
      intro v5 v6 v8 v9 i_this_told f_this_told_numbers i_this_trial j_this_trial i_this_trial_one i_this_trial_two i_this_trial_three i_this_trial_four ls H locs h hl hP hD hS
      rw [fX9_often_l48_0] at h; cases h
    | succ n_48 ih_48 =>
      intro v5 v6 v8 v9 i_this_told f_this_told_numbers i_this_trial j_this_trial i_this_trial_one i_this_trial_two i_this_trial_three i_this_trial_four ls H locs h hl hP hD hS
      rw [fX9_often_l48_s] at h
      refine lv_iload hx hb dX9_often_48 (lv_at hl 4 rfl) ?_
      refine lv_ldcw (v := (876215 : Int32)) hx hb hown (hts _ (kq q_659 rfl)) dX9_often_50 ?_
      refine lv_icmp_gt (tgt := 131) hx hb dX9_often_53 (by decide) (fun c1 => ?_) (fun c1 => ?_)
      · have h := ite_t c1 h
        refine lv_aload_n hx hb dX9_often_131 rfl (lv_at hl 0 rfl) ?_
        refine va_get (D := (dC, dI)) (ci := 8) (v := .ref h_this_told) (C := RX9) (T := TX9) (N := 12) hx hb hts inX9 hown hK hP 0 rfl rfl 3 (by decide) (hts _ (kq q_295 rfl)) (fun _ h9 => h9) rfl dX9_often_132 ?_
        refine lv_lload hx hb dX9_often_135 (lv_at hl 2 rfl) ?_
        refine lv_iload hx hb dX9_often_137 (lv_at hl 3 rfl) ?_
        refine lv_i2l hx hb dX9_often_139 rfl ?_
        obtain ⟨i_this_told_2, f_this_told_numbers_3, hc4, h⟩ := bd2_at h
        refine kjV (kV (own := "DateSpans") (C := "DateSpans$Row") (b := h_this_told) (As := [.long v6, .long v8.toInt64]) (rest := []) ⟨hx, hb, hml, hown, hts⟩ (kX3_tell_ l dC dI cI cJ cB h_this_told h_this_told_numbers N v6 v8.toInt64 i_this_told f_this_told_numbers i_this_told_2 f_this_told_numbers_3 hc4 _) (kgV (kq q_591 rfl) (kq q_446 rfl) (kq q_447 rfl) (kq q_59 rfl) (kq q_448 rfl)) yd_X3_tell_ ⟨Nat.le_of_ble_eq_true rfl, Nat.le_of_ble_eq_true rfl⟩ hN hK hP hD [5, 6] rfl rfl (ci := 2) rfl rfl rfl rfl rfl hl.1 rfl (lv_room (Nat.le_of_ble_eq_true rfl)) dX9_often_140) hP hD hS hA [5, 6] rfl rfl (fun H locs hP hD hS => ?_)
        have hP : va_P (dC, dI) vwCl [cl_X9 h_this h_this_now h_this_kept h_this_told h_this_text h_this_script h_this_momentReader h_this_spanReader h_this_adder h_this_other h_this_trial h_this_ways i_this, cl_X4 h_this_now h_this_now_day h_this_now_second h_this_now_months h_this_now_days h_this_now_seconds, (h_this_now_months, .inl (cI, 8, .inl f_this_now_months)), (h_this_now_days, .inl (cI, 8, .inl f_this_now_days)), (h_this_now_seconds, .inl (cI, 8, .inl f_this_now_seconds)), cl_X3 h_this_told h_this_told_numbers i_this_told_2, (h_this_told_numbers, .inl (cJ, 8, .inr (.inl f_this_told_numbers_3))), cl_X7 h_this_trial h_this_trial_one h_this_trial_two h_this_trial_three h_this_trial_four i_this_trial j_this_trial, cl_X0 h_this_trial_one i_this_trial_one, cl_X0 h_this_trial_two i_this_trial_two, cl_X0 h_this_trial_three i_this_trial_three, cl_X0 h_this_trial_four i_this_trial_four] H := hP
        have hD : va_D A [cl_X9 h_this h_this_now h_this_kept h_this_told h_this_text h_this_script h_this_momentReader h_this_spanReader h_this_adder h_this_other h_this_trial h_this_ways i_this, cl_X4 h_this_now h_this_now_day h_this_now_second h_this_now_months h_this_now_days h_this_now_seconds, (h_this_now_months, .inl (cI, 8, .inl f_this_now_months)), (h_this_now_days, .inl (cI, 8, .inl f_this_now_days)), (h_this_now_seconds, .inl (cI, 8, .inl f_this_now_seconds)), cl_X3 h_this_told h_this_told_numbers i_this_told_2, (h_this_told_numbers, .inl (cJ, 8, .inr (.inl f_this_told_numbers_3))), cl_X7 h_this_trial h_this_trial_one h_this_trial_two h_this_trial_three h_this_trial_four i_this_trial j_this_trial, cl_X0 h_this_trial_one i_this_trial_one, cl_X0 h_this_trial_two i_this_trial_two, cl_X0 h_this_trial_three i_this_trial_three, cl_X0 h_this_trial_four i_this_trial_four] := hD
        refine lv_iload hx hb dX9_often_143 (lv_at hl 1 rfl) ?_
        obtain ⟨rfl, rfl, rfl, rfl, rfl, rfl, rfl, rfl, rfl⟩ := pj9 h
        exact hEnd _ _ _ _ hP hS dX9_often_145 rfl
      have h := ite_f c1 h
      refine lv_aload_n hx hb dX9_often_56 rfl (lv_at hl 0 rfl) ?_
      refine va_get (D := (dC, dI)) (ci := 8) (v := .ref h_this_trial) (C := RX9) (T := TX9) (N := 12) hx hb hts inX9 hown hK hP 0 rfl rfl 10 (by decide) (hts _ (kq q_302 rfl)) (fun _ h9 => h9) rfl dX9_often_57 ?_
      refine lv_iload hx hb dX9_often_60 (lv_at hl 4 rfl) ?_
      obtain ⟨r5, j_this_trial_6, i_this_trial_one_7, i_this_trial_two_8, i_this_trial_three_9, i_this_trial_four_10, hc11, h⟩ := bd6_at h
      refine kjI (kV (own := "DateSpans") (C := "DateSpans$Trial") (b := h_this_trial) (As := [.int v9]) (rest := []) ⟨hx, hb, hml, hown, hts⟩ (kX7_meets l dC dI cI cJ cB h_this_trial h_this_trial_one h_this_trial_two h_this_trial_three h_this_trial_four N v9 i_this_trial j_this_trial i_this_trial_one i_this_trial_two i_this_trial_three i_this_trial_four r5 j_this_trial_6 i_this_trial_one_7 i_this_trial_two_8 i_this_trial_three_9 i_this_trial_four_10 hc11 _) (kgV (kq q_703 rfl) (kq q_704 rfl) (kq q_705 rfl) (kq q_64 rfl) (kq q_706 rfl)) yd_X7_meets ⟨Nat.le_of_ble_eq_true rfl, Nat.le_of_ble_eq_true rfl⟩ hN hK hP hD [7, 8, 9, 10, 11] rfl rfl (ci := 6) rfl rfl rfl rfl rfl hl.1 rfl (lv_room (Nat.le_of_ble_eq_true rfl)) dX9_often_62) hP hD hS hA [7, 8, 9, 10, 11] rfl rfl (fun H locs hP hD hS => ?_)
      have hP : va_P (dC, dI) vwCl [cl_X9 h_this h_this_now h_this_kept h_this_told h_this_text h_this_script h_this_momentReader h_this_spanReader h_this_adder h_this_other h_this_trial h_this_ways i_this, cl_X4 h_this_now h_this_now_day h_this_now_second h_this_now_months h_this_now_days h_this_now_seconds, (h_this_now_months, .inl (cI, 8, .inl f_this_now_months)), (h_this_now_days, .inl (cI, 8, .inl f_this_now_days)), (h_this_now_seconds, .inl (cI, 8, .inl f_this_now_seconds)), cl_X3 h_this_told h_this_told_numbers i_this_told, (h_this_told_numbers, .inl (cJ, 8, .inr (.inl f_this_told_numbers))), cl_X7 h_this_trial h_this_trial_one h_this_trial_two h_this_trial_three h_this_trial_four i_this_trial j_this_trial_6, cl_X0 h_this_trial_one i_this_trial_one_7, cl_X0 h_this_trial_two i_this_trial_two_8, cl_X0 h_this_trial_three i_this_trial_three_9, cl_X0 h_this_trial_four i_this_trial_four_10] H := hP
      have hD : va_D A [cl_X9 h_this h_this_now h_this_kept h_this_told h_this_text h_this_script h_this_momentReader h_this_spanReader h_this_adder h_this_other h_this_trial h_this_ways i_this, cl_X4 h_this_now h_this_now_day h_this_now_second h_this_now_months h_this_now_days h_this_now_seconds, (h_this_now_months, .inl (cI, 8, .inl f_this_now_months)), (h_this_now_days, .inl (cI, 8, .inl f_this_now_days)), (h_this_now_seconds, .inl (cI, 8, .inl f_this_now_seconds)), cl_X3 h_this_told h_this_told_numbers i_this_told, (h_this_told_numbers, .inl (cJ, 8, .inr (.inl f_this_told_numbers))), cl_X7 h_this_trial h_this_trial_one h_this_trial_two h_this_trial_three h_this_trial_four i_this_trial j_this_trial_6, cl_X0 h_this_trial_one i_this_trial_one_7, cl_X0 h_this_trial_two i_this_trial_two_8, cl_X0 h_this_trial_three i_this_trial_three_9, cl_X0 h_this_trial_four i_this_trial_four_10] := hD
      refine lv_if_eq (tgt := 125) hx hb dX9_often_65 (by decide) (fun c12 => ?_) (fun c12 => ?_)
      · have h := ite_t c12 h
        obtain ⟨z13, ez13⟩ : ∃ y : Int32, y = (v9 + (1 : Int32)) := ⟨_, rfl⟩
        have h := nm_at ez13 h
        refine lv_iinc (v := z13) (lv' := [(9, .int z13), (0, .ref h_this), (5, .int v5), (6, .long v6), (8, .int v8)]) hx hb dX9_often_125 hl (k := 4) rfl (by rw [ez13]; rfl) (by decide) rfl (fun ls hl => ?_)
        refine lv_goto (tgt := 48) hx hb dX9_often_128 (by decide) ?_
        exact ih_48 _ _ _ _ _ _ _ _ _ _ _ _ _ _ _ h (lv_sub hl [1, 2, 3, 4, 0] rfl) hP hD hS
      have h := ite_f c12 h
      refine lv_aload_n hx hb dX9_often_68 rfl (lv_at hl 0 rfl) ?_
      refine va_get (D := (dC, dI)) (ci := 8) (v := .ref h_this_trial) (C := RX9) (T := TX9) (N := 12) hx hb hts inX9 hown hK hP 0 rfl rfl 10 (by decide) (hts _ (kq q_302 rfl)) (fun _ h9 => h9) rfl dX9_often_69 ?_
      refine va_getN (D := (dC, dI)) (ci := 6) (v := .long (j_this_trial_6 5)) (C := RX7) (T := TX7) (N := 7) hx hb hts inX7 hown hK hP 7 rfl rfl 5 (by decide) (kN.use hN q_241 rfl) (fun _ h9 => h9) rfl dX9_often_72 ?_
      refine lv_aload_n hx hb dX9_often_75 rfl (lv_at hl 0 rfl) ?_
      refine va_get (D := (dC, dI)) (ci := 8) (v := .ref h_this_trial) (C := RX9) (T := TX9) (N := 12) hx hb hts inX9 hown hK hP 0 rfl rfl 10 (by decide) (hts _ (kq q_302 rfl)) (fun _ h9 => h9) rfl dX9_often_76 ?_
      refine va_getN (D := (dC, dI)) (ci := 6) (v := .long (j_this_trial_6 6)) (C := RX7) (T := TX7) (N := 7) hx hb hts inX7 hown hK hP 7 rfl rfl 6 (by decide) (kN.use hN q_243 rfl) (fun _ h9 => h9) rfl dX9_often_79 ?_
      refine W.lcmp hx hb dX9_often_82 ?_
      refine lv_if_eq (tgt := 125) hx hb dX9_often_83 (by decide) (fun c14 => ?_) (fun c14 => ?_)
      · have h := ite_t c14 h
        obtain ⟨z15, ez15⟩ : ∃ y : Int32, y = (v9 + (1 : Int32)) := ⟨_, rfl⟩
        have h := nm_at ez15 h
        refine lv_iinc (v := z15) (lv' := [(9, .int z15), (0, .ref h_this), (5, .int v5), (6, .long v6), (8, .int v8)]) hx hb dX9_often_125 hl (k := 4) rfl (by rw [ez15]; rfl) (by decide) rfl (fun ls hl => ?_)
        refine lv_goto (tgt := 48) hx hb dX9_often_128 (by decide) ?_
        exact ih_48 _ _ _ _ _ _ _ _ _ _ _ _ _ _ _ h (lv_sub hl [1, 2, 3, 4, 0] rfl) hP hD hS
      have h := ite_f c14 h
      obtain ⟨z16, ez16⟩ : ∃ y : Int32, y = (v5 + (1 : Int32)) := ⟨_, rfl⟩
      have h := nm_at ez16 h
      refine lv_iinc (v := z16) (lv' := [(5, .int z16), (0, .ref h_this), (6, .long v6), (8, .int v8), (9, .int v9)]) hx hb dX9_often_86 hl (k := 1) rfl (by rw [ez16]; rfl) (by decide) rfl (fun ls hl => ?_)
      refine lv_aload_n hx hb dX9_often_89 rfl (lv_at hl 1 rfl) ?_
      refine va_get (D := (dC, dI)) (ci := 8) (v := .ref h_this_trial) (C := RX9) (T := TX9) (N := 12) hx hb hts inX9 hown hK hP 0 rfl rfl 10 (by decide) (hts _ (kq q_302 rfl)) (fun _ h9 => h9) rfl dX9_often_90 ?_
      refine va_getN (D := (dC, dI)) (ci := 6) (v := .long (j_this_trial_6 5)) (C := RX7) (T := TX7) (N := 7) hx hb hts inX7 hown hK hP 7 rfl rfl 5 (by decide) (kN.use hN q_241 rfl) (fun _ h9 => h9) rfl dX9_often_93 ?_
      refine lv_aload_n hx hb dX9_often_96 rfl (lv_at hl 1 rfl) ?_
      refine va_get (D := (dC, dI)) (ci := 8) (v := .ref h_this_trial) (C := RX9) (T := TX9) (N := 12) hx hb hts inX9 hown hK hP 0 rfl rfl 10 (by decide) (hts _ (kq q_302 rfl)) (fun _ h9 => h9) rfl dX9_often_97 ?_
      refine va_getN (D := (dC, dI)) (ci := 6) (v := .long (j_this_trial_6 6)) (C := RX7) (T := TX7) (N := 7) hx hb hts inX7 hown hK hP 7 rfl rfl 6 (by decide) (kN.use hN q_243 rfl) (fun _ h9 => h9) rfl dX9_often_100 ?_
      refine lv_lsub hx hb dX9_often_103 ?_
      refine va_mabs_long (rest := []) hx hb (hml.trans hl.1.symm) hown (hts _ (kq q_715 rfl)) (hts _ (kq q_716 rfl)) (hts _ (kq q_72 rfl)) (hts _ (kq q_717 rfl)) (Nat.le_of_ble_eq_true rfl) (Nat.le_of_ble_eq_true rfl) (Nat.zero_le _) (Nat.zero_le _) dX9_often_104 ?_
      refine lv_topl (fun z17 ez17 => ?_)
      have h := nm_at ez17 h
      refine lv_lstore (lv' := [(10, .long z17), (5, .int z16), (0, .ref h_this), (6, .long v6), (8, .int v8), (9, .int v9)]) hx hb dX9_often_107 hl (by decide) rfl (fun ls hl => ?_)
      refine lv_lload hx hb dX9_often_109 (lv_at hl 0 rfl) ?_
      refine lv_lload hx hb dX9_often_111 (lv_at hl 3 rfl) ?_
      refine W.lcmp hx hb dX9_often_113 ?_
      refine lv_if_le (tgt := 125) hx hb dX9_often_114 (by decide) (fun c18 => ?_) (fun c18 => ?_)
      · have h := ite_t c18 h
        obtain ⟨z19, ez19⟩ : ∃ y : Int32, y = (v9 + (1 : Int32)) := ⟨_, rfl⟩
        have h := nm_at ez19 h
        refine lv_iinc (v := z19) (lv' := [(9, .int z19), (10, .long z17), (5, .int z16), (0, .ref h_this), (6, .long v6), (8, .int v8)]) hx hb dX9_often_125 hl (k := 5) rfl (by rw [ez19]; rfl) (by decide) rfl (fun ls hl => ?_)
        refine lv_goto (tgt := 48) hx hb dX9_often_128 (by decide) ?_
        exact ih_48 _ _ _ _ _ _ _ _ _ _ _ _ _ _ _ h (lv_sub hl [3, 2, 4, 5, 0] rfl) hP hD hS
      have h := ite_f c18 h
      refine lv_lload hx hb dX9_often_117 (lv_at hl 0 rfl) ?_
      refine lv_lstore (lv' := [(6, .long z17), (10, .long z17), (5, .int z16), (0, .ref h_this), (8, .int v8), (9, .int v9)]) hx hb dX9_often_119 hl (by decide) rfl (fun ls hl => ?_)
      refine lv_iload hx hb dX9_often_121 (lv_at hl 5 rfl) ?_
      refine lv_istore (lv' := [(8, .int v9), (6, .long z17), (10, .long z17), (5, .int z16), (0, .ref h_this), (9, .int v9)]) hx hb dX9_often_123 hl (by decide) rfl (fun ls hl => ?_)
      obtain ⟨z20, ez20⟩ : ∃ y : Int32, y = (v9 + (1 : Int32)) := ⟨_, rfl⟩
      have h := nm_at ez20 h
      refine lv_iinc (v := z20) (lv' := [(9, .int z20), (8, .int v9), (6, .long z17), (10, .long z17), (5, .int z16), (0, .ref h_this)]) hx hb dX9_often_125 hl (k := 5) rfl (by rw [ez20]; rfl) (by decide) rfl (fun ls hl => ?_)
      refine lv_goto (tgt := 48) hx hb dX9_often_128 (by decide) ?_
      exact ih_48 _ _ _ _ _ _ _ _ _ _ _ _ _ _ _ h (lv_sub hl [5, 4, 2, 1, 0] rfl) hP hD hS
  have h := hf
  unfold fX9_often at h
  refine lv_iload_n hx hb dX9_often_0 rfl (lv_at hl 1 rfl) ?_
  refine lv_iload_n hx hb dX9_often_1 rfl (lv_at hl 2 rfl) ?_
  refine lv_iload_n hx hb dX9_often_2 rfl (lv_at hl 3 rfl) ?_
  refine lv_iload hx hb dX9_often_3 (lv_at hl 4 rfl) ?_
  obtain ⟨r21, hc22, h⟩ := bd1_at h
  refine kjSI (kS0 (own := "DateSpans") (As := [.int p1, .int p2, .int p3, .int p4]) (rest := []) ⟨hx, hb, hml, hown, hts⟩ (kX9_isTrial l N p1 p2 p3 p4 r21 hc22) (kgS (kq q_691 rfl) (kq q_692 rfl) (kq q_57 rfl) (kq q_693 rfl)) yd_X9_isTrial ⟨Nat.le_of_ble_eq_true rfl, Nat.le_of_ble_eq_true rfl⟩ rfl rfl hl.1 rfl (lv_room (Nat.le_of_ble_eq_true rfl)) dX9_often_5) ?_
  refine lv_if_ne (tgt := 13) hx hb dX9_often_8 (by decide) (fun c23 => ?_) (fun c23 => ?_)
  · have h := ite_f c23 h
    refine lv_aload_n hx hb dX9_often_13 rfl (lv_at hl 0 rfl) ?_
    refine va_get (D := (dC, dI)) (ci := 8) (v := .ref h_this_trial) (C := RX9) (T := TX9) (N := 12) hx hb hts inX9 hown hK hP 0 rfl rfl 10 (by decide) (hts _ (kq q_302 rfl)) (fun _ h9 => h9) rfl dX9_often_14 ?_
    refine lv_aload_n hx hb dX9_often_17 rfl (lv_at hl 0 rfl) ?_
    refine va_get (D := (dC, dI)) (ci := 8) (v := .ref h_this_now) (C := RX9) (T := TX9) (N := 12) hx hb hts inX9 hown hK hP 0 rfl rfl 0 (by decide) (hts _ (kq q_292 rfl)) (fun _ h9 => h9) rfl dX9_often_18 ?_
    refine lv_iload_n hx hb dX9_often_21 rfl (lv_at hl 1 rfl) ?_
    refine lv_iload_n hx hb dX9_often_22 rfl (lv_at hl 2 rfl) ?_
    refine lv_iload_n hx hb dX9_often_23 rfl (lv_at hl 3 rfl) ?_
    refine lv_iload hx hb dX9_often_24 (lv_at hl 4 rfl) ?_
    obtain ⟨r24, i_this_trial_25, i_this_trial_one_26, i_this_trial_two_27, i_this_trial_three_28, i_this_trial_four_29, hc30, h⟩ := bd6_at h
    refine kjI (kV (own := "DateSpans") (C := "DateSpans$Trial") (b := h_this_trial) (As := [.ref h_this_now, .int p1, .int p2, .int p3, .int p4]) (rest := []) ⟨hx, hb, hml, hown, hts⟩ (kX7_takes l dC dI cI cJ cB h_this_trial h_this_trial_one h_this_trial_two h_this_trial_three h_this_trial_four h_this_now h_this_now_day h_this_now_second h_this_now_months h_this_now_days h_this_now_seconds N p1 p2 p3 p4 i_this_trial j_this_trial i_this_trial_one i_this_trial_two i_this_trial_three i_this_trial_four f_this_now_months f_this_now_days f_this_now_seconds r24 i_this_trial_25 i_this_trial_one_26 i_this_trial_two_27 i_this_trial_three_28 i_this_trial_four_29 hc30 _) (kgV (kq q_694 rfl) (kq q_695 rfl) (kq q_696 rfl) (kq q_64 rfl) (kq q_697 rfl)) yd_X7_takes ⟨Nat.le_of_ble_eq_true rfl, Nat.le_of_ble_eq_true rfl⟩ hN hK hP hD [7, 8, 9, 10, 11, 1, 2, 3, 4] rfl rfl (ci := 6) rfl rfl rfl rfl rfl hl.1 rfl (lv_room (Nat.le_of_ble_eq_true rfl)) dX9_often_26) hP hD hS hA [7, 8, 9, 10, 11, 1, 2, 3, 4] rfl rfl (fun H locs hP hD hS => ?_)
    have hP : va_P (dC, dI) vwCl [cl_X9 h_this h_this_now h_this_kept h_this_told h_this_text h_this_script h_this_momentReader h_this_spanReader h_this_adder h_this_other h_this_trial h_this_ways i_this, cl_X4 h_this_now h_this_now_day h_this_now_second h_this_now_months h_this_now_days h_this_now_seconds, (h_this_now_months, .inl (cI, 8, .inl f_this_now_months)), (h_this_now_days, .inl (cI, 8, .inl f_this_now_days)), (h_this_now_seconds, .inl (cI, 8, .inl f_this_now_seconds)), cl_X3 h_this_told h_this_told_numbers i_this_told, (h_this_told_numbers, .inl (cJ, 8, .inr (.inl f_this_told_numbers))), cl_X7 h_this_trial h_this_trial_one h_this_trial_two h_this_trial_three h_this_trial_four i_this_trial_25 j_this_trial, cl_X0 h_this_trial_one i_this_trial_one_26, cl_X0 h_this_trial_two i_this_trial_two_27, cl_X0 h_this_trial_three i_this_trial_three_28, cl_X0 h_this_trial_four i_this_trial_four_29] H := hP
    have hD : va_D A [cl_X9 h_this h_this_now h_this_kept h_this_told h_this_text h_this_script h_this_momentReader h_this_spanReader h_this_adder h_this_other h_this_trial h_this_ways i_this, cl_X4 h_this_now h_this_now_day h_this_now_second h_this_now_months h_this_now_days h_this_now_seconds, (h_this_now_months, .inl (cI, 8, .inl f_this_now_months)), (h_this_now_days, .inl (cI, 8, .inl f_this_now_days)), (h_this_now_seconds, .inl (cI, 8, .inl f_this_now_seconds)), cl_X3 h_this_told h_this_told_numbers i_this_told, (h_this_told_numbers, .inl (cJ, 8, .inr (.inl f_this_told_numbers))), cl_X7 h_this_trial h_this_trial_one h_this_trial_two h_this_trial_three h_this_trial_four i_this_trial_25 j_this_trial, cl_X0 h_this_trial_one i_this_trial_one_26, cl_X0 h_this_trial_two i_this_trial_two_27, cl_X0 h_this_trial_three i_this_trial_three_28, cl_X0 h_this_trial_four i_this_trial_four_29] := hD
    refine lv_if_ne (tgt := 35) hx hb dX9_often_29 (by decide) (fun c31 => ?_) (fun c31 => ?_)
    · have h := ite_f c31 h
      refine lv_iconst (v := (0 : Int32)) hx hb dX9_often_35 (by decide) ?_
      refine lv_istore (lv' := [(5, .int (0 : Int32)), (0, .ref h_this), (1, .int p1), (2, .int p2), (3, .int p3), (4, .int p4)]) hx hb dX9_often_36 hl (by decide) rfl (fun ls hl => ?_)
      refine lv_lconst (v := (0 : Int64)) hx hb dX9_often_38 (by decide) ?_
      refine lv_lstore (lv' := [(6, .long (0 : Int64)), (5, .int (0 : Int32)), (0, .ref h_this), (1, .int p1), (2, .int p2), (3, .int p3), (4, .int p4)]) hx hb dX9_often_39 hl (by decide) rfl (fun ls hl => ?_)
      refine lv_iconst (v := (-1 : Int32)) hx hb dX9_often_41 (by decide) ?_
      refine lv_istore (lv' := [(8, .int (-1 : Int32)), (6, .long (0 : Int64)), (5, .int (0 : Int32)), (0, .ref h_this), (1, .int p1), (2, .int p2), (3, .int p3), (4, .int p4)]) hx hb dX9_often_42 hl (by decide) rfl (fun ls hl => ?_)
      refine lv_ldc (v := (730119 : Int32)) hx hb hown (hts _ (kq q_658 rfl)) dX9_often_44 ?_
      refine lv_istore (lv' := [(9, .int (730119 : Int32)), (8, .int (-1 : Int32)), (6, .long (0 : Int64)), (5, .int (0 : Int32)), (0, .ref h_this), (1, .int p1), (2, .int p2), (3, .int p3), (4, .int p4)]) hx hb dX9_often_46 hl (by decide) rfl (fun ls hl => ?_)
      exact LP_48 N _ _ _ _ _ _ _ _ _ _ _ _ _ _ _ h (lv_sub hl [4, 3, 2, 1, 0] rfl) hP hD hS
    have h := ite_t c31 h
    refine lv_bipush (v := (-9 : Int32)) hx hb dX9_often_32 (by decide) ?_
    obtain ⟨rfl, rfl, rfl, rfl, rfl, rfl, rfl, rfl, rfl⟩ := pj9 h
    exact hEnd _ _ _ _ hP hS dX9_often_34 rfl
  have h := ite_t c23 h
  refine lv_iconst (v := (-1 : Int32)) hx hb dX9_often_11 (by decide) ?_
  obtain ⟨rfl, rfl, rfl, rfl, rfl, rfl, rfl, rfl, rfl⟩ := pj9 h
  exact hEnd _ _ _ _ hP hS dX9_often_12 rfl
