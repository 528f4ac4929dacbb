noncomputable def fX9_row (N : Nat) (p1 : Int32) (i_this : Int32) (i_this_told : Int32) (f_this_told_numbers : Nat → Int64) : Option (Int64) := (if p1 < (0 : Int32) then none else (bd1 (fX3_length N i_this_told) fun r2 => (if p1 < r2 then (bd1 (fX3_at N p1 i_this_told f_this_told_numbers) fun r5 => (some r5)) else none)))
set_option maxHeartbeats 4000000 in
set_option maxRecDepth 100000 in
theorem kX9_row (l : Launch) (dC : Nat → ClassId) (dI : Nat → Nat → Nat) (cI cJ cB : ClassId) (h_this h_this_now h_this_kept h_this_told h_this_text h_this_script h_this_momentReader h_this_spanReader h_this_adder h_this_other h_this_trial h_this_ways h_this_told_numbers : Nat) (N : Nat) (p1 : Int32) (i_this : Int32) (i_this_told : Int32) (f_this_told_numbers : Nat → Int64) (r : Int64) (hf : fX9_row N p1 i_this i_this_told f_this_told_numbers = some r) : ML l yX9_row (kws yX9_row cX9_row 2 (some .long)) (kR 1 21) (dC, dI) (kT cI cJ cB) [.ref h_this, .int p1] [cl_X9 h_this h_this_now h_this_kept h_this_told h_this_text h_this_script h_this_momentReader h_this_spanReader h_this_adder h_this_other h_this_trial h_this_ways i_this, cl_X3 h_this_told h_this_told_numbers i_this_told, (h_this_told_numbers, .inl (cJ, 8, .inr (.inl f_this_told_numbers)))] [cl_X9 h_this h_this_now h_this_kept h_this_told h_this_text h_this_script h_this_momentReader h_this_spanReader h_this_adder h_this_other h_this_trial h_this_ways i_this, cl_X3 h_this_told h_this_told_numbers i_this_told, (h_this_told_numbers, .inl (cJ, 8, .inr (.inl f_this_told_numbers)))] r := by
  refine ML.of (cc := cX9_row) (maxL := 2) (by decide) (Nat.le_of_ble_eq_true rfl) (fun p e s m args below meth c A Q ls KC hN hK hP hD hA hl hEnd => ?_)
  obtain ⟨hx, hb, hml, hown, hts⟩ := KC
  have hown : s.vm.findClass "DateSpans" = some m.cls := hown
  have hl : lv_has ls 2 [(0, .ref h_this), (1, .int p1)] := hl
  have hS : va_S A s.heap s.heap [] := va_S.rf
  have h := hf
  unfold fX9_row at h
  refine lv_iload_n hx hb dX9_row_0 rfl (lv_at hl 1 rfl) ?_
  refine lv_if_lt (tgt := 15) hx hb dX9_row_1 (by decide) (fun c1 => ?_) (fun c1 => ?_)
  · have h := ite_t c1 h
    exact nomatch h
  have h := ite_f c1 h
  refine lv_iload_n hx hb dX9_row_4 rfl (lv_at hl 1 rfl) ?_
  refine lv_aload_n hx hb dX9_row_5 rfl (lv_at hl 0 rfl) ?_
  refine va_get (D := (dC, dI)) (ci := 8) (v := .ref h_this_told) (C := RX9) (T := TX9) (N := 12) hx hb hts inX9 hown hK hP 0 rfl rfl 3 (by decide) (hts _ (kq q_229 rfl)) (fun _ h9 => h9) rfl dX9_row_6 ?_
  obtain ⟨r2, hc3, h⟩ := bd1_at h
  refine kjI (kV (own := "DateSpans") (C := "DateSpans$Row") (b := h_this_told) (As := []) (rest := [.int p1]) ⟨hx, hb, hml, hown, hts⟩ (kX3_length l dC dI cI cJ cB h_this_told h_this_told_numbers N i_this_told r2 hc3 _) (kgV (kq q_610 rfl) (kq q_611 rfl) (kq q_612 rfl) (kq q_20 rfl) (kq q_613 rfl)) yd_X3_length ⟨Nat.le_of_ble_eq_true rfl, Nat.le_of_ble_eq_true rfl⟩ hN hK hP hD [1] rfl rfl (ci := 2) rfl rfl rfl rfl rfl hl.1 rfl (lv_room (Nat.le_of_ble_eq_true rfl)) dX9_row_9) hP hD hS hA [1] rfl rfl (fun H locs hP hD hS => ?_)
  have hP : va_P (dC, dI) vwCl [cl_X9 h_this h_this_now h_this_kept h_this_told h_this_text h_this_script h_this_momentReader h_this_spanReader h_this_adder h_this_other h_this_trial h_this_ways i_this, cl_X3 h_this_told h_this_told_numbers i_this_told, (h_this_told_numbers, .inl (cJ, 8, .inr (.inl f_this_told_numbers)))] H := hP
  have hD : va_D A [cl_X9 h_this h_this_now h_this_kept h_this_told h_this_text h_this_script h_this_momentReader h_this_spanReader h_this_adder h_this_other h_this_trial h_this_ways i_this, cl_X3 h_this_told h_this_told_numbers i_this_told, (h_this_told_numbers, .inl (cJ, 8, .inr (.inl f_this_told_numbers)))] := hD
  refine lv_icmp_lt (tgt := 26) hx hb dX9_row_12 (by decide) (fun c4 => ?_) (fun c4 => ?_)
  · have h := ite_t c4 h
    refine lv_aload_n hx hb dX9_row_26 rfl (lv_at hl 0 rfl) ?_
    refine va_get (D := (dC, dI)) (ci := 8) (v := .ref h_this_told) (C := RX9) (T := TX9) (N := 12) hx hb hts inX9 hown hK hP 0 rfl rfl 3 (by decide) (hts _ (kq q_229 rfl)) (fun _ h9 => h9) rfl dX9_row_27 ?_
    refine lv_iload_n hx hb dX9_row_30 rfl (lv_at hl 1 rfl) ?_
    obtain ⟨r5, hc6, h⟩ := bd1_at h
    refine kjL (kV (own := "DateSpans") (C := "DateSpans$Row") (b := h_this_told) (As := [.int p1]) (rest := []) ⟨hx, hb, hml, hown, hts⟩ (kX3_at l dC dI cI cJ cB h_this_told h_this_told_numbers N p1 i_this_told f_this_told_numbers r5 hc6 _) (kgV (kq q_586 rfl) (kq q_587 rfl) (kq q_588 rfl) (kq q_20 rfl) (kq q_589 rfl)) yd_X3_at ⟨Nat.le_of_ble_eq_true rfl, Nat.le_of_ble_eq_true rfl⟩ hN hK hP hD [1, 2] rfl rfl (ci := 2) rfl rfl rfl rfl rfl hl.1 rfl (lv_room (Nat.le_of_ble_eq_true rfl)) dX9_row_31) hP hD hS hA [1, 2] rfl rfl (fun H locs hP hD hS => ?_)
    have hP : va_P (dC, dI) vwCl [cl_X9 h_this h_this_now h_this_kept h_this_told h_this_text h_this_script h_this_momentReader h_this_spanReader h_this_adder h_this_other h_this_trial h_this_ways i_this, cl_X3 h_this_told h_this_told_numbers i_this_told, (h_this_told_numbers, .inl (cJ, 8, .inr (.inl f_this_told_numbers)))] H := hP
    have hD : va_D A [cl_X9 h_this h_this_now h_this_kept h_this_told h_this_text h_this_script h_this_momentReader h_this_spanReader h_this_adder h_this_other h_this_trial h_this_ways i_this, cl_X3 h_this_told h_this_told_numbers i_this_told, (h_this_told_numbers, .inl (cJ, 8, .inr (.inl f_this_told_numbers)))] := hD
    obtain rfl := pj1 h
    exact hEnd _ _ _ _ hP hS dX9_row_34
  have h := ite_f c4 h
  exact nomatch h
