noncomputable def fX10_share (N : Nat) (p1 : Int32) (p2 : Int32) (i_this : Nat → Int32) (j_this : Nat → Int64) (f_this_spans : Nat → Int32) : Option (Int64 × (Nat → Int32)) := (bd1 (fX10_isSlot N p1) fun r1 => (if r1 = (0 : Int32) then (some ((-1 : Int64), (upd i_this 9 (0 : Int32)))) else (bd1 (fX10_isSlot N p2) fun r4 => (if r4 = (0 : Int32) then (some ((-1 : Int64), (upd i_this 9 (0 : Int32)))) else (bd1 (fX10_lengthOf N p1 (upd i_this 9 (0 : Int32)) j_this f_this_spans) fun r7 => (bd1 (fX10_lengthOf N p2 (upd i_this 9 (0 : Int32)) j_this f_this_spans) fun r9 => (bd1 (fJxe99ae_doubleToLongBits_ccdee N (FP.ddiv r7 r9)) fun r14 => (some (r14, (upd i_this 9 (0 : Int32)))))))))))
set_option maxHeartbeats 4000000 in
set_option maxRecDepth 100000 in
theorem kX10_share (l : Launch) (dC : Nat → ClassId) (dI : Nat → Nat → Nat) (cI cJ cB : ClassId) (h_this h_this_dayAt h_this_secondAt h_this_spans h_this_kept h_this_text h_this_row h_this_read h_this_many h_this_first h_this_lengths h_this_page : Nat) (N : Nat) (p1 : Int32) (p2 : Int32) (i_this : Nat → Int32) (j_this : Nat → Int64) (f_this_spans : Nat → Int32) (r : Int64) (o_i_this : Nat → Int32) (hf : fX10_share N p1 p2 i_this j_this f_this_spans = some (r, o_i_this)) : MLd l yX10_share (kws yX10_share cX10_share 3 (some .long)) (kR 2 45) (dC, dI) (kT cI cJ cB) [.ref h_this, .int p1, .int p2] [cl_X10 h_this h_this_dayAt h_this_secondAt h_this_spans h_this_kept h_this_text h_this_row h_this_read h_this_many h_this_first h_this_lengths h_this_page i_this j_this, (h_this_spans, .inl (cI, 24, .inl f_this_spans))] [cl_X10 h_this h_this_dayAt h_this_secondAt h_this_spans h_this_kept h_this_text h_this_row h_this_read h_this_many h_this_first h_this_lengths h_this_page o_i_this j_this, (h_this_spans, .inl (cI, 24, .inl f_this_spans))] r := by
  refine MLd.of (cc := cX10_share) (maxL := 3) (by decide) (Nat.le_of_ble_eq_true rfl) (fun p e s m args below meth c A Q ls hs hd0 hP hD hA hl hEnd => ?_)
  obtain ⟨⟨hx, hb, hml, hown, hts⟩, hN, hK⟩ := hs s.drawn
  have hown : s.vm.findClass "DateSpansModel" = some m.cls := hown
  have hl : lv_has ls 3 [(0, .ref h_this), (1, .int p1), (2, .int p2)] := hl
  have hS : va_S A s.heap s.heap [] := va_S.rf
  have h := hf
  unfold fX10_share at h
  refine lv_aload_n hx hb dX10_share_0 rfl (lv_at hl 0 rfl) ?_
  refine lv_iconst (v := (0 : Int32)) hx hb dX10_share_1 (by decide) ?_
  refine va_put (D := (dC, dI)) (ci := 9) (v := .int (0 : Int32)) (ty := .int) (C := RX10) (T := TX10) (N := 29) hx hb hts inX10 tyX10 tyX10_ok nmX10 hown hK hP hD hS 0 rfl rfl 9 (by decide) (hts _ (kq q_995 rfl)) (fun _ h9 => h9) rfl (by decide +kernel) rfl rfl (Nat.le_of_ble_eq_true rfl) dX10_share_2 (fun H locs hP hD hS => ?_)
  have hP : va_P (dC, dI) vwCl [(h_this, .inr (9, [.ref h_this_dayAt, .ref h_this_secondAt, .ref h_this_spans, .ref h_this_kept, .int (i_this 4), .ref h_this_text, .int (i_this 6), .ref h_this_row, .int (i_this 8), .int (0 : Int32), .int (i_this 10), .int (i_this 11), .int (i_this 12), .int (i_this 13), .int (i_this 14), .int (i_this 15), .int (i_this 16), .int (i_this 17), .int (i_this 18), .ref h_this_read, .long (j_this 20), .ref h_this_many, .ref h_this_first, .ref h_this_lengths, .int (i_this 24), .long (j_this 25), .long (j_this 26), .ref h_this_page, .int (i_this 28)])), (h_this_spans, .inl (cI, 24, .inl f_this_spans))] H := hP
  have hD : va_D A [(h_this, .inr (9, [.ref h_this_dayAt, .ref h_this_secondAt, .ref h_this_spans, .ref h_this_kept, .int (i_this 4), .ref h_this_text, .int (i_this 6), .ref h_this_row, .int (i_this 8), .int (0 : Int32), .int (i_this 10), .int (i_this 11), .int (i_this 12), .int (i_this 13), .int (i_this 14), .int (i_this 15), .int (i_this 16), .int (i_this 17), .int (i_this 18), .ref h_this_read, .long (j_this 20), .ref h_this_many, .ref h_this_first, .ref h_this_lengths, .int (i_this 24), .long (j_this 25), .long (j_this 26), .ref h_this_page, .int (i_this 28)])), (h_this_spans, .inl (cI, 24, .inl f_this_spans))] := hD
  refine lv_iload_n hx hb dX10_share_5 rfl (lv_at hl 1 rfl) ?_
  have hP : va_P (dC, dI) vwCl [cl_X10 h_this h_this_dayAt h_this_secondAt h_this_spans h_this_kept h_this_text h_this_row h_this_read h_this_many h_this_first h_this_lengths h_this_page (upd i_this 9 (0 : Int32)) j_this, (h_this_spans, .inl (cI, 24, .inl f_this_spans))] H := hP
  have hD : va_D A [cl_X10 h_this h_this_dayAt h_this_secondAt h_this_spans h_this_kept h_this_text h_this_row h_this_read h_this_many h_this_first h_this_lengths h_this_page (upd i_this 9 (0 : Int32)) j_this, (h_this_spans, .inl (cI, 24, .inl f_this_spans))] := hD
  obtain ⟨r1, hc2, h⟩ := bd1_at h
  refine kjSI (kS0 (own := "DateSpansModel") (As := [.int p1]) (rest := []) ⟨hx, hb, hml, hown, hts⟩ (kX10_isSlot l N p1 r1 hc2) (kgS (kq q_1123 rfl) (kq q_1124 rfl) (kq q_66 rfl) (kq q_1125 rfl)) yd_X10_isSlot ⟨Nat.le_of_ble_eq_true rfl, Nat.le_of_ble_eq_true rfl⟩ rfl rfl hl.1 rfl (lv_room (Nat.le_of_ble_eq_true rfl)) dX10_share_6) ?_
  refine lv_if_eq (tgt := 19) hx hb dX10_share_9 (by decide) (fun c3 => ?_) (fun c3 => ?_)
  · have h := ite_t c3 h
    refine lv_ldc2 (v := (-1 : Int64)) hx hb hown (hts _ (kq q_1363 rfl)) dX10_share_19 ?_
    obtain ⟨rfl, rfl⟩ := pj2 h
    exact hEnd _ _ _ _ _ hd0 hP hS dX10_share_22
  have h := ite_f c3 h
  refine lv_iload_n hx hb dX10_share_12 rfl (lv_at hl 2 rfl) ?_
  obtain ⟨r4, hc5, h⟩ := bd1_at h
  refine kjSI (kS0 (own := "DateSpansModel") (As := [.int p2]) (rest := []) ⟨hx, hb, hml, hown, hts⟩ (kX10_isSlot l N p2 r4 hc5) (kgS (kq q_1123 rfl) (kq q_1124 rfl) (kq q_66 rfl) (kq q_1125 rfl)) yd_X10_isSlot ⟨Nat.le_of_ble_eq_true rfl, Nat.le_of_ble_eq_true rfl⟩ rfl rfl hl.1 rfl (lv_room (Nat.le_of_ble_eq_true rfl)) dX10_share_13) ?_
  refine lv_if_ne (tgt := 23) hx hb dX10_share_16 (by decide) (fun c6 => ?_) (fun c6 => ?_)
  · have h := ite_f c6 h
    refine lv_aload_n hx hb dX10_share_23 rfl (lv_at hl 0 rfl) ?_
    refine lv_iload_n hx hb dX10_share_24 rfl (lv_at hl 1 rfl) ?_
    obtain ⟨r7, hc8, h⟩ := bd1_at h
    refine kjD (kV (own := "DateSpansModel") (C := "DateSpansModel") (b := h_this) (As := [.int p1]) (rest := []) ⟨hx, hb, hml, hown, hts⟩ (kX10_lengthOf l dC dI cI cJ cB h_this h_this_dayAt h_this_secondAt h_this_spans h_this_kept h_this_text h_this_row h_this_read h_this_many h_this_first h_this_lengths h_this_page N p1 (upd i_this 9 (0 : Int32)) j_this f_this_spans r7 hc8 _) (kgV (kq q_1454 rfl) (kq q_1456 rfl) (kq q_49 rfl) (kq q_66 rfl) (kq q_1457 rfl)) yd_X10_lengthOf ⟨Nat.le_of_ble_eq_true rfl, Nat.le_of_ble_eq_true rfl⟩ hN hK hP hD [0, 1] rfl rfl (ci := 9) rfl rfl rfl rfl rfl hl.1 rfl (lv_room (Nat.le_of_ble_eq_true rfl)) dX10_share_25) hP hD hS hA [0, 1] rfl rfl (fun H locs hP hD hS => ?_)
    have hP : va_P (dC, dI) vwCl [cl_X10 h_this h_this_dayAt h_this_secondAt h_this_spans h_this_kept h_this_text h_this_row h_this_read h_this_many h_this_first h_this_lengths h_this_page (upd i_this 9 (0 : Int32)) j_this, (h_this_spans, .inl (cI, 24, .inl f_this_spans))] H := hP
    have hD : va_D A [cl_X10 h_this h_this_dayAt h_this_secondAt h_this_spans h_this_kept h_this_text h_this_row h_this_read h_this_many h_this_first h_this_lengths h_this_page (upd i_this 9 (0 : Int32)) j_this, (h_this_spans, .inl (cI, 24, .inl f_this_spans))] := hD
    refine lv_aload_n hx hb dX10_share_28 rfl (lv_at hl 0 rfl) ?_
    refine lv_iload_n hx hb dX10_share_29 rfl (lv_at hl 2 rfl) ?_
    obtain ⟨r9, hc10, h⟩ := bd1_at h
    refine kjD (kV (own := "DateSpansModel") (C := "DateSpansModel") (b := h_this) (As := [.int p2]) (rest := [.double r7]) ⟨hx, hb, hml, hown, hts⟩ (kX10_lengthOf l dC dI cI cJ cB h_this h_this_dayAt h_this_secondAt h_this_spans h_this_kept h_this_text h_this_row h_this_read h_this_many h_this_first h_this_lengths h_this_page N p2 (upd i_this 9 (0 : Int32)) j_this f_this_spans r9 hc10 _) (kgV (kq q_1454 rfl) (kq q_1456 rfl) (kq q_49 rfl) (kq q_66 rfl) (kq q_1457 rfl)) yd_X10_lengthOf ⟨Nat.le_of_ble_eq_true rfl, Nat.le_of_ble_eq_true rfl⟩ hN hK hP hD [0, 1] rfl rfl (ci := 9) rfl rfl rfl rfl rfl hl.1 rfl (lv_room (Nat.le_of_ble_eq_true rfl)) dX10_share_30) hP hD hS hA [0, 1] rfl rfl (fun H locs hP hD hS => ?_)
    have hP : va_P (dC, dI) vwCl [cl_X10 h_this h_this_dayAt h_this_secondAt h_this_spans h_this_kept h_this_text h_this_row h_this_read h_this_many h_this_first h_this_lengths h_this_page (upd i_this 9 (0 : Int32)) j_this, (h_this_spans, .inl (cI, 24, .inl f_this_spans))] H := hP
    have hD : va_D A [cl_X10 h_this h_this_dayAt h_this_secondAt h_this_spans h_this_kept h_this_text h_this_row h_this_read h_this_many h_this_first h_this_lengths h_this_page (upd i_this 9 (0 : Int32)) j_this, (h_this_spans, .inl (cI, 24, .inl f_this_spans))] := hD
    refine lv_ddiv_any hd0 lw_bits hx hb dX10_share_33 (fun y11 d12 hal13 hd0 => ?_)
    obtain ⟨⟨-, -, -, -, hts⟩, hN, hK⟩ := hs d12
    obtain ⟨r14, hc15, h⟩ := bd1_at h
    refine kjSL (kS0 (own := "DateSpansModel") (As := [.double y11]) (rest := []) ⟨hx, hb, hml, hown, hts⟩ (kJxe99ae_doubleToLongBits_ccdee l N y11 r14 ((dbits_alike N hal13).trans hc15)) (kgS (kq q_1497 rfl) (kq q_1498 rfl) (kq q_75 rfl) (kq q_1499 rfl)) yd_Jxe99ae_doubleToLongBits_ccdee ⟨Nat.le_of_ble_eq_true rfl, Nat.le_of_ble_eq_true rfl⟩ rfl rfl hl.1 rfl (lv_room (Nat.le_of_ble_eq_true rfl)) dX10_share_34) ?_
    obtain ⟨rfl, rfl⟩ := pj2 h
    exact hEnd _ _ _ _ _ hd0 hP hS dX10_share_37
  have h := ite_t c6 h
  refine lv_ldc2 (v := (-1 : Int64)) hx hb hown (hts _ (kq q_1363 rfl)) dX10_share_19 ?_
  obtain ⟨rfl, rfl⟩ := pj2 h
  exact hEnd _ _ _ _ _ hd0 hP hS dX10_share_22
noncomputable def fX10_rest (N : Nat) (p1 : Int32) (p2 : Int32) (i_this : Nat → Int32) (j_this : Nat → Int64) (f_this_spans : Nat → Int32) : Option (Int64 × (Nat → Int32)) := (bd1 (fX10_isSlot N p1) fun r1 => (if r1 = (0 : Int32) then (some ((-1 : Int64), (upd i_this 9 (0 : Int32)))) else (bd1 (fX10_isSlot N p2) fun r4 => (if r4 = (0 : Int32) then (some ((-1 : Int64), (upd i_this 9 (0 : Int32)))) else (bd1 (fX10_lengthOf N p1 (upd i_this 9 (0 : Int32)) j_this f_this_spans) fun r7 => (bd1 (fX10_lengthOf N p2 (upd i_this 9 (0 : Int32)) j_this f_this_spans) fun r9 => (bd1 (fJxe99ae_doubleToLongBits_ccdee N (FP.drem r7 r9)) fun r14 => (some (r14, (upd i_this 9 (0 : Int32)))))))))))
set_option maxHeartbeats 4000000 in
set_option maxRecDepth 100000 in
theorem kX10_rest (l : Launch) (dC : Nat → ClassId) (dI : Nat → Nat → Nat) (cI cJ cB : ClassId) (h_this h_this_dayAt h_this_secondAt h_this_spans h_this_kept h_this_text h_this_row h_this_read h_this_many h_this_first h_this_lengths h_this_page : Nat) (N : Nat) (p1 : Int32) (p2 : Int32) (i_this : Nat → Int32) (j_this : Nat → Int64) (f_this_spans : Nat → Int32) (r : Int64) (o_i_this : Nat → Int32) (hf : fX10_rest N p1 p2 i_this j_this f_this_spans = some (r, o_i_this)) : MLd l yX10_rest (kws yX10_rest cX10_rest 3 (some .long)) (kR 2 45) (dC, dI) (kT cI cJ cB) [.ref h_this, .int p1, .int p2] [cl_X10 h_this h_this_dayAt h_this_secondAt h_this_spans h_this_kept h_this_text h_this_row h_this_read h_this_many h_this_first h_this_lengths h_this_page i_this j_this, (h_this_spans, .inl (cI, 24, .inl f_this_spans))] [cl_X10 h_this h_this_dayAt h_this_secondAt h_this_spans h_this_kept h_this_text h_this_row h_this_read h_this_many h_this_first h_this_lengths h_this_page o_i_this j_this, (h_this_spans, .inl (cI, 24, .inl f_this_spans))] r := by
  refine MLd.of (cc := cX10_rest) (maxL := 3) (by decide) (Nat.le_of_ble_eq_true rfl) (fun p e s m args below meth c A Q ls hs hd0 hP hD hA hl hEnd => ?_)
  obtain ⟨⟨hx, hb, hml, hown, hts⟩, hN, hK⟩ := hs s.drawn
  have hown : s.vm.findClass "DateSpansModel" = some m.cls := hown
  have hl : lv_has ls 3 [(0, .ref h_this), (1, .int p1), (2, .int p2)] := hl
  have hS : va_S A s.heap s.heap [] := va_S.rf
  have h := hf
  unfold fX10_rest at h
  refine lv_aload_n hx hb dX10_rest_0 rfl (lv_at hl 0 rfl) ?_
  refine lv_iconst (v := (0 : Int32)) hx hb dX10_rest_1 (by decide) ?_
  refine va_put (D := (dC, dI)) (ci := 9) (v := .int (0 : Int32)) (ty := .int) (C := RX10) (T := TX10) (N := 29) hx hb hts inX10 tyX10 tyX10_ok nmX10 hown hK hP hD hS 0 rfl rfl 9 (by decide) (hts _ (kq q_995 rfl)) (fun _ h9 => h9) rfl (by decide +kernel) rfl rfl (Nat.le_of_ble_eq_true rfl) dX10_rest_2 (fun H locs hP hD hS => ?_)
  have hP : va_P (dC, dI) vwCl [(h_this, .inr (9, [.ref h_this_dayAt, .ref h_this_secondAt, .ref h_this_spans, .ref h_this_kept, .int (i_this 4), .ref h_this_text, .int (i_this 6), .ref h_this_row, .int (i_this 8), .int (0 : Int32), .int (i_this 10), .int (i_this 11), .int (i_this 12), .int (i_this 13), .int (i_this 14), .int (i_this 15), .int (i_this 16), .int (i_this 17), .int (i_this 18), .ref h_this_read, .long (j_this 20), .ref h_this_many, .ref h_this_first, .ref h_this_lengths, .int (i_this 24), .long (j_this 25), .long (j_this 26), .ref h_this_page, .int (i_this 28)])), (h_this_spans, .inl (cI, 24, .inl f_this_spans))] H := hP
  have hD : va_D A [(h_this, .inr (9, [.ref h_this_dayAt, .ref h_this_secondAt, .ref h_this_spans, .ref h_this_kept, .int (i_this 4), .ref h_this_text, .int (i_this 6), .ref h_this_row, .int (i_this 8), .int (0 : Int32), .int (i_this 10), .int (i_this 11), .int (i_this 12), .int (i_this 13), .int (i_this 14), .int (i_this 15), .int (i_this 16), .int (i_this 17), .int (i_this 18), .ref h_this_read, .long (j_this 20), .ref h_this_many, .ref h_this_first, .ref h_this_lengths, .int (i_this 24), .long (j_this 25), .long (j_this 26), .ref h_this_page, .int (i_this 28)])), (h_this_spans, .inl (cI, 24, .inl f_this_spans))] := hD
  refine lv_iload_n hx hb dX10_rest_5 rfl (lv_at hl 1 rfl) ?_
  have hP : va_P (dC, dI) vwCl [cl_X10 h_this h_this_dayAt h_this_secondAt h_this_spans h_this_kept h_this_text h_this_row h_this_read h_this_many h_this_first h_this_lengths h_this_page (upd i_this 9 (0 : Int32)) j_this, (h_this_spans, .inl (cI, 24, .inl f_this_spans))] H := hP
  have hD : va_D A [cl_X10 h_this h_this_dayAt h_this_secondAt h_this_spans h_this_kept h_this_text h_this_row h_this_read h_this_many h_this_first h_this_lengths h_this_page (upd i_this 9 (0 : Int32)) j_this, (h_this_spans, .inl (cI, 24, .inl f_this_spans))] := hD
  obtain ⟨r1, hc2, h⟩ := bd1_at h
  refine kjSI (kS0 (own := "DateSpansModel") (As := [.int p1]) (rest := []) ⟨hx, hb, hml, hown, hts⟩ (kX10_isSlot l N p1 r1 hc2) (kgS (kq q_1123 rfl) (kq q_1124 rfl) (kq q_66 rfl) (kq q_1125 rfl)) yd_X10_isSlot ⟨Nat.le_of_ble_eq_true rfl, Nat.le_of_ble_eq_true rfl⟩ rfl rfl hl.1 rfl (lv_room (Nat.le_of_ble_eq_true rfl)) dX10_rest_6) ?_
  refine lv_if_eq (tgt := 19) hx hb dX10_rest_9 (by decide) (fun c3 => ?_) (fun c3 => ?_)
  · have h := ite_t c3 h
    refine lv_ldc2 (v := (-1 : Int64)) hx hb hown (hts _ (kq q_1363 rfl)) dX10_rest_19 ?_
    obtain ⟨rfl, rfl⟩ := pj2 h
    exact hEnd _ _ _ _ _ hd0 hP hS dX10_rest_22
  have h := ite_f c3 h
  refine lv_iload_n hx hb dX10_rest_12 rfl (lv_at hl 2 rfl) ?_
  obtain ⟨r4, hc5, h⟩ := bd1_at h
  refine kjSI (kS0 (own := "DateSpansModel") (As := [.int p2]) (rest := []) ⟨hx, hb, hml, hown, hts⟩ (kX10_isSlot l N p2 r4 hc5) (kgS (kq q_1123 rfl) (kq q_1124 rfl) (kq q_66 rfl) (kq q_1125 rfl)) yd_X10_isSlot ⟨Nat.le_of_ble_eq_true rfl, Nat.le_of_ble_eq_true rfl⟩ rfl rfl hl.1 rfl (lv_room (Nat.le_of_ble_eq_true rfl)) dX10_rest_13) ?_
  refine lv_if_ne (tgt := 23) hx hb dX10_rest_16 (by decide) (fun c6 => ?_) (fun c6 => ?_)
  · have h := ite_f c6 h
    refine lv_aload_n hx hb dX10_rest_23 rfl (lv_at hl 0 rfl) ?_
    refine lv_iload_n hx hb dX10_rest_24 rfl (lv_at hl 1 rfl) ?_
    obtain ⟨r7, hc8, h⟩ := bd1_at h
    refine kjD (kV (own := "DateSpansModel") (C := "DateSpansModel") (b := h_this) (As := [.int p1]) (rest := []) ⟨hx, hb, hml, hown, hts⟩ (kX10_lengthOf l dC dI cI cJ cB h_this h_this_dayAt h_this_secondAt h_this_spans h_this_kept h_this_text h_this_row h_this_read h_this_many h_this_first h_this_lengths h_this_page N p1 (upd i_this 9 (0 : Int32)) j_this f_this_spans r7 hc8 _) (kgV (kq q_1454 rfl) (kq q_1456 rfl) (kq q_49 rfl) (kq q_66 rfl) (kq q_1457 rfl)) yd_X10_lengthOf ⟨Nat.le_of_ble_eq_true rfl, Nat.le_of_ble_eq_true rfl⟩ hN hK hP hD [0, 1] rfl rfl (ci := 9) rfl rfl rfl rfl rfl hl.1 rfl (lv_room (Nat.le_of_ble_eq_true rfl)) dX10_rest_25) hP hD hS hA [0, 1] rfl rfl (fun H locs hP hD hS => ?_)
    have hP : va_P (dC, dI) vwCl [cl_X10 h_this h_this_dayAt h_this_secondAt h_this_spans h_this_kept h_this_text h_this_row h_this_read h_this_many h_this_first h_this_lengths h_this_page (upd i_this 9 (0 : Int32)) j_this, (h_this_spans, .inl (cI, 24, .inl f_this_spans))] H := hP
    have hD : va_D A [cl_X10 h_this h_this_dayAt h_this_secondAt h_this_spans h_this_kept h_this_text h_this_row h_this_read h_this_many h_this_first h_this_lengths h_this_page (upd i_this 9 (0 : Int32)) j_this, (h_this_spans, .inl (cI, 24, .inl f_this_spans))] := hD
    refine lv_aload_n hx hb dX10_rest_28 rfl (lv_at hl 0 rfl) ?_
    refine lv_iload_n hx hb dX10_rest_29 rfl (lv_at hl 2 rfl) ?_
    obtain ⟨r9, hc10, h⟩ := bd1_at h
    refine kjD (kV (own := "DateSpansModel") (C := "DateSpansModel") (b := h_this) (As := [.int p2]) (rest := [.double r7]) ⟨hx, hb, hml, hown, hts⟩ (kX10_lengthOf l dC dI cI cJ cB h_this h_this_dayAt h_this_secondAt h_this_spans h_this_kept h_this_text h_this_row h_this_read h_this_many h_this_first h_this_lengths h_this_page N p2 (upd i_this 9 (0 : Int32)) j_this f_this_spans r9 hc10 _) (kgV (kq q_1454 rfl) (kq q_1456 rfl) (kq q_49 rfl) (kq q_66 rfl) (kq q_1457 rfl)) yd_X10_lengthOf ⟨Nat.le_of_ble_eq_true rfl, Nat.le_of_ble_eq_true rfl⟩ hN hK hP hD [0, 1] rfl rfl (ci := 9) rfl rfl rfl rfl rfl hl.1 rfl (lv_room (Nat.le_of_ble_eq_true rfl)) dX10_rest_30) hP hD hS hA [0, 1] rfl rfl (fun H locs hP hD hS => ?_)
    have hP : va_P (dC, dI) vwCl [cl_X10 h_this h_this_dayAt h_this_secondAt h_this_spans h_this_kept h_this_text h_this_row h_this_read h_this_many h_this_first h_this_lengths h_this_page (upd i_this 9 (0 : Int32)) j_this, (h_this_spans, .inl (cI, 24, .inl f_this_spans))] H := hP
    have hD : va_D A [cl_X10 h_this h_this_dayAt h_this_secondAt h_this_spans h_this_kept h_this_text h_this_row h_this_read h_this_many h_this_first h_this_lengths h_this_page (upd i_this 9 (0 : Int32)) j_this, (h_this_spans, .inl (cI, 24, .inl f_this_spans))] := hD
    refine lv_drem_any hd0 lw_bits hx hb dX10_rest_33 (fun y11 d12 hal13 hd0 => ?_)
    obtain ⟨⟨-, -, -, -, hts⟩, hN, hK⟩ := hs d12
    obtain ⟨r14, hc15, h⟩ := bd1_at h
    refine kjSL (kS0 (own := "DateSpansModel") (As := [.double y11]) (rest := []) ⟨hx, hb, hml, hown, hts⟩ (kJxe99ae_doubleToLongBits_ccdee l N y11 r14 ((dbits_alike N hal13).trans hc15)) (kgS (kq q_1497 rfl) (kq q_1498 rfl) (kq q_75 rfl) (kq q_1499 rfl)) yd_Jxe99ae_doubleToLongBits_ccdee ⟨Nat.le_of_ble_eq_true rfl, Nat.le_of_ble_eq_true rfl⟩ rfl rfl hl.1 rfl (lv_room (Nat.le_of_ble_eq_true rfl)) dX10_rest_34) ?_
    obtain ⟨rfl, rfl⟩ := pj2 h
    exact hEnd _ _ _ _ _ hd0 hP hS dX10_rest_37
  have h := ite_t c6 h
  refine lv_ldc2 (v := (-1 : Int64)) hx hb hown (hts _ (kq q_1363 rfl)) dX10_rest_19 ?_
  obtain ⟨rfl, rfl⟩ := pj2 h
  exact hEnd _ _ _ _ _ hd0 hP hS dX10_rest_22
noncomputable def fX10_years (N : Nat) (p1 : Int32) (i_this : Nat → Int32) (j_this : Nat → Int64) (f_this_spans : Nat → Int32) : Option (Int32 × (Nat → Int32)) := (bd1 (fX10_isSlot N p1) fun r1 => (if r1 = (0 : Int32) then (some ((-1 : Int32), (upd i_this 9 (0 : Int32)))) else (bd1 (fX10_lengthOf N p1 (upd i_this 9 (0 : Int32)) j_this f_this_spans) fun r4 => (g64 (FP.ddiv r4 (4719236215029628928 : UInt64)) (g32 (FP.d2f (FP.ddiv r4 (4719236215029628928 : UInt64))) (bd1 (fJxf58ca_floatToIntBits_5c35a N (FP.d2f (FP.ddiv r4 (4719236215029628928 : UInt64)))) fun r8 => (some (r8, (upd i_this 9 (0 : Int32))))))))))
set_option maxHeartbeats 4000000 in
set_option maxRecDepth 100000 in
theorem kX10_years (l : Launch) (dC : Nat → ClassId) (dI : Nat → Nat → Nat) (cI cJ cB : ClassId) (h_this h_this_dayAt h_this_secondAt h_this_spans h_this_kept h_this_text h_this_row h_this_read h_this_many h_this_first h_this_lengths h_this_page : Nat) (N : Nat) (p1 : Int32) (i_this : Nat → Int32) (j_this : Nat → Int64) (f_this_spans : Nat → Int32) (r : Int32) (o_i_this : Nat → Int32) (hf : fX10_years N p1 i_this j_this f_this_spans = some (r, o_i_this)) : MI l yX10_years (kws yX10_years cX10_years 2 (some .int)) (kR 2 45) (dC, dI) (kT cI cJ cB) [.ref h_this, .int p1] [cl_X10 h_this h_this_dayAt h_this_secondAt h_this_spans h_this_kept h_this_text h_this_row h_this_read h_this_many h_this_first h_this_lengths h_this_page i_this j_this, (h_this_spans, .inl (cI, 24, .inl f_this_spans))] [cl_X10 h_this h_this_dayAt h_this_secondAt h_this_spans h_this_kept h_this_text h_this_row h_this_read h_this_many h_this_first h_this_lengths h_this_page o_i_this j_this, (h_this_spans, .inl (cI, 24, .inl f_this_spans))] r := by
  refine MI.of (cc := cX10_years) (maxL := 2) (by decide) (Nat.le_of_ble_eq_true rfl) (fun p e s m args below meth c A Q ls KC hN hK hP hD hA hl hEnd => ?_)
  obtain ⟨hx, hb, hml, hown, hts⟩ := KC
  have hown : s.vm.findClass "DateSpansModel" = some m.cls := hown
  have hl : lv_has ls 2 [(0, .ref h_this), (1, .int p1)] := hl
  have hS : va_S A s.heap s.heap [] := va_S.rf
  have h := hf
  unfold fX10_years at h
  refine lv_aload_n hx hb dX10_years_0 rfl (lv_at hl 0 rfl) ?_
  refine lv_iconst (v := (0 : Int32)) hx hb dX10_years_1 (by decide) ?_
  refine va_put (D := (dC, dI)) (ci := 9) (v := .int (0 : Int32)) (ty := .int) (C := RX10) (T := TX10) (N := 29) hx hb hts inX10 tyX10 tyX10_ok nmX10 hown hK hP hD hS 0 rfl rfl 9 (by decide) (hts _ (kq q_995 rfl)) (fun _ h9 => h9) rfl (by decide +kernel) rfl rfl (Nat.le_of_ble_eq_true rfl) dX10_years_2 (fun H locs hP hD hS => ?_)
  have hP : va_P (dC, dI) vwCl [(h_this, .inr (9, [.ref h_this_dayAt, .ref h_this_secondAt, .ref h_this_spans, .ref h_this_kept, .int (i_this 4), .ref h_this_text, .int (i_this 6), .ref h_this_row, .int (i_this 8), .int (0 : Int32), .int (i_this 10), .int (i_this 11), .int (i_this 12), .int (i_this 13), .int (i_this 14), .int (i_this 15), .int (i_this 16), .int (i_this 17), .int (i_this 18), .ref h_this_read, .long (j_this 20), .ref h_this_many, .ref h_this_first, .ref h_this_lengths, .int (i_this 24), .long (j_this 25), .long (j_this 26), .ref h_this_page, .int (i_this 28)])), (h_this_spans, .inl (cI, 24, .inl f_this_spans))] H := hP
  have hD : va_D A [(h_this, .inr (9, [.ref h_this_dayAt, .ref h_this_secondAt, .ref h_this_spans, .ref h_this_kept, .int (i_this 4), .ref h_this_text, .int (i_this 6), .ref h_this_row, .int (i_this 8), .int (0 : Int32), .int (i_this 10), .int (i_this 11), .int (i_this 12), .int (i_this 13), .int (i_this 14), .int (i_this 15), .int (i_this 16), .int (i_this 17), .int (i_this 18), .ref h_this_read, .long (j_this 20), .ref h_this_many, .ref h_this_first, .ref h_this_lengths, .int (i_this 24), .long (j_this 25), .long (j_this 26), .ref h_this_page, .int (i_this 28)])), (h_this_spans, .inl (cI, 24, .inl f_this_spans))] := hD
  refine lv_iload_n hx hb dX10_years_5 rfl (lv_at hl 1 rfl) ?_
  have hP : va_P (dC, dI) vwCl [cl_X10 h_this h_this_dayAt h_this_secondAt h_this_spans h_this_kept h_this_text h_this_row h_this_read h_this_many h_this_first h_this_lengths h_this_page (upd i_this 9 (0 : Int32)) j_this, (h_this_spans, .inl (cI, 24, .inl f_this_spans))] H := hP
  have hD : va_D A [cl_X10 h_this h_this_dayAt h_this_secondAt h_this_spans h_this_kept h_this_text h_this_row h_this_read h_this_many h_this_first h_this_lengths h_this_page (upd i_this 9 (0 : Int32)) j_this, (h_this_spans, .inl (cI, 24, .inl f_this_spans))] := hD
  obtain ⟨r1, hc2, h⟩ := bd1_at h
  refine kjSI (kS0 (own := "DateSpansModel") (As := [.int p1]) (rest := []) ⟨hx, hb, hml, hown, hts⟩ (kX10_isSlot l N p1 r1 hc2) (kgS (kq q_1123 rfl) (kq q_1124 rfl) (kq q_66 rfl) (kq q_1125 rfl)) yd_X10_isSlot ⟨Nat.le_of_ble_eq_true rfl, Nat.le_of_ble_eq_true rfl⟩ rfl rfl hl.1 rfl (lv_room (Nat.le_of_ble_eq_true rfl)) dX10_years_6) ?_
  refine lv_if_ne (tgt := 14) hx hb dX10_years_9 (by decide) (fun c3 => ?_) (fun c3 => ?_)
  · have h := ite_f c3 h
    refine lv_aload_n hx hb dX10_years_14 rfl (lv_at hl 0 rfl) ?_
    refine lv_iload_n hx hb dX10_years_15 rfl (lv_at hl 1 rfl) ?_
    obtain ⟨r4, hc5, h⟩ := bd1_at h
    refine kjD (kV (own := "DateSpansModel") (C := "DateSpansModel") (b := h_this) (As := [.int p1]) (rest := []) ⟨hx, hb, hml, hown, hts⟩ (kX10_lengthOf l dC dI cI cJ cB h_this h_this_dayAt h_this_secondAt h_this_spans h_this_kept h_this_text h_this_row h_this_read h_this_many h_this_first h_this_lengths h_this_page N p1 (upd i_this 9 (0 : Int32)) j_this f_this_spans r4 hc5 _) (kgV (kq q_1454 rfl) (kq q_1456 rfl) (kq q_49 rfl) (kq q_66 rfl) (kq q_1457 rfl)) yd_X10_lengthOf ⟨Nat.le_of_ble_eq_true rfl, Nat.le_of_ble_eq_true rfl⟩ hN hK hP hD [0, 1] rfl rfl (ci := 9) rfl rfl rfl rfl rfl hl.1 rfl (lv_room (Nat.le_of_ble_eq_true rfl)) dX10_years_16) hP hD hS hA [0, 1] rfl rfl (fun H locs hP hD hS => ?_)
    have hP : va_P (dC, dI) vwCl [cl_X10 h_this h_this_dayAt h_this_secondAt h_this_spans h_this_kept h_this_text h_this_row h_this_read h_this_many h_this_first h_this_lengths h_this_page (upd i_this 9 (0 : Int32)) j_this, (h_this_spans, .inl (cI, 24, .inl f_this_spans))] H := hP
    have hD : va_D A [cl_X10 h_this h_this_dayAt h_this_secondAt h_this_spans h_this_kept h_this_text h_this_row h_this_read h_this_many h_this_first h_this_lengths h_this_page (upd i_this 9 (0 : Int32)) j_this, (h_this_spans, .inl (cI, 24, .inl f_this_spans))] := hD
    refine lv_ldc2d (v := (4719236215029628928 : UInt64)) hx hb hown (hts _ (kq q_1515 rfl)) dX10_years_19 ?_
    obtain ⟨hn6, h⟩ := g64_at h
    refine lv_ddiv hx hb dX10_years_22 hn6 ?_
    obtain ⟨hn7, h⟩ := g32_at h
    refine lv_d2f hx hb dX10_years_23 hn7 ?_
    obtain ⟨r8, hc9, h⟩ := bd1_at h
    refine kjSI (kS0 (own := "DateSpansModel") (As := [.float (FP.d2f (FP.ddiv r4 (4719236215029628928 : UInt64)))]) (rest := []) ⟨hx, hb, hml, hown, hts⟩ (kJxf58ca_floatToIntBits_5c35a l N (FP.d2f (FP.ddiv r4 (4719236215029628928 : UInt64))) r8 hc9) (kgS (kq q_1516 rfl) (kq q_1517 rfl) (kq q_76 rfl) (kq q_1518 rfl)) yd_Jxf58ca_floatToIntBits_5c35a ⟨Nat.le_of_ble_eq_true rfl, Nat.le_of_ble_eq_true rfl⟩ rfl rfl hl.1 rfl (lv_room (Nat.le_of_ble_eq_true rfl)) dX10_years_24) ?_
    obtain ⟨rfl, rfl⟩ := pj2 h
    exact hEnd _ _ _ _ hP hS dX10_years_27 rfl
  have h := ite_t c3 h
  refine lv_iconst (v := (-1 : Int32)) hx hb dX10_years_12 (by decide) ?_
  obtain ⟨rfl, rfl⟩ := pj2 h
  exact hEnd _ _ _ _ hP hS dX10_years_13 rfl
