noncomputable def fX9_isLaw (N : Nat) (p1 : Int32) : Option (Int32) := (if p1 < (0 : Int32) then (some (0 : Int32)) else (if (3 : Int32) < p1 then (some (0 : Int32)) else (some (1 : Int32))))
set_option maxHeartbeats 4000000 in
set_option maxRecDepth 100000 in
theorem kX9_isLaw (l : Launch) (N : Nat) (p1 : Int32) (r : Int32) (hf : fX9_isLaw N p1 = some r) : SI l yX9_isLaw (kws yX9_isLaw cX9_isLaw 1 (some .boolean)) (kR 0 0) [.int p1] r := by
  refine SI.of (cc := cX9_isLaw) (maxL := 1) (by decide) (Nat.le_of_ble_eq_true rfl) (fun p e s m args below meth c Q ls KC hl hEnd => ?_)
  obtain ⟨hx, hb, hml, hown, hts⟩ := KC
  have hown : s.vm.findClass "DateSpans" = some m.cls := hown
  have hl : lv_has ls 1 [(0, .int p1)] := hl
  have h := hf
  unfold fX9_isLaw at h
  refine lv_iload_n hx hb dX9_isLaw_0 rfl (lv_at hl 0 rfl) ?_
  refine lv_if_lt (tgt := 13) hx hb dX9_isLaw_1 (by decide) (fun c1 => ?_) (fun c1 => ?_)
  · have h := ite_t c1 h
    refine lv_iconst (v := (0 : Int32)) hx hb dX9_isLaw_13 (by decide) ?_
    obtain rfl := pj1 h
    exact hEnd _ _ dX9_isLaw_14 rfl
  have h := ite_f c1 h
  refine lv_iload_n hx hb dX9_isLaw_4 rfl (lv_at hl 0 rfl) ?_
  refine lv_iconst (v := (3 : Int32)) hx hb dX9_isLaw_5 (by decide) ?_
  refine lv_icmp_gt (tgt := 13) hx hb dX9_isLaw_6 (by decide) (fun c2 => ?_) (fun c2 => ?_)
  · have h := ite_t c2 h
    refine lv_iconst (v := (0 : Int32)) hx hb dX9_isLaw_13 (by decide) ?_
    obtain rfl := pj1 h
    exact hEnd _ _ dX9_isLaw_14 rfl
  have h := ite_f c2 h
  refine lv_iconst (v := (1 : Int32)) hx hb dX9_isLaw_9 (by decide) ?_
  refine lv_goto (tgt := 14) hx hb dX9_isLaw_10 (by decide) ?_
  obtain rfl := pj1 h
  exact hEnd _ _ dX9_isLaw_14 rfl
noncomputable def fX9_isOrder (N : Nat) (p1 : Int32) : Option (Int32) := (if p1 = (0 : Int32) then (some (1 : Int32)) else (if p1 = (1 : Int32) then (some (1 : Int32)) else (some (0 : Int32))))
set_option maxHeartbeats 4000000 in
set_option maxRecDepth 100000 in
theorem kX9_isOrder (l : Launch) (N : Nat) (p1 : Int32) (r : Int32) (hf : fX9_isOrder N p1 = some r) : SI l yX9_isOrder (kws yX9_isOrder cX9_isOrder 1 (some .boolean)) (kR 0 0) [.int p1] r := by
  refine SI.of (cc := cX9_isOrder) (maxL := 1) (by decide) (Nat.le_of_ble_eq_true rfl) (fun p e s m args below meth c Q ls KC hl hEnd => ?_)
  obtain ⟨hx, hb, hml, hown, hts⟩ := KC
  have hown : s.vm.findClass "DateSpans" = some m.cls := hown
  have hl : lv_has ls 1 [(0, .int p1)] := hl
  have h := hf
  unfold fX9_isOrder at h
  refine lv_iload_n hx hb dX9_isOrder_0 rfl (lv_at hl 0 rfl) ?_
  refine lv_if_eq (tgt := 9) hx hb dX9_isOrder_1 (by decide) (fun c1 => ?_) (fun c1 => ?_)
  · have h := ite_t c1 h
    refine lv_iconst (v := (1 : Int32)) hx hb dX9_isOrder_9 (by decide) ?_
    refine lv_goto (tgt := 14) hx hb dX9_isOrder_10 (by decide) ?_
    obtain rfl := pj1 h
    exact hEnd _ _ dX9_isOrder_14 rfl
  have h := ite_f c1 h
  refine lv_iload_n hx hb dX9_isOrder_4 rfl (lv_at hl 0 rfl) ?_
  refine lv_iconst (v := (1 : Int32)) hx hb dX9_isOrder_5 (by decide) ?_
  refine lv_icmp_ne (tgt := 13) hx hb dX9_isOrder_6 (by decide) (fun c2 => ?_) (fun c2 => ?_)
  · have h := ite_f c2 h
    refine lv_iconst (v := (0 : Int32)) hx hb dX9_isOrder_13 (by decide) ?_
    obtain rfl := pj1 h
    exact hEnd _ _ dX9_isOrder_14 rfl
  have h := ite_t c2 h
  refine lv_iconst (v := (1 : Int32)) hx hb dX9_isOrder_9 (by decide) ?_
  refine lv_goto (tgt := 14) hx hb dX9_isOrder_10 (by decide) ?_
  obtain rfl := pj1 h
  exact hEnd _ _ dX9_isOrder_14 rfl
noncomputable def fX0_takesNumbers (N : Nat) (p1 : Int32) (p2 : Int32) (p3 : Int32) (p4 : Int32) (i_this : Nat → Int32) : Option ((Nat → Int32)) := (some (upd (upd (upd (upd (upd i_this 0 p1) 1 p2) 2 p3) 3 p4) 5 (0 : Int32)))
set_option maxHeartbeats 4000000 in
set_option maxRecDepth 100000 in
theorem kX0_takesNumbers (l : Launch) (dC : Nat → ClassId) (dI : Nat → Nat → Nat) (cI cJ cB : ClassId) (h_this : Nat) (N : Nat) (p1 : Int32) (p2 : Int32) (p3 : Int32) (p4 : Int32) (i_this : Nat → Int32) (o_i_this : Nat → Int32) (hf : fX0_takesNumbers N p1 p2 p3 p4 i_this = some o_i_this) : MV l yX0_takesNumbers (kws yX0_takesNumbers cX0_takesNumbers 5 (none)) (kR 0 0) (dC, dI) (kT cI cJ cB) [.ref h_this, .int p1, .int p2, .int p3, .int p4] [cl_X0 h_this i_this] [cl_X0 h_this o_i_this] := by
  refine MV.of (cc := cX0_takesNumbers) (maxL := 5) (by decide) (Nat.le_of_ble_eq_true rfl) (fun p e s m args below meth c A Q ls KC hN hK hP hD hA hl hEnd => ?_)
  obtain ⟨hx, hb, hml, hown, hts⟩ := KC
  have hown : s.vm.findClass "DateSpans$Adder" = some m.cls := hown
  have hl : lv_has ls 5 [(0, .ref h_this), (1, .int p1), (2, .int p2), (3, .int p3), (4, .int p4)] := hl
  have hS : va_S A s.heap s.heap [] := va_S.rf
  have h := hf
  unfold fX0_takesNumbers at h
  refine lv_aload_n hx hb dX0_takesNumbers_0 rfl (lv_at hl 0 rfl) ?_
  refine lv_iload_n hx hb dX0_takesNumbers_1 rfl (lv_at hl 1 rfl) ?_
  refine va_put (D := (dC, dI)) (ci := 0) (v := .int p1) (ty := .int) (C := RX0) (T := TX0) (N := 11) hx hb hts inX0 tyX0 tyX0_ok nmX0 hown hK hP hD hS 0 rfl rfl 0 (by decide) (hts _ (kq q_140 rfl)) (fun _ h9 => h9) rfl (by decide +kernel) rfl rfl (Nat.le_of_ble_eq_true rfl) dX0_takesNumbers_2 (fun H locs hP hD hS => ?_)
  have hP : va_P (dC, dI) vwCl [(h_this, .inr (0, [.int p1, .int (i_this 1), .int (i_this 2), .int (i_this 3), .int (i_this 4), .int (i_this 5), .int (i_this 6), .int (i_this 7), .int (i_this 8), .int (i_this 9), .int (i_this 10)]))] H := hP
  have hD : va_D A [(h_this, .inr (0, [.int p1, .int (i_this 1), .int (i_this 2), .int (i_this 3), .int (i_this 4), .int (i_this 5), .int (i_this 6), .int (i_this 7), .int (i_this 8), .int (i_this 9), .int (i_this 10)]))] := hD
  refine lv_aload_n hx hb dX0_takesNumbers_5 rfl (lv_at hl 0 rfl) ?_
  refine lv_iload_n hx hb dX0_takesNumbers_6 rfl (lv_at hl 2 rfl) ?_
  refine va_put (D := (dC, dI)) (ci := 0) (v := .int p2) (ty := .int) (C := RX0) (T := TX0) (N := 11) hx hb hts inX0 tyX0 tyX0_ok nmX0 hown hK hP hD hS 0 rfl rfl 1 (by decide) (hts _ (kq q_141 rfl)) (fun _ h9 => h9) rfl (by decide +kernel) rfl rfl (Nat.le_of_ble_eq_true rfl) dX0_takesNumbers_7 (fun H locs hP hD hS => ?_)
  have hP : va_P (dC, dI) vwCl [(h_this, .inr (0, [.int p1, .int p2, .int (i_this 2), .int (i_this 3), .int (i_this 4), .int (i_this 5), .int (i_this 6), .int (i_this 7), .int (i_this 8), .int (i_this 9), .int (i_this 10)]))] H := hP
  have hD : va_D A [(h_this, .inr (0, [.int p1, .int p2, .int (i_this 2), .int (i_this 3), .int (i_this 4), .int (i_this 5), .int (i_this 6), .int (i_this 7), .int (i_this 8), .int (i_this 9), .int (i_this 10)]))] := hD
  refine lv_aload_n hx hb dX0_takesNumbers_10 rfl (lv_at hl 0 rfl) ?_
  refine lv_iload_n hx hb dX0_takesNumbers_11 rfl (lv_at hl 3 rfl) ?_
  refine va_put (D := (dC, dI)) (ci := 0) (v := .int p3) (ty := .int) (C := RX0) (T := TX0) (N := 11) hx hb hts inX0 tyX0 tyX0_ok nmX0 hown hK hP hD hS 0 rfl rfl 2 (by decide) (hts _ (kq q_142 rfl)) (fun _ h9 => h9) rfl (by decide +kernel) rfl rfl (Nat.le_of_ble_eq_true rfl) dX0_takesNumbers_12 (fun H locs hP hD hS => ?_)
  have hP : va_P (dC, dI) vwCl [(h_this, .inr (0, [.int p1, .int p2, .int p3, .int (i_this 3), .int (i_this 4), .int (i_this 5), .int (i_this 6), .int (i_this 7), .int (i_this 8), .int (i_this 9), .int (i_this 10)]))] H := hP
  have hD : va_D A [(h_this, .inr (0, [.int p1, .int p2, .int p3, .int (i_this 3), .int (i_this 4), .int (i_this 5), .int (i_this 6), .int (i_this 7), .int (i_this 8), .int (i_this 9), .int (i_this 10)]))] := hD
  refine lv_aload_n hx hb dX0_takesNumbers_15 rfl (lv_at hl 0 rfl) ?_
  refine lv_iload hx hb dX0_takesNumbers_16 (lv_at hl 4 rfl) ?_
  refine va_put (D := (dC, dI)) (ci := 0) (v := .int p4) (ty := .int) (C := RX0) (T := TX0) (N := 11) hx hb hts inX0 tyX0 tyX0_ok nmX0 hown hK hP hD hS 0 rfl rfl 3 (by decide) (hts _ (kq q_143 rfl)) (fun _ h9 => h9) rfl (by decide +kernel) rfl rfl (Nat.le_of_ble_eq_true rfl) dX0_takesNumbers_18 (fun H locs hP hD hS => ?_)
  have hP : va_P (dC, dI) vwCl [(h_this, .inr (0, [.int p1, .int p2, .int p3, .int p4, .int (i_this 4), .int (i_this 5), .int (i_this 6), .int (i_this 7), .int (i_this 8), .int (i_this 9), .int (i_this 10)]))] H := hP
  have hD : va_D A [(h_this, .inr (0, [.int p1, .int p2, .int p3, .int p4, .int (i_this 4), .int (i_this 5), .int (i_this 6), .int (i_this 7), .int (i_this 8), .int (i_this 9), .int (i_this 10)]))] := hD
  refine lv_aload_n hx hb dX0_takesNumbers_21 rfl (lv_at hl 0 rfl) ?_
  refine lv_iconst (v := (0 : Int32)) hx hb dX0_takesNumbers_22 (by decide) ?_
  refine va_put (D := (dC, dI)) (ci := 0) (v := .int (0 : Int32)) (ty := .int) (C := RX0) (T := TX0) (N := 11) hx hb hts inX0 tyX0 tyX0_ok nmX0 hown hK hP hD hS 0 rfl rfl 5 (by decide) (hts _ (kq q_145 rfl)) (fun _ h9 => h9) rfl (by decide +kernel) rfl rfl (Nat.le_of_ble_eq_true rfl) dX0_takesNumbers_23 (fun H locs hP hD hS => ?_)
  have hP : va_P (dC, dI) vwCl [(h_this, .inr (0, [.int p1, .int p2, .int p3, .int p4, .int (i_this 4), .int (0 : Int32), .int (i_this 6), .int (i_this 7), .int (i_this 8), .int (i_this 9), .int (i_this 10)]))] H := hP
  have hD : va_D A [(h_this, .inr (0, [.int p1, .int p2, .int p3, .int p4, .int (i_this 4), .int (0 : Int32), .int (i_this 6), .int (i_this 7), .int (i_this 8), .int (i_this 9), .int (i_this 10)]))] := hD
  have hP : va_P (dC, dI) vwCl [cl_X0 h_this (upd (upd (upd (upd (upd i_this 0 p1) 1 p2) 2 p3) 3 p4) 5 (0 : Int32))] H := hP
  have hD : va_D A [cl_X0 h_this (upd (upd (upd (upd (upd i_this 0 p1) 1 p2) 2 p3) 3 p4) 5 (0 : Int32))] := hD
  obtain rfl := pj1 h
  exact hEnd _ _ _ _ hP hS dX0_takesNumbers_26
noncomputable def fX0_takes (N : Nat) (p2 : Int32) (p3 : Int32) (p4 : Int32) (i_this : Nat → Int32) (f_a1_months : Nat → Int32) (f_a1_days : Nat → Int32) (f_a1_seconds : Nat → Int32) : Option (Int32 × (Nat → Int32)) := (bd1 (fX4_monthsAt N p2 f_a1_months) fun r1 => (nm (r1.toInt64 * p3.toInt64) fun z3 => (bd1 (fX4_daysAt N p2 f_a1_days) fun r4 => (nm (r4.toInt64 * p3.toInt64) fun z6 => (bd1 (fX4_secondsAt N p2 f_a1_seconds) fun r7 => (nm (r7.toInt64 * p3.toInt64) fun z9 => (bd1 (fX9_areBounded N z3 z6 z9) fun r10 => (if r10 = (0 : Int32) then (some ((0 : Int32), i_this)) else (bd1 (fX0_takesNumbers N z3.toInt32 z6.toInt32 z9.toInt32 p4 i_this) fun i_this_13 => (some ((1 : Int32), i_this_13)))))))))))
set_option maxHeartbeats 4000000 in
set_option maxRecDepth 100000 in
theorem kX0_takes (l : Launch) (dC : Nat → ClassId) (dI : Nat → Nat → Nat) (cI cJ cB : ClassId) (h_this h_a1 h_a1_day h_a1_second h_a1_months h_a1_days h_a1_seconds : Nat) (N : Nat) (p2 : Int32) (p3 : Int32) (p4 : Int32) (i_this : Nat → Int32) (f_a1_months : Nat → Int32) (f_a1_days : Nat → Int32) (f_a1_seconds : Nat → Int32) (r : Int32) (o_i_this : Nat → Int32) (hf : fX0_takes N p2 p3 p4 i_this f_a1_months f_a1_days f_a1_seconds = some (r, o_i_this)) : MI l yX0_takes (kws yX0_takes cX0_takes 11 (some .boolean)) (kR 2 46) (dC, dI) (kT cI cJ cB) [.ref h_this, .ref h_a1, .int p2, .int p3, .int p4] [cl_X0 h_this i_this, cl_X4 h_a1 h_a1_day h_a1_second h_a1_months h_a1_days h_a1_seconds, (h_a1_months, .inl (cI, 8, .inl f_a1_months)), (h_a1_days, .inl (cI, 8, .inl f_a1_days)), (h_a1_seconds, .inl (cI, 8, .inl f_a1_seconds))] [cl_X0 h_this o_i_this, cl_X4 h_a1 h_a1_day h_a1_second h_a1_months h_a1_days h_a1_seconds, (h_a1_months, .inl (cI, 8, .inl f_a1_months)), (h_a1_days, .inl (cI, 8, .inl f_a1_days)), (h_a1_seconds, .inl (cI, 8, .inl f_a1_seconds))] r := by
  refine MI.of (cc := cX0_takes) (maxL := 11) (by decide) (Nat.le_of_ble_eq_true rfl) (fun p e s m args below meth c A Q ls KC hN hK hP hD hA hl hEnd => ?_)
  obtain ⟨hx, hb, hml, hown, hts⟩ := KC
  have hown : s.vm.findClass "DateSpans$Adder" = some m.cls := hown
  have hl : lv_has ls 11 [(0, .ref h_this), (1, .ref h_a1), (2, .int p2), (3, .int p3), (4, .int p4)] := hl
  have hS : va_S A s.heap s.heap [] := va_S.rf
  have h := hf
  unfold fX0_takes at h
  refine lv_aload_n hx hb dX0_takes_0 rfl (lv_at hl 1 rfl) ?_
  refine lv_iload_n hx hb dX0_takes_1 rfl (lv_at hl 2 rfl) ?_
  obtain ⟨r1, hc2, h⟩ := bd1_at h
  refine kjI (kV (own := "DateSpans$Adder") (C := "DateSpans$Slots") (b := h_a1) (As := [.int p2]) (rest := []) ⟨hx, hb, hml, hown, hts⟩ (kX4_monthsAt l dC dI cI cJ cB h_a1 h_a1_day h_a1_second h_a1_months h_a1_days h_a1_seconds N p2 f_a1_months r1 hc2 _) (kgV (kq q_362 rfl) (kq q_333 rfl) (kq q_334 rfl) (kq q_19 rfl) (kq q_335 rfl)) yd_X4_monthsAt ⟨Nat.le_of_ble_eq_true rfl, Nat.le_of_ble_eq_true rfl⟩ hN hK hP hD [1, 2] rfl rfl (ci := 3) rfl rfl rfl rfl rfl hl.1 rfl (lv_room (Nat.le_of_ble_eq_true rfl)) dX0_takes_2) hP hD hS hA [1, 2] rfl rfl (fun H locs hP hD hS => ?_)
  have hP : va_P (dC, dI) vwCl [cl_X0 h_this i_this, cl_X4 h_a1 h_a1_day h_a1_second h_a1_months h_a1_days h_a1_seconds, (h_a1_months, .inl (cI, 8, .inl f_a1_months)), (h_a1_days, .inl (cI, 8, .inl f_a1_days)), (h_a1_seconds, .inl (cI, 8, .inl f_a1_seconds))] H := hP
  have hD : va_D A [cl_X0 h_this i_this, cl_X4 h_a1 h_a1_day h_a1_second h_a1_months h_a1_days h_a1_seconds, (h_a1_months, .inl (cI, 8, .inl f_a1_months)), (h_a1_days, .inl (cI, 8, .inl f_a1_days)), (h_a1_seconds, .inl (cI, 8, .inl f_a1_seconds))] := hD
  refine lv_i2l hx hb dX0_takes_5 rfl ?_
  refine lv_iload_n hx hb dX0_takes_6 rfl (lv_at hl 3 rfl) ?_
  refine lv_i2l hx hb dX0_takes_7 rfl ?_
  refine lv_lmul hx hb dX0_takes_8 ?_
  refine lv_topl (fun z3 ez3 => ?_)
  have h := nm_at ez3 h
  refine lv_lstore (lv' := [(5, .long z3), (0, .ref h_this), (1, .ref h_a1), (2, .int p2), (3, .int p3), (4, .int p4)]) hx hb dX0_takes_9 hl (by decide) rfl (fun ls hl => ?_)
  refine lv_aload_n hx hb dX0_takes_11 rfl (lv_at hl 2 rfl) ?_
  refine lv_iload_n hx hb dX0_takes_12 rfl (lv_at hl 3 rfl) ?_
  obtain ⟨r4, hc5, h⟩ := bd1_at h
  refine kjI (kV (own := "DateSpans$Adder") (C := "DateSpans$Slots") (b := h_a1) (As := [.int p2]) (rest := []) ⟨hx, hb, hml, hown, hts⟩ (kX4_daysAt l dC dI cI cJ cB h_a1 h_a1_day h_a1_second h_a1_months h_a1_days h_a1_seconds N p2 f_a1_days r4 hc5 _) (kgV (kq q_363 rfl) (kq q_337 rfl) (kq q_338 rfl) (kq q_19 rfl) (kq q_339 rfl)) yd_X4_daysAt ⟨Nat.le_of_ble_eq_true rfl, Nat.le_of_ble_eq_true rfl⟩ hN hK hP hD [1, 3] rfl rfl (ci := 3) rfl rfl rfl rfl rfl hl.1 rfl (lv_room (Nat.le_of_ble_eq_true rfl)) dX0_takes_13) hP hD hS hA [1, 3] rfl rfl (fun H locs hP hD hS => ?_)
  have hP : va_P (dC, dI) vwCl [cl_X0 h_this i_this, cl_X4 h_a1 h_a1_day h_a1_second h_a1_months h_a1_days h_a1_seconds, (h_a1_months, .inl (cI, 8, .inl f_a1_months)), (h_a1_days, .inl (cI, 8, .inl f_a1_days)), (h_a1_seconds, .inl (cI, 8, .inl f_a1_seconds))] H := hP
  have hD : va_D A [cl_X0 h_this i_this, cl_X4 h_a1 h_a1_day h_a1_second h_a1_months h_a1_days h_a1_seconds, (h_a1_months, .inl (cI, 8, .inl f_a1_months)), (h_a1_days, .inl (cI, 8, .inl f_a1_days)), (h_a1_seconds, .inl (cI, 8, .inl f_a1_seconds))] := hD
  refine lv_i2l hx hb dX0_takes_16 rfl ?_
  refine lv_iload_n hx hb dX0_takes_17 rfl (lv_at hl 4 rfl) ?_
  refine lv_i2l hx hb dX0_takes_18 rfl ?_
  refine lv_lmul hx hb dX0_takes_19 ?_
  refine lv_topl (fun z6 ez6 => ?_)
  have h := nm_at ez6 h
  refine lv_lstore (lv' := [(7, .long z6), (5, .long z3), (0, .ref h_this), (1, .ref h_a1), (2, .int p2), (3, .int p3), (4, .int p4)]) hx hb dX0_takes_20 hl (by decide) rfl (fun ls hl => ?_)
  refine lv_aload_n hx hb dX0_takes_22 rfl (lv_at hl 3 rfl) ?_
  refine lv_iload_n hx hb dX0_takes_23 rfl (lv_at hl 4 rfl) ?_
  obtain ⟨r7, hc8, h⟩ := bd1_at h
  refine kjI (kV (own := "DateSpans$Adder") (C := "DateSpans$Slots") (b := h_a1) (As := [.int p2]) (rest := []) ⟨hx, hb, hml, hown, hts⟩ (kX4_secondsAt l dC dI cI cJ cB h_a1 h_a1_day h_a1_second h_a1_months h_a1_days h_a1_seconds N p2 f_a1_seconds r7 hc8 _) (kgV (kq q_364 rfl) (kq q_341 rfl) (kq q_342 rfl) (kq q_19 rfl) (kq q_343 rfl)) yd_X4_secondsAt ⟨Nat.le_of_ble_eq_true rfl, Nat.le_of_ble_eq_true rfl⟩ hN hK hP hD [1, 4] rfl rfl (ci := 3) rfl rfl rfl rfl rfl hl.1 rfl (lv_room (Nat.le_of_ble_eq_true rfl)) dX0_takes_24) hP hD hS hA [1, 4] rfl rfl (fun H locs hP hD hS => ?_)
  have hP : va_P (dC, dI) vwCl [cl_X0 h_this i_this, cl_X4 h_a1 h_a1_day h_a1_second h_a1_months h_a1_days h_a1_seconds, (h_a1_months, .inl (cI, 8, .inl f_a1_months)), (h_a1_days, .inl (cI, 8, .inl f_a1_days)), (h_a1_seconds, .inl (cI, 8, .inl f_a1_seconds))] H := hP
  have hD : va_D A [cl_X0 h_this i_this, cl_X4 h_a1 h_a1_day h_a1_second h_a1_months h_a1_days h_a1_seconds, (h_a1_months, .inl (cI, 8, .inl f_a1_months)), (h_a1_days, .inl (cI, 8, .inl f_a1_days)), (h_a1_seconds, .inl (cI, 8, .inl f_a1_seconds))] := hD
  refine lv_i2l hx hb dX0_takes_27 rfl ?_
  refine lv_iload_n hx hb dX0_takes_28 rfl (lv_at hl 5 rfl) ?_
  refine lv_i2l hx hb dX0_takes_29 rfl ?_
  refine lv_lmul hx hb dX0_takes_30 ?_
  refine lv_topl (fun z9 ez9 => ?_)
  have h := nm_at ez9 h
  refine lv_lstore (lv' := [(9, .long z9), (7, .long z6), (5, .long z3), (0, .ref h_this), (1, .ref h_a1), (2, .int p2), (3, .int p3), (4, .int p4)]) hx hb dX0_takes_31 hl (by decide) rfl (fun ls hl => ?_)
  refine lv_lload hx hb dX0_takes_33 (lv_at hl 2 rfl) ?_
  refine lv_lload hx hb dX0_takes_35 (lv_at hl 1 rfl) ?_
  refine lv_lload hx hb dX0_takes_37 (lv_at hl 0 rfl) ?_
  obtain ⟨r10, hc11, h⟩ := bd1_at h
  refine kjSI (kSN0 (own := "DateSpans$Adder") (As := [.long z3, .long z6, .long z9]) (rest := []) ⟨hx, hb, hml, hown, hts⟩ (kX9_areBounded l N z3 z6 z9 r10 hc11) (kgN (kq q_290 rfl)) (hN _ q_365 rfl) (kq q_289 rfl) (kq q_18 rfl) yd_X9_areBounded ⟨Nat.le_of_ble_eq_true rfl, Nat.le_of_ble_eq_true rfl⟩ rfl rfl hl.1 rfl (lv_room (Nat.le_of_ble_eq_true rfl)) dX0_takes_39) ?_
  refine lv_if_ne (tgt := 47) hx hb dX0_takes_42 (by decide) (fun c12 => ?_) (fun c12 => ?_)
  · have h := ite_f c12 h
    refine lv_aload_n hx hb dX0_takes_47 rfl (lv_at hl 3 rfl) ?_
    refine lv_lload hx hb dX0_takes_48 (lv_at hl 2 rfl) ?_
    refine lv_l2i hx hb dX0_takes_50 rfl ?_
    refine lv_lload hx hb dX0_takes_51 (lv_at hl 1 rfl) ?_
    refine lv_l2i hx hb dX0_takes_53 rfl ?_
    refine lv_lload hx hb dX0_takes_54 (lv_at hl 0 rfl) ?_
    refine lv_l2i hx hb dX0_takes_56 rfl ?_
    refine lv_iload hx hb dX0_takes_57 (lv_at hl 7 rfl) ?_
    obtain ⟨i_this_13, hc14, h⟩ := bd1_at h
    refine kjV (kV (own := "DateSpans$Adder") (C := "DateSpans$Adder") (b := h_this) (As := [.int z3.toInt32, .int z6.toInt32, .int z9.toInt32, .int p4]) (rest := []) ⟨hx, hb, hml, hown, hts⟩ (kX0_takesNumbers l dC dI cI cJ cB h_this N z3.toInt32 z6.toInt32 z9.toInt32 p4 i_this i_this_13 hc14 _) (kgV (kq q_366 rfl) (kq q_367 rfl) (kq q_368 rfl) (kq q_24 rfl) (kq q_369 rfl)) yd_X0_takesNumbers ⟨Nat.le_of_ble_eq_true rfl, Nat.le_of_ble_eq_true rfl⟩ hN hK hP hD [0] rfl rfl (ci := 0) rfl rfl rfl rfl rfl hl.1 rfl (lv_room (Nat.le_of_ble_eq_true rfl)) dX0_takes_59) hP hD hS hA [0] rfl rfl (fun H locs hP hD hS => ?_)
    have hP : va_P (dC, dI) vwCl [cl_X0 h_this i_this_13, cl_X4 h_a1 h_a1_day h_a1_second h_a1_months h_a1_days h_a1_seconds, (h_a1_months, .inl (cI, 8, .inl f_a1_months)), (h_a1_days, .inl (cI, 8, .inl f_a1_days)), (h_a1_seconds, .inl (cI, 8, .inl f_a1_seconds))] H := hP
    have hD : va_D A [cl_X0 h_this i_this_13, cl_X4 h_a1 h_a1_day h_a1_second h_a1_months h_a1_days h_a1_seconds, (h_a1_months, .inl (cI, 8, .inl f_a1_months)), (h_a1_days, .inl (cI, 8, .inl f_a1_days)), (h_a1_seconds, .inl (cI, 8, .inl f_a1_seconds))] := hD
    refine lv_iconst (v := (1 : Int32)) hx hb dX0_takes_62 (by decide) ?_
    obtain ⟨rfl, rfl⟩ := pj2 h
    exact hEnd _ _ _ _ hP hS dX0_takes_63 rfl
  have h := ite_t c12 h
  refine lv_iconst (v := (0 : Int32)) hx hb dX0_takes_45 (by decide) ?_
  obtain ⟨rfl, rfl⟩ := pj2 h
  exact hEnd _ _ _ _ hP hS dX0_takes_46 rfl
noncomputable def fX0_stands (N : Nat) (p1 : Int32) (p2 : Int32) (i_this : Nat → Int32) : Option ((Nat → Int32)) := (some (upd (upd (upd i_this 8 p1) 9 p2) 10 (0 : Int32)))
set_option maxHeartbeats 4000000 in
set_option maxRecDepth 100000 in
theorem kX0_stands (l : Launch) (dC : Nat → ClassId) (dI : Nat → Nat → Nat) (cI cJ cB : ClassId) (h_this : Nat) (N : Nat) (p1 : Int32) (p2 : Int32) (i_this : Nat → Int32) (o_i_this : Nat → Int32) (hf : fX0_stands N p1 p2 i_this = some o_i_this) : MV l yX0_stands (kws yX0_stands cX0_stands 3 (none)) (kR 0 0) (dC, dI) (kT cI cJ cB) [.ref h_this, .int p1, .int p2] [cl_X0 h_this i_this] [cl_X0 h_this o_i_this] := by
  refine MV.of (cc := cX0_stands) (maxL := 3) (by decide) (Nat.le_of_ble_eq_true rfl) (fun p e s m args below meth c A Q ls KC hN hK hP hD hA hl hEnd => ?_)
  obtain ⟨hx, hb, hml, hown, hts⟩ := KC
  have hown : s.vm.findClass "DateSpans$Adder" = some m.cls := hown
  have hl : lv_has ls 3 [(0, .ref h_this), (1, .int p1), (2, .int p2)] := hl
  have hS : va_S A s.heap s.heap [] := va_S.rf
  have h := hf
  unfold fX0_stands at h
  refine lv_aload_n hx hb dX0_stands_0 rfl (lv_at hl 0 rfl) ?_
  refine lv_iload_n hx hb dX0_stands_1 rfl (lv_at hl 1 rfl) ?_
  refine va_put (D := (dC, dI)) (ci := 0) (v := .int p1) (ty := .int) (C := RX0) (T := TX0) (N := 11) hx hb hts inX0 tyX0 tyX0_ok nmX0 hown hK hP hD hS 0 rfl rfl 8 (by decide) (hts _ (kq q_148 rfl)) (fun _ h9 => h9) rfl (by decide +kernel) rfl rfl (Nat.le_of_ble_eq_true rfl) dX0_stands_2 (fun H locs hP hD hS => ?_)
  have hP : va_P (dC, dI) vwCl [(h_this, .inr (0, [.int (i_this 0), .int (i_this 1), .int (i_this 2), .int (i_this 3), .int (i_this 4), .int (i_this 5), .int (i_this 6), .int (i_this 7), .int p1, .int (i_this 9), .int (i_this 10)]))] H := hP
  have hD : va_D A [(h_this, .inr (0, [.int (i_this 0), .int (i_this 1), .int (i_this 2), .int (i_this 3), .int (i_this 4), .int (i_this 5), .int (i_this 6), .int (i_this 7), .int p1, .int (i_this 9), .int (i_this 10)]))] := hD
  refine lv_aload_n hx hb dX0_stands_5 rfl (lv_at hl 0 rfl) ?_
  refine lv_iload_n hx hb dX0_stands_6 rfl (lv_at hl 2 rfl) ?_
  refine va_put (D := (dC, dI)) (ci := 0) (v := .int p2) (ty := .int) (C := RX0) (T := TX0) (N := 11) hx hb hts inX0 tyX0 tyX0_ok nmX0 hown hK hP hD hS 0 rfl rfl 9 (by decide) (hts _ (kq q_150 rfl)) (fun _ h9 => h9) rfl (by decide +kernel) rfl rfl (Nat.le_of_ble_eq_true rfl) dX0_stands_7 (fun H locs hP hD hS => ?_)
  have hP : va_P (dC, dI) vwCl [(h_this, .inr (0, [.int (i_this 0), .int (i_this 1), .int (i_this 2), .int (i_this 3), .int (i_this 4), .int (i_this 5), .int (i_this 6), .int (i_this 7), .int p1, .int p2, .int (i_this 10)]))] H := hP
  have hD : va_D A [(h_this, .inr (0, [.int (i_this 0), .int (i_this 1), .int (i_this 2), .int (i_this 3), .int (i_this 4), .int (i_this 5), .int (i_this 6), .int (i_this 7), .int p1, .int p2, .int (i_this 10)]))] := hD
  refine lv_aload_n hx hb dX0_stands_10 rfl (lv_at hl 0 rfl) ?_
  refine lv_iconst (v := (0 : Int32)) hx hb dX0_stands_11 (by decide) ?_
  refine va_put (D := (dC, dI)) (ci := 0) (v := .int (0 : Int32)) (ty := .int) (C := RX0) (T := TX0) (N := 11) hx hb hts inX0 tyX0 tyX0_ok nmX0 hown hK hP hD hS 0 rfl rfl 10 (by decide) (hts _ (kq q_152 rfl)) (fun _ h9 => h9) rfl (by decide +kernel) rfl rfl (Nat.le_of_ble_eq_true rfl) dX0_stands_12 (fun H locs hP hD hS => ?_)
  have hP : va_P (dC, dI) vwCl [(h_this, .inr (0, [.int (i_this 0), .int (i_this 1), .int (i_this 2), .int (i_this 3), .int (i_this 4), .int (i_this 5), .int (i_this 6), .int (i_this 7), .int p1, .int p2, .int (0 : Int32)]))] H := hP
  have hD : va_D A [(h_this, .inr (0, [.int (i_this 0), .int (i_this 1), .int (i_this 2), .int (i_this 3), .int (i_this 4), .int (i_this 5), .int (i_this 6), .int (i_this 7), .int p1, .int p2, .int (0 : Int32)]))] := hD
  have hP : va_P (dC, dI) vwCl [cl_X0 h_this (upd (upd (upd i_this 8 p1) 9 p2) 10 (0 : Int32))] H := hP
  have hD : va_D A [cl_X0 h_this (upd (upd (upd i_this 8 p1) 9 p2) 10 (0 : Int32))] := hD
  obtain rfl := pj1 h
  exact hEnd _ _ _ _ hP hS dX0_stands_15
noncomputable def fX1_monthOf (N : Nat) (p1 : Int32) : Option (Int32) := (bd1 (fX1_dateOf N p1) fun r1 => (some ((((r1 / (10000 : Int32)) * (12 : Int32)) + ((r1 / (100 : Int32)) - (r1 / (100 : Int32)) / (100 : Int32) * (100 : Int32))) - (1 : Int32))))
set_option maxHeartbeats 4000000 in
set_option maxRecDepth 100000 in
theorem kX1_monthOf (l : Launch) (N : Nat) (p1 : Int32) (r : Int32) (hf : fX1_monthOf N p1 = some r) : SI l yX1_monthOf (kws yX1_monthOf cX1_monthOf 2 (some .int)) (kR 1 29) [.int p1] r := by
  refine SI.of (cc := cX1_monthOf) (maxL := 2) (by decide) (Nat.le_of_ble_eq_true rfl) (fun p e s m args below meth c Q ls KC hl hEnd => ?_)
  obtain ⟨hx, hb, hml, hown, hts⟩ := KC
  have hown : s.vm.findClass "DateSpans$Calendar" = some m.cls := hown
  have hl : lv_has ls 2 [(0, .int p1)] := hl
  have h := hf
  unfold fX1_monthOf at h
  refine lv_iload_n hx hb dX1_monthOf_0 rfl (lv_at hl 0 rfl) ?_
  obtain ⟨r1, hc2, h⟩ := bd1_at h
  refine kjSI (kS0 (own := "DateSpans$Calendar") (As := [.int p1]) (rest := []) ⟨hx, hb, hml, hown, hts⟩ (kX1_dateOf l N p1 r1 hc2) (kgS (kq q_389 rfl) (kq q_305 rfl) (kq q_28 rfl) (kq q_306 rfl)) yd_X1_dateOf ⟨Nat.le_of_ble_eq_true rfl, Nat.le_of_ble_eq_true rfl⟩ rfl rfl hl.1 rfl (lv_room (Nat.le_of_ble_eq_true rfl)) dX1_monthOf_1) ?_
  refine lv_istore_n (lv' := [(1, .int r1), (0, .int p1)]) hx hb dX1_monthOf_4 rfl hl (by decide) rfl (fun ls hl => ?_)
  refine lv_iload_n hx hb dX1_monthOf_5 rfl (lv_at hl 0 rfl) ?_
  refine lv_sipush (v := (10000 : Int32)) hx hb dX1_monthOf_6 (by decide) ?_
  refine lv_idiv hx hb dX1_monthOf_9 (by decide) ?_
  refine lv_bipush (v := (12 : Int32)) hx hb dX1_monthOf_10 (by decide) ?_
  refine lv_imul hx hb dX1_monthOf_12 ?_
  refine lv_iload_n hx hb dX1_monthOf_13 rfl (lv_at hl 0 rfl) ?_
  refine lv_bipush (v := (100 : Int32)) hx hb dX1_monthOf_14 (by decide) ?_
  refine lv_idiv hx hb dX1_monthOf_16 (by decide) ?_
  refine lv_bipush (v := (100 : Int32)) hx hb dX1_monthOf_17 (by decide) ?_
  refine lv_irem hx hb dX1_monthOf_19 (by decide) ?_
  refine lv_iadd hx hb dX1_monthOf_20 ?_
  refine lv_iconst (v := (1 : Int32)) hx hb dX1_monthOf_21 (by decide) ?_
  refine lv_isub hx hb dX1_monthOf_22 ?_
  obtain rfl := pj1 h
  exact hEnd _ _ dX1_monthOf_23 rfl
noncomputable def fX1_firstOf (N : Nat) (p1 : Int32) : Option (Int32) := (bd1 (fX1_dayOf N (p1 / (12 : Int32)) ((p1 - p1 / (12 : Int32) * (12 : Int32)) + (1 : Int32)) (1 : Int32)) fun r1 => (some r1))
set_option maxHeartbeats 4000000 in
set_option maxRecDepth 100000 in
theorem kX1_firstOf (l : Launch) (N : Nat) (p1 : Int32) (r : Int32) (hf : fX1_firstOf N p1 = some r) : SI l yX1_firstOf (kws yX1_firstOf cX1_firstOf 1 (some .int)) (kR 1 25) [.int p1] r := by
  refine SI.of (cc := cX1_firstOf) (maxL := 1) (by decide) (Nat.le_of_ble_eq_true rfl) (fun p e s m args below meth c Q ls KC hl hEnd => ?_)
  obtain ⟨hx, hb, hml, hown, hts⟩ := KC
  have hown : s.vm.findClass "DateSpans$Calendar" = some m.cls := hown
  have hl : lv_has ls 1 [(0, .int p1)] := hl
  have h := hf
  unfold fX1_firstOf at h
  refine lv_iload_n hx hb dX1_firstOf_0 rfl (lv_at hl 0 rfl) ?_
  refine lv_bipush (v := (12 : Int32)) hx hb dX1_firstOf_1 (by decide) ?_
  refine lv_idiv hx hb dX1_firstOf_3 (by decide) ?_
  refine lv_iload_n hx hb dX1_firstOf_4 rfl (lv_at hl 0 rfl) ?_
  refine lv_bipush (v := (12 : Int32)) hx hb dX1_firstOf_5 (by decide) ?_
  refine lv_irem hx hb dX1_firstOf_7 (by decide) ?_
  refine lv_iconst (v := (1 : Int32)) hx hb dX1_firstOf_8 (by decide) ?_
  refine lv_iadd hx hb dX1_firstOf_9 ?_
  refine lv_iconst (v := (1 : Int32)) hx hb dX1_firstOf_10 (by decide) ?_
  obtain ⟨r1, hc2, h⟩ := bd1_at h
  refine kjSI (kS0 (own := "DateSpans$Calendar") (As := [.int (p1 / (12 : Int32)), .int ((p1 - p1 / (12 : Int32) * (12 : Int32)) + (1 : Int32)), .int (1 : Int32)]) (rest := []) ⟨hx, hb, hml, hown, hts⟩ (kX1_dayOf l N (p1 / (12 : Int32)) ((p1 - p1 / (12 : Int32) * (12 : Int32)) + (1 : Int32)) (1 : Int32) r1 hc2) (kgS (kq q_393 rfl) (kq q_318 rfl) (kq q_28 rfl) (kq q_319 rfl)) yd_X1_dayOf ⟨Nat.le_of_ble_eq_true rfl, Nat.le_of_ble_eq_true rfl⟩ rfl rfl hl.1 rfl (lv_room (Nat.le_of_ble_eq_true rfl)) dX1_firstOf_11) ?_
  obtain rfl := pj1 h
  exact hEnd _ _ dX1_firstOf_14 rfl
noncomputable def fX0_lookUp (N : Nat) (i_this : Nat → Int32) : Option ((Nat → Int32)) := (bd1 (fX1_monthOf N (i_this 8)) fun r1 => (bd1 (fX1_firstOf N r1) fun r3 => (bd1 (fX1_firstOf N (r1 + (1 : Int32))) fun r5 => (nm (r1 + ((upd i_this 4 r3) 0)) fun z7 => (if z7 < (12 : Int32) then (some (upd (upd (upd i_this 4 r3) 5 (r5 - ((upd i_this 4 r3) 4))) 7 (0 : Int32))) else (if z7 ≤ (119999 : Int32) then (bd1 (fX1_firstOf N z7) fun r10 => (bd1 (fX1_firstOf N (z7 + (1 : Int32))) fun r12 => (some (upd (upd (upd (upd i_this 4 r3) 5 (r5 - ((upd i_this 4 r3) 4))) 6 r10) 7 (r12 - ((upd (upd (upd i_this 4 r3) 5 (r5 - ((upd i_this 4 r3) 4))) 6 r10) 6)))))) else (some (upd (upd (upd i_this 4 r3) 5 (r5 - ((upd i_this 4 r3) 4))) 7 (0 : Int32)))))))))
set_option maxHeartbeats 4000000 in
set_option maxRecDepth 100000 in
theorem kX0_lookUp (l : Launch) (dC : Nat → ClassId) (dI : Nat → Nat → Nat) (cI cJ cB : ClassId) (h_this : Nat) (N : Nat) (i_this : Nat → Int32) (o_i_this : Nat → Int32) (hf : fX0_lookUp N i_this = some o_i_this) : MV l yX0_lookUp (kws yX0_lookUp cX0_lookUp 3 (none)) (kR 2 50) (dC, dI) (kT cI cJ cB) [.ref h_this] [cl_X0 h_this i_this] [cl_X0 h_this o_i_this] := by
  refine MV.of (cc := cX0_lookUp) (maxL := 3) (by decide) (Nat.le_of_ble_eq_true rfl) (fun p e s m args below meth c A Q ls KC hN hK hP hD hA hl hEnd => ?_)
  obtain ⟨hx, hb, hml, hown, hts⟩ := KC
  have hown : s.vm.findClass "DateSpans$Adder" = some m.cls := hown
  have hl : lv_has ls 3 [(0, .ref h_this)] := hl
  have hS : va_S A s.heap s.heap [] := va_S.rf
  have h := hf
  unfold fX0_lookUp at h
  refine lv_aload_n hx hb dX0_lookUp_0 rfl (lv_at hl 0 rfl) ?_
  refine va_get (D := (dC, dI)) (ci := 0) (v := .int (i_this 8)) (C := RX0) (T := TX0) (N := 11) hx hb hts inX0 hown hK hP 0 rfl rfl 8 (by decide) (hts _ (kq q_148 rfl)) (fun _ h9 => h9) rfl dX0_lookUp_1 ?_
  obtain ⟨r1, hc2, h⟩ := bd1_at h
  refine kjSI (kS0 (own := "DateSpans$Adder") (As := [.int (i_this 8)]) (rest := []) ⟨hx, hb, hml, hown, hts⟩ (kX1_monthOf l N (i_this 8) r1 hc2) (kgS (kq q_386 rfl) (kq q_387 rfl) (kq q_28 rfl) (kq q_388 rfl)) yd_X1_monthOf ⟨Nat.le_of_ble_eq_true rfl, Nat.le_of_ble_eq_true rfl⟩ rfl rfl hl.1 rfl (lv_room (Nat.le_of_ble_eq_true rfl)) dX0_lookUp_4) ?_
  refine lv_istore_n (lv' := [(1, .int r1), (0, .ref h_this)]) hx hb dX0_lookUp_7 rfl hl (by decide) rfl (fun ls hl => ?_)
  refine lv_aload_n hx hb dX0_lookUp_8 rfl (lv_at hl 1 rfl) ?_
  refine lv_iload_n hx hb dX0_lookUp_9 rfl (lv_at hl 0 rfl) ?_
  obtain ⟨r3, hc4, h⟩ := bd1_at h
  refine kjSI (kS0 (own := "DateSpans$Adder") (As := [.int r1]) (rest := [.ref h_this]) ⟨hx, hb, hml, hown, hts⟩ (kX1_firstOf l N r1 r3 hc4) (kgS (kq q_390 rfl) (kq q_391 rfl) (kq q_28 rfl) (kq q_392 rfl)) yd_X1_firstOf ⟨Nat.le_of_ble_eq_true rfl, Nat.le_of_ble_eq_true rfl⟩ rfl rfl hl.1 rfl (lv_room (Nat.le_of_ble_eq_true rfl)) dX0_lookUp_10) ?_
  refine va_put (D := (dC, dI)) (ci := 0) (v := .int r3) (ty := .int) (C := RX0) (T := TX0) (N := 11) hx hb hts inX0 tyX0 tyX0_ok nmX0 hown hK hP hD hS 0 rfl rfl 4 (by decide) (hts _ (kq q_144 rfl)) (fun _ h9 => h9) rfl (by decide +kernel) rfl rfl (Nat.le_of_ble_eq_true rfl) dX0_lookUp_13 (fun H locs hP hD hS => ?_)
  have hP : va_P (dC, dI) vwCl [(h_this, .inr (0, [.int (i_this 0), .int (i_this 1), .int (i_this 2), .int (i_this 3), .int r3, .int (i_this 5), .int (i_this 6), .int (i_this 7), .int (i_this 8), .int (i_this 9), .int (i_this 10)]))] H := hP
  have hD : va_D A [(h_this, .inr (0, [.int (i_this 0), .int (i_this 1), .int (i_this 2), .int (i_this 3), .int r3, .int (i_this 5), .int (i_this 6), .int (i_this 7), .int (i_this 8), .int (i_this 9), .int (i_this 10)]))] := hD
  refine lv_aload_n hx hb dX0_lookUp_16 rfl (lv_at hl 1 rfl) ?_
  refine lv_iload_n hx hb dX0_lookUp_17 rfl (lv_at hl 0 rfl) ?_
  refine lv_iconst (v := (1 : Int32)) hx hb dX0_lookUp_18 (by decide) ?_
  refine lv_iadd hx hb dX0_lookUp_19 ?_
  have hP : va_P (dC, dI) vwCl [cl_X0 h_this (upd i_this 4 r3)] H := hP
  have hD : va_D A [cl_X0 h_this (upd i_this 4 r3)] := hD
  obtain ⟨r5, hc6, h⟩ := bd1_at h
  refine kjSI (kS0 (own := "DateSpans$Adder") (As := [.int (r1 + (1 : Int32))]) (rest := [.ref h_this]) ⟨hx, hb, hml, hown, hts⟩ (kX1_firstOf l N (r1 + (1 : Int32)) r5 hc6) (kgS (kq q_390 rfl) (kq q_391 rfl) (kq q_28 rfl) (kq q_392 rfl)) yd_X1_firstOf ⟨Nat.le_of_ble_eq_true rfl, Nat.le_of_ble_eq_true rfl⟩ rfl rfl hl.1 rfl (lv_room (Nat.le_of_ble_eq_true rfl)) dX0_lookUp_20) ?_
  refine lv_aload_n hx hb dX0_lookUp_23 rfl (lv_at hl 1 rfl) ?_
  refine va_get (D := (dC, dI)) (ci := 0) (v := .int ((upd i_this 4 r3) 4)) (C := RX0) (T := TX0) (N := 11) hx hb hts inX0 hown hK hP 0 rfl rfl 4 (by decide) (hts _ (kq q_144 rfl)) (fun _ h9 => h9) rfl dX0_lookUp_24 ?_
  refine lv_isub hx hb dX0_lookUp_27 ?_
  refine va_put (D := (dC, dI)) (ci := 0) (v := .int (r5 - ((upd i_this 4 r3) 4))) (ty := .int) (C := RX0) (T := TX0) (N := 11) hx hb hts inX0 tyX0 tyX0_ok nmX0 hown hK hP hD hS 0 rfl rfl 5 (by decide) (hts _ (kq q_145 rfl)) (fun _ h9 => h9) rfl (by decide +kernel) rfl rfl (Nat.le_of_ble_eq_true rfl) dX0_lookUp_28 (fun H locs hP hD hS => ?_)
  have hP : va_P (dC, dI) vwCl [(h_this, .inr (0, [.int ((upd i_this 4 r3) 0), .int ((upd i_this 4 r3) 1), .int ((upd i_this 4 r3) 2), .int ((upd i_this 4 r3) 3), .int ((upd i_this 4 r3) 4), .int (r5 - ((upd i_this 4 r3) 4)), .int ((upd i_this 4 r3) 6), .int ((upd i_this 4 r3) 7), .int ((upd i_this 4 r3) 8), .int ((upd i_this 4 r3) 9), .int ((upd i_this 4 r3) 10)]))] H := hP
  have hD : va_D A [(h_this, .inr (0, [.int ((upd i_this 4 r3) 0), .int ((upd i_this 4 r3) 1), .int ((upd i_this 4 r3) 2), .int ((upd i_this 4 r3) 3), .int ((upd i_this 4 r3) 4), .int (r5 - ((upd i_this 4 r3) 4)), .int ((upd i_this 4 r3) 6), .int ((upd i_this 4 r3) 7), .int ((upd i_this 4 r3) 8), .int ((upd i_this 4 r3) 9), .int ((upd i_this 4 r3) 10)]))] := hD
  refine lv_iload_n hx hb dX0_lookUp_31 rfl (lv_at hl 0 rfl) ?_
  refine lv_aload_n hx hb dX0_lookUp_32 rfl (lv_at hl 1 rfl) ?_
  refine va_get (D := (dC, dI)) (ci := 0) (v := .int ((upd i_this 4 r3) 0)) (C := RX0) (T := TX0) (N := 11) hx hb hts inX0 hown hK hP 0 rfl rfl 0 (by decide) (hts _ (kq q_140 rfl)) (fun _ h9 => h9) rfl dX0_lookUp_33 ?_
  refine lv_iadd hx hb dX0_lookUp_36 ?_
  refine lv_topi (fun z7 ez7 => ?_)
  have h := nm_at ez7 h
  refine lv_istore_n (lv' := [(2, .int z7), (1, .int r1), (0, .ref h_this)]) hx hb dX0_lookUp_37 rfl hl (by decide) rfl (fun ls hl => ?_)
  refine lv_iload_n hx hb dX0_lookUp_38 rfl (lv_at hl 0 rfl) ?_
  refine lv_bipush (v := (12 : Int32)) hx hb dX0_lookUp_39 (by decide) ?_
  refine lv_icmp_lt (tgt := 50) hx hb dX0_lookUp_41 (by decide) (fun c8 => ?_) (fun c8 => ?_)
  · have h := ite_t c8 h
    refine lv_aload_n hx hb dX0_lookUp_50 rfl (lv_at hl 2 rfl) ?_
    refine lv_iconst (v := (0 : Int32)) hx hb dX0_lookUp_51 (by decide) ?_
    refine va_put (D := (dC, dI)) (ci := 0) (v := .int (0 : Int32)) (ty := .int) (C := RX0) (T := TX0) (N := 11) hx hb hts inX0 tyX0 tyX0_ok nmX0 hown hK hP hD hS 0 rfl rfl 7 (by decide) (hts _ (kq q_147 rfl)) (fun _ h9 => h9) rfl (by decide +kernel) rfl rfl (Nat.le_of_ble_eq_true rfl) dX0_lookUp_52 (fun H locs hP hD hS => ?_)
    have hP : va_P (dC, dI) vwCl [(h_this, .inr (0, [.int ((upd i_this 4 r3) 0), .int ((upd i_this 4 r3) 1), .int ((upd i_this 4 r3) 2), .int ((upd i_this 4 r3) 3), .int ((upd i_this 4 r3) 4), .int (r5 - ((upd i_this 4 r3) 4)), .int ((upd i_this 4 r3) 6), .int (0 : Int32), .int ((upd i_this 4 r3) 8), .int ((upd i_this 4 r3) 9), .int ((upd i_this 4 r3) 10)]))] H := hP
    have hD : va_D A [(h_this, .inr (0, [.int ((upd i_this 4 r3) 0), .int ((upd i_this 4 r3) 1), .int ((upd i_this 4 r3) 2), .int ((upd i_this 4 r3) 3), .int ((upd i_this 4 r3) 4), .int (r5 - ((upd i_this 4 r3) 4)), .int ((upd i_this 4 r3) 6), .int (0 : Int32), .int ((upd i_this 4 r3) 8), .int ((upd i_this 4 r3) 9), .int ((upd i_this 4 r3) 10)]))] := hD
    have hP : va_P (dC, dI) vwCl [cl_X0 h_this (upd (upd (upd i_this 4 r3) 5 (r5 - ((upd i_this 4 r3) 4))) 7 (0 : Int32))] H := hP
    have hD : va_D A [cl_X0 h_this (upd (upd (upd i_this 4 r3) 5 (r5 - ((upd i_this 4 r3) 4))) 7 (0 : Int32))] := hD
    obtain rfl := pj1 h
    exact hEnd _ _ _ _ hP hS dX0_lookUp_55
  have h := ite_f c8 h
  refine lv_iload_n hx hb dX0_lookUp_44 rfl (lv_at hl 0 rfl) ?_
  refine lv_ldc (v := (119999 : Int32)) hx hb hown (hts _ (kq q_394 rfl)) dX0_lookUp_45 ?_
  refine lv_icmp_le (tgt := 56) hx hb dX0_lookUp_47 (by decide) (fun c9 => ?_) (fun c9 => ?_)
  · have h := ite_t c9 h
    refine lv_aload_n hx hb dX0_lookUp_56 rfl (lv_at hl 2 rfl) ?_
    refine lv_iload_n hx hb dX0_lookUp_57 rfl (lv_at hl 0 rfl) ?_
    have hP : va_P (dC, dI) vwCl [cl_X0 h_this (upd (upd i_this 4 r3) 5 (r5 - ((upd i_this 4 r3) 4)))] H := hP
    have hD : va_D A [cl_X0 h_this (upd (upd i_this 4 r3) 5 (r5 - ((upd i_this 4 r3) 4)))] := hD
    obtain ⟨r10, hc11, h⟩ := bd1_at h
    refine kjSI (kS0 (own := "DateSpans$Adder") (As := [.int z7]) (rest := [.ref h_this]) ⟨hx, hb, hml, hown, hts⟩ (kX1_firstOf l N z7 r10 hc11) (kgS (kq q_390 rfl) (kq q_391 rfl) (kq q_28 rfl) (kq q_392 rfl)) yd_X1_firstOf ⟨Nat.le_of_ble_eq_true rfl, Nat.le_of_ble_eq_true rfl⟩ rfl rfl hl.1 rfl (lv_room (Nat.le_of_ble_eq_true rfl)) dX0_lookUp_58) ?_
    refine va_put (D := (dC, dI)) (ci := 0) (v := .int r10) (ty := .int) (C := RX0) (T := TX0) (N := 11) hx hb hts inX0 tyX0 tyX0_ok nmX0 hown hK hP hD hS 0 rfl rfl 6 (by decide) (hts _ (kq q_146 rfl)) (fun _ h9 => h9) rfl (by decide +kernel) rfl rfl (Nat.le_of_ble_eq_true rfl) dX0_lookUp_61 (fun H locs hP hD hS => ?_)
    have hP : va_P (dC, dI) vwCl [(h_this, .inr (0, [.int ((upd (upd i_this 4 r3) 5 (r5 - ((upd i_this 4 r3) 4))) 0), .int ((upd (upd i_this 4 r3) 5 (r5 - ((upd i_this 4 r3) 4))) 1), .int ((upd (upd i_this 4 r3) 5 (r5 - ((upd i_this 4 r3) 4))) 2), .int ((upd (upd i_this 4 r3) 5 (r5 - ((upd i_this 4 r3) 4))) 3), .int ((upd (upd i_this 4 r3) 5 (r5 - ((upd i_this 4 r3) 4))) 4), .int ((upd (upd i_this 4 r3) 5 (r5 - ((upd i_this 4 r3) 4))) 5), .int r10, .int ((upd (upd i_this 4 r3) 5 (r5 - ((upd i_this 4 r3) 4))) 7), .int ((upd (upd i_this 4 r3) 5 (r5 - ((upd i_this 4 r3) 4))) 8), .int ((upd (upd i_this 4 r3) 5 (r5 - ((upd i_this 4 r3) 4))) 9), .int ((upd (upd i_this 4 r3) 5 (r5 - ((upd i_this 4 r3) 4))) 10)]))] H := hP
    have hD : va_D A [(h_this, .inr (0, [.int ((upd (upd i_this 4 r3) 5 (r5 - ((upd i_this 4 r3) 4))) 0), .int ((upd (upd i_this 4 r3) 5 (r5 - ((upd i_this 4 r3) 4))) 1), .int ((upd (upd i_this 4 r3) 5 (r5 - ((upd i_this 4 r3) 4))) 2), .int ((upd (upd i_this 4 r3) 5 (r5 - ((upd i_this 4 r3) 4))) 3), .int ((upd (upd i_this 4 r3) 5 (r5 - ((upd i_this 4 r3) 4))) 4), .int ((upd (upd i_this 4 r3) 5 (r5 - ((upd i_this 4 r3) 4))) 5), .int r10, .int ((upd (upd i_this 4 r3) 5 (r5 - ((upd i_this 4 r3) 4))) 7), .int ((upd (upd i_this 4 r3) 5 (r5 - ((upd i_this 4 r3) 4))) 8), .int ((upd (upd i_this 4 r3) 5 (r5 - ((upd i_this 4 r3) 4))) 9), .int ((upd (upd i_this 4 r3) 5 (r5 - ((upd i_this 4 r3) 4))) 10)]))] := hD
    refine lv_aload_n hx hb dX0_lookUp_64 rfl (lv_at hl 2 rfl) ?_
    refine lv_iload_n hx hb dX0_lookUp_65 rfl (lv_at hl 0 rfl) ?_
    refine lv_iconst (v := (1 : Int32)) hx hb dX0_lookUp_66 (by decide) ?_
    refine lv_iadd hx hb dX0_lookUp_67 ?_
    have hP : va_P (dC, dI) vwCl [cl_X0 h_this (upd (upd (upd i_this 4 r3) 5 (r5 - ((upd i_this 4 r3) 4))) 6 r10)] H := hP
    have hD : va_D A [cl_X0 h_this (upd (upd (upd i_this 4 r3) 5 (r5 - ((upd i_this 4 r3) 4))) 6 r10)] := hD
    obtain ⟨r12, hc13, h⟩ := bd1_at h
    refine kjSI (kS0 (own := "DateSpans$Adder") (As := [.int (z7 + (1 : Int32))]) (rest := [.ref h_this]) ⟨hx, hb, hml, hown, hts⟩ (kX1_firstOf l N (z7 + (1 : Int32)) r12 hc13) (kgS (kq q_390 rfl) (kq q_391 rfl) (kq q_28 rfl) (kq q_392 rfl)) yd_X1_firstOf ⟨Nat.le_of_ble_eq_true rfl, Nat.le_of_ble_eq_true rfl⟩ rfl rfl hl.1 rfl (lv_room (Nat.le_of_ble_eq_true rfl)) dX0_lookUp_68) ?_
    refine lv_aload_n hx hb dX0_lookUp_71 rfl (lv_at hl 2 rfl) ?_
    refine va_get (D := (dC, dI)) (ci := 0) (v := .int ((upd (upd (upd i_this 4 r3) 5 (r5 - ((upd i_this 4 r3) 4))) 6 r10) 6)) (C := RX0) (T := TX0) (N := 11) hx hb hts inX0 hown hK hP 0 rfl rfl 6 (by decide) (hts _ (kq q_146 rfl)) (fun _ h9 => h9) rfl dX0_lookUp_72 ?_
    refine lv_isub hx hb dX0_lookUp_75 ?_
    refine va_put (D := (dC, dI)) (ci := 0) (v := .int (r12 - ((upd (upd (upd i_this 4 r3) 5 (r5 - ((upd i_this 4 r3) 4))) 6 r10) 6))) (ty := .int) (C := RX0) (T := TX0) (N := 11) hx hb hts inX0 tyX0 tyX0_ok nmX0 hown hK hP hD hS 0 rfl rfl 7 (by decide) (hts _ (kq q_147 rfl)) (fun _ h9 => h9) rfl (by decide +kernel) rfl rfl (Nat.le_of_ble_eq_true rfl) dX0_lookUp_76 (fun H locs hP hD hS => ?_)
    have hP : va_P (dC, dI) vwCl [(h_this, .inr (0, [.int ((upd (upd (upd i_this 4 r3) 5 (r5 - ((upd i_this 4 r3) 4))) 6 r10) 0), .int ((upd (upd (upd i_this 4 r3) 5 (r5 - ((upd i_this 4 r3) 4))) 6 r10) 1), .int ((upd (upd (upd i_this 4 r3) 5 (r5 - ((upd i_this 4 r3) 4))) 6 r10) 2), .int ((upd (upd (upd i_this 4 r3) 5 (r5 - ((upd i_this 4 r3) 4))) 6 r10) 3), .int ((upd (upd (upd i_this 4 r3) 5 (r5 - ((upd i_this 4 r3) 4))) 6 r10) 4), .int ((upd (upd (upd i_this 4 r3) 5 (r5 - ((upd i_this 4 r3) 4))) 6 r10) 5), .int ((upd (upd (upd i_this 4 r3) 5 (r5 - ((upd i_this 4 r3) 4))) 6 r10) 6), .int (r12 - ((upd (upd (upd i_this 4 r3) 5 (r5 - ((upd i_this 4 r3) 4))) 6 r10) 6)), .int ((upd (upd (upd i_this 4 r3) 5 (r5 - ((upd i_this 4 r3) 4))) 6 r10) 8), .int ((upd (upd (upd i_this 4 r3) 5 (r5 - ((upd i_this 4 r3) 4))) 6 r10) 9), .int ((upd (upd (upd i_this 4 r3) 5 (r5 - ((upd i_this 4 r3) 4))) 6 r10) 10)]))] H := hP
    have hD : va_D A [(h_this, .inr (0, [.int ((upd (upd (upd i_this 4 r3) 5 (r5 - ((upd i_this 4 r3) 4))) 6 r10) 0), .int ((upd (upd (upd i_this 4 r3) 5 (r5 - ((upd i_this 4 r3) 4))) 6 r10) 1), .int ((upd (upd (upd i_this 4 r3) 5 (r5 - ((upd i_this 4 r3) 4))) 6 r10) 2), .int ((upd (upd (upd i_this 4 r3) 5 (r5 - ((upd i_this 4 r3) 4))) 6 r10) 3), .int ((upd (upd (upd i_this 4 r3) 5 (r5 - ((upd i_this 4 r3) 4))) 6 r10) 4), .int ((upd (upd (upd i_this 4 r3) 5 (r5 - ((upd i_this 4 r3) 4))) 6 r10) 5), .int ((upd (upd (upd i_this 4 r3) 5 (r5 - ((upd i_this 4 r3) 4))) 6 r10) 6), .int (r12 - ((upd (upd (upd i_this 4 r3) 5 (r5 - ((upd i_this 4 r3) 4))) 6 r10) 6)), .int ((upd (upd (upd i_this 4 r3) 5 (r5 - ((upd i_this 4 r3) 4))) 6 r10) 8), .int ((upd (upd (upd i_this 4 r3) 5 (r5 - ((upd i_this 4 r3) 4))) 6 r10) 9), .int ((upd (upd (upd i_this 4 r3) 5 (r5 - ((upd i_this 4 r3) 4))) 6 r10) 10)]))] := hD
    have hP : va_P (dC, dI) vwCl [cl_X0 h_this (upd (upd (upd (upd i_this 4 r3) 5 (r5 - ((upd i_this 4 r3) 4))) 6 r10) 7 (r12 - ((upd (upd (upd i_this 4 r3) 5 (r5 - ((upd i_this 4 r3) 4))) 6 r10) 6)))] H := hP
    have hD : va_D A [cl_X0 h_this (upd (upd (upd (upd i_this 4 r3) 5 (r5 - ((upd i_this 4 r3) 4))) 6 r10) 7 (r12 - ((upd (upd (upd i_this 4 r3) 5 (r5 - ((upd i_this 4 r3) 4))) 6 r10) 6)))] := hD
    obtain rfl := pj1 h
    exact hEnd _ _ _ _ hP hS dX0_lookUp_79
  have h := ite_f c9 h
  refine lv_aload_n hx hb dX0_lookUp_50 rfl (lv_at hl 2 rfl) ?_
  refine lv_iconst (v := (0 : Int32)) hx hb dX0_lookUp_51 (by decide) ?_
  refine va_put (D := (dC, dI)) (ci := 0) (v := .int (0 : Int32)) (ty := .int) (C := RX0) (T := TX0) (N := 11) hx hb hts inX0 tyX0 tyX0_ok nmX0 hown hK hP hD hS 0 rfl rfl 7 (by decide) (hts _ (kq q_147 rfl)) (fun _ h9 => h9) rfl (by decide +kernel) rfl rfl (Nat.le_of_ble_eq_true rfl) dX0_lookUp_52 (fun H locs hP hD hS => ?_)
  have hP : va_P (dC, dI) vwCl [(h_this, .inr (0, [.int ((upd i_this 4 r3) 0), .int ((upd i_this 4 r3) 1), .int ((upd i_this 4 r3) 2), .int ((upd i_this 4 r3) 3), .int ((upd i_this 4 r3) 4), .int (r5 - ((upd i_this 4 r3) 4)), .int ((upd i_this 4 r3) 6), .int (0 : Int32), .int ((upd i_this 4 r3) 8), .int ((upd i_this 4 r3) 9), .int ((upd i_this 4 r3) 10)]))] H := hP
  have hD : va_D A [(h_this, .inr (0, [.int ((upd i_this 4 r3) 0), .int ((upd i_this 4 r3) 1), .int ((upd i_this 4 r3) 2), .int ((upd i_this 4 r3) 3), .int ((upd i_this 4 r3) 4), .int (r5 - ((upd i_this 4 r3) 4)), .int ((upd i_this 4 r3) 6), .int (0 : Int32), .int ((upd i_this 4 r3) 8), .int ((upd i_this 4 r3) 9), .int ((upd i_this 4 r3) 10)]))] := hD
  have hP : va_P (dC, dI) vwCl [cl_X0 h_this (upd (upd (upd i_this 4 r3) 5 (r5 - ((upd i_this 4 r3) 4))) 7 (0 : Int32))] H := hP
  have hD : va_D A [cl_X0 h_this (upd (upd (upd i_this 4 r3) 5 (r5 - ((upd i_this 4 r3) 4))) 7 (0 : Int32))] := hD
  obtain rfl := pj1 h
  exact hEnd _ _ _ _ hP hS dX0_lookUp_55
noncomputable def fX0_movesMonths_j138 (N : Nat)  (v1 : Int32) (i_this : Nat → Int32) : Option (Int32 × (Nat → Int32)) := (bd1 (fX9_isDay N (((i_this 6) + v1) - (1 : Int32))) fun r1 => (gz r1 (some (r1, (upd i_this 8 (((i_this 6) + v1) - (1 : Int32)))))))
noncomputable def fX0_movesMonths_j118 (N : Nat)  (v1 : Int32) (i_this : Nat → Int32) : Option (Int32 × (Nat → Int32)) := (if (i_this 10) ≤ (0 : Int32) then (fX0_movesMonths_j138 N v1 i_this) else (if (i_this 3) = (1 : Int32) then (fX0_movesMonths_j138 N v1 i_this) else (nm (i_this 7) fun z6 => (fX0_movesMonths_j138 N z6 i_this))))
noncomputable def fX0_movesMonths_j106 (N : Nat)  (v1 : Int32) (v2 : Int32) (i_this : Nat → Int32) : Option (Int32 × (Nat → Int32)) := (if (i_this 3) = (2 : Int32) then (if v2 = (0 : Int32) then (fX0_movesMonths_j118 N v1 i_this) else (nm (i_this 7) fun z9 => (fX0_movesMonths_j138 N z9 i_this))) else (fX0_movesMonths_j118 N v1 i_this))
noncomputable def fX0_movesMonths_j74 (N : Nat)  (v1 : Int32) (t0 : Int32) (i_this : Nat → Int32) : Option (Int32 × (Nat → Int32)) := (nm (if (v1 - (i_this 7)) < (0 : Int32) then (0 : Int32) else (v1 - (i_this 7))) fun z10 => (if z10 ≤ (0 : Int32) then (fX0_movesMonths_j106 N v1 t0 (upd i_this 10 z10)) else (if (i_this 3) = (3 : Int32) then (some ((0 : Int32), (upd i_this 10 z10))) else (fX0_movesMonths_j106 N v1 t0 (upd i_this 10 z10)))))
noncomputable def fX0_movesMonths_j40 (N : Nat)  (i_this : Nat → Int32) : Option (Int32 × (Nat → Int32)) := (if (i_this 7) = (0 : Int32) then (some ((0 : Int32), i_this)) else (nm (((i_this 8) - (i_this 4)) + (1 : Int32)) fun z14 => (if z14 = (i_this 5) then (fX0_movesMonths_j74 N z14 (1 : Int32) i_this) else (fX0_movesMonths_j74 N z14 (0 : Int32) i_this))))
noncomputable def fX0_movesMonths (N : Nat) (i_this : Nat → Int32) : Option (Int32 × (Nat → Int32)) := (if (i_this 0) = (0 : Int32) then (some ((1 : Int32), i_this)) else (if (i_this 8) < (i_this 4) then (bd1 (fX0_lookUp N i_this) fun i_this_18 => (fX0_movesMonths_j40 N i_this_18)) else (if ((i_this 8) - (i_this 4)) < (i_this 5) then (fX0_movesMonths_j40 N i_this) else (bd1 (fX0_lookUp N i_this) fun i_this_21 => (fX0_movesMonths_j40 N i_this_21)))))
set_option maxHeartbeats 4000000 in
set_option maxRecDepth 100000 in
theorem kX0_movesMonths (l : Launch) (dC : Nat → ClassId) (dI : Nat → Nat → Nat) (cI cJ cB : ClassId) (h_this : Nat) (N : Nat) (i_this : Nat → Int32) (r : Int32) (o_i_this : Nat → Int32) (hf : fX0_movesMonths N i_this = some (r, o_i_this)) : MI l yX0_movesMonths (kws yX0_movesMonths cX0_movesMonths 3 (some .boolean)) (kR 3 72) (dC, dI) (kT cI cJ cB) [.ref h_this] [cl_X0 h_this i_this] [cl_X0 h_this o_i_this] r := by
  refine MI.of (cc := cX0_movesMonths) (maxL := 3) (by decide) (Nat.le_of_ble_eq_true rfl) (fun p e s m args below meth c A Q ls KC hN hK hP hD hA hl hEnd => ?_)
  obtain ⟨hx, hb, hml, hown, hts⟩ := KC
  have hown : s.vm.findClass "DateSpans$Adder" = some m.cls := hown
  have hl : lv_has ls 3 [(0, .ref h_this)] := hl
  have hS : va_S A s.heap s.heap [] := va_S.rf
  have JN_138 : ∀ (v1 : Int32) (i_this : Nat → Int32) (ls : Array Slot) (H : Heap) (locs : List Loc), (fX0_movesMonths_j138 N) v1 i_this = some (r, o_i_this) → lv_has ls 3 [(0, .ref h_this), (1, .int v1)] → va_P (dC, dI) vwCl [cl_X0 h_this i_this] H → va_D A [cl_X0 h_this i_this] → va_S A s.heap H locs → W p l e (kR 3 72) s m args below meth c H locs 0 0 Q (F0 m 138 ls []) := by
    intro v1 i_this ls H locs h hl hP hD hS
    unfold fX0_movesMonths_j138 at h
    refine lv_aload_n hx hb dX0_movesMonths_138 rfl (lv_at hl 0 rfl) ?_
    refine lv_aload_n hx hb dX0_movesMonths_139 rfl (lv_at hl 0 rfl) ?_
    refine va_get (D := (dC, dI)) (ci := 0) (v := .int (i_this 6)) (C := RX0) (T := TX0) (N := 11) hx hb hts inX0 hown hK hP 0 rfl rfl 6 (by decide) (hts _ (kq q_146 rfl)) (fun _ h9 => h9) rfl dX0_movesMonths_140 ?_
    refine lv_iload_n hx hb dX0_movesMonths_143 rfl (lv_at hl 1 rfl) ?_
    refine lv_iadd hx hb dX0_movesMonths_144 ?_
    refine lv_iconst (v := (1 : Int32)) hx hb dX0_movesMonths_145 (by decide) ?_
    refine lv_isub hx hb dX0_movesMonths_146 ?_
    refine va_put (D := (dC, dI)) (ci := 0) (v := .int (((i_this 6) + v1) - (1 : Int32))) (ty := .int) (C := RX0) (T := TX0) (N := 11) hx hb hts inX0 tyX0 tyX0_ok nmX0 hown hK hP hD hS 0 rfl rfl 8 (by decide) (hts _ (kq q_148 rfl)) (fun _ h9 => h9) rfl (by decide +kernel) rfl rfl (Nat.le_of_ble_eq_true rfl) dX0_movesMonths_147 (fun H locs hP hD hS => ?_)
    have hP : va_P (dC, dI) vwCl [(h_this, .inr (0, [.int (i_this 0), .int (i_this 1), .int (i_this 2), .int (i_this 3), .int (i_this 4), .int (i_this 5), .int (i_this 6), .int (i_this 7), .int (((i_this 6) + v1) - (1 : Int32)), .int (i_this 9), .int (i_this 10)]))] H := hP
    have hD : va_D A [(h_this, .inr (0, [.int (i_this 0), .int (i_this 1), .int (i_this 2), .int (i_this 3), .int (i_this 4), .int (i_this 5), .int (i_this 6), .int (i_this 7), .int (((i_this 6) + v1) - (1 : Int32)), .int (i_this 9), .int (i_this 10)]))] := hD
    refine lv_aload_n hx hb dX0_movesMonths_150 rfl (lv_at hl 0 rfl) ?_
    refine va_get (D := (dC, dI)) (ci := 0) (v := .int (((i_this 6) + v1) - (1 : Int32))) (C := RX0) (T := TX0) (N := 11) hx hb hts inX0 hown hK hP 0 rfl rfl 8 (by decide) (hts _ (kq q_148 rfl)) (fun _ h9 => h9) rfl dX0_movesMonths_151 ?_
    have hP : va_P (dC, dI) vwCl [cl_X0 h_this (upd i_this 8 (((i_this 6) + v1) - (1 : Int32)))] H := hP
    have hD : va_D A [cl_X0 h_this (upd i_this 8 (((i_this 6) + v1) - (1 : Int32)))] := hD
    obtain ⟨r1, hc2, h⟩ := bd1_at h
    refine kjSI (kSN0 (own := "DateSpans$Adder") (As := [.int (((i_this 6) + v1) - (1 : Int32))]) (rest := []) ⟨hx, hb, hml, hown, hts⟩ (kX9_isDay l N (((i_this 6) + v1) - (1 : Int32)) r1 hc2) (kgN (kq q_272 rfl)) (hN _ q_398 rfl) (kq q_271 rfl) (kq q_18 rfl) yd_X9_isDay ⟨Nat.le_of_ble_eq_true rfl, Nat.le_of_ble_eq_true rfl⟩ rfl rfl hl.1 rfl (lv_room (Nat.le_of_ble_eq_true rfl)) dX0_movesMonths_154) ?_
    obtain ⟨hz3, h⟩ := gz_at h
    obtain ⟨rfl, rfl⟩ := pj2 h
    exact hEnd _ _ _ _ hP hS dX0_movesMonths_157 hz3
  have JN_118 : ∀ (v1 : Int32) (i_this : Nat → Int32) (ls : Array Slot) (H : Heap) (locs : List Loc), (fX0_movesMonths_j118 N) v1 i_this = some (r, o_i_this) → lv_has ls 3 [(0, .ref h_this), (1, .int v1)] → va_P (dC, dI) vwCl [cl_X0 h_this i_this] H → va_D A [cl_X0 h_this i_this] → va_S A s.heap H locs → W p l e (kR 3 72) s m args below meth c H locs 0 0 Q (F0 m 118 ls []) := by
    intro v1 i_this ls H locs h hl hP hD hS
    unfold fX0_movesMonths_j118 at h
    refine lv_aload_n hx hb dX0_movesMonths_118 rfl (lv_at hl 0 rfl) ?_
    refine va_get (D := (dC, dI)) (ci := 0) (v := .int (i_this 10)) (C := RX0) (T := TX0) (N := 11) hx hb hts inX0 hown hK hP 0 rfl rfl 10 (by decide) (hts _ (kq q_152 rfl)) (fun _ h9 => h9) rfl dX0_movesMonths_119 ?_
    refine lv_if_le (tgt := 138) hx hb dX0_movesMonths_122 (by decide) (fun c4 => ?_) (fun c4 => ?_)
    · have h := ite_t c4 h
      exact JN_138 _ _ _ _ _ h (lv_sub hl [0, 1] rfl) hP hD hS
    have h := ite_f c4 h
    refine lv_aload_n hx hb dX0_movesMonths_125 rfl (lv_at hl 0 rfl) ?_
    refine va_get (D := (dC, dI)) (ci := 0) (v := .int (i_this 3)) (C := RX0) (T := TX0) (N := 11) hx hb hts inX0 hown hK hP 0 rfl rfl 3 (by decide) (hts _ (kq q_143 rfl)) (fun _ h9 => h9) rfl dX0_movesMonths_126 ?_
    refine lv_iconst (v := (1 : Int32)) hx hb dX0_movesMonths_129 (by decide) ?_
    refine lv_icmp_eq (tgt := 138) hx hb dX0_movesMonths_130 (by decide) (fun c5 => ?_) (fun c5 => ?_)
    · have h := ite_t c5 h
      exact JN_138 _ _ _ _ _ h (lv_sub hl [0, 1] rfl) hP hD hS
    have h := ite_f c5 h
    refine lv_aload_n hx hb dX0_movesMonths_133 rfl (lv_at hl 0 rfl) ?_
    refine va_get (D := (dC, dI)) (ci := 0) (v := .int (i_this 7)) (C := RX0) (T := TX0) (N := 11) hx hb hts inX0 hown hK hP 0 rfl rfl 7 (by decide) (hts _ (kq q_147 rfl)) (fun _ h9 => h9) rfl dX0_movesMonths_134 ?_
    refine lv_topi (fun z6 ez6 => ?_)
    have h := nm_at ez6 h
    refine lv_istore_n (lv' := [(1, .int z6), (0, .ref h_this)]) hx hb dX0_movesMonths_137 rfl hl (by decide) rfl (fun ls hl => ?_)
    exact JN_138 _ _ _ _ _ h (lv_sub hl [1, 0] rfl) hP hD hS
  have JN_106 : ∀ (v1 : Int32) (v2 : Int32) (i_this : Nat → Int32) (ls : Array Slot) (H : Heap) (locs : List Loc), (fX0_movesMonths_j106 N) v1 v2 i_this = some (r, o_i_this) → lv_has ls 3 [(0, .ref h_this), (1, .int v1), (2, .int v2)] → va_P (dC, dI) vwCl [cl_X0 h_this i_this] H → va_D A [cl_X0 h_this i_this] → va_S A s.heap H locs → W p l e (kR 3 72) s m args below meth c H locs 0 0 Q (F0 m 106 ls []) := by
    intro v1 v2 i_this ls H locs h hl hP hD hS
    unfold fX0_movesMonths_j106 at h
    refine lv_aload_n hx hb dX0_movesMonths_106 rfl (lv_at hl 0 rfl) ?_
    refine va_get (D := (dC, dI)) (ci := 0) (v := .int (i_this 3)) (C := RX0) (T := TX0) (N := 11) hx hb hts inX0 hown hK hP 0 rfl rfl 3 (by decide) (hts _ (kq q_143 rfl)) (fun _ h9 => h9) rfl dX0_movesMonths_107 ?_
    refine lv_iconst (v := (2 : Int32)) hx hb dX0_movesMonths_110 (by decide) ?_
    refine lv_icmp_ne (tgt := 118) hx hb dX0_movesMonths_111 (by decide) (fun c7 => ?_) (fun c7 => ?_)
    · have h := ite_f c7 h
      exact JN_118 _ _ _ _ _ h (lv_sub hl [0, 1] rfl) hP hD hS
    have h := ite_t c7 h
    refine lv_iload_n hx hb dX0_movesMonths_114 rfl (lv_at hl 2 rfl) ?_
    refine lv_if_ne (tgt := 133) hx hb dX0_movesMonths_115 (by decide) (fun c8 => ?_) (fun c8 => ?_)
    · have h := ite_f c8 h
      refine lv_aload_n hx hb dX0_movesMonths_133 rfl (lv_at hl 0 rfl) ?_
      refine va_get (D := (dC, dI)) (ci := 0) (v := .int (i_this 7)) (C := RX0) (T := TX0) (N := 11) hx hb hts inX0 hown hK hP 0 rfl rfl 7 (by decide) (hts _ (kq q_147 rfl)) (fun _ h9 => h9) rfl dX0_movesMonths_134 ?_
      refine lv_topi (fun z9 ez9 => ?_)
      have h := nm_at ez9 h
      refine lv_istore_n (lv' := [(1, .int z9), (0, .ref h_this), (2, .int v2)]) hx hb dX0_movesMonths_137 rfl hl (by decide) rfl (fun ls hl => ?_)
      exact JN_138 _ _ _ _ _ h (lv_sub hl [1, 0] rfl) hP hD hS
    have h := ite_t c8 h
    exact JN_118 _ _ _ _ _ h (lv_sub hl [0, 1] rfl) hP hD hS
  have JN_74 : ∀ (v1 : Int32) (t0 : Int32) (i_this : Nat → Int32) (ls : Array Slot) (H : Heap) (locs : List Loc), (fX0_movesMonths_j74 N) v1 t0 i_this = some (r, o_i_this) → lv_has ls 3 [(0, .ref h_this), (1, .int v1)] → va_P (dC, dI) vwCl [cl_X0 h_this i_this] H → va_D A [cl_X0 h_this i_this] → va_S A s.heap H locs → W p l e (kR 3 72) s m args below meth c H locs 0 0 Q (F0 m 74 ls [.int t0]) := by
    intro v1 t0 i_this ls H locs h hl hP hD hS
    unfold fX0_movesMonths_j74 at h
    refine lv_istore_n (lv' := [(2, .int t0), (0, .ref h_this), (1, .int v1)]) hx hb dX0_movesMonths_74 rfl hl (by decide) rfl (fun ls hl => ?_)
    refine lv_aload_n hx hb dX0_movesMonths_75 rfl (lv_at hl 1 rfl) ?_
    refine lv_iload_n hx hb dX0_movesMonths_76 rfl (lv_at hl 2 rfl) ?_
    refine lv_aload_n hx hb dX0_movesMonths_77 rfl (lv_at hl 1 rfl) ?_
    refine va_get (D := (dC, dI)) (ci := 0) (v := .int (i_this 7)) (C := RX0) (T := TX0) (N := 11) hx hb hts inX0 hown hK hP 0 rfl rfl 7 (by decide) (hts _ (kq q_147 rfl)) (fun _ h9 => h9) rfl dX0_movesMonths_78 ?_
    refine lv_isub hx hb dX0_movesMonths_81 ?_
    refine lv_iconst (v := (0 : Int32)) hx hb dX0_movesMonths_82 (by decide) ?_
    refine va_mmax (rest := [.ref h_this]) hx hb (hml.trans hl.1.symm) hown (hts _ (kq q_395 rfl)) (hts _ (kq q_396 rfl)) (hts _ (kq q_27 rfl)) (hts _ (kq q_397 rfl)) (Nat.le_of_ble_eq_true rfl) (Nat.le_of_ble_eq_true rfl) (Nat.zero_le _) (Nat.zero_le _) dX0_movesMonths_83 ?_
    refine lv_topi (fun z10 ez10 => ?_)
    have h := nm_at ez10 h
    refine va_put (D := (dC, dI)) (ci := 0) (v := .int z10) (ty := .int) (C := RX0) (T := TX0) (N := 11) hx hb hts inX0 tyX0 tyX0_ok nmX0 hown hK hP hD hS 0 rfl rfl 10 (by decide) (hts _ (kq q_152 rfl)) (fun _ h9 => h9) rfl (by decide +kernel) rfl rfl (Nat.le_of_ble_eq_true rfl) dX0_movesMonths_86 (fun H locs hP hD hS => ?_)
    have hP : va_P (dC, dI) vwCl [(h_this, .inr (0, [.int (i_this 0), .int (i_this 1), .int (i_this 2), .int (i_this 3), .int (i_this 4), .int (i_this 5), .int (i_this 6), .int (i_this 7), .int (i_this 8), .int (i_this 9), .int z10]))] H := hP
    have hD : va_D A [(h_this, .inr (0, [.int (i_this 0), .int (i_this 1), .int (i_this 2), .int (i_this 3), .int (i_this 4), .int (i_this 5), .int (i_this 6), .int (i_this 7), .int (i_this 8), .int (i_this 9), .int z10]))] := hD
    refine lv_aload_n hx hb dX0_movesMonths_89 rfl (lv_at hl 1 rfl) ?_
    refine va_get (D := (dC, dI)) (ci := 0) (v := .int z10) (C := RX0) (T := TX0) (N := 11) hx hb hts inX0 hown hK hP 0 rfl rfl 10 (by decide) (hts _ (kq q_152 rfl)) (fun _ h9 => h9) rfl dX0_movesMonths_90 ?_
    refine lv_if_le (tgt := 106) hx hb dX0_movesMonths_93 (by decide) (fun c11 => ?_) (fun c11 => ?_)
    · have h := ite_t c11 h
      have hP : va_P (dC, dI) vwCl [cl_X0 h_this (upd i_this 10 z10)] H := hP
      have hD : va_D A [cl_X0 h_this (upd i_this 10 z10)] := hD
      exact JN_106 _ _ _ _ _ _ h (lv_sub hl [1, 2, 0] rfl) hP hD hS
    have h := ite_f c11 h
    refine lv_aload_n hx hb dX0_movesMonths_96 rfl (lv_at hl 1 rfl) ?_
    refine va_get (D := (dC, dI)) (ci := 0) (v := .int (i_this 3)) (C := RX0) (T := TX0) (N := 11) hx hb hts inX0 hown hK hP 0 rfl rfl 3 (by decide) (hts _ (kq q_143 rfl)) (fun _ h9 => h9) rfl dX0_movesMonths_97 ?_
    refine lv_iconst (v := (3 : Int32)) hx hb dX0_movesMonths_100 (by decide) ?_
    refine lv_icmp_ne (tgt := 106) hx hb dX0_movesMonths_101 (by decide) (fun c12 => ?_) (fun c12 => ?_)
    · have h := ite_f c12 h
      have hP : va_P (dC, dI) vwCl [cl_X0 h_this (upd i_this 10 z10)] H := hP
      have hD : va_D A [cl_X0 h_this (upd i_this 10 z10)] := hD
      exact JN_106 _ _ _ _ _ _ h (lv_sub hl [1, 2, 0] rfl) hP hD hS
    have h := ite_t c12 h
    refine lv_iconst (v := (0 : Int32)) hx hb dX0_movesMonths_104 (by decide) ?_
    have hP : va_P (dC, dI) vwCl [cl_X0 h_this (upd i_this 10 z10)] H := hP
    have hD : va_D A [cl_X0 h_this (upd i_this 10 z10)] := hD
    obtain ⟨rfl, rfl⟩ := pj2 h
    exact hEnd _ _ _ _ hP hS dX0_movesMonths_105 rfl
  have JN_40 : ∀ (i_this : Nat → Int32) (ls : Array Slot) (H : Heap) (locs : List Loc), (fX0_movesMonths_j40 N) i_this = some (r, o_i_this) → lv_has ls 3 [(0, .ref h_this)] → va_P (dC, dI) vwCl [cl_X0 h_this i_this] H → va_D A [cl_X0 h_this i_this] → va_S A s.heap H locs → W p l e (kR 3 72) s m args below meth c H locs 0 0 Q (F0 m 40 ls []) := by
    intro i_this ls H locs h hl hP hD hS
    unfold fX0_movesMonths_j40 at h
    refine lv_aload_n hx hb dX0_movesMonths_40 rfl (lv_at hl 0 rfl) ?_
    refine va_get (D := (dC, dI)) (ci := 0) (v := .int (i_this 7)) (C := RX0) (T := TX0) (N := 11) hx hb hts inX0 hown hK hP 0 rfl rfl 7 (by decide) (hts _ (kq q_147 rfl)) (fun _ h9 => h9) rfl dX0_movesMonths_41 ?_
    refine lv_if_ne (tgt := 49) hx hb dX0_movesMonths_44 (by decide) (fun c13 => ?_) (fun c13 => ?_)
    · have h := ite_f c13 h
      refine lv_aload_n hx hb dX0_movesMonths_49 rfl (lv_at hl 0 rfl) ?_
      refine va_get (D := (dC, dI)) (ci := 0) (v := .int (i_this 8)) (C := RX0) (T := TX0) (N := 11) hx hb hts inX0 hown hK hP 0 rfl rfl 8 (by decide) (hts _ (kq q_148 rfl)) (fun _ h9 => h9) rfl dX0_movesMonths_50 ?_
      refine lv_aload_n hx hb dX0_movesMonths_53 rfl (lv_at hl 0 rfl) ?_
      refine va_get (D := (dC, dI)) (ci := 0) (v := .int (i_this 4)) (C := RX0) (T := TX0) (N := 11) hx hb hts inX0 hown hK hP 0 rfl rfl 4 (by decide) (hts _ (kq q_144 rfl)) (fun _ h9 => h9) rfl dX0_movesMonths_54 ?_
      refine lv_isub hx hb dX0_movesMonths_57 ?_
      refine lv_iconst (v := (1 : Int32)) hx hb dX0_movesMonths_58 (by decide) ?_
      refine lv_iadd hx hb dX0_movesMonths_59 ?_
      refine lv_topi (fun z14 ez14 => ?_)
      have h := nm_at ez14 h
      refine lv_istore_n (lv' := [(1, .int z14), (0, .ref h_this)]) hx hb dX0_movesMonths_60 rfl hl (by decide) rfl (fun ls hl => ?_)
      refine lv_iload_n hx hb dX0_movesMonths_61 rfl (lv_at hl 0 rfl) ?_
      refine lv_aload_n hx hb dX0_movesMonths_62 rfl (lv_at hl 1 rfl) ?_
      refine va_get (D := (dC, dI)) (ci := 0) (v := .int (i_this 5)) (C := RX0) (T := TX0) (N := 11) hx hb hts inX0 hown hK hP 0 rfl rfl 5 (by decide) (hts _ (kq q_145 rfl)) (fun _ h9 => h9) rfl dX0_movesMonths_63 ?_
      refine lv_icmp_ne (tgt := 73) hx hb dX0_movesMonths_66 (by decide) (fun c15 => ?_) (fun c15 => ?_)
      · have h := ite_f c15 h
        refine lv_iconst (v := (0 : Int32)) hx hb dX0_movesMonths_73 (by decide) ?_
        exact JN_74 _ _ _ _ _ _ h (lv_sub hl [1, 0] rfl) hP hD hS
      have h := ite_t c15 h
      refine lv_iconst (v := (1 : Int32)) hx hb dX0_movesMonths_69 (by decide) ?_
      refine lv_goto (tgt := 74) hx hb dX0_movesMonths_70 (by decide) ?_
      exact JN_74 _ _ _ _ _ _ h (lv_sub hl [1, 0] rfl) hP hD hS
    have h := ite_t c13 h
    refine lv_iconst (v := (0 : Int32)) hx hb dX0_movesMonths_47 (by decide) ?_
    obtain ⟨rfl, rfl⟩ := pj2 h
    exact hEnd _ _ _ _ hP hS dX0_movesMonths_48 rfl
  have h := hf
  unfold fX0_movesMonths at h
  refine lv_aload_n hx hb dX0_movesMonths_0 rfl (lv_at hl 0 rfl) ?_
  refine va_get (D := (dC, dI)) (ci := 0) (v := .int (i_this 0)) (C := RX0) (T := TX0) (N := 11) hx hb hts inX0 hown hK hP 0 rfl rfl 0 (by decide) (hts _ (kq q_140 rfl)) (fun _ h9 => h9) rfl dX0_movesMonths_1 ?_
  refine lv_if_ne (tgt := 9) hx hb dX0_movesMonths_4 (by decide) (fun c16 => ?_) (fun c16 => ?_)
  · have h := ite_f c16 h
    refine lv_aload_n hx hb dX0_movesMonths_9 rfl (lv_at hl 0 rfl) ?_
    refine va_get (D := (dC, dI)) (ci := 0) (v := .int (i_this 8)) (C := RX0) (T := TX0) (N := 11) hx hb hts inX0 hown hK hP 0 rfl rfl 8 (by decide) (hts _ (kq q_148 rfl)) (fun _ h9 => h9) rfl dX0_movesMonths_10 ?_
    refine lv_aload_n hx hb dX0_movesMonths_13 rfl (lv_at hl 0 rfl) ?_
    refine va_get (D := (dC, dI)) (ci := 0) (v := .int (i_this 4)) (C := RX0) (T := TX0) (N := 11) hx hb hts inX0 hown hK hP 0 rfl rfl 4 (by decide) (hts _ (kq q_144 rfl)) (fun _ h9 => h9) rfl dX0_movesMonths_14 ?_
    refine lv_icmp_lt (tgt := 36) hx hb dX0_movesMonths_17 (by decide) (fun c17 => ?_) (fun c17 => ?_)
    · have h := ite_t c17 h
      refine lv_aload_n hx hb dX0_movesMonths_36 rfl (lv_at hl 0 rfl) ?_
      obtain ⟨i_this_18, hc19, h⟩ := bd1_at h
      refine kjV (kV (own := "DateSpans$Adder") (C := "DateSpans$Adder") (b := h_this) (As := []) (rest := []) ⟨hx, hb, hml, hown, hts⟩ (kX0_lookUp l dC dI cI cJ cB h_this N i_this i_this_18 hc19 _) (kgV (kq q_382 rfl) (kq q_384 rfl) (kq q_1 rfl) (kq q_24 rfl) (kq q_385 rfl)) yd_X0_lookUp ⟨Nat.le_of_ble_eq_true rfl, Nat.le_of_ble_eq_true rfl⟩ hN hK hP hD [0] rfl rfl (ci := 0) rfl rfl rfl rfl rfl hl.1 rfl (lv_room (Nat.le_of_ble_eq_true rfl)) dX0_movesMonths_37) hP hD hS hA [0] rfl rfl (fun H locs hP hD hS => ?_)
      have hP : va_P (dC, dI) vwCl [cl_X0 h_this i_this_18] H := hP
      have hD : va_D A [cl_X0 h_this i_this_18] := hD
      exact JN_40 _ _ _ _ h (lv_sub hl [0] rfl) hP hD hS
    have h := ite_f c17 h
    refine lv_aload_n hx hb dX0_movesMonths_20 rfl (lv_at hl 0 rfl) ?_
    refine va_get (D := (dC, dI)) (ci := 0) (v := .int (i_this 8)) (C := RX0) (T := TX0) (N := 11) hx hb hts inX0 hown hK hP 0 rfl rfl 8 (by decide) (hts _ (kq q_148 rfl)) (fun _ h9 => h9) rfl dX0_movesMonths_21 ?_
    refine lv_aload_n hx hb dX0_movesMonths_24 rfl (lv_at hl 0 rfl) ?_
    refine va_get (D := (dC, dI)) (ci := 0) (v := .int (i_this 4)) (C := RX0) (T := TX0) (N := 11) hx hb hts inX0 hown hK hP 0 rfl rfl 4 (by decide) (hts _ (kq q_144 rfl)) (fun _ h9 => h9) rfl dX0_movesMonths_25 ?_
    refine lv_isub hx hb dX0_movesMonths_28 ?_
    refine lv_aload_n hx hb dX0_movesMonths_29 rfl (lv_at hl 0 rfl) ?_
    refine va_get (D := (dC, dI)) (ci := 0) (v := .int (i_this 5)) (C := RX0) (T := TX0) (N := 11) hx hb hts inX0 hown hK hP 0 rfl rfl 5 (by decide) (hts _ (kq q_145 rfl)) (fun _ h9 => h9) rfl dX0_movesMonths_30 ?_
    refine lv_icmp_lt (tgt := 40) hx hb dX0_movesMonths_33 (by decide) (fun c20 => ?_) (fun c20 => ?_)
    · have h := ite_t c20 h
      exact JN_40 _ _ _ _ h (lv_sub hl [0] rfl) hP hD hS
    have h := ite_f c20 h
    refine lv_aload_n hx hb dX0_movesMonths_36 rfl (lv_at hl 0 rfl) ?_
    obtain ⟨i_this_21, hc22, h⟩ := bd1_at h
    refine kjV (kV (own := "DateSpans$Adder") (C := "DateSpans$Adder") (b := h_this) (As := []) (rest := []) ⟨hx, hb, hml, hown, hts⟩ (kX0_lookUp l dC dI cI cJ cB h_this N i_this i_this_21 hc22 _) (kgV (kq q_382 rfl) (kq q_384 rfl) (kq q_1 rfl) (kq q_24 rfl) (kq q_385 rfl)) yd_X0_lookUp ⟨Nat.le_of_ble_eq_true rfl, Nat.le_of_ble_eq_true rfl⟩ hN hK hP hD [0] rfl rfl (ci := 0) rfl rfl rfl rfl rfl hl.1 rfl (lv_room (Nat.le_of_ble_eq_true rfl)) dX0_movesMonths_37) hP hD hS hA [0] rfl rfl (fun H locs hP hD hS => ?_)
    have hP : va_P (dC, dI) vwCl [cl_X0 h_this i_this_21] H := hP
    have hD : va_D A [cl_X0 h_this i_this_21] := hD
    exact JN_40 _ _ _ _ h (lv_sub hl [0] rfl) hP hD hS
  have h := ite_t c16 h
  refine lv_iconst (v := (1 : Int32)) hx hb dX0_movesMonths_7 (by decide) ?_
  obtain ⟨rfl, rfl⟩ := pj2 h
  exact hEnd _ _ _ _ hP hS dX0_movesMonths_8 rfl
noncomputable def fX0_movesDays (N : Nat) (i_this : Nat → Int32) : Option (Int32 × (Nat → Int32)) := (bd1 (fX9_isDay N ((i_this 8) + (i_this 1))) fun r1 => (gz r1 (some (r1, (upd i_this 8 ((i_this 8) + (i_this 1)))))))
set_option maxHeartbeats 4000000 in
set_option maxRecDepth 100000 in
theorem kX0_movesDays (l : Launch) (dC : Nat → ClassId) (dI : Nat → Nat → Nat) (cI cJ cB : ClassId) (h_this : Nat) (N : Nat) (i_this : Nat → Int32) (r : Int32) (o_i_this : Nat → Int32) (hf : fX0_movesDays N i_this = some (r, o_i_this)) : MI l yX0_movesDays (kws yX0_movesDays cX0_movesDays 1 (some .boolean)) (kR 1 20) (dC, dI) (kT cI cJ cB) [.ref h_this] [cl_X0 h_this i_this] [cl_X0 h_this o_i_this] r := by
  refine MI.of (cc := cX0_movesDays) (maxL := 1) (by decide) (Nat.le_of_ble_eq_true rfl) (fun p e s m args below meth c A Q ls KC hN hK hP hD hA hl hEnd => ?_)
  obtain ⟨hx, hb, hml, hown, hts⟩ := KC
  have hown : s.vm.findClass "DateSpans$Adder" = some m.cls := hown
  have hl : lv_has ls 1 [(0, .ref h_this)] := hl
  have hS : va_S A s.heap s.heap [] := va_S.rf
  have h := hf
  unfold fX0_movesDays at h
  refine lv_aload_n hx hb dX0_movesDays_0 rfl (lv_at hl 0 rfl) ?_
  refine lv_dup hx hb dX0_movesDays_1 rfl ?_
  refine va_get (D := (dC, dI)) (ci := 0) (v := .int (i_this 8)) (C := RX0) (T := TX0) (N := 11) hx hb hts inX0 hown hK hP 0 rfl rfl 8 (by decide) (hts _ (kq q_148 rfl)) (fun _ h9 => h9) rfl dX0_movesDays_2 ?_
  refine lv_aload_n hx hb dX0_movesDays_5 rfl (lv_at hl 0 rfl) ?_
  refine va_get (D := (dC, dI)) (ci := 0) (v := .int (i_this 1)) (C := RX0) (T := TX0) (N := 11) hx hb hts inX0 hown hK hP 0 rfl rfl 1 (by decide) (hts _ (kq q_141 rfl)) (fun _ h9 => h9) rfl dX0_movesDays_6 ?_
  refine lv_iadd hx hb dX0_movesDays_9 ?_
  refine va_put (D := (dC, dI)) (ci := 0) (v := .int ((i_this 8) + (i_this 1))) (ty := .int) (C := RX0) (T := TX0) (N := 11) hx hb hts inX0 tyX0 tyX0_ok nmX0 hown hK hP hD hS 0 rfl rfl 8 (by decide) (hts _ (kq q_148 rfl)) (fun _ h9 => h9) rfl (by decide +kernel) rfl rfl (Nat.le_of_ble_eq_true rfl) dX0_movesDays_10 (fun H locs hP hD hS => ?_)
  have hP : va_P (dC, dI) vwCl [(h_this, .inr (0, [.int (i_this 0), .int (i_this 1), .int (i_this 2), .int (i_this 3), .int (i_this 4), .int (i_this 5), .int (i_this 6), .int (i_this 7), .int ((i_this 8) + (i_this 1)), .int (i_this 9), .int (i_this 10)]))] H := hP
  have hD : va_D A [(h_this, .inr (0, [.int (i_this 0), .int (i_this 1), .int (i_this 2), .int (i_this 3), .int (i_this 4), .int (i_this 5), .int (i_this 6), .int (i_this 7), .int ((i_this 8) + (i_this 1)), .int (i_this 9), .int (i_this 10)]))] := hD
  refine lv_aload_n hx hb dX0_movesDays_13 rfl (lv_at hl 0 rfl) ?_
  refine va_get (D := (dC, dI)) (ci := 0) (v := .int ((i_this 8) + (i_this 1))) (C := RX0) (T := TX0) (N := 11) hx hb hts inX0 hown hK hP 0 rfl rfl 8 (by decide) (hts _ (kq q_148 rfl)) (fun _ h9 => h9) rfl dX0_movesDays_14 ?_
  have hP : va_P (dC, dI) vwCl [cl_X0 h_this (upd i_this 8 ((i_this 8) + (i_this 1)))] H := hP
  have hD : va_D A [cl_X0 h_this (upd i_this 8 ((i_this 8) + (i_this 1)))] := hD
  obtain ⟨r1, hc2, h⟩ := bd1_at h
  refine kjSI (kSN0 (own := "DateSpans$Adder") (As := [.int ((i_this 8) + (i_this 1))]) (rest := []) ⟨hx, hb, hml, hown, hts⟩ (kX9_isDay l N ((i_this 8) + (i_this 1)) r1 hc2) (kgN (kq q_272 rfl)) (hN _ q_398 rfl) (kq q_271 rfl) (kq q_18 rfl) yd_X9_isDay ⟨Nat.le_of_ble_eq_true rfl, Nat.le_of_ble_eq_true rfl⟩ rfl rfl hl.1 rfl (lv_room (Nat.le_of_ble_eq_true rfl)) dX0_movesDays_17) ?_
  obtain ⟨hz3, h⟩ := gz_at h
  obtain ⟨rfl, rfl⟩ := pj2 h
  exact hEnd _ _ _ _ hP hS dX0_movesDays_20 hz3
noncomputable def fX9_instantOf (N : Nat) (p1 : Int32) (p2 : Int32) : Option (Int64) := (some ((p1.toInt64 * (86400 : Int64)) + p2.toInt64))
set_option maxHeartbeats 4000000 in
set_option maxRecDepth 100000 in
theorem kX9_instantOf (l : Launch) (N : Nat) (p1 : Int32) (p2 : Int32) (r : Int64) (hf : fX9_instantOf N p1 p2 = some r) : SL l yX9_instantOf (kws yX9_instantOf cX9_instantOf 2 (some .long)) (kR 0 0) [.int p1, .int p2] r := by
  refine SL.of (cc := cX9_instantOf) (maxL := 2) (by decide) (Nat.le_of_ble_eq_true rfl) (fun p e s m args below meth c Q ls KC hl hEnd => ?_)
  obtain ⟨hx, hb, hml, hown, hts⟩ := KC
  have hown : s.vm.findClass "DateSpans" = some m.cls := hown
  have hl : lv_has ls 2 [(0, .int p1), (1, .int p2)] := hl
  have h := hf
  unfold fX9_instantOf at h
  refine lv_iload_n hx hb dX9_instantOf_0 rfl (lv_at hl 0 rfl) ?_
  refine lv_i2l hx hb dX9_instantOf_1 rfl ?_
  refine lv_ldc2 (v := (86400 : Int64)) hx hb hown (hts _ (kq q_414 rfl)) dX9_instantOf_2 ?_
  refine lv_lmul hx hb dX9_instantOf_5 ?_
  refine lv_iload_n hx hb dX9_instantOf_6 rfl (lv_at hl 1 rfl) ?_
  refine lv_i2l hx hb dX9_instantOf_7 rfl ?_
  refine lv_ladd hx hb dX9_instantOf_8 ?_
  obtain rfl := pj1 h
  exact hEnd _ _ dX9_instantOf_9
noncomputable def fX0_instant (N : Nat) (i_this : Nat → Int32) : Option (Int64) := (bd1 (fX9_instantOf N (i_this 8) (i_this 9)) fun r1 => (some r1))
set_option maxHeartbeats 4000000 in
set_option maxRecDepth 100000 in
theorem kX0_instant (l : Launch) (dC : Nat → ClassId) (dI : Nat → Nat → Nat) (cI cJ cB : ClassId) (h_this : Nat) (N : Nat) (i_this : Nat → Int32) (r : Int64) (hf : fX0_instant N i_this = some r) : ML l yX0_instant (kws yX0_instant cX0_instant 1 (some .long)) (kR 1 21) (dC, dI) (kT cI cJ cB) [.ref h_this] [cl_X0 h_this i_this] [cl_X0 h_this i_this] r := by
  refine ML.of (cc := cX0_instant) (maxL := 1) (by decide) (Nat.le_of_ble_eq_true rfl) (fun p e s m args below meth c A Q ls KC hN hK hP hD hA hl hEnd => ?_)
  obtain ⟨hx, hb, hml, hown, hts⟩ := KC
  have hown : s.vm.findClass "DateSpans$Adder" = some m.cls := hown
  have hl : lv_has ls 1 [(0, .ref h_this)] := hl
  have hS : va_S A s.heap s.heap [] := va_S.rf
  have h := hf
  unfold fX0_instant at h
  refine lv_aload_n hx hb dX0_instant_0 rfl (lv_at hl 0 rfl) ?_
  refine va_get (D := (dC, dI)) (ci := 0) (v := .int (i_this 8)) (C := RX0) (T := TX0) (N := 11) hx hb hts inX0 hown hK hP 0 rfl rfl 8 (by decide) (hts _ (kq q_148 rfl)) (fun _ h9 => h9) rfl dX0_instant_1 ?_
  refine lv_aload_n hx hb dX0_instant_4 rfl (lv_at hl 0 rfl) ?_
  refine va_get (D := (dC, dI)) (ci := 0) (v := .int (i_this 9)) (C := RX0) (T := TX0) (N := 11) hx hb hts inX0 hown hK hP 0 rfl rfl 9 (by decide) (hts _ (kq q_150 rfl)) (fun _ h9 => h9) rfl dX0_instant_5 ?_
  obtain ⟨r1, hc2, h⟩ := bd1_at h
  refine kjSL (kSN0 (own := "DateSpans$Adder") (As := [.int (i_this 8), .int (i_this 9)]) (rest := []) ⟨hx, hb, hml, hown, hts⟩ (kX9_instantOf l N (i_this 8) (i_this 9) r1 hc2) (kgN (kq q_413 rfl)) (hN _ q_411 rfl) (kq q_412 rfl) (kq q_18 rfl) yd_X9_instantOf ⟨Nat.le_of_ble_eq_true rfl, Nat.le_of_ble_eq_true rfl⟩ rfl rfl hl.1 rfl (lv_room (Nat.le_of_ble_eq_true rfl)) dX0_instant_8) ?_
  obtain rfl := pj1 h
  exact hEnd _ _ _ _ hP hS dX0_instant_11
noncomputable def fX0_movesSeconds (N : Nat) (i_this : Nat → Int32) : Option (Int32 × (Nat → Int32)) := (if (i_this 2) = (0 : Int32) then (some ((1 : Int32), i_this)) else (bd1 (fX0_instant N i_this) fun r2 => (nm (r2 + (i_this 2).toInt64) fun z4 => (if (lg_cmp z4 (0 : Int64)) < (0 : Int32) then (some ((0 : Int32), i_this)) else (bd1 (fX9_instantOf N (3652058 : Int32) (86399 : Int32)) fun r6 => (if (lg_cmp z4 r6) ≤ (0 : Int32) then (some ((1 : Int32), (upd (upd i_this 8 ((z4 / (86400 : Int64)).toInt32)) 9 ((z4 - z4 / (86400 : Int64) * (86400 : Int64)).toInt32)))) else (some ((0 : Int32), i_this))))))))
set_option maxHeartbeats 4000000 in
set_option maxRecDepth 100000 in
theorem kX0_movesSeconds (l : Launch) (dC : Nat → ClassId) (dI : Nat → Nat → Nat) (cI cJ cB : ClassId) (h_this : Nat) (N : Nat) (i_this : Nat → Int32) (r : Int32) (o_i_this : Nat → Int32) (hf : fX0_movesSeconds N i_this = some (r, o_i_this)) : MI l yX0_movesSeconds (kws yX0_movesSeconds cX0_movesSeconds 3 (some .boolean)) (kR 2 41) (dC, dI) (kT cI cJ cB) [.ref h_this] [cl_X0 h_this i_this] [cl_X0 h_this o_i_this] r := by
  refine MI.of (cc := cX0_movesSeconds) (maxL := 3) (by decide) (Nat.le_of_ble_eq_true rfl) (fun p e s m args below meth c A Q ls KC hN hK hP hD hA hl hEnd => ?_)
  obtain ⟨hx, hb, hml, hown, hts⟩ := KC
  have hown : s.vm.findClass "DateSpans$Adder" = some m.cls := hown
  have hl : lv_has ls 3 [(0, .ref h_this)] := hl
  have hS : va_S A s.heap s.heap [] := va_S.rf
  have h := hf
  unfold fX0_movesSeconds at h
  refine lv_aload_n hx hb dX0_movesSeconds_0 rfl (lv_at hl 0 rfl) ?_
  refine va_get (D := (dC, dI)) (ci := 0) (v := .int (i_this 2)) (C := RX0) (T := TX0) (N := 11) hx hb hts inX0 hown hK hP 0 rfl rfl 2 (by decide) (hts _ (kq q_142 rfl)) (fun _ h9 => h9) rfl dX0_movesSeconds_1 ?_
  refine lv_if_ne (tgt := 9) hx hb dX0_movesSeconds_4 (by decide) (fun c1 => ?_) (fun c1 => ?_)
  · have h := ite_f c1 h
    refine lv_aload_n hx hb dX0_movesSeconds_9 rfl (lv_at hl 0 rfl) ?_
    obtain ⟨r2, hc3, h⟩ := bd1_at h
    refine kjL (kV (own := "DateSpans$Adder") (C := "DateSpans$Adder") (b := h_this) (As := []) (rest := []) ⟨hx, hb, hml, hown, hts⟩ (kX0_instant l dC dI cI cJ cB h_this N i_this r2 hc3 _) (kgV (kq q_407 rfl) (kq q_408 rfl) (kq q_409 rfl) (kq q_24 rfl) (kq q_410 rfl)) yd_X0_instant ⟨Nat.le_of_ble_eq_true rfl, Nat.le_of_ble_eq_true rfl⟩ hN hK hP hD [0] rfl rfl (ci := 0) rfl rfl rfl rfl rfl hl.1 rfl (lv_room (Nat.le_of_ble_eq_true rfl)) dX0_movesSeconds_10) hP hD hS hA [0] rfl rfl (fun H locs hP hD hS => ?_)
    have hP : va_P (dC, dI) vwCl [cl_X0 h_this i_this] H := hP
    have hD : va_D A [cl_X0 h_this i_this] := hD
    refine lv_aload_n hx hb dX0_movesSeconds_13 rfl (lv_at hl 0 rfl) ?_
    refine va_get (D := (dC, dI)) (ci := 0) (v := .int (i_this 2)) (C := RX0) (T := TX0) (N := 11) hx hb hts inX0 hown hK hP 0 rfl rfl 2 (by decide) (hts _ (kq q_142 rfl)) (fun _ h9 => h9) rfl dX0_movesSeconds_14 ?_
    refine lv_i2l hx hb dX0_movesSeconds_17 rfl ?_
    refine lv_ladd hx hb dX0_movesSeconds_18 ?_
    refine lv_topl (fun z4 ez4 => ?_)
    have h := nm_at ez4 h
    refine lv_lstore_n (lv' := [(1, .long z4), (0, .ref h_this)]) hx hb dX0_movesSeconds_19 rfl hl (by decide) rfl (fun ls hl => ?_)
    refine lv_lload_n hx hb dX0_movesSeconds_20 rfl (lv_at hl 0 rfl) ?_
    refine lv_lconst (v := (0 : Int64)) hx hb dX0_movesSeconds_21 (by decide) ?_
    refine W.lcmp hx hb dX0_movesSeconds_22 ?_
    refine lv_if_lt (tgt := 38) hx hb dX0_movesSeconds_23 (by decide) (fun c5 => ?_) (fun c5 => ?_)
    · have h := ite_t c5 h
      refine lv_iconst (v := (0 : Int32)) hx hb dX0_movesSeconds_38 (by decide) ?_
      obtain ⟨rfl, rfl⟩ := pj2 h
      exact hEnd _ _ _ _ hP hS dX0_movesSeconds_39 rfl
    have h := ite_f c5 h
    refine lv_lload_n hx hb dX0_movesSeconds_26 rfl (lv_at hl 0 rfl) ?_
    refine lv_ldc (v := (3652058 : Int32)) hx hb hown (hts _ (kq q_415 rfl)) dX0_movesSeconds_27 ?_
    refine lv_ldc (v := (86399 : Int32)) hx hb hown (hts _ (kq q_416 rfl)) dX0_movesSeconds_29 ?_
    obtain ⟨r6, hc7, h⟩ := bd1_at h
    refine kjSL (kSN0 (own := "DateSpans$Adder") (As := [.int (3652058 : Int32), .int (86399 : Int32)]) (rest := [.long z4]) ⟨hx, hb, hml, hown, hts⟩ (kX9_instantOf l N (3652058 : Int32) (86399 : Int32) r6 hc7) (kgN (kq q_413 rfl)) (hN _ q_411 rfl) (kq q_412 rfl) (kq q_18 rfl) yd_X9_instantOf ⟨Nat.le_of_ble_eq_true rfl, Nat.le_of_ble_eq_true rfl⟩ rfl rfl hl.1 rfl (lv_room (Nat.le_of_ble_eq_true rfl)) dX0_movesSeconds_31) ?_
    refine W.lcmp hx hb dX0_movesSeconds_34 ?_
    refine lv_if_le (tgt := 40) hx hb dX0_movesSeconds_35 (by decide) (fun c8 => ?_) (fun c8 => ?_)
    · have h := ite_t c8 h
      refine lv_aload_n hx hb dX0_movesSeconds_40 rfl (lv_at hl 1 rfl) ?_
      refine lv_lload_n hx hb dX0_movesSeconds_41 rfl (lv_at hl 0 rfl) ?_
      refine lv_ldc2 (v := (86400 : Int64)) hx hb hown (hts _ (kq q_417 rfl)) dX0_movesSeconds_42 ?_
      refine lv_ldiv hx hb dX0_movesSeconds_45 (by decide) ?_
      refine lv_l2i hx hb dX0_movesSeconds_46 rfl ?_
      refine va_put (D := (dC, dI)) (ci := 0) (v := .int ((z4 / (86400 : Int64)).toInt32)) (ty := .int) (C := RX0) (T := TX0) (N := 11) hx hb hts inX0 tyX0 tyX0_ok nmX0 hown hK hP hD hS 0 rfl rfl 8 (by decide) (hts _ (kq q_148 rfl)) (fun _ h9 => h9) rfl (by decide +kernel) rfl rfl (Nat.le_of_ble_eq_true rfl) dX0_movesSeconds_47 (fun H locs hP hD hS => ?_)
      have hP : va_P (dC, dI) vwCl [(h_this, .inr (0, [.int (i_this 0), .int (i_this 1), .int (i_this 2), .int (i_this 3), .int (i_this 4), .int (i_this 5), .int (i_this 6), .int (i_this 7), .int ((z4 / (86400 : Int64)).toInt32), .int (i_this 9), .int (i_this 10)]))] H := hP
      have hD : va_D A [(h_this, .inr (0, [.int (i_this 0), .int (i_this 1), .int (i_this 2), .int (i_this 3), .int (i_this 4), .int (i_this 5), .int (i_this 6), .int (i_this 7), .int ((z4 / (86400 : Int64)).toInt32), .int (i_this 9), .int (i_this 10)]))] := hD
      refine lv_aload_n hx hb dX0_movesSeconds_50 rfl (lv_at hl 1 rfl) ?_
      refine lv_lload_n hx hb dX0_movesSeconds_51 rfl (lv_at hl 0 rfl) ?_
      refine lv_ldc2 (v := (86400 : Int64)) hx hb hown (hts _ (kq q_417 rfl)) dX0_movesSeconds_52 ?_
      refine lv_lrem hx hb dX0_movesSeconds_55 (by decide) ?_
      refine lv_l2i hx hb dX0_movesSeconds_56 rfl ?_
      refine va_put (D := (dC, dI)) (ci := 0) (v := .int ((z4 - z4 / (86400 : Int64) * (86400 : Int64)).toInt32)) (ty := .int) (C := RX0) (T := TX0) (N := 11) hx hb hts inX0 tyX0 tyX0_ok nmX0 hown hK hP hD hS 0 rfl rfl 9 (by decide) (hts _ (kq q_150 rfl)) (fun _ h9 => h9) rfl (by decide +kernel) rfl rfl (Nat.le_of_ble_eq_true rfl) dX0_movesSeconds_57 (fun H locs hP hD hS => ?_)
      have hP : va_P (dC, dI) vwCl [(h_this, .inr (0, [.int (i_this 0), .int (i_this 1), .int (i_this 2), .int (i_this 3), .int (i_this 4), .int (i_this 5), .int (i_this 6), .int (i_this 7), .int ((z4 / (86400 : Int64)).toInt32), .int ((z4 - z4 / (86400 : Int64) * (86400 : Int64)).toInt32), .int (i_this 10)]))] H := hP
      have hD : va_D A [(h_this, .inr (0, [.int (i_this 0), .int (i_this 1), .int (i_this 2), .int (i_this 3), .int (i_this 4), .int (i_this 5), .int (i_this 6), .int (i_this 7), .int ((z4 / (86400 : Int64)).toInt32), .int ((z4 - z4 / (86400 : Int64) * (86400 : Int64)).toInt32), .int (i_this 10)]))] := hD
      refine lv_iconst (v := (1 : Int32)) hx hb dX0_movesSeconds_60 (by decide) ?_
      have hP : va_P (dC, dI) vwCl [cl_X0 h_this (upd (upd i_this 8 ((z4 / (86400 : Int64)).toInt32)) 9 ((z4 - z4 / (86400 : Int64) * (86400 : Int64)).toInt32))] H := hP
      have hD : va_D A [cl_X0 h_this (upd (upd i_this 8 ((z4 / (86400 : Int64)).toInt32)) 9 ((z4 - z4 / (86400 : Int64) * (86400 : Int64)).toInt32))] := hD
      obtain ⟨rfl, rfl⟩ := pj2 h
      exact hEnd _ _ _ _ hP hS dX0_movesSeconds_61 rfl
    have h := ite_f c8 h
    refine lv_iconst (v := (0 : Int32)) hx hb dX0_movesSeconds_38 (by decide) ?_
    obtain ⟨rfl, rfl⟩ := pj2 h
    exact hEnd _ _ _ _ hP hS dX0_movesSeconds_39 rfl
  have h := ite_t c1 h
  refine lv_iconst (v := (1 : Int32)) hx hb dX0_movesSeconds_7 (by decide) ?_
  obtain ⟨rfl, rfl⟩ := pj2 h
  exact hEnd _ _ _ _ hP hS dX0_movesSeconds_8 rfl
noncomputable def fX0_leads (N : Nat) (p1 : Int32) (p2 : Int32) (p3 : Int32) (i_this : Nat → Int32) : Option (Int32 × (Nat → Int32)) := (bd1 (fX0_stands N p1 p2 i_this) fun i_this_1 => (if p3 = (0 : Int32) then (bd2 (fX0_movesMonths N i_this_1) fun r16 i_this_17 => (if r16 = (0 : Int32) then (some ((0 : Int32), i_this_17)) else (bd2 (fX0_movesDays N i_this_17) fun r20 i_this_21 => (if r20 = (0 : Int32) then (some ((0 : Int32), i_this_21)) else (bd2 (fX0_movesSeconds N i_this_21) fun r24 i_this_25 => (if r24 = (0 : Int32) then (some ((0 : Int32), i_this_25)) else (some ((1 : Int32), i_this_25)))))))) else (bd2 (fX0_movesSeconds N i_this_1) fun r4 i_this_5 => (if r4 = (0 : Int32) then (some ((0 : Int32), i_this_5)) else (bd2 (fX0_movesDays N i_this_5) fun r8 i_this_9 => (if r8 = (0 : Int32) then (some ((0 : Int32), i_this_9)) else (bd2 (fX0_movesMonths N i_this_9) fun r12 i_this_13 => (if r12 = (0 : Int32) then (some ((0 : Int32), i_this_13)) else (some ((1 : Int32), i_this_13))))))))))
set_option maxHeartbeats 4000000 in
set_option maxRecDepth 100000 in
theorem kX0_leads (l : Launch) (dC : Nat → ClassId) (dI : Nat → Nat → Nat) (cI cJ cB : ClassId) (h_this : Nat) (N : Nat) (p1 : Int32) (p2 : Int32) (p3 : Int32) (i_this : Nat → Int32) (r : Int32) (o_i_this : Nat → Int32) (hf : fX0_leads N p1 p2 p3 i_this = some (r, o_i_this)) : MI l yX0_leads (kws yX0_leads cX0_leads 4 (some .boolean)) (kR 4 94) (dC, dI) (kT cI cJ cB) [.ref h_this, .int p1, .int p2, .int p3] [cl_X0 h_this i_this] [cl_X0 h_this o_i_this] r := by
  refine MI.of (cc := cX0_leads) (maxL := 4) (by decide) (Nat.le_of_ble_eq_true rfl) (fun p e s m args below meth c A Q ls KC hN hK hP hD hA hl hEnd => ?_)
  obtain ⟨hx, hb, hml, hown, hts⟩ := KC
  have hown : s.vm.findClass "DateSpans$Adder" = some m.cls := hown
  have hl : lv_has ls 4 [(0, .ref h_this), (1, .int p1), (2, .int p2), (3, .int p3)] := hl
  have hS : va_S A s.heap s.heap [] := va_S.rf
  have h := hf
  unfold fX0_leads at h
  refine lv_aload_n hx hb dX0_leads_0 rfl (lv_at hl 0 rfl) ?_
  refine lv_iload_n hx hb dX0_leads_1 rfl (lv_at hl 1 rfl) ?_
  refine lv_iload_n hx hb dX0_leads_2 rfl (lv_at hl 2 rfl) ?_
  obtain ⟨i_this_1, hc2, h⟩ := bd1_at h
  refine kjV (kV (own := "DateSpans$Adder") (C := "DateSpans$Adder") (b := h_this) (As := [.int p1, .int p2]) (rest := []) ⟨hx, hb, hml, hown, hts⟩ (kX0_stands l dC dI cI cJ cB h_this N p1 p2 i_this i_this_1 hc2 _) (kgV (kq q_374 rfl) (kq q_375 rfl) (kq q_376 rfl) (kq q_24 rfl) (kq q_377 rfl)) yd_X0_stands ⟨Nat.le_of_ble_eq_true rfl, Nat.le_of_ble_eq_true rfl⟩ hN hK hP hD [0] rfl rfl (ci := 0) rfl rfl rfl rfl rfl hl.1 rfl (lv_room (Nat.le_of_ble_eq_true rfl)) dX0_leads_3) hP hD hS hA [0] rfl rfl (fun H locs hP hD hS => ?_)
  have hP : va_P (dC, dI) vwCl [cl_X0 h_this i_this_1] H := hP
  have hD : va_D A [cl_X0 h_this i_this_1] := hD
  refine lv_iload_n hx hb dX0_leads_6 rfl (lv_at hl 3 rfl) ?_
  refine lv_if_ne (tgt := 37) hx hb dX0_leads_7 (by decide) (fun c3 => ?_) (fun c3 => ?_)
  · have h := ite_f c3 h
    refine lv_aload_n hx hb dX0_leads_37 rfl (lv_at hl 0 rfl) ?_
    obtain ⟨r4, i_this_5, hc6, h⟩ := bd2_at h
    refine kjI (kV (own := "DateSpans$Adder") (C := "DateSpans$Adder") (b := h_this) (As := []) (rest := []) ⟨hx, hb, hml, hown, hts⟩ (kX0_movesSeconds l dC dI cI cJ cB h_this N i_this_1 r4 i_this_5 hc6 _) (kgV (kq q_403 rfl) (kq q_405 rfl) (kq q_3 rfl) (kq q_24 rfl) (kq q_406 rfl)) yd_X0_movesSeconds ⟨Nat.le_of_ble_eq_true rfl, Nat.le_of_ble_eq_true rfl⟩ hN hK hP hD [0] rfl rfl (ci := 0) rfl rfl rfl rfl rfl hl.1 rfl (lv_room (Nat.le_of_ble_eq_true rfl)) dX0_leads_38) hP hD hS hA [0] rfl rfl (fun H locs hP hD hS => ?_)
    have hP : va_P (dC, dI) vwCl [cl_X0 h_this i_this_5] H := hP
    have hD : va_D A [cl_X0 h_this i_this_5] := hD
    refine lv_if_eq (tgt := 62) hx hb dX0_leads_41 (by decide) (fun c7 => ?_) (fun c7 => ?_)
    · have h := ite_t c7 h
      refine lv_iconst (v := (0 : Int32)) hx hb dX0_leads_62 (by decide) ?_
      obtain ⟨rfl, rfl⟩ := pj2 h
      exact hEnd _ _ _ _ hP hS dX0_leads_63 rfl
    have h := ite_f c7 h
    refine lv_aload_n hx hb dX0_leads_44 rfl (lv_at hl 0 rfl) ?_
    obtain ⟨r8, i_this_9, hc10, h⟩ := bd2_at h
    refine kjI (kV (own := "DateSpans$Adder") (C := "DateSpans$Adder") (b := h_this) (As := []) (rest := []) ⟨hx, hb, hml, hown, hts⟩ (kX0_movesDays l dC dI cI cJ cB h_this N i_this_5 r8 i_this_9 hc10 _) (kgV (kq q_399 rfl) (kq q_401 rfl) (kq q_2 rfl) (kq q_24 rfl) (kq q_402 rfl)) yd_X0_movesDays ⟨Nat.le_of_ble_eq_true rfl, Nat.le_of_ble_eq_true rfl⟩ hN hK hP hD [0] rfl rfl (ci := 0) rfl rfl rfl rfl rfl hl.1 rfl (lv_room (Nat.le_of_ble_eq_true rfl)) dX0_leads_45) hP hD hS hA [0] rfl rfl (fun H locs hP hD hS => ?_)
    have hP : va_P (dC, dI) vwCl [cl_X0 h_this i_this_9] H := hP
    have hD : va_D A [cl_X0 h_this i_this_9] := hD
    refine lv_if_eq (tgt := 62) hx hb dX0_leads_48 (by decide) (fun c11 => ?_) (fun c11 => ?_)
    · have h := ite_t c11 h
      refine lv_iconst (v := (0 : Int32)) hx hb dX0_leads_62 (by decide) ?_
      obtain ⟨rfl, rfl⟩ := pj2 h
      exact hEnd _ _ _ _ hP hS dX0_leads_63 rfl
    have h := ite_f c11 h
    refine lv_aload_n hx hb dX0_leads_51 rfl (lv_at hl 0 rfl) ?_
    obtain ⟨r12, i_this_13, hc14, h⟩ := bd2_at h
    refine kjI (kV (own := "DateSpans$Adder") (C := "DateSpans$Adder") (b := h_this) (As := []) (rest := []) ⟨hx, hb, hml, hown, hts⟩ (kX0_movesMonths l dC dI cI cJ cB h_this N i_this_9 r12 i_this_13 hc14 _) (kgV (kq q_378 rfl) (kq q_380 rfl) (kq q_0 rfl) (kq q_24 rfl) (kq q_381 rfl)) yd_X0_movesMonths ⟨Nat.le_of_ble_eq_true rfl, Nat.le_of_ble_eq_true rfl⟩ hN hK hP hD [0] rfl rfl (ci := 0) rfl rfl rfl rfl rfl hl.1 rfl (lv_room (Nat.le_of_ble_eq_true rfl)) dX0_leads_52) hP hD hS hA [0] rfl rfl (fun H locs hP hD hS => ?_)
    have hP : va_P (dC, dI) vwCl [cl_X0 h_this i_this_13] H := hP
    have hD : va_D A [cl_X0 h_this i_this_13] := hD
    refine lv_if_eq (tgt := 62) hx hb dX0_leads_55 (by decide) (fun c15 => ?_) (fun c15 => ?_)
    · have h := ite_t c15 h
      refine lv_iconst (v := (0 : Int32)) hx hb dX0_leads_62 (by decide) ?_
      obtain ⟨rfl, rfl⟩ := pj2 h
      exact hEnd _ _ _ _ hP hS dX0_leads_63 rfl
    have h := ite_f c15 h
    refine lv_iconst (v := (1 : Int32)) hx hb dX0_leads_58 (by decide) ?_
    refine lv_goto (tgt := 63) hx hb dX0_leads_59 (by decide) ?_
    obtain ⟨rfl, rfl⟩ := pj2 h
    exact hEnd _ _ _ _ hP hS dX0_leads_63 rfl
  have h := ite_t c3 h
  refine lv_aload_n hx hb dX0_leads_10 rfl (lv_at hl 0 rfl) ?_
  obtain ⟨r16, i_this_17, hc18, h⟩ := bd2_at h
  refine kjI (kV (own := "DateSpans$Adder") (C := "DateSpans$Adder") (b := h_this) (As := []) (rest := []) ⟨hx, hb, hml, hown, hts⟩ (kX0_movesMonths l dC dI cI cJ cB h_this N i_this_1 r16 i_this_17 hc18 _) (kgV (kq q_378 rfl) (kq q_380 rfl) (kq q_0 rfl) (kq q_24 rfl) (kq q_381 rfl)) yd_X0_movesMonths ⟨Nat.le_of_ble_eq_true rfl, Nat.le_of_ble_eq_true rfl⟩ hN hK hP hD [0] rfl rfl (ci := 0) rfl rfl rfl rfl rfl hl.1 rfl (lv_room (Nat.le_of_ble_eq_true rfl)) dX0_leads_11) hP hD hS hA [0] rfl rfl (fun H locs hP hD hS => ?_)
  have hP : va_P (dC, dI) vwCl [cl_X0 h_this i_this_17] H := hP
  have hD : va_D A [cl_X0 h_this i_this_17] := hD
  refine lv_if_eq (tgt := 35) hx hb dX0_leads_14 (by decide) (fun c19 => ?_) (fun c19 => ?_)
  · have h := ite_t c19 h
    refine lv_iconst (v := (0 : Int32)) hx hb dX0_leads_35 (by decide) ?_
    obtain ⟨rfl, rfl⟩ := pj2 h
    exact hEnd _ _ _ _ hP hS dX0_leads_36 rfl
  have h := ite_f c19 h
  refine lv_aload_n hx hb dX0_leads_17 rfl (lv_at hl 0 rfl) ?_
  obtain ⟨r20, i_this_21, hc22, h⟩ := bd2_at h
  refine kjI (kV (own := "DateSpans$Adder") (C := "DateSpans$Adder") (b := h_this) (As := []) (rest := []) ⟨hx, hb, hml, hown, hts⟩ (kX0_movesDays l dC dI cI cJ cB h_this N i_this_17 r20 i_this_21 hc22 _) (kgV (kq q_399 rfl) (kq q_401 rfl) (kq q_2 rfl) (kq q_24 rfl) (kq q_402 rfl)) yd_X0_movesDays ⟨Nat.le_of_ble_eq_true rfl, Nat.le_of_ble_eq_true rfl⟩ hN hK hP hD [0] rfl rfl (ci := 0) rfl rfl rfl rfl rfl hl.1 rfl (lv_room (Nat.le_of_ble_eq_true rfl)) dX0_leads_18) hP hD hS hA [0] rfl rfl (fun H locs hP hD hS => ?_)
  have hP : va_P (dC, dI) vwCl [cl_X0 h_this i_this_21] H := hP
  have hD : va_D A [cl_X0 h_this i_this_21] := hD
  refine lv_if_eq (tgt := 35) hx hb dX0_leads_21 (by decide) (fun c23 => ?_) (fun c23 => ?_)
  · have h := ite_t c23 h
    refine lv_iconst (v := (0 : Int32)) hx hb dX0_leads_35 (by decide) ?_
    obtain ⟨rfl, rfl⟩ := pj2 h
    exact hEnd _ _ _ _ hP hS dX0_leads_36 rfl
  have h := ite_f c23 h
  refine lv_aload_n hx hb dX0_leads_24 rfl (lv_at hl 0 rfl) ?_
  obtain ⟨r24, i_this_25, hc26, h⟩ := bd2_at h
  refine kjI (kV (own := "DateSpans$Adder") (C := "DateSpans$Adder") (b := h_this) (As := []) (rest := []) ⟨hx, hb, hml, hown, hts⟩ (kX0_movesSeconds l dC dI cI cJ cB h_this N i_this_21 r24 i_this_25 hc26 _) (kgV (kq q_403 rfl) (kq q_405 rfl) (kq q_3 rfl) (kq q_24 rfl) (kq q_406 rfl)) yd_X0_movesSeconds ⟨Nat.le_of_ble_eq_true rfl, Nat.le_of_ble_eq_true rfl⟩ hN hK hP hD [0] rfl rfl (ci := 0) rfl rfl rfl rfl rfl hl.1 rfl (lv_room (Nat.le_of_ble_eq_true rfl)) dX0_leads_25) hP hD hS hA [0] rfl rfl (fun H locs hP hD hS => ?_)
  have hP : va_P (dC, dI) vwCl [cl_X0 h_this i_this_25] H := hP
  have hD : va_D A [cl_X0 h_this i_this_25] := hD
  refine lv_if_eq (tgt := 35) hx hb dX0_leads_28 (by decide) (fun c27 => ?_) (fun c27 => ?_)
  · have h := ite_t c27 h
    refine lv_iconst (v := (0 : Int32)) hx hb dX0_leads_35 (by decide) ?_
    obtain ⟨rfl, rfl⟩ := pj2 h
    exact hEnd _ _ _ _ hP hS dX0_leads_36 rfl
  have h := ite_f c27 h
  refine lv_iconst (v := (1 : Int32)) hx hb dX0_leads_31 (by decide) ?_
  refine lv_goto (tgt := 36) hx hb dX0_leads_32 (by decide) ?_
  obtain ⟨rfl, rfl⟩ := pj2 h
  exact hEnd _ _ _ _ hP hS dX0_leads_36 rfl
noncomputable def fX9_add (N : Nat) (p1 : Int32) (p2 : Int32) (p3 : Int32) (p4 : Int32) (p5 : Int32) (i_this : Int32) (f_this_now_day : Nat → Int32) (f_this_now_second : Nat → Int32) (f_this_now_months : Nat → Int32) (f_this_now_days : Nat → Int32) (f_this_now_seconds : Nat → Int32) (i_this_told : Int32) (f_this_told_numbers : Nat → Int64) (i_this_adder : Nat → Int32) : Option (Int32 × (Nat → Int32) × (Nat → Int32) × Int32 × (Nat → Int64) × (Nat → Int32)) := (bd1 (fX9_isSlot N p1) fun r1 => (if r1 = (0 : Int32) then (some ((-1 : Int32), f_this_now_day, f_this_now_second, i_this_told, f_this_told_numbers, i_this_adder)) else (bd1 (fX9_isSlot N p2) fun r4 => (if r4 = (0 : Int32) then (some ((-1 : Int32), f_this_now_day, f_this_now_second, i_this_told, f_this_told_numbers, i_this_adder)) else (bd1 (fX9_isLaw N p3) fun r7 => (if r7 = (0 : Int32) then (some ((-1 : Int32), f_this_now_day, f_this_now_second, i_this_told, f_this_told_numbers, i_this_adder)) else (bd1 (fX9_isOrder N p4) fun r10 => (if r10 = (0 : Int32) then (some ((-1 : Int32), f_this_now_day, f_this_now_second, i_this_told, f_this_told_numbers, i_this_adder)) else (bd1 (fX9_isSlot N p5) fun r13 => (if r13 = (0 : Int32) then (some ((-1 : Int32), f_this_now_day, f_this_now_second, i_this_told, f_this_told_numbers, i_this_adder)) else (bd2 (fX0_takes N p2 (1 : Int32) p3 i_this_adder f_this_now_months f_this_now_days f_this_now_seconds) fun r16 i_this_adder_17 => (bd1 (fX4_dayAt N p1 f_this_now_day) fun r19 => (bd1 (fX4_secondAt N p1 f_this_now_second) fun r21 => (bd2 (fX0_leads N r19 r21 p4 i_this_adder_17) fun r23 i_this_adder_24 => (if r23 = (0 : Int32) then (some ((-2 : Int32), f_this_now_day, f_this_now_second, i_this_told, f_this_told_numbers, i_this_adder_24)) else (bd2 (fX4_putMoment N p5 (i_this_adder_24 8) (i_this_adder_24 9) f_this_now_day f_this_now_second) fun f_this_now_day_27 f_this_now_second_28 => (bd2 (fX3_tell_ N ((i_this_adder_24 9).toInt64) ((i_this_adder_24 10).toInt64) i_this_told f_this_told_numbers) fun i_this_told_30 f_this_told_numbers_31 => (some ((i_this_adder_24 8), f_this_now_day_27, f_this_now_second_28, i_this_told_30, f_this_told_numbers_31, i_this_adder_24)))))))))))))))))))
set_option maxHeartbeats 4000000 in
set_option maxRecDepth 100000 in
theorem kX9_add (l : Launch) (dC : Nat → ClassId) (dI : Nat → Nat → Nat) (cI cJ cB : ClassId) (h_this h_this_now h_this_kept h_this_told h_this_text h_this_script h_this_momentReader h_this_spanReader h_this_adder h_this_other h_this_trial h_this_ways h_this_now_day h_this_now_second h_this_now_months h_this_now_days h_this_now_seconds h_this_told_numbers : Nat) (N : Nat) (p1 : Int32) (p2 : Int32) (p3 : Int32) (p4 : Int32) (p5 : Int32) (i_this : Int32) (f_this_now_day : Nat → Int32) (f_this_now_second : Nat → Int32) (f_this_now_months : Nat → Int32) (f_this_now_days : Nat → Int32) (f_this_now_seconds : Nat → Int32) (i_this_told : Int32) (f_this_told_numbers : Nat → Int64) (i_this_adder : Nat → Int32) (r : Int32) (o_f_this_now_day : Nat → Int32) (o_f_this_now_second : Nat → Int32) (o_i_this_told : Int32) (o_f_this_told_numbers : Nat → Int64) (o_i_this_adder : Nat → Int32) (hf : fX9_add N p1 p2 p3 p4 p5 i_this f_this_now_day f_this_now_second f_this_now_months f_this_now_days f_this_now_seconds i_this_told f_this_told_numbers i_this_adder = some (r, o_f_this_now_day, o_f_this_now_second, o_i_this_told, o_f_this_told_numbers, o_i_this_adder)) : MI l yX9_add (kws yX9_add cX9_add 6 (some .int)) (kR 5 117) (dC, dI) (kT cI cJ cB) [.ref h_this, .int p1, .int p2, .int p3, .int p4, .int p5] [cl_X9 h_this h_this_now h_this_kept h_this_told h_this_text h_this_script h_this_momentReader h_this_spanReader h_this_adder h_this_other h_this_trial h_this_ways i_this, cl_X4 h_this_now h_this_now_day h_this_now_second h_this_now_months h_this_now_days h_this_now_seconds, (h_this_now_day, .inl (cI, 8, .inl f_this_now_day)), (h_this_now_second, .inl (cI, 8, .inl f_this_now_second)), (h_this_now_months, .inl (cI, 8, .inl f_this_now_months)), (h_this_now_days, .inl (cI, 8, .inl f_this_now_days)), (h_this_now_seconds, .inl (cI, 8, .inl f_this_now_seconds)), cl_X3 h_this_told h_this_told_numbers i_this_told, (h_this_told_numbers, .inl (cJ, 8, .inr (.inl f_this_told_numbers))), cl_X0 h_this_adder i_this_adder] [cl_X9 h_this h_this_now h_this_kept h_this_told h_this_text h_this_script h_this_momentReader h_this_spanReader h_this_adder h_this_other h_this_trial h_this_ways i_this, cl_X4 h_this_now h_this_now_day h_this_now_second h_this_now_months h_this_now_days h_this_now_seconds, (h_this_now_day, .inl (cI, 8, .inl o_f_this_now_day)), (h_this_now_second, .inl (cI, 8, .inl o_f_this_now_second)), (h_this_now_months, .inl (cI, 8, .inl f_this_now_months)), (h_this_now_days, .inl (cI, 8, .inl f_this_now_days)), (h_this_now_seconds, .inl (cI, 8, .inl f_this_now_seconds)), cl_X3 h_this_told h_this_told_numbers o_i_this_told, (h_this_told_numbers, .inl (cJ, 8, .inr (.inl o_f_this_told_numbers))), cl_X0 h_this_adder o_i_this_adder] r := by
  refine MI.of (cc := cX9_add) (maxL := 6) (by decide) (Nat.le_of_ble_eq_true rfl) (fun p e s m args below meth c A Q ls KC hN hK hP hD hA hl hEnd => ?_)
  obtain ⟨hx, hb, hml, hown, hts⟩ := KC
  have hown : s.vm.findClass "DateSpans" = some m.cls := hown
  have hl : lv_has ls 6 [(0, .ref h_this), (1, .int p1), (2, .int p2), (3, .int p3), (4, .int p4), (5, .int p5)] := hl
  have hS : va_S A s.heap s.heap [] := va_S.rf
  have h := hf
  unfold fX9_add at h
  refine lv_iload_n hx hb dX9_add_0 rfl (lv_at hl 1 rfl) ?_
  obtain ⟨r1, hc2, h⟩ := bd1_at h
  refine kjSI (kS0 (own := "DateSpans") (As := [.int p1]) (rest := []) ⟨hx, hb, hml, hown, hts⟩ (kX9_isSlot l N p1 r1 hc2) (kgS (kq q_267 rfl) (kq q_268 rfl) (kq q_18 rfl) (kq q_269 rfl)) yd_X9_isSlot ⟨Nat.le_of_ble_eq_true rfl, Nat.le_of_ble_eq_true rfl⟩ rfl rfl hl.1 rfl (lv_room (Nat.le_of_ble_eq_true rfl)) dX9_add_1) ?_
  refine lv_if_eq (tgt := 37) hx hb dX9_add_4 (by decide) (fun c3 => ?_) (fun c3 => ?_)
  · have h := ite_t c3 h
    refine lv_iconst (v := (-1 : Int32)) hx hb dX9_add_37 (by decide) ?_
    obtain ⟨rfl, rfl, rfl, rfl, rfl, rfl⟩ := pj6 h
    exact hEnd _ _ _ _ hP hS dX9_add_38 rfl
  have h := ite_f c3 h
  refine lv_iload_n hx hb dX9_add_7 rfl (lv_at hl 2 rfl) ?_
  obtain ⟨r4, hc5, h⟩ := bd1_at h
  refine kjSI (kS0 (own := "DateSpans") (As := [.int p2]) (rest := []) ⟨hx, hb, hml, hown, hts⟩ (kX9_isSlot l N p2 r4 hc5) (kgS (kq q_267 rfl) (kq q_268 rfl) (kq q_18 rfl) (kq q_269 rfl)) yd_X9_isSlot ⟨Nat.le_of_ble_eq_true rfl, Nat.le_of_ble_eq_true rfl⟩ rfl rfl hl.1 rfl (lv_room (Nat.le_of_ble_eq_true rfl)) dX9_add_8) ?_
  refine lv_if_eq (tgt := 37) hx hb dX9_add_11 (by decide) (fun c6 => ?_) (fun c6 => ?_)
  · have h := ite_t c6 h
    refine lv_iconst (v := (-1 : Int32)) hx hb dX9_add_37 (by decide) ?_
    obtain ⟨rfl, rfl, rfl, rfl, rfl, rfl⟩ := pj6 h
    exact hEnd _ _ _ _ hP hS dX9_add_38 rfl
  have h := ite_f c6 h
  refine lv_iload_n hx hb dX9_add_14 rfl (lv_at hl 3 rfl) ?_
  obtain ⟨r7, hc8, h⟩ := bd1_at h
  refine kjSI (kS0 (own := "DateSpans") (As := [.int p3]) (rest := []) ⟨hx, hb, hml, hown, hts⟩ (kX9_isLaw l N p3 r7 hc8) (kgS (kq q_352 rfl) (kq q_353 rfl) (kq q_18 rfl) (kq q_354 rfl)) yd_X9_isLaw ⟨Nat.le_of_ble_eq_true rfl, Nat.le_of_ble_eq_true rfl⟩ rfl rfl hl.1 rfl (lv_room (Nat.le_of_ble_eq_true rfl)) dX9_add_15) ?_
  refine lv_if_eq (tgt := 37) hx hb dX9_add_18 (by decide) (fun c9 => ?_) (fun c9 => ?_)
  · have h := ite_t c9 h
    refine lv_iconst (v := (-1 : Int32)) hx hb dX9_add_37 (by decide) ?_
    obtain ⟨rfl, rfl, rfl, rfl, rfl, rfl⟩ := pj6 h
    exact hEnd _ _ _ _ hP hS dX9_add_38 rfl
  have h := ite_f c9 h
  refine lv_iload hx hb dX9_add_21 (lv_at hl 4 rfl) ?_
  obtain ⟨r10, hc11, h⟩ := bd1_at h
  refine kjSI (kS0 (own := "DateSpans") (As := [.int p4]) (rest := []) ⟨hx, hb, hml, hown, hts⟩ (kX9_isOrder l N p4 r10 hc11) (kgS (kq q_355 rfl) (kq q_356 rfl) (kq q_18 rfl) (kq q_357 rfl)) yd_X9_isOrder ⟨Nat.le_of_ble_eq_true rfl, Nat.le_of_ble_eq_true rfl⟩ rfl rfl hl.1 rfl (lv_room (Nat.le_of_ble_eq_true rfl)) dX9_add_23) ?_
  refine lv_if_eq (tgt := 37) hx hb dX9_add_26 (by decide) (fun c12 => ?_) (fun c12 => ?_)
  · have h := ite_t c12 h
    refine lv_iconst (v := (-1 : Int32)) hx hb dX9_add_37 (by decide) ?_
    obtain ⟨rfl, rfl, rfl, rfl, rfl, rfl⟩ := pj6 h
    exact hEnd _ _ _ _ hP hS dX9_add_38 rfl
  have h := ite_f c12 h
  refine lv_iload hx hb dX9_add_29 (lv_at hl 5 rfl) ?_
  obtain ⟨r13, hc14, h⟩ := bd1_at h
  refine kjSI (kS0 (own := "DateSpans") (As := [.int p5]) (rest := []) ⟨hx, hb, hml, hown, hts⟩ (kX9_isSlot l N p5 r13 hc14) (kgS (kq q_267 rfl) (kq q_268 rfl) (kq q_18 rfl) (kq q_269 rfl)) yd_X9_isSlot ⟨Nat.le_of_ble_eq_true rfl, Nat.le_of_ble_eq_true rfl⟩ rfl rfl hl.1 rfl (lv_room (Nat.le_of_ble_eq_true rfl)) dX9_add_31) ?_
  refine lv_if_ne (tgt := 39) hx hb dX9_add_34 (by decide) (fun c15 => ?_) (fun c15 => ?_)
  · have h := ite_f c15 h
    refine lv_aload_n hx hb dX9_add_39 rfl (lv_at hl 0 rfl) ?_
    refine va_get (D := (dC, dI)) (ci := 8) (v := .ref h_this_adder) (C := RX9) (T := TX9) (N := 12) hx hb hts inX9 hown hK hP 0 rfl rfl 8 (by decide) (hts _ (kq q_234 rfl)) (fun _ h9 => h9) rfl dX9_add_40 ?_
    refine lv_aload_n hx hb dX9_add_43 rfl (lv_at hl 0 rfl) ?_
    refine va_get (D := (dC, dI)) (ci := 8) (v := .ref h_this_now) (C := RX9) (T := TX9) (N := 12) hx hb hts inX9 hown hK hP 0 rfl rfl 0 (by decide) (hts _ (kq q_226 rfl)) (fun _ h9 => h9) rfl dX9_add_44 ?_
    refine lv_iload_n hx hb dX9_add_47 rfl (lv_at hl 2 rfl) ?_
    refine lv_iconst (v := (1 : Int32)) hx hb dX9_add_48 (by decide) ?_
    refine lv_iload_n hx hb dX9_add_49 rfl (lv_at hl 3 rfl) ?_
    obtain ⟨r16, i_this_adder_17, hc18, h⟩ := bd2_at h
    refine kjI (kV (own := "DateSpans") (C := "DateSpans$Adder") (b := h_this_adder) (As := [.ref h_this_now, .int p2, .int (1 : Int32), .int p3]) (rest := []) ⟨hx, hb, hml, hown, hts⟩ (kX0_takes l dC dI cI cJ cB h_this_adder h_this_now h_this_now_day h_this_now_second h_this_now_months h_this_now_days h_this_now_seconds N p2 (1 : Int32) p3 i_this_adder f_this_now_months f_this_now_days f_this_now_seconds r16 i_this_adder_17 hc18 _) (kgV (kq q_358 rfl) (kq q_359 rfl) (kq q_360 rfl) (kq q_24 rfl) (kq q_361 rfl)) yd_X0_takes ⟨Nat.le_of_ble_eq_true rfl, Nat.le_of_ble_eq_true rfl⟩ hN hK hP hD [9, 1, 4, 5, 6] rfl rfl (ci := 0) rfl rfl rfl rfl rfl hl.1 rfl (lv_room (Nat.le_of_ble_eq_true rfl)) dX9_add_50) hP hD hS hA [9, 1, 4, 5, 6] rfl rfl (fun H locs hP hD hS => ?_)
    have hP : va_P (dC, dI) vwCl [cl_X9 h_this h_this_now h_this_kept h_this_told h_this_text h_this_script h_this_momentReader h_this_spanReader h_this_adder h_this_other h_this_trial h_this_ways i_this, cl_X4 h_this_now h_this_now_day h_this_now_second h_this_now_months h_this_now_days h_this_now_seconds, (h_this_now_day, .inl (cI, 8, .inl f_this_now_day)), (h_this_now_second, .inl (cI, 8, .inl f_this_now_second)), (h_this_now_months, .inl (cI, 8, .inl f_this_now_months)), (h_this_now_days, .inl (cI, 8, .inl f_this_now_days)), (h_this_now_seconds, .inl (cI, 8, .inl f_this_now_seconds)), cl_X3 h_this_told h_this_told_numbers i_this_told, (h_this_told_numbers, .inl (cJ, 8, .inr (.inl f_this_told_numbers))), cl_X0 h_this_adder i_this_adder_17] H := hP
    have hD : va_D A [cl_X9 h_this h_this_now h_this_kept h_this_told h_this_text h_this_script h_this_momentReader h_this_spanReader h_this_adder h_this_other h_this_trial h_this_ways i_this, cl_X4 h_this_now h_this_now_day h_this_now_second h_this_now_months h_this_now_days h_this_now_seconds, (h_this_now_day, .inl (cI, 8, .inl f_this_now_day)), (h_this_now_second, .inl (cI, 8, .inl f_this_now_second)), (h_this_now_months, .inl (cI, 8, .inl f_this_now_months)), (h_this_now_days, .inl (cI, 8, .inl f_this_now_days)), (h_this_now_seconds, .inl (cI, 8, .inl f_this_now_seconds)), cl_X3 h_this_told h_this_told_numbers i_this_told, (h_this_told_numbers, .inl (cJ, 8, .inr (.inl f_this_told_numbers))), cl_X0 h_this_adder i_this_adder_17] := hD
    refine lv_pop hx hb dX9_add_53 rfl ?_
    refine lv_aload_n hx hb dX9_add_54 rfl (lv_at hl 0 rfl) ?_
    refine va_get (D := (dC, dI)) (ci := 8) (v := .ref h_this_adder) (C := RX9) (T := TX9) (N := 12) hx hb hts inX9 hown hK hP 0 rfl rfl 8 (by decide) (hts _ (kq q_234 rfl)) (fun _ h9 => h9) rfl dX9_add_55 ?_
    refine lv_aload_n hx hb dX9_add_58 rfl (lv_at hl 0 rfl) ?_
    refine va_get (D := (dC, dI)) (ci := 8) (v := .ref h_this_now) (C := RX9) (T := TX9) (N := 12) hx hb hts inX9 hown hK hP 0 rfl rfl 0 (by decide) (hts _ (kq q_226 rfl)) (fun _ h9 => h9) rfl dX9_add_59 ?_
    refine lv_iload_n hx hb dX9_add_62 rfl (lv_at hl 1 rfl) ?_
    obtain ⟨r19, hc20, h⟩ := bd1_at h
    refine kjI (kV (own := "DateSpans") (C := "DateSpans$Slots") (b := h_this_now) (As := [.int p1]) (rest := [.ref h_this_adder]) ⟨hx, hb, hml, hown, hts⟩ (kX4_dayAt l dC dI cI cJ cB h_this_now h_this_now_day h_this_now_second h_this_now_months h_this_now_days h_this_now_seconds N p1 f_this_now_day r19 hc20 _) (kgV (kq q_275 rfl) (kq q_276 rfl) (kq q_277 rfl) (kq q_19 rfl) (kq q_278 rfl)) yd_X4_dayAt ⟨Nat.le_of_ble_eq_true rfl, Nat.le_of_ble_eq_true rfl⟩ hN hK hP hD [1, 2] rfl rfl (ci := 3) rfl rfl rfl rfl rfl hl.1 rfl (lv_room (Nat.le_of_ble_eq_true rfl)) dX9_add_63) hP hD hS hA [1, 2] rfl rfl (fun H locs hP hD hS => ?_)
    have hP : va_P (dC, dI) vwCl [cl_X9 h_this h_this_now h_this_kept h_this_told h_this_text h_this_script h_this_momentReader h_this_spanReader h_this_adder h_this_other h_this_trial h_this_ways i_this, cl_X4 h_this_now h_this_now_day h_this_now_second h_this_now_months h_this_now_days h_this_now_seconds, (h_this_now_day, .inl (cI, 8, .inl f_this_now_day)), (h_this_now_second, .inl (cI, 8, .inl f_this_now_second)), (h_this_now_months, .inl (cI, 8, .inl f_this_now_months)), (h_this_now_days, .inl (cI, 8, .inl f_this_now_days)), (h_this_now_seconds, .inl (cI, 8, .inl f_this_now_seconds)), cl_X3 h_this_told h_this_told_numbers i_this_told, (h_this_told_numbers, .inl (cJ, 8, .inr (.inl f_this_told_numbers))), cl_X0 h_this_adder i_this_adder_17] H := hP
    have hD : va_D A [cl_X9 h_this h_this_now h_this_kept h_this_told h_this_text h_this_script h_this_momentReader h_this_spanReader h_this_adder h_this_other h_this_trial h_this_ways i_this, cl_X4 h_this_now h_this_now_day h_this_now_second h_this_now_months h_this_now_days h_this_now_seconds, (h_this_now_day, .inl (cI, 8, .inl f_this_now_day)), (h_this_now_second, .inl (cI, 8, .inl f_this_now_second)), (h_this_now_months, .inl (cI, 8, .inl f_this_now_months)), (h_this_now_days, .inl (cI, 8, .inl f_this_now_days)), (h_this_now_seconds, .inl (cI, 8, .inl f_this_now_seconds)), cl_X3 h_this_told h_this_told_numbers i_this_told, (h_this_told_numbers, .inl (cJ, 8, .inr (.inl f_this_told_numbers))), cl_X0 h_this_adder i_this_adder_17] := hD
    refine lv_aload_n hx hb dX9_add_66 rfl (lv_at hl 0 rfl) ?_
    refine va_get (D := (dC, dI)) (ci := 8) (v := .ref h_this_now) (C := RX9) (T := TX9) (N := 12) hx hb hts inX9 hown hK hP 0 rfl rfl 0 (by decide) (hts _ (kq q_226 rfl)) (fun _ h9 => h9) rfl dX9_add_67 ?_
    refine lv_iload_n hx hb dX9_add_70 rfl (lv_at hl 1 rfl) ?_
    obtain ⟨r21, hc22, h⟩ := bd1_at h
    refine kjI (kV (own := "DateSpans") (C := "DateSpans$Slots") (b := h_this_now) (As := [.int p1]) (rest := [.int r19, .ref h_this_adder]) ⟨hx, hb, hml, hown, hts⟩ (kX4_secondAt l dC dI cI cJ cB h_this_now h_this_now_day h_this_now_second h_this_now_months h_this_now_days h_this_now_seconds N p1 f_this_now_second r21 hc22 _) (kgV (kq q_310 rfl) (kq q_311 rfl) (kq q_312 rfl) (kq q_19 rfl) (kq q_313 rfl)) yd_X4_secondAt ⟨Nat.le_of_ble_eq_true rfl, Nat.le_of_ble_eq_true rfl⟩ hN hK hP hD [1, 3] rfl rfl (ci := 3) rfl rfl rfl rfl rfl hl.1 rfl (lv_room (Nat.le_of_ble_eq_true rfl)) dX9_add_71) hP hD hS hA [1, 3] rfl rfl (fun H locs hP hD hS => ?_)
    have hP : va_P (dC, dI) vwCl [cl_X9 h_this h_this_now h_this_kept h_this_told h_this_text h_this_script h_this_momentReader h_this_spanReader h_this_adder h_this_other h_this_trial h_this_ways i_this, cl_X4 h_this_now h_this_now_day h_this_now_second h_this_now_months h_this_now_days h_this_now_seconds, (h_this_now_day, .inl (cI, 8, .inl f_this_now_day)), (h_this_now_second, .inl (cI, 8, .inl f_this_now_second)), (h_this_now_months, .inl (cI, 8, .inl f_this_now_months)), (h_this_now_days, .inl (cI, 8, .inl f_this_now_days)), (h_this_now_seconds, .inl (cI, 8, .inl f_this_now_seconds)), cl_X3 h_this_told h_this_told_numbers i_this_told, (h_this_told_numbers, .inl (cJ, 8, .inr (.inl f_this_told_numbers))), cl_X0 h_this_adder i_this_adder_17] H := hP
    have hD : va_D A [cl_X9 h_this h_this_now h_this_kept h_this_told h_this_text h_this_script h_this_momentReader h_this_spanReader h_this_adder h_this_other h_this_trial h_this_ways i_this, cl_X4 h_this_now h_this_now_day h_this_now_second h_this_now_months h_this_now_days h_this_now_seconds, (h_this_now_day, .inl (cI, 8, .inl f_this_now_day)), (h_this_now_second, .inl (cI, 8, .inl f_this_now_second)), (h_this_now_months, .inl (cI, 8, .inl f_this_now_months)), (h_this_now_days, .inl (cI, 8, .inl f_this_now_days)), (h_this_now_seconds, .inl (cI, 8, .inl f_this_now_seconds)), cl_X3 h_this_told h_this_told_numbers i_this_told, (h_this_told_numbers, .inl (cJ, 8, .inr (.inl f_this_told_numbers))), cl_X0 h_this_adder i_this_adder_17] := hD
    refine lv_iload hx hb dX9_add_74 (lv_at hl 4 rfl) ?_
    obtain ⟨r23, i_this_adder_24, hc25, h⟩ := bd2_at h
    refine kjI (kV (own := "DateSpans") (C := "DateSpans$Adder") (b := h_this_adder) (As := [.int r19, .int r21, .int p4]) (rest := []) ⟨hx, hb, hml, hown, hts⟩ (kX0_leads l dC dI cI cJ cB h_this_adder N r19 r21 p4 i_this_adder_17 r23 i_this_adder_24 hc25 _) (kgV (kq q_370 rfl) (kq q_371 rfl) (kq q_372 rfl) (kq q_24 rfl) (kq q_373 rfl)) yd_X0_leads ⟨Nat.le_of_ble_eq_true rfl, Nat.le_of_ble_eq_true rfl⟩ hN hK hP hD [9] rfl rfl (ci := 0) rfl rfl rfl rfl rfl hl.1 rfl (lv_room (Nat.le_of_ble_eq_true rfl)) dX9_add_76) hP hD hS hA [9] rfl rfl (fun H locs hP hD hS => ?_)
    have hP : va_P (dC, dI) vwCl [cl_X9 h_this h_this_now h_this_kept h_this_told h_this_text h_this_script h_this_momentReader h_this_spanReader h_this_adder h_this_other h_this_trial h_this_ways i_this, cl_X4 h_this_now h_this_now_day h_this_now_second h_this_now_months h_this_now_days h_this_now_seconds, (h_this_now_day, .inl (cI, 8, .inl f_this_now_day)), (h_this_now_second, .inl (cI, 8, .inl f_this_now_second)), (h_this_now_months, .inl (cI, 8, .inl f_this_now_months)), (h_this_now_days, .inl (cI, 8, .inl f_this_now_days)), (h_this_now_seconds, .inl (cI, 8, .inl f_this_now_seconds)), cl_X3 h_this_told h_this_told_numbers i_this_told, (h_this_told_numbers, .inl (cJ, 8, .inr (.inl f_this_told_numbers))), cl_X0 h_this_adder i_this_adder_24] H := hP
    have hD : va_D A [cl_X9 h_this h_this_now h_this_kept h_this_told h_this_text h_this_script h_this_momentReader h_this_spanReader h_this_adder h_this_other h_this_trial h_this_ways i_this, cl_X4 h_this_now h_this_now_day h_this_now_second h_this_now_months h_this_now_days h_this_now_seconds, (h_this_now_day, .inl (cI, 8, .inl f_this_now_day)), (h_this_now_second, .inl (cI, 8, .inl f_this_now_second)), (h_this_now_months, .inl (cI, 8, .inl f_this_now_months)), (h_this_now_days, .inl (cI, 8, .inl f_this_now_days)), (h_this_now_seconds, .inl (cI, 8, .inl f_this_now_seconds)), cl_X3 h_this_told h_this_told_numbers i_this_told, (h_this_told_numbers, .inl (cJ, 8, .inr (.inl f_this_told_numbers))), cl_X0 h_this_adder i_this_adder_24] := hD
    refine lv_if_ne (tgt := 85) hx hb dX9_add_79 (by decide) (fun c26 => ?_) (fun c26 => ?_)
    · have h := ite_f c26 h
      refine lv_aload_n hx hb dX9_add_85 rfl (lv_at hl 0 rfl) ?_
      refine va_get (D := (dC, dI)) (ci := 8) (v := .ref h_this_now) (C := RX9) (T := TX9) (N := 12) hx hb hts inX9 hown hK hP 0 rfl rfl 0 (by decide) (hts _ (kq q_226 rfl)) (fun _ h9 => h9) rfl dX9_add_86 ?_
      refine lv_iload hx hb dX9_add_89 (lv_at hl 5 rfl) ?_
      refine lv_aload_n hx hb dX9_add_91 rfl (lv_at hl 0 rfl) ?_
      refine va_get (D := (dC, dI)) (ci := 8) (v := .ref h_this_adder) (C := RX9) (T := TX9) (N := 12) hx hb hts inX9 hown hK hP 0 rfl rfl 8 (by decide) (hts _ (kq q_234 rfl)) (fun _ h9 => h9) rfl dX9_add_92 ?_
      refine va_getN (D := (dC, dI)) (ci := 0) (v := .int (i_this_adder_24 8)) (C := RX0) (T := TX0) (N := 11) hx hb hts inX0 hown hK hP 9 rfl rfl 8 (by decide) (kN.use hN q_149 rfl) (fun _ h9 => h9) rfl dX9_add_95 ?_
      refine lv_aload_n hx hb dX9_add_98 rfl (lv_at hl 0 rfl) ?_
      refine va_get (D := (dC, dI)) (ci := 8) (v := .ref h_this_adder) (C := RX9) (T := TX9) (N := 12) hx hb hts inX9 hown hK hP 0 rfl rfl 8 (by decide) (hts _ (kq q_234 rfl)) (fun _ h9 => h9) rfl dX9_add_99 ?_
      refine va_getN (D := (dC, dI)) (ci := 0) (v := .int (i_this_adder_24 9)) (C := RX0) (T := TX0) (N := 11) hx hb hts inX0 hown hK hP 9 rfl rfl 9 (by decide) (kN.use hN q_151 rfl) (fun _ h9 => h9) rfl dX9_add_102 ?_
      obtain ⟨f_this_now_day_27, f_this_now_second_28, hc29, h⟩ := bd2_at h
      refine kjV (kV (own := "DateSpans") (C := "DateSpans$Slots") (b := h_this_now) (As := [.int p5, .int (i_this_adder_24 8), .int (i_this_adder_24 9)]) (rest := []) ⟨hx, hb, hml, hown, hts⟩ (kX4_putMoment l dC dI cI cJ cB h_this_now h_this_now_day h_this_now_second h_this_now_months h_this_now_days h_this_now_seconds N p5 (i_this_adder_24 8) (i_this_adder_24 9) f_this_now_day f_this_now_second f_this_now_day_27 f_this_now_second_28 hc29 _) (kgV (kq q_280 rfl) (kq q_281 rfl) (kq q_282 rfl) (kq q_19 rfl) (kq q_283 rfl)) yd_X4_putMoment ⟨Nat.le_of_ble_eq_true rfl, Nat.le_of_ble_eq_true rfl⟩ hN hK hP hD [1, 2, 3] rfl rfl (ci := 3) rfl rfl rfl rfl rfl hl.1 rfl (lv_room (Nat.le_of_ble_eq_true rfl)) dX9_add_105) hP hD hS hA [1, 2, 3] rfl rfl (fun H locs hP hD hS => ?_)
      have hP : va_P (dC, dI) vwCl [cl_X9 h_this h_this_now h_this_kept h_this_told h_this_text h_this_script h_this_momentReader h_this_spanReader h_this_adder h_this_other h_this_trial h_this_ways i_this, cl_X4 h_this_now h_this_now_day h_this_now_second h_this_now_months h_this_now_days h_this_now_seconds, (h_this_now_day, .inl (cI, 8, .inl f_this_now_day_27)), (h_this_now_second, .inl (cI, 8, .inl f_this_now_second_28)), (h_this_now_months, .inl (cI, 8, .inl f_this_now_months)), (h_this_now_days, .inl (cI, 8, .inl f_this_now_days)), (h_this_now_seconds, .inl (cI, 8, .inl f_this_now_seconds)), cl_X3 h_this_told h_this_told_numbers i_this_told, (h_this_told_numbers, .inl (cJ, 8, .inr (.inl f_this_told_numbers))), cl_X0 h_this_adder i_this_adder_24] H := hP
      have hD : va_D A [cl_X9 h_this h_this_now h_this_kept h_this_told h_this_text h_this_script h_this_momentReader h_this_spanReader h_this_adder h_this_other h_this_trial h_this_ways i_this, cl_X4 h_this_now h_this_now_day h_this_now_second h_this_now_months h_this_now_days h_this_now_seconds, (h_this_now_day, .inl (cI, 8, .inl f_this_now_day_27)), (h_this_now_second, .inl (cI, 8, .inl f_this_now_second_28)), (h_this_now_months, .inl (cI, 8, .inl f_this_now_months)), (h_this_now_days, .inl (cI, 8, .inl f_this_now_days)), (h_this_now_seconds, .inl (cI, 8, .inl f_this_now_seconds)), cl_X3 h_this_told h_this_told_numbers i_this_told, (h_this_told_numbers, .inl (cJ, 8, .inr (.inl f_this_told_numbers))), cl_X0 h_this_adder i_this_adder_24] := hD
      refine lv_aload_n hx hb dX9_add_108 rfl (lv_at hl 0 rfl) ?_
      refine va_get (D := (dC, dI)) (ci := 8) (v := .ref h_this_told) (C := RX9) (T := TX9) (N := 12) hx hb hts inX9 hown hK hP 0 rfl rfl 3 (by decide) (hts _ (kq q_229 rfl)) (fun _ h9 => h9) rfl dX9_add_109 ?_
      refine lv_aload_n hx hb dX9_add_112 rfl (lv_at hl 0 rfl) ?_
      refine va_get (D := (dC, dI)) (ci := 8) (v := .ref h_this_adder) (C := RX9) (T := TX9) (N := 12) hx hb hts inX9 hown hK hP 0 rfl rfl 8 (by decide) (hts _ (kq q_234 rfl)) (fun _ h9 => h9) rfl dX9_add_113 ?_
      refine va_getN (D := (dC, dI)) (ci := 0) (v := .int (i_this_adder_24 9)) (C := RX0) (T := TX0) (N := 11) hx hb hts inX0 hown hK hP 9 rfl rfl 9 (by decide) (kN.use hN q_151 rfl) (fun _ h9 => h9) rfl dX9_add_116 ?_
      refine lv_i2l hx hb dX9_add_119 rfl ?_
      refine lv_aload_n hx hb dX9_add_120 rfl (lv_at hl 0 rfl) ?_
      refine va_get (D := (dC, dI)) (ci := 8) (v := .ref h_this_adder) (C := RX9) (T := TX9) (N := 12) hx hb hts inX9 hown hK hP 0 rfl rfl 8 (by decide) (hts _ (kq q_234 rfl)) (fun _ h9 => h9) rfl dX9_add_121 ?_
      refine va_getN (D := (dC, dI)) (ci := 0) (v := .int (i_this_adder_24 10)) (C := RX0) (T := TX0) (N := 11) hx hb hts inX0 hown hK hP 9 rfl rfl 10 (by decide) (kN.use hN q_153 rfl) (fun _ h9 => h9) rfl dX9_add_124 ?_
      refine lv_i2l hx hb dX9_add_127 rfl ?_
      obtain ⟨i_this_told_30, f_this_told_numbers_31, hc32, h⟩ := bd2_at h
      refine kjV (kV (own := "DateSpans") (C := "DateSpans$Row") (b := h_this_told) (As := [.long ((i_this_adder_24 9).toInt64), .long ((i_this_adder_24 10).toInt64)]) (rest := []) ⟨hx, hb, hml, hown, hts⟩ (kX3_tell_ l dC dI cI cJ cB h_this_told h_this_told_numbers N ((i_this_adder_24 9).toInt64) ((i_this_adder_24 10).toInt64) i_this_told f_this_told_numbers i_this_told_30 f_this_told_numbers_31 hc32 _) (kgV (kq q_418 rfl) (kq q_419 rfl) (kq q_420 rfl) (kq q_20 rfl) (kq q_421 rfl)) yd_X3_tell_ ⟨Nat.le_of_ble_eq_true rfl, Nat.le_of_ble_eq_true rfl⟩ hN hK hP hD [7, 8] rfl rfl (ci := 2) rfl rfl rfl rfl rfl hl.1 rfl (lv_room (Nat.le_of_ble_eq_true rfl)) dX9_add_128) hP hD hS hA [7, 8] rfl rfl (fun H locs hP hD hS => ?_)
      have hP : va_P (dC, dI) vwCl [cl_X9 h_this h_this_now h_this_kept h_this_told h_this_text h_this_script h_this_momentReader h_this_spanReader h_this_adder h_this_other h_this_trial h_this_ways i_this, cl_X4 h_this_now h_this_now_day h_this_now_second h_this_now_months h_this_now_days h_this_now_seconds, (h_this_now_day, .inl (cI, 8, .inl f_this_now_day_27)), (h_this_now_second, .inl (cI, 8, .inl f_this_now_second_28)), (h_this_now_months, .inl (cI, 8, .inl f_this_now_months)), (h_this_now_days, .inl (cI, 8, .inl f_this_now_days)), (h_this_now_seconds, .inl (cI, 8, .inl f_this_now_seconds)), cl_X3 h_this_told h_this_told_numbers i_this_told_30, (h_this_told_numbers, .inl (cJ, 8, .inr (.inl f_this_told_numbers_31))), cl_X0 h_this_adder i_this_adder_24] H := hP
      have hD : va_D A [cl_X9 h_this h_this_now h_this_kept h_this_told h_this_text h_this_script h_this_momentReader h_this_spanReader h_this_adder h_this_other h_this_trial h_this_ways i_this, cl_X4 h_this_now h_this_now_day h_this_now_second h_this_now_months h_this_now_days h_this_now_seconds, (h_this_now_day, .inl (cI, 8, .inl f_this_now_day_27)), (h_this_now_second, .inl (cI, 8, .inl f_this_now_second_28)), (h_this_now_months, .inl (cI, 8, .inl f_this_now_months)), (h_this_now_days, .inl (cI, 8, .inl f_this_now_days)), (h_this_now_seconds, .inl (cI, 8, .inl f_this_now_seconds)), cl_X3 h_this_told h_this_told_numbers i_this_told_30, (h_this_told_numbers, .inl (cJ, 8, .inr (.inl f_this_told_numbers_31))), cl_X0 h_this_adder i_this_adder_24] := hD
      refine lv_aload_n hx hb dX9_add_131 rfl (lv_at hl 0 rfl) ?_
      refine va_get (D := (dC, dI)) (ci := 8) (v := .ref h_this_adder) (C := RX9) (T := TX9) (N := 12) hx hb hts inX9 hown hK hP 0 rfl rfl 8 (by decide) (hts _ (kq q_234 rfl)) (fun _ h9 => h9) rfl dX9_add_132 ?_
      refine va_getN (D := (dC, dI)) (ci := 0) (v := .int (i_this_adder_24 8)) (C := RX0) (T := TX0) (N := 11) hx hb hts inX0 hown hK hP 9 rfl rfl 8 (by decide) (kN.use hN q_149 rfl) (fun _ h9 => h9) rfl dX9_add_135 ?_
      obtain ⟨rfl, rfl, rfl, rfl, rfl, rfl⟩ := pj6 h
      exact hEnd _ _ _ _ hP hS dX9_add_138 rfl
    have h := ite_t c26 h
    refine lv_bipush (v := (-2 : Int32)) hx hb dX9_add_82 (by decide) ?_
    obtain ⟨rfl, rfl, rfl, rfl, rfl, rfl⟩ := pj6 h
    exact hEnd _ _ _ _ hP hS dX9_add_84 rfl
  have h := ite_t c15 h
  refine lv_iconst (v := (-1 : Int32)) hx hb dX9_add_37 (by decide) ?_
  obtain ⟨rfl, rfl, rfl, rfl, rfl, rfl⟩ := pj6 h
  exact hEnd _ _ _ _ hP hS dX9_add_38 rfl
noncomputable def fX9_steps_l96 (N : Nat) (i_this : Int32) (f_this_now_months : Nat → Int32) (f_this_now_days : Nat → Int32) (f_this_now_seconds : Nat → Int32) (n : Nat) : Int32 → Int32 → Int32 → Int32 → Int32 → (Nat → Int32) → (Nat → Int32) → Int32 → (Nat → Int64) → (Nat → Int32) → Option (Int32 × (Nat → Int32) × (Nat → Int32) × Int32 × (Nat → Int64) × (Nat → Int32)) := Nat.rec (motive := fun _ => Int32 → Int32 → Int32 → Int32 → Int32 → (Nat → Int32) → (Nat → Int32) → Int32 → (Nat → Int64) → (Nat → Int32) → Option (Int32 × (Nat → Int32) × (Nat → Int32) × Int32 × (Nat → Int64) × (Nat → Int32))) (fun _ _ _ _ _ _ _ _ _ _ => none) (fun _ K_96 v4 v5 v6 v7 v8 f_this_now_day f_this_now_second i_this_told f_this_told_numbers i_this_adder => (if v5 ≤ v8 then (bd2 (fX4_putMoment N v6 (i_this_adder 8) (i_this_adder 9) f_this_now_day f_this_now_second) fun f_this_now_day_2 f_this_now_second_3 => (bd2 (fX3_tell_ N ((i_this_adder 9).toInt64) v7.toInt64 i_this_told f_this_told_numbers) fun i_this_told_5 f_this_told_numbers_6 => (some ((i_this_adder 8), f_this_now_day_2, f_this_now_second_3, i_this_told_5, f_this_told_numbers_6, i_this_adder)))) else (bd2 (fX0_leads N (i_this_adder 8) (i_this_adder 9) v4 i_this_adder) fun r8 i_this_adder_9 => (if r8 = (0 : Int32) then (some ((-2 : Int32), f_this_now_day, f_this_now_second, i_this_told, f_this_told_numbers, i_this_adder_9)) else (if (i_this_adder_9 10) ≤ (0 : Int32) then (nm (v8 + (1 : Int32)) fun z13 => (K_96 v4 v5 v6 v7 z13 f_this_now_day f_this_now_second i_this_told f_this_told_numbers i_this_adder_9)) else (nm (v7 + (1 : Int32)) fun z14 => (nm (v8 + (1 : Int32)) fun z15 => (K_96 v4 v5 v6 z14 z15 f_this_now_day f_this_now_second i_this_told f_this_told_numbers i_this_adder_9)))))))) n
theorem fX9_steps_l96_s (N : Nat) (i_this : Int32) (f_this_now_months : Nat → Int32) (f_this_now_days : Nat → Int32) (f_this_now_seconds : Nat → Int32) (n : Nat) (v4 : Int32) (v5 : Int32) (v6 : Int32) (v7 : Int32) (v8 : Int32) (f_this_now_day : Nat → Int32) (f_this_now_second : Nat → Int32) (i_this_told : Int32) (f_this_told_numbers : Nat → Int64) (i_this_adder : Nat → Int32) : fX9_steps_l96 N i_this f_this_now_months f_this_now_days f_this_now_seconds (n + 1) v4 v5 v6 v7 v8 f_this_now_day f_this_now_second i_this_told f_this_told_numbers i_this_adder = (if v5 ≤ v8 then (bd2 (fX4_putMoment N v6 (i_this_adder 8) (i_this_adder 9) f_this_now_day f_this_now_second) fun f_this_now_day_2 f_this_now_second_3 => (bd2 (fX3_tell_ N ((i_this_adder 9).toInt64) v7.toInt64 i_this_told f_this_told_numbers) fun i_this_told_5 f_this_told_numbers_6 => (some ((i_this_adder 8), f_this_now_day_2, f_this_now_second_3, i_this_told_5, f_this_told_numbers_6, i_this_adder)))) else (bd2 (fX0_leads N (i_this_adder 8) (i_this_adder 9) v4 i_this_adder) fun r8 i_this_adder_9 => (if r8 = (0 : Int32) then (some ((-2 : Int32), f_this_now_day, f_this_now_second, i_this_told, f_this_told_numbers, i_this_adder_9)) else (if (i_this_adder_9 10) ≤ (0 : Int32) then (nm (v8 + (1 : Int32)) fun z13 => ((fX9_steps_l96 N i_this f_this_now_months f_this_now_days f_this_now_seconds n) v4 v5 v6 v7 z13 f_this_now_day f_this_now_second i_this_told f_this_told_numbers i_this_adder_9)) else (nm (v7 + (1 : Int32)) fun z14 => (nm (v8 + (1 : Int32)) fun z15 => ((fX9_steps_l96 N i_this f_this_now_months f_this_now_days f_this_now_seconds n) v4 v5 v6 z14 z15 f_this_now_day f_this_now_second i_this_told f_this_told_numbers i_this_adder_9))))))) := rfl
theorem fX9_steps_l96_0 (N : Nat) (i_this : Int32) (f_this_now_months : Nat → Int32) (f_this_now_days : Nat → Int32) (f_this_now_seconds : Nat → Int32) (v4 : Int32) (v5 : Int32) (v6 : Int32) (v7 : Int32) (v8 : Int32) (f_this_now_day : Nat → Int32) (f_this_now_second : Nat → Int32) (i_this_told : Int32) (f_this_told_numbers : Nat → Int64) (i_this_adder : Nat → Int32) : fX9_steps_l96 N i_this f_this_now_months f_this_now_days f_this_now_seconds 0 v4 v5 v6 v7 v8 f_this_now_day f_this_now_second i_this_told f_this_told_numbers i_this_adder = none := rfl
noncomputable def fX9_steps (N : Nat) (p1 : Int32) (p2 : Int32) (p3 : Int32) (p4 : Int32) (p5 : Int32) (p6 : Int32) (i_this : Int32) (f_this_now_day : Nat → Int32) (f_this_now_second : Nat → Int32) (f_this_now_months : Nat → Int32) (f_this_now_days : Nat → Int32) (f_this_now_seconds : Nat → Int32) (i_this_told : Int32) (f_this_told_numbers : Nat → Int64) (i_this_adder : Nat → Int32) : Option (Int32 × (Nat → Int32) × (Nat → Int32) × Int32 × (Nat → Int64) × (Nat → Int32)) := (bd1 (fX9_isSlot N p1) fun r16 => (if r16 = (0 : Int32) then (some ((-1 : Int32), f_this_now_day, f_this_now_second, i_this_told, f_this_told_numbers, i_this_adder)) else (bd1 (fX9_isSlot N p2) fun r19 => (if r19 = (0 : Int32) then (some ((-1 : Int32), f_this_now_day, f_this_now_second, i_this_told, f_this_told_numbers, i_this_adder)) else (bd1 (fX9_isLaw N p3) fun r22 => (if r22 = (0 : Int32) then (some ((-1 : Int32), f_this_now_day, f_this_now_second, i_this_told, f_this_told_numbers, i_this_adder)) else (bd1 (fX9_isOrder N p4) fun r25 => (if r25 = (0 : Int32) then (some ((-1 : Int32), f_this_now_day, f_this_now_second, i_this_told, f_this_told_numbers, i_this_adder)) else (bd1 (fX9_isSlot N p6) fun r28 => (if r28 = (0 : Int32) then (some ((-1 : Int32), f_this_now_day, f_this_now_second, i_this_told, f_this_told_numbers, i_this_adder)) else (if p5 < (0 : Int32) then (some ((-1 : Int32), f_this_now_day, f_this_now_second, i_this_told, f_this_told_numbers, i_this_adder)) else (if p5 ≤ (10000 : Int32) then (bd2 (fX0_takes N p2 (1 : Int32) p3 i_this_adder f_this_now_months f_this_now_days f_this_now_seconds) fun r33 i_this_adder_34 => (bd1 (fX4_dayAt N p1 f_this_now_day) fun r36 => (bd1 (fX4_secondAt N p1 f_this_now_second) fun r38 => (bd1 (fX0_stands N r36 r38 i_this_adder_34) fun i_this_adder_40 => (fX9_steps_l96 N i_this f_this_now_months f_this_now_days f_this_now_seconds N p4 p5 p6 (0 : Int32) (0 : Int32) f_this_now_day f_this_now_second i_this_told f_this_told_numbers i_this_adder_40))))) else (some ((-1 : Int32), f_this_now_day, f_this_now_second, i_this_told, f_this_told_numbers, i_this_adder))))))))))))))
set_option maxHeartbeats 4000000 in
set_option maxRecDepth 100000 in
theorem kX9_steps (l : Launch) (dC : Nat → ClassId) (dI : Nat → Nat → Nat) (cI cJ cB : ClassId) (h_this h_this_now h_this_kept h_this_told h_this_text h_this_script h_this_momentReader h_this_spanReader h_this_adder h_this_other h_this_trial h_this_ways h_this_now_day h_this_now_second h_this_now_months h_this_now_days h_this_now_seconds h_this_told_numbers : Nat) (N : Nat) (p1 : Int32) (p2 : Int32) (p3 : Int32) (p4 : Int32) (p5 : Int32) (p6 : Int32) (i_this : Int32) (f_this_now_day : Nat → Int32) (f_this_now_second : Nat → Int32) (f_this_now_months : Nat → Int32) (f_this_now_days : Nat → Int32) (f_this_now_seconds : Nat → Int32) (i_this_told : Int32) (f_this_told_numbers : Nat → Int64) (i_this_adder : Nat → Int32) (r : Int32) (o_f_this_now_day : Nat → Int32) (o_f_this_now_second : Nat → Int32) (o_i_this_told : Int32) (o_f_this_told_numbers : Nat → Int64) (o_i_this_adder : Nat → Int32) (hf : fX9_steps N p1 p2 p3 p4 p5 p6 i_this f_this_now_day f_this_now_second f_this_now_months f_this_now_days f_this_now_seconds i_this_told f_this_told_numbers i_this_adder = some (r, o_f_this_now_day, o_f_this_now_second, o_i_this_told, o_f_this_told_numbers, o_i_this_adder)) : MI l yX9_steps (kws yX9_steps cX9_steps 9 (some .int)) (kR 5 117) (dC, dI) (kT cI cJ cB) [.ref h_this, .int p1, .int p2, .int p3, .int p4, .int p5, .int p6] [cl_X9 h_this h_this_now h_this_kept h_this_told h_this_text h_this_script h_this_momentReader h_this_spanReader h_this_adder h_this_other h_this_trial h_this_ways i_this, cl_X4 h_this_now h_this_now_day h_this_now_second h_this_now_months h_this_now_days h_this_now_seconds, (h_this_now_day, .inl (cI, 8, .inl f_this_now_day)), (h_this_now_second, .inl (cI, 8, .inl f_this_now_second)), (h_this_now_months, .inl (cI, 8, .inl f_this_now_months)), (h_this_now_days, .inl (cI, 8, .inl f_this_now_days)), (h_this_now_seconds, .inl (cI, 8, .inl f_this_now_seconds)), cl_X3 h_this_told h_this_told_numbers i_this_told, (h_this_told_numbers, .inl (cJ, 8, .inr (.inl f_this_told_numbers))), cl_X0 h_this_adder i_this_adder] [cl_X9 h_this h_this_now h_this_kept h_this_told h_this_text h_this_script h_this_momentReader h_this_spanReader h_this_adder h_this_other h_this_trial h_this_ways i_this, cl_X4 h_this_now h_this_now_day h_this_now_second h_this_now_months h_this_now_days h_this_now_seconds, (h_this_now_day, .inl (cI, 8, .inl o_f_this_now_day)), (h_this_now_second, .inl (cI, 8, .inl o_f_this_now_second)), (h_this_now_months, .inl (cI, 8, .inl f_this_now_months)), (h_this_now_days, .inl (cI, 8, .inl f_this_now_days)), (h_this_now_seconds, .inl (cI, 8, .inl f_this_now_seconds)), cl_X3 h_this_told h_this_told_numbers o_i_this_told, (h_this_told_numbers, .inl (cJ, 8, .inr (.inl o_f_this_told_numbers))), cl_X0 h_this_adder o_i_this_adder] r := by
  refine MI.of (cc := cX9_steps) (maxL := 9) (by decide) (Nat.le_of_ble_eq_true rfl) (fun p e s m args below meth c A Q ls KC hN hK hP hD hA hl hEnd => ?_)
  obtain ⟨hx, hb, hml, hown, hts⟩ := KC
  have hown : s.vm.findClass "DateSpans" = some m.cls := hown
  have hl : lv_has ls 9 [(0, .ref h_this), (1, .int p1), (2, .int p2), (3, .int p3), (4, .int p4), (5, .int p5), (6, .int p6)] := hl
  have hS : va_S A s.heap s.heap [] := va_S.rf
  have LP_96 : ∀ n_96 : Nat, ∀ (v4 : Int32) (v5 : Int32) (v6 : Int32) (v7 : Int32) (v8 : Int32) (f_this_now_day : Nat → Int32) (f_this_now_second : Nat → Int32) (i_this_told : Int32) (f_this_told_numbers : Nat → Int64) (i_this_adder : Nat → Int32) (ls : Array Slot) (H : Heap) (locs : List Loc), fX9_steps_l96 N i_this f_this_now_months f_this_now_days f_this_now_seconds n_96 v4 v5 v6 v7 v8 f_this_now_day f_this_now_second i_this_told f_this_told_numbers i_this_adder = some (r, o_f_this_now_day, o_f_this_now_second, o_i_this_told, o_f_this_told_numbers, o_i_this_adder) → lv_has ls 9 [(0, .ref h_this), (4, .int v4), (5, .int v5), (6, .int v6), (7, .int v7), (8, .int v8)] → va_P (dC, dI) vwCl [cl_X9 h_this h_this_now h_this_kept h_this_told h_this_text h_this_script h_this_momentReader h_this_spanReader h_this_adder h_this_other h_this_trial h_this_ways i_this, cl_X4 h_this_now h_this_now_day h_this_now_second h_this_now_months h_this_now_days h_this_now_seconds, (h_this_now_day, .inl (cI, 8, .inl f_this_now_day)), (h_this_now_second, .inl (cI, 8, .inl f_this_now_second)), (h_this_now_months, .inl (cI, 8, .inl f_this_now_months)), (h_this_now_days, .inl (cI, 8, .inl f_this_now_days)), (h_this_now_seconds, .inl (cI, 8, .inl f_this_now_seconds)), cl_X3 h_this_told h_this_told_numbers i_this_told, (h_this_told_numbers, .inl (cJ, 8, .inr (.inl f_this_told_numbers))), cl_X0 h_this_adder i_this_adder] H → va_D A [cl_X9 h_this h_this_now h_this_kept h_this_told h_this_text h_this_script h_this_momentReader h_this_spanReader h_this_adder h_this_other h_this_trial h_this_ways i_this, cl_X4 h_this_now h_this_now_day h_this_now_second h_this_now_months h_this_now_days h_this_now_seconds, (h_this_now_day, .inl (cI, 8, .inl f_this_now_day)), (h_this_now_second, .inl (cI, 8, .inl f_this_now_second)), (h_this_now_months, .inl (cI, 8, .inl f_this_now_months)), (h_this_now_days, .inl (cI, 8, .inl f_this_now_days)), (h_this_now_seconds, .inl (cI, 8, .inl f_this_now_seconds)), cl_X3 h_this_told h_this_told_numbers i_this_told, (h_this_told_numbers, .inl (cJ, 8, .inr (.inl f_this_told_numbers))), cl_X0 h_this_adder i_this_adder] → va_S A s.heap H locs → W p l e (kR 5 117) s m args below meth c H locs 0 0 Q (F0 m 96 ls []) := by
    intro n_96
    induction n_96 with
    | zero =>
      intro v4 v5 v6 v7 v8 f_this_now_day f_this_now_second i_this_told f_this_told_numbers i_this_adder ls H locs h hl hP hD hS
      rw [fX9_steps_l96_0] at h; cases h
    | succ n_96 ih_96 =>
      intro v4 v5 v6 v7 v8 f_this_now_day f_this_now_second i_this_told f_this_told_numbers i_this_adder ls H locs h hl hP hD hS
      rw [fX9_steps_l96_s] at h
      refine lv_iload hx hb dX9_steps_96 (lv_at hl 5 rfl) ?_
      refine lv_iload hx hb dX9_steps_98 (lv_at hl 2 rfl) ?_
      refine lv_icmp_ge (tgt := 151) hx hb dX9_steps_100 (by decide) (fun c1 => ?_) (fun c1 => ?_)
      · have h := ite_t c1 h
        refine lv_aload_n hx hb dX9_steps_151 rfl (lv_at hl 0 rfl) ?_
        refine va_get (D := (dC, dI)) (ci := 8) (v := .ref h_this_now) (C := RX9) (T := TX9) (N := 12) hx hb hts inX9 hown hK hP 0 rfl rfl 0 (by decide) (hts _ (kq q_226 rfl)) (fun _ h9 => h9) rfl dX9_steps_152 ?_
        refine lv_iload hx hb dX9_steps_155 (lv_at hl 3 rfl) ?_
        refine lv_aload_n hx hb dX9_steps_157 rfl (lv_at hl 0 rfl) ?_
        refine va_get (D := (dC, dI)) (ci := 8) (v := .ref h_this_adder) (C := RX9) (T := TX9) (N := 12) hx hb hts inX9 hown hK hP 0 rfl rfl 8 (by decide) (hts _ (kq q_234 rfl)) (fun _ h9 => h9) rfl dX9_steps_158 ?_
        refine va_getN (D := (dC, dI)) (ci := 0) (v := .int (i_this_adder 8)) (C := RX0) (T := TX0) (N := 11) hx hb hts inX0 hown hK hP 9 rfl rfl 8 (by decide) (kN.use hN q_149 rfl) (fun _ h9 => h9) rfl dX9_steps_161 ?_
        refine lv_aload_n hx hb dX9_steps_164 rfl (lv_at hl 0 rfl) ?_
        refine va_get (D := (dC, dI)) (ci := 8) (v := .ref h_this_adder) (C := RX9) (T := TX9) (N := 12) hx hb hts inX9 hown hK hP 0 rfl rfl 8 (by decide) (hts _ (kq q_234 rfl)) (fun _ h9 => h9) rfl dX9_steps_165 ?_
        refine va_getN (D := (dC, dI)) (ci := 0) (v := .int (i_this_adder 9)) (C := RX0) (T := TX0) (N := 11) hx hb hts inX0 hown hK hP 9 rfl rfl 9 (by decide) (kN.use hN q_151 rfl) (fun _ h9 => h9) rfl dX9_steps_168 ?_
        obtain ⟨f_this_now_day_2, f_this_now_second_3, hc4, h⟩ := bd2_at h
        refine kjV (kV (own := "DateSpans") (C := "DateSpans$Slots") (b := h_this_now) (As := [.int v6, .int (i_this_adder 8), .int (i_this_adder 9)]) (rest := []) ⟨hx, hb, hml, hown, hts⟩ (kX4_putMoment l dC dI cI cJ cB h_this_now h_this_now_day h_this_now_second h_this_now_months h_this_now_days h_this_now_seconds N v6 (i_this_adder 8) (i_this_adder 9) f_this_now_day f_this_now_second f_this_now_day_2 f_this_now_second_3 hc4 _) (kgV (kq q_280 rfl) (kq q_281 rfl) (kq q_282 rfl) (kq q_19 rfl) (kq q_283 rfl)) yd_X4_putMoment ⟨Nat.le_of_ble_eq_true rfl, Nat.le_of_ble_eq_true rfl⟩ hN hK hP hD [1, 2, 3] rfl rfl (ci := 3) rfl rfl rfl rfl rfl hl.1 rfl (lv_room (Nat.le_of_ble_eq_true rfl)) dX9_steps_171) hP hD hS hA [1, 2, 3] rfl rfl (fun H locs hP hD hS => ?_)
        have hP : va_P (dC, dI) vwCl [cl_X9 h_this h_this_now h_this_kept h_this_told h_this_text h_this_script h_this_momentReader h_this_spanReader h_this_adder h_this_other h_this_trial h_this_ways i_this, cl_X4 h_this_now h_this_now_day h_this_now_second h_this_now_months h_this_now_days h_this_now_seconds, (h_this_now_day, .inl (cI, 8, .inl f_this_now_day_2)), (h_this_now_second, .inl (cI, 8, .inl f_this_now_second_3)), (h_this_now_months, .inl (cI, 8, .inl f_this_now_months)), (h_this_now_days, .inl (cI, 8, .inl f_this_now_days)), (h_this_now_seconds, .inl (cI, 8, .inl f_this_now_seconds)), cl_X3 h_this_told h_this_told_numbers i_this_told, (h_this_told_numbers, .inl (cJ, 8, .inr (.inl f_this_told_numbers))), cl_X0 h_this_adder i_this_adder] H := hP
        have hD : va_D A [cl_X9 h_this h_this_now h_this_kept h_this_told h_this_text h_this_script h_this_momentReader h_this_spanReader h_this_adder h_this_other h_this_trial h_this_ways i_this, cl_X4 h_this_now h_this_now_day h_this_now_second h_this_now_months h_this_now_days h_this_now_seconds, (h_this_now_day, .inl (cI, 8, .inl f_this_now_day_2)), (h_this_now_second, .inl (cI, 8, .inl f_this_now_second_3)), (h_this_now_months, .inl (cI, 8, .inl f_this_now_months)), (h_this_now_days, .inl (cI, 8, .inl f_this_now_days)), (h_this_now_seconds, .inl (cI, 8, .inl f_this_now_seconds)), cl_X3 h_this_told h_this_told_numbers i_this_told, (h_this_told_numbers, .inl (cJ, 8, .inr (.inl f_this_told_numbers))), cl_X0 h_this_adder i_this_adder] := hD
        refine lv_aload_n hx hb dX9_steps_174 rfl (lv_at hl 0 rfl) ?_
        refine va_get (D := (dC, dI)) (ci := 8) (v := .ref h_this_told) (C := RX9) (T := TX9) (N := 12) hx hb hts inX9 hown hK hP 0 rfl rfl 3 (by decide) (hts _ (kq q_229 rfl)) (fun _ h9 => h9) rfl dX9_steps_175 ?_
        refine lv_aload_n hx hb dX9_steps_178 rfl (lv_at hl 0 rfl) ?_
        refine va_get (D := (dC, dI)) (ci := 8) (v := .ref h_this_adder) (C := RX9) (T := TX9) (N := 12) hx hb hts inX9 hown hK hP 0 rfl rfl 8 (by decide) (hts _ (kq q_234 rfl)) (fun _ h9 => h9) rfl dX9_steps_179 ?_
        refine va_getN (D := (dC, dI)) (ci := 0) (v := .int (i_this_adder 9)) (C := RX0) (T := TX0) (N := 11) hx hb hts inX0 hown hK hP 9 rfl rfl 9 (by decide) (kN.use hN q_151 rfl) (fun _ h9 => h9) rfl dX9_steps_182 ?_
        refine lv_i2l hx hb dX9_steps_185 rfl ?_
        refine lv_iload hx hb dX9_steps_186 (lv_at hl 4 rfl) ?_
        refine lv_i2l hx hb dX9_steps_188 rfl ?_
        obtain ⟨i_this_told_5, f_this_told_numbers_6, hc7, h⟩ := bd2_at h
        refine kjV (kV (own := "DateSpans") (C := "DateSpans$Row") (b := h_this_told) (As := [.long ((i_this_adder 9).toInt64), .long v7.toInt64]) (rest := []) ⟨hx, hb, hml, hown, hts⟩ (kX3_tell_ l dC dI cI cJ cB h_this_told h_this_told_numbers N ((i_this_adder 9).toInt64) v7.toInt64 i_this_told f_this_told_numbers i_this_told_5 f_this_told_numbers_6 hc7 _) (kgV (kq q_418 rfl) (kq q_419 rfl) (kq q_420 rfl) (kq q_20 rfl) (kq q_421 rfl)) yd_X3_tell_ ⟨Nat.le_of_ble_eq_true rfl, Nat.le_of_ble_eq_true rfl⟩ hN hK hP hD [7, 8] rfl rfl (ci := 2) rfl rfl rfl rfl rfl hl.1 rfl (lv_room (Nat.le_of_ble_eq_true rfl)) dX9_steps_189) hP hD hS hA [7, 8] rfl rfl (fun H locs hP hD hS => ?_)
        have hP : va_P (dC, dI) vwCl [cl_X9 h_this h_this_now h_this_kept h_this_told h_this_text h_this_script h_this_momentReader h_this_spanReader h_this_adder h_this_other h_this_trial h_this_ways i_this, cl_X4 h_this_now h_this_now_day h_this_now_second h_this_now_months h_this_now_days h_this_now_seconds, (h_this_now_day, .inl (cI, 8, .inl f_this_now_day_2)), (h_this_now_second, .inl (cI, 8, .inl f_this_now_second_3)), (h_this_now_months, .inl (cI, 8, .inl f_this_now_months)), (h_this_now_days, .inl (cI, 8, .inl f_this_now_days)), (h_this_now_seconds, .inl (cI, 8, .inl f_this_now_seconds)), cl_X3 h_this_told h_this_told_numbers i_this_told_5, (h_this_told_numbers, .inl (cJ, 8, .inr (.inl f_this_told_numbers_6))), cl_X0 h_this_adder i_this_adder] H := hP
        have hD : va_D A [cl_X9 h_this h_this_now h_this_kept h_this_told h_this_text h_this_script h_this_momentReader h_this_spanReader h_this_adder h_this_other h_this_trial h_this_ways i_this, cl_X4 h_this_now h_this_now_day h_this_now_second h_this_now_months h_this_now_days h_this_now_seconds, (h_this_now_day, .inl (cI, 8, .inl f_this_now_day_2)), (h_this_now_second, .inl (cI, 8, .inl f_this_now_second_3)), (h_this_now_months, .inl (cI, 8, .inl f_this_now_months)), (h_this_now_days, .inl (cI, 8, .inl f_this_now_days)), (h_this_now_seconds, .inl (cI, 8, .inl f_this_now_seconds)), cl_X3 h_this_told h_this_told_numbers i_this_told_5, (h_this_told_numbers, .inl (cJ, 8, .inr (.inl f_this_told_numbers_6))), cl_X0 h_this_adder i_this_adder] := hD
        refine lv_aload_n hx hb dX9_steps_192 rfl (lv_at hl 0 rfl) ?_
        refine va_get (D := (dC, dI)) (ci := 8) (v := .ref h_this_adder) (C := RX9) (T := TX9) (N := 12) hx hb hts inX9 hown hK hP 0 rfl rfl 8 (by decide) (hts _ (kq q_234 rfl)) (fun _ h9 => h9) rfl dX9_steps_193 ?_
        refine va_getN (D := (dC, dI)) (ci := 0) (v := .int (i_this_adder 8)) (C := RX0) (T := TX0) (N := 11) hx hb hts inX0 hown hK hP 9 rfl rfl 8 (by decide) (kN.use hN q_149 rfl) (fun _ h9 => h9) rfl dX9_steps_196 ?_
        obtain ⟨rfl, rfl, rfl, rfl, rfl, rfl⟩ := pj6 h
        exact hEnd _ _ _ _ hP hS dX9_steps_199 rfl
      have h := ite_f c1 h
      refine lv_aload_n hx hb dX9_steps_103 rfl (lv_at hl 0 rfl) ?_
      refine va_get (D := (dC, dI)) (ci := 8) (v := .ref h_this_adder) (C := RX9) (T := TX9) (N := 12) hx hb hts inX9 hown hK hP 0 rfl rfl 8 (by decide) (hts _ (kq q_234 rfl)) (fun _ h9 => h9) rfl dX9_steps_104 ?_
      refine lv_aload_n hx hb dX9_steps_107 rfl (lv_at hl 0 rfl) ?_
      refine va_get (D := (dC, dI)) (ci := 8) (v := .ref h_this_adder) (C := RX9) (T := TX9) (N := 12) hx hb hts inX9 hown hK hP 0 rfl rfl 8 (by decide) (hts _ (kq q_234 rfl)) (fun _ h9 => h9) rfl dX9_steps_108 ?_
      refine va_getN (D := (dC, dI)) (ci := 0) (v := .int (i_this_adder 8)) (C := RX0) (T := TX0) (N := 11) hx hb hts inX0 hown hK hP 9 rfl rfl 8 (by decide) (kN.use hN q_149 rfl) (fun _ h9 => h9) rfl dX9_steps_111 ?_
      refine lv_aload_n hx hb dX9_steps_114 rfl (lv_at hl 0 rfl) ?_
      refine va_get (D := (dC, dI)) (ci := 8) (v := .ref h_this_adder) (C := RX9) (T := TX9) (N := 12) hx hb hts inX9 hown hK hP 0 rfl rfl 8 (by decide) (hts _ (kq q_234 rfl)) (fun _ h9 => h9) rfl dX9_steps_115 ?_
      refine va_getN (D := (dC, dI)) (ci := 0) (v := .int (i_this_adder 9)) (C := RX0) (T := TX0) (N := 11) hx hb hts inX0 hown hK hP 9 rfl rfl 9 (by decide) (kN.use hN q_151 rfl) (fun _ h9 => h9) rfl dX9_steps_118 ?_
      refine lv_iload hx hb dX9_steps_121 (lv_at hl 1 rfl) ?_
      obtain ⟨r8, i_this_adder_9, hc10, h⟩ := bd2_at h
      refine kjI (kV (own := "DateSpans") (C := "DateSpans$Adder") (b := h_this_adder) (As := [.int (i_this_adder 8), .int (i_this_adder 9), .int v4]) (rest := []) ⟨hx, hb, hml, hown, hts⟩ (kX0_leads l dC dI cI cJ cB h_this_adder N (i_this_adder 8) (i_this_adder 9) v4 i_this_adder r8 i_this_adder_9 hc10 _) (kgV (kq q_370 rfl) (kq q_371 rfl) (kq q_372 rfl) (kq q_24 rfl) (kq q_373 rfl)) yd_X0_leads ⟨Nat.le_of_ble_eq_true rfl, Nat.le_of_ble_eq_true rfl⟩ hN hK hP hD [9] rfl rfl (ci := 0) rfl rfl rfl rfl rfl hl.1 rfl (lv_room (Nat.le_of_ble_eq_true rfl)) dX9_steps_123) hP hD hS hA [9] rfl rfl (fun H locs hP hD hS => ?_)
      have hP : va_P (dC, dI) vwCl [cl_X9 h_this h_this_now h_this_kept h_this_told h_this_text h_this_script h_this_momentReader h_this_spanReader h_this_adder h_this_other h_this_trial h_this_ways i_this, cl_X4 h_this_now h_this_now_day h_this_now_second h_this_now_months h_this_now_days h_this_now_seconds, (h_this_now_day, .inl (cI, 8, .inl f_this_now_day)), (h_this_now_second, .inl (cI, 8, .inl f_this_now_second)), (h_this_now_months, .inl (cI, 8, .inl f_this_now_months)), (h_this_now_days, .inl (cI, 8, .inl f_this_now_days)), (h_this_now_seconds, .inl (cI, 8, .inl f_this_now_seconds)), cl_X3 h_this_told h_this_told_numbers i_this_told, (h_this_told_numbers, .inl (cJ, 8, .inr (.inl f_this_told_numbers))), cl_X0 h_this_adder i_this_adder_9] H := hP
      have hD : va_D A [cl_X9 h_this h_this_now h_this_kept h_this_told h_this_text h_this_script h_this_momentReader h_this_spanReader h_this_adder h_this_other h_this_trial h_this_ways i_this, cl_X4 h_this_now h_this_now_day h_this_now_second h_this_now_months h_this_now_days h_this_now_seconds, (h_this_now_day, .inl (cI, 8, .inl f_this_now_day)), (h_this_now_second, .inl (cI, 8, .inl f_this_now_second)), (h_this_now_months, .inl (cI, 8, .inl f_this_now_months)), (h_this_now_days, .inl (cI, 8, .inl f_this_now_days)), (h_this_now_seconds, .inl (cI, 8, .inl f_this_now_seconds)), cl_X3 h_this_told h_this_told_numbers i_this_told, (h_this_told_numbers, .inl (cJ, 8, .inr (.inl f_this_told_numbers))), cl_X0 h_this_adder i_this_adder_9] := hD
      refine lv_if_ne (tgt := 132) hx hb dX9_steps_126 (by decide) (fun c11 => ?_) (fun c11 => ?_)
      · have h := ite_f c11 h
        refine lv_aload_n hx hb dX9_steps_132 rfl (lv_at hl 0 rfl) ?_
        refine va_get (D := (dC, dI)) (ci := 8) (v := .ref h_this_adder) (C := RX9) (T := TX9) (N := 12) hx hb hts inX9 hown hK hP 0 rfl rfl 8 (by decide) (hts _ (kq q_234 rfl)) (fun _ h9 => h9) rfl dX9_steps_133 ?_
        refine va_getN (D := (dC, dI)) (ci := 0) (v := .int (i_this_adder_9 10)) (C := RX0) (T := TX0) (N := 11) hx hb hts inX0 hown hK hP 9 rfl rfl 10 (by decide) (kN.use hN q_153 rfl) (fun _ h9 => h9) rfl dX9_steps_136 ?_
        refine lv_if_le (tgt := 145) hx hb dX9_steps_139 (by decide) (fun c12 => ?_) (fun c12 => ?_)
        · have h := ite_t c12 h
          obtain ⟨z13, ez13⟩ : ∃ y : Int32, y = (v8 + (1 : Int32)) := ⟨_, rfl⟩
          have h := nm_at ez13 h
          refine lv_iinc (v := z13) (lv' := [(8, .int z13), (0, .ref h_this), (4, .int v4), (5, .int v5), (6, .int v6), (7, .int v7)]) hx hb dX9_steps_145 hl (k := 5) rfl (by rw [ez13]; rfl) (by decide) rfl (fun ls hl => ?_)
          refine lv_goto (tgt := 96) hx hb dX9_steps_148 (by decide) ?_
          exact ih_96 _ _ _ _ _ _ _ _ _ _ _ _ _ h (lv_sub hl [1, 2, 3, 4, 5, 0] rfl) hP hD hS
        have h := ite_f c12 h
        obtain ⟨z14, ez14⟩ : ∃ y : Int32, y = (v7 + (1 : Int32)) := ⟨_, rfl⟩
        have h := nm_at ez14 h
        refine lv_iinc (v := z14) (lv' := [(7, .int z14), (0, .ref h_this), (4, .int v4), (5, .int v5), (6, .int v6), (8, .int v8)]) hx hb dX9_steps_142 hl (k := 4) rfl (by rw [ez14]; rfl) (by decide) rfl (fun ls hl => ?_)
        obtain ⟨z15, ez15⟩ : ∃ y : Int32, y = (v8 + (1 : Int32)) := ⟨_, rfl⟩
        have h := nm_at ez15 h
        refine lv_iinc (v := z15) (lv' := [(8, .int z15), (7, .int z14), (0, .ref h_this), (4, .int v4), (5, .int v5), (6, .int v6)]) hx hb dX9_steps_145 hl (k := 5) rfl (by rw [ez15]; rfl) (by decide) rfl (fun ls hl => ?_)
        refine lv_goto (tgt := 96) hx hb dX9_steps_148 (by decide) ?_
        exact ih_96 _ _ _ _ _ _ _ _ _ _ _ _ _ h (lv_sub hl [2, 3, 4, 5, 1, 0] rfl) hP hD hS
      have h := ite_t c11 h
      refine lv_bipush (v := (-2 : Int32)) hx hb dX9_steps_129 (by decide) ?_
      obtain ⟨rfl, rfl, rfl, rfl, rfl, rfl⟩ := pj6 h
      exact hEnd _ _ _ _ hP hS dX9_steps_131 rfl
  have h := hf
  unfold fX9_steps at h
  refine lv_iload_n hx hb dX9_steps_0 rfl (lv_at hl 1 rfl) ?_
  obtain ⟨r16, hc17, h⟩ := bd1_at h
  refine kjSI (kS0 (own := "DateSpans") (As := [.int p1]) (rest := []) ⟨hx, hb, hml, hown, hts⟩ (kX9_isSlot l N p1 r16 hc17) (kgS (kq q_267 rfl) (kq q_268 rfl) (kq q_18 rfl) (kq q_269 rfl)) yd_X9_isSlot ⟨Nat.le_of_ble_eq_true rfl, Nat.le_of_ble_eq_true rfl⟩ rfl rfl hl.1 rfl (lv_room (Nat.le_of_ble_eq_true rfl)) dX9_steps_1) ?_
  refine lv_if_eq (tgt := 50) hx hb dX9_steps_4 (by decide) (fun c18 => ?_) (fun c18 => ?_)
  · have h := ite_t c18 h
    refine lv_iconst (v := (-1 : Int32)) hx hb dX9_steps_50 (by decide) ?_
    obtain ⟨rfl, rfl, rfl, rfl, rfl, rfl⟩ := pj6 h
    exact hEnd _ _ _ _ hP hS dX9_steps_51 rfl
  have h := ite_f c18 h
  refine lv_iload_n hx hb dX9_steps_7 rfl (lv_at hl 2 rfl) ?_
  obtain ⟨r19, hc20, h⟩ := bd1_at h
  refine kjSI (kS0 (own := "DateSpans") (As := [.int p2]) (rest := []) ⟨hx, hb, hml, hown, hts⟩ (kX9_isSlot l N p2 r19 hc20) (kgS (kq q_267 rfl) (kq q_268 rfl) (kq q_18 rfl) (kq q_269 rfl)) yd_X9_isSlot ⟨Nat.le_of_ble_eq_true rfl, Nat.le_of_ble_eq_true rfl⟩ rfl rfl hl.1 rfl (lv_room (Nat.le_of_ble_eq_true rfl)) dX9_steps_8) ?_
  refine lv_if_eq (tgt := 50) hx hb dX9_steps_11 (by decide) (fun c21 => ?_) (fun c21 => ?_)
  · have h := ite_t c21 h
    refine lv_iconst (v := (-1 : Int32)) hx hb dX9_steps_50 (by decide) ?_
    obtain ⟨rfl, rfl, rfl, rfl, rfl, rfl⟩ := pj6 h
    exact hEnd _ _ _ _ hP hS dX9_steps_51 rfl
  have h := ite_f c21 h
  refine lv_iload_n hx hb dX9_steps_14 rfl (lv_at hl 3 rfl) ?_
  obtain ⟨r22, hc23, h⟩ := bd1_at h
  refine kjSI (kS0 (own := "DateSpans") (As := [.int p3]) (rest := []) ⟨hx, hb, hml, hown, hts⟩ (kX9_isLaw l N p3 r22 hc23) (kgS (kq q_352 rfl) (kq q_353 rfl) (kq q_18 rfl) (kq q_354 rfl)) yd_X9_isLaw ⟨Nat.le_of_ble_eq_true rfl, Nat.le_of_ble_eq_true rfl⟩ rfl rfl hl.1 rfl (lv_room (Nat.le_of_ble_eq_true rfl)) dX9_steps_15) ?_
  refine lv_if_eq (tgt := 50) hx hb dX9_steps_18 (by decide) (fun c24 => ?_) (fun c24 => ?_)
  · have h := ite_t c24 h
    refine lv_iconst (v := (-1 : Int32)) hx hb dX9_steps_50 (by decide) ?_
    obtain ⟨rfl, rfl, rfl, rfl, rfl, rfl⟩ := pj6 h
    exact hEnd _ _ _ _ hP hS dX9_steps_51 rfl
  have h := ite_f c24 h
  refine lv_iload hx hb dX9_steps_21 (lv_at hl 4 rfl) ?_
  obtain ⟨r25, hc26, h⟩ := bd1_at h
  refine kjSI (kS0 (own := "DateSpans") (As := [.int p4]) (rest := []) ⟨hx, hb, hml, hown, hts⟩ (kX9_isOrder l N p4 r25 hc26) (kgS (kq q_355 rfl) (kq q_356 rfl) (kq q_18 rfl) (kq q_357 rfl)) yd_X9_isOrder ⟨Nat.le_of_ble_eq_true rfl, Nat.le_of_ble_eq_true rfl⟩ rfl rfl hl.1 rfl (lv_room (Nat.le_of_ble_eq_true rfl)) dX9_steps_23) ?_
  refine lv_if_eq (tgt := 50) hx hb dX9_steps_26 (by decide) (fun c27 => ?_) (fun c27 => ?_)
  · have h := ite_t c27 h
    refine lv_iconst (v := (-1 : Int32)) hx hb dX9_steps_50 (by decide) ?_
    obtain ⟨rfl, rfl, rfl, rfl, rfl, rfl⟩ := pj6 h
    exact hEnd _ _ _ _ hP hS dX9_steps_51 rfl
  have h := ite_f c27 h
  refine lv_iload hx hb dX9_steps_29 (lv_at hl 6 rfl) ?_
  obtain ⟨r28, hc29, h⟩ := bd1_at h
  refine kjSI (kS0 (own := "DateSpans") (As := [.int p6]) (rest := []) ⟨hx, hb, hml, hown, hts⟩ (kX9_isSlot l N p6 r28 hc29) (kgS (kq q_267 rfl) (kq q_268 rfl) (kq q_18 rfl) (kq q_269 rfl)) yd_X9_isSlot ⟨Nat.le_of_ble_eq_true rfl, Nat.le_of_ble_eq_true rfl⟩ rfl rfl hl.1 rfl (lv_room (Nat.le_of_ble_eq_true rfl)) dX9_steps_31) ?_
  refine lv_if_eq (tgt := 50) hx hb dX9_steps_34 (by decide) (fun c30 => ?_) (fun c30 => ?_)
  · have h := ite_t c30 h
    refine lv_iconst (v := (-1 : Int32)) hx hb dX9_steps_50 (by decide) ?_
    obtain ⟨rfl, rfl, rfl, rfl, rfl, rfl⟩ := pj6 h
    exact hEnd _ _ _ _ hP hS dX9_steps_51 rfl
  have h := ite_f c30 h
  refine lv_iload hx hb dX9_steps_37 (lv_at hl 5 rfl) ?_
  refine lv_if_lt (tgt := 50) hx hb dX9_steps_39 (by decide) (fun c31 => ?_) (fun c31 => ?_)
  · have h := ite_t c31 h
    refine lv_iconst (v := (-1 : Int32)) hx hb dX9_steps_50 (by decide) ?_
    obtain ⟨rfl, rfl, rfl, rfl, rfl, rfl⟩ := pj6 h
    exact hEnd _ _ _ _ hP hS dX9_steps_51 rfl
  have h := ite_f c31 h
  refine lv_iload hx hb dX9_steps_42 (lv_at hl 5 rfl) ?_
  refine lv_sipush (v := (10000 : Int32)) hx hb dX9_steps_44 (by decide) ?_
  refine lv_icmp_le (tgt := 52) hx hb dX9_steps_47 (by decide) (fun c32 => ?_) (fun c32 => ?_)
  · have h := ite_t c32 h
    refine lv_aload_n hx hb dX9_steps_52 rfl (lv_at hl 0 rfl) ?_
    refine va_get (D := (dC, dI)) (ci := 8) (v := .ref h_this_adder) (C := RX9) (T := TX9) (N := 12) hx hb hts inX9 hown hK hP 0 rfl rfl 8 (by decide) (hts _ (kq q_234 rfl)) (fun _ h9 => h9) rfl dX9_steps_53 ?_
    refine lv_aload_n hx hb dX9_steps_56 rfl (lv_at hl 0 rfl) ?_
    refine va_get (D := (dC, dI)) (ci := 8) (v := .ref h_this_now) (C := RX9) (T := TX9) (N := 12) hx hb hts inX9 hown hK hP 0 rfl rfl 0 (by decide) (hts _ (kq q_226 rfl)) (fun _ h9 => h9) rfl dX9_steps_57 ?_
    refine lv_iload_n hx hb dX9_steps_60 rfl (lv_at hl 2 rfl) ?_
    refine lv_iconst (v := (1 : Int32)) hx hb dX9_steps_61 (by decide) ?_
    refine lv_iload_n hx hb dX9_steps_62 rfl (lv_at hl 3 rfl) ?_
    obtain ⟨r33, i_this_adder_34, hc35, h⟩ := bd2_at h
    refine kjI (kV (own := "DateSpans") (C := "DateSpans$Adder") (b := h_this_adder) (As := [.ref h_this_now, .int p2, .int (1 : Int32), .int p3]) (rest := []) ⟨hx, hb, hml, hown, hts⟩ (kX0_takes l dC dI cI cJ cB h_this_adder h_this_now h_this_now_day h_this_now_second h_this_now_months h_this_now_days h_this_now_seconds N p2 (1 : Int32) p3 i_this_adder f_this_now_months f_this_now_days f_this_now_seconds r33 i_this_adder_34 hc35 _) (kgV (kq q_358 rfl) (kq q_359 rfl) (kq q_360 rfl) (kq q_24 rfl) (kq q_361 rfl)) yd_X0_takes ⟨Nat.le_of_ble_eq_true rfl, Nat.le_of_ble_eq_true rfl⟩ hN hK hP hD [9, 1, 4, 5, 6] rfl rfl (ci := 0) rfl rfl rfl rfl rfl hl.1 rfl (lv_room (Nat.le_of_ble_eq_true rfl)) dX9_steps_63) hP hD hS hA [9, 1, 4, 5, 6] rfl rfl (fun H locs hP hD hS => ?_)
    have hP : va_P (dC, dI) vwCl [cl_X9 h_this h_this_now h_this_kept h_this_told h_this_text h_this_script h_this_momentReader h_this_spanReader h_this_adder h_this_other h_this_trial h_this_ways i_this, cl_X4 h_this_now h_this_now_day h_this_now_second h_this_now_months h_this_now_days h_this_now_seconds, (h_this_now_day, .inl (cI, 8, .inl f_this_now_day)), (h_this_now_second, .inl (cI, 8, .inl f_this_now_second)), (h_this_now_months, .inl (cI, 8, .inl f_this_now_months)), (h_this_now_days, .inl (cI, 8, .inl f_this_now_days)), (h_this_now_seconds, .inl (cI, 8, .inl f_this_now_seconds)), cl_X3 h_this_told h_this_told_numbers i_this_told, (h_this_told_numbers, .inl (cJ, 8, .inr (.inl f_this_told_numbers))), cl_X0 h_this_adder i_this_adder_34] H := hP
    have hD : va_D A [cl_X9 h_this h_this_now h_this_kept h_this_told h_this_text h_this_script h_this_momentReader h_this_spanReader h_this_adder h_this_other h_this_trial h_this_ways i_this, cl_X4 h_this_now h_this_now_day h_this_now_second h_this_now_months h_this_now_days h_this_now_seconds, (h_this_now_day, .inl (cI, 8, .inl f_this_now_day)), (h_this_now_second, .inl (cI, 8, .inl f_this_now_second)), (h_this_now_months, .inl (cI, 8, .inl f_this_now_months)), (h_this_now_days, .inl (cI, 8, .inl f_this_now_days)), (h_this_now_seconds, .inl (cI, 8, .inl f_this_now_seconds)), cl_X3 h_this_told h_this_told_numbers i_this_told, (h_this_told_numbers, .inl (cJ, 8, .inr (.inl f_this_told_numbers))), cl_X0 h_this_adder i_this_adder_34] := hD
    refine lv_pop hx hb dX9_steps_66 rfl ?_
    refine lv_aload_n hx hb dX9_steps_67 rfl (lv_at hl 0 rfl) ?_
    refine va_get (D := (dC, dI)) (ci := 8) (v := .ref h_this_adder) (C := RX9) (T := TX9) (N := 12) hx hb hts inX9 hown hK hP 0 rfl rfl 8 (by decide) (hts _ (kq q_234 rfl)) (fun _ h9 => h9) rfl dX9_steps_68 ?_
    refine lv_aload_n hx hb dX9_steps_71 rfl (lv_at hl 0 rfl) ?_
    refine va_get (D := (dC, dI)) (ci := 8) (v := .ref h_this_now) (C := RX9) (T := TX9) (N := 12) hx hb hts inX9 hown hK hP 0 rfl rfl 0 (by decide) (hts _ (kq q_226 rfl)) (fun _ h9 => h9) rfl dX9_steps_72 ?_
    refine lv_iload_n hx hb dX9_steps_75 rfl (lv_at hl 1 rfl) ?_
    obtain ⟨r36, hc37, h⟩ := bd1_at h
    refine kjI (kV (own := "DateSpans") (C := "DateSpans$Slots") (b := h_this_now) (As := [.int p1]) (rest := [.ref h_this_adder]) ⟨hx, hb, hml, hown, hts⟩ (kX4_dayAt l dC dI cI cJ cB h_this_now h_this_now_day h_this_now_second h_this_now_months h_this_now_days h_this_now_seconds N p1 f_this_now_day r36 hc37 _) (kgV (kq q_275 rfl) (kq q_276 rfl) (kq q_277 rfl) (kq q_19 rfl) (kq q_278 rfl)) yd_X4_dayAt ⟨Nat.le_of_ble_eq_true rfl, Nat.le_of_ble_eq_true rfl⟩ hN hK hP hD [1, 2] rfl rfl (ci := 3) rfl rfl rfl rfl rfl hl.1 rfl (lv_room (Nat.le_of_ble_eq_true rfl)) dX9_steps_76) hP hD hS hA [1, 2] rfl rfl (fun H locs hP hD hS => ?_)
    have hP : va_P (dC, dI) vwCl [cl_X9 h_this h_this_now h_this_kept h_this_told h_this_text h_this_script h_this_momentReader h_this_spanReader h_this_adder h_this_other h_this_trial h_this_ways i_this, cl_X4 h_this_now h_this_now_day h_this_now_second h_this_now_months h_this_now_days h_this_now_seconds, (h_this_now_day, .inl (cI, 8, .inl f_this_now_day)), (h_this_now_second, .inl (cI, 8, .inl f_this_now_second)), (h_this_now_months, .inl (cI, 8, .inl f_this_now_months)), (h_this_now_days, .inl (cI, 8, .inl f_this_now_days)), (h_this_now_seconds, .inl (cI, 8, .inl f_this_now_seconds)), cl_X3 h_this_told h_this_told_numbers i_this_told, (h_this_told_numbers, .inl (cJ, 8, .inr (.inl f_this_told_numbers))), cl_X0 h_this_adder i_this_adder_34] H := hP
    have hD : va_D A [cl_X9 h_this h_this_now h_this_kept h_this_told h_this_text h_this_script h_this_momentReader h_this_spanReader h_this_adder h_this_other h_this_trial h_this_ways i_this, cl_X4 h_this_now h_this_now_day h_this_now_second h_this_now_months h_this_now_days h_this_now_seconds, (h_this_now_day, .inl (cI, 8, .inl f_this_now_day)), (h_this_now_second, .inl (cI, 8, .inl f_this_now_second)), (h_this_now_months, .inl (cI, 8, .inl f_this_now_months)), (h_this_now_days, .inl (cI, 8, .inl f_this_now_days)), (h_this_now_seconds, .inl (cI, 8, .inl f_this_now_seconds)), cl_X3 h_this_told h_this_told_numbers i_this_told, (h_this_told_numbers, .inl (cJ, 8, .inr (.inl f_this_told_numbers))), cl_X0 h_this_adder i_this_adder_34] := hD
    refine lv_aload_n hx hb dX9_steps_79 rfl (lv_at hl 0 rfl) ?_
    refine va_get (D := (dC, dI)) (ci := 8) (v := .ref h_this_now) (C := RX9) (T := TX9) (N := 12) hx hb hts inX9 hown hK hP 0 rfl rfl 0 (by decide) (hts _ (kq q_226 rfl)) (fun _ h9 => h9) rfl dX9_steps_80 ?_
    refine lv_iload_n hx hb dX9_steps_83 rfl (lv_at hl 1 rfl) ?_
    obtain ⟨r38, hc39, h⟩ := bd1_at h
    refine kjI (kV (own := "DateSpans") (C := "DateSpans$Slots") (b := h_this_now) (As := [.int p1]) (rest := [.int r36, .ref h_this_adder]) ⟨hx, hb, hml, hown, hts⟩ (kX4_secondAt l dC dI cI cJ cB h_this_now h_this_now_day h_this_now_second h_this_now_months h_this_now_days h_this_now_seconds N p1 f_this_now_second r38 hc39 _) (kgV (kq q_310 rfl) (kq q_311 rfl) (kq q_312 rfl) (kq q_19 rfl) (kq q_313 rfl)) yd_X4_secondAt ⟨Nat.le_of_ble_eq_true rfl, Nat.le_of_ble_eq_true rfl⟩ hN hK hP hD [1, 3] rfl rfl (ci := 3) rfl rfl rfl rfl rfl hl.1 rfl (lv_room (Nat.le_of_ble_eq_true rfl)) dX9_steps_84) hP hD hS hA [1, 3] rfl rfl (fun H locs hP hD hS => ?_)
    have hP : va_P (dC, dI) vwCl [cl_X9 h_this h_this_now h_this_kept h_this_told h_this_text h_this_script h_this_momentReader h_this_spanReader h_this_adder h_this_other h_this_trial h_this_ways i_this, cl_X4 h_this_now h_this_now_day h_this_now_second h_this_now_months h_this_now_days h_this_now_seconds, (h_this_now_day, .inl (cI, 8, .inl f_this_now_day)), (h_this_now_second, .inl (cI, 8, .inl f_this_now_second)), (h_this_now_months, .inl (cI, 8, .inl f_this_now_months)), (h_this_now_days, .inl (cI, 8, .inl f_this_now_days)), (h_this_now_seconds, .inl (cI, 8, .inl f_this_now_seconds)), cl_X3 h_this_told h_this_told_numbers i_this_told, (h_this_told_numbers, .inl (cJ, 8, .inr (.inl f_this_told_numbers))), cl_X0 h_this_adder i_this_adder_34] H := hP
    have hD : va_D A [cl_X9 h_this h_this_now h_this_kept h_this_told h_this_text h_this_script h_this_momentReader h_this_spanReader h_this_adder h_this_other h_this_trial h_this_ways i_this, cl_X4 h_this_now h_this_now_day h_this_now_second h_this_now_months h_this_now_days h_this_now_seconds, (h_this_now_day, .inl (cI, 8, .inl f_this_now_day)), (h_this_now_second, .inl (cI, 8, .inl f_this_now_second)), (h_this_now_months, .inl (cI, 8, .inl f_this_now_months)), (h_this_now_days, .inl (cI, 8, .inl f_this_now_days)), (h_this_now_seconds, .inl (cI, 8, .inl f_this_now_seconds)), cl_X3 h_this_told h_this_told_numbers i_this_told, (h_this_told_numbers, .inl (cJ, 8, .inr (.inl f_this_told_numbers))), cl_X0 h_this_adder i_this_adder_34] := hD
    obtain ⟨i_this_adder_40, hc41, h⟩ := bd1_at h
    refine kjV (kV (own := "DateSpans") (C := "DateSpans$Adder") (b := h_this_adder) (As := [.int r36, .int r38]) (rest := []) ⟨hx, hb, hml, hown, hts⟩ (kX0_stands l dC dI cI cJ cB h_this_adder N r36 r38 i_this_adder_34 i_this_adder_40 hc41 _) (kgV (kq q_438 rfl) (kq q_375 rfl) (kq q_376 rfl) (kq q_24 rfl) (kq q_377 rfl)) yd_X0_stands ⟨Nat.le_of_ble_eq_true rfl, Nat.le_of_ble_eq_true rfl⟩ hN hK hP hD [9] rfl rfl (ci := 0) rfl rfl rfl rfl rfl hl.1 rfl (lv_room (Nat.le_of_ble_eq_true rfl)) dX9_steps_87) hP hD hS hA [9] rfl rfl (fun H locs hP hD hS => ?_)
    have hP : va_P (dC, dI) vwCl [cl_X9 h_this h_this_now h_this_kept h_this_told h_this_text h_this_script h_this_momentReader h_this_spanReader h_this_adder h_this_other h_this_trial h_this_ways i_this, cl_X4 h_this_now h_this_now_day h_this_now_second h_this_now_months h_this_now_days h_this_now_seconds, (h_this_now_day, .inl (cI, 8, .inl f_this_now_day)), (h_this_now_second, .inl (cI, 8, .inl f_this_now_second)), (h_this_now_months, .inl (cI, 8, .inl f_this_now_months)), (h_this_now_days, .inl (cI, 8, .inl f_this_now_days)), (h_this_now_seconds, .inl (cI, 8, .inl f_this_now_seconds)), cl_X3 h_this_told h_this_told_numbers i_this_told, (h_this_told_numbers, .inl (cJ, 8, .inr (.inl f_this_told_numbers))), cl_X0 h_this_adder i_this_adder_40] H := hP
    have hD : va_D A [cl_X9 h_this h_this_now h_this_kept h_this_told h_this_text h_this_script h_this_momentReader h_this_spanReader h_this_adder h_this_other h_this_trial h_this_ways i_this, cl_X4 h_this_now h_this_now_day h_this_now_second h_this_now_months h_this_now_days h_this_now_seconds, (h_this_now_day, .inl (cI, 8, .inl f_this_now_day)), (h_this_now_second, .inl (cI, 8, .inl f_this_now_second)), (h_this_now_months, .inl (cI, 8, .inl f_this_now_months)), (h_this_now_days, .inl (cI, 8, .inl f_this_now_days)), (h_this_now_seconds, .inl (cI, 8, .inl f_this_now_seconds)), cl_X3 h_this_told h_this_told_numbers i_this_told, (h_this_told_numbers, .inl (cJ, 8, .inr (.inl f_this_told_numbers))), cl_X0 h_this_adder i_this_adder_40] := hD
    refine lv_iconst (v := (0 : Int32)) hx hb dX9_steps_90 (by decide) ?_
    refine lv_istore (lv' := [(7, .int (0 : Int32)), (0, .ref h_this), (1, .int p1), (2, .int p2), (3, .int p3), (4, .int p4), (5, .int p5), (6, .int p6)]) hx hb dX9_steps_91 hl (by decide) rfl (fun ls hl => ?_)
    refine lv_iconst (v := (0 : Int32)) hx hb dX9_steps_93 (by decide) ?_
    refine lv_istore (lv' := [(8, .int (0 : Int32)), (7, .int (0 : Int32)), (0, .ref h_this), (1, .int p1), (2, .int p2), (3, .int p3), (4, .int p4), (5, .int p5), (6, .int p6)]) hx hb dX9_steps_94 hl (by decide) rfl (fun ls hl => ?_)
    exact LP_96 N _ _ _ _ _ _ _ _ _ _ _ _ _ h (lv_sub hl [2, 6, 7, 8, 1, 0] rfl) hP hD hS
  have h := ite_f c32 h
  refine lv_iconst (v := (-1 : Int32)) hx hb dX9_steps_50 (by decide) ?_
  obtain ⟨rfl, rfl, rfl, rfl, rfl, rfl⟩ := pj6 h
  exact hEnd _ _ _ _ hP hS dX9_steps_51 rfl
noncomputable def fX9_sum (N : Nat) (p1 : Int32) (p2 : Int32) (p3 : Int32) (i_this : Int32) (f_this_now_months : Nat → Int32) (f_this_now_days : Nat → Int32) (f_this_now_seconds : Nat → Int32) (i_this_told : Int32) (f_this_told_numbers : Nat → Int64) : Option (Int32 × (Nat → Int32) × (Nat → Int32) × (Nat → Int32) × Int32 × (Nat → Int64)) := (bd1 (fX9_isSlot N p1) fun r1 => (if r1 = (0 : Int32) then (some ((-1 : Int32), f_this_now_months, f_this_now_days, f_this_now_seconds, i_this_told, f_this_told_numbers)) else (bd1 (fX9_isSlot N p2) fun r4 => (if r4 = (0 : Int32) then (some ((-1 : Int32), f_this_now_months, f_this_now_days, f_this_now_seconds, i_this_told, f_this_told_numbers)) else (bd1 (fX9_isSlot N p3) fun r7 => (if r7 = (0 : Int32) then (some ((-1 : Int32), f_this_now_months, f_this_now_days, f_this_now_seconds, i_this_told, f_this_told_numbers)) else (bd1 (fX4_monthsAt N p1 f_this_now_months) fun r10 => (bd1 (fX4_monthsAt N p2 f_this_now_months) fun r12 => (bd1 (fX4_daysAt N p1 f_this_now_days) fun r14 => (bd1 (fX4_daysAt N p2 f_this_now_days) fun r16 => (bd1 (fX4_secondsAt N p1 f_this_now_seconds) fun r18 => (bd1 (fX4_secondsAt N p2 f_this_now_seconds) fun r20 => (bd6 (fX9_comesToSpan N p3 (r10.toInt64 + r12.toInt64) (r14.toInt64 + r16.toInt64) (r18.toInt64 + r20.toInt64) i_this f_this_now_months f_this_now_days f_this_now_seconds i_this_told f_this_told_numbers) fun r22 f_this_now_months_23 f_this_now_days_24 f_this_now_seconds_25 i_this_told_26 f_this_told_numbers_27 => (some (r22, f_this_now_months_23, f_this_now_days_24, f_this_now_seconds_25, i_this_told_26, f_this_told_numbers_27)))))))))))))))
set_option maxHeartbeats 4000000 in
set_option maxRecDepth 100000 in
theorem kX9_sum (l : Launch) (dC : Nat → ClassId) (dI : Nat → Nat → Nat) (cI cJ cB : ClassId) (h_this h_this_now h_this_kept h_this_told h_this_text h_this_script h_this_momentReader h_this_spanReader h_this_adder h_this_other h_this_trial h_this_ways h_this_now_day h_this_now_second h_this_now_months h_this_now_days h_this_now_seconds h_this_told_numbers : Nat) (N : Nat) (p1 : Int32) (p2 : Int32) (p3 : Int32) (i_this : Int32) (f_this_now_months : Nat → Int32) (f_this_now_days : Nat → Int32) (f_this_now_seconds : Nat → Int32) (i_this_told : Int32) (f_this_told_numbers : Nat → Int64) (r : Int32) (o_f_this_now_months : Nat → Int32) (o_f_this_now_days : Nat → Int32) (o_f_this_now_seconds : Nat → Int32) (o_i_this_told : Int32) (o_f_this_told_numbers : Nat → Int64) (hf : fX9_sum N p1 p2 p3 i_this f_this_now_months f_this_now_days f_this_now_seconds i_this_told f_this_told_numbers = some (r, o_f_this_now_months, o_f_this_now_days, o_f_this_now_seconds, o_i_this_told, o_f_this_told_numbers)) : MI l yX9_sum (kws yX9_sum cX9_sum 4 (some .int)) (kR 5 121) (dC, dI) (kT cI cJ cB) [.ref h_this, .int p1, .int p2, .int p3] [cl_X9 h_this h_this_now h_this_kept h_this_told h_this_text h_this_script h_this_momentReader h_this_spanReader h_this_adder h_this_other h_this_trial h_this_ways i_this, cl_X4 h_this_now h_this_now_day h_this_now_second h_this_now_months h_this_now_days h_this_now_seconds, (h_this_now_months, .inl (cI, 8, .inl f_this_now_months)), (h_this_now_days, .inl (cI, 8, .inl f_this_now_days)), (h_this_now_seconds, .inl (cI, 8, .inl f_this_now_seconds)), cl_X3 h_this_told h_this_told_numbers i_this_told, (h_this_told_numbers, .inl (cJ, 8, .inr (.inl f_this_told_numbers)))] [cl_X9 h_this h_this_now h_this_kept h_this_told h_this_text h_this_script h_this_momentReader h_this_spanReader h_this_adder h_this_other h_this_trial h_this_ways i_this, cl_X4 h_this_now h_this_now_day h_this_now_second h_this_now_months h_this_now_days h_this_now_seconds, (h_this_now_months, .inl (cI, 8, .inl o_f_this_now_months)), (h_this_now_days, .inl (cI, 8, .inl o_f_this_now_days)), (h_this_now_seconds, .inl (cI, 8, .inl o_f_this_now_seconds)), cl_X3 h_this_told h_this_told_numbers o_i_this_told, (h_this_told_numbers, .inl (cJ, 8, .inr (.inl o_f_this_told_numbers)))] r := by
  refine MI.of (cc := cX9_sum) (maxL := 4) (by decide) (Nat.le_of_ble_eq_true rfl) (fun p e s m args below meth c A Q ls KC hN hK hP hD hA hl hEnd => ?_)
  obtain ⟨hx, hb, hml, hown, hts⟩ := KC
  have hown : s.vm.findClass "DateSpans" = some m.cls := hown
  have hl : lv_has ls 4 [(0, .ref h_this), (1, .int p1), (2, .int p2), (3, .int p3)] := hl
  have hS : va_S A s.heap s.heap [] := va_S.rf
  have h := hf
  unfold fX9_sum at h
  refine lv_iload_n hx hb dX9_sum_0 rfl (lv_at hl 1 rfl) ?_
  obtain ⟨r1, hc2, h⟩ := bd1_at h
  refine kjSI (kS0 (own := "DateSpans") (As := [.int p1]) (rest := []) ⟨hx, hb, hml, hown, hts⟩ (kX9_isSlot l N p1 r1 hc2) (kgS (kq q_267 rfl) (kq q_268 rfl) (kq q_18 rfl) (kq q_269 rfl)) yd_X9_isSlot ⟨Nat.le_of_ble_eq_true rfl, Nat.le_of_ble_eq_true rfl⟩ rfl rfl hl.1 rfl (lv_room (Nat.le_of_ble_eq_true rfl)) dX9_sum_1) ?_
  refine lv_if_eq (tgt := 21) hx hb dX9_sum_4 (by decide) (fun c3 => ?_) (fun c3 => ?_)
  · have h := ite_t c3 h
    refine lv_iconst (v := (-1 : Int32)) hx hb dX9_sum_21 (by decide) ?_
    obtain ⟨rfl, rfl, rfl, rfl, rfl, rfl⟩ := pj6 h
    exact hEnd _ _ _ _ hP hS dX9_sum_22 rfl
  have h := ite_f c3 h
  refine lv_iload_n hx hb dX9_sum_7 rfl (lv_at hl 2 rfl) ?_
  obtain ⟨r4, hc5, h⟩ := bd1_at h
  refine kjSI (kS0 (own := "DateSpans") (As := [.int p2]) (rest := []) ⟨hx, hb, hml, hown, hts⟩ (kX9_isSlot l N p2 r4 hc5) (kgS (kq q_267 rfl) (kq q_268 rfl) (kq q_18 rfl) (kq q_269 rfl)) yd_X9_isSlot ⟨Nat.le_of_ble_eq_true rfl, Nat.le_of_ble_eq_true rfl⟩ rfl rfl hl.1 rfl (lv_room (Nat.le_of_ble_eq_true rfl)) dX9_sum_8) ?_
  refine lv_if_eq (tgt := 21) hx hb dX9_sum_11 (by decide) (fun c6 => ?_) (fun c6 => ?_)
  · have h := ite_t c6 h
    refine lv_iconst (v := (-1 : Int32)) hx hb dX9_sum_21 (by decide) ?_
    obtain ⟨rfl, rfl, rfl, rfl, rfl, rfl⟩ := pj6 h
    exact hEnd _ _ _ _ hP hS dX9_sum_22 rfl
  have h := ite_f c6 h
  refine lv_iload_n hx hb dX9_sum_14 rfl (lv_at hl 3 rfl) ?_
  obtain ⟨r7, hc8, h⟩ := bd1_at h
  refine kjSI (kS0 (own := "DateSpans") (As := [.int p3]) (rest := []) ⟨hx, hb, hml, hown, hts⟩ (kX9_isSlot l N p3 r7 hc8) (kgS (kq q_267 rfl) (kq q_268 rfl) (kq q_18 rfl) (kq q_269 rfl)) yd_X9_isSlot ⟨Nat.le_of_ble_eq_true rfl, Nat.le_of_ble_eq_true rfl⟩ rfl rfl hl.1 rfl (lv_room (Nat.le_of_ble_eq_true rfl)) dX9_sum_15) ?_
  refine lv_if_ne (tgt := 23) hx hb dX9_sum_18 (by decide) (fun c9 => ?_) (fun c9 => ?_)
  · have h := ite_f c9 h
    refine lv_aload_n hx hb dX9_sum_23 rfl (lv_at hl 0 rfl) ?_
    refine lv_iload_n hx hb dX9_sum_24 rfl (lv_at hl 3 rfl) ?_
    refine lv_aload_n hx hb dX9_sum_25 rfl (lv_at hl 0 rfl) ?_
    refine va_get (D := (dC, dI)) (ci := 8) (v := .ref h_this_now) (C := RX9) (T := TX9) (N := 12) hx hb hts inX9 hown hK hP 0 rfl rfl 0 (by decide) (hts _ (kq q_226 rfl)) (fun _ h9 => h9) rfl dX9_sum_26 ?_
    refine lv_iload_n hx hb dX9_sum_29 rfl (lv_at hl 1 rfl) ?_
    obtain ⟨r10, hc11, h⟩ := bd1_at h
    refine kjI (kV (own := "DateSpans") (C := "DateSpans$Slots") (b := h_this_now) (As := [.int p1]) (rest := [.int p3, .ref h_this]) ⟨hx, hb, hml, hown, hts⟩ (kX4_monthsAt l dC dI cI cJ cB h_this_now h_this_now_day h_this_now_second h_this_now_months h_this_now_days h_this_now_seconds N p1 f_this_now_months r10 hc11 _) (kgV (kq q_332 rfl) (kq q_333 rfl) (kq q_334 rfl) (kq q_19 rfl) (kq q_335 rfl)) yd_X4_monthsAt ⟨Nat.le_of_ble_eq_true rfl, Nat.le_of_ble_eq_true rfl⟩ hN hK hP hD [1, 2] rfl rfl (ci := 3) rfl rfl rfl rfl rfl hl.1 rfl (lv_room (Nat.le_of_ble_eq_true rfl)) dX9_sum_30) hP hD hS hA [1, 2] rfl rfl (fun H locs hP hD hS => ?_)
    have hP : va_P (dC, dI) vwCl [cl_X9 h_this h_this_now h_this_kept h_this_told h_this_text h_this_script h_this_momentReader h_this_spanReader h_this_adder h_this_other h_this_trial h_this_ways i_this, cl_X4 h_this_now h_this_now_day h_this_now_second h_this_now_months h_this_now_days h_this_now_seconds, (h_this_now_months, .inl (cI, 8, .inl f_this_now_months)), (h_this_now_days, .inl (cI, 8, .inl f_this_now_days)), (h_this_now_seconds, .inl (cI, 8, .inl f_this_now_seconds)), cl_X3 h_this_told h_this_told_numbers i_this_told, (h_this_told_numbers, .inl (cJ, 8, .inr (.inl f_this_told_numbers)))] H := hP
    have hD : va_D A [cl_X9 h_this h_this_now h_this_kept h_this_told h_this_text h_this_script h_this_momentReader h_this_spanReader h_this_adder h_this_other h_this_trial h_this_ways i_this, cl_X4 h_this_now h_this_now_day h_this_now_second h_this_now_months h_this_now_days h_this_now_seconds, (h_this_now_months, .inl (cI, 8, .inl f_this_now_months)), (h_this_now_days, .inl (cI, 8, .inl f_this_now_days)), (h_this_now_seconds, .inl (cI, 8, .inl f_this_now_seconds)), cl_X3 h_this_told h_this_told_numbers i_this_told, (h_this_told_numbers, .inl (cJ, 8, .inr (.inl f_this_told_numbers)))] := hD
    refine lv_i2l hx hb dX9_sum_33 rfl ?_
    refine lv_aload_n hx hb dX9_sum_34 rfl (lv_at hl 0 rfl) ?_
    refine va_get (D := (dC, dI)) (ci := 8) (v := .ref h_this_now) (C := RX9) (T := TX9) (N := 12) hx hb hts inX9 hown hK hP 0 rfl rfl 0 (by decide) (hts _ (kq q_226 rfl)) (fun _ h9 => h9) rfl dX9_sum_35 ?_
    refine lv_iload_n hx hb dX9_sum_38 rfl (lv_at hl 2 rfl) ?_
    obtain ⟨r12, hc13, h⟩ := bd1_at h
    refine kjI (kV (own := "DateSpans") (C := "DateSpans$Slots") (b := h_this_now) (As := [.int p2]) (rest := [.long r10.toInt64, .int p3, .ref h_this]) ⟨hx, hb, hml, hown, hts⟩ (kX4_monthsAt l dC dI cI cJ cB h_this_now h_this_now_day h_this_now_second h_this_now_months h_this_now_days h_this_now_seconds N p2 f_this_now_months r12 hc13 _) (kgV (kq q_332 rfl) (kq q_333 rfl) (kq q_334 rfl) (kq q_19 rfl) (kq q_335 rfl)) yd_X4_monthsAt ⟨Nat.le_of_ble_eq_true rfl, Nat.le_of_ble_eq_true rfl⟩ hN hK hP hD [1, 2] rfl rfl (ci := 3) rfl rfl rfl rfl rfl hl.1 rfl (lv_room (Nat.le_of_ble_eq_true rfl)) dX9_sum_39) hP hD hS hA [1, 2] rfl rfl (fun H locs hP hD hS => ?_)
    have hP : va_P (dC, dI) vwCl [cl_X9 h_this h_this_now h_this_kept h_this_told h_this_text h_this_script h_this_momentReader h_this_spanReader h_this_adder h_this_other h_this_trial h_this_ways i_this, cl_X4 h_this_now h_this_now_day h_this_now_second h_this_now_months h_this_now_days h_this_now_seconds, (h_this_now_months, .inl (cI, 8, .inl f_this_now_months)), (h_this_now_days, .inl (cI, 8, .inl f_this_now_days)), (h_this_now_seconds, .inl (cI, 8, .inl f_this_now_seconds)), cl_X3 h_this_told h_this_told_numbers i_this_told, (h_this_told_numbers, .inl (cJ, 8, .inr (.inl f_this_told_numbers)))] H := hP
    have hD : va_D A [cl_X9 h_this h_this_now h_this_kept h_this_told h_this_text h_this_script h_this_momentReader h_this_spanReader h_this_adder h_this_other h_this_trial h_this_ways i_this, cl_X4 h_this_now h_this_now_day h_this_now_second h_this_now_months h_this_now_days h_this_now_seconds, (h_this_now_months, .inl (cI, 8, .inl f_this_now_months)), (h_this_now_days, .inl (cI, 8, .inl f_this_now_days)), (h_this_now_seconds, .inl (cI, 8, .inl f_this_now_seconds)), cl_X3 h_this_told h_this_told_numbers i_this_told, (h_this_told_numbers, .inl (cJ, 8, .inr (.inl f_this_told_numbers)))] := hD
    refine lv_i2l hx hb dX9_sum_42 rfl ?_
    refine lv_ladd hx hb dX9_sum_43 ?_
    refine lv_aload_n hx hb dX9_sum_44 rfl (lv_at hl 0 rfl) ?_
    refine va_get (D := (dC, dI)) (ci := 8) (v := .ref h_this_now) (C := RX9) (T := TX9) (N := 12) hx hb hts inX9 hown hK hP 0 rfl rfl 0 (by decide) (hts _ (kq q_226 rfl)) (fun _ h9 => h9) rfl dX9_sum_45 ?_
    refine lv_iload_n hx hb dX9_sum_48 rfl (lv_at hl 1 rfl) ?_
    obtain ⟨r14, hc15, h⟩ := bd1_at h
    refine kjI (kV (own := "DateSpans") (C := "DateSpans$Slots") (b := h_this_now) (As := [.int p1]) (rest := [.long (r10.toInt64 + r12.toInt64), .int p3, .ref h_this]) ⟨hx, hb, hml, hown, hts⟩ (kX4_daysAt l dC dI cI cJ cB h_this_now h_this_now_day h_this_now_second h_this_now_months h_this_now_days h_this_now_seconds N p1 f_this_now_days r14 hc15 _) (kgV (kq q_336 rfl) (kq q_337 rfl) (kq q_338 rfl) (kq q_19 rfl) (kq q_339 rfl)) yd_X4_daysAt ⟨Nat.le_of_ble_eq_true rfl, Nat.le_of_ble_eq_true rfl⟩ hN hK hP hD [1, 3] rfl rfl (ci := 3) rfl rfl rfl rfl rfl hl.1 rfl (lv_room (Nat.le_of_ble_eq_true rfl)) dX9_sum_49) hP hD hS hA [1, 3] rfl rfl (fun H locs hP hD hS => ?_)
    have hP : va_P (dC, dI) vwCl [cl_X9 h_this h_this_now h_this_kept h_this_told h_this_text h_this_script h_this_momentReader h_this_spanReader h_this_adder h_this_other h_this_trial h_this_ways i_this, cl_X4 h_this_now h_this_now_day h_this_now_second h_this_now_months h_this_now_days h_this_now_seconds, (h_this_now_months, .inl (cI, 8, .inl f_this_now_months)), (h_this_now_days, .inl (cI, 8, .inl f_this_now_days)), (h_this_now_seconds, .inl (cI, 8, .inl f_this_now_seconds)), cl_X3 h_this_told h_this_told_numbers i_this_told, (h_this_told_numbers, .inl (cJ, 8, .inr (.inl f_this_told_numbers)))] H := hP
    have hD : va_D A [cl_X9 h_this h_this_now h_this_kept h_this_told h_this_text h_this_script h_this_momentReader h_this_spanReader h_this_adder h_this_other h_this_trial h_this_ways i_this, cl_X4 h_this_now h_this_now_day h_this_now_second h_this_now_months h_this_now_days h_this_now_seconds, (h_this_now_months, .inl (cI, 8, .inl f_this_now_months)), (h_this_now_days, .inl (cI, 8, .inl f_this_now_days)), (h_this_now_seconds, .inl (cI, 8, .inl f_this_now_seconds)), cl_X3 h_this_told h_this_told_numbers i_this_told, (h_this_told_numbers, .inl (cJ, 8, .inr (.inl f_this_told_numbers)))] := hD
    refine lv_i2l hx hb dX9_sum_52 rfl ?_
    refine lv_aload_n hx hb dX9_sum_53 rfl (lv_at hl 0 rfl) ?_
    refine va_get (D := (dC, dI)) (ci := 8) (v := .ref h_this_now) (C := RX9) (T := TX9) (N := 12) hx hb hts inX9 hown hK hP 0 rfl rfl 0 (by decide) (hts _ (kq q_226 rfl)) (fun _ h9 => h9) rfl dX9_sum_54 ?_
    refine lv_iload_n hx hb dX9_sum_57 rfl (lv_at hl 2 rfl) ?_
    obtain ⟨r16, hc17, h⟩ := bd1_at h
    refine kjI (kV (own := "DateSpans") (C := "DateSpans$Slots") (b := h_this_now) (As := [.int p2]) (rest := [.long r14.toInt64, .long (r10.toInt64 + r12.toInt64), .int p3, .ref h_this]) ⟨hx, hb, hml, hown, hts⟩ (kX4_daysAt l dC dI cI cJ cB h_this_now h_this_now_day h_this_now_second h_this_now_months h_this_now_days h_this_now_seconds N p2 f_this_now_days r16 hc17 _) (kgV (kq q_336 rfl) (kq q_337 rfl) (kq q_338 rfl) (kq q_19 rfl) (kq q_339 rfl)) yd_X4_daysAt ⟨Nat.le_of_ble_eq_true rfl, Nat.le_of_ble_eq_true rfl⟩ hN hK hP hD [1, 3] rfl rfl (ci := 3) rfl rfl rfl rfl rfl hl.1 rfl (lv_room (Nat.le_of_ble_eq_true rfl)) dX9_sum_58) hP hD hS hA [1, 3] rfl rfl (fun H locs hP hD hS => ?_)
    have hP : va_P (dC, dI) vwCl [cl_X9 h_this h_this_now h_this_kept h_this_told h_this_text h_this_script h_this_momentReader h_this_spanReader h_this_adder h_this_other h_this_trial h_this_ways i_this, cl_X4 h_this_now h_this_now_day h_this_now_second h_this_now_months h_this_now_days h_this_now_seconds, (h_this_now_months, .inl (cI, 8, .inl f_this_now_months)), (h_this_now_days, .inl (cI, 8, .inl f_this_now_days)), (h_this_now_seconds, .inl (cI, 8, .inl f_this_now_seconds)), cl_X3 h_this_told h_this_told_numbers i_this_told, (h_this_told_numbers, .inl (cJ, 8, .inr (.inl f_this_told_numbers)))] H := hP
    have hD : va_D A [cl_X9 h_this h_this_now h_this_kept h_this_told h_this_text h_this_script h_this_momentReader h_this_spanReader h_this_adder h_this_other h_this_trial h_this_ways i_this, cl_X4 h_this_now h_this_now_day h_this_now_second h_this_now_months h_this_now_days h_this_now_seconds, (h_this_now_months, .inl (cI, 8, .inl f_this_now_months)), (h_this_now_days, .inl (cI, 8, .inl f_this_now_days)), (h_this_now_seconds, .inl (cI, 8, .inl f_this_now_seconds)), cl_X3 h_this_told h_this_told_numbers i_this_told, (h_this_told_numbers, .inl (cJ, 8, .inr (.inl f_this_told_numbers)))] := hD
    refine lv_i2l hx hb dX9_sum_61 rfl ?_
    refine lv_ladd hx hb dX9_sum_62 ?_
    refine lv_aload_n hx hb dX9_sum_63 rfl (lv_at hl 0 rfl) ?_
    refine va_get (D := (dC, dI)) (ci := 8) (v := .ref h_this_now) (C := RX9) (T := TX9) (N := 12) hx hb hts inX9 hown hK hP 0 rfl rfl 0 (by decide) (hts _ (kq q_226 rfl)) (fun _ h9 => h9) rfl dX9_sum_64 ?_
    refine lv_iload_n hx hb dX9_sum_67 rfl (lv_at hl 1 rfl) ?_
    obtain ⟨r18, hc19, h⟩ := bd1_at h
    refine kjI (kV (own := "DateSpans") (C := "DateSpans$Slots") (b := h_this_now) (As := [.int p1]) (rest := [.long (r14.toInt64 + r16.toInt64), .long (r10.toInt64 + r12.toInt64), .int p3, .ref h_this]) ⟨hx, hb, hml, hown, hts⟩ (kX4_secondsAt l dC dI cI cJ cB h_this_now h_this_now_day h_this_now_second h_this_now_months h_this_now_days h_this_now_seconds N p1 f_this_now_seconds r18 hc19 _) (kgV (kq q_340 rfl) (kq q_341 rfl) (kq q_342 rfl) (kq q_19 rfl) (kq q_343 rfl)) yd_X4_secondsAt ⟨Nat.le_of_ble_eq_true rfl, Nat.le_of_ble_eq_true rfl⟩ hN hK hP hD [1, 4] rfl rfl (ci := 3) rfl rfl rfl rfl rfl hl.1 rfl (lv_room (Nat.le_of_ble_eq_true rfl)) dX9_sum_68) hP hD hS hA [1, 4] rfl rfl (fun H locs hP hD hS => ?_)
    have hP : va_P (dC, dI) vwCl [cl_X9 h_this h_this_now h_this_kept h_this_told h_this_text h_this_script h_this_momentReader h_this_spanReader h_this_adder h_this_other h_this_trial h_this_ways i_this, cl_X4 h_this_now h_this_now_day h_this_now_second h_this_now_months h_this_now_days h_this_now_seconds, (h_this_now_months, .inl (cI, 8, .inl f_this_now_months)), (h_this_now_days, .inl (cI, 8, .inl f_this_now_days)), (h_this_now_seconds, .inl (cI, 8, .inl f_this_now_seconds)), cl_X3 h_this_told h_this_told_numbers i_this_told, (h_this_told_numbers, .inl (cJ, 8, .inr (.inl f_this_told_numbers)))] H := hP
    have hD : va_D A [cl_X9 h_this h_this_now h_this_kept h_this_told h_this_text h_this_script h_this_momentReader h_this_spanReader h_this_adder h_this_other h_this_trial h_this_ways i_this, cl_X4 h_this_now h_this_now_day h_this_now_second h_this_now_months h_this_now_days h_this_now_seconds, (h_this_now_months, .inl (cI, 8, .inl f_this_now_months)), (h_this_now_days, .inl (cI, 8, .inl f_this_now_days)), (h_this_now_seconds, .inl (cI, 8, .inl f_this_now_seconds)), cl_X3 h_this_told h_this_told_numbers i_this_told, (h_this_told_numbers, .inl (cJ, 8, .inr (.inl f_this_told_numbers)))] := hD
    refine lv_i2l hx hb dX9_sum_71 rfl ?_
    refine lv_aload_n hx hb dX9_sum_72 rfl (lv_at hl 0 rfl) ?_
    refine va_get (D := (dC, dI)) (ci := 8) (v := .ref h_this_now) (C := RX9) (T := TX9) (N := 12) hx hb hts inX9 hown hK hP 0 rfl rfl 0 (by decide) (hts _ (kq q_226 rfl)) (fun _ h9 => h9) rfl dX9_sum_73 ?_
    refine lv_iload_n hx hb dX9_sum_76 rfl (lv_at hl 2 rfl) ?_
    obtain ⟨r20, hc21, h⟩ := bd1_at h
    refine kjI (kV (own := "DateSpans") (C := "DateSpans$Slots") (b := h_this_now) (As := [.int p2]) (rest := [.long r18.toInt64, .long (r14.toInt64 + r16.toInt64), .long (r10.toInt64 + r12.toInt64), .int p3, .ref h_this]) ⟨hx, hb, hml, hown, hts⟩ (kX4_secondsAt l dC dI cI cJ cB h_this_now h_this_now_day h_this_now_second h_this_now_months h_this_now_days h_this_now_seconds N p2 f_this_now_seconds r20 hc21 _) (kgV (kq q_340 rfl) (kq q_341 rfl) (kq q_342 rfl) (kq q_19 rfl) (kq q_343 rfl)) yd_X4_secondsAt ⟨Nat.le_of_ble_eq_true rfl, Nat.le_of_ble_eq_true rfl⟩ hN hK hP hD [1, 4] rfl rfl (ci := 3) rfl rfl rfl rfl rfl hl.1 rfl (lv_room (Nat.le_of_ble_eq_true rfl)) dX9_sum_77) hP hD hS hA [1, 4] rfl rfl (fun H locs hP hD hS => ?_)
    have hP : va_P (dC, dI) vwCl [cl_X9 h_this h_this_now h_this_kept h_this_told h_this_text h_this_script h_this_momentReader h_this_spanReader h_this_adder h_this_other h_this_trial h_this_ways i_this, cl_X4 h_this_now h_this_now_day h_this_now_second h_this_now_months h_this_now_days h_this_now_seconds, (h_this_now_months, .inl (cI, 8, .inl f_this_now_months)), (h_this_now_days, .inl (cI, 8, .inl f_this_now_days)), (h_this_now_seconds, .inl (cI, 8, .inl f_this_now_seconds)), cl_X3 h_this_told h_this_told_numbers i_this_told, (h_this_told_numbers, .inl (cJ, 8, .inr (.inl f_this_told_numbers)))] H := hP
    have hD : va_D A [cl_X9 h_this h_this_now h_this_kept h_this_told h_this_text h_this_script h_this_momentReader h_this_spanReader h_this_adder h_this_other h_this_trial h_this_ways i_this, cl_X4 h_this_now h_this_now_day h_this_now_second h_this_now_months h_this_now_days h_this_now_seconds, (h_this_now_months, .inl (cI, 8, .inl f_this_now_months)), (h_this_now_days, .inl (cI, 8, .inl f_this_now_days)), (h_this_now_seconds, .inl (cI, 8, .inl f_this_now_seconds)), cl_X3 h_this_told h_this_told_numbers i_this_told, (h_this_told_numbers, .inl (cJ, 8, .inr (.inl f_this_told_numbers)))] := hD
    refine lv_i2l hx hb dX9_sum_80 rfl ?_
    refine lv_ladd hx hb dX9_sum_81 ?_
    obtain ⟨r22, f_this_now_months_23, f_this_now_days_24, f_this_now_seconds_25, i_this_told_26, f_this_told_numbers_27, hc28, h⟩ := bd6_at h
    refine kjI (kV (own := "DateSpans") (C := "DateSpans") (b := h_this) (As := [.int p3, .long (r10.toInt64 + r12.toInt64), .long (r14.toInt64 + r16.toInt64), .long (r18.toInt64 + r20.toInt64)]) (rest := []) ⟨hx, hb, hml, hown, hts⟩ (kX9_comesToSpan l dC dI cI cJ cB h_this h_this_now h_this_kept h_this_told h_this_text h_this_script h_this_momentReader h_this_spanReader h_this_adder h_this_other h_this_trial h_this_ways h_this_now_day h_this_now_second h_this_now_months h_this_now_days h_this_now_seconds h_this_told_numbers N p3 (r10.toInt64 + r12.toInt64) (r14.toInt64 + r16.toInt64) (r18.toInt64 + r20.toInt64) i_this f_this_now_months f_this_now_days f_this_now_seconds i_this_told f_this_told_numbers r22 f_this_now_months_23 f_this_now_days_24 f_this_now_seconds_25 i_this_told_26 f_this_told_numbers_27 hc28 _) (kgV (kq q_461 rfl) (kq q_463 rfl) (kq q_5 rfl) (kq q_18 rfl) (kq q_464 rfl)) yd_X9_comesToSpan ⟨Nat.le_of_ble_eq_true rfl, Nat.le_of_ble_eq_true rfl⟩ hN hK hP hD [0, 1, 2, 3, 4, 5, 6] rfl rfl (ci := 8) rfl rfl rfl rfl rfl hl.1 rfl (lv_room (Nat.le_of_ble_eq_true rfl)) dX9_sum_82) hP hD hS hA [0, 1, 2, 3, 4, 5, 6] rfl rfl (fun H locs hP hD hS => ?_)
    have hP : va_P (dC, dI) vwCl [cl_X9 h_this h_this_now h_this_kept h_this_told h_this_text h_this_script h_this_momentReader h_this_spanReader h_this_adder h_this_other h_this_trial h_this_ways i_this, cl_X4 h_this_now h_this_now_day h_this_now_second h_this_now_months h_this_now_days h_this_now_seconds, (h_this_now_months, .inl (cI, 8, .inl f_this_now_months_23)), (h_this_now_days, .inl (cI, 8, .inl f_this_now_days_24)), (h_this_now_seconds, .inl (cI, 8, .inl f_this_now_seconds_25)), cl_X3 h_this_told h_this_told_numbers i_this_told_26, (h_this_told_numbers, .inl (cJ, 8, .inr (.inl f_this_told_numbers_27)))] H := hP
    have hD : va_D A [cl_X9 h_this h_this_now h_this_kept h_this_told h_this_text h_this_script h_this_momentReader h_this_spanReader h_this_adder h_this_other h_this_trial h_this_ways i_this, cl_X4 h_this_now h_this_now_day h_this_now_second h_this_now_months h_this_now_days h_this_now_seconds, (h_this_now_months, .inl (cI, 8, .inl f_this_now_months_23)), (h_this_now_days, .inl (cI, 8, .inl f_this_now_days_24)), (h_this_now_seconds, .inl (cI, 8, .inl f_this_now_seconds_25)), cl_X3 h_this_told h_this_told_numbers i_this_told_26, (h_this_told_numbers, .inl (cJ, 8, .inr (.inl f_this_told_numbers_27)))] := hD
    obtain ⟨rfl, rfl, rfl, rfl, rfl, rfl⟩ := pj6 h
    exact hEnd _ _ _ _ hP hS dX9_sum_85 rfl
  have h := ite_t c9 h
  refine lv_iconst (v := (-1 : Int32)) hx hb dX9_sum_21 (by decide) ?_
  obtain ⟨rfl, rfl, rfl, rfl, rfl, rfl⟩ := pj6 h
  exact hEnd _ _ _ _ hP hS dX9_sum_22 rfl
noncomputable def fX9_mult (N : Nat) (p1 : Int32) (p2 : Int32) (p3 : Int32) (i_this : Int32) (f_this_now_months : Nat → Int32) (f_this_now_days : Nat → Int32) (f_this_now_seconds : Nat → Int32) (i_this_told : Int32) (f_this_told_numbers : Nat → Int64) : Option (Int32 × (Nat → Int32) × (Nat → Int32) × (Nat → Int32) × Int32 × (Nat → Int64)) := (bd1 (fX9_isSlot N p1) fun r1 => (if r1 = (0 : Int32) then (some ((-1 : Int32), f_this_now_months, f_this_now_days, f_this_now_seconds, i_this_told, f_this_told_numbers)) else (bd1 (fX9_isSlot N p3) fun r4 => (if r4 = (0 : Int32) then (some ((-1 : Int32), f_this_now_months, f_this_now_days, f_this_now_seconds, i_this_told, f_this_told_numbers)) else (bd1 (fX4_monthsAt N p1 f_this_now_months) fun r7 => (bd1 (fX4_daysAt N p1 f_this_now_days) fun r9 => (bd1 (fX4_secondsAt N p1 f_this_now_seconds) fun r11 => (bd6 (fX9_comesToSpan N p3 (r7.toInt64 * p2.toInt64) (r9.toInt64 * p2.toInt64) (r11.toInt64 * p2.toInt64) i_this f_this_now_months f_this_now_days f_this_now_seconds i_this_told f_this_told_numbers) fun r13 f_this_now_months_14 f_this_now_days_15 f_this_now_seconds_16 i_this_told_17 f_this_told_numbers_18 => (some (r13, f_this_now_months_14, f_this_now_days_15, f_this_now_seconds_16, i_this_told_17, f_this_told_numbers_18))))))))))
set_option maxHeartbeats 4000000 in
set_option maxRecDepth 100000 in
theorem kX9_mult (l : Launch) (dC : Nat → ClassId) (dI : Nat → Nat → Nat) (cI cJ cB : ClassId) (h_this h_this_now h_this_kept h_this_told h_this_text h_this_script h_this_momentReader h_this_spanReader h_this_adder h_this_other h_this_trial h_this_ways h_this_now_day h_this_now_second h_this_now_months h_this_now_days h_this_now_seconds h_this_told_numbers : Nat) (N : Nat) (p1 : Int32) (p2 : Int32) (p3 : Int32) (i_this : Int32) (f_this_now_months : Nat → Int32) (f_this_now_days : Nat → Int32) (f_this_now_seconds : Nat → Int32) (i_this_told : Int32) (f_this_told_numbers : Nat → Int64) (r : Int32) (o_f_this_now_months : Nat → Int32) (o_f_this_now_days : Nat → Int32) (o_f_this_now_seconds : Nat → Int32) (o_i_this_told : Int32) (o_f_this_told_numbers : Nat → Int64) (hf : fX9_mult N p1 p2 p3 i_this f_this_now_months f_this_now_days f_this_now_seconds i_this_told f_this_told_numbers = some (r, o_f_this_now_months, o_f_this_now_days, o_f_this_now_seconds, o_i_this_told, o_f_this_told_numbers)) : MI l yX9_mult (kws yX9_mult cX9_mult 4 (some .int)) (kR 5 121) (dC, dI) (kT cI cJ cB) [.ref h_this, .int p1, .int p2, .int p3] [cl_X9 h_this h_this_now h_this_kept h_this_told h_this_text h_this_script h_this_momentReader h_this_spanReader h_this_adder h_this_other h_this_trial h_this_ways i_this, cl_X4 h_this_now h_this_now_day h_this_now_second h_this_now_months h_this_now_days h_this_now_seconds, (h_this_now_months, .inl (cI, 8, .inl f_this_now_months)), (h_this_now_days, .inl (cI, 8, .inl f_this_now_days)), (h_this_now_seconds, .inl (cI, 8, .inl f_this_now_seconds)), cl_X3 h_this_told h_this_told_numbers i_this_told, (h_this_told_numbers, .inl (cJ, 8, .inr (.inl f_this_told_numbers)))] [cl_X9 h_this h_this_now h_this_kept h_this_told h_this_text h_this_script h_this_momentReader h_this_spanReader h_this_adder h_this_other h_this_trial h_this_ways i_this, cl_X4 h_this_now h_this_now_day h_this_now_second h_this_now_months h_this_now_days h_this_now_seconds, (h_this_now_months, .inl (cI, 8, .inl o_f_this_now_months)), (h_this_now_days, .inl (cI, 8, .inl o_f_this_now_days)), (h_this_now_seconds, .inl (cI, 8, .inl o_f_this_now_seconds)), cl_X3 h_this_told h_this_told_numbers o_i_this_told, (h_this_told_numbers, .inl (cJ, 8, .inr (.inl o_f_this_told_numbers)))] r := by
  refine MI.of (cc := cX9_mult) (maxL := 4) (by decide) (Nat.le_of_ble_eq_true rfl) (fun p e s m args below meth c A Q ls KC hN hK hP hD hA hl hEnd => ?_)
  obtain ⟨hx, hb, hml, hown, hts⟩ := KC
  have hown : s.vm.findClass "DateSpans" = some m.cls := hown
  have hl : lv_has ls 4 [(0, .ref h_this), (1, .int p1), (2, .int p2), (3, .int p3)] := hl
  have hS : va_S A s.heap s.heap [] := va_S.rf
  have h := hf
  unfold fX9_mult at h
  refine lv_iload_n hx hb dX9_mult_0 rfl (lv_at hl 1 rfl) ?_
  obtain ⟨r1, hc2, h⟩ := bd1_at h
  refine kjSI (kS0 (own := "DateSpans") (As := [.int p1]) (rest := []) ⟨hx, hb, hml, hown, hts⟩ (kX9_isSlot l N p1 r1 hc2) (kgS (kq q_267 rfl) (kq q_268 rfl) (kq q_18 rfl) (kq q_269 rfl)) yd_X9_isSlot ⟨Nat.le_of_ble_eq_true rfl, Nat.le_of_ble_eq_true rfl⟩ rfl rfl hl.1 rfl (lv_room (Nat.le_of_ble_eq_true rfl)) dX9_mult_1) ?_
  refine lv_if_eq (tgt := 14) hx hb dX9_mult_4 (by decide) (fun c3 => ?_) (fun c3 => ?_)
  · have h := ite_t c3 h
    refine lv_iconst (v := (-1 : Int32)) hx hb dX9_mult_14 (by decide) ?_
    obtain ⟨rfl, rfl, rfl, rfl, rfl, rfl⟩ := pj6 h
    exact hEnd _ _ _ _ hP hS dX9_mult_15 rfl
  have h := ite_f c3 h
  refine lv_iload_n hx hb dX9_mult_7 rfl (lv_at hl 3 rfl) ?_
  obtain ⟨r4, hc5, h⟩ := bd1_at h
  refine kjSI (kS0 (own := "DateSpans") (As := [.int p3]) (rest := []) ⟨hx, hb, hml, hown, hts⟩ (kX9_isSlot l N p3 r4 hc5) (kgS (kq q_267 rfl) (kq q_268 rfl) (kq q_18 rfl) (kq q_269 rfl)) yd_X9_isSlot ⟨Nat.le_of_ble_eq_true rfl, Nat.le_of_ble_eq_true rfl⟩ rfl rfl hl.1 rfl (lv_room (Nat.le_of_ble_eq_true rfl)) dX9_mult_8) ?_
  refine lv_if_ne (tgt := 16) hx hb dX9_mult_11 (by decide) (fun c6 => ?_) (fun c6 => ?_)
  · have h := ite_f c6 h
    refine lv_aload_n hx hb dX9_mult_16 rfl (lv_at hl 0 rfl) ?_
    refine lv_iload_n hx hb dX9_mult_17 rfl (lv_at hl 3 rfl) ?_
    refine lv_aload_n hx hb dX9_mult_18 rfl (lv_at hl 0 rfl) ?_
    refine va_get (D := (dC, dI)) (ci := 8) (v := .ref h_this_now) (C := RX9) (T := TX9) (N := 12) hx hb hts inX9 hown hK hP 0 rfl rfl 0 (by decide) (hts _ (kq q_226 rfl)) (fun _ h9 => h9) rfl dX9_mult_19 ?_
    refine lv_iload_n hx hb dX9_mult_22 rfl (lv_at hl 1 rfl) ?_
    obtain ⟨r7, hc8, h⟩ := bd1_at h
    refine kjI (kV (own := "DateSpans") (C := "DateSpans$Slots") (b := h_this_now) (As := [.int p1]) (rest := [.int p3, .ref h_this]) ⟨hx, hb, hml, hown, hts⟩ (kX4_monthsAt l dC dI cI cJ cB h_this_now h_this_now_day h_this_now_second h_this_now_months h_this_now_days h_this_now_seconds N p1 f_this_now_months r7 hc8 _) (kgV (kq q_332 rfl) (kq q_333 rfl) (kq q_334 rfl) (kq q_19 rfl) (kq q_335 rfl)) yd_X4_monthsAt ⟨Nat.le_of_ble_eq_true rfl, Nat.le_of_ble_eq_true rfl⟩ hN hK hP hD [1, 2] rfl rfl (ci := 3) rfl rfl rfl rfl rfl hl.1 rfl (lv_room (Nat.le_of_ble_eq_true rfl)) dX9_mult_23) hP hD hS hA [1, 2] rfl rfl (fun H locs hP hD hS => ?_)
    have hP : va_P (dC, dI) vwCl [cl_X9 h_this h_this_now h_this_kept h_this_told h_this_text h_this_script h_this_momentReader h_this_spanReader h_this_adder h_this_other h_this_trial h_this_ways i_this, cl_X4 h_this_now h_this_now_day h_this_now_second h_this_now_months h_this_now_days h_this_now_seconds, (h_this_now_months, .inl (cI, 8, .inl f_this_now_months)), (h_this_now_days, .inl (cI, 8, .inl f_this_now_days)), (h_this_now_seconds, .inl (cI, 8, .inl f_this_now_seconds)), cl_X3 h_this_told h_this_told_numbers i_this_told, (h_this_told_numbers, .inl (cJ, 8, .inr (.inl f_this_told_numbers)))] H := hP
    have hD : va_D A [cl_X9 h_this h_this_now h_this_kept h_this_told h_this_text h_this_script h_this_momentReader h_this_spanReader h_this_adder h_this_other h_this_trial h_this_ways i_this, cl_X4 h_this_now h_this_now_day h_this_now_second h_this_now_months h_this_now_days h_this_now_seconds, (h_this_now_months, .inl (cI, 8, .inl f_this_now_months)), (h_this_now_days, .inl (cI, 8, .inl f_this_now_days)), (h_this_now_seconds, .inl (cI, 8, .inl f_this_now_seconds)), cl_X3 h_this_told h_this_told_numbers i_this_told, (h_this_told_numbers, .inl (cJ, 8, .inr (.inl f_this_told_numbers)))] := hD
    refine lv_i2l hx hb dX9_mult_26 rfl ?_
    refine lv_iload_n hx hb dX9_mult_27 rfl (lv_at hl 2 rfl) ?_
    refine lv_i2l hx hb dX9_mult_28 rfl ?_
    refine lv_lmul hx hb dX9_mult_29 ?_
    refine lv_aload_n hx hb dX9_mult_30 rfl (lv_at hl 0 rfl) ?_
    refine va_get (D := (dC, dI)) (ci := 8) (v := .ref h_this_now) (C := RX9) (T := TX9) (N := 12) hx hb hts inX9 hown hK hP 0 rfl rfl 0 (by decide) (hts _ (kq q_226 rfl)) (fun _ h9 => h9) rfl dX9_mult_31 ?_
    refine lv_iload_n hx hb dX9_mult_34 rfl (lv_at hl 1 rfl) ?_
    obtain ⟨r9, hc10, h⟩ := bd1_at h
    refine kjI (kV (own := "DateSpans") (C := "DateSpans$Slots") (b := h_this_now) (As := [.int p1]) (rest := [.long (r7.toInt64 * p2.toInt64), .int p3, .ref h_this]) ⟨hx, hb, hml, hown, hts⟩ (kX4_daysAt l dC dI cI cJ cB h_this_now h_this_now_day h_this_now_second h_this_now_months h_this_now_days h_this_now_seconds N p1 f_this_now_days r9 hc10 _) (kgV (kq q_336 rfl) (kq q_337 rfl) (kq q_338 rfl) (kq q_19 rfl) (kq q_339 rfl)) yd_X4_daysAt ⟨Nat.le_of_ble_eq_true rfl, Nat.le_of_ble_eq_true rfl⟩ hN hK hP hD [1, 3] rfl rfl (ci := 3) rfl rfl rfl rfl rfl hl.1 rfl (lv_room (Nat.le_of_ble_eq_true rfl)) dX9_mult_35) hP hD hS hA [1, 3] rfl rfl (fun H locs hP hD hS => ?_)
    have hP : va_P (dC, dI) vwCl [cl_X9 h_this h_this_now h_this_kept h_this_told h_this_text h_this_script h_this_momentReader h_this_spanReader h_this_adder h_this_other h_this_trial h_this_ways i_this, cl_X4 h_this_now h_this_now_day h_this_now_second h_this_now_months h_this_now_days h_this_now_seconds, (h_this_now_months, .inl (cI, 8, .inl f_this_now_months)), (h_this_now_days, .inl (cI, 8, .inl f_this_now_days)), (h_this_now_seconds, .inl (cI, 8, .inl f_this_now_seconds)), cl_X3 h_this_told h_this_told_numbers i_this_told, (h_this_told_numbers, .inl (cJ, 8, .inr (.inl f_this_told_numbers)))] H := hP
    have hD : va_D A [cl_X9 h_this h_this_now h_this_kept h_this_told h_this_text h_this_script h_this_momentReader h_this_spanReader h_this_adder h_this_other h_this_trial h_this_ways i_this, cl_X4 h_this_now h_this_now_day h_this_now_second h_this_now_months h_this_now_days h_this_now_seconds, (h_this_now_months, .inl (cI, 8, .inl f_this_now_months)), (h_this_now_days, .inl (cI, 8, .inl f_this_now_days)), (h_this_now_seconds, .inl (cI, 8, .inl f_this_now_seconds)), cl_X3 h_this_told h_this_told_numbers i_this_told, (h_this_told_numbers, .inl (cJ, 8, .inr (.inl f_this_told_numbers)))] := hD
    refine lv_i2l hx hb dX9_mult_38 rfl ?_
    refine lv_iload_n hx hb dX9_mult_39 rfl (lv_at hl 2 rfl) ?_
    refine lv_i2l hx hb dX9_mult_40 rfl ?_
    refine lv_lmul hx hb dX9_mult_41 ?_
    refine lv_aload_n hx hb dX9_mult_42 rfl (lv_at hl 0 rfl) ?_
    refine va_get (D := (dC, dI)) (ci := 8) (v := .ref h_this_now) (C := RX9) (T := TX9) (N := 12) hx hb hts inX9 hown hK hP 0 rfl rfl 0 (by decide) (hts _ (kq q_226 rfl)) (fun _ h9 => h9) rfl dX9_mult_43 ?_
    refine lv_iload_n hx hb dX9_mult_46 rfl (lv_at hl 1 rfl) ?_
    obtain ⟨r11, hc12, h⟩ := bd1_at h
    refine kjI (kV (own := "DateSpans") (C := "DateSpans$Slots") (b := h_this_now) (As := [.int p1]) (rest := [.long (r9.toInt64 * p2.toInt64), .long (r7.toInt64 * p2.toInt64), .int p3, .ref h_this]) ⟨hx, hb, hml, hown, hts⟩ (kX4_secondsAt l dC dI cI cJ cB h_this_now h_this_now_day h_this_now_second h_this_now_months h_this_now_days h_this_now_seconds N p1 f_this_now_seconds r11 hc12 _) (kgV (kq q_340 rfl) (kq q_341 rfl) (kq q_342 rfl) (kq q_19 rfl) (kq q_343 rfl)) yd_X4_secondsAt ⟨Nat.le_of_ble_eq_true rfl, Nat.le_of_ble_eq_true rfl⟩ hN hK hP hD [1, 4] rfl rfl (ci := 3) rfl rfl rfl rfl rfl hl.1 rfl (lv_room (Nat.le_of_ble_eq_true rfl)) dX9_mult_47) hP hD hS hA [1, 4] rfl rfl (fun H locs hP hD hS => ?_)
    have hP : va_P (dC, dI) vwCl [cl_X9 h_this h_this_now h_this_kept h_this_told h_this_text h_this_script h_this_momentReader h_this_spanReader h_this_adder h_this_other h_this_trial h_this_ways i_this, cl_X4 h_this_now h_this_now_day h_this_now_second h_this_now_months h_this_now_days h_this_now_seconds, (h_this_now_months, .inl (cI, 8, .inl f_this_now_months)), (h_this_now_days, .inl (cI, 8, .inl f_this_now_days)), (h_this_now_seconds, .inl (cI, 8, .inl f_this_now_seconds)), cl_X3 h_this_told h_this_told_numbers i_this_told, (h_this_told_numbers, .inl (cJ, 8, .inr (.inl f_this_told_numbers)))] H := hP
    have hD : va_D A [cl_X9 h_this h_this_now h_this_kept h_this_told h_this_text h_this_script h_this_momentReader h_this_spanReader h_this_adder h_this_other h_this_trial h_this_ways i_this, cl_X4 h_this_now h_this_now_day h_this_now_second h_this_now_months h_this_now_days h_this_now_seconds, (h_this_now_months, .inl (cI, 8, .inl f_this_now_months)), (h_this_now_days, .inl (cI, 8, .inl f_this_now_days)), (h_this_now_seconds, .inl (cI, 8, .inl f_this_now_seconds)), cl_X3 h_this_told h_this_told_numbers i_this_told, (h_this_told_numbers, .inl (cJ, 8, .inr (.inl f_this_told_numbers)))] := hD
    refine lv_i2l hx hb dX9_mult_50 rfl ?_
    refine lv_iload_n hx hb dX9_mult_51 rfl (lv_at hl 2 rfl) ?_
    refine lv_i2l hx hb dX9_mult_52 rfl ?_
    refine lv_lmul hx hb dX9_mult_53 ?_
    obtain ⟨r13, f_this_now_months_14, f_this_now_days_15, f_this_now_seconds_16, i_this_told_17, f_this_told_numbers_18, hc19, h⟩ := bd6_at h
    refine kjI (kV (own := "DateSpans") (C := "DateSpans") (b := h_this) (As := [.int p3, .long (r7.toInt64 * p2.toInt64), .long (r9.toInt64 * p2.toInt64), .long (r11.toInt64 * p2.toInt64)]) (rest := []) ⟨hx, hb, hml, hown, hts⟩ (kX9_comesToSpan l dC dI cI cJ cB h_this h_this_now h_this_kept h_this_told h_this_text h_this_script h_this_momentReader h_this_spanReader h_this_adder h_this_other h_this_trial h_this_ways h_this_now_day h_this_now_second h_this_now_months h_this_now_days h_this_now_seconds h_this_told_numbers N p3 (r7.toInt64 * p2.toInt64) (r9.toInt64 * p2.toInt64) (r11.toInt64 * p2.toInt64) i_this f_this_now_months f_this_now_days f_this_now_seconds i_this_told f_this_told_numbers r13 f_this_now_months_14 f_this_now_days_15 f_this_now_seconds_16 i_this_told_17 f_this_told_numbers_18 hc19 _) (kgV (kq q_461 rfl) (kq q_463 rfl) (kq q_5 rfl) (kq q_18 rfl) (kq q_464 rfl)) yd_X9_comesToSpan ⟨Nat.le_of_ble_eq_true rfl, Nat.le_of_ble_eq_true rfl⟩ hN hK hP hD [0, 1, 2, 3, 4, 5, 6] rfl rfl (ci := 8) rfl rfl rfl rfl rfl hl.1 rfl (lv_room (Nat.le_of_ble_eq_true rfl)) dX9_mult_54) hP hD hS hA [0, 1, 2, 3, 4, 5, 6] rfl rfl (fun H locs hP hD hS => ?_)
    have hP : va_P (dC, dI) vwCl [cl_X9 h_this h_this_now h_this_kept h_this_told h_this_text h_this_script h_this_momentReader h_this_spanReader h_this_adder h_this_other h_this_trial h_this_ways i_this, cl_X4 h_this_now h_this_now_day h_this_now_second h_this_now_months h_this_now_days h_this_now_seconds, (h_this_now_months, .inl (cI, 8, .inl f_this_now_months_14)), (h_this_now_days, .inl (cI, 8, .inl f_this_now_days_15)), (h_this_now_seconds, .inl (cI, 8, .inl f_this_now_seconds_16)), cl_X3 h_this_told h_this_told_numbers i_this_told_17, (h_this_told_numbers, .inl (cJ, 8, .inr (.inl f_this_told_numbers_18)))] H := hP
    have hD : va_D A [cl_X9 h_this h_this_now h_this_kept h_this_told h_this_text h_this_script h_this_momentReader h_this_spanReader h_this_adder h_this_other h_this_trial h_this_ways i_this, cl_X4 h_this_now h_this_now_day h_this_now_second h_this_now_months h_this_now_days h_this_now_seconds, (h_this_now_months, .inl (cI, 8, .inl f_this_now_months_14)), (h_this_now_days, .inl (cI, 8, .inl f_this_now_days_15)), (h_this_now_seconds, .inl (cI, 8, .inl f_this_now_seconds_16)), cl_X3 h_this_told h_this_told_numbers i_this_told_17, (h_this_told_numbers, .inl (cJ, 8, .inr (.inl f_this_told_numbers_18)))] := hD
    obtain ⟨rfl, rfl, rfl, rfl, rfl, rfl⟩ := pj6 h
    exact hEnd _ _ _ _ hP hS dX9_mult_57 rfl
  have h := ite_t c6 h
  refine lv_iconst (v := (-1 : Int32)) hx hb dX9_mult_14 (by decide) ?_
  obtain ⟨rfl, rfl, rfl, rfl, rfl, rfl⟩ := pj6 h
  exact hEnd _ _ _ _ hP hS dX9_mult_15 rfl
noncomputable def fX9_turn (N : Nat) (p1 : Int32) (p2 : Int32) (i_this : Int32) (f_this_now_months : Nat → Int32) (f_this_now_days : Nat → Int32) (f_this_now_seconds : Nat → Int32) (i_this_told : Int32) (f_this_told_numbers : Nat → Int64) : Option (Int32 × (Nat → Int32) × (Nat → Int32) × (Nat → Int32) × Int32 × (Nat → Int64)) := (bd6 (fX9_mult N p1 (-1 : Int32) p2 i_this f_this_now_months f_this_now_days f_this_now_seconds i_this_told f_this_told_numbers) fun r1 f_this_now_months_2 f_this_now_days_3 f_this_now_seconds_4 i_this_told_5 f_this_told_numbers_6 => (some (r1, f_this_now_months_2, f_this_now_days_3, f_this_now_seconds_4, i_this_told_5, f_this_told_numbers_6)))
set_option maxHeartbeats 4000000 in
set_option maxRecDepth 100000 in
theorem kX9_turn (l : Launch) (dC : Nat → ClassId) (dI : Nat → Nat → Nat) (cI cJ cB : ClassId) (h_this h_this_now h_this_kept h_this_told h_this_text h_this_script h_this_momentReader h_this_spanReader h_this_adder h_this_other h_this_trial h_this_ways h_this_now_day h_this_now_second h_this_now_months h_this_now_days h_this_now_seconds h_this_told_numbers : Nat) (N : Nat) (p1 : Int32) (p2 : Int32) (i_this : Int32) (f_this_now_months : Nat → Int32) (f_this_now_days : Nat → Int32) (f_this_now_seconds : Nat → Int32) (i_this_told : Int32) (f_this_told_numbers : Nat → Int64) (r : Int32) (o_f_this_now_months : Nat → Int32) (o_f_this_now_days : Nat → Int32) (o_f_this_now_seconds : Nat → Int32) (o_i_this_told : Int32) (o_f_this_told_numbers : Nat → Int64) (hf : fX9_turn N p1 p2 i_this f_this_now_months f_this_now_days f_this_now_seconds i_this_told f_this_told_numbers = some (r, o_f_this_now_months, o_f_this_now_days, o_f_this_now_seconds, o_i_this_told, o_f_this_told_numbers)) : MI l yX9_turn (kws yX9_turn cX9_turn 3 (some .int)) (kR 6 144) (dC, dI) (kT cI cJ cB) [.ref h_this, .int p1, .int p2] [cl_X9 h_this h_this_now h_this_kept h_this_told h_this_text h_this_script h_this_momentReader h_this_spanReader h_this_adder h_this_other h_this_trial h_this_ways i_this, cl_X4 h_this_now h_this_now_day h_this_now_second h_this_now_months h_this_now_days h_this_now_seconds, (h_this_now_months, .inl (cI, 8, .inl f_this_now_months)), (h_this_now_days, .inl (cI, 8, .inl f_this_now_days)), (h_this_now_seconds, .inl (cI, 8, .inl f_this_now_seconds)), cl_X3 h_this_told h_this_told_numbers i_this_told, (h_this_told_numbers, .inl (cJ, 8, .inr (.inl f_this_told_numbers)))] [cl_X9 h_this h_this_now h_this_kept h_this_told h_this_text h_this_script h_this_momentReader h_this_spanReader h_this_adder h_this_other h_this_trial h_this_ways i_this, cl_X4 h_this_now h_this_now_day h_this_now_second h_this_now_months h_this_now_days h_this_now_seconds, (h_this_now_months, .inl (cI, 8, .inl o_f_this_now_months)), (h_this_now_days, .inl (cI, 8, .inl o_f_this_now_days)), (h_this_now_seconds, .inl (cI, 8, .inl o_f_this_now_seconds)), cl_X3 h_this_told h_this_told_numbers o_i_this_told, (h_this_told_numbers, .inl (cJ, 8, .inr (.inl o_f_this_told_numbers)))] r := by
  refine MI.of (cc := cX9_turn) (maxL := 3) (by decide) (Nat.le_of_ble_eq_true rfl) (fun p e s m args below meth c A Q ls KC hN hK hP hD hA hl hEnd => ?_)
  obtain ⟨hx, hb, hml, hown, hts⟩ := KC
  have hown : s.vm.findClass "DateSpans" = some m.cls := hown
  have hl : lv_has ls 3 [(0, .ref h_this), (1, .int p1), (2, .int p2)] := hl
  have hS : va_S A s.heap s.heap [] := va_S.rf
  have h := hf
  unfold fX9_turn at h
  refine lv_aload_n hx hb dX9_turn_0 rfl (lv_at hl 0 rfl) ?_
  refine lv_iload_n hx hb dX9_turn_1 rfl (lv_at hl 1 rfl) ?_
  refine lv_iconst (v := (-1 : Int32)) hx hb dX9_turn_2 (by decide) ?_
  refine lv_iload_n hx hb dX9_turn_3 rfl (lv_at hl 2 rfl) ?_
  obtain ⟨r1, f_this_now_months_2, f_this_now_days_3, f_this_now_seconds_4, i_this_told_5, f_this_told_numbers_6, hc7, h⟩ := bd6_at h
  refine kjI (kV (own := "DateSpans") (C := "DateSpans") (b := h_this) (As := [.int p1, .int (-1 : Int32), .int p2]) (rest := []) ⟨hx, hb, hml, hown, hts⟩ (kX9_mult l dC dI cI cJ cB h_this h_this_now h_this_kept h_this_told h_this_text h_this_script h_this_momentReader h_this_spanReader h_this_adder h_this_other h_this_trial h_this_ways h_this_now_day h_this_now_second h_this_now_months h_this_now_days h_this_now_seconds h_this_told_numbers N p1 (-1 : Int32) p2 i_this f_this_now_months f_this_now_days f_this_now_seconds i_this_told f_this_told_numbers r1 f_this_now_months_2 f_this_now_days_3 f_this_now_seconds_4 i_this_told_5 f_this_told_numbers_6 hc7 _) (kgV (kq q_805 rfl) (kq q_806 rfl) (kq q_807 rfl) (kq q_18 rfl) (kq q_808 rfl)) yd_X9_mult ⟨Nat.le_of_ble_eq_true rfl, Nat.le_of_ble_eq_true rfl⟩ hN hK hP hD [0, 1, 2, 3, 4, 5, 6] rfl rfl (ci := 8) rfl rfl rfl rfl rfl hl.1 rfl (lv_room (Nat.le_of_ble_eq_true rfl)) dX9_turn_4) hP hD hS hA [0, 1, 2, 3, 4, 5, 6] rfl rfl (fun H locs hP hD hS => ?_)
  have hP : va_P (dC, dI) vwCl [cl_X9 h_this h_this_now h_this_kept h_this_told h_this_text h_this_script h_this_momentReader h_this_spanReader h_this_adder h_this_other h_this_trial h_this_ways i_this, cl_X4 h_this_now h_this_now_day h_this_now_second h_this_now_months h_this_now_days h_this_now_seconds, (h_this_now_months, .inl (cI, 8, .inl f_this_now_months_2)), (h_this_now_days, .inl (cI, 8, .inl f_this_now_days_3)), (h_this_now_seconds, .inl (cI, 8, .inl f_this_now_seconds_4)), cl_X3 h_this_told h_this_told_numbers i_this_told_5, (h_this_told_numbers, .inl (cJ, 8, .inr (.inl f_this_told_numbers_6)))] H := hP
  have hD : va_D A [cl_X9 h_this h_this_now h_this_kept h_this_told h_this_text h_this_script h_this_momentReader h_this_spanReader h_this_adder h_this_other h_this_trial h_this_ways i_this, cl_X4 h_this_now h_this_now_day h_this_now_second h_this_now_months h_this_now_days h_this_now_seconds, (h_this_now_months, .inl (cI, 8, .inl f_this_now_months_2)), (h_this_now_days, .inl (cI, 8, .inl f_this_now_days_3)), (h_this_now_seconds, .inl (cI, 8, .inl f_this_now_seconds_4)), cl_X3 h_this_told h_this_told_numbers i_this_told_5, (h_this_told_numbers, .inl (cJ, 8, .inr (.inl f_this_told_numbers_6)))] := hD
  obtain ⟨rfl, rfl, rfl, rfl, rfl, rfl⟩ := pj6 h
  exact hEnd _ _ _ _ hP hS dX9_turn_7 rfl
noncomputable def fX9_even (N : Nat) (p1 : Int32) (p2 : Int32) (i_this : Int32) (f_this_now_months : Nat → Int32) (f_this_now_days : Nat → Int32) (f_this_now_seconds : Nat → Int32) (i_this_told : Int32) (f_this_told_numbers : Nat → Int64) : Option (Int32 × (Nat → Int32) × (Nat → Int32) × (Nat → Int32) × Int32 × (Nat → Int64)) := (bd1 (fX9_isSlot N p1) fun r1 => (if r1 = (0 : Int32) then (some ((-1 : Int32), f_this_now_months, f_this_now_days, f_this_now_seconds, i_this_told, f_this_told_numbers)) else (bd1 (fX9_isSlot N p2) fun r4 => (if r4 = (0 : Int32) then (some ((-1 : Int32), f_this_now_months, f_this_now_days, f_this_now_seconds, i_this_told, f_this_told_numbers)) else (bd1 (fX4_secondsAt N p1 f_this_now_seconds) fun r7 => (bd1 (fX4_monthsAt N p1 f_this_now_months) fun r9 => (bd1 (fX4_daysAt N p1 f_this_now_days) fun r11 => (bd6 (fX9_comesToSpan N p2 r9.toInt64 (r11.toInt64 + (r7 / (86400 : Int32)).toInt64) ((r7 - r7 / (86400 : Int32) * (86400 : Int32)).toInt64) i_this f_this_now_months f_this_now_days f_this_now_seconds i_this_told f_this_told_numbers) fun r13 f_this_now_months_14 f_this_now_days_15 f_this_now_seconds_16 i_this_told_17 f_this_told_numbers_18 => (some (r13, f_this_now_months_14, f_this_now_days_15, f_this_now_seconds_16, i_this_told_17, f_this_told_numbers_18))))))))))
set_option maxHeartbeats 4000000 in
set_option maxRecDepth 100000 in
theorem kX9_even (l : Launch) (dC : Nat → ClassId) (dI : Nat → Nat → Nat) (cI cJ cB : ClassId) (h_this h_this_now h_this_kept h_this_told h_this_text h_this_script h_this_momentReader h_this_spanReader h_this_adder h_this_other h_this_trial h_this_ways h_this_now_day h_this_now_second h_this_now_months h_this_now_days h_this_now_seconds h_this_told_numbers : Nat) (N : Nat) (p1 : Int32) (p2 : Int32) (i_this : Int32) (f_this_now_months : Nat → Int32) (f_this_now_days : Nat → Int32) (f_this_now_seconds : Nat → Int32) (i_this_told : Int32) (f_this_told_numbers : Nat → Int64) (r : Int32) (o_f_this_now_months : Nat → Int32) (o_f_this_now_days : Nat → Int32) (o_f_this_now_seconds : Nat → Int32) (o_i_this_told : Int32) (o_f_this_told_numbers : Nat → Int64) (hf : fX9_even N p1 p2 i_this f_this_now_months f_this_now_days f_this_now_seconds i_this_told f_this_told_numbers = some (r, o_f_this_now_months, o_f_this_now_days, o_f_this_now_seconds, o_i_this_told, o_f_this_told_numbers)) : MI l yX9_even (kws yX9_even cX9_even 4 (some .int)) (kR 5 121) (dC, dI) (kT cI cJ cB) [.ref h_this, .int p1, .int p2] [cl_X9 h_this h_this_now h_this_kept h_this_told h_this_text h_this_script h_this_momentReader h_this_spanReader h_this_adder h_this_other h_this_trial h_this_ways i_this, cl_X4 h_this_now h_this_now_day h_this_now_second h_this_now_months h_this_now_days h_this_now_seconds, (h_this_now_months, .inl (cI, 8, .inl f_this_now_months)), (h_this_now_days, .inl (cI, 8, .inl f_this_now_days)), (h_this_now_seconds, .inl (cI, 8, .inl f_this_now_seconds)), cl_X3 h_this_told h_this_told_numbers i_this_told, (h_this_told_numbers, .inl (cJ, 8, .inr (.inl f_this_told_numbers)))] [cl_X9 h_this h_this_now h_this_kept h_this_told h_this_text h_this_script h_this_momentReader h_this_spanReader h_this_adder h_this_other h_this_trial h_this_ways i_this, cl_X4 h_this_now h_this_now_day h_this_now_second h_this_now_months h_this_now_days h_this_now_seconds, (h_this_now_months, .inl (cI, 8, .inl o_f_this_now_months)), (h_this_now_days, .inl (cI, 8, .inl o_f_this_now_days)), (h_this_now_seconds, .inl (cI, 8, .inl o_f_this_now_seconds)), cl_X3 h_this_told h_this_told_numbers o_i_this_told, (h_this_told_numbers, .inl (cJ, 8, .inr (.inl o_f_this_told_numbers)))] r := by
  refine MI.of (cc := cX9_even) (maxL := 4) (by decide) (Nat.le_of_ble_eq_true rfl) (fun p e s m args below meth c A Q ls KC hN hK hP hD hA hl hEnd => ?_)
  obtain ⟨hx, hb, hml, hown, hts⟩ := KC
  have hown : s.vm.findClass "DateSpans" = some m.cls := hown
  have hl : lv_has ls 4 [(0, .ref h_this), (1, .int p1), (2, .int p2)] := hl
  have hS : va_S A s.heap s.heap [] := va_S.rf
  have h := hf
  unfold fX9_even at h
  refine lv_iload_n hx hb dX9_even_0 rfl (lv_at hl 1 rfl) ?_
  obtain ⟨r1, hc2, h⟩ := bd1_at h
  refine kjSI (kS0 (own := "DateSpans") (As := [.int p1]) (rest := []) ⟨hx, hb, hml, hown, hts⟩ (kX9_isSlot l N p1 r1 hc2) (kgS (kq q_267 rfl) (kq q_268 rfl) (kq q_18 rfl) (kq q_269 rfl)) yd_X9_isSlot ⟨Nat.le_of_ble_eq_true rfl, Nat.le_of_ble_eq_true rfl⟩ rfl rfl hl.1 rfl (lv_room (Nat.le_of_ble_eq_true rfl)) dX9_even_1) ?_
  refine lv_if_eq (tgt := 14) hx hb dX9_even_4 (by decide) (fun c3 => ?_) (fun c3 => ?_)
  · have h := ite_t c3 h
    refine lv_iconst (v := (-1 : Int32)) hx hb dX9_even_14 (by decide) ?_
    obtain ⟨rfl, rfl, rfl, rfl, rfl, rfl⟩ := pj6 h
    exact hEnd _ _ _ _ hP hS dX9_even_15 rfl
  have h := ite_f c3 h
  refine lv_iload_n hx hb dX9_even_7 rfl (lv_at hl 2 rfl) ?_
  obtain ⟨r4, hc5, h⟩ := bd1_at h
  refine kjSI (kS0 (own := "DateSpans") (As := [.int p2]) (rest := []) ⟨hx, hb, hml, hown, hts⟩ (kX9_isSlot l N p2 r4 hc5) (kgS (kq q_267 rfl) (kq q_268 rfl) (kq q_18 rfl) (kq q_269 rfl)) yd_X9_isSlot ⟨Nat.le_of_ble_eq_true rfl, Nat.le_of_ble_eq_true rfl⟩ rfl rfl hl.1 rfl (lv_room (Nat.le_of_ble_eq_true rfl)) dX9_even_8) ?_
  refine lv_if_ne (tgt := 16) hx hb dX9_even_11 (by decide) (fun c6 => ?_) (fun c6 => ?_)
  · have h := ite_f c6 h
    refine lv_aload_n hx hb dX9_even_16 rfl (lv_at hl 0 rfl) ?_
    refine va_get (D := (dC, dI)) (ci := 8) (v := .ref h_this_now) (C := RX9) (T := TX9) (N := 12) hx hb hts inX9 hown hK hP 0 rfl rfl 0 (by decide) (hts _ (kq q_226 rfl)) (fun _ h9 => h9) rfl dX9_even_17 ?_
    refine lv_iload_n hx hb dX9_even_20 rfl (lv_at hl 1 rfl) ?_
    obtain ⟨r7, hc8, h⟩ := bd1_at h
    refine kjI (kV (own := "DateSpans") (C := "DateSpans$Slots") (b := h_this_now) (As := [.int p1]) (rest := []) ⟨hx, hb, hml, hown, hts⟩ (kX4_secondsAt l dC dI cI cJ cB h_this_now h_this_now_day h_this_now_second h_this_now_months h_this_now_days h_this_now_seconds N p1 f_this_now_seconds r7 hc8 _) (kgV (kq q_340 rfl) (kq q_341 rfl) (kq q_342 rfl) (kq q_19 rfl) (kq q_343 rfl)) yd_X4_secondsAt ⟨Nat.le_of_ble_eq_true rfl, Nat.le_of_ble_eq_true rfl⟩ hN hK hP hD [1, 4] rfl rfl (ci := 3) rfl rfl rfl rfl rfl hl.1 rfl (lv_room (Nat.le_of_ble_eq_true rfl)) dX9_even_21) hP hD hS hA [1, 4] rfl rfl (fun H locs hP hD hS => ?_)
    have hP : va_P (dC, dI) vwCl [cl_X9 h_this h_this_now h_this_kept h_this_told h_this_text h_this_script h_this_momentReader h_this_spanReader h_this_adder h_this_other h_this_trial h_this_ways i_this, cl_X4 h_this_now h_this_now_day h_this_now_second h_this_now_months h_this_now_days h_this_now_seconds, (h_this_now_months, .inl (cI, 8, .inl f_this_now_months)), (h_this_now_days, .inl (cI, 8, .inl f_this_now_days)), (h_this_now_seconds, .inl (cI, 8, .inl f_this_now_seconds)), cl_X3 h_this_told h_this_told_numbers i_this_told, (h_this_told_numbers, .inl (cJ, 8, .inr (.inl f_this_told_numbers)))] H := hP
    have hD : va_D A [cl_X9 h_this h_this_now h_this_kept h_this_told h_this_text h_this_script h_this_momentReader h_this_spanReader h_this_adder h_this_other h_this_trial h_this_ways i_this, cl_X4 h_this_now h_this_now_day h_this_now_second h_this_now_months h_this_now_days h_this_now_seconds, (h_this_now_months, .inl (cI, 8, .inl f_this_now_months)), (h_this_now_days, .inl (cI, 8, .inl f_this_now_days)), (h_this_now_seconds, .inl (cI, 8, .inl f_this_now_seconds)), cl_X3 h_this_told h_this_told_numbers i_this_told, (h_this_told_numbers, .inl (cJ, 8, .inr (.inl f_this_told_numbers)))] := hD
    refine lv_istore_n (lv' := [(3, .int r7), (0, .ref h_this), (1, .int p1), (2, .int p2)]) hx hb dX9_even_24 rfl hl (by decide) rfl (fun ls hl => ?_)
    refine lv_aload_n hx hb dX9_even_25 rfl (lv_at hl 1 rfl) ?_
    refine lv_iload_n hx hb dX9_even_26 rfl (lv_at hl 3 rfl) ?_
    refine lv_aload_n hx hb dX9_even_27 rfl (lv_at hl 1 rfl) ?_
    refine va_get (D := (dC, dI)) (ci := 8) (v := .ref h_this_now) (C := RX9) (T := TX9) (N := 12) hx hb hts inX9 hown hK hP 0 rfl rfl 0 (by decide) (hts _ (kq q_226 rfl)) (fun _ h9 => h9) rfl dX9_even_28 ?_
    refine lv_iload_n hx hb dX9_even_31 rfl (lv_at hl 2 rfl) ?_
    obtain ⟨r9, hc10, h⟩ := bd1_at h
    refine kjI (kV (own := "DateSpans") (C := "DateSpans$Slots") (b := h_this_now) (As := [.int p1]) (rest := [.int p2, .ref h_this]) ⟨hx, hb, hml, hown, hts⟩ (kX4_monthsAt l dC dI cI cJ cB h_this_now h_this_now_day h_this_now_second h_this_now_months h_this_now_days h_this_now_seconds N p1 f_this_now_months r9 hc10 _) (kgV (kq q_332 rfl) (kq q_333 rfl) (kq q_334 rfl) (kq q_19 rfl) (kq q_335 rfl)) yd_X4_monthsAt ⟨Nat.le_of_ble_eq_true rfl, Nat.le_of_ble_eq_true rfl⟩ hN hK hP hD [1, 2] rfl rfl (ci := 3) rfl rfl rfl rfl rfl hl.1 rfl (lv_room (Nat.le_of_ble_eq_true rfl)) dX9_even_32) hP hD hS hA [1, 2] rfl rfl (fun H locs hP hD hS => ?_)
    have hP : va_P (dC, dI) vwCl [cl_X9 h_this h_this_now h_this_kept h_this_told h_this_text h_this_script h_this_momentReader h_this_spanReader h_this_adder h_this_other h_this_trial h_this_ways i_this, cl_X4 h_this_now h_this_now_day h_this_now_second h_this_now_months h_this_now_days h_this_now_seconds, (h_this_now_months, .inl (cI, 8, .inl f_this_now_months)), (h_this_now_days, .inl (cI, 8, .inl f_this_now_days)), (h_this_now_seconds, .inl (cI, 8, .inl f_this_now_seconds)), cl_X3 h_this_told h_this_told_numbers i_this_told, (h_this_told_numbers, .inl (cJ, 8, .inr (.inl f_this_told_numbers)))] H := hP
    have hD : va_D A [cl_X9 h_this h_this_now h_this_kept h_this_told h_this_text h_this_script h_this_momentReader h_this_spanReader h_this_adder h_this_other h_this_trial h_this_ways i_this, cl_X4 h_this_now h_this_now_day h_this_now_second h_this_now_months h_this_now_days h_this_now_seconds, (h_this_now_months, .inl (cI, 8, .inl f_this_now_months)), (h_this_now_days, .inl (cI, 8, .inl f_this_now_days)), (h_this_now_seconds, .inl (cI, 8, .inl f_this_now_seconds)), cl_X3 h_this_told h_this_told_numbers i_this_told, (h_this_told_numbers, .inl (cJ, 8, .inr (.inl f_this_told_numbers)))] := hD
    refine lv_i2l hx hb dX9_even_35 rfl ?_
    refine lv_aload_n hx hb dX9_even_36 rfl (lv_at hl 1 rfl) ?_
    refine va_get (D := (dC, dI)) (ci := 8) (v := .ref h_this_now) (C := RX9) (T := TX9) (N := 12) hx hb hts inX9 hown hK hP 0 rfl rfl 0 (by decide) (hts _ (kq q_226 rfl)) (fun _ h9 => h9) rfl dX9_even_37 ?_
    refine lv_iload_n hx hb dX9_even_40 rfl (lv_at hl 2 rfl) ?_
    obtain ⟨r11, hc12, h⟩ := bd1_at h
    refine kjI (kV (own := "DateSpans") (C := "DateSpans$Slots") (b := h_this_now) (As := [.int p1]) (rest := [.long r9.toInt64, .int p2, .ref h_this]) ⟨hx, hb, hml, hown, hts⟩ (kX4_daysAt l dC dI cI cJ cB h_this_now h_this_now_day h_this_now_second h_this_now_months h_this_now_days h_this_now_seconds N p1 f_this_now_days r11 hc12 _) (kgV (kq q_336 rfl) (kq q_337 rfl) (kq q_338 rfl) (kq q_19 rfl) (kq q_339 rfl)) yd_X4_daysAt ⟨Nat.le_of_ble_eq_true rfl, Nat.le_of_ble_eq_true rfl⟩ hN hK hP hD [1, 3] rfl rfl (ci := 3) rfl rfl rfl rfl rfl hl.1 rfl (lv_room (Nat.le_of_ble_eq_true rfl)) dX9_even_41) hP hD hS hA [1, 3] rfl rfl (fun H locs hP hD hS => ?_)
    have hP : va_P (dC, dI) vwCl [cl_X9 h_this h_this_now h_this_kept h_this_told h_this_text h_this_script h_this_momentReader h_this_spanReader h_this_adder h_this_other h_this_trial h_this_ways i_this, cl_X4 h_this_now h_this_now_day h_this_now_second h_this_now_months h_this_now_days h_this_now_seconds, (h_this_now_months, .inl (cI, 8, .inl f_this_now_months)), (h_this_now_days, .inl (cI, 8, .inl f_this_now_days)), (h_this_now_seconds, .inl (cI, 8, .inl f_this_now_seconds)), cl_X3 h_this_told h_this_told_numbers i_this_told, (h_this_told_numbers, .inl (cJ, 8, .inr (.inl f_this_told_numbers)))] H := hP
    have hD : va_D A [cl_X9 h_this h_this_now h_this_kept h_this_told h_this_text h_this_script h_this_momentReader h_this_spanReader h_this_adder h_this_other h_this_trial h_this_ways i_this, cl_X4 h_this_now h_this_now_day h_this_now_second h_this_now_months h_this_now_days h_this_now_seconds, (h_this_now_months, .inl (cI, 8, .inl f_this_now_months)), (h_this_now_days, .inl (cI, 8, .inl f_this_now_days)), (h_this_now_seconds, .inl (cI, 8, .inl f_this_now_seconds)), cl_X3 h_this_told h_this_told_numbers i_this_told, (h_this_told_numbers, .inl (cJ, 8, .inr (.inl f_this_told_numbers)))] := hD
    refine lv_i2l hx hb dX9_even_44 rfl ?_
    refine lv_iload_n hx hb dX9_even_45 rfl (lv_at hl 0 rfl) ?_
    refine lv_ldc (v := (86400 : Int32)) hx hb hown (hts _ (kq q_274 rfl)) dX9_even_46 ?_
    refine lv_idiv hx hb dX9_even_48 (by decide) ?_
    refine lv_i2l hx hb dX9_even_49 rfl ?_
    refine lv_ladd hx hb dX9_even_50 ?_
    refine lv_iload_n hx hb dX9_even_51 rfl (lv_at hl 0 rfl) ?_
    refine lv_ldc (v := (86400 : Int32)) hx hb hown (hts _ (kq q_274 rfl)) dX9_even_52 ?_
    refine lv_irem hx hb dX9_even_54 (by decide) ?_
    refine lv_i2l hx hb dX9_even_55 rfl ?_
    obtain ⟨r13, f_this_now_months_14, f_this_now_days_15, f_this_now_seconds_16, i_this_told_17, f_this_told_numbers_18, hc19, h⟩ := bd6_at h
    refine kjI (kV (own := "DateSpans") (C := "DateSpans") (b := h_this) (As := [.int p2, .long r9.toInt64, .long (r11.toInt64 + (r7 / (86400 : Int32)).toInt64), .long ((r7 - r7 / (86400 : Int32) * (86400 : Int32)).toInt64)]) (rest := []) ⟨hx, hb, hml, hown, hts⟩ (kX9_comesToSpan l dC dI cI cJ cB h_this h_this_now h_this_kept h_this_told h_this_text h_this_script h_this_momentReader h_this_spanReader h_this_adder h_this_other h_this_trial h_this_ways h_this_now_day h_this_now_second h_this_now_months h_this_now_days h_this_now_seconds h_this_told_numbers N p2 r9.toInt64 (r11.toInt64 + (r7 / (86400 : Int32)).toInt64) ((r7 - r7 / (86400 : Int32) * (86400 : Int32)).toInt64) i_this f_this_now_months f_this_now_days f_this_now_seconds i_this_told f_this_told_numbers r13 f_this_now_months_14 f_this_now_days_15 f_this_now_seconds_16 i_this_told_17 f_this_told_numbers_18 hc19 _) (kgV (kq q_461 rfl) (kq q_463 rfl) (kq q_5 rfl) (kq q_18 rfl) (kq q_464 rfl)) yd_X9_comesToSpan ⟨Nat.le_of_ble_eq_true rfl, Nat.le_of_ble_eq_true rfl⟩ hN hK hP hD [0, 1, 2, 3, 4, 5, 6] rfl rfl (ci := 8) rfl rfl rfl rfl rfl hl.1 rfl (lv_room (Nat.le_of_ble_eq_true rfl)) dX9_even_56) hP hD hS hA [0, 1, 2, 3, 4, 5, 6] rfl rfl (fun H locs hP hD hS => ?_)
    have hP : va_P (dC, dI) vwCl [cl_X9 h_this h_this_now h_this_kept h_this_told h_this_text h_this_script h_this_momentReader h_this_spanReader h_this_adder h_this_other h_this_trial h_this_ways i_this, cl_X4 h_this_now h_this_now_day h_this_now_second h_this_now_months h_this_now_days h_this_now_seconds, (h_this_now_months, .inl (cI, 8, .inl f_this_now_months_14)), (h_this_now_days, .inl (cI, 8, .inl f_this_now_days_15)), (h_this_now_seconds, .inl (cI, 8, .inl f_this_now_seconds_16)), cl_X3 h_this_told h_this_told_numbers i_this_told_17, (h_this_told_numbers, .inl (cJ, 8, .inr (.inl f_this_told_numbers_18)))] H := hP
    have hD : va_D A [cl_X9 h_this h_this_now h_this_kept h_this_told h_this_text h_this_script h_this_momentReader h_this_spanReader h_this_adder h_this_other h_this_trial h_this_ways i_this, cl_X4 h_this_now h_this_now_day h_this_now_second h_this_now_months h_this_now_days h_this_now_seconds, (h_this_now_months, .inl (cI, 8, .inl f_this_now_months_14)), (h_this_now_days, .inl (cI, 8, .inl f_this_now_days_15)), (h_this_now_seconds, .inl (cI, 8, .inl f_this_now_seconds_16)), cl_X3 h_this_told h_this_told_numbers i_this_told_17, (h_this_told_numbers, .inl (cJ, 8, .inr (.inl f_this_told_numbers_18)))] := hD
    obtain ⟨rfl, rfl, rfl, rfl, rfl, rfl⟩ := pj6 h
    exact hEnd _ _ _ _ hP hS dX9_even_59 rfl
  have h := ite_t c6 h
  refine lv_iconst (v := (-1 : Int32)) hx hb dX9_even_14 (by decide) ?_
  obtain ⟨rfl, rfl, rfl, rfl, rfl, rfl⟩ := pj6 h
  exact hEnd _ _ _ _ hP hS dX9_even_15 rfl
noncomputable def fX4_instantAt (N : Nat) (p1 : Int32) (f_this_day : Nat → Int32) (f_this_second : Nat → Int32) : Option (Int64) := (bd1 (fX4_dayAt N p1 f_this_day) fun r1 => (bd1 (fX4_secondAt N p1 f_this_second) fun r3 => (bd1 (fX9_instantOf N r1 r3) fun r5 => (some r5))))
set_option maxHeartbeats 4000000 in
set_option maxRecDepth 100000 in
theorem kX4_instantAt (l : Launch) (dC : Nat → ClassId) (dI : Nat → Nat → Nat) (cI cJ cB : ClassId) (h_this h_this_day h_this_second h_this_months h_this_days h_this_seconds : Nat) (N : Nat) (p1 : Int32) (f_this_day : Nat → Int32) (f_this_second : Nat → Int32) (r : Int64) (hf : fX4_instantAt N p1 f_this_day f_this_second = some r) : ML l yX4_instantAt (kws yX4_instantAt cX4_instantAt 2 (some .long)) (kR 2 41) (dC, dI) (kT cI cJ cB) [.ref h_this, .int p1] [cl_X4 h_this h_this_day h_this_second h_this_months h_this_days h_this_seconds, (h_this_day, .inl (cI, 8, .inl f_this_day)), (h_this_second, .inl (cI, 8, .inl f_this_second))] [cl_X4 h_this h_this_day h_this_second h_this_months h_this_days h_this_seconds, (h_this_day, .inl (cI, 8, .inl f_this_day)), (h_this_second, .inl (cI, 8, .inl f_this_second))] r := by
  refine ML.of (cc := cX4_instantAt) (maxL := 2) (by decide) (Nat.le_of_ble_eq_true rfl) (fun p e s m args below meth c A Q ls KC hN hK hP hD hA hl hEnd => ?_)
  obtain ⟨hx, hb, hml, hown, hts⟩ := KC
  have hown : s.vm.findClass "DateSpans$Slots" = some m.cls := hown
  have hl : lv_has ls 2 [(0, .ref h_this), (1, .int p1)] := hl
  have hS : va_S A s.heap s.heap [] := va_S.rf
  have h := hf
  unfold fX4_instantAt at h
  refine lv_aload_n hx hb dX4_instantAt_0 rfl (lv_at hl 0 rfl) ?_
  refine lv_iload_n hx hb dX4_instantAt_1 rfl (lv_at hl 1 rfl) ?_
  obtain ⟨r1, hc2, h⟩ := bd1_at h
  refine kjI (kV (own := "DateSpans$Slots") (C := "DateSpans$Slots") (b := h_this) (As := [.int p1]) (rest := []) ⟨hx, hb, hml, hown, hts⟩ (kX4_dayAt l dC dI cI cJ cB h_this h_this_day h_this_second h_this_months h_this_days h_this_seconds N p1 f_this_day r1 hc2 _) (kgV (kq q_447 rfl) (kq q_276 rfl) (kq q_277 rfl) (kq q_19 rfl) (kq q_278 rfl)) yd_X4_dayAt ⟨Nat.le_of_ble_eq_true rfl, Nat.le_of_ble_eq_true rfl⟩ hN hK hP hD [0, 1] rfl rfl (ci := 3) rfl rfl rfl rfl rfl hl.1 rfl (lv_room (Nat.le_of_ble_eq_true rfl)) dX4_instantAt_2) hP hD hS hA [0, 1] rfl rfl (fun H locs hP hD hS => ?_)
  have hP : va_P (dC, dI) vwCl [cl_X4 h_this h_this_day h_this_second h_this_months h_this_days h_this_seconds, (h_this_day, .inl (cI, 8, .inl f_this_day)), (h_this_second, .inl (cI, 8, .inl f_this_second))] H := hP
  have hD : va_D A [cl_X4 h_this h_this_day h_this_second h_this_months h_this_days h_this_seconds, (h_this_day, .inl (cI, 8, .inl f_this_day)), (h_this_second, .inl (cI, 8, .inl f_this_second))] := hD
  refine lv_aload_n hx hb dX4_instantAt_5 rfl (lv_at hl 0 rfl) ?_
  refine lv_iload_n hx hb dX4_instantAt_6 rfl (lv_at hl 1 rfl) ?_
  obtain ⟨r3, hc4, h⟩ := bd1_at h
  refine kjI (kV (own := "DateSpans$Slots") (C := "DateSpans$Slots") (b := h_this) (As := [.int p1]) (rest := [.int r1]) ⟨hx, hb, hml, hown, hts⟩ (kX4_secondAt l dC dI cI cJ cB h_this h_this_day h_this_second h_this_months h_this_days h_this_seconds N p1 f_this_second r3 hc4 _) (kgV (kq q_448 rfl) (kq q_311 rfl) (kq q_312 rfl) (kq q_19 rfl) (kq q_313 rfl)) yd_X4_secondAt ⟨Nat.le_of_ble_eq_true rfl, Nat.le_of_ble_eq_true rfl⟩ hN hK hP hD [0, 2] rfl rfl (ci := 3) rfl rfl rfl rfl rfl hl.1 rfl (lv_room (Nat.le_of_ble_eq_true rfl)) dX4_instantAt_7) hP hD hS hA [0, 2] rfl rfl (fun H locs hP hD hS => ?_)
  have hP : va_P (dC, dI) vwCl [cl_X4 h_this h_this_day h_this_second h_this_months h_this_days h_this_seconds, (h_this_day, .inl (cI, 8, .inl f_this_day)), (h_this_second, .inl (cI, 8, .inl f_this_second))] H := hP
  have hD : va_D A [cl_X4 h_this h_this_day h_this_second h_this_months h_this_days h_this_seconds, (h_this_day, .inl (cI, 8, .inl f_this_day)), (h_this_second, .inl (cI, 8, .inl f_this_second))] := hD
  obtain ⟨r5, hc6, h⟩ := bd1_at h
  refine kjSL (kSN0 (own := "DateSpans$Slots") (As := [.int r1, .int r3]) (rest := []) ⟨hx, hb, hml, hown, hts⟩ (kX9_instantOf l N r1 r3 r5 hc6) (kgN (kq q_413 rfl)) (hN _ q_449 rfl) (kq q_412 rfl) (kq q_18 rfl) yd_X9_instantOf ⟨Nat.le_of_ble_eq_true rfl, Nat.le_of_ble_eq_true rfl⟩ rfl rfl hl.1 rfl (lv_room (Nat.le_of_ble_eq_true rfl)) dX4_instantAt_10) ?_
  obtain rfl := pj1 h
  exact hEnd _ _ _ _ hP hS dX4_instantAt_13
noncomputable def fX9_mostMonths_j67 (N : Nat) (i_this : Int32) (K_46 : Int32 → Int32 → Int64 → Int32 → Int32 → Int32 → Int32 → (Nat → Int32) → Option (Int32 × (Nat → Int32))) (v1 : Int32) (v2 : Int32) (v3 : Int64) (v5 : Int32) (v6 : Int32) (v7 : Int32) (v10 : Int32) (i_this_adder : Nat → Int32) : Option (Int32 × (Nat → Int32)) := (bd1 (fX0_takesNumbers N (v7 * v10) (0 : Int32) (0 : Int32) v5 i_this_adder) fun i_this_adder_1 => (bd2 (fX0_leads N v1 v2 (0 : Int32) i_this_adder_1) fun r3 i_this_adder_4 => (if r3 = (0 : Int32) then (nm (v10 + (-1 : Int32)) fun z7 => (K_46 v1 v2 v3 v5 v6 v7 z7 i_this_adder_4)) else (bd1 (fX0_instant N i_this_adder_4) fun r8 => (if (lg_cmp (v7.toInt64 * (v3 - r8)) (0 : Int64)) < (0 : Int32) then (nm (v10 + (-1 : Int32)) fun z11 => (K_46 v1 v2 v3 v5 v6 v7 z11 i_this_adder_4)) else (some ((v7 * v10), i_this_adder_4)))))))
noncomputable def fX9_mostMonths_l46 (N : Nat) (i_this : Int32) (n : Nat) : Int32 → Int32 → Int64 → Int32 → Int32 → Int32 → Int32 → (Nat → Int32) → Option (Int32 × (Nat → Int32)) := Nat.rec (motive := fun _ => Int32 → Int32 → Int64 → Int32 → Int32 → Int32 → Int32 → (Nat → Int32) → Option (Int32 × (Nat → Int32))) (fun _ _ _ _ _ _ _ _ => none) (fun _ K_46 v1 v2 v3 v5 v6 v7 v10 i_this_adder => (if v10 ≤ (0 : Int32) then (some ((0 : Int32), i_this_adder)) else (if v6 = (0 : Int32) then (fX9_mostMonths_j67 N i_this K_46 v1 v2 v3 v5 v6 v7 v10 i_this_adder) else (if (v10 - v10 / (12 : Int32) * (12 : Int32)) = (0 : Int32) then (fX9_mostMonths_j67 N i_this K_46 v1 v2 v3 v5 v6 v7 v10 i_this_adder) else (nm (v10 + (-1 : Int32)) fun z15 => (K_46 v1 v2 v3 v5 v6 v7 z15 i_this_adder)))))) n
theorem fX9_mostMonths_l46_s (N : Nat) (i_this : Int32) (n : Nat) (v1 : Int32) (v2 : Int32) (v3 : Int64) (v5 : Int32) (v6 : Int32) (v7 : Int32) (v10 : Int32) (i_this_adder : Nat → Int32) : fX9_mostMonths_l46 N i_this (n + 1) v1 v2 v3 v5 v6 v7 v10 i_this_adder = (if v10 ≤ (0 : Int32) then (some ((0 : Int32), i_this_adder)) else (if v6 = (0 : Int32) then (fX9_mostMonths_j67 N i_this (fX9_mostMonths_l46 N i_this n) v1 v2 v3 v5 v6 v7 v10 i_this_adder) else (if (v10 - v10 / (12 : Int32) * (12 : Int32)) = (0 : Int32) then (fX9_mostMonths_j67 N i_this (fX9_mostMonths_l46 N i_this n) v1 v2 v3 v5 v6 v7 v10 i_this_adder) else (nm (v10 + (-1 : Int32)) fun z15 => ((fX9_mostMonths_l46 N i_this n) v1 v2 v3 v5 v6 v7 z15 i_this_adder))))) := rfl
theorem fX9_mostMonths_l46_0 (N : Nat) (i_this : Int32) (v1 : Int32) (v2 : Int32) (v3 : Int64) (v5 : Int32) (v6 : Int32) (v7 : Int32) (v10 : Int32) (i_this_adder : Nat → Int32) : fX9_mostMonths_l46 N i_this 0 v1 v2 v3 v5 v6 v7 v10 i_this_adder = none := rfl
noncomputable def fX9_mostMonths_j15 (N : Nat) (i_this : Int32) (v1 : Int32) (v2 : Int32) (v3 : Int64) (v5 : Int32) (v6 : Int32) (t0 : Int32) (i_this_adder : Nat → Int32) : Option (Int32 × (Nat → Int32)) := (bd1 (fX1_monthOf N ((v3 / (86400 : Int64)).toInt32)) fun r16 => (bd1 (fX1_monthOf N v1) fun r18 => (nm (if 0 ≤ (r16 - r18) then (r16 - r18) else 0 - (r16 - r18)) fun z20 => (nm (z20 + (1 : Int32)) fun z21 => (fX9_mostMonths_l46 N i_this N v1 v2 v3 v5 v6 t0 z21 i_this_adder)))))
noncomputable def fX9_mostMonths (N : Nat) (p1 : Int32) (p2 : Int32) (p3 : Int64) (p4 : Int32) (p5 : Int32) (i_this : Int32) (i_this_adder : Nat → Int32) : Option (Int32 × (Nat → Int32)) := (bd1 (fX9_instantOf N p1 p2) fun r22 => (if (0 : Int32) ≤ (lg_cmp p3 r22) then (fX9_mostMonths_j15 N i_this p1 p2 p3 p4 p5 (1 : Int32) i_this_adder) else (fX9_mostMonths_j15 N i_this p1 p2 p3 p4 p5 (-1 : Int32) i_this_adder)))
set_option maxHeartbeats 4000000 in
set_option maxRecDepth 100000 in
theorem kX9_mostMonths (l : Launch) (dC : Nat → ClassId) (dI : Nat → Nat → Nat) (cI cJ cB : ClassId) (h_this h_this_now h_this_kept h_this_told h_this_text h_this_script h_this_momentReader h_this_spanReader h_this_adder h_this_other h_this_trial h_this_ways : Nat) (N : Nat) (p1 : Int32) (p2 : Int32) (p3 : Int64) (p4 : Int32) (p5 : Int32) (i_this : Int32) (i_this_adder : Nat → Int32) (r : Int32) (o_i_this_adder : Nat → Int32) (hf : fX9_mostMonths N p1 p2 p3 p4 p5 i_this i_this_adder = some (r, o_i_this_adder)) : MI l yX9_mostMonths (kws yX9_mostMonths cX9_mostMonths 11 (some .int)) (kR 5 117) (dC, dI) (kT cI cJ cB) [.ref h_this, .int p1, .int p2, .long p3, .int p4, .int p5] [cl_X9 h_this h_this_now h_this_kept h_this_told h_this_text h_this_script h_this_momentReader h_this_spanReader h_this_adder h_this_other h_this_trial h_this_ways i_this, cl_X0 h_this_adder i_this_adder] [cl_X9 h_this h_this_now h_this_kept h_this_told h_this_text h_this_script h_this_momentReader h_this_spanReader h_this_adder h_this_other h_this_trial h_this_ways i_this, cl_X0 h_this_adder o_i_this_adder] r := by
  refine MI.of (cc := cX9_mostMonths) (maxL := 11) (by decide) (Nat.le_of_ble_eq_true rfl) (fun p e s m args below meth c A Q ls KC hN hK hP hD hA hl hEnd => ?_)
  obtain ⟨hx, hb, hml, hown, hts⟩ := KC
  have hown : s.vm.findClass "DateSpans" = some m.cls := hown
  have hl : lv_has ls 11 [(0, .ref h_this), (1, .int p1), (2, .int p2), (3, .long p3), (5, .int p4), (6, .int p5)] := hl
  have hS : va_S A s.heap s.heap [] := va_S.rf
  have LP_46 : ∀ n_46 : Nat, ∀ (v1 : Int32) (v2 : Int32) (v3 : Int64) (v5 : Int32) (v6 : Int32) (v7 : Int32) (v10 : Int32) (i_this_adder : Nat → Int32) (ls : Array Slot) (H : Heap) (locs : List Loc), fX9_mostMonths_l46 N i_this n_46 v1 v2 v3 v5 v6 v7 v10 i_this_adder = some (r, o_i_this_adder) → lv_has ls 11 [(0, .ref h_this), (1, .int v1), (2, .int v2), (3, .long v3), (5, .int v5), (6, .int v6), (7, .int v7), (10, .int v10)] → va_P (dC, dI) vwCl [cl_X9 h_this h_this_now h_this_kept h_this_told h_this_text h_this_script h_this_momentReader h_this_spanReader h_this_adder h_this_other h_this_trial h_this_ways i_this, cl_X0 h_this_adder i_this_adder] H → va_D A [cl_X9 h_this h_this_now h_this_kept h_this_told h_this_text h_this_script h_this_momentReader h_this_spanReader h_this_adder h_this_other h_this_trial h_this_ways i_this, cl_X0 h_this_adder i_this_adder] → va_S A s.heap H locs → W p l e (kR 5 117) s m args below meth c H locs 0 0 Q (F0 m 46 ls []) := by
    intro n_46
    induction n_46 with
    | zero =>
      intro v1 v2 v3 v5 v6 v7 v10 i_this_adder ls H locs h hl hP hD hS
      rw [fX9_mostMonths_l46_0] at h; cases h
    | succ n_46 ih_46 =>
      have JN_67 : ∀ (v1 : Int32) (v2 : Int32) (v3 : Int64) (v5 : Int32) (v6 : Int32) (v7 : Int32) (v10 : Int32) (i_this_adder : Nat → Int32) (ls : Array Slot) (H : Heap) (locs : List Loc), (fX9_mostMonths_j67 N i_this (fX9_mostMonths_l46 N i_this n_46)) v1 v2 v3 v5 v6 v7 v10 i_this_adder = some (r, o_i_this_adder) → lv_has ls 11 [(0, .ref h_this), (1, .int v1), (2, .int v2), (3, .long v3), (5, .int v5), (6, .int v6), (7, .int v7), (10, .int v10)] → va_P (dC, dI) vwCl [cl_X9 h_this h_this_now h_this_kept h_this_told h_this_text h_this_script h_this_momentReader h_this_spanReader h_this_adder h_this_other h_this_trial h_this_ways i_this, cl_X0 h_this_adder i_this_adder] H → va_D A [cl_X9 h_this h_this_now h_this_kept h_this_told h_this_text h_this_script h_this_momentReader h_this_spanReader h_this_adder h_this_other h_this_trial h_this_ways i_this, cl_X0 h_this_adder i_this_adder] → va_S A s.heap H locs → W p l e (kR 5 117) s m args below meth c H locs 0 0 Q (F0 m 67 ls []) := by
        intro v1 v2 v3 v5 v6 v7 v10 i_this_adder ls H locs h hl hP hD hS
        unfold fX9_mostMonths_j67 at h
        refine lv_aload_n hx hb dX9_mostMonths_67 rfl (lv_at hl 0 rfl) ?_
        refine va_get (D := (dC, dI)) (ci := 8) (v := .ref h_this_adder) (C := RX9) (T := TX9) (N := 12) hx hb hts inX9 hown hK hP 0 rfl rfl 8 (by decide) (hts _ (kq q_234 rfl)) (fun _ h9 => h9) rfl dX9_mostMonths_68 ?_
        refine lv_iload hx hb dX9_mostMonths_71 (lv_at hl 6 rfl) ?_
        refine lv_iload hx hb dX9_mostMonths_73 (lv_at hl 7 rfl) ?_
        refine lv_imul hx hb dX9_mostMonths_75 ?_
        refine lv_iconst (v := (0 : Int32)) hx hb dX9_mostMonths_76 (by decide) ?_
        refine lv_iconst (v := (0 : Int32)) hx hb dX9_mostMonths_77 (by decide) ?_
        refine lv_iload hx hb dX9_mostMonths_78 (lv_at hl 4 rfl) ?_
        obtain ⟨i_this_adder_1, hc2, h⟩ := bd1_at h
        refine kjV (kV (own := "DateSpans") (C := "DateSpans$Adder") (b := h_this_adder) (As := [.int (v7 * v10), .int (0 : Int32), .int (0 : Int32), .int v5]) (rest := []) ⟨hx, hb, hml, hown, hts⟩ (kX0_takesNumbers l dC dI cI cJ cB h_this_adder N (v7 * v10) (0 : Int32) (0 : Int32) v5 i_this_adder i_this_adder_1 hc2 _) (kgV (kq q_459 rfl) (kq q_367 rfl) (kq q_368 rfl) (kq q_24 rfl) (kq q_369 rfl)) yd_X0_takesNumbers ⟨Nat.le_of_ble_eq_true rfl, Nat.le_of_ble_eq_true rfl⟩ hN hK hP hD [1] rfl rfl (ci := 0) rfl rfl rfl rfl rfl hl.1 rfl (lv_room (Nat.le_of_ble_eq_true rfl)) dX9_mostMonths_80) hP hD hS hA [1] rfl rfl (fun H locs hP hD hS => ?_)
        have hP : va_P (dC, dI) vwCl [cl_X9 h_this h_this_now h_this_kept h_this_told h_this_text h_this_script h_this_momentReader h_this_spanReader h_this_adder h_this_other h_this_trial h_this_ways i_this, cl_X0 h_this_adder i_this_adder_1] H := hP
        have hD : va_D A [cl_X9 h_this h_this_now h_this_kept h_this_told h_this_text h_this_script h_this_momentReader h_this_spanReader h_this_adder h_this_other h_this_trial h_this_ways i_this, cl_X0 h_this_adder i_this_adder_1] := hD
        refine lv_aload_n hx hb dX9_mostMonths_83 rfl (lv_at hl 0 rfl) ?_
        refine va_get (D := (dC, dI)) (ci := 8) (v := .ref h_this_adder) (C := RX9) (T := TX9) (N := 12) hx hb hts inX9 hown hK hP 0 rfl rfl 8 (by decide) (hts _ (kq q_234 rfl)) (fun _ h9 => h9) rfl dX9_mostMonths_84 ?_
        refine lv_iload_n hx hb dX9_mostMonths_87 rfl (lv_at hl 1 rfl) ?_
        refine lv_iload_n hx hb dX9_mostMonths_88 rfl (lv_at hl 2 rfl) ?_
        refine lv_iconst (v := (0 : Int32)) hx hb dX9_mostMonths_89 (by decide) ?_
        obtain ⟨r3, i_this_adder_4, hc5, h⟩ := bd2_at h
        refine kjI (kV (own := "DateSpans") (C := "DateSpans$Adder") (b := h_this_adder) (As := [.int v1, .int v2, .int (0 : Int32)]) (rest := []) ⟨hx, hb, hml, hown, hts⟩ (kX0_leads l dC dI cI cJ cB h_this_adder N v1 v2 (0 : Int32) i_this_adder_1 r3 i_this_adder_4 hc5 _) (kgV (kq q_370 rfl) (kq q_371 rfl) (kq q_372 rfl) (kq q_24 rfl) (kq q_373 rfl)) yd_X0_leads ⟨Nat.le_of_ble_eq_true rfl, Nat.le_of_ble_eq_true rfl⟩ hN hK hP hD [1] rfl rfl (ci := 0) rfl rfl rfl rfl rfl hl.1 rfl (lv_room (Nat.le_of_ble_eq_true rfl)) dX9_mostMonths_90) hP hD hS hA [1] rfl rfl (fun H locs hP hD hS => ?_)
        have hP : va_P (dC, dI) vwCl [cl_X9 h_this h_this_now h_this_kept h_this_told h_this_text h_this_script h_this_momentReader h_this_spanReader h_this_adder h_this_other h_this_trial h_this_ways i_this, cl_X0 h_this_adder i_this_adder_4] H := hP
        have hD : va_D A [cl_X9 h_this h_this_now h_this_kept h_this_told h_this_text h_this_script h_this_momentReader h_this_spanReader h_this_adder h_this_other h_this_trial h_this_ways i_this, cl_X0 h_this_adder i_this_adder_4] := hD
        refine lv_if_eq (tgt := 120) hx hb dX9_mostMonths_93 (by decide) (fun c6 => ?_) (fun c6 => ?_)
        · have h := ite_t c6 h
          obtain ⟨z7, ez7⟩ : ∃ y : Int32, y = (v10 + (-1 : Int32)) := ⟨_, rfl⟩
          have h := nm_at ez7 h
          refine lv_iinc (v := z7) (lv' := [(10, .int z7), (0, .ref h_this), (1, .int v1), (2, .int v2), (3, .long v3), (5, .int v5), (6, .int v6), (7, .int v7)]) hx hb dX9_mostMonths_120 hl (k := 7) rfl (by rw [ez7]; rfl) (by decide) rfl (fun ls hl => ?_)
          refine lv_goto (tgt := 46) hx hb dX9_mostMonths_123 (by decide) ?_
          exact ih_46 _ _ _ _ _ _ _ _ _ _ _ h (lv_sub hl [1, 2, 3, 4, 5, 6, 7, 0] rfl) hP hD hS
        have h := ite_f c6 h
        refine lv_iload hx hb dX9_mostMonths_96 (lv_at hl 6 rfl) ?_
        refine lv_i2l hx hb dX9_mostMonths_98 rfl ?_
        refine lv_lload_n hx hb dX9_mostMonths_99 rfl (lv_at hl 3 rfl) ?_
        refine lv_aload_n hx hb dX9_mostMonths_100 rfl (lv_at hl 0 rfl) ?_
        refine va_get (D := (dC, dI)) (ci := 8) (v := .ref h_this_adder) (C := RX9) (T := TX9) (N := 12) hx hb hts inX9 hown hK hP 0 rfl rfl 8 (by decide) (hts _ (kq q_234 rfl)) (fun _ h9 => h9) rfl dX9_mostMonths_101 ?_
        obtain ⟨r8, hc9, h⟩ := bd1_at h
        refine kjL (kV (own := "DateSpans") (C := "DateSpans$Adder") (b := h_this_adder) (As := []) (rest := [.long v3, .long v7.toInt64]) ⟨hx, hb, hml, hown, hts⟩ (kX0_instant l dC dI cI cJ cB h_this_adder N i_this_adder_4 r8 hc9 _) (kgV (kq q_460 rfl) (kq q_408 rfl) (kq q_409 rfl) (kq q_24 rfl) (kq q_410 rfl)) yd_X0_instant ⟨Nat.le_of_ble_eq_true rfl, Nat.le_of_ble_eq_true rfl⟩ hN hK hP hD [1] rfl rfl (ci := 0) rfl rfl rfl rfl rfl hl.1 rfl (lv_room (Nat.le_of_ble_eq_true rfl)) dX9_mostMonths_104) hP hD hS hA [1] rfl rfl (fun H locs hP hD hS => ?_)
        have hP : va_P (dC, dI) vwCl [cl_X9 h_this h_this_now h_this_kept h_this_told h_this_text h_this_script h_this_momentReader h_this_spanReader h_this_adder h_this_other h_this_trial h_this_ways i_this, cl_X0 h_this_adder i_this_adder_4] H := hP
        have hD : va_D A [cl_X9 h_this h_this_now h_this_kept h_this_told h_this_text h_this_script h_this_momentReader h_this_spanReader h_this_adder h_this_other h_this_trial h_this_ways i_this, cl_X0 h_this_adder i_this_adder_4] := hD
        refine lv_lsub hx hb dX9_mostMonths_107 ?_
        refine lv_lmul hx hb dX9_mostMonths_108 ?_
        refine lv_lconst (v := (0 : Int64)) hx hb dX9_mostMonths_109 (by decide) ?_
        refine W.lcmp hx hb dX9_mostMonths_110 ?_
        refine lv_if_lt (tgt := 120) hx hb dX9_mostMonths_111 (by decide) (fun c10 => ?_) (fun c10 => ?_)
        · have h := ite_t c10 h
          obtain ⟨z11, ez11⟩ : ∃ y : Int32, y = (v10 + (-1 : Int32)) := ⟨_, rfl⟩
          have h := nm_at ez11 h
          refine lv_iinc (v := z11) (lv' := [(10, .int z11), (0, .ref h_this), (1, .int v1), (2, .int v2), (3, .long v3), (5, .int v5), (6, .int v6), (7, .int v7)]) hx hb dX9_mostMonths_120 hl (k := 7) rfl (by rw [ez11]; rfl) (by decide) rfl (fun ls hl => ?_)
          refine lv_goto (tgt := 46) hx hb dX9_mostMonths_123 (by decide) ?_
          exact ih_46 _ _ _ _ _ _ _ _ _ _ _ h (lv_sub hl [1, 2, 3, 4, 5, 6, 7, 0] rfl) hP hD hS
        have h := ite_f c10 h
        refine lv_iload hx hb dX9_mostMonths_114 (lv_at hl 6 rfl) ?_
        refine lv_iload hx hb dX9_mostMonths_116 (lv_at hl 7 rfl) ?_
        refine lv_imul hx hb dX9_mostMonths_118 ?_
        obtain ⟨rfl, rfl⟩ := pj2 h
        exact hEnd _ _ _ _ hP hS dX9_mostMonths_119 rfl
      intro v1 v2 v3 v5 v6 v7 v10 i_this_adder ls H locs h hl hP hD hS
      rw [fX9_mostMonths_l46_s] at h
      refine lv_iload hx hb dX9_mostMonths_46 (lv_at hl 7 rfl) ?_
      refine lv_if_le (tgt := 126) hx hb dX9_mostMonths_48 (by decide) (fun c12 => ?_) (fun c12 => ?_)
      · have h := ite_t c12 h
        refine lv_iconst (v := (0 : Int32)) hx hb dX9_mostMonths_126 (by decide) ?_
        obtain ⟨rfl, rfl⟩ := pj2 h
        exact hEnd _ _ _ _ hP hS dX9_mostMonths_127 rfl
      have h := ite_f c12 h
      refine lv_iload hx hb dX9_mostMonths_51 (lv_at hl 5 rfl) ?_
      refine lv_if_eq (tgt := 67) hx hb dX9_mostMonths_53 (by decide) (fun c13 => ?_) (fun c13 => ?_)
      · have h := ite_t c13 h
        exact JN_67 _ _ _ _ _ _ _ _ _ _ _ h (lv_sub hl [0, 1, 2, 3, 4, 5, 6, 7] rfl) hP hD hS
      have h := ite_f c13 h
      refine lv_iload hx hb dX9_mostMonths_56 (lv_at hl 7 rfl) ?_
      refine lv_bipush (v := (12 : Int32)) hx hb dX9_mostMonths_58 (by decide) ?_
      refine lv_irem hx hb dX9_mostMonths_60 (by decide) ?_
      refine lv_if_eq (tgt := 67) hx hb dX9_mostMonths_61 (by decide) (fun c14 => ?_) (fun c14 => ?_)
      · have h := ite_t c14 h
        exact JN_67 _ _ _ _ _ _ _ _ _ _ _ h (lv_sub hl [0, 1, 2, 3, 4, 5, 6, 7] rfl) hP hD hS
      have h := ite_f c14 h
      refine lv_goto (tgt := 120) hx hb dX9_mostMonths_64 (by decide) ?_
      obtain ⟨z15, ez15⟩ : ∃ y : Int32, y = (v10 + (-1 : Int32)) := ⟨_, rfl⟩
      have h := nm_at ez15 h
      refine lv_iinc (v := z15) (lv' := [(10, .int z15), (0, .ref h_this), (1, .int v1), (2, .int v2), (3, .long v3), (5, .int v5), (6, .int v6), (7, .int v7)]) hx hb dX9_mostMonths_120 hl (k := 7) rfl (by rw [ez15]; rfl) (by decide) rfl (fun ls hl => ?_)
      refine lv_goto (tgt := 46) hx hb dX9_mostMonths_123 (by decide) ?_
      exact ih_46 _ _ _ _ _ _ _ _ _ _ _ h (lv_sub hl [1, 2, 3, 4, 5, 6, 7, 0] rfl) hP hD hS
  have JN_15 : ∀ (v1 : Int32) (v2 : Int32) (v3 : Int64) (v5 : Int32) (v6 : Int32) (t0 : Int32) (i_this_adder : Nat → Int32) (ls : Array Slot) (H : Heap) (locs : List Loc), (fX9_mostMonths_j15 N i_this) v1 v2 v3 v5 v6 t0 i_this_adder = some (r, o_i_this_adder) → lv_has ls 11 [(0, .ref h_this), (1, .int v1), (2, .int v2), (3, .long v3), (5, .int v5), (6, .int v6)] → va_P (dC, dI) vwCl [cl_X9 h_this h_this_now h_this_kept h_this_told h_this_text h_this_script h_this_momentReader h_this_spanReader h_this_adder h_this_other h_this_trial h_this_ways i_this, cl_X0 h_this_adder i_this_adder] H → va_D A [cl_X9 h_this h_this_now h_this_kept h_this_told h_this_text h_this_script h_this_momentReader h_this_spanReader h_this_adder h_this_other h_this_trial h_this_ways i_this, cl_X0 h_this_adder i_this_adder] → va_S A s.heap H locs → W p l e (kR 5 117) s m args below meth c H locs 0 0 Q (F0 m 15 ls [.int t0]) := by
    intro v1 v2 v3 v5 v6 t0 i_this_adder ls H locs h hl hP hD hS
    unfold fX9_mostMonths_j15 at h
    refine lv_istore (lv' := [(7, .int t0), (0, .ref h_this), (1, .int v1), (2, .int v2), (3, .long v3), (5, .int v5), (6, .int v6)]) hx hb dX9_mostMonths_15 hl (by decide) rfl (fun ls hl => ?_)
    refine lv_lload_n hx hb dX9_mostMonths_17 rfl (lv_at hl 4 rfl) ?_
    refine lv_ldc2 (v := (86400 : Int64)) hx hb hown (hts _ (kq q_414 rfl)) dX9_mostMonths_18 ?_
    refine lv_ldiv hx hb dX9_mostMonths_21 (by decide) ?_
    refine lv_l2i hx hb dX9_mostMonths_22 rfl ?_
    obtain ⟨r16, hc17, h⟩ := bd1_at h
    refine kjSI (kS0 (own := "DateSpans") (As := [.int ((v3 / (86400 : Int64)).toInt32)]) (rest := []) ⟨hx, hb, hml, hown, hts⟩ (kX1_monthOf l N ((v3 / (86400 : Int64)).toInt32) r16 hc17) (kgS (kq q_455 rfl) (kq q_387 rfl) (kq q_28 rfl) (kq q_388 rfl)) yd_X1_monthOf ⟨Nat.le_of_ble_eq_true rfl, Nat.le_of_ble_eq_true rfl⟩ rfl rfl hl.1 rfl (lv_room (Nat.le_of_ble_eq_true rfl)) dX9_mostMonths_23) ?_
    refine lv_istore (lv' := [(8, .int r16), (7, .int t0), (0, .ref h_this), (1, .int v1), (2, .int v2), (3, .long v3), (5, .int v5), (6, .int v6)]) hx hb dX9_mostMonths_26 hl (by decide) rfl (fun ls hl => ?_)
    refine lv_iload hx hb dX9_mostMonths_28 (lv_at hl 0 rfl) ?_
    refine lv_iload_n hx hb dX9_mostMonths_30 rfl (lv_at hl 3 rfl) ?_
    obtain ⟨r18, hc19, h⟩ := bd1_at h
    refine kjSI (kS0 (own := "DateSpans") (As := [.int v1]) (rest := [.int r16]) ⟨hx, hb, hml, hown, hts⟩ (kX1_monthOf l N v1 r18 hc19) (kgS (kq q_455 rfl) (kq q_387 rfl) (kq q_28 rfl) (kq q_388 rfl)) yd_X1_monthOf ⟨Nat.le_of_ble_eq_true rfl, Nat.le_of_ble_eq_true rfl⟩ rfl rfl hl.1 rfl (lv_room (Nat.le_of_ble_eq_true rfl)) dX9_mostMonths_31) ?_
    refine lv_isub hx hb dX9_mostMonths_34 ?_
    refine va_mabs (rest := []) hx hb (hml.trans hl.1.symm) hown (hts _ (kq q_456 rfl)) (hts _ (kq q_457 rfl)) (hts _ (kq q_27 rfl)) (hts _ (kq q_458 rfl)) (Nat.le_of_ble_eq_true rfl) (Nat.le_of_ble_eq_true rfl) (Nat.zero_le _) (Nat.zero_le _) dX9_mostMonths_35 ?_
    refine lv_topi (fun z20 ez20 => ?_)
    have h := nm_at ez20 h
    refine lv_istore (lv' := [(9, .int z20), (8, .int r16), (7, .int t0), (0, .ref h_this), (1, .int v1), (2, .int v2), (3, .long v3), (5, .int v5), (6, .int v6)]) hx hb dX9_mostMonths_38 hl (by decide) rfl (fun ls hl => ?_)
    refine lv_iload hx hb dX9_mostMonths_40 (lv_at hl 0 rfl) ?_
    refine lv_iconst (v := (1 : Int32)) hx hb dX9_mostMonths_42 (by decide) ?_
    refine lv_iadd hx hb dX9_mostMonths_43 ?_
    refine lv_topi (fun z21 ez21 => ?_)
    have h := nm_at ez21 h
    refine lv_istore (lv' := [(10, .int z21), (9, .int z20), (8, .int r16), (7, .int t0), (0, .ref h_this), (1, .int v1), (2, .int v2), (3, .long v3), (5, .int v5), (6, .int v6)]) hx hb dX9_mostMonths_44 hl (by decide) rfl (fun ls hl => ?_)
    exact LP_46 N _ _ _ _ _ _ _ _ _ _ _ h (lv_sub hl [4, 5, 6, 7, 8, 9, 3, 0] rfl) hP hD hS
  have h := hf
  unfold fX9_mostMonths at h
  refine lv_lload_n hx hb dX9_mostMonths_0 rfl (lv_at hl 3 rfl) ?_
  refine lv_iload_n hx hb dX9_mostMonths_1 rfl (lv_at hl 1 rfl) ?_
  refine lv_iload_n hx hb dX9_mostMonths_2 rfl (lv_at hl 2 rfl) ?_
  obtain ⟨r22, hc23, h⟩ := bd1_at h
  refine kjSL (kS0 (own := "DateSpans") (As := [.int p1, .int p2]) (rest := [.long p3]) ⟨hx, hb, hml, hown, hts⟩ (kX9_instantOf l N p1 p2 r22 hc23) (kgS (kq q_454 rfl) (kq q_412 rfl) (kq q_18 rfl) (kq q_413 rfl)) yd_X9_instantOf ⟨Nat.le_of_ble_eq_true rfl, Nat.le_of_ble_eq_true rfl⟩ rfl rfl hl.1 rfl (lv_room (Nat.le_of_ble_eq_true rfl)) dX9_mostMonths_3) ?_
  refine W.lcmp hx hb dX9_mostMonths_6 ?_
  refine lv_if_ge (tgt := 14) hx hb dX9_mostMonths_7 (by decide) (fun c24 => ?_) (fun c24 => ?_)
  · have h := ite_t c24 h
    refine lv_iconst (v := (1 : Int32)) hx hb dX9_mostMonths_14 (by decide) ?_
    exact JN_15 _ _ _ _ _ _ _ _ _ _ h (lv_sub hl [0, 1, 2, 3, 4, 5] rfl) hP hD hS
  have h := ite_f c24 h
  refine lv_iconst (v := (-1 : Int32)) hx hb dX9_mostMonths_10 (by decide) ?_
  refine lv_goto (tgt := 15) hx hb dX9_mostMonths_11 (by decide) ?_
  exact JN_15 _ _ _ _ _ _ _ _ _ _ h (lv_sub hl [0, 1, 2, 3, 4, 5] rfl) hP hD hS
noncomputable def fX9_returns (N : Nat) (p1 : Int32) (p2 : Int32) (p3 : Int32) (p4 : Int32) (i_this : Int32) (f_this_now_day : Nat → Int32) (f_this_now_second : Nat → Int32) (f_this_now_months : Nat → Int32) (f_this_now_days : Nat → Int32) (f_this_now_seconds : Nat → Int32) (i_this_adder : Nat → Int32) : Option (Int32 × (Nat → Int32)) := (bd2 (fX0_takes N p3 (-1 : Int32) p4 i_this_adder f_this_now_months f_this_now_days f_this_now_seconds) fun r1 i_this_adder_2 => (bd1 (fX4_dayAt N p2 f_this_now_day) fun r4 => (bd1 (fX4_secondAt N p2 f_this_now_second) fun r6 => (bd2 (fX0_leads N r4 r6 (0 : Int32) i_this_adder_2) fun r8 i_this_adder_9 => (if r8 = (0 : Int32) then (some ((0 : Int32), i_this_adder_9)) else (bd1 (fX0_instant N i_this_adder_9) fun r12 => (bd1 (fX4_instantAt N p1 f_this_now_day f_this_now_second) fun r14 => (if (lg_cmp r12 r14) = (0 : Int32) then (some ((1 : Int32), i_this_adder_9)) else (some ((0 : Int32), i_this_adder_9))))))))))
set_option maxHeartbeats 4000000 in
set_option maxRecDepth 100000 in
theorem kX9_returns (l : Launch) (dC : Nat → ClassId) (dI : Nat → Nat → Nat) (cI cJ cB : ClassId) (h_this h_this_now h_this_kept h_this_told h_this_text h_this_script h_this_momentReader h_this_spanReader h_this_adder h_this_other h_this_trial h_this_ways h_this_now_day h_this_now_second h_this_now_months h_this_now_days h_this_now_seconds : Nat) (N : Nat) (p1 : Int32) (p2 : Int32) (p3 : Int32) (p4 : Int32) (i_this : Int32) (f_this_now_day : Nat → Int32) (f_this_now_second : Nat → Int32) (f_this_now_months : Nat → Int32) (f_this_now_days : Nat → Int32) (f_this_now_seconds : Nat → Int32) (i_this_adder : Nat → Int32) (r : Int32) (o_i_this_adder : Nat → Int32) (hf : fX9_returns N p1 p2 p3 p4 i_this f_this_now_day f_this_now_second f_this_now_months f_this_now_days f_this_now_seconds i_this_adder = some (r, o_i_this_adder)) : MI l yX9_returns (kws yX9_returns cX9_returns 5 (some .boolean)) (kR 5 117) (dC, dI) (kT cI cJ cB) [.ref h_this, .int p1, .int p2, .int p3, .int p4] [cl_X9 h_this h_this_now h_this_kept h_this_told h_this_text h_this_script h_this_momentReader h_this_spanReader h_this_adder h_this_other h_this_trial h_this_ways i_this, cl_X4 h_this_now h_this_now_day h_this_now_second h_this_now_months h_this_now_days h_this_now_seconds, (h_this_now_day, .inl (cI, 8, .inl f_this_now_day)), (h_this_now_second, .inl (cI, 8, .inl f_this_now_second)), (h_this_now_months, .inl (cI, 8, .inl f_this_now_months)), (h_this_now_days, .inl (cI, 8, .inl f_this_now_days)), (h_this_now_seconds, .inl (cI, 8, .inl f_this_now_seconds)), cl_X0 h_this_adder i_this_adder] [cl_X9 h_this h_this_now h_this_kept h_this_told h_this_text h_this_script h_this_momentReader h_this_spanReader h_this_adder h_this_other h_this_trial h_this_ways i_this, cl_X4 h_this_now h_this_now_day h_this_now_second h_this_now_months h_this_now_days h_this_now_seconds, (h_this_now_day, .inl (cI, 8, .inl f_this_now_day)), (h_this_now_second, .inl (cI, 8, .inl f_this_now_second)), (h_this_now_months, .inl (cI, 8, .inl f_this_now_months)), (h_this_now_days, .inl (cI, 8, .inl f_this_now_days)), (h_this_now_seconds, .inl (cI, 8, .inl f_this_now_seconds)), cl_X0 h_this_adder o_i_this_adder] r := by
  refine MI.of (cc := cX9_returns) (maxL := 5) (by decide) (Nat.le_of_ble_eq_true rfl) (fun p e s m args below meth c A Q ls KC hN hK hP hD hA hl hEnd => ?_)
  obtain ⟨hx, hb, hml, hown, hts⟩ := KC
  have hown : s.vm.findClass "DateSpans" = some m.cls := hown
  have hl : lv_has ls 5 [(0, .ref h_this), (1, .int p1), (2, .int p2), (3, .int p3), (4, .int p4)] := hl
  have hS : va_S A s.heap s.heap [] := va_S.rf
  have h := hf
  unfold fX9_returns at h
  refine lv_aload_n hx hb dX9_returns_0 rfl (lv_at hl 0 rfl) ?_
  refine va_get (D := (dC, dI)) (ci := 8) (v := .ref h_this_adder) (C := RX9) (T := TX9) (N := 12) hx hb hts inX9 hown hK hP 0 rfl rfl 8 (by decide) (hts _ (kq q_234 rfl)) (fun _ h9 => h9) rfl dX9_returns_1 ?_
  refine lv_aload_n hx hb dX9_returns_4 rfl (lv_at hl 0 rfl) ?_
  refine va_get (D := (dC, dI)) (ci := 8) (v := .ref h_this_now) (C := RX9) (T := TX9) (N := 12) hx hb hts inX9 hown hK hP 0 rfl rfl 0 (by decide) (hts _ (kq q_226 rfl)) (fun _ h9 => h9) rfl dX9_returns_5 ?_
  refine lv_iload_n hx hb dX9_returns_8 rfl (lv_at hl 3 rfl) ?_
  refine lv_iconst (v := (-1 : Int32)) hx hb dX9_returns_9 (by decide) ?_
  refine lv_iload hx hb dX9_returns_10 (lv_at hl 4 rfl) ?_
  obtain ⟨r1, i_this_adder_2, hc3, h⟩ := bd2_at h
  refine kjI (kV (own := "DateSpans") (C := "DateSpans$Adder") (b := h_this_adder) (As := [.ref h_this_now, .int p3, .int (-1 : Int32), .int p4]) (rest := []) ⟨hx, hb, hml, hown, hts⟩ (kX0_takes l dC dI cI cJ cB h_this_adder h_this_now h_this_now_day h_this_now_second h_this_now_months h_this_now_days h_this_now_seconds N p3 (-1 : Int32) p4 i_this_adder f_this_now_months f_this_now_days f_this_now_seconds r1 i_this_adder_2 hc3 _) (kgV (kq q_358 rfl) (kq q_359 rfl) (kq q_360 rfl) (kq q_24 rfl) (kq q_361 rfl)) yd_X0_takes ⟨Nat.le_of_ble_eq_true rfl, Nat.le_of_ble_eq_true rfl⟩ hN hK hP hD [7, 1, 4, 5, 6] rfl rfl (ci := 0) rfl rfl rfl rfl rfl hl.1 rfl (lv_room (Nat.le_of_ble_eq_true rfl)) dX9_returns_12) hP hD hS hA [7, 1, 4, 5, 6] rfl rfl (fun H locs hP hD hS => ?_)
  have hP : va_P (dC, dI) vwCl [cl_X9 h_this h_this_now h_this_kept h_this_told h_this_text h_this_script h_this_momentReader h_this_spanReader h_this_adder h_this_other h_this_trial h_this_ways i_this, cl_X4 h_this_now h_this_now_day h_this_now_second h_this_now_months h_this_now_days h_this_now_seconds, (h_this_now_day, .inl (cI, 8, .inl f_this_now_day)), (h_this_now_second, .inl (cI, 8, .inl f_this_now_second)), (h_this_now_months, .inl (cI, 8, .inl f_this_now_months)), (h_this_now_days, .inl (cI, 8, .inl f_this_now_days)), (h_this_now_seconds, .inl (cI, 8, .inl f_this_now_seconds)), cl_X0 h_this_adder i_this_adder_2] H := hP
  have hD : va_D A [cl_X9 h_this h_this_now h_this_kept h_this_told h_this_text h_this_script h_this_momentReader h_this_spanReader h_this_adder h_this_other h_this_trial h_this_ways i_this, cl_X4 h_this_now h_this_now_day h_this_now_second h_this_now_months h_this_now_days h_this_now_seconds, (h_this_now_day, .inl (cI, 8, .inl f_this_now_day)), (h_this_now_second, .inl (cI, 8, .inl f_this_now_second)), (h_this_now_months, .inl (cI, 8, .inl f_this_now_months)), (h_this_now_days, .inl (cI, 8, .inl f_this_now_days)), (h_this_now_seconds, .inl (cI, 8, .inl f_this_now_seconds)), cl_X0 h_this_adder i_this_adder_2] := hD
  refine lv_pop hx hb dX9_returns_15 rfl ?_
  refine lv_aload_n hx hb dX9_returns_16 rfl (lv_at hl 0 rfl) ?_
  refine va_get (D := (dC, dI)) (ci := 8) (v := .ref h_this_adder) (C := RX9) (T := TX9) (N := 12) hx hb hts inX9 hown hK hP 0 rfl rfl 8 (by decide) (hts _ (kq q_234 rfl)) (fun _ h9 => h9) rfl dX9_returns_17 ?_
  refine lv_aload_n hx hb dX9_returns_20 rfl (lv_at hl 0 rfl) ?_
  refine va_get (D := (dC, dI)) (ci := 8) (v := .ref h_this_now) (C := RX9) (T := TX9) (N := 12) hx hb hts inX9 hown hK hP 0 rfl rfl 0 (by decide) (hts _ (kq q_226 rfl)) (fun _ h9 => h9) rfl dX9_returns_21 ?_
  refine lv_iload_n hx hb dX9_returns_24 rfl (lv_at hl 2 rfl) ?_
  obtain ⟨r4, hc5, h⟩ := bd1_at h
  refine kjI (kV (own := "DateSpans") (C := "DateSpans$Slots") (b := h_this_now) (As := [.int p2]) (rest := [.ref h_this_adder]) ⟨hx, hb, hml, hown, hts⟩ (kX4_dayAt l dC dI cI cJ cB h_this_now h_this_now_day h_this_now_second h_this_now_months h_this_now_days h_this_now_seconds N p2 f_this_now_day r4 hc5 _) (kgV (kq q_275 rfl) (kq q_276 rfl) (kq q_277 rfl) (kq q_19 rfl) (kq q_278 rfl)) yd_X4_dayAt ⟨Nat.le_of_ble_eq_true rfl, Nat.le_of_ble_eq_true rfl⟩ hN hK hP hD [1, 2] rfl rfl (ci := 3) rfl rfl rfl rfl rfl hl.1 rfl (lv_room (Nat.le_of_ble_eq_true rfl)) dX9_returns_25) hP hD hS hA [1, 2] rfl rfl (fun H locs hP hD hS => ?_)
  have hP : va_P (dC, dI) vwCl [cl_X9 h_this h_this_now h_this_kept h_this_told h_this_text h_this_script h_this_momentReader h_this_spanReader h_this_adder h_this_other h_this_trial h_this_ways i_this, cl_X4 h_this_now h_this_now_day h_this_now_second h_this_now_months h_this_now_days h_this_now_seconds, (h_this_now_day, .inl (cI, 8, .inl f_this_now_day)), (h_this_now_second, .inl (cI, 8, .inl f_this_now_second)), (h_this_now_months, .inl (cI, 8, .inl f_this_now_months)), (h_this_now_days, .inl (cI, 8, .inl f_this_now_days)), (h_this_now_seconds, .inl (cI, 8, .inl f_this_now_seconds)), cl_X0 h_this_adder i_this_adder_2] H := hP
  have hD : va_D A [cl_X9 h_this h_this_now h_this_kept h_this_told h_this_text h_this_script h_this_momentReader h_this_spanReader h_this_adder h_this_other h_this_trial h_this_ways i_this, cl_X4 h_this_now h_this_now_day h_this_now_second h_this_now_months h_this_now_days h_this_now_seconds, (h_this_now_day, .inl (cI, 8, .inl f_this_now_day)), (h_this_now_second, .inl (cI, 8, .inl f_this_now_second)), (h_this_now_months, .inl (cI, 8, .inl f_this_now_months)), (h_this_now_days, .inl (cI, 8, .inl f_this_now_days)), (h_this_now_seconds, .inl (cI, 8, .inl f_this_now_seconds)), cl_X0 h_this_adder i_this_adder_2] := hD
  refine lv_aload_n hx hb dX9_returns_28 rfl (lv_at hl 0 rfl) ?_
  refine va_get (D := (dC, dI)) (ci := 8) (v := .ref h_this_now) (C := RX9) (T := TX9) (N := 12) hx hb hts inX9 hown hK hP 0 rfl rfl 0 (by decide) (hts _ (kq q_226 rfl)) (fun _ h9 => h9) rfl dX9_returns_29 ?_
  refine lv_iload_n hx hb dX9_returns_32 rfl (lv_at hl 2 rfl) ?_
  obtain ⟨r6, hc7, h⟩ := bd1_at h
  refine kjI (kV (own := "DateSpans") (C := "DateSpans$Slots") (b := h_this_now) (As := [.int p2]) (rest := [.int r4, .ref h_this_adder]) ⟨hx, hb, hml, hown, hts⟩ (kX4_secondAt l dC dI cI cJ cB h_this_now h_this_now_day h_this_now_second h_this_now_months h_this_now_days h_this_now_seconds N p2 f_this_now_second r6 hc7 _) (kgV (kq q_310 rfl) (kq q_311 rfl) (kq q_312 rfl) (kq q_19 rfl) (kq q_313 rfl)) yd_X4_secondAt ⟨Nat.le_of_ble_eq_true rfl, Nat.le_of_ble_eq_true rfl⟩ hN hK hP hD [1, 3] rfl rfl (ci := 3) rfl rfl rfl rfl rfl hl.1 rfl (lv_room (Nat.le_of_ble_eq_true rfl)) dX9_returns_33) hP hD hS hA [1, 3] rfl rfl (fun H locs hP hD hS => ?_)
  have hP : va_P (dC, dI) vwCl [cl_X9 h_this h_this_now h_this_kept h_this_told h_this_text h_this_script h_this_momentReader h_this_spanReader h_this_adder h_this_other h_this_trial h_this_ways i_this, cl_X4 h_this_now h_this_now_day h_this_now_second h_this_now_months h_this_now_days h_this_now_seconds, (h_this_now_day, .inl (cI, 8, .inl f_this_now_day)), (h_this_now_second, .inl (cI, 8, .inl f_this_now_second)), (h_this_now_months, .inl (cI, 8, .inl f_this_now_months)), (h_this_now_days, .inl (cI, 8, .inl f_this_now_days)), (h_this_now_seconds, .inl (cI, 8, .inl f_this_now_seconds)), cl_X0 h_this_adder i_this_adder_2] H := hP
  have hD : va_D A [cl_X9 h_this h_this_now h_this_kept h_this_told h_this_text h_this_script h_this_momentReader h_this_spanReader h_this_adder h_this_other h_this_trial h_this_ways i_this, cl_X4 h_this_now h_this_now_day h_this_now_second h_this_now_months h_this_now_days h_this_now_seconds, (h_this_now_day, .inl (cI, 8, .inl f_this_now_day)), (h_this_now_second, .inl (cI, 8, .inl f_this_now_second)), (h_this_now_months, .inl (cI, 8, .inl f_this_now_months)), (h_this_now_days, .inl (cI, 8, .inl f_this_now_days)), (h_this_now_seconds, .inl (cI, 8, .inl f_this_now_seconds)), cl_X0 h_this_adder i_this_adder_2] := hD
  refine lv_iconst (v := (0 : Int32)) hx hb dX9_returns_36 (by decide) ?_
  obtain ⟨r8, i_this_adder_9, hc10, h⟩ := bd2_at h
  refine kjI (kV (own := "DateSpans") (C := "DateSpans$Adder") (b := h_this_adder) (As := [.int r4, .int r6, .int (0 : Int32)]) (rest := []) ⟨hx, hb, hml, hown, hts⟩ (kX0_leads l dC dI cI cJ cB h_this_adder N r4 r6 (0 : Int32) i_this_adder_2 r8 i_this_adder_9 hc10 _) (kgV (kq q_370 rfl) (kq q_371 rfl) (kq q_372 rfl) (kq q_24 rfl) (kq q_373 rfl)) yd_X0_leads ⟨Nat.le_of_ble_eq_true rfl, Nat.le_of_ble_eq_true rfl⟩ hN hK hP hD [7] rfl rfl (ci := 0) rfl rfl rfl rfl rfl hl.1 rfl (lv_room (Nat.le_of_ble_eq_true rfl)) dX9_returns_37) hP hD hS hA [7] rfl rfl (fun H locs hP hD hS => ?_)
  have hP : va_P (dC, dI) vwCl [cl_X9 h_this h_this_now h_this_kept h_this_told h_this_text h_this_script h_this_momentReader h_this_spanReader h_this_adder h_this_other h_this_trial h_this_ways i_this, cl_X4 h_this_now h_this_now_day h_this_now_second h_this_now_months h_this_now_days h_this_now_seconds, (h_this_now_day, .inl (cI, 8, .inl f_this_now_day)), (h_this_now_second, .inl (cI, 8, .inl f_this_now_second)), (h_this_now_months, .inl (cI, 8, .inl f_this_now_months)), (h_this_now_days, .inl (cI, 8, .inl f_this_now_days)), (h_this_now_seconds, .inl (cI, 8, .inl f_this_now_seconds)), cl_X0 h_this_adder i_this_adder_9] H := hP
  have hD : va_D A [cl_X9 h_this h_this_now h_this_kept h_this_told h_this_text h_this_script h_this_momentReader h_this_spanReader h_this_adder h_this_other h_this_trial h_this_ways i_this, cl_X4 h_this_now h_this_now_day h_this_now_second h_this_now_months h_this_now_days h_this_now_seconds, (h_this_now_day, .inl (cI, 8, .inl f_this_now_day)), (h_this_now_second, .inl (cI, 8, .inl f_this_now_second)), (h_this_now_months, .inl (cI, 8, .inl f_this_now_months)), (h_this_now_days, .inl (cI, 8, .inl f_this_now_days)), (h_this_now_seconds, .inl (cI, 8, .inl f_this_now_seconds)), cl_X0 h_this_adder i_this_adder_9] := hD
  refine lv_if_eq (tgt := 66) hx hb dX9_returns_40 (by decide) (fun c11 => ?_) (fun c11 => ?_)
  · have h := ite_t c11 h
    refine lv_iconst (v := (0 : Int32)) hx hb dX9_returns_66 (by decide) ?_
    obtain ⟨rfl, rfl⟩ := pj2 h
    exact hEnd _ _ _ _ hP hS dX9_returns_67 rfl
  have h := ite_f c11 h
  refine lv_aload_n hx hb dX9_returns_43 rfl (lv_at hl 0 rfl) ?_
  refine va_get (D := (dC, dI)) (ci := 8) (v := .ref h_this_adder) (C := RX9) (T := TX9) (N := 12) hx hb hts inX9 hown hK hP 0 rfl rfl 8 (by decide) (hts _ (kq q_234 rfl)) (fun _ h9 => h9) rfl dX9_returns_44 ?_
  obtain ⟨r12, hc13, h⟩ := bd1_at h
  refine kjL (kV (own := "DateSpans") (C := "DateSpans$Adder") (b := h_this_adder) (As := []) (rest := []) ⟨hx, hb, hml, hown, hts⟩ (kX0_instant l dC dI cI cJ cB h_this_adder N i_this_adder_9 r12 hc13 _) (kgV (kq q_460 rfl) (kq q_408 rfl) (kq q_409 rfl) (kq q_24 rfl) (kq q_410 rfl)) yd_X0_instant ⟨Nat.le_of_ble_eq_true rfl, Nat.le_of_ble_eq_true rfl⟩ hN hK hP hD [7] rfl rfl (ci := 0) rfl rfl rfl rfl rfl hl.1 rfl (lv_room (Nat.le_of_ble_eq_true rfl)) dX9_returns_47) hP hD hS hA [7] rfl rfl (fun H locs hP hD hS => ?_)
  have hP : va_P (dC, dI) vwCl [cl_X9 h_this h_this_now h_this_kept h_this_told h_this_text h_this_script h_this_momentReader h_this_spanReader h_this_adder h_this_other h_this_trial h_this_ways i_this, cl_X4 h_this_now h_this_now_day h_this_now_second h_this_now_months h_this_now_days h_this_now_seconds, (h_this_now_day, .inl (cI, 8, .inl f_this_now_day)), (h_this_now_second, .inl (cI, 8, .inl f_this_now_second)), (h_this_now_months, .inl (cI, 8, .inl f_this_now_months)), (h_this_now_days, .inl (cI, 8, .inl f_this_now_days)), (h_this_now_seconds, .inl (cI, 8, .inl f_this_now_seconds)), cl_X0 h_this_adder i_this_adder_9] H := hP
  have hD : va_D A [cl_X9 h_this h_this_now h_this_kept h_this_told h_this_text h_this_script h_this_momentReader h_this_spanReader h_this_adder h_this_other h_this_trial h_this_ways i_this, cl_X4 h_this_now h_this_now_day h_this_now_second h_this_now_months h_this_now_days h_this_now_seconds, (h_this_now_day, .inl (cI, 8, .inl f_this_now_day)), (h_this_now_second, .inl (cI, 8, .inl f_this_now_second)), (h_this_now_months, .inl (cI, 8, .inl f_this_now_months)), (h_this_now_days, .inl (cI, 8, .inl f_this_now_days)), (h_this_now_seconds, .inl (cI, 8, .inl f_this_now_seconds)), cl_X0 h_this_adder i_this_adder_9] := hD
  refine lv_aload_n hx hb dX9_returns_50 rfl (lv_at hl 0 rfl) ?_
  refine va_get (D := (dC, dI)) (ci := 8) (v := .ref h_this_now) (C := RX9) (T := TX9) (N := 12) hx hb hts inX9 hown hK hP 0 rfl rfl 0 (by decide) (hts _ (kq q_226 rfl)) (fun _ h9 => h9) rfl dX9_returns_51 ?_
  refine lv_iload_n hx hb dX9_returns_54 rfl (lv_at hl 1 rfl) ?_
  obtain ⟨r14, hc15, h⟩ := bd1_at h
  refine kjL (kV (own := "DateSpans") (C := "DateSpans$Slots") (b := h_this_now) (As := [.int p1]) (rest := [.long r12]) ⟨hx, hb, hml, hown, hts⟩ (kX4_instantAt l dC dI cI cJ cB h_this_now h_this_now_day h_this_now_second h_this_now_months h_this_now_days h_this_now_seconds N p1 f_this_now_day f_this_now_second r14 hc15 _) (kgV (kq q_443 rfl) (kq q_444 rfl) (kq q_445 rfl) (kq q_19 rfl) (kq q_446 rfl)) yd_X4_instantAt ⟨Nat.le_of_ble_eq_true rfl, Nat.le_of_ble_eq_true rfl⟩ hN hK hP hD [1, 2, 3] rfl rfl (ci := 3) rfl rfl rfl rfl rfl hl.1 rfl (lv_room (Nat.le_of_ble_eq_true rfl)) dX9_returns_55) hP hD hS hA [1, 2, 3] rfl rfl (fun H locs hP hD hS => ?_)
  have hP : va_P (dC, dI) vwCl [cl_X9 h_this h_this_now h_this_kept h_this_told h_this_text h_this_script h_this_momentReader h_this_spanReader h_this_adder h_this_other h_this_trial h_this_ways i_this, cl_X4 h_this_now h_this_now_day h_this_now_second h_this_now_months h_this_now_days h_this_now_seconds, (h_this_now_day, .inl (cI, 8, .inl f_this_now_day)), (h_this_now_second, .inl (cI, 8, .inl f_this_now_second)), (h_this_now_months, .inl (cI, 8, .inl f_this_now_months)), (h_this_now_days, .inl (cI, 8, .inl f_this_now_days)), (h_this_now_seconds, .inl (cI, 8, .inl f_this_now_seconds)), cl_X0 h_this_adder i_this_adder_9] H := hP
  have hD : va_D A [cl_X9 h_this h_this_now h_this_kept h_this_told h_this_text h_this_script h_this_momentReader h_this_spanReader h_this_adder h_this_other h_this_trial h_this_ways i_this, cl_X4 h_this_now h_this_now_day h_this_now_second h_this_now_months h_this_now_days h_this_now_seconds, (h_this_now_day, .inl (cI, 8, .inl f_this_now_day)), (h_this_now_second, .inl (cI, 8, .inl f_this_now_second)), (h_this_now_months, .inl (cI, 8, .inl f_this_now_months)), (h_this_now_days, .inl (cI, 8, .inl f_this_now_days)), (h_this_now_seconds, .inl (cI, 8, .inl f_this_now_seconds)), cl_X0 h_this_adder i_this_adder_9] := hD
  refine W.lcmp hx hb dX9_returns_58 ?_
  refine lv_if_ne (tgt := 66) hx hb dX9_returns_59 (by decide) (fun c16 => ?_) (fun c16 => ?_)
  · have h := ite_f c16 h
    refine lv_iconst (v := (0 : Int32)) hx hb dX9_returns_66 (by decide) ?_
    obtain ⟨rfl, rfl⟩ := pj2 h
    exact hEnd _ _ _ _ hP hS dX9_returns_67 rfl
  have h := ite_t c16 h
  refine lv_iconst (v := (1 : Int32)) hx hb dX9_returns_62 (by decide) ?_
  refine lv_goto (tgt := 67) hx hb dX9_returns_63 (by decide) ?_
  obtain ⟨rfl, rfl⟩ := pj2 h
  exact hEnd _ _ _ _ hP hS dX9_returns_67 rfl
noncomputable def fX9_between_j173 (N : Nat) (i_this : Int32) (f_this_now_day : Nat → Int32) (f_this_now_second : Nat → Int32) (v1 : Int32) (v2 : Int32) (v3 : Int32) (v5 : Int32) (v6 : Int32) (v7 : Int64) (t0 : Int64) (f_this_now_months : Nat → Int32) (f_this_now_days : Nat → Int32) (f_this_now_seconds : Nat → Int32) (i_this_told : Int32) (f_this_told_numbers : Nat → Int64) (i_this_adder : Nat → Int32) : Option (Int32 × (Nat → Int32) × (Nat → Int32) × (Nat → Int32) × Int32 × (Nat → Int64) × (Nat → Int32)) := (nm (v7 - (t0 * (86400 : Int64))) fun z1 => (bd6 (fX9_comesToSpan N v5 v6.toInt64 t0 z1 i_this f_this_now_months f_this_now_days f_this_now_seconds i_this_told f_this_told_numbers) fun r2 f_this_now_months_3 f_this_now_days_4 f_this_now_seconds_5 i_this_told_6 f_this_told_numbers_7 => (bd1 (fX9_areBounded N v6.toInt64 t0 z1) fun r9 => (if r9 = (0 : Int32) then (some (r2, f_this_now_months_3, f_this_now_days_4, f_this_now_seconds_5, i_this_told_6, f_this_told_numbers_7, i_this_adder)) else (bd2 (fX9_returns N v1 v2 v5 v3 i_this f_this_now_day f_this_now_second f_this_now_months_3 f_this_now_days_4 f_this_now_seconds_5 i_this_adder) fun r12 i_this_adder_13 => (if r12 = (0 : Int32) then (bd2 (fX3_push N (0 : Int64) i_this_told_6 f_this_told_numbers_7) fun i_this_told_16 f_this_told_numbers_17 => (some (r2, f_this_now_months_3, f_this_now_days_4, f_this_now_seconds_5, i_this_told_16, f_this_told_numbers_17, i_this_adder_13))) else (bd2 (fX3_push N (1 : Int64) i_this_told_6 f_this_told_numbers_7) fun i_this_told_19 f_this_told_numbers_20 => (some (r2, f_this_now_months_3, f_this_now_days_4, f_this_now_seconds_5, i_this_told_19, f_this_told_numbers_20, i_this_adder_13)))))))))
noncomputable def fX9_between_j101 (N : Nat) (i_this : Int32) (f_this_now_day : Nat → Int32) (f_this_now_second : Nat → Int32) (v1 : Int32) (v2 : Int32) (v3 : Int32) (v4 : Int32) (v5 : Int32) (v6 : Int32) (f_this_now_months : Nat → Int32) (f_this_now_days : Nat → Int32) (f_this_now_seconds : Nat → Int32) (i_this_told : Int32) (f_this_told_numbers : Nat → Int64) (i_this_adder : Nat → Int32) : Option (Int32 × (Nat → Int32) × (Nat → Int32) × (Nat → Int32) × Int32 × (Nat → Int64) × (Nat → Int32)) := (bd1 (fX0_takesNumbers N v6 (0 : Int32) (0 : Int32) v3 i_this_adder) fun i_this_adder_22 => (bd1 (fX4_dayAt N v1 f_this_now_day) fun r24 => (bd1 (fX4_secondAt N v1 f_this_now_second) fun r26 => (bd2 (fX0_leads N r24 r26 (0 : Int32) i_this_adder_22) fun r28 i_this_adder_29 => (bd1 (fX4_instantAt N v2 f_this_now_day f_this_now_second) fun r31 => (bd1 (fX0_instant N i_this_adder_29) fun r33 => (nm (r31 - r33) fun z35 => (if (v4 &&& (4 : Int32)) = (0 : Int32) then (fX9_between_j173 N i_this f_this_now_day f_this_now_second v1 v2 v3 v5 v6 z35 (0 : Int64) f_this_now_months f_this_now_days f_this_now_seconds i_this_told f_this_told_numbers i_this_adder_29) else (fX9_between_j173 N i_this f_this_now_day f_this_now_second v1 v2 v3 v5 v6 z35 (z35 / (86400 : Int64)) f_this_now_months f_this_now_days f_this_now_seconds i_this_told f_this_told_numbers i_this_adder_29)))))))))
noncomputable def fX9_between_j66 (N : Nat) (i_this : Int32) (f_this_now_day : Nat → Int32) (f_this_now_second : Nat → Int32) (v1 : Int32) (v2 : Int32) (v3 : Int32) (v4 : Int32) (v5 : Int32) (t0 : Int32) (f_this_now_months : Nat → Int32) (f_this_now_days : Nat → Int32) (f_this_now_seconds : Nat → Int32) (i_this_told : Int32) (f_this_told_numbers : Nat → Int64) (i_this_adder : Nat → Int32) : Option (Int32 × (Nat → Int32) × (Nat → Int32) × (Nat → Int32) × Int32 × (Nat → Int64) × (Nat → Int32)) := (bd1 (fX4_dayAt N v1 f_this_now_day) fun r37 => (bd1 (fX4_secondAt N v1 f_this_now_second) fun r39 => (bd1 (fX4_instantAt N v2 f_this_now_day f_this_now_second) fun r41 => (bd2 (fX9_mostMonths N r37 r39 r41 v3 t0 i_this i_this_adder) fun r43 i_this_adder_44 => (fX9_between_j101 N i_this f_this_now_day f_this_now_second v1 v2 v3 v4 v5 r43 f_this_now_months f_this_now_days f_this_now_seconds i_this_told f_this_told_numbers i_this_adder_44)))))
noncomputable def fX9_between (N : Nat) (p1 : Int32) (p2 : Int32) (p3 : Int32) (p4 : Int32) (p5 : Int32) (i_this : Int32) (f_this_now_day : Nat → Int32) (f_this_now_second : Nat → Int32) (f_this_now_months : Nat → Int32) (f_this_now_days : Nat → Int32) (f_this_now_seconds : Nat → Int32) (i_this_told : Int32) (f_this_told_numbers : Nat → Int64) (i_this_adder : Nat → Int32) : Option (Int32 × (Nat → Int32) × (Nat → Int32) × (Nat → Int32) × Int32 × (Nat → Int64) × (Nat → Int32)) := (bd1 (fX9_isSlot N p1) fun r46 => (if r46 = (0 : Int32) then (some ((-1 : Int32), f_this_now_months, f_this_now_days, f_this_now_seconds, i_this_told, f_this_told_numbers, i_this_adder)) else (bd1 (fX9_isSlot N p2) fun r49 => (if r49 = (0 : Int32) then (some ((-1 : Int32), f_this_now_months, f_this_now_days, f_this_now_seconds, i_this_told, f_this_told_numbers, i_this_adder)) else (bd1 (fX9_isLaw N p3) fun r52 => (if r52 = (0 : Int32) then (some ((-1 : Int32), f_this_now_months, f_this_now_days, f_this_now_seconds, i_this_told, f_this_told_numbers, i_this_adder)) else (if p4 < (1 : Int32) then (some ((-1 : Int32), f_this_now_months, f_this_now_days, f_this_now_seconds, i_this_told, f_this_told_numbers, i_this_adder)) else (if (7 : Int32) < p4 then (some ((-1 : Int32), f_this_now_months, f_this_now_days, f_this_now_seconds, i_this_told, f_this_told_numbers, i_this_adder)) else (bd1 (fX9_isSlot N p5) fun r57 => (if r57 = (0 : Int32) then (some ((-1 : Int32), f_this_now_months, f_this_now_days, f_this_now_seconds, i_this_told, f_this_told_numbers, i_this_adder)) else (if (p4 &&& (3 : Int32)) = (0 : Int32) then (fX9_between_j101 N i_this f_this_now_day f_this_now_second p1 p2 p3 p4 p5 (0 : Int32) f_this_now_months f_this_now_days f_this_now_seconds i_this_told f_this_told_numbers i_this_adder) else (if (p4 &&& (2 : Int32)) = (0 : Int32) then (fX9_between_j66 N i_this f_this_now_day f_this_now_second p1 p2 p3 p4 p5 (1 : Int32) f_this_now_months f_this_now_days f_this_now_seconds i_this_told f_this_told_numbers i_this_adder) else (fX9_between_j66 N i_this f_this_now_day f_this_now_second p1 p2 p3 p4 p5 (0 : Int32) f_this_now_months f_this_now_days f_this_now_seconds i_this_told f_this_told_numbers i_this_adder)))))))))))))
set_option maxHeartbeats 4000000 in
set_option maxRecDepth 100000 in
theorem kX9_between (l : Launch) (dC : Nat → ClassId) (dI : Nat → Nat → Nat) (cI cJ cB : ClassId) (h_this h_this_now h_this_kept h_this_told h_this_text h_this_script h_this_momentReader h_this_spanReader h_this_adder h_this_other h_this_trial h_this_ways h_this_now_day h_this_now_second h_this_now_months h_this_now_days h_this_now_seconds h_this_told_numbers : Nat) (N : Nat) (p1 : Int32) (p2 : Int32) (p3 : Int32) (p4 : Int32) (p5 : Int32) (i_this : Int32) (f_this_now_day : Nat → Int32) (f_this_now_second : Nat → Int32) (f_this_now_months : Nat → Int32) (f_this_now_days : Nat → Int32) (f_this_now_seconds : Nat → Int32) (i_this_told : Int32) (f_this_told_numbers : Nat → Int64) (i_this_adder : Nat → Int32) (r : Int32) (o_f_this_now_months : Nat → Int32) (o_f_this_now_days : Nat → Int32) (o_f_this_now_seconds : Nat → Int32) (o_i_this_told : Int32) (o_f_this_told_numbers : Nat → Int64) (o_i_this_adder : Nat → Int32) (hf : fX9_between N p1 p2 p3 p4 p5 i_this f_this_now_day f_this_now_second f_this_now_months f_this_now_days f_this_now_seconds i_this_told f_this_told_numbers i_this_adder = some (r, o_f_this_now_months, o_f_this_now_days, o_f_this_now_seconds, o_i_this_told, o_f_this_told_numbers, o_i_this_adder)) : MI l yX9_between (kws yX9_between cX9_between 14 (some .int)) (kR 6 147) (dC, dI) (kT cI cJ cB) [.ref h_this, .int p1, .int p2, .int p3, .int p4, .int p5] [cl_X9 h_this h_this_now h_this_kept h_this_told h_this_text h_this_script h_this_momentReader h_this_spanReader h_this_adder h_this_other h_this_trial h_this_ways i_this, cl_X4 h_this_now h_this_now_day h_this_now_second h_this_now_months h_this_now_days h_this_now_seconds, (h_this_now_day, .inl (cI, 8, .inl f_this_now_day)), (h_this_now_second, .inl (cI, 8, .inl f_this_now_second)), (h_this_now_months, .inl (cI, 8, .inl f_this_now_months)), (h_this_now_days, .inl (cI, 8, .inl f_this_now_days)), (h_this_now_seconds, .inl (cI, 8, .inl f_this_now_seconds)), cl_X3 h_this_told h_this_told_numbers i_this_told, (h_this_told_numbers, .inl (cJ, 8, .inr (.inl f_this_told_numbers))), cl_X0 h_this_adder i_this_adder] [cl_X9 h_this h_this_now h_this_kept h_this_told h_this_text h_this_script h_this_momentReader h_this_spanReader h_this_adder h_this_other h_this_trial h_this_ways i_this, cl_X4 h_this_now h_this_now_day h_this_now_second h_this_now_months h_this_now_days h_this_now_seconds, (h_this_now_day, .inl (cI, 8, .inl f_this_now_day)), (h_this_now_second, .inl (cI, 8, .inl f_this_now_second)), (h_this_now_months, .inl (cI, 8, .inl o_f_this_now_months)), (h_this_now_days, .inl (cI, 8, .inl o_f_this_now_days)), (h_this_now_seconds, .inl (cI, 8, .inl o_f_this_now_seconds)), cl_X3 h_this_told h_this_told_numbers o_i_this_told, (h_this_told_numbers, .inl (cJ, 8, .inr (.inl o_f_this_told_numbers))), cl_X0 h_this_adder o_i_this_adder] r := by
  refine MI.of (cc := cX9_between) (maxL := 14) (by decide) (Nat.le_of_ble_eq_true rfl) (fun p e s m args below meth c A Q ls KC hN hK hP hD hA hl hEnd => ?_)
  obtain ⟨hx, hb, hml, hown, hts⟩ := KC
  have hown : s.vm.findClass "DateSpans" = some m.cls := hown
  have hl : lv_has ls 14 [(0, .ref h_this), (1, .int p1), (2, .int p2), (3, .int p3), (4, .int p4), (5, .int p5)] := hl
  have hS : va_S A s.heap s.heap [] := va_S.rf
  have JN_173 : ∀ (v1 : Int32) (v2 : Int32) (v3 : Int32) (v5 : Int32) (v6 : Int32) (v7 : Int64) (t0 : Int64) (f_this_now_months : Nat → Int32) (f_this_now_days : Nat → Int32) (f_this_now_seconds : Nat → Int32) (i_this_told : Int32) (f_this_told_numbers : Nat → Int64) (i_this_adder : Nat → Int32) (ls : Array Slot) (H : Heap) (locs : List Loc), (fX9_between_j173 N i_this f_this_now_day f_this_now_second) v1 v2 v3 v5 v6 v7 t0 f_this_now_months f_this_now_days f_this_now_seconds i_this_told f_this_told_numbers i_this_adder = some (r, o_f_this_now_months, o_f_this_now_days, o_f_this_now_seconds, o_i_this_told, o_f_this_told_numbers, o_i_this_adder) → lv_has ls 14 [(0, .ref h_this), (1, .int v1), (2, .int v2), (3, .int v3), (5, .int v5), (6, .int v6), (7, .long v7)] → va_P (dC, dI) vwCl [cl_X9 h_this h_this_now h_this_kept h_this_told h_this_text h_this_script h_this_momentReader h_this_spanReader h_this_adder h_this_other h_this_trial h_this_ways i_this, cl_X4 h_this_now h_this_now_day h_this_now_second h_this_now_months h_this_now_days h_this_now_seconds, (h_this_now_day, .inl (cI, 8, .inl f_this_now_day)), (h_this_now_second, .inl (cI, 8, .inl f_this_now_second)), (h_this_now_months, .inl (cI, 8, .inl f_this_now_months)), (h_this_now_days, .inl (cI, 8, .inl f_this_now_days)), (h_this_now_seconds, .inl (cI, 8, .inl f_this_now_seconds)), cl_X3 h_this_told h_this_told_numbers i_this_told, (h_this_told_numbers, .inl (cJ, 8, .inr (.inl f_this_told_numbers))), cl_X0 h_this_adder i_this_adder] H → va_D A [cl_X9 h_this h_this_now h_this_kept h_this_told h_this_text h_this_script h_this_momentReader h_this_spanReader h_this_adder h_this_other h_this_trial h_this_ways i_this, cl_X4 h_this_now h_this_now_day h_this_now_second h_this_now_months h_this_now_days h_this_now_seconds, (h_this_now_day, .inl (cI, 8, .inl f_this_now_day)), (h_this_now_second, .inl (cI, 8, .inl f_this_now_second)), (h_this_now_months, .inl (cI, 8, .inl f_this_now_months)), (h_this_now_days, .inl (cI, 8, .inl f_this_now_days)), (h_this_now_seconds, .inl (cI, 8, .inl f_this_now_seconds)), cl_X3 h_this_told h_this_told_numbers i_this_told, (h_this_told_numbers, .inl (cJ, 8, .inr (.inl f_this_told_numbers))), cl_X0 h_this_adder i_this_adder] → va_S A s.heap H locs → W p l e (kR 6 147) s m args below meth c H locs 0 0 Q (F0 m 173 ls [.long t0]) := by
    intro v1 v2 v3 v5 v6 v7 t0 f_this_now_months f_this_now_days f_this_now_seconds i_this_told f_this_told_numbers i_this_adder ls H locs h hl hP hD hS
    unfold fX9_between_j173 at h
    refine lv_lstore (lv' := [(9, .long t0), (0, .ref h_this), (1, .int v1), (2, .int v2), (3, .int v3), (5, .int v5), (6, .int v6), (7, .long v7)]) hx hb dX9_between_173 hl (by decide) rfl (fun ls hl => ?_)
    refine lv_lload hx hb dX9_between_175 (lv_at hl 7 rfl) ?_
    refine lv_lload hx hb dX9_between_177 (lv_at hl 0 rfl) ?_
    refine lv_ldc2 (v := (86400 : Int64)) hx hb hown (hts _ (kq q_414 rfl)) dX9_between_179 ?_
    refine lv_lmul hx hb dX9_between_182 ?_
    refine lv_lsub hx hb dX9_between_183 ?_
    refine lv_topl (fun z1 ez1 => ?_)
    have h := nm_at ez1 h
    refine lv_lstore (lv' := [(11, .long z1), (9, .long t0), (0, .ref h_this), (1, .int v1), (2, .int v2), (3, .int v3), (5, .int v5), (6, .int v6), (7, .long v7)]) hx hb dX9_between_184 hl (by decide) rfl (fun ls hl => ?_)
    refine lv_aload_n hx hb dX9_between_186 rfl (lv_at hl 2 rfl) ?_
    refine lv_iload hx hb dX9_between_187 (lv_at hl 6 rfl) ?_
    refine lv_iload hx hb dX9_between_189 (lv_at hl 7 rfl) ?_
    refine lv_i2l hx hb dX9_between_191 rfl ?_
    refine lv_lload hx hb dX9_between_192 (lv_at hl 1 rfl) ?_
    refine lv_lload hx hb dX9_between_194 (lv_at hl 0 rfl) ?_
    obtain ⟨r2, f_this_now_months_3, f_this_now_days_4, f_this_now_seconds_5, i_this_told_6, f_this_told_numbers_7, hc8, h⟩ := bd6_at h
    refine kjI (kV (own := "DateSpans") (C := "DateSpans") (b := h_this) (As := [.int v5, .long v6.toInt64, .long t0, .long z1]) (rest := []) ⟨hx, hb, hml, hown, hts⟩ (kX9_comesToSpan l dC dI cI cJ cB h_this h_this_now h_this_kept h_this_told h_this_text h_this_script h_this_momentReader h_this_spanReader h_this_adder h_this_other h_this_trial h_this_ways h_this_now_day h_this_now_second h_this_now_months h_this_now_days h_this_now_seconds h_this_told_numbers N v5 v6.toInt64 t0 z1 i_this f_this_now_months f_this_now_days f_this_now_seconds i_this_told f_this_told_numbers r2 f_this_now_months_3 f_this_now_days_4 f_this_now_seconds_5 i_this_told_6 f_this_told_numbers_7 hc8 _) (kgV (kq q_461 rfl) (kq q_463 rfl) (kq q_5 rfl) (kq q_18 rfl) (kq q_464 rfl)) yd_X9_comesToSpan ⟨Nat.le_of_ble_eq_true rfl, Nat.le_of_ble_eq_true rfl⟩ hN hK hP hD [0, 1, 4, 5, 6, 7, 8] rfl rfl (ci := 8) rfl rfl rfl rfl rfl hl.1 rfl (lv_room (Nat.le_of_ble_eq_true rfl)) dX9_between_196) hP hD hS hA [0, 1, 4, 5, 6, 7, 8] rfl rfl (fun H locs hP hD hS => ?_)
    have hP : va_P (dC, dI) vwCl [cl_X9 h_this h_this_now h_this_kept h_this_told h_this_text h_this_script h_this_momentReader h_this_spanReader h_this_adder h_this_other h_this_trial h_this_ways i_this, cl_X4 h_this_now h_this_now_day h_this_now_second h_this_now_months h_this_now_days h_this_now_seconds, (h_this_now_day, .inl (cI, 8, .inl f_this_now_day)), (h_this_now_second, .inl (cI, 8, .inl f_this_now_second)), (h_this_now_months, .inl (cI, 8, .inl f_this_now_months_3)), (h_this_now_days, .inl (cI, 8, .inl f_this_now_days_4)), (h_this_now_seconds, .inl (cI, 8, .inl f_this_now_seconds_5)), cl_X3 h_this_told h_this_told_numbers i_this_told_6, (h_this_told_numbers, .inl (cJ, 8, .inr (.inl f_this_told_numbers_7))), cl_X0 h_this_adder i_this_adder] H := hP
    have hD : va_D A [cl_X9 h_this h_this_now h_this_kept h_this_told h_this_text h_this_script h_this_momentReader h_this_spanReader h_this_adder h_this_other h_this_trial h_this_ways i_this, cl_X4 h_this_now h_this_now_day h_this_now_second h_this_now_months h_this_now_days h_this_now_seconds, (h_this_now_day, .inl (cI, 8, .inl f_this_now_day)), (h_this_now_second, .inl (cI, 8, .inl f_this_now_second)), (h_this_now_months, .inl (cI, 8, .inl f_this_now_months_3)), (h_this_now_days, .inl (cI, 8, .inl f_this_now_days_4)), (h_this_now_seconds, .inl (cI, 8, .inl f_this_now_seconds_5)), cl_X3 h_this_told h_this_told_numbers i_this_told_6, (h_this_told_numbers, .inl (cJ, 8, .inr (.inl f_this_told_numbers_7))), cl_X0 h_this_adder i_this_adder] := hD
    refine lv_istore (lv' := [(13, .int r2), (11, .long z1), (9, .long t0), (0, .ref h_this), (1, .int v1), (2, .int v2), (3, .int v3), (5, .int v5), (6, .int v6), (7, .long v7)]) hx hb dX9_between_199 hl (by decide) rfl (fun ls hl => ?_)
    refine lv_iload hx hb dX9_between_201 (lv_at hl 8 rfl) ?_
    refine lv_i2l hx hb dX9_between_203 rfl ?_
    refine lv_lload hx hb dX9_between_204 (lv_at hl 2 rfl) ?_
    refine lv_lload hx hb dX9_between_206 (lv_at hl 1 rfl) ?_
    obtain ⟨r9, hc10, h⟩ := bd1_at h
    refine kjSI (kS0 (own := "DateSpans") (As := [.long v6.toInt64, .long t0, .long z1]) (rest := []) ⟨hx, hb, hml, hown, hts⟩ (kX9_areBounded l N v6.toInt64 t0 z1 r9 hc10) (kgS (kq q_288 rfl) (kq q_289 rfl) (kq q_18 rfl) (kq q_290 rfl)) yd_X9_areBounded ⟨Nat.le_of_ble_eq_true rfl, Nat.le_of_ble_eq_true rfl⟩ rfl rfl hl.1 rfl (lv_room (Nat.le_of_ble_eq_true rfl)) dX9_between_208) ?_
    refine lv_if_eq (tgt := 238) hx hb dX9_between_211 (by decide) (fun c11 => ?_) (fun c11 => ?_)
    · have h := ite_t c11 h
      refine lv_iload hx hb dX9_between_238 (lv_at hl 0 rfl) ?_
      obtain ⟨rfl, rfl, rfl, rfl, rfl, rfl, rfl⟩ := pj7 h
      exact hEnd _ _ _ _ hP hS dX9_between_240 rfl
    have h := ite_f c11 h
    refine lv_aload_n hx hb dX9_between_214 rfl (lv_at hl 3 rfl) ?_
    refine va_get (D := (dC, dI)) (ci := 8) (v := .ref h_this_told) (C := RX9) (T := TX9) (N := 12) hx hb hts inX9 hown hK hP 0 rfl rfl 3 (by decide) (hts _ (kq q_229 rfl)) (fun _ h9 => h9) rfl dX9_between_215 ?_
    refine lv_aload_n hx hb dX9_between_218 rfl (lv_at hl 3 rfl) ?_
    refine lv_iload_n hx hb dX9_between_219 rfl (lv_at hl 4 rfl) ?_
    refine lv_iload_n hx hb dX9_between_220 rfl (lv_at hl 5 rfl) ?_
    refine lv_iload hx hb dX9_between_221 (lv_at hl 7 rfl) ?_
    refine lv_iload_n hx hb dX9_between_223 rfl (lv_at hl 6 rfl) ?_
    obtain ⟨r12, i_this_adder_13, hc14, h⟩ := bd2_at h
    refine kjI (kV (own := "DateSpans") (C := "DateSpans") (b := h_this) (As := [.int v1, .int v2, .int v5, .int v3]) (rest := [.ref h_this_told]) ⟨hx, hb, hml, hown, hts⟩ (kX9_returns l dC dI cI cJ cB h_this h_this_now h_this_kept h_this_told h_this_text h_this_script h_this_momentReader h_this_spanReader h_this_adder h_this_other h_this_trial h_this_ways h_this_now_day h_this_now_second h_this_now_months h_this_now_days h_this_now_seconds N v1 v2 v5 v3 i_this f_this_now_day f_this_now_second f_this_now_months_3 f_this_now_days_4 f_this_now_seconds_5 i_this_adder r12 i_this_adder_13 hc14 _) (kgV (kq q_470 rfl) (kq q_472 rfl) (kq q_6 rfl) (kq q_18 rfl) (kq q_473 rfl)) yd_X9_returns ⟨Nat.le_of_ble_eq_true rfl, Nat.le_of_ble_eq_true rfl⟩ hN hK hP hD [0, 1, 2, 3, 4, 5, 6, 9] rfl rfl (ci := 8) rfl rfl rfl rfl rfl hl.1 rfl (lv_room (Nat.le_of_ble_eq_true rfl)) dX9_between_224) hP hD hS hA [0, 1, 2, 3, 4, 5, 6, 9] rfl rfl (fun H locs hP hD hS => ?_)
    have hP : va_P (dC, dI) vwCl [cl_X9 h_this h_this_now h_this_kept h_this_told h_this_text h_this_script h_this_momentReader h_this_spanReader h_this_adder h_this_other h_this_trial h_this_ways i_this, cl_X4 h_this_now h_this_now_day h_this_now_second h_this_now_months h_this_now_days h_this_now_seconds, (h_this_now_day, .inl (cI, 8, .inl f_this_now_day)), (h_this_now_second, .inl (cI, 8, .inl f_this_now_second)), (h_this_now_months, .inl (cI, 8, .inl f_this_now_months_3)), (h_this_now_days, .inl (cI, 8, .inl f_this_now_days_4)), (h_this_now_seconds, .inl (cI, 8, .inl f_this_now_seconds_5)), cl_X3 h_this_told h_this_told_numbers i_this_told_6, (h_this_told_numbers, .inl (cJ, 8, .inr (.inl f_this_told_numbers_7))), cl_X0 h_this_adder i_this_adder_13] H := hP
    have hD : va_D A [cl_X9 h_this h_this_now h_this_kept h_this_told h_this_text h_this_script h_this_momentReader h_this_spanReader h_this_adder h_this_other h_this_trial h_this_ways i_this, cl_X4 h_this_now h_this_now_day h_this_now_second h_this_now_months h_this_now_days h_this_now_seconds, (h_this_now_day, .inl (cI, 8, .inl f_this_now_day)), (h_this_now_second, .inl (cI, 8, .inl f_this_now_second)), (h_this_now_months, .inl (cI, 8, .inl f_this_now_months_3)), (h_this_now_days, .inl (cI, 8, .inl f_this_now_days_4)), (h_this_now_seconds, .inl (cI, 8, .inl f_this_now_seconds_5)), cl_X3 h_this_told h_this_told_numbers i_this_told_6, (h_this_told_numbers, .inl (cJ, 8, .inr (.inl f_this_told_numbers_7))), cl_X0 h_this_adder i_this_adder_13] := hD
    refine lv_if_eq (tgt := 234) hx hb dX9_between_227 (by decide) (fun c15 => ?_) (fun c15 => ?_)
    · have h := ite_t c15 h
      refine lv_lconst (v := (0 : Int64)) hx hb dX9_between_234 (by decide) ?_
      obtain ⟨i_this_told_16, f_this_told_numbers_17, hc18, h⟩ := bd2_at h
      refine kjV (kV (own := "DateSpans") (C := "DateSpans$Row") (b := h_this_told) (As := [.long (0 : Int64)]) (rest := []) ⟨hx, hb, hml, hown, hts⟩ (kX3_push l dC dI cI cJ cB h_this_told h_this_told_numbers N (0 : Int64) i_this_told_6 f_this_told_numbers_7 i_this_told_16 f_this_told_numbers_17 hc18 _) (kgV (kq q_474 rfl) (kq q_431 rfl) (kq q_432 rfl) (kq q_20 rfl) (kq q_433 rfl)) yd_X3_push ⟨Nat.le_of_ble_eq_true rfl, Nat.le_of_ble_eq_true rfl⟩ hN hK hP hD [7, 8] rfl rfl (ci := 2) rfl rfl rfl rfl rfl hl.1 rfl (lv_room (Nat.le_of_ble_eq_true rfl)) dX9_between_235) hP hD hS hA [7, 8] rfl rfl (fun H locs hP hD hS => ?_)
      have hP : va_P (dC, dI) vwCl [cl_X9 h_this h_this_now h_this_kept h_this_told h_this_text h_this_script h_this_momentReader h_this_spanReader h_this_adder h_this_other h_this_trial h_this_ways i_this, cl_X4 h_this_now h_this_now_day h_this_now_second h_this_now_months h_this_now_days h_this_now_seconds, (h_this_now_day, .inl (cI, 8, .inl f_this_now_day)), (h_this_now_second, .inl (cI, 8, .inl f_this_now_second)), (h_this_now_months, .inl (cI, 8, .inl f_this_now_months_3)), (h_this_now_days, .inl (cI, 8, .inl f_this_now_days_4)), (h_this_now_seconds, .inl (cI, 8, .inl f_this_now_seconds_5)), cl_X3 h_this_told h_this_told_numbers i_this_told_16, (h_this_told_numbers, .inl (cJ, 8, .inr (.inl f_this_told_numbers_17))), cl_X0 h_this_adder i_this_adder_13] H := hP
      have hD : va_D A [cl_X9 h_this h_this_now h_this_kept h_this_told h_this_text h_this_script h_this_momentReader h_this_spanReader h_this_adder h_this_other h_this_trial h_this_ways i_this, cl_X4 h_this_now h_this_now_day h_this_now_second h_this_now_months h_this_now_days h_this_now_seconds, (h_this_now_day, .inl (cI, 8, .inl f_this_now_day)), (h_this_now_second, .inl (cI, 8, .inl f_this_now_second)), (h_this_now_months, .inl (cI, 8, .inl f_this_now_months_3)), (h_this_now_days, .inl (cI, 8, .inl f_this_now_days_4)), (h_this_now_seconds, .inl (cI, 8, .inl f_this_now_seconds_5)), cl_X3 h_this_told h_this_told_numbers i_this_told_16, (h_this_told_numbers, .inl (cJ, 8, .inr (.inl f_this_told_numbers_17))), cl_X0 h_this_adder i_this_adder_13] := hD
      refine lv_iload hx hb dX9_between_238 (lv_at hl 0 rfl) ?_
      obtain ⟨rfl, rfl, rfl, rfl, rfl, rfl, rfl⟩ := pj7 h
      exact hEnd _ _ _ _ hP hS dX9_between_240 rfl
    have h := ite_f c15 h
    refine lv_lconst (v := (1 : Int64)) hx hb dX9_between_230 (by decide) ?_
    refine lv_goto (tgt := 235) hx hb dX9_between_231 (by decide) ?_
    obtain ⟨i_this_told_19, f_this_told_numbers_20, hc21, h⟩ := bd2_at h
    refine kjV (kV (own := "DateSpans") (C := "DateSpans$Row") (b := h_this_told) (As := [.long (1 : Int64)]) (rest := []) ⟨hx, hb, hml, hown, hts⟩ (kX3_push l dC dI cI cJ cB h_this_told h_this_told_numbers N (1 : Int64) i_this_told_6 f_this_told_numbers_7 i_this_told_19 f_this_told_numbers_20 hc21 _) (kgV (kq q_474 rfl) (kq q_431 rfl) (kq q_432 rfl) (kq q_20 rfl) (kq q_433 rfl)) yd_X3_push ⟨Nat.le_of_ble_eq_true rfl, Nat.le_of_ble_eq_true rfl⟩ hN hK hP hD [7, 8] rfl rfl (ci := 2) rfl rfl rfl rfl rfl hl.1 rfl (lv_room (Nat.le_of_ble_eq_true rfl)) dX9_between_235) hP hD hS hA [7, 8] rfl rfl (fun H locs hP hD hS => ?_)
    have hP : va_P (dC, dI) vwCl [cl_X9 h_this h_this_now h_this_kept h_this_told h_this_text h_this_script h_this_momentReader h_this_spanReader h_this_adder h_this_other h_this_trial h_this_ways i_this, cl_X4 h_this_now h_this_now_day h_this_now_second h_this_now_months h_this_now_days h_this_now_seconds, (h_this_now_day, .inl (cI, 8, .inl f_this_now_day)), (h_this_now_second, .inl (cI, 8, .inl f_this_now_second)), (h_this_now_months, .inl (cI, 8, .inl f_this_now_months_3)), (h_this_now_days, .inl (cI, 8, .inl f_this_now_days_4)), (h_this_now_seconds, .inl (cI, 8, .inl f_this_now_seconds_5)), cl_X3 h_this_told h_this_told_numbers i_this_told_19, (h_this_told_numbers, .inl (cJ, 8, .inr (.inl f_this_told_numbers_20))), cl_X0 h_this_adder i_this_adder_13] H := hP
    have hD : va_D A [cl_X9 h_this h_this_now h_this_kept h_this_told h_this_text h_this_script h_this_momentReader h_this_spanReader h_this_adder h_this_other h_this_trial h_this_ways i_this, cl_X4 h_this_now h_this_now_day h_this_now_second h_this_now_months h_this_now_days h_this_now_seconds, (h_this_now_day, .inl (cI, 8, .inl f_this_now_day)), (h_this_now_second, .inl (cI, 8, .inl f_this_now_second)), (h_this_now_months, .inl (cI, 8, .inl f_this_now_months_3)), (h_this_now_days, .inl (cI, 8, .inl f_this_now_days_4)), (h_this_now_seconds, .inl (cI, 8, .inl f_this_now_seconds_5)), cl_X3 h_this_told h_this_told_numbers i_this_told_19, (h_this_told_numbers, .inl (cJ, 8, .inr (.inl f_this_told_numbers_20))), cl_X0 h_this_adder i_this_adder_13] := hD
    refine lv_iload hx hb dX9_between_238 (lv_at hl 0 rfl) ?_
    obtain ⟨rfl, rfl, rfl, rfl, rfl, rfl, rfl⟩ := pj7 h
    exact hEnd _ _ _ _ hP hS dX9_between_240 rfl
  have JN_101 : ∀ (v1 : Int32) (v2 : Int32) (v3 : Int32) (v4 : Int32) (v5 : Int32) (v6 : Int32) (f_this_now_months : Nat → Int32) (f_this_now_days : Nat → Int32) (f_this_now_seconds : Nat → Int32) (i_this_told : Int32) (f_this_told_numbers : Nat → Int64) (i_this_adder : Nat → Int32) (ls : Array Slot) (H : Heap) (locs : List Loc), (fX9_between_j101 N i_this f_this_now_day f_this_now_second) v1 v2 v3 v4 v5 v6 f_this_now_months f_this_now_days f_this_now_seconds i_this_told f_this_told_numbers i_this_adder = some (r, o_f_this_now_months, o_f_this_now_days, o_f_this_now_seconds, o_i_this_told, o_f_this_told_numbers, o_i_this_adder) → lv_has ls 14 [(0, .ref h_this), (1, .int v1), (2, .int v2), (3, .int v3), (4, .int v4), (5, .int v5), (6, .int v6)] → va_P (dC, dI) vwCl [cl_X9 h_this h_this_now h_this_kept h_this_told h_this_text h_this_script h_this_momentReader h_this_spanReader h_this_adder h_this_other h_this_trial h_this_ways i_this, cl_X4 h_this_now h_this_now_day h_this_now_second h_this_now_months h_this_now_days h_this_now_seconds, (h_this_now_day, .inl (cI, 8, .inl f_this_now_day)), (h_this_now_second, .inl (cI, 8, .inl f_this_now_second)), (h_this_now_months, .inl (cI, 8, .inl f_this_now_months)), (h_this_now_days, .inl (cI, 8, .inl f_this_now_days)), (h_this_now_seconds, .inl (cI, 8, .inl f_this_now_seconds)), cl_X3 h_this_told h_this_told_numbers i_this_told, (h_this_told_numbers, .inl (cJ, 8, .inr (.inl f_this_told_numbers))), cl_X0 h_this_adder i_this_adder] H → va_D A [cl_X9 h_this h_this_now h_this_kept h_this_told h_this_text h_this_script h_this_momentReader h_this_spanReader h_this_adder h_this_other h_this_trial h_this_ways i_this, cl_X4 h_this_now h_this_now_day h_this_now_second h_this_now_months h_this_now_days h_this_now_seconds, (h_this_now_day, .inl (cI, 8, .inl f_this_now_day)), (h_this_now_second, .inl (cI, 8, .inl f_this_now_second)), (h_this_now_months, .inl (cI, 8, .inl f_this_now_months)), (h_this_now_days, .inl (cI, 8, .inl f_this_now_days)), (h_this_now_seconds, .inl (cI, 8, .inl f_this_now_seconds)), cl_X3 h_this_told h_this_told_numbers i_this_told, (h_this_told_numbers, .inl (cJ, 8, .inr (.inl f_this_told_numbers))), cl_X0 h_this_adder i_this_adder] → va_S A s.heap H locs → W p l e (kR 6 147) s m args below meth c H locs 0 0 Q (F0 m 101 ls []) := by
    intro v1 v2 v3 v4 v5 v6 f_this_now_months f_this_now_days f_this_now_seconds i_this_told f_this_told_numbers i_this_adder ls H locs h hl hP hD hS
    unfold fX9_between_j101 at h
    refine lv_aload_n hx hb dX9_between_101 rfl (lv_at hl 0 rfl) ?_
    refine va_get (D := (dC, dI)) (ci := 8) (v := .ref h_this_adder) (C := RX9) (T := TX9) (N := 12) hx hb hts inX9 hown hK hP 0 rfl rfl 8 (by decide) (hts _ (kq q_234 rfl)) (fun _ h9 => h9) rfl dX9_between_102 ?_
    refine lv_iload hx hb dX9_between_105 (lv_at hl 6 rfl) ?_
    refine lv_iconst (v := (0 : Int32)) hx hb dX9_between_107 (by decide) ?_
    refine lv_iconst (v := (0 : Int32)) hx hb dX9_between_108 (by decide) ?_
    refine lv_iload_n hx hb dX9_between_109 rfl (lv_at hl 3 rfl) ?_
    obtain ⟨i_this_adder_22, hc23, h⟩ := bd1_at h
    refine kjV (kV (own := "DateSpans") (C := "DateSpans$Adder") (b := h_this_adder) (As := [.int v6, .int (0 : Int32), .int (0 : Int32), .int v3]) (rest := []) ⟨hx, hb, hml, hown, hts⟩ (kX0_takesNumbers l dC dI cI cJ cB h_this_adder N v6 (0 : Int32) (0 : Int32) v3 i_this_adder i_this_adder_22 hc23 _) (kgV (kq q_459 rfl) (kq q_367 rfl) (kq q_368 rfl) (kq q_24 rfl) (kq q_369 rfl)) yd_X0_takesNumbers ⟨Nat.le_of_ble_eq_true rfl, Nat.le_of_ble_eq_true rfl⟩ hN hK hP hD [9] rfl rfl (ci := 0) rfl rfl rfl rfl rfl hl.1 rfl (lv_room (Nat.le_of_ble_eq_true rfl)) dX9_between_110) hP hD hS hA [9] rfl rfl (fun H locs hP hD hS => ?_)
    have hP : va_P (dC, dI) vwCl [cl_X9 h_this h_this_now h_this_kept h_this_told h_this_text h_this_script h_this_momentReader h_this_spanReader h_this_adder h_this_other h_this_trial h_this_ways i_this, cl_X4 h_this_now h_this_now_day h_this_now_second h_this_now_months h_this_now_days h_this_now_seconds, (h_this_now_day, .inl (cI, 8, .inl f_this_now_day)), (h_this_now_second, .inl (cI, 8, .inl f_this_now_second)), (h_this_now_months, .inl (cI, 8, .inl f_this_now_months)), (h_this_now_days, .inl (cI, 8, .inl f_this_now_days)), (h_this_now_seconds, .inl (cI, 8, .inl f_this_now_seconds)), cl_X3 h_this_told h_this_told_numbers i_this_told, (h_this_told_numbers, .inl (cJ, 8, .inr (.inl f_this_told_numbers))), cl_X0 h_this_adder i_this_adder_22] H := hP
    have hD : va_D A [cl_X9 h_this h_this_now h_this_kept h_this_told h_this_text h_this_script h_this_momentReader h_this_spanReader h_this_adder h_this_other h_this_trial h_this_ways i_this, cl_X4 h_this_now h_this_now_day h_this_now_second h_this_now_months h_this_now_days h_this_now_seconds, (h_this_now_day, .inl (cI, 8, .inl f_this_now_day)), (h_this_now_second, .inl (cI, 8, .inl f_this_now_second)), (h_this_now_months, .inl (cI, 8, .inl f_this_now_months)), (h_this_now_days, .inl (cI, 8, .inl f_this_now_days)), (h_this_now_seconds, .inl (cI, 8, .inl f_this_now_seconds)), cl_X3 h_this_told h_this_told_numbers i_this_told, (h_this_told_numbers, .inl (cJ, 8, .inr (.inl f_this_told_numbers))), cl_X0 h_this_adder i_this_adder_22] := hD
    refine lv_aload_n hx hb dX9_between_113 rfl (lv_at hl 0 rfl) ?_
    refine va_get (D := (dC, dI)) (ci := 8) (v := .ref h_this_adder) (C := RX9) (T := TX9) (N := 12) hx hb hts inX9 hown hK hP 0 rfl rfl 8 (by decide) (hts _ (kq q_234 rfl)) (fun _ h9 => h9) rfl dX9_between_114 ?_
    refine lv_aload_n hx hb dX9_between_117 rfl (lv_at hl 0 rfl) ?_
    refine va_get (D := (dC, dI)) (ci := 8) (v := .ref h_this_now) (C := RX9) (T := TX9) (N := 12) hx hb hts inX9 hown hK hP 0 rfl rfl 0 (by decide) (hts _ (kq q_226 rfl)) (fun _ h9 => h9) rfl dX9_between_118 ?_
    refine lv_iload_n hx hb dX9_between_121 rfl (lv_at hl 1 rfl) ?_
    obtain ⟨r24, hc25, h⟩ := bd1_at h
    refine kjI (kV (own := "DateSpans") (C := "DateSpans$Slots") (b := h_this_now) (As := [.int v1]) (rest := [.ref h_this_adder]) ⟨hx, hb, hml, hown, hts⟩ (kX4_dayAt l dC dI cI cJ cB h_this_now h_this_now_day h_this_now_second h_this_now_months h_this_now_days h_this_now_seconds N v1 f_this_now_day r24 hc25 _) (kgV (kq q_275 rfl) (kq q_276 rfl) (kq q_277 rfl) (kq q_19 rfl) (kq q_278 rfl)) yd_X4_dayAt ⟨Nat.le_of_ble_eq_true rfl, Nat.le_of_ble_eq_true rfl⟩ hN hK hP hD [1, 2] rfl rfl (ci := 3) rfl rfl rfl rfl rfl hl.1 rfl (lv_room (Nat.le_of_ble_eq_true rfl)) dX9_between_122) hP hD hS hA [1, 2] rfl rfl (fun H locs hP hD hS => ?_)
    have hP : va_P (dC, dI) vwCl [cl_X9 h_this h_this_now h_this_kept h_this_told h_this_text h_this_script h_this_momentReader h_this_spanReader h_this_adder h_this_other h_this_trial h_this_ways i_this, cl_X4 h_this_now h_this_now_day h_this_now_second h_this_now_months h_this_now_days h_this_now_seconds, (h_this_now_day, .inl (cI, 8, .inl f_this_now_day)), (h_this_now_second, .inl (cI, 8, .inl f_this_now_second)), (h_this_now_months, .inl (cI, 8, .inl f_this_now_months)), (h_this_now_days, .inl (cI, 8, .inl f_this_now_days)), (h_this_now_seconds, .inl (cI, 8, .inl f_this_now_seconds)), cl_X3 h_this_told h_this_told_numbers i_this_told, (h_this_told_numbers, .inl (cJ, 8, .inr (.inl f_this_told_numbers))), cl_X0 h_this_adder i_this_adder_22] H := hP
    have hD : va_D A [cl_X9 h_this h_this_now h_this_kept h_this_told h_this_text h_this_script h_this_momentReader h_this_spanReader h_this_adder h_this_other h_this_trial h_this_ways i_this, cl_X4 h_this_now h_this_now_day h_this_now_second h_this_now_months h_this_now_days h_this_now_seconds, (h_this_now_day, .inl (cI, 8, .inl f_this_now_day)), (h_this_now_second, .inl (cI, 8, .inl f_this_now_second)), (h_this_now_months, .inl (cI, 8, .inl f_this_now_months)), (h_this_now_days, .inl (cI, 8, .inl f_this_now_days)), (h_this_now_seconds, .inl (cI, 8, .inl f_this_now_seconds)), cl_X3 h_this_told h_this_told_numbers i_this_told, (h_this_told_numbers, .inl (cJ, 8, .inr (.inl f_this_told_numbers))), cl_X0 h_this_adder i_this_adder_22] := hD
    refine lv_aload_n hx hb dX9_between_125 rfl (lv_at hl 0 rfl) ?_
    refine va_get (D := (dC, dI)) (ci := 8) (v := .ref h_this_now) (C := RX9) (T := TX9) (N := 12) hx hb hts inX9 hown hK hP 0 rfl rfl 0 (by decide) (hts _ (kq q_226 rfl)) (fun _ h9 => h9) rfl dX9_between_126 ?_
    refine lv_iload_n hx hb dX9_between_129 rfl (lv_at hl 1 rfl) ?_
    obtain ⟨r26, hc27, h⟩ := bd1_at h
    refine kjI (kV (own := "DateSpans") (C := "DateSpans$Slots") (b := h_this_now) (As := [.int v1]) (rest := [.int r24, .ref h_this_adder]) ⟨hx, hb, hml, hown, hts⟩ (kX4_secondAt l dC dI cI cJ cB h_this_now h_this_now_day h_this_now_second h_this_now_months h_this_now_days h_this_now_seconds N v1 f_this_now_second r26 hc27 _) (kgV (kq q_310 rfl) (kq q_311 rfl) (kq q_312 rfl) (kq q_19 rfl) (kq q_313 rfl)) yd_X4_secondAt ⟨Nat.le_of_ble_eq_true rfl, Nat.le_of_ble_eq_true rfl⟩ hN hK hP hD [1, 3] rfl rfl (ci := 3) rfl rfl rfl rfl rfl hl.1 rfl (lv_room (Nat.le_of_ble_eq_true rfl)) dX9_between_130) hP hD hS hA [1, 3] rfl rfl (fun H locs hP hD hS => ?_)
    have hP : va_P (dC, dI) vwCl [cl_X9 h_this h_this_now h_this_kept h_this_told h_this_text h_this_script h_this_momentReader h_this_spanReader h_this_adder h_this_other h_this_trial h_this_ways i_this, cl_X4 h_this_now h_this_now_day h_this_now_second h_this_now_months h_this_now_days h_this_now_seconds, (h_this_now_day, .inl (cI, 8, .inl f_this_now_day)), (h_this_now_second, .inl (cI, 8, .inl f_this_now_second)), (h_this_now_months, .inl (cI, 8, .inl f_this_now_months)), (h_this_now_days, .inl (cI, 8, .inl f_this_now_days)), (h_this_now_seconds, .inl (cI, 8, .inl f_this_now_seconds)), cl_X3 h_this_told h_this_told_numbers i_this_told, (h_this_told_numbers, .inl (cJ, 8, .inr (.inl f_this_told_numbers))), cl_X0 h_this_adder i_this_adder_22] H := hP
    have hD : va_D A [cl_X9 h_this h_this_now h_this_kept h_this_told h_this_text h_this_script h_this_momentReader h_this_spanReader h_this_adder h_this_other h_this_trial h_this_ways i_this, cl_X4 h_this_now h_this_now_day h_this_now_second h_this_now_months h_this_now_days h_this_now_seconds, (h_this_now_day, .inl (cI, 8, .inl f_this_now_day)), (h_this_now_second, .inl (cI, 8, .inl f_this_now_second)), (h_this_now_months, .inl (cI, 8, .inl f_this_now_months)), (h_this_now_days, .inl (cI, 8, .inl f_this_now_days)), (h_this_now_seconds, .inl (cI, 8, .inl f_this_now_seconds)), cl_X3 h_this_told h_this_told_numbers i_this_told, (h_this_told_numbers, .inl (cJ, 8, .inr (.inl f_this_told_numbers))), cl_X0 h_this_adder i_this_adder_22] := hD
    refine lv_iconst (v := (0 : Int32)) hx hb dX9_between_133 (by decide) ?_
    obtain ⟨r28, i_this_adder_29, hc30, h⟩ := bd2_at h
    refine kjI (kV (own := "DateSpans") (C := "DateSpans$Adder") (b := h_this_adder) (As := [.int r24, .int r26, .int (0 : Int32)]) (rest := []) ⟨hx, hb, hml, hown, hts⟩ (kX0_leads l dC dI cI cJ cB h_this_adder N r24 r26 (0 : Int32) i_this_adder_22 r28 i_this_adder_29 hc30 _) (kgV (kq q_370 rfl) (kq q_371 rfl) (kq q_372 rfl) (kq q_24 rfl) (kq q_373 rfl)) yd_X0_leads ⟨Nat.le_of_ble_eq_true rfl, Nat.le_of_ble_eq_true rfl⟩ hN hK hP hD [9] rfl rfl (ci := 0) rfl rfl rfl rfl rfl hl.1 rfl (lv_room (Nat.le_of_ble_eq_true rfl)) dX9_between_134) hP hD hS hA [9] rfl rfl (fun H locs hP hD hS => ?_)
    have hP : va_P (dC, dI) vwCl [cl_X9 h_this h_this_now h_this_kept h_this_told h_this_text h_this_script h_this_momentReader h_this_spanReader h_this_adder h_this_other h_this_trial h_this_ways i_this, cl_X4 h_this_now h_this_now_day h_this_now_second h_this_now_months h_this_now_days h_this_now_seconds, (h_this_now_day, .inl (cI, 8, .inl f_this_now_day)), (h_this_now_second, .inl (cI, 8, .inl f_this_now_second)), (h_this_now_months, .inl (cI, 8, .inl f_this_now_months)), (h_this_now_days, .inl (cI, 8, .inl f_this_now_days)), (h_this_now_seconds, .inl (cI, 8, .inl f_this_now_seconds)), cl_X3 h_this_told h_this_told_numbers i_this_told, (h_this_told_numbers, .inl (cJ, 8, .inr (.inl f_this_told_numbers))), cl_X0 h_this_adder i_this_adder_29] H := hP
    have hD : va_D A [cl_X9 h_this h_this_now h_this_kept h_this_told h_this_text h_this_script h_this_momentReader h_this_spanReader h_this_adder h_this_other h_this_trial h_this_ways i_this, cl_X4 h_this_now h_this_now_day h_this_now_second h_this_now_months h_this_now_days h_this_now_seconds, (h_this_now_day, .inl (cI, 8, .inl f_this_now_day)), (h_this_now_second, .inl (cI, 8, .inl f_this_now_second)), (h_this_now_months, .inl (cI, 8, .inl f_this_now_months)), (h_this_now_days, .inl (cI, 8, .inl f_this_now_days)), (h_this_now_seconds, .inl (cI, 8, .inl f_this_now_seconds)), cl_X3 h_this_told h_this_told_numbers i_this_told, (h_this_told_numbers, .inl (cJ, 8, .inr (.inl f_this_told_numbers))), cl_X0 h_this_adder i_this_adder_29] := hD
    refine lv_pop hx hb dX9_between_137 rfl ?_
    refine lv_aload_n hx hb dX9_between_138 rfl (lv_at hl 0 rfl) ?_
    refine va_get (D := (dC, dI)) (ci := 8) (v := .ref h_this_now) (C := RX9) (T := TX9) (N := 12) hx hb hts inX9 hown hK hP 0 rfl rfl 0 (by decide) (hts _ (kq q_226 rfl)) (fun _ h9 => h9) rfl dX9_between_139 ?_
    refine lv_iload_n hx hb dX9_between_142 rfl (lv_at hl 2 rfl) ?_
    obtain ⟨r31, hc32, h⟩ := bd1_at h
    refine kjL (kV (own := "DateSpans") (C := "DateSpans$Slots") (b := h_this_now) (As := [.int v2]) (rest := []) ⟨hx, hb, hml, hown, hts⟩ (kX4_instantAt l dC dI cI cJ cB h_this_now h_this_now_day h_this_now_second h_this_now_months h_this_now_days h_this_now_seconds N v2 f_this_now_day f_this_now_second r31 hc32 _) (kgV (kq q_443 rfl) (kq q_444 rfl) (kq q_445 rfl) (kq q_19 rfl) (kq q_446 rfl)) yd_X4_instantAt ⟨Nat.le_of_ble_eq_true rfl, Nat.le_of_ble_eq_true rfl⟩ hN hK hP hD [1, 2, 3] rfl rfl (ci := 3) rfl rfl rfl rfl rfl hl.1 rfl (lv_room (Nat.le_of_ble_eq_true rfl)) dX9_between_143) hP hD hS hA [1, 2, 3] rfl rfl (fun H locs hP hD hS => ?_)
    have hP : va_P (dC, dI) vwCl [cl_X9 h_this h_this_now h_this_kept h_this_told h_this_text h_this_script h_this_momentReader h_this_spanReader h_this_adder h_this_other h_this_trial h_this_ways i_this, cl_X4 h_this_now h_this_now_day h_this_now_second h_this_now_months h_this_now_days h_this_now_seconds, (h_this_now_day, .inl (cI, 8, .inl f_this_now_day)), (h_this_now_second, .inl (cI, 8, .inl f_this_now_second)), (h_this_now_months, .inl (cI, 8, .inl f_this_now_months)), (h_this_now_days, .inl (cI, 8, .inl f_this_now_days)), (h_this_now_seconds, .inl (cI, 8, .inl f_this_now_seconds)), cl_X3 h_this_told h_this_told_numbers i_this_told, (h_this_told_numbers, .inl (cJ, 8, .inr (.inl f_this_told_numbers))), cl_X0 h_this_adder i_this_adder_29] H := hP
    have hD : va_D A [cl_X9 h_this h_this_now h_this_kept h_this_told h_this_text h_this_script h_this_momentReader h_this_spanReader h_this_adder h_this_other h_this_trial h_this_ways i_this, cl_X4 h_this_now h_this_now_day h_this_now_second h_this_now_months h_this_now_days h_this_now_seconds, (h_this_now_day, .inl (cI, 8, .inl f_this_now_day)), (h_this_now_second, .inl (cI, 8, .inl f_this_now_second)), (h_this_now_months, .inl (cI, 8, .inl f_this_now_months)), (h_this_now_days, .inl (cI, 8, .inl f_this_now_days)), (h_this_now_seconds, .inl (cI, 8, .inl f_this_now_seconds)), cl_X3 h_this_told h_this_told_numbers i_this_told, (h_this_told_numbers, .inl (cJ, 8, .inr (.inl f_this_told_numbers))), cl_X0 h_this_adder i_this_adder_29] := hD
    refine lv_aload_n hx hb dX9_between_146 rfl (lv_at hl 0 rfl) ?_
    refine va_get (D := (dC, dI)) (ci := 8) (v := .ref h_this_adder) (C := RX9) (T := TX9) (N := 12) hx hb hts inX9 hown hK hP 0 rfl rfl 8 (by decide) (hts _ (kq q_234 rfl)) (fun _ h9 => h9) rfl dX9_between_147 ?_
    obtain ⟨r33, hc34, h⟩ := bd1_at h
    refine kjL (kV (own := "DateSpans") (C := "DateSpans$Adder") (b := h_this_adder) (As := []) (rest := [.long r31]) ⟨hx, hb, hml, hown, hts⟩ (kX0_instant l dC dI cI cJ cB h_this_adder N i_this_adder_29 r33 hc34 _) (kgV (kq q_460 rfl) (kq q_408 rfl) (kq q_409 rfl) (kq q_24 rfl) (kq q_410 rfl)) yd_X0_instant ⟨Nat.le_of_ble_eq_true rfl, Nat.le_of_ble_eq_true rfl⟩ hN hK hP hD [9] rfl rfl (ci := 0) rfl rfl rfl rfl rfl hl.1 rfl (lv_room (Nat.le_of_ble_eq_true rfl)) dX9_between_150) hP hD hS hA [9] rfl rfl (fun H locs hP hD hS => ?_)
    have hP : va_P (dC, dI) vwCl [cl_X9 h_this h_this_now h_this_kept h_this_told h_this_text h_this_script h_this_momentReader h_this_spanReader h_this_adder h_this_other h_this_trial h_this_ways i_this, cl_X4 h_this_now h_this_now_day h_this_now_second h_this_now_months h_this_now_days h_this_now_seconds, (h_this_now_day, .inl (cI, 8, .inl f_this_now_day)), (h_this_now_second, .inl (cI, 8, .inl f_this_now_second)), (h_this_now_months, .inl (cI, 8, .inl f_this_now_months)), (h_this_now_days, .inl (cI, 8, .inl f_this_now_days)), (h_this_now_seconds, .inl (cI, 8, .inl f_this_now_seconds)), cl_X3 h_this_told h_this_told_numbers i_this_told, (h_this_told_numbers, .inl (cJ, 8, .inr (.inl f_this_told_numbers))), cl_X0 h_this_adder i_this_adder_29] H := hP
    have hD : va_D A [cl_X9 h_this h_this_now h_this_kept h_this_told h_this_text h_this_script h_this_momentReader h_this_spanReader h_this_adder h_this_other h_this_trial h_this_ways i_this, cl_X4 h_this_now h_this_now_day h_this_now_second h_this_now_months h_this_now_days h_this_now_seconds, (h_this_now_day, .inl (cI, 8, .inl f_this_now_day)), (h_this_now_second, .inl (cI, 8, .inl f_this_now_second)), (h_this_now_months, .inl (cI, 8, .inl f_this_now_months)), (h_this_now_days, .inl (cI, 8, .inl f_this_now_days)), (h_this_now_seconds, .inl (cI, 8, .inl f_this_now_seconds)), cl_X3 h_this_told h_this_told_numbers i_this_told, (h_this_told_numbers, .inl (cJ, 8, .inr (.inl f_this_told_numbers))), cl_X0 h_this_adder i_this_adder_29] := hD
    refine lv_lsub hx hb dX9_between_153 ?_
    refine lv_topl (fun z35 ez35 => ?_)
    have h := nm_at ez35 h
    refine lv_lstore (lv' := [(7, .long z35), (0, .ref h_this), (1, .int v1), (2, .int v2), (3, .int v3), (4, .int v4), (5, .int v5), (6, .int v6)]) hx hb dX9_between_154 hl (by decide) rfl (fun ls hl => ?_)
    refine lv_iload hx hb dX9_between_156 (lv_at hl 5 rfl) ?_
    refine lv_iconst (v := (4 : Int32)) hx hb dX9_between_158 (by decide) ?_
    refine lv_iand hx hb dX9_between_159 ?_
    refine lv_if_eq (tgt := 172) hx hb dX9_between_160 (by decide) (fun c36 => ?_) (fun c36 => ?_)
    · have h := ite_t c36 h
      refine lv_lconst (v := (0 : Int64)) hx hb dX9_between_172 (by decide) ?_
      exact JN_173 _ _ _ _ _ _ _ _ _ _ _ _ _ _ _ _ h (lv_sub hl [1, 2, 3, 4, 6, 7, 0] rfl) hP hD hS
    have h := ite_f c36 h
    refine lv_lload hx hb dX9_between_163 (lv_at hl 0 rfl) ?_
    refine lv_ldc2 (v := (86400 : Int64)) hx hb hown (hts _ (kq q_414 rfl)) dX9_between_165 ?_
    refine lv_ldiv hx hb dX9_between_168 (by decide) ?_
    refine lv_goto (tgt := 173) hx hb dX9_between_169 (by decide) ?_
    exact JN_173 _ _ _ _ _ _ _ _ _ _ _ _ _ _ _ _ h (lv_sub hl [1, 2, 3, 4, 6, 7, 0] rfl) hP hD hS
  have JN_66 : ∀ (v1 : Int32) (v2 : Int32) (v3 : Int32) (v4 : Int32) (v5 : Int32) (t0 : Int32) (f_this_now_months : Nat → Int32) (f_this_now_days : Nat → Int32) (f_this_now_seconds : Nat → Int32) (i_this_told : Int32) (f_this_told_numbers : Nat → Int64) (i_this_adder : Nat → Int32) (ls : Array Slot) (H : Heap) (locs : List Loc), (fX9_between_j66 N i_this f_this_now_day f_this_now_second) v1 v2 v3 v4 v5 t0 f_this_now_months f_this_now_days f_this_now_seconds i_this_told f_this_told_numbers i_this_adder = some (r, o_f_this_now_months, o_f_this_now_days, o_f_this_now_seconds, o_i_this_told, o_f_this_told_numbers, o_i_this_adder) → lv_has ls 14 [(0, .ref h_this), (1, .int v1), (2, .int v2), (3, .int v3), (4, .int v4), (5, .int v5)] → va_P (dC, dI) vwCl [cl_X9 h_this h_this_now h_this_kept h_this_told h_this_text h_this_script h_this_momentReader h_this_spanReader h_this_adder h_this_other h_this_trial h_this_ways i_this, cl_X4 h_this_now h_this_now_day h_this_now_second h_this_now_months h_this_now_days h_this_now_seconds, (h_this_now_day, .inl (cI, 8, .inl f_this_now_day)), (h_this_now_second, .inl (cI, 8, .inl f_this_now_second)), (h_this_now_months, .inl (cI, 8, .inl f_this_now_months)), (h_this_now_days, .inl (cI, 8, .inl f_this_now_days)), (h_this_now_seconds, .inl (cI, 8, .inl f_this_now_seconds)), cl_X3 h_this_told h_this_told_numbers i_this_told, (h_this_told_numbers, .inl (cJ, 8, .inr (.inl f_this_told_numbers))), cl_X0 h_this_adder i_this_adder] H → va_D A [cl_X9 h_this h_this_now h_this_kept h_this_told h_this_text h_this_script h_this_momentReader h_this_spanReader h_this_adder h_this_other h_this_trial h_this_ways i_this, cl_X4 h_this_now h_this_now_day h_this_now_second h_this_now_months h_this_now_days h_this_now_seconds, (h_this_now_day, .inl (cI, 8, .inl f_this_now_day)), (h_this_now_second, .inl (cI, 8, .inl f_this_now_second)), (h_this_now_months, .inl (cI, 8, .inl f_this_now_months)), (h_this_now_days, .inl (cI, 8, .inl f_this_now_days)), (h_this_now_seconds, .inl (cI, 8, .inl f_this_now_seconds)), cl_X3 h_this_told h_this_told_numbers i_this_told, (h_this_told_numbers, .inl (cJ, 8, .inr (.inl f_this_told_numbers))), cl_X0 h_this_adder i_this_adder] → va_S A s.heap H locs → W p l e (kR 6 147) s m args below meth c H locs 0 0 Q (F0 m 66 ls [.int t0]) := by
    intro v1 v2 v3 v4 v5 t0 f_this_now_months f_this_now_days f_this_now_seconds i_this_told f_this_told_numbers i_this_adder ls H locs h hl hP hD hS
    unfold fX9_between_j66 at h
    refine lv_istore (lv' := [(7, .int t0), (0, .ref h_this), (1, .int v1), (2, .int v2), (3, .int v3), (4, .int v4), (5, .int v5)]) hx hb dX9_between_66 hl (by decide) rfl (fun ls hl => ?_)
    refine lv_aload_n hx hb dX9_between_68 rfl (lv_at hl 1 rfl) ?_
    refine lv_aload_n hx hb dX9_between_69 rfl (lv_at hl 1 rfl) ?_
    refine va_get (D := (dC, dI)) (ci := 8) (v := .ref h_this_now) (C := RX9) (T := TX9) (N := 12) hx hb hts inX9 hown hK hP 0 rfl rfl 0 (by decide) (hts _ (kq q_226 rfl)) (fun _ h9 => h9) rfl dX9_between_70 ?_
    refine lv_iload_n hx hb dX9_between_73 rfl (lv_at hl 2 rfl) ?_
    obtain ⟨r37, hc38, h⟩ := bd1_at h
    refine kjI (kV (own := "DateSpans") (C := "DateSpans$Slots") (b := h_this_now) (As := [.int v1]) (rest := [.ref h_this]) ⟨hx, hb, hml, hown, hts⟩ (kX4_dayAt l dC dI cI cJ cB h_this_now h_this_now_day h_this_now_second h_this_now_months h_this_now_days h_this_now_seconds N v1 f_this_now_day r37 hc38 _) (kgV (kq q_275 rfl) (kq q_276 rfl) (kq q_277 rfl) (kq q_19 rfl) (kq q_278 rfl)) yd_X4_dayAt ⟨Nat.le_of_ble_eq_true rfl, Nat.le_of_ble_eq_true rfl⟩ hN hK hP hD [1, 2] rfl rfl (ci := 3) rfl rfl rfl rfl rfl hl.1 rfl (lv_room (Nat.le_of_ble_eq_true rfl)) dX9_between_74) hP hD hS hA [1, 2] rfl rfl (fun H locs hP hD hS => ?_)
    have hP : va_P (dC, dI) vwCl [cl_X9 h_this h_this_now h_this_kept h_this_told h_this_text h_this_script h_this_momentReader h_this_spanReader h_this_adder h_this_other h_this_trial h_this_ways i_this, cl_X4 h_this_now h_this_now_day h_this_now_second h_this_now_months h_this_now_days h_this_now_seconds, (h_this_now_day, .inl (cI, 8, .inl f_this_now_day)), (h_this_now_second, .inl (cI, 8, .inl f_this_now_second)), (h_this_now_months, .inl (cI, 8, .inl f_this_now_months)), (h_this_now_days, .inl (cI, 8, .inl f_this_now_days)), (h_this_now_seconds, .inl (cI, 8, .inl f_this_now_seconds)), cl_X3 h_this_told h_this_told_numbers i_this_told, (h_this_told_numbers, .inl (cJ, 8, .inr (.inl f_this_told_numbers))), cl_X0 h_this_adder i_this_adder] H := hP
    have hD : va_D A [cl_X9 h_this h_this_now h_this_kept h_this_told h_this_text h_this_script h_this_momentReader h_this_spanReader h_this_adder h_this_other h_this_trial h_this_ways i_this, cl_X4 h_this_now h_this_now_day h_this_now_second h_this_now_months h_this_now_days h_this_now_seconds, (h_this_now_day, .inl (cI, 8, .inl f_this_now_day)), (h_this_now_second, .inl (cI, 8, .inl f_this_now_second)), (h_this_now_months, .inl (cI, 8, .inl f_this_now_months)), (h_this_now_days, .inl (cI, 8, .inl f_this_now_days)), (h_this_now_seconds, .inl (cI, 8, .inl f_this_now_seconds)), cl_X3 h_this_told h_this_told_numbers i_this_told, (h_this_told_numbers, .inl (cJ, 8, .inr (.inl f_this_told_numbers))), cl_X0 h_this_adder i_this_adder] := hD
    refine lv_aload_n hx hb dX9_between_77 rfl (lv_at hl 1 rfl) ?_
    refine va_get (D := (dC, dI)) (ci := 8) (v := .ref h_this_now) (C := RX9) (T := TX9) (N := 12) hx hb hts inX9 hown hK hP 0 rfl rfl 0 (by decide) (hts _ (kq q_226 rfl)) (fun _ h9 => h9) rfl dX9_between_78 ?_
    refine lv_iload_n hx hb dX9_between_81 rfl (lv_at hl 2 rfl) ?_
    obtain ⟨r39, hc40, h⟩ := bd1_at h
    refine kjI (kV (own := "DateSpans") (C := "DateSpans$Slots") (b := h_this_now) (As := [.int v1]) (rest := [.int r37, .ref h_this]) ⟨hx, hb, hml, hown, hts⟩ (kX4_secondAt l dC dI cI cJ cB h_this_now h_this_now_day h_this_now_second h_this_now_months h_this_now_days h_this_now_seconds N v1 f_this_now_second r39 hc40 _) (kgV (kq q_310 rfl) (kq q_311 rfl) (kq q_312 rfl) (kq q_19 rfl) (kq q_313 rfl)) yd_X4_secondAt ⟨Nat.le_of_ble_eq_true rfl, Nat.le_of_ble_eq_true rfl⟩ hN hK hP hD [1, 3] rfl rfl (ci := 3) rfl rfl rfl rfl rfl hl.1 rfl (lv_room (Nat.le_of_ble_eq_true rfl)) dX9_between_82) hP hD hS hA [1, 3] rfl rfl (fun H locs hP hD hS => ?_)
    have hP : va_P (dC, dI) vwCl [cl_X9 h_this h_this_now h_this_kept h_this_told h_this_text h_this_script h_this_momentReader h_this_spanReader h_this_adder h_this_other h_this_trial h_this_ways i_this, cl_X4 h_this_now h_this_now_day h_this_now_second h_this_now_months h_this_now_days h_this_now_seconds, (h_this_now_day, .inl (cI, 8, .inl f_this_now_day)), (h_this_now_second, .inl (cI, 8, .inl f_this_now_second)), (h_this_now_months, .inl (cI, 8, .inl f_this_now_months)), (h_this_now_days, .inl (cI, 8, .inl f_this_now_days)), (h_this_now_seconds, .inl (cI, 8, .inl f_this_now_seconds)), cl_X3 h_this_told h_this_told_numbers i_this_told, (h_this_told_numbers, .inl (cJ, 8, .inr (.inl f_this_told_numbers))), cl_X0 h_this_adder i_this_adder] H := hP
    have hD : va_D A [cl_X9 h_this h_this_now h_this_kept h_this_told h_this_text h_this_script h_this_momentReader h_this_spanReader h_this_adder h_this_other h_this_trial h_this_ways i_this, cl_X4 h_this_now h_this_now_day h_this_now_second h_this_now_months h_this_now_days h_this_now_seconds, (h_this_now_day, .inl (cI, 8, .inl f_this_now_day)), (h_this_now_second, .inl (cI, 8, .inl f_this_now_second)), (h_this_now_months, .inl (cI, 8, .inl f_this_now_months)), (h_this_now_days, .inl (cI, 8, .inl f_this_now_days)), (h_this_now_seconds, .inl (cI, 8, .inl f_this_now_seconds)), cl_X3 h_this_told h_this_told_numbers i_this_told, (h_this_told_numbers, .inl (cJ, 8, .inr (.inl f_this_told_numbers))), cl_X0 h_this_adder i_this_adder] := hD
    refine lv_aload_n hx hb dX9_between_85 rfl (lv_at hl 1 rfl) ?_
    refine va_get (D := (dC, dI)) (ci := 8) (v := .ref h_this_now) (C := RX9) (T := TX9) (N := 12) hx hb hts inX9 hown hK hP 0 rfl rfl 0 (by decide) (hts _ (kq q_226 rfl)) (fun _ h9 => h9) rfl dX9_between_86 ?_
    refine lv_iload_n hx hb dX9_between_89 rfl (lv_at hl 3 rfl) ?_
    obtain ⟨r41, hc42, h⟩ := bd1_at h
    refine kjL (kV (own := "DateSpans") (C := "DateSpans$Slots") (b := h_this_now) (As := [.int v2]) (rest := [.int r39, .int r37, .ref h_this]) ⟨hx, hb, hml, hown, hts⟩ (kX4_instantAt l dC dI cI cJ cB h_this_now h_this_now_day h_this_now_second h_this_now_months h_this_now_days h_this_now_seconds N v2 f_this_now_day f_this_now_second r41 hc42 _) (kgV (kq q_443 rfl) (kq q_444 rfl) (kq q_445 rfl) (kq q_19 rfl) (kq q_446 rfl)) yd_X4_instantAt ⟨Nat.le_of_ble_eq_true rfl, Nat.le_of_ble_eq_true rfl⟩ hN hK hP hD [1, 2, 3] rfl rfl (ci := 3) rfl rfl rfl rfl rfl hl.1 rfl (lv_room (Nat.le_of_ble_eq_true rfl)) dX9_between_90) hP hD hS hA [1, 2, 3] rfl rfl (fun H locs hP hD hS => ?_)
    have hP : va_P (dC, dI) vwCl [cl_X9 h_this h_this_now h_this_kept h_this_told h_this_text h_this_script h_this_momentReader h_this_spanReader h_this_adder h_this_other h_this_trial h_this_ways i_this, cl_X4 h_this_now h_this_now_day h_this_now_second h_this_now_months h_this_now_days h_this_now_seconds, (h_this_now_day, .inl (cI, 8, .inl f_this_now_day)), (h_this_now_second, .inl (cI, 8, .inl f_this_now_second)), (h_this_now_months, .inl (cI, 8, .inl f_this_now_months)), (h_this_now_days, .inl (cI, 8, .inl f_this_now_days)), (h_this_now_seconds, .inl (cI, 8, .inl f_this_now_seconds)), cl_X3 h_this_told h_this_told_numbers i_this_told, (h_this_told_numbers, .inl (cJ, 8, .inr (.inl f_this_told_numbers))), cl_X0 h_this_adder i_this_adder] H := hP
    have hD : va_D A [cl_X9 h_this h_this_now h_this_kept h_this_told h_this_text h_this_script h_this_momentReader h_this_spanReader h_this_adder h_this_other h_this_trial h_this_ways i_this, cl_X4 h_this_now h_this_now_day h_this_now_second h_this_now_months h_this_now_days h_this_now_seconds, (h_this_now_day, .inl (cI, 8, .inl f_this_now_day)), (h_this_now_second, .inl (cI, 8, .inl f_this_now_second)), (h_this_now_months, .inl (cI, 8, .inl f_this_now_months)), (h_this_now_days, .inl (cI, 8, .inl f_this_now_days)), (h_this_now_seconds, .inl (cI, 8, .inl f_this_now_seconds)), cl_X3 h_this_told h_this_told_numbers i_this_told, (h_this_told_numbers, .inl (cJ, 8, .inr (.inl f_this_told_numbers))), cl_X0 h_this_adder i_this_adder] := hD
    refine lv_iload_n hx hb dX9_between_93 rfl (lv_at hl 4 rfl) ?_
    refine lv_iload hx hb dX9_between_94 (lv_at hl 0 rfl) ?_
    obtain ⟨r43, i_this_adder_44, hc45, h⟩ := bd2_at h
    refine kjI (kV (own := "DateSpans") (C := "DateSpans") (b := h_this) (As := [.int r37, .int r39, .long r41, .int v3, .int t0]) (rest := []) ⟨hx, hb, hml, hown, hts⟩ (kX9_mostMonths l dC dI cI cJ cB h_this h_this_now h_this_kept h_this_told h_this_text h_this_script h_this_momentReader h_this_spanReader h_this_adder h_this_other h_this_trial h_this_ways N r37 r39 r41 v3 t0 i_this i_this_adder r43 i_this_adder_44 hc45 _) (kgV (kq q_450 rfl) (kq q_452 rfl) (kq q_4 rfl) (kq q_18 rfl) (kq q_453 rfl)) yd_X9_mostMonths ⟨Nat.le_of_ble_eq_true rfl, Nat.le_of_ble_eq_true rfl⟩ hN hK hP hD [0, 9] rfl rfl (ci := 8) rfl rfl rfl rfl rfl hl.1 rfl (lv_room (Nat.le_of_ble_eq_true rfl)) dX9_between_96) hP hD hS hA [0, 9] rfl rfl (fun H locs hP hD hS => ?_)
    have hP : va_P (dC, dI) vwCl [cl_X9 h_this h_this_now h_this_kept h_this_told h_this_text h_this_script h_this_momentReader h_this_spanReader h_this_adder h_this_other h_this_trial h_this_ways i_this, cl_X4 h_this_now h_this_now_day h_this_now_second h_this_now_months h_this_now_days h_this_now_seconds, (h_this_now_day, .inl (cI, 8, .inl f_this_now_day)), (h_this_now_second, .inl (cI, 8, .inl f_this_now_second)), (h_this_now_months, .inl (cI, 8, .inl f_this_now_months)), (h_this_now_days, .inl (cI, 8, .inl f_this_now_days)), (h_this_now_seconds, .inl (cI, 8, .inl f_this_now_seconds)), cl_X3 h_this_told h_this_told_numbers i_this_told, (h_this_told_numbers, .inl (cJ, 8, .inr (.inl f_this_told_numbers))), cl_X0 h_this_adder i_this_adder_44] H := hP
    have hD : va_D A [cl_X9 h_this h_this_now h_this_kept h_this_told h_this_text h_this_script h_this_momentReader h_this_spanReader h_this_adder h_this_other h_this_trial h_this_ways i_this, cl_X4 h_this_now h_this_now_day h_this_now_second h_this_now_months h_this_now_days h_this_now_seconds, (h_this_now_day, .inl (cI, 8, .inl f_this_now_day)), (h_this_now_second, .inl (cI, 8, .inl f_this_now_second)), (h_this_now_months, .inl (cI, 8, .inl f_this_now_months)), (h_this_now_days, .inl (cI, 8, .inl f_this_now_days)), (h_this_now_seconds, .inl (cI, 8, .inl f_this_now_seconds)), cl_X3 h_this_told h_this_told_numbers i_this_told, (h_this_told_numbers, .inl (cJ, 8, .inr (.inl f_this_told_numbers))), cl_X0 h_this_adder i_this_adder_44] := hD
    refine lv_istore (lv' := [(6, .int r43), (7, .int t0), (0, .ref h_this), (1, .int v1), (2, .int v2), (3, .int v3), (4, .int v4), (5, .int v5)]) hx hb dX9_between_99 hl (by decide) rfl (fun ls hl => ?_)
    exact JN_101 _ _ _ _ _ _ _ _ _ _ _ _ _ _ _ h (lv_sub hl [2, 3, 4, 5, 6, 7, 0] rfl) hP hD hS
  have h := hf
  unfold fX9_between at h
  refine lv_iload_n hx hb dX9_between_0 rfl (lv_at hl 1 rfl) ?_
  obtain ⟨r46, hc47, h⟩ := bd1_at h
  refine kjSI (kS0 (own := "DateSpans") (As := [.int p1]) (rest := []) ⟨hx, hb, hml, hown, hts⟩ (kX9_isSlot l N p1 r46 hc47) (kgS (kq q_267 rfl) (kq q_268 rfl) (kq q_18 rfl) (kq q_269 rfl)) yd_X9_isSlot ⟨Nat.le_of_ble_eq_true rfl, Nat.le_of_ble_eq_true rfl⟩ rfl rfl hl.1 rfl (lv_room (Nat.le_of_ble_eq_true rfl)) dX9_between_1) ?_
  refine lv_if_eq (tgt := 42) hx hb dX9_between_4 (by decide) (fun c48 => ?_) (fun c48 => ?_)
  · have h := ite_t c48 h
    refine lv_iconst (v := (-1 : Int32)) hx hb dX9_between_42 (by decide) ?_
    obtain ⟨rfl, rfl, rfl, rfl, rfl, rfl, rfl⟩ := pj7 h
    exact hEnd _ _ _ _ hP hS dX9_between_43 rfl
  have h := ite_f c48 h
  refine lv_iload_n hx hb dX9_between_7 rfl (lv_at hl 2 rfl) ?_
  obtain ⟨r49, hc50, h⟩ := bd1_at h
  refine kjSI (kS0 (own := "DateSpans") (As := [.int p2]) (rest := []) ⟨hx, hb, hml, hown, hts⟩ (kX9_isSlot l N p2 r49 hc50) (kgS (kq q_267 rfl) (kq q_268 rfl) (kq q_18 rfl) (kq q_269 rfl)) yd_X9_isSlot ⟨Nat.le_of_ble_eq_true rfl, Nat.le_of_ble_eq_true rfl⟩ rfl rfl hl.1 rfl (lv_room (Nat.le_of_ble_eq_true rfl)) dX9_between_8) ?_
  refine lv_if_eq (tgt := 42) hx hb dX9_between_11 (by decide) (fun c51 => ?_) (fun c51 => ?_)
  · have h := ite_t c51 h
    refine lv_iconst (v := (-1 : Int32)) hx hb dX9_between_42 (by decide) ?_
    obtain ⟨rfl, rfl, rfl, rfl, rfl, rfl, rfl⟩ := pj7 h
    exact hEnd _ _ _ _ hP hS dX9_between_43 rfl
  have h := ite_f c51 h
  refine lv_iload_n hx hb dX9_between_14 rfl (lv_at hl 3 rfl) ?_
  obtain ⟨r52, hc53, h⟩ := bd1_at h
  refine kjSI (kS0 (own := "DateSpans") (As := [.int p3]) (rest := []) ⟨hx, hb, hml, hown, hts⟩ (kX9_isLaw l N p3 r52 hc53) (kgS (kq q_352 rfl) (kq q_353 rfl) (kq q_18 rfl) (kq q_354 rfl)) yd_X9_isLaw ⟨Nat.le_of_ble_eq_true rfl, Nat.le_of_ble_eq_true rfl⟩ rfl rfl hl.1 rfl (lv_room (Nat.le_of_ble_eq_true rfl)) dX9_between_15) ?_
  refine lv_if_eq (tgt := 42) hx hb dX9_between_18 (by decide) (fun c54 => ?_) (fun c54 => ?_)
  · have h := ite_t c54 h
    refine lv_iconst (v := (-1 : Int32)) hx hb dX9_between_42 (by decide) ?_
    obtain ⟨rfl, rfl, rfl, rfl, rfl, rfl, rfl⟩ := pj7 h
    exact hEnd _ _ _ _ hP hS dX9_between_43 rfl
  have h := ite_f c54 h
  refine lv_iload hx hb dX9_between_21 (lv_at hl 4 rfl) ?_
  refine lv_iconst (v := (1 : Int32)) hx hb dX9_between_23 (by decide) ?_
  refine lv_icmp_lt (tgt := 42) hx hb dX9_between_24 (by decide) (fun c55 => ?_) (fun c55 => ?_)
  · have h := ite_t c55 h
    refine lv_iconst (v := (-1 : Int32)) hx hb dX9_between_42 (by decide) ?_
    obtain ⟨rfl, rfl, rfl, rfl, rfl, rfl, rfl⟩ := pj7 h
    exact hEnd _ _ _ _ hP hS dX9_between_43 rfl
  have h := ite_f c55 h
  refine lv_iload hx hb dX9_between_27 (lv_at hl 4 rfl) ?_
  refine lv_bipush (v := (7 : Int32)) hx hb dX9_between_29 (by decide) ?_
  refine lv_icmp_gt (tgt := 42) hx hb dX9_between_31 (by decide) (fun c56 => ?_) (fun c56 => ?_)
  · have h := ite_t c56 h
    refine lv_iconst (v := (-1 : Int32)) hx hb dX9_between_42 (by decide) ?_
    obtain ⟨rfl, rfl, rfl, rfl, rfl, rfl, rfl⟩ := pj7 h
    exact hEnd _ _ _ _ hP hS dX9_between_43 rfl
  have h := ite_f c56 h
  refine lv_iload hx hb dX9_between_34 (lv_at hl 5 rfl) ?_
  obtain ⟨r57, hc58, h⟩ := bd1_at h
  refine kjSI (kS0 (own := "DateSpans") (As := [.int p5]) (rest := []) ⟨hx, hb, hml, hown, hts⟩ (kX9_isSlot l N p5 r57 hc58) (kgS (kq q_267 rfl) (kq q_268 rfl) (kq q_18 rfl) (kq q_269 rfl)) yd_X9_isSlot ⟨Nat.le_of_ble_eq_true rfl, Nat.le_of_ble_eq_true rfl⟩ rfl rfl hl.1 rfl (lv_room (Nat.le_of_ble_eq_true rfl)) dX9_between_36) ?_
  refine lv_if_ne (tgt := 44) hx hb dX9_between_39 (by decide) (fun c59 => ?_) (fun c59 => ?_)
  · have h := ite_f c59 h
    refine lv_iconst (v := (0 : Int32)) hx hb dX9_between_44 (by decide) ?_
    refine lv_istore (lv' := [(6, .int (0 : Int32)), (0, .ref h_this), (1, .int p1), (2, .int p2), (3, .int p3), (4, .int p4), (5, .int p5)]) hx hb dX9_between_45 hl (by decide) rfl (fun ls hl => ?_)
    refine lv_iload hx hb dX9_between_47 (lv_at hl 5 rfl) ?_
    refine lv_iconst (v := (3 : Int32)) hx hb dX9_between_49 (by decide) ?_
    refine lv_iand hx hb dX9_between_50 ?_
    refine lv_if_eq (tgt := 101) hx hb dX9_between_51 (by decide) (fun c60 => ?_) (fun c60 => ?_)
    · have h := ite_t c60 h
      exact JN_101 _ _ _ _ _ _ _ _ _ _ _ _ _ _ _ h (lv_sub hl [1, 2, 3, 4, 5, 6, 0] rfl) hP hD hS
    have h := ite_f c60 h
    refine lv_iload hx hb dX9_between_54 (lv_at hl 5 rfl) ?_
    refine lv_iconst (v := (2 : Int32)) hx hb dX9_between_56 (by decide) ?_
    refine lv_iand hx hb dX9_between_57 ?_
    refine lv_if_ne (tgt := 65) hx hb dX9_between_58 (by decide) (fun c61 => ?_) (fun c61 => ?_)
    · have h := ite_f c61 h
      refine lv_iconst (v := (0 : Int32)) hx hb dX9_between_65 (by decide) ?_
      exact JN_66 _ _ _ _ _ _ _ _ _ _ _ _ _ _ _ h (lv_sub hl [1, 2, 3, 4, 5, 6] rfl) hP hD hS
    have h := ite_t c61 h
    refine lv_iconst (v := (1 : Int32)) hx hb dX9_between_61 (by decide) ?_
    refine lv_goto (tgt := 66) hx hb dX9_between_62 (by decide) ?_
    exact JN_66 _ _ _ _ _ _ _ _ _ _ _ _ _ _ _ h (lv_sub hl [1, 2, 3, 4, 5, 6] rfl) hP hD hS
  have h := ite_t c59 h
  refine lv_iconst (v := (-1 : Int32)) hx hb dX9_between_42 (by decide) ?_
  obtain ⟨rfl, rfl, rfl, rfl, rfl, rfl, rfl⟩ := pj7 h
  exact hEnd _ _ _ _ hP hS dX9_between_43 rfl
noncomputable def fX9_phraseSize (N : Nat) (p1 : Int32) (p2 : Int32) : Option (Int32) := (nm (if 0 ≤ p1 then p1 else 0 - p1) fun z1 => (nm (if 0 ≤ p2 then p2 else 0 - p2) fun z2 => (some ((((z1 / (12 : Int32)) + (z1 - z1 / (12 : Int32) * (12 : Int32))) + (z2 / (7 : Int32))) + (z2 - z2 / (7 : Int32) * (7 : Int32))))))
set_option maxHeartbeats 4000000 in
set_option maxRecDepth 100000 in
theorem kX9_phraseSize (l : Launch) (N : Nat) (p1 : Int32) (p2 : Int32) (r : Int32) (hf : fX9_phraseSize N p1 p2 = some r) : SI l yX9_phraseSize (kws yX9_phraseSize cX9_phraseSize 4 (some .int)) (kR 1 23) [.int p1, .int p2] r := by
  refine SI.of (cc := cX9_phraseSize) (maxL := 4) (by decide) (Nat.le_of_ble_eq_true rfl) (fun p e s m args below meth c Q ls KC hl hEnd => ?_)
  obtain ⟨hx, hb, hml, hown, hts⟩ := KC
  have hown : s.vm.findClass "DateSpans" = some m.cls := hown
  have hl : lv_has ls 4 [(0, .int p1), (1, .int p2)] := hl
  have h := hf
  unfold fX9_phraseSize at h
  refine lv_iload_n hx hb dX9_phraseSize_0 rfl (lv_at hl 0 rfl) ?_
  refine va_mabs (rest := []) hx hb (hml.trans hl.1.symm) hown (hts _ (kq q_456 rfl)) (hts _ (kq q_457 rfl)) (hts _ (kq q_27 rfl)) (hts _ (kq q_458 rfl)) (Nat.le_of_ble_eq_true rfl) (Nat.le_of_ble_eq_true rfl) (Nat.zero_le _) (Nat.zero_le _) dX9_phraseSize_1 ?_
  refine lv_topi (fun z1 ez1 => ?_)
  have h := nm_at ez1 h
  refine lv_istore_n (lv' := [(2, .int z1), (0, .int p1), (1, .int p2)]) hx hb dX9_phraseSize_4 rfl hl (by decide) rfl (fun ls hl => ?_)
  refine lv_iload_n hx hb dX9_phraseSize_5 rfl (lv_at hl 2 rfl) ?_
  refine va_mabs (rest := []) hx hb (hml.trans hl.1.symm) hown (hts _ (kq q_456 rfl)) (hts _ (kq q_457 rfl)) (hts _ (kq q_27 rfl)) (hts _ (kq q_458 rfl)) (Nat.le_of_ble_eq_true rfl) (Nat.le_of_ble_eq_true rfl) (Nat.zero_le _) (Nat.zero_le _) dX9_phraseSize_6 ?_
  refine lv_topi (fun z2 ez2 => ?_)
  have h := nm_at ez2 h
  refine lv_istore_n (lv' := [(3, .int z2), (2, .int z1), (0, .int p1), (1, .int p2)]) hx hb dX9_phraseSize_9 rfl hl (by decide) rfl (fun ls hl => ?_)
  refine lv_iload_n hx hb dX9_phraseSize_10 rfl (lv_at hl 1 rfl) ?_
  refine lv_bipush (v := (12 : Int32)) hx hb dX9_phraseSize_11 (by decide) ?_
  refine lv_idiv hx hb dX9_phraseSize_13 (by decide) ?_
  refine lv_iload_n hx hb dX9_phraseSize_14 rfl (lv_at hl 1 rfl) ?_
  refine lv_bipush (v := (12 : Int32)) hx hb dX9_phraseSize_15 (by decide) ?_
  refine lv_irem hx hb dX9_phraseSize_17 (by decide) ?_
  refine lv_iadd hx hb dX9_phraseSize_18 ?_
  refine lv_iload_n hx hb dX9_phraseSize_19 rfl (lv_at hl 0 rfl) ?_
  refine lv_bipush (v := (7 : Int32)) hx hb dX9_phraseSize_20 (by decide) ?_
  refine lv_idiv hx hb dX9_phraseSize_22 (by decide) ?_
  refine lv_iadd hx hb dX9_phraseSize_23 ?_
  refine lv_iload_n hx hb dX9_phraseSize_24 rfl (lv_at hl 0 rfl) ?_
  refine lv_bipush (v := (7 : Int32)) hx hb dX9_phraseSize_25 (by decide) ?_
  refine lv_irem hx hb dX9_phraseSize_27 (by decide) ?_
  refine lv_iadd hx hb dX9_phraseSize_28 ?_
  obtain rfl := pj1 h
  exact hEnd _ _ dX9_phraseSize_29 rfl
