noncomputable def fX9_floorOf (N : Nat) (p1 : Int32) (p2 : Int32) (p3 : Int32) : Option (Int64) := (bd1 (fX1_dateOf N p1) fun r1 => (nm (r1 / (10000 : Int32)) fun z3 => (if p3 = (0 : Int32) then (bd1 (fX9_instantOf N p1 (p2 - (p2 - p2 / (60 : Int32) * (60 : Int32)))) fun r5 => (some r5)) else (if p3 = (1 : Int32) then (bd1 (fX9_instantOf N p1 (p2 - (p2 - p2 / (3600 : Int32) * (3600 : Int32)))) fun r8 => (some r8)) else (if p3 = (2 : Int32) then (bd1 (fX9_instantOf N p1 (0 : Int32)) fun r11 => (some r11)) else (if p3 = (3 : Int32) then (bd1 (fX1_weekdayOf N p1) fun r14 => (bd1 (fX9_instantOf N (p1 - r14) (0 : Int32)) fun r16 => (some r16))) else (if p3 = (4 : Int32) then (bd1 (fX1_monthOf N p1) fun r19 => (bd1 (fX1_firstOf N r19) fun r21 => (bd1 (fX9_instantOf N r21 (0 : Int32)) fun r23 => (some r23)))) else (bd1 (fX1_dayOf N z3 (1 : Int32) (1 : Int32)) fun r25 => (bd1 (fX9_instantOf N r25 (0 : Int32)) fun r27 => (some r27))))))))))
set_option maxHeartbeats 4000000 in
set_option maxRecDepth 100000 in
theorem kX9_floorOf (l : Launch) (N : Nat) (p1 : Int32) (p2 : Int32) (p3 : Int32) (r : Int64) (hf : fX9_floorOf N p1 p2 p3 = some r) : SL l yX9_floorOf (kws yX9_floorOf cX9_floorOf 4 (some .long)) (kR 2 50) [.int p1, .int p2, .int p3] r := by
  refine SL.of (cc := cX9_floorOf) (maxL := 4) (by decide) (Nat.le_of_ble_eq_true rfl) (fun p e s m args below meth c Q ls KC hl hEnd => ?_)
  obtain ⟨hx, hb, hml, hown, hts⟩ := KC
  have hown : s.vm.findClass "DateSpans" = some m.cls := hown
  have hl : lv_has ls 4 [(0, .int p1), (1, .int p2), (2, .int p3)] := hl
  have h := hf
  unfold fX9_floorOf at h
  refine lv_iload_n hx hb dX9_floorOf_0 rfl (lv_at hl 0 rfl) ?_
  obtain ⟨r1, hc2, h⟩ := bd1_at h
  refine kjSI (kS0 (own := "DateSpans") (As := [.int p1]) (rest := []) ⟨hx, hb, hml, hown, hts⟩ (kX1_dateOf l N p1 r1 hc2) (kgS (kq q_469 rfl) (kq q_470 rfl) (kq q_67 rfl) (kq q_471 rfl)) yd_X1_dateOf ⟨Nat.le_of_ble_eq_true rfl, Nat.le_of_ble_eq_true rfl⟩ rfl rfl hl.1 rfl (lv_room (Nat.le_of_ble_eq_true rfl)) dX9_floorOf_1) ?_
  refine lv_sipush (v := (10000 : Int32)) hx hb dX9_floorOf_4 (by decide) ?_
  refine lv_idiv hx hb dX9_floorOf_7 (by decide) ?_
  refine lv_topi (fun z3 ez3 => ?_)
  have h := nm_at ez3 h
  refine lv_istore_n (lv' := [(3, .int z3), (0, .int p1), (1, .int p2), (2, .int p3)]) hx hb dX9_floorOf_8 rfl hl (by decide) rfl (fun ls hl => ?_)
  refine lv_iload_n hx hb dX9_floorOf_9 rfl (lv_at hl 3 rfl) ?_
  by_cases c4 : p3 = (0 : Int32)
  · have h := ite_t c4 h
    refine lv_tableIn (x := p3) (tgt := 44) hx hb dX9_floorOf_10 (by rw [c4]; decide) (by rw [c4]; decide) (by rw [c4]; rfl) (by decide) ?_
    refine lv_iload_n hx hb dX9_floorOf_44 rfl (lv_at hl 1 rfl) ?_
    refine lv_iload_n hx hb dX9_floorOf_45 rfl (lv_at hl 2 rfl) ?_
    refine lv_iload_n hx hb dX9_floorOf_46 rfl (lv_at hl 2 rfl) ?_
    refine lv_bipush (v := (60 : Int32)) hx hb dX9_floorOf_47 (by decide) ?_
    refine lv_irem hx hb dX9_floorOf_49 (by decide) ?_
    refine lv_isub hx hb dX9_floorOf_50 ?_
    obtain ⟨r5, hc6, h⟩ := bd1_at h
    refine kjSL (kS0 (own := "DateSpans") (As := [.int p1, .int (p2 - (p2 - p2 / (60 : Int32) * (60 : Int32)))]) (rest := []) ⟨hx, hb, hml, hown, hts⟩ (kX9_instantOf l N p1 (p2 - (p2 - p2 / (60 : Int32) * (60 : Int32))) r5 hc6) (kgS (kq q_629 rfl) (kq q_585 rfl) (kq q_57 rfl) (kq q_586 rfl)) yd_X9_instantOf ⟨Nat.le_of_ble_eq_true rfl, Nat.le_of_ble_eq_true rfl⟩ rfl rfl hl.1 rfl (lv_room (Nat.le_of_ble_eq_true rfl)) dX9_floorOf_51) ?_
    obtain rfl := pj1 h
    exact hEnd _ _ dX9_floorOf_54
  have h := ite_f c4 h
  by_cases c7 : p3 = (1 : Int32)
  · have h := ite_t c7 h
    refine lv_tableIn (x := p3) (tgt := 55) hx hb dX9_floorOf_10 (by rw [c7]; decide) (by rw [c7]; decide) (by rw [c7]; rfl) (by decide) ?_
    refine lv_iload_n hx hb dX9_floorOf_55 rfl (lv_at hl 1 rfl) ?_
    refine lv_iload_n hx hb dX9_floorOf_56 rfl (lv_at hl 2 rfl) ?_
    refine lv_iload_n hx hb dX9_floorOf_57 rfl (lv_at hl 2 rfl) ?_
    refine lv_sipush (v := (3600 : Int32)) hx hb dX9_floorOf_58 (by decide) ?_
    refine lv_irem hx hb dX9_floorOf_61 (by decide) ?_
    refine lv_isub hx hb dX9_floorOf_62 ?_
    obtain ⟨r8, hc9, h⟩ := bd1_at h
    refine kjSL (kS0 (own := "DateSpans") (As := [.int p1, .int (p2 - (p2 - p2 / (3600 : Int32) * (3600 : Int32)))]) (rest := []) ⟨hx, hb, hml, hown, hts⟩ (kX9_instantOf l N p1 (p2 - (p2 - p2 / (3600 : Int32) * (3600 : Int32))) r8 hc9) (kgS (kq q_629 rfl) (kq q_585 rfl) (kq q_57 rfl) (kq q_586 rfl)) yd_X9_instantOf ⟨Nat.le_of_ble_eq_true rfl, Nat.le_of_ble_eq_true rfl⟩ rfl rfl hl.1 rfl (lv_room (Nat.le_of_ble_eq_true rfl)) dX9_floorOf_63) ?_
    obtain rfl := pj1 h
    exact hEnd _ _ dX9_floorOf_66
  have h := ite_f c7 h
  by_cases c10 : p3 = (2 : Int32)
  · have h := ite_t c10 h
    refine lv_tableIn (x := p3) (tgt := 67) hx hb dX9_floorOf_10 (by rw [c10]; decide) (by rw [c10]; decide) (by rw [c10]; rfl) (by decide) ?_
    refine lv_iload_n hx hb dX9_floorOf_67 rfl (lv_at hl 1 rfl) ?_
    refine lv_iconst (v := (0 : Int32)) hx hb dX9_floorOf_68 (by decide) ?_
    obtain ⟨r11, hc12, h⟩ := bd1_at h
    refine kjSL (kS0 (own := "DateSpans") (As := [.int p1, .int (0 : Int32)]) (rest := []) ⟨hx, hb, hml, hown, hts⟩ (kX9_instantOf l N p1 (0 : Int32) r11 hc12) (kgS (kq q_629 rfl) (kq q_585 rfl) (kq q_57 rfl) (kq q_586 rfl)) yd_X9_instantOf ⟨Nat.le_of_ble_eq_true rfl, Nat.le_of_ble_eq_true rfl⟩ rfl rfl hl.1 rfl (lv_room (Nat.le_of_ble_eq_true rfl)) dX9_floorOf_69) ?_
    obtain rfl := pj1 h
    exact hEnd _ _ dX9_floorOf_72
  have h := ite_f c10 h
  by_cases c13 : p3 = (3 : Int32)
  · have h := ite_t c13 h
    refine lv_tableIn (x := p3) (tgt := 73) hx hb dX9_floorOf_10 (by rw [c13]; decide) (by rw [c13]; decide) (by rw [c13]; rfl) (by decide) ?_
    refine lv_iload_n hx hb dX9_floorOf_73 rfl (lv_at hl 1 rfl) ?_
    refine lv_iload_n hx hb dX9_floorOf_74 rfl (lv_at hl 1 rfl) ?_
    obtain ⟨r14, hc15, h⟩ := bd1_at h
    refine kjSI (kS0 (own := "DateSpans") (As := [.int p1]) (rest := [.int p1]) ⟨hx, hb, hml, hown, hts⟩ (kX1_weekdayOf l N p1 r14 hc15) (kgS (kq q_479 rfl) (kq q_480 rfl) (kq q_67 rfl) (kq q_481 rfl)) yd_X1_weekdayOf ⟨Nat.le_of_ble_eq_true rfl, Nat.le_of_ble_eq_true rfl⟩ rfl rfl hl.1 rfl (lv_room (Nat.le_of_ble_eq_true rfl)) dX9_floorOf_75) ?_
    refine lv_isub hx hb dX9_floorOf_78 ?_
    refine lv_iconst (v := (0 : Int32)) hx hb dX9_floorOf_79 (by decide) ?_
    obtain ⟨r16, hc17, h⟩ := bd1_at h
    refine kjSL (kS0 (own := "DateSpans") (As := [.int (p1 - r14), .int (0 : Int32)]) (rest := []) ⟨hx, hb, hml, hown, hts⟩ (kX9_instantOf l N (p1 - r14) (0 : Int32) r16 hc17) (kgS (kq q_629 rfl) (kq q_585 rfl) (kq q_57 rfl) (kq q_586 rfl)) yd_X9_instantOf ⟨Nat.le_of_ble_eq_true rfl, Nat.le_of_ble_eq_true rfl⟩ rfl rfl hl.1 rfl (lv_room (Nat.le_of_ble_eq_true rfl)) dX9_floorOf_80) ?_
    obtain rfl := pj1 h
    exact hEnd _ _ dX9_floorOf_83
  have h := ite_f c13 h
  by_cases c18 : p3 = (4 : Int32)
  · have h := ite_t c18 h
    refine lv_tableIn (x := p3) (tgt := 84) hx hb dX9_floorOf_10 (by rw [c18]; decide) (by rw [c18]; decide) (by rw [c18]; rfl) (by decide) ?_
    refine lv_iload_n hx hb dX9_floorOf_84 rfl (lv_at hl 1 rfl) ?_
    obtain ⟨r19, hc20, h⟩ := bd1_at h
    refine kjSI (kS0 (own := "DateSpans") (As := [.int p1]) (rest := []) ⟨hx, hb, hml, hown, hts⟩ (kX1_monthOf l N p1 r19 hc20) (kgS (kq q_630 rfl) (kq q_560 rfl) (kq q_67 rfl) (kq q_561 rfl)) yd_X1_monthOf ⟨Nat.le_of_ble_eq_true rfl, Nat.le_of_ble_eq_true rfl⟩ rfl rfl hl.1 rfl (lv_room (Nat.le_of_ble_eq_true rfl)) dX9_floorOf_85) ?_
    obtain ⟨r21, hc22, h⟩ := bd1_at h
    refine kjSI (kS0 (own := "DateSpans") (As := [.int r19]) (rest := []) ⟨hx, hb, hml, hown, hts⟩ (kX1_firstOf l N r19 r21 hc22) (kgS (kq q_780 rfl) (kq q_564 rfl) (kq q_67 rfl) (kq q_565 rfl)) yd_X1_firstOf ⟨Nat.le_of_ble_eq_true rfl, Nat.le_of_ble_eq_true rfl⟩ rfl rfl hl.1 rfl (lv_room (Nat.le_of_ble_eq_true rfl)) dX9_floorOf_88) ?_
    refine lv_iconst (v := (0 : Int32)) hx hb dX9_floorOf_91 (by decide) ?_
    obtain ⟨r23, hc24, h⟩ := bd1_at h
    refine kjSL (kS0 (own := "DateSpans") (As := [.int r21, .int (0 : Int32)]) (rest := []) ⟨hx, hb, hml, hown, hts⟩ (kX9_instantOf l N r21 (0 : Int32) r23 hc24) (kgS (kq q_629 rfl) (kq q_585 rfl) (kq q_57 rfl) (kq q_586 rfl)) yd_X9_instantOf ⟨Nat.le_of_ble_eq_true rfl, Nat.le_of_ble_eq_true rfl⟩ rfl rfl hl.1 rfl (lv_room (Nat.le_of_ble_eq_true rfl)) dX9_floorOf_92) ?_
    obtain rfl := pj1 h
    exact hEnd _ _ dX9_floorOf_95
  have h := ite_f c18 h
  have gc4 := kne (k := 0) (by decide) c4
  have gc7 := kne (k := 1) (by decide) c7
  have gc10 := kne (k := 2) (by decide) c10
  have gc13 := kne (k := 3) (by decide) c13
  have gc18 := kne (k := 4) (by decide) c18
  refine lv_tableOut (x := p3) (tgt := 96) hx hb dX9_floorOf_10 (by omega) (by decide) ?_
  refine lv_iload_n hx hb dX9_floorOf_96 rfl (lv_at hl 0 rfl) ?_
  refine lv_iconst (v := (1 : Int32)) hx hb dX9_floorOf_97 (by decide) ?_
  refine lv_iconst (v := (1 : Int32)) hx hb dX9_floorOf_98 (by decide) ?_
  obtain ⟨r25, hc26, h⟩ := bd1_at h
  refine kjSI (kS0 (own := "DateSpans") (As := [.int z3, .int (1 : Int32), .int (1 : Int32)]) (rest := []) ⟨hx, hb, hml, hown, hts⟩ (kX1_dayOf l N z3 (1 : Int32) (1 : Int32) r25 hc26) (kgS (kq q_482 rfl) (kq q_385 rfl) (kq q_67 rfl) (kq q_386 rfl)) yd_X1_dayOf ⟨Nat.le_of_ble_eq_true rfl, Nat.le_of_ble_eq_true rfl⟩ rfl rfl hl.1 rfl (lv_room (Nat.le_of_ble_eq_true rfl)) dX9_floorOf_99) ?_
  refine lv_iconst (v := (0 : Int32)) hx hb dX9_floorOf_102 (by decide) ?_
  obtain ⟨r27, hc28, h⟩ := bd1_at h
  refine kjSL (kS0 (own := "DateSpans") (As := [.int r25, .int (0 : Int32)]) (rest := []) ⟨hx, hb, hml, hown, hts⟩ (kX9_instantOf l N r25 (0 : Int32) r27 hc28) (kgS (kq q_629 rfl) (kq q_585 rfl) (kq q_57 rfl) (kq q_586 rfl)) yd_X9_instantOf ⟨Nat.le_of_ble_eq_true rfl, Nat.le_of_ble_eq_true rfl⟩ rfl rfl hl.1 rfl (lv_room (Nat.le_of_ble_eq_true rfl)) dX9_floorOf_103) ?_
  obtain rfl := pj1 h
  exact hEnd _ _ dX9_floorOf_106
noncomputable def fX4_putInstant (N : Nat) (p1 : Int32) (p2 : Int64) (f_this_day : Nat → Int32) (f_this_second : Nat → Int32) : Option ((Nat → Int32) × (Nat → Int32)) := (bd2 (fX4_putMoment N p1 ((p2 / (86400 : Int64)).toInt32) ((p2 - p2 / (86400 : Int64) * (86400 : Int64)).toInt32) f_this_day f_this_second) fun f_this_day_1 f_this_second_2 => (some (f_this_day_1, f_this_second_2)))
set_option maxHeartbeats 4000000 in
set_option maxRecDepth 100000 in
theorem kX4_putInstant (l : Launch) (dC : Nat → ClassId) (dI : Nat → Nat → Nat) (cI cJ cB : ClassId) (h_this h_this_day h_this_second h_this_months h_this_days h_this_seconds : Nat) (N : Nat) (p1 : Int32) (p2 : Int64) (f_this_day : Nat → Int32) (f_this_second : Nat → Int32) (o_f_this_day : Nat → Int32) (o_f_this_second : Nat → Int32) (hf : fX4_putInstant N p1 p2 f_this_day f_this_second = some (o_f_this_day, o_f_this_second)) : MV l yX4_putInstant (kws yX4_putInstant cX4_putInstant 4 (none)) (kR 2 43) (dC, dI) (kT cI cJ cB) [.ref h_this, .int p1, .long p2] [cl_X4 h_this h_this_day h_this_second h_this_months h_this_days h_this_seconds, (h_this_day, .inl (cI, 8, .inl f_this_day)), (h_this_second, .inl (cI, 8, .inl f_this_second))] [cl_X4 h_this h_this_day h_this_second h_this_months h_this_days h_this_seconds, (h_this_day, .inl (cI, 8, .inl o_f_this_day)), (h_this_second, .inl (cI, 8, .inl o_f_this_second))] := by
  refine MV.of (cc := cX4_putInstant) (maxL := 4) (by decide) (Nat.le_of_ble_eq_true rfl) (fun p e s m args below meth c A Q ls KC hN hK hP hD hA hl hEnd => ?_)
  obtain ⟨hx, hb, hml, hown, hts⟩ := KC
  have hown : s.vm.findClass "DateSpans$Slots" = some m.cls := hown
  have hl : lv_has ls 4 [(0, .ref h_this), (1, .int p1), (2, .long p2)] := hl
  have hS : va_S A s.heap s.heap [] := va_S.rf
  have h := hf
  unfold fX4_putInstant at h
  refine lv_aload_n hx hb dX4_putInstant_0 rfl (lv_at hl 0 rfl) ?_
  refine lv_iload_n hx hb dX4_putInstant_1 rfl (lv_at hl 1 rfl) ?_
  refine lv_lload_n hx hb dX4_putInstant_2 rfl (lv_at hl 2 rfl) ?_
  refine lv_ldc2 (v := (86400 : Int64)) hx hb hown (hts _ (kq q_792 rfl)) dX4_putInstant_3 ?_
  refine lv_ldiv hx hb dX4_putInstant_6 (by decide) ?_
  refine lv_l2i hx hb dX4_putInstant_7 rfl ?_
  refine lv_lload_n hx hb dX4_putInstant_8 rfl (lv_at hl 2 rfl) ?_
  refine lv_ldc2 (v := (86400 : Int64)) hx hb hown (hts _ (kq q_792 rfl)) dX4_putInstant_9 ?_
  refine lv_lrem hx hb dX4_putInstant_12 (by decide) ?_
  refine lv_l2i hx hb dX4_putInstant_13 rfl ?_
  obtain ⟨f_this_day_1, f_this_second_2, hc3, h⟩ := bd2_at h
  refine kjV (kV (own := "DateSpans$Slots") (C := "DateSpans$Slots") (b := h_this) (As := [.int p1, .int ((p2 / (86400 : Int64)).toInt32), .int ((p2 - p2 / (86400 : Int64) * (86400 : Int64)).toInt32)]) (rest := []) ⟨hx, hb, hml, hown, hts⟩ (kX4_putMoment l dC dI cI cJ cB h_this h_this_day h_this_second h_this_months h_this_days h_this_seconds N p1 ((p2 / (86400 : Int64)).toInt32) ((p2 - p2 / (86400 : Int64) * (86400 : Int64)).toInt32) f_this_day f_this_second f_this_day_1 f_this_second_2 hc3 _) (kgV (kq q_793 rfl) (kq q_391 rfl) (kq q_392 rfl) (kq q_58 rfl) (kq q_393 rfl)) yd_X4_putMoment ⟨Nat.le_of_ble_eq_true rfl, Nat.le_of_ble_eq_true rfl⟩ hN hK hP hD [0, 1, 2] rfl rfl (ci := 3) rfl rfl rfl rfl rfl hl.1 rfl (lv_room (Nat.le_of_ble_eq_true rfl)) dX4_putInstant_14) hP hD hS hA [0, 1, 2] rfl rfl (fun H locs hP hD hS => ?_)
  have hP : va_P (dC, dI) vwCl [cl_X4 h_this h_this_day h_this_second h_this_months h_this_days h_this_seconds, (h_this_day, .inl (cI, 8, .inl f_this_day_1)), (h_this_second, .inl (cI, 8, .inl f_this_second_2))] H := hP
  have hD : va_D A [cl_X4 h_this h_this_day h_this_second h_this_months h_this_days h_this_seconds, (h_this_day, .inl (cI, 8, .inl f_this_day_1)), (h_this_second, .inl (cI, 8, .inl f_this_second_2))] := hD
  obtain ⟨rfl, rfl⟩ := pj2 h
  exact hEnd _ _ _ _ hP hS dX4_putInstant_17
noncomputable def fX9_floors (N : Nat) (p1 : Int32) (p2 : Int32) (p3 : Int32) (i_this : Int32) (f_this_now_day : Nat → Int32) (f_this_now_second : Nat → Int32) (i_this_told : Int32) (f_this_told_numbers : Nat → Int64) : Option (Int32 × (Nat → Int32) × (Nat → Int32) × Int32 × (Nat → Int64)) := (bd1 (fX9_isSlot N p1) fun r1 => (if r1 = (0 : Int32) then (some ((-1 : Int32), f_this_now_day, f_this_now_second, i_this_told, f_this_told_numbers)) else (if p2 < (0 : Int32) then (some ((-1 : Int32), f_this_now_day, f_this_now_second, i_this_told, f_this_told_numbers)) else (if (5 : Int32) < p2 then (some ((-1 : Int32), f_this_now_day, f_this_now_second, i_this_told, f_this_told_numbers)) else (bd1 (fX9_isSlot N p3) fun r6 => (if r6 = (0 : Int32) then (some ((-1 : Int32), f_this_now_day, f_this_now_second, i_this_told, f_this_told_numbers)) else (bd1 (fX4_instantAt N p1 f_this_now_day f_this_now_second) fun r9 => (bd1 (fX4_dayAt N p1 f_this_now_day) fun r11 => (bd1 (fX4_secondAt N p1 f_this_now_second) fun r13 => (bd1 (fX9_floorOf N r11 r13 p2) fun r15 => (bd2 (fX4_putInstant N p3 r15 f_this_now_day f_this_now_second) fun f_this_now_day_17 f_this_now_second_18 => (bd1 (fX4_secondAt N p3 f_this_now_second_18) fun r20 => (bd2 (fX3_tell_ N r20.toInt64 (r9 - r15) i_this_told f_this_told_numbers) fun i_this_told_22 f_this_told_numbers_23 => (bd1 (fX4_dayAt N p3 f_this_now_day_17) fun r25 => (some (r25, f_this_now_day_17, f_this_now_second_18, i_this_told_22, f_this_told_numbers_23))))))))))))))))
set_option maxHeartbeats 4000000 in
set_option maxRecDepth 100000 in
theorem kX9_floors (l : Launch) (dC : Nat → ClassId) (dI : Nat → Nat → Nat) (cI cJ cB : ClassId) (h_this h_this_now h_this_kept h_this_told h_this_text h_this_script h_this_momentReader h_this_spanReader h_this_adder h_this_other h_this_trial h_this_ways h_this_now_day h_this_now_second h_this_now_months h_this_now_days h_this_now_seconds h_this_told_numbers : Nat) (N : Nat) (p1 : Int32) (p2 : Int32) (p3 : Int32) (i_this : Int32) (f_this_now_day : Nat → Int32) (f_this_now_second : Nat → Int32) (i_this_told : Int32) (f_this_told_numbers : Nat → Int64) (r : Int32) (o_f_this_now_day : Nat → Int32) (o_f_this_now_second : Nat → Int32) (o_i_this_told : Int32) (o_f_this_told_numbers : Nat → Int64) (hf : fX9_floors N p1 p2 p3 i_this f_this_now_day f_this_now_second i_this_told f_this_told_numbers = some (r, o_f_this_now_day, o_f_this_now_second, o_i_this_told, o_f_this_told_numbers)) : MI l yX9_floors (kws yX9_floors cX9_floors 8 (some .int)) (kR 3 73) (dC, dI) (kT cI cJ cB) [.ref h_this, .int p1, .int p2, .int p3] [cl_X9 h_this h_this_now h_this_kept h_this_told h_this_text h_this_script h_this_momentReader h_this_spanReader h_this_adder h_this_other h_this_trial h_this_ways i_this, cl_X4 h_this_now h_this_now_day h_this_now_second h_this_now_months h_this_now_days h_this_now_seconds, (h_this_now_day, .inl (cI, 8, .inl f_this_now_day)), (h_this_now_second, .inl (cI, 8, .inl f_this_now_second)), cl_X3 h_this_told h_this_told_numbers i_this_told, (h_this_told_numbers, .inl (cJ, 8, .inr (.inl f_this_told_numbers)))] [cl_X9 h_this h_this_now h_this_kept h_this_told h_this_text h_this_script h_this_momentReader h_this_spanReader h_this_adder h_this_other h_this_trial h_this_ways i_this, cl_X4 h_this_now h_this_now_day h_this_now_second h_this_now_months h_this_now_days h_this_now_seconds, (h_this_now_day, .inl (cI, 8, .inl o_f_this_now_day)), (h_this_now_second, .inl (cI, 8, .inl o_f_this_now_second)), cl_X3 h_this_told h_this_told_numbers o_i_this_told, (h_this_told_numbers, .inl (cJ, 8, .inr (.inl o_f_this_told_numbers)))] r := by
  refine MI.of (cc := cX9_floors) (maxL := 8) (by decide) (Nat.le_of_ble_eq_true rfl) (fun p e s m args below meth c A Q ls KC hN hK hP hD hA hl hEnd => ?_)
  obtain ⟨hx, hb, hml, hown, hts⟩ := KC
  have hown : s.vm.findClass "DateSpans" = some m.cls := hown
  have hl : lv_has ls 8 [(0, .ref h_this), (1, .int p1), (2, .int p2), (3, .int p3)] := hl
  have hS : va_S A s.heap s.heap [] := va_S.rf
  have h := hf
  unfold fX9_floors at h
  refine lv_iload_n hx hb dX9_floors_0 rfl (lv_at hl 1 rfl) ?_
  obtain ⟨r1, hc2, h⟩ := bd1_at h
  refine kjSI (kS0 (own := "DateSpans") (As := [.int p1]) (rest := []) ⟨hx, hb, hml, hown, hts⟩ (kX9_isSlot l N p1 r1 hc2) (kgS (kq q_387 rfl) (kq q_388 rfl) (kq q_57 rfl) (kq q_389 rfl)) yd_X9_isSlot ⟨Nat.le_of_ble_eq_true rfl, Nat.le_of_ble_eq_true rfl⟩ rfl rfl hl.1 rfl (lv_room (Nat.le_of_ble_eq_true rfl)) dX9_floors_1) ?_
  refine lv_if_eq (tgt := 23) hx hb dX9_floors_4 (by decide) (fun c3 => ?_) (fun c3 => ?_)
  · have h := ite_t c3 h
    refine lv_iconst (v := (-1 : Int32)) hx hb dX9_floors_23 (by decide) ?_
    obtain ⟨rfl, rfl, rfl, rfl, rfl⟩ := pj5 h
    exact hEnd _ _ _ _ hP hS dX9_floors_24 rfl
  have h := ite_f c3 h
  refine lv_iload_n hx hb dX9_floors_7 rfl (lv_at hl 2 rfl) ?_
  refine lv_if_lt (tgt := 23) hx hb dX9_floors_8 (by decide) (fun c4 => ?_) (fun c4 => ?_)
  · have h := ite_t c4 h
    refine lv_iconst (v := (-1 : Int32)) hx hb dX9_floors_23 (by decide) ?_
    obtain ⟨rfl, rfl, rfl, rfl, rfl⟩ := pj5 h
    exact hEnd _ _ _ _ hP hS dX9_floors_24 rfl
  have h := ite_f c4 h
  refine lv_iload_n hx hb dX9_floors_11 rfl (lv_at hl 2 rfl) ?_
  refine lv_iconst (v := (5 : Int32)) hx hb dX9_floors_12 (by decide) ?_
  refine lv_icmp_gt (tgt := 23) hx hb dX9_floors_13 (by decide) (fun c5 => ?_) (fun c5 => ?_)
  · have h := ite_t c5 h
    refine lv_iconst (v := (-1 : Int32)) hx hb dX9_floors_23 (by decide) ?_
    obtain ⟨rfl, rfl, rfl, rfl, rfl⟩ := pj5 h
    exact hEnd _ _ _ _ hP hS dX9_floors_24 rfl
  have h := ite_f c5 h
  refine lv_iload_n hx hb dX9_floors_16 rfl (lv_at hl 3 rfl) ?_
  obtain ⟨r6, hc7, h⟩ := bd1_at h
  refine kjSI (kS0 (own := "DateSpans") (As := [.int p3]) (rest := []) ⟨hx, hb, hml, hown, hts⟩ (kX9_isSlot l N p3 r6 hc7) (kgS (kq q_387 rfl) (kq q_388 rfl) (kq q_57 rfl) (kq q_389 rfl)) yd_X9_isSlot ⟨Nat.le_of_ble_eq_true rfl, Nat.le_of_ble_eq_true rfl⟩ rfl rfl hl.1 rfl (lv_room (Nat.le_of_ble_eq_true rfl)) dX9_floors_17) ?_
  refine lv_if_ne (tgt := 25) hx hb dX9_floors_20 (by decide) (fun c8 => ?_) (fun c8 => ?_)
  · have h := ite_f c8 h
    refine lv_aload_n hx hb dX9_floors_25 rfl (lv_at hl 0 rfl) ?_
    refine va_get (D := (dC, dI)) (ci := 8) (v := .ref h_this_now) (C := RX9) (T := TX9) (N := 12) hx hb hts inX9 hown hK hP 0 rfl rfl 0 (by decide) (hts _ (kq q_292 rfl)) (fun _ h9 => h9) rfl dX9_floors_26 ?_
    refine lv_iload_n hx hb dX9_floors_29 rfl (lv_at hl 1 rfl) ?_
    obtain ⟨r9, hc10, h⟩ := bd1_at h
    refine kjL (kV (own := "DateSpans") (C := "DateSpans$Slots") (b := h_this_now) (As := [.int p1]) (rest := []) ⟨hx, hb, hml, hown, hts⟩ (kX4_instantAt l dC dI cI cJ cB h_this_now h_this_now_day h_this_now_second h_this_now_months h_this_now_days h_this_now_seconds N p1 f_this_now_day f_this_now_second r9 hc10 _) (kgV (kq q_618 rfl) (kq q_619 rfl) (kq q_620 rfl) (kq q_58 rfl) (kq q_621 rfl)) yd_X4_instantAt ⟨Nat.le_of_ble_eq_true rfl, Nat.le_of_ble_eq_true rfl⟩ hN hK hP hD [1, 2, 3] rfl rfl (ci := 3) rfl rfl rfl rfl rfl hl.1 rfl (lv_room (Nat.le_of_ble_eq_true rfl)) dX9_floors_30) hP hD hS hA [1, 2, 3] rfl rfl (fun H locs hP hD hS => ?_)
    have hP : va_P (dC, dI) vwCl [cl_X9 h_this h_this_now h_this_kept h_this_told h_this_text h_this_script h_this_momentReader h_this_spanReader h_this_adder h_this_other h_this_trial h_this_ways i_this, cl_X4 h_this_now h_this_now_day h_this_now_second h_this_now_months h_this_now_days h_this_now_seconds, (h_this_now_day, .inl (cI, 8, .inl f_this_now_day)), (h_this_now_second, .inl (cI, 8, .inl f_this_now_second)), cl_X3 h_this_told h_this_told_numbers i_this_told, (h_this_told_numbers, .inl (cJ, 8, .inr (.inl f_this_told_numbers)))] H := hP
    have hD : va_D A [cl_X9 h_this h_this_now h_this_kept h_this_told h_this_text h_this_script h_this_momentReader h_this_spanReader h_this_adder h_this_other h_this_trial h_this_ways i_this, cl_X4 h_this_now h_this_now_day h_this_now_second h_this_now_months h_this_now_days h_this_now_seconds, (h_this_now_day, .inl (cI, 8, .inl f_this_now_day)), (h_this_now_second, .inl (cI, 8, .inl f_this_now_second)), cl_X3 h_this_told h_this_told_numbers i_this_told, (h_this_told_numbers, .inl (cJ, 8, .inr (.inl f_this_told_numbers)))] := hD
    refine lv_lstore (lv' := [(4, .long r9), (0, .ref h_this), (1, .int p1), (2, .int p2), (3, .int p3)]) hx hb dX9_floors_33 hl (by decide) rfl (fun ls hl => ?_)
    refine lv_aload_n hx hb dX9_floors_35 rfl (lv_at hl 1 rfl) ?_
    refine va_get (D := (dC, dI)) (ci := 8) (v := .ref h_this_now) (C := RX9) (T := TX9) (N := 12) hx hb hts inX9 hown hK hP 0 rfl rfl 0 (by decide) (hts _ (kq q_292 rfl)) (fun _ h9 => h9) rfl dX9_floors_36 ?_
    refine lv_iload_n hx hb dX9_floors_39 rfl (lv_at hl 2 rfl) ?_
    obtain ⟨r11, hc12, h⟩ := bd1_at h
    refine kjI (kV (own := "DateSpans") (C := "DateSpans$Slots") (b := h_this_now) (As := [.int p1]) (rest := []) ⟨hx, hb, hml, hown, hts⟩ (kX4_dayAt l dC dI cI cJ cB h_this_now h_this_now_day h_this_now_second h_this_now_months h_this_now_days h_this_now_seconds N p1 f_this_now_day r11 hc12 _) (kgV (kq q_404 rfl) (kq q_405 rfl) (kq q_406 rfl) (kq q_58 rfl) (kq q_407 rfl)) yd_X4_dayAt ⟨Nat.le_of_ble_eq_true rfl, Nat.le_of_ble_eq_true rfl⟩ hN hK hP hD [1, 2] rfl rfl (ci := 3) rfl rfl rfl rfl rfl hl.1 rfl (lv_room (Nat.le_of_ble_eq_true rfl)) dX9_floors_40) hP hD hS hA [1, 2] rfl rfl (fun H locs hP hD hS => ?_)
    have hP : va_P (dC, dI) vwCl [cl_X9 h_this h_this_now h_this_kept h_this_told h_this_text h_this_script h_this_momentReader h_this_spanReader h_this_adder h_this_other h_this_trial h_this_ways i_this, cl_X4 h_this_now h_this_now_day h_this_now_second h_this_now_months h_this_now_days h_this_now_seconds, (h_this_now_day, .inl (cI, 8, .inl f_this_now_day)), (h_this_now_second, .inl (cI, 8, .inl f_this_now_second)), cl_X3 h_this_told h_this_told_numbers i_this_told, (h_this_told_numbers, .inl (cJ, 8, .inr (.inl f_this_told_numbers)))] H := hP
    have hD : va_D A [cl_X9 h_this h_this_now h_this_kept h_this_told h_this_text h_this_script h_this_momentReader h_this_spanReader h_this_adder h_this_other h_this_trial h_this_ways i_this, cl_X4 h_this_now h_this_now_day h_this_now_second h_this_now_months h_this_now_days h_this_now_seconds, (h_this_now_day, .inl (cI, 8, .inl f_this_now_day)), (h_this_now_second, .inl (cI, 8, .inl f_this_now_second)), cl_X3 h_this_told h_this_told_numbers i_this_told, (h_this_told_numbers, .inl (cJ, 8, .inr (.inl f_this_told_numbers)))] := hD
    refine lv_aload_n hx hb dX9_floors_43 rfl (lv_at hl 1 rfl) ?_
    refine va_get (D := (dC, dI)) (ci := 8) (v := .ref h_this_now) (C := RX9) (T := TX9) (N := 12) hx hb hts inX9 hown hK hP 0 rfl rfl 0 (by decide) (hts _ (kq q_292 rfl)) (fun _ h9 => h9) rfl dX9_floors_44 ?_
    refine lv_iload_n hx hb dX9_floors_47 rfl (lv_at hl 2 rfl) ?_
    obtain ⟨r13, hc14, h⟩ := bd1_at h
    refine kjI (kV (own := "DateSpans") (C := "DateSpans$Slots") (b := h_this_now) (As := [.int p1]) (rest := [.int r11]) ⟨hx, hb, hml, hown, hts⟩ (kX4_secondAt l dC dI cI cJ cB h_this_now h_this_now_day h_this_now_second h_this_now_months h_this_now_days h_this_now_seconds N p1 f_this_now_second r13 hc14 _) (kgV (kq q_475 rfl) (kq q_476 rfl) (kq q_477 rfl) (kq q_58 rfl) (kq q_478 rfl)) yd_X4_secondAt ⟨Nat.le_of_ble_eq_true rfl, Nat.le_of_ble_eq_true rfl⟩ hN hK hP hD [1, 3] rfl rfl (ci := 3) rfl rfl rfl rfl rfl hl.1 rfl (lv_room (Nat.le_of_ble_eq_true rfl)) dX9_floors_48) hP hD hS hA [1, 3] rfl rfl (fun H locs hP hD hS => ?_)
    have hP : va_P (dC, dI) vwCl [cl_X9 h_this h_this_now h_this_kept h_this_told h_this_text h_this_script h_this_momentReader h_this_spanReader h_this_adder h_this_other h_this_trial h_this_ways i_this, cl_X4 h_this_now h_this_now_day h_this_now_second h_this_now_months h_this_now_days h_this_now_seconds, (h_this_now_day, .inl (cI, 8, .inl f_this_now_day)), (h_this_now_second, .inl (cI, 8, .inl f_this_now_second)), cl_X3 h_this_told h_this_told_numbers i_this_told, (h_this_told_numbers, .inl (cJ, 8, .inr (.inl f_this_told_numbers)))] H := hP
    have hD : va_D A [cl_X9 h_this h_this_now h_this_kept h_this_told h_this_text h_this_script h_this_momentReader h_this_spanReader h_this_adder h_this_other h_this_trial h_this_ways i_this, cl_X4 h_this_now h_this_now_day h_this_now_second h_this_now_months h_this_now_days h_this_now_seconds, (h_this_now_day, .inl (cI, 8, .inl f_this_now_day)), (h_this_now_second, .inl (cI, 8, .inl f_this_now_second)), cl_X3 h_this_told h_this_told_numbers i_this_told, (h_this_told_numbers, .inl (cJ, 8, .inr (.inl f_this_told_numbers)))] := hD
    refine lv_iload_n hx hb dX9_floors_51 rfl (lv_at hl 3 rfl) ?_
    obtain ⟨r15, hc16, h⟩ := bd1_at h
    refine kjSL (kS0 (own := "DateSpans") (As := [.int r11, .int r13, .int p2]) (rest := []) ⟨hx, hb, hml, hown, hts⟩ (kX9_floorOf l N r11 r13 p2 r15 hc16) (kgS (kq q_785 rfl) (kq q_786 rfl) (kq q_57 rfl) (kq q_787 rfl)) yd_X9_floorOf ⟨Nat.le_of_ble_eq_true rfl, Nat.le_of_ble_eq_true rfl⟩ rfl rfl hl.1 rfl (lv_room (Nat.le_of_ble_eq_true rfl)) dX9_floors_52) ?_
    refine lv_lstore (lv' := [(6, .long r15), (4, .long r9), (0, .ref h_this), (1, .int p1), (2, .int p2), (3, .int p3)]) hx hb dX9_floors_55 hl (by decide) rfl (fun ls hl => ?_)
    refine lv_aload_n hx hb dX9_floors_57 rfl (lv_at hl 2 rfl) ?_
    refine va_get (D := (dC, dI)) (ci := 8) (v := .ref h_this_now) (C := RX9) (T := TX9) (N := 12) hx hb hts inX9 hown hK hP 0 rfl rfl 0 (by decide) (hts _ (kq q_292 rfl)) (fun _ h9 => h9) rfl dX9_floors_58 ?_
    refine lv_iload_n hx hb dX9_floors_61 rfl (lv_at hl 5 rfl) ?_
    refine lv_lload hx hb dX9_floors_62 (lv_at hl 0 rfl) ?_
    obtain ⟨f_this_now_day_17, f_this_now_second_18, hc19, h⟩ := bd2_at h
    refine kjV (kV (own := "DateSpans") (C := "DateSpans$Slots") (b := h_this_now) (As := [.int p3, .long r15]) (rest := []) ⟨hx, hb, hml, hown, hts⟩ (kX4_putInstant l dC dI cI cJ cB h_this_now h_this_now_day h_this_now_second h_this_now_months h_this_now_days h_this_now_seconds N p3 r15 f_this_now_day f_this_now_second f_this_now_day_17 f_this_now_second_18 hc19 _) (kgV (kq q_788 rfl) (kq q_789 rfl) (kq q_790 rfl) (kq q_58 rfl) (kq q_791 rfl)) yd_X4_putInstant ⟨Nat.le_of_ble_eq_true rfl, Nat.le_of_ble_eq_true rfl⟩ hN hK hP hD [1, 2, 3] rfl rfl (ci := 3) rfl rfl rfl rfl rfl hl.1 rfl (lv_room (Nat.le_of_ble_eq_true rfl)) dX9_floors_64) hP hD hS hA [1, 2, 3] rfl rfl (fun H locs hP hD hS => ?_)
    have hP : va_P (dC, dI) vwCl [cl_X9 h_this h_this_now h_this_kept h_this_told h_this_text h_this_script h_this_momentReader h_this_spanReader h_this_adder h_this_other h_this_trial h_this_ways i_this, cl_X4 h_this_now h_this_now_day h_this_now_second h_this_now_months h_this_now_days h_this_now_seconds, (h_this_now_day, .inl (cI, 8, .inl f_this_now_day_17)), (h_this_now_second, .inl (cI, 8, .inl f_this_now_second_18)), cl_X3 h_this_told h_this_told_numbers i_this_told, (h_this_told_numbers, .inl (cJ, 8, .inr (.inl f_this_told_numbers)))] H := hP
    have hD : va_D A [cl_X9 h_this h_this_now h_this_kept h_this_told h_this_text h_this_script h_this_momentReader h_this_spanReader h_this_adder h_this_other h_this_trial h_this_ways i_this, cl_X4 h_this_now h_this_now_day h_this_now_second h_this_now_months h_this_now_days h_this_now_seconds, (h_this_now_day, .inl (cI, 8, .inl f_this_now_day_17)), (h_this_now_second, .inl (cI, 8, .inl f_this_now_second_18)), cl_X3 h_this_told h_this_told_numbers i_this_told, (h_this_told_numbers, .inl (cJ, 8, .inr (.inl f_this_told_numbers)))] := hD
    refine lv_aload_n hx hb dX9_floors_67 rfl (lv_at hl 2 rfl) ?_
    refine va_get (D := (dC, dI)) (ci := 8) (v := .ref h_this_told) (C := RX9) (T := TX9) (N := 12) hx hb hts inX9 hown hK hP 0 rfl rfl 3 (by decide) (hts _ (kq q_295 rfl)) (fun _ h9 => h9) rfl dX9_floors_68 ?_
    refine lv_aload_n hx hb dX9_floors_71 rfl (lv_at hl 2 rfl) ?_
    refine va_get (D := (dC, dI)) (ci := 8) (v := .ref h_this_now) (C := RX9) (T := TX9) (N := 12) hx hb hts inX9 hown hK hP 0 rfl rfl 0 (by decide) (hts _ (kq q_292 rfl)) (fun _ h9 => h9) rfl dX9_floors_72 ?_
    refine lv_iload_n hx hb dX9_floors_75 rfl (lv_at hl 5 rfl) ?_
    obtain ⟨r20, hc21, h⟩ := bd1_at h
    refine kjI (kV (own := "DateSpans") (C := "DateSpans$Slots") (b := h_this_now) (As := [.int p3]) (rest := [.ref h_this_told]) ⟨hx, hb, hml, hown, hts⟩ (kX4_secondAt l dC dI cI cJ cB h_this_now h_this_now_day h_this_now_second h_this_now_months h_this_now_days h_this_now_seconds N p3 f_this_now_second_18 r20 hc21 _) (kgV (kq q_475 rfl) (kq q_476 rfl) (kq q_477 rfl) (kq q_58 rfl) (kq q_478 rfl)) yd_X4_secondAt ⟨Nat.le_of_ble_eq_true rfl, Nat.le_of_ble_eq_true rfl⟩ hN hK hP hD [1, 3] rfl rfl (ci := 3) rfl rfl rfl rfl rfl hl.1 rfl (lv_room (Nat.le_of_ble_eq_true rfl)) dX9_floors_76) hP hD hS hA [1, 3] rfl rfl (fun H locs hP hD hS => ?_)
    have hP : va_P (dC, dI) vwCl [cl_X9 h_this h_this_now h_this_kept h_this_told h_this_text h_this_script h_this_momentReader h_this_spanReader h_this_adder h_this_other h_this_trial h_this_ways i_this, cl_X4 h_this_now h_this_now_day h_this_now_second h_this_now_months h_this_now_days h_this_now_seconds, (h_this_now_day, .inl (cI, 8, .inl f_this_now_day_17)), (h_this_now_second, .inl (cI, 8, .inl f_this_now_second_18)), cl_X3 h_this_told h_this_told_numbers i_this_told, (h_this_told_numbers, .inl (cJ, 8, .inr (.inl f_this_told_numbers)))] H := hP
    have hD : va_D A [cl_X9 h_this h_this_now h_this_kept h_this_told h_this_text h_this_script h_this_momentReader h_this_spanReader h_this_adder h_this_other h_this_trial h_this_ways i_this, cl_X4 h_this_now h_this_now_day h_this_now_second h_this_now_months h_this_now_days h_this_now_seconds, (h_this_now_day, .inl (cI, 8, .inl f_this_now_day_17)), (h_this_now_second, .inl (cI, 8, .inl f_this_now_second_18)), cl_X3 h_this_told h_this_told_numbers i_this_told, (h_this_told_numbers, .inl (cJ, 8, .inr (.inl f_this_told_numbers)))] := hD
    refine lv_i2l hx hb dX9_floors_79 rfl ?_
    refine lv_lload hx hb dX9_floors_80 (lv_at hl 1 rfl) ?_
    refine lv_lload hx hb dX9_floors_82 (lv_at hl 0 rfl) ?_
    refine lv_lsub hx hb dX9_floors_84 ?_
    obtain ⟨i_this_told_22, f_this_told_numbers_23, hc24, h⟩ := bd2_at h
    refine kjV (kV (own := "DateSpans") (C := "DateSpans$Row") (b := h_this_told) (As := [.long r20.toInt64, .long (r9 - r15)]) (rest := []) ⟨hx, hb, hml, hown, hts⟩ (kX3_tell_ l dC dI cI cJ cB h_this_told h_this_told_numbers N r20.toInt64 (r9 - r15) i_this_told f_this_told_numbers i_this_told_22 f_this_told_numbers_23 hc24 _) (kgV (kq q_591 rfl) (kq q_446 rfl) (kq q_447 rfl) (kq q_59 rfl) (kq q_448 rfl)) yd_X3_tell_ ⟨Nat.le_of_ble_eq_true rfl, Nat.le_of_ble_eq_true rfl⟩ hN hK hP hD [4, 5] rfl rfl (ci := 2) rfl rfl rfl rfl rfl hl.1 rfl (lv_room (Nat.le_of_ble_eq_true rfl)) dX9_floors_85) hP hD hS hA [4, 5] rfl rfl (fun H locs hP hD hS => ?_)
    have hP : va_P (dC, dI) vwCl [cl_X9 h_this h_this_now h_this_kept h_this_told h_this_text h_this_script h_this_momentReader h_this_spanReader h_this_adder h_this_other h_this_trial h_this_ways i_this, cl_X4 h_this_now h_this_now_day h_this_now_second h_this_now_months h_this_now_days h_this_now_seconds, (h_this_now_day, .inl (cI, 8, .inl f_this_now_day_17)), (h_this_now_second, .inl (cI, 8, .inl f_this_now_second_18)), cl_X3 h_this_told h_this_told_numbers i_this_told_22, (h_this_told_numbers, .inl (cJ, 8, .inr (.inl f_this_told_numbers_23)))] H := hP
    have hD : va_D A [cl_X9 h_this h_this_now h_this_kept h_this_told h_this_text h_this_script h_this_momentReader h_this_spanReader h_this_adder h_this_other h_this_trial h_this_ways i_this, cl_X4 h_this_now h_this_now_day h_this_now_second h_this_now_months h_this_now_days h_this_now_seconds, (h_this_now_day, .inl (cI, 8, .inl f_this_now_day_17)), (h_this_now_second, .inl (cI, 8, .inl f_this_now_second_18)), cl_X3 h_this_told h_this_told_numbers i_this_told_22, (h_this_told_numbers, .inl (cJ, 8, .inr (.inl f_this_told_numbers_23)))] := hD
    refine lv_aload_n hx hb dX9_floors_88 rfl (lv_at hl 2 rfl) ?_
    refine va_get (D := (dC, dI)) (ci := 8) (v := .ref h_this_now) (C := RX9) (T := TX9) (N := 12) hx hb hts inX9 hown hK hP 0 rfl rfl 0 (by decide) (hts _ (kq q_292 rfl)) (fun _ h9 => h9) rfl dX9_floors_89 ?_
    refine lv_iload_n hx hb dX9_floors_92 rfl (lv_at hl 5 rfl) ?_
    obtain ⟨r25, hc26, h⟩ := bd1_at h
    refine kjI (kV (own := "DateSpans") (C := "DateSpans$Slots") (b := h_this_now) (As := [.int p3]) (rest := []) ⟨hx, hb, hml, hown, hts⟩ (kX4_dayAt l dC dI cI cJ cB h_this_now h_this_now_day h_this_now_second h_this_now_months h_this_now_days h_this_now_seconds N p3 f_this_now_day_17 r25 hc26 _) (kgV (kq q_404 rfl) (kq q_405 rfl) (kq q_406 rfl) (kq q_58 rfl) (kq q_407 rfl)) yd_X4_dayAt ⟨Nat.le_of_ble_eq_true rfl, Nat.le_of_ble_eq_true rfl⟩ hN hK hP hD [1, 2] rfl rfl (ci := 3) rfl rfl rfl rfl rfl hl.1 rfl (lv_room (Nat.le_of_ble_eq_true rfl)) dX9_floors_93) hP hD hS hA [1, 2] rfl rfl (fun H locs hP hD hS => ?_)
    have hP : va_P (dC, dI) vwCl [cl_X9 h_this h_this_now h_this_kept h_this_told h_this_text h_this_script h_this_momentReader h_this_spanReader h_this_adder h_this_other h_this_trial h_this_ways i_this, cl_X4 h_this_now h_this_now_day h_this_now_second h_this_now_months h_this_now_days h_this_now_seconds, (h_this_now_day, .inl (cI, 8, .inl f_this_now_day_17)), (h_this_now_second, .inl (cI, 8, .inl f_this_now_second_18)), cl_X3 h_this_told h_this_told_numbers i_this_told_22, (h_this_told_numbers, .inl (cJ, 8, .inr (.inl f_this_told_numbers_23)))] H := hP
    have hD : va_D A [cl_X9 h_this h_this_now h_this_kept h_this_told h_this_text h_this_script h_this_momentReader h_this_spanReader h_this_adder h_this_other h_this_trial h_this_ways i_this, cl_X4 h_this_now h_this_now_day h_this_now_second h_this_now_months h_this_now_days h_this_now_seconds, (h_this_now_day, .inl (cI, 8, .inl f_this_now_day_17)), (h_this_now_second, .inl (cI, 8, .inl f_this_now_second_18)), cl_X3 h_this_told h_this_told_numbers i_this_told_22, (h_this_told_numbers, .inl (cJ, 8, .inr (.inl f_this_told_numbers_23)))] := hD
    obtain ⟨rfl, rfl, rfl, rfl, rfl⟩ := pj5 h
    exact hEnd _ _ _ _ hP hS dX9_floors_96 rfl
  have h := ite_t c8 h
  refine lv_iconst (v := (-1 : Int32)) hx hb dX9_floors_23 (by decide) ?_
  obtain ⟨rfl, rfl, rfl, rfl, rfl⟩ := pj5 h
  exact hEnd _ _ _ _ hP hS dX9_floors_24 rfl
noncomputable def fX9_part (N : Nat) (p1 : Int32) (p2 : Int32) (p3 : Int32) (p4 : Int32) (p5 : Int32) (i_this : Int32) (f_this_now_day : Nat → Int32) (f_this_now_second : Nat → Int32) (i_this_told : Int32) (f_this_told_numbers : Nat → Int64) : Option (Int32 × (Nat → Int32) × (Nat → Int32) × Int32 × (Nat → Int64)) := (bd1 (fX9_isSlot N p1) fun r1 => (if r1 = (0 : Int32) then (some ((-1 : Int32), f_this_now_day, f_this_now_second, i_this_told, f_this_told_numbers)) else (bd1 (fX9_isSlot N p2) fun r4 => (if r4 = (0 : Int32) then (some ((-1 : Int32), f_this_now_day, f_this_now_second, i_this_told, f_this_told_numbers)) else (if p4 < (1 : Int32) then (some ((-1 : Int32), f_this_now_day, f_this_now_second, i_this_told, f_this_told_numbers)) else (if (1000 : Int32) < p4 then (some ((-1 : Int32), f_this_now_day, f_this_now_second, i_this_told, f_this_told_numbers)) else (if p3 < (0 : Int32) then (some ((-1 : Int32), f_this_now_day, f_this_now_second, i_this_told, f_this_told_numbers)) else (if p4 < p3 then (some ((-1 : Int32), f_this_now_day, f_this_now_second, i_this_told, f_this_told_numbers)) else (bd1 (fX9_isSlot N p5) fun r11 => (if r11 = (0 : Int32) then (some ((-1 : Int32), f_this_now_day, f_this_now_second, i_this_told, f_this_told_numbers)) else (bd1 (fX4_instantAt N p2 f_this_now_day f_this_now_second) fun r14 => (bd1 (fX4_instantAt N p1 f_this_now_day f_this_now_second) fun r16 => (gnl p4.toInt64 (nm (((r14 - r16) * p3.toInt64) / p4.toInt64) fun z19 => (bd1 (fX4_instantAt N p1 f_this_now_day f_this_now_second) fun r20 => (bd2 (fX4_putInstant N p5 (r20 + z19) f_this_now_day f_this_now_second) fun f_this_now_day_22 f_this_now_second_23 => (bd1 (fX4_secondAt N p5 f_this_now_second_23) fun r25 => (bd2 (fX3_tell N r25.toInt64 i_this_told f_this_told_numbers) fun i_this_told_27 f_this_told_numbers_28 => (bd1 (fX4_dayAt N p5 f_this_now_day_22) fun r30 => (some (r30, f_this_now_day_22, f_this_now_second_23, i_this_told_27, f_this_told_numbers_28)))))))))))))))))))))
set_option maxHeartbeats 4000000 in
set_option maxRecDepth 100000 in
theorem kX9_part (l : Launch) (dC : Nat → ClassId) (dI : Nat → Nat → Nat) (cI cJ cB : ClassId) (h_this h_this_now h_this_kept h_this_told h_this_text h_this_script h_this_momentReader h_this_spanReader h_this_adder h_this_other h_this_trial h_this_ways h_this_now_day h_this_now_second h_this_now_months h_this_now_days h_this_now_seconds h_this_told_numbers : Nat) (N : Nat) (p1 : Int32) (p2 : Int32) (p3 : Int32) (p4 : Int32) (p5 : Int32) (i_this : Int32) (f_this_now_day : Nat → Int32) (f_this_now_second : Nat → Int32) (i_this_told : Int32) (f_this_told_numbers : Nat → Int64) (r : Int32) (o_f_this_now_day : Nat → Int32) (o_f_this_now_second : Nat → Int32) (o_i_this_told : Int32) (o_f_this_told_numbers : Nat → Int64) (hf : fX9_part N p1 p2 p3 p4 p5 i_this f_this_now_day f_this_now_second i_this_told f_this_told_numbers = some (r, o_f_this_now_day, o_f_this_now_second, o_i_this_told, o_f_this_told_numbers)) : MI l yX9_part (kws yX9_part cX9_part 8 (some .int)) (kR 3 66) (dC, dI) (kT cI cJ cB) [.ref h_this, .int p1, .int p2, .int p3, .int p4, .int p5] [cl_X9 h_this h_this_now h_this_kept h_this_told h_this_text h_this_script h_this_momentReader h_this_spanReader h_this_adder h_this_other h_this_trial h_this_ways i_this, cl_X4 h_this_now h_this_now_day h_this_now_second h_this_now_months h_this_now_days h_this_now_seconds, (h_this_now_day, .inl (cI, 8, .inl f_this_now_day)), (h_this_now_second, .inl (cI, 8, .inl f_this_now_second)), cl_X3 h_this_told h_this_told_numbers i_this_told, (h_this_told_numbers, .inl (cJ, 8, .inr (.inl f_this_told_numbers)))] [cl_X9 h_this h_this_now h_this_kept h_this_told h_this_text h_this_script h_this_momentReader h_this_spanReader h_this_adder h_this_other h_this_trial h_this_ways i_this, cl_X4 h_this_now h_this_now_day h_this_now_second h_this_now_months h_this_now_days h_this_now_seconds, (h_this_now_day, .inl (cI, 8, .inl o_f_this_now_day)), (h_this_now_second, .inl (cI, 8, .inl o_f_this_now_second)), cl_X3 h_this_told h_this_told_numbers o_i_this_told, (h_this_told_numbers, .inl (cJ, 8, .inr (.inl o_f_this_told_numbers)))] r := by
  refine MI.of (cc := cX9_part) (maxL := 8) (by decide) (Nat.le_of_ble_eq_true rfl) (fun p e s m args below meth c A Q ls KC hN hK hP hD hA hl hEnd => ?_)
  obtain ⟨hx, hb, hml, hown, hts⟩ := KC
  have hown : s.vm.findClass "DateSpans" = some m.cls := hown
  have hl : lv_has ls 8 [(0, .ref h_this), (1, .int p1), (2, .int p2), (3, .int p3), (4, .int p4), (5, .int p5)] := hl
  have hS : va_S A s.heap s.heap [] := va_S.rf
  have h := hf
  unfold fX9_part at h
  refine lv_iload_n hx hb dX9_part_0 rfl (lv_at hl 1 rfl) ?_
  obtain ⟨r1, hc2, h⟩ := bd1_at h
  refine kjSI (kS0 (own := "DateSpans") (As := [.int p1]) (rest := []) ⟨hx, hb, hml, hown, hts⟩ (kX9_isSlot l N p1 r1 hc2) (kgS (kq q_387 rfl) (kq q_388 rfl) (kq q_57 rfl) (kq q_389 rfl)) yd_X9_isSlot ⟨Nat.le_of_ble_eq_true rfl, Nat.le_of_ble_eq_true rfl⟩ rfl rfl hl.1 rfl (lv_room (Nat.le_of_ble_eq_true rfl)) dX9_part_1) ?_
  refine lv_if_eq (tgt := 46) hx hb dX9_part_4 (by decide) (fun c3 => ?_) (fun c3 => ?_)
  · have h := ite_t c3 h
    refine lv_iconst (v := (-1 : Int32)) hx hb dX9_part_46 (by decide) ?_
    obtain ⟨rfl, rfl, rfl, rfl, rfl⟩ := pj5 h
    exact hEnd _ _ _ _ hP hS dX9_part_47 rfl
  have h := ite_f c3 h
  refine lv_iload_n hx hb dX9_part_7 rfl (lv_at hl 2 rfl) ?_
  obtain ⟨r4, hc5, h⟩ := bd1_at h
  refine kjSI (kS0 (own := "DateSpans") (As := [.int p2]) (rest := []) ⟨hx, hb, hml, hown, hts⟩ (kX9_isSlot l N p2 r4 hc5) (kgS (kq q_387 rfl) (kq q_388 rfl) (kq q_57 rfl) (kq q_389 rfl)) yd_X9_isSlot ⟨Nat.le_of_ble_eq_true rfl, Nat.le_of_ble_eq_true rfl⟩ rfl rfl hl.1 rfl (lv_room (Nat.le_of_ble_eq_true rfl)) dX9_part_8) ?_
  refine lv_if_eq (tgt := 46) hx hb dX9_part_11 (by decide) (fun c6 => ?_) (fun c6 => ?_)
  · have h := ite_t c6 h
    refine lv_iconst (v := (-1 : Int32)) hx hb dX9_part_46 (by decide) ?_
    obtain ⟨rfl, rfl, rfl, rfl, rfl⟩ := pj5 h
    exact hEnd _ _ _ _ hP hS dX9_part_47 rfl
  have h := ite_f c6 h
  refine lv_iload hx hb dX9_part_14 (lv_at hl 4 rfl) ?_
  refine lv_iconst (v := (1 : Int32)) hx hb dX9_part_16 (by decide) ?_
  refine lv_icmp_lt (tgt := 46) hx hb dX9_part_17 (by decide) (fun c7 => ?_) (fun c7 => ?_)
  · have h := ite_t c7 h
    refine lv_iconst (v := (-1 : Int32)) hx hb dX9_part_46 (by decide) ?_
    obtain ⟨rfl, rfl, rfl, rfl, rfl⟩ := pj5 h
    exact hEnd _ _ _ _ hP hS dX9_part_47 rfl
  have h := ite_f c7 h
  refine lv_iload hx hb dX9_part_20 (lv_at hl 4 rfl) ?_
  refine lv_sipush (v := (1000 : Int32)) hx hb dX9_part_22 (by decide) ?_
  refine lv_icmp_gt (tgt := 46) hx hb dX9_part_25 (by decide) (fun c8 => ?_) (fun c8 => ?_)
  · have h := ite_t c8 h
    refine lv_iconst (v := (-1 : Int32)) hx hb dX9_part_46 (by decide) ?_
    obtain ⟨rfl, rfl, rfl, rfl, rfl⟩ := pj5 h
    exact hEnd _ _ _ _ hP hS dX9_part_47 rfl
  have h := ite_f c8 h
  refine lv_iload_n hx hb dX9_part_28 rfl (lv_at hl 3 rfl) ?_
  refine lv_if_lt (tgt := 46) hx hb dX9_part_29 (by decide) (fun c9 => ?_) (fun c9 => ?_)
  · have h := ite_t c9 h
    refine lv_iconst (v := (-1 : Int32)) hx hb dX9_part_46 (by decide) ?_
    obtain ⟨rfl, rfl, rfl, rfl, rfl⟩ := pj5 h
    exact hEnd _ _ _ _ hP hS dX9_part_47 rfl
  have h := ite_f c9 h
  refine lv_iload_n hx hb dX9_part_32 rfl (lv_at hl 3 rfl) ?_
  refine lv_iload hx hb dX9_part_33 (lv_at hl 4 rfl) ?_
  refine lv_icmp_gt (tgt := 46) hx hb dX9_part_35 (by decide) (fun c10 => ?_) (fun c10 => ?_)
  · have h := ite_t c10 h
    refine lv_iconst (v := (-1 : Int32)) hx hb dX9_part_46 (by decide) ?_
    obtain ⟨rfl, rfl, rfl, rfl, rfl⟩ := pj5 h
    exact hEnd _ _ _ _ hP hS dX9_part_47 rfl
  have h := ite_f c10 h
  refine lv_iload hx hb dX9_part_38 (lv_at hl 5 rfl) ?_
  obtain ⟨r11, hc12, h⟩ := bd1_at h
  refine kjSI (kS0 (own := "DateSpans") (As := [.int p5]) (rest := []) ⟨hx, hb, hml, hown, hts⟩ (kX9_isSlot l N p5 r11 hc12) (kgS (kq q_387 rfl) (kq q_388 rfl) (kq q_57 rfl) (kq q_389 rfl)) yd_X9_isSlot ⟨Nat.le_of_ble_eq_true rfl, Nat.le_of_ble_eq_true rfl⟩ rfl rfl hl.1 rfl (lv_room (Nat.le_of_ble_eq_true rfl)) dX9_part_40) ?_
  refine lv_if_ne (tgt := 48) hx hb dX9_part_43 (by decide) (fun c13 => ?_) (fun c13 => ?_)
  · have h := ite_f c13 h
    refine lv_aload_n hx hb dX9_part_48 rfl (lv_at hl 0 rfl) ?_
    refine va_get (D := (dC, dI)) (ci := 8) (v := .ref h_this_now) (C := RX9) (T := TX9) (N := 12) hx hb hts inX9 hown hK hP 0 rfl rfl 0 (by decide) (hts _ (kq q_292 rfl)) (fun _ h9 => h9) rfl dX9_part_49 ?_
    refine lv_iload_n hx hb dX9_part_52 rfl (lv_at hl 2 rfl) ?_
    obtain ⟨r14, hc15, h⟩ := bd1_at h
    refine kjL (kV (own := "DateSpans") (C := "DateSpans$Slots") (b := h_this_now) (As := [.int p2]) (rest := []) ⟨hx, hb, hml, hown, hts⟩ (kX4_instantAt l dC dI cI cJ cB h_this_now h_this_now_day h_this_now_second h_this_now_months h_this_now_days h_this_now_seconds N p2 f_this_now_day f_this_now_second r14 hc15 _) (kgV (kq q_618 rfl) (kq q_619 rfl) (kq q_620 rfl) (kq q_58 rfl) (kq q_621 rfl)) yd_X4_instantAt ⟨Nat.le_of_ble_eq_true rfl, Nat.le_of_ble_eq_true rfl⟩ hN hK hP hD [1, 2, 3] rfl rfl (ci := 3) rfl rfl rfl rfl rfl hl.1 rfl (lv_room (Nat.le_of_ble_eq_true rfl)) dX9_part_53) hP hD hS hA [1, 2, 3] rfl rfl (fun H locs hP hD hS => ?_)
    have hP : va_P (dC, dI) vwCl [cl_X9 h_this h_this_now h_this_kept h_this_told h_this_text h_this_script h_this_momentReader h_this_spanReader h_this_adder h_this_other h_this_trial h_this_ways i_this, cl_X4 h_this_now h_this_now_day h_this_now_second h_this_now_months h_this_now_days h_this_now_seconds, (h_this_now_day, .inl (cI, 8, .inl f_this_now_day)), (h_this_now_second, .inl (cI, 8, .inl f_this_now_second)), cl_X3 h_this_told h_this_told_numbers i_this_told, (h_this_told_numbers, .inl (cJ, 8, .inr (.inl f_this_told_numbers)))] H := hP
    have hD : va_D A [cl_X9 h_this h_this_now h_this_kept h_this_told h_this_text h_this_script h_this_momentReader h_this_spanReader h_this_adder h_this_other h_this_trial h_this_ways i_this, cl_X4 h_this_now h_this_now_day h_this_now_second h_this_now_months h_this_now_days h_this_now_seconds, (h_this_now_day, .inl (cI, 8, .inl f_this_now_day)), (h_this_now_second, .inl (cI, 8, .inl f_this_now_second)), cl_X3 h_this_told h_this_told_numbers i_this_told, (h_this_told_numbers, .inl (cJ, 8, .inr (.inl f_this_told_numbers)))] := hD
    refine lv_aload_n hx hb dX9_part_56 rfl (lv_at hl 0 rfl) ?_
    refine va_get (D := (dC, dI)) (ci := 8) (v := .ref h_this_now) (C := RX9) (T := TX9) (N := 12) hx hb hts inX9 hown hK hP 0 rfl rfl 0 (by decide) (hts _ (kq q_292 rfl)) (fun _ h9 => h9) rfl dX9_part_57 ?_
    refine lv_iload_n hx hb dX9_part_60 rfl (lv_at hl 1 rfl) ?_
    obtain ⟨r16, hc17, h⟩ := bd1_at h
    refine kjL (kV (own := "DateSpans") (C := "DateSpans$Slots") (b := h_this_now) (As := [.int p1]) (rest := [.long r14]) ⟨hx, hb, hml, hown, hts⟩ (kX4_instantAt l dC dI cI cJ cB h_this_now h_this_now_day h_this_now_second h_this_now_months h_this_now_days h_this_now_seconds N p1 f_this_now_day f_this_now_second r16 hc17 _) (kgV (kq q_618 rfl) (kq q_619 rfl) (kq q_620 rfl) (kq q_58 rfl) (kq q_621 rfl)) yd_X4_instantAt ⟨Nat.le_of_ble_eq_true rfl, Nat.le_of_ble_eq_true rfl⟩ hN hK hP hD [1, 2, 3] rfl rfl (ci := 3) rfl rfl rfl rfl rfl hl.1 rfl (lv_room (Nat.le_of_ble_eq_true rfl)) dX9_part_61) hP hD hS hA [1, 2, 3] rfl rfl (fun H locs hP hD hS => ?_)
    have hP : va_P (dC, dI) vwCl [cl_X9 h_this h_this_now h_this_kept h_this_told h_this_text h_this_script h_this_momentReader h_this_spanReader h_this_adder h_this_other h_this_trial h_this_ways i_this, cl_X4 h_this_now h_this_now_day h_this_now_second h_this_now_months h_this_now_days h_this_now_seconds, (h_this_now_day, .inl (cI, 8, .inl f_this_now_day)), (h_this_now_second, .inl (cI, 8, .inl f_this_now_second)), cl_X3 h_this_told h_this_told_numbers i_this_told, (h_this_told_numbers, .inl (cJ, 8, .inr (.inl f_this_told_numbers)))] H := hP
    have hD : va_D A [cl_X9 h_this h_this_now h_this_kept h_this_told h_this_text h_this_script h_this_momentReader h_this_spanReader h_this_adder h_this_other h_this_trial h_this_ways i_this, cl_X4 h_this_now h_this_now_day h_this_now_second h_this_now_months h_this_now_days h_this_now_seconds, (h_this_now_day, .inl (cI, 8, .inl f_this_now_day)), (h_this_now_second, .inl (cI, 8, .inl f_this_now_second)), cl_X3 h_this_told h_this_told_numbers i_this_told, (h_this_told_numbers, .inl (cJ, 8, .inr (.inl f_this_told_numbers)))] := hD
    refine lv_lsub hx hb dX9_part_64 ?_
    refine lv_iload_n hx hb dX9_part_65 rfl (lv_at hl 3 rfl) ?_
    refine lv_i2l hx hb dX9_part_66 rfl ?_
    refine lv_lmul hx hb dX9_part_67 ?_
    refine lv_iload hx hb dX9_part_68 (lv_at hl 4 rfl) ?_
    refine lv_i2l hx hb dX9_part_70 rfl ?_
    obtain ⟨hn18, h⟩ := gnl_at h
    refine lv_ldiv hx hb dX9_part_71 hn18 ?_
    refine lv_topl (fun z19 ez19 => ?_)
    have h := nm_at ez19 h
    refine lv_lstore (lv' := [(6, .long z19), (0, .ref h_this), (1, .int p1), (2, .int p2), (3, .int p3), (4, .int p4), (5, .int p5)]) hx hb dX9_part_72 hl (by decide) rfl (fun ls hl => ?_)
    refine lv_aload_n hx hb dX9_part_74 rfl (lv_at hl 1 rfl) ?_
    refine va_get (D := (dC, dI)) (ci := 8) (v := .ref h_this_now) (C := RX9) (T := TX9) (N := 12) hx hb hts inX9 hown hK hP 0 rfl rfl 0 (by decide) (hts _ (kq q_292 rfl)) (fun _ h9 => h9) rfl dX9_part_75 ?_
    refine lv_iload hx hb dX9_part_78 (lv_at hl 6 rfl) ?_
    refine lv_aload_n hx hb dX9_part_80 rfl (lv_at hl 1 rfl) ?_
    refine va_get (D := (dC, dI)) (ci := 8) (v := .ref h_this_now) (C := RX9) (T := TX9) (N := 12) hx hb hts inX9 hown hK hP 0 rfl rfl 0 (by decide) (hts _ (kq q_292 rfl)) (fun _ h9 => h9) rfl dX9_part_81 ?_
    refine lv_iload_n hx hb dX9_part_84 rfl (lv_at hl 2 rfl) ?_
    obtain ⟨r20, hc21, h⟩ := bd1_at h
    refine kjL (kV (own := "DateSpans") (C := "DateSpans$Slots") (b := h_this_now) (As := [.int p1]) (rest := [.int p5, .ref h_this_now]) ⟨hx, hb, hml, hown, hts⟩ (kX4_instantAt l dC dI cI cJ cB h_this_now h_this_now_day h_this_now_second h_this_now_months h_this_now_days h_this_now_seconds N p1 f_this_now_day f_this_now_second r20 hc21 _) (kgV (kq q_618 rfl) (kq q_619 rfl) (kq q_620 rfl) (kq q_58 rfl) (kq q_621 rfl)) yd_X4_instantAt ⟨Nat.le_of_ble_eq_true rfl, Nat.le_of_ble_eq_true rfl⟩ hN hK hP hD [1, 2, 3] rfl rfl (ci := 3) rfl rfl rfl rfl rfl hl.1 rfl (lv_room (Nat.le_of_ble_eq_true rfl)) dX9_part_85) hP hD hS hA [1, 2, 3] rfl rfl (fun H locs hP hD hS => ?_)
    have hP : va_P (dC, dI) vwCl [cl_X9 h_this h_this_now h_this_kept h_this_told h_this_text h_this_script h_this_momentReader h_this_spanReader h_this_adder h_this_other h_this_trial h_this_ways i_this, cl_X4 h_this_now h_this_now_day h_this_now_second h_this_now_months h_this_now_days h_this_now_seconds, (h_this_now_day, .inl (cI, 8, .inl f_this_now_day)), (h_this_now_second, .inl (cI, 8, .inl f_this_now_second)), cl_X3 h_this_told h_this_told_numbers i_this_told, (h_this_told_numbers, .inl (cJ, 8, .inr (.inl f_this_told_numbers)))] H := hP
    have hD : va_D A [cl_X9 h_this h_this_now h_this_kept h_this_told h_this_text h_this_script h_this_momentReader h_this_spanReader h_this_adder h_this_other h_this_trial h_this_ways i_this, cl_X4 h_this_now h_this_now_day h_this_now_second h_this_now_months h_this_now_days h_this_now_seconds, (h_this_now_day, .inl (cI, 8, .inl f_this_now_day)), (h_this_now_second, .inl (cI, 8, .inl f_this_now_second)), cl_X3 h_this_told h_this_told_numbers i_this_told, (h_this_told_numbers, .inl (cJ, 8, .inr (.inl f_this_told_numbers)))] := hD
    refine lv_lload hx hb dX9_part_88 (lv_at hl 0 rfl) ?_
    refine lv_ladd hx hb dX9_part_90 ?_
    obtain ⟨f_this_now_day_22, f_this_now_second_23, hc24, h⟩ := bd2_at h
    refine kjV (kV (own := "DateSpans") (C := "DateSpans$Slots") (b := h_this_now) (As := [.int p5, .long (r20 + z19)]) (rest := []) ⟨hx, hb, hml, hown, hts⟩ (kX4_putInstant l dC dI cI cJ cB h_this_now h_this_now_day h_this_now_second h_this_now_months h_this_now_days h_this_now_seconds N p5 (r20 + z19) f_this_now_day f_this_now_second f_this_now_day_22 f_this_now_second_23 hc24 _) (kgV (kq q_788 rfl) (kq q_789 rfl) (kq q_790 rfl) (kq q_58 rfl) (kq q_791 rfl)) yd_X4_putInstant ⟨Nat.le_of_ble_eq_true rfl, Nat.le_of_ble_eq_true rfl⟩ hN hK hP hD [1, 2, 3] rfl rfl (ci := 3) rfl rfl rfl rfl rfl hl.1 rfl (lv_room (Nat.le_of_ble_eq_true rfl)) dX9_part_91) hP hD hS hA [1, 2, 3] rfl rfl (fun H locs hP hD hS => ?_)
    have hP : va_P (dC, dI) vwCl [cl_X9 h_this h_this_now h_this_kept h_this_told h_this_text h_this_script h_this_momentReader h_this_spanReader h_this_adder h_this_other h_this_trial h_this_ways i_this, cl_X4 h_this_now h_this_now_day h_this_now_second h_this_now_months h_this_now_days h_this_now_seconds, (h_this_now_day, .inl (cI, 8, .inl f_this_now_day_22)), (h_this_now_second, .inl (cI, 8, .inl f_this_now_second_23)), cl_X3 h_this_told h_this_told_numbers i_this_told, (h_this_told_numbers, .inl (cJ, 8, .inr (.inl f_this_told_numbers)))] H := hP
    have hD : va_D A [cl_X9 h_this h_this_now h_this_kept h_this_told h_this_text h_this_script h_this_momentReader h_this_spanReader h_this_adder h_this_other h_this_trial h_this_ways i_this, cl_X4 h_this_now h_this_now_day h_this_now_second h_this_now_months h_this_now_days h_this_now_seconds, (h_this_now_day, .inl (cI, 8, .inl f_this_now_day_22)), (h_this_now_second, .inl (cI, 8, .inl f_this_now_second_23)), cl_X3 h_this_told h_this_told_numbers i_this_told, (h_this_told_numbers, .inl (cJ, 8, .inr (.inl f_this_told_numbers)))] := hD
    refine lv_aload_n hx hb dX9_part_94 rfl (lv_at hl 1 rfl) ?_
    refine va_get (D := (dC, dI)) (ci := 8) (v := .ref h_this_told) (C := RX9) (T := TX9) (N := 12) hx hb hts inX9 hown hK hP 0 rfl rfl 3 (by decide) (hts _ (kq q_295 rfl)) (fun _ h9 => h9) rfl dX9_part_95 ?_
    refine lv_aload_n hx hb dX9_part_98 rfl (lv_at hl 1 rfl) ?_
    refine va_get (D := (dC, dI)) (ci := 8) (v := .ref h_this_now) (C := RX9) (T := TX9) (N := 12) hx hb hts inX9 hown hK hP 0 rfl rfl 0 (by decide) (hts _ (kq q_292 rfl)) (fun _ h9 => h9) rfl dX9_part_99 ?_
    refine lv_iload hx hb dX9_part_102 (lv_at hl 6 rfl) ?_
    obtain ⟨r25, hc26, h⟩ := bd1_at h
    refine kjI (kV (own := "DateSpans") (C := "DateSpans$Slots") (b := h_this_now) (As := [.int p5]) (rest := [.ref h_this_told]) ⟨hx, hb, hml, hown, hts⟩ (kX4_secondAt l dC dI cI cJ cB h_this_now h_this_now_day h_this_now_second h_this_now_months h_this_now_days h_this_now_seconds N p5 f_this_now_second_23 r25 hc26 _) (kgV (kq q_475 rfl) (kq q_476 rfl) (kq q_477 rfl) (kq q_58 rfl) (kq q_478 rfl)) yd_X4_secondAt ⟨Nat.le_of_ble_eq_true rfl, Nat.le_of_ble_eq_true rfl⟩ hN hK hP hD [1, 3] rfl rfl (ci := 3) rfl rfl rfl rfl rfl hl.1 rfl (lv_room (Nat.le_of_ble_eq_true rfl)) dX9_part_104) hP hD hS hA [1, 3] rfl rfl (fun H locs hP hD hS => ?_)
    have hP : va_P (dC, dI) vwCl [cl_X9 h_this h_this_now h_this_kept h_this_told h_this_text h_this_script h_this_momentReader h_this_spanReader h_this_adder h_this_other h_this_trial h_this_ways i_this, cl_X4 h_this_now h_this_now_day h_this_now_second h_this_now_months h_this_now_days h_this_now_seconds, (h_this_now_day, .inl (cI, 8, .inl f_this_now_day_22)), (h_this_now_second, .inl (cI, 8, .inl f_this_now_second_23)), cl_X3 h_this_told h_this_told_numbers i_this_told, (h_this_told_numbers, .inl (cJ, 8, .inr (.inl f_this_told_numbers)))] H := hP
    have hD : va_D A [cl_X9 h_this h_this_now h_this_kept h_this_told h_this_text h_this_script h_this_momentReader h_this_spanReader h_this_adder h_this_other h_this_trial h_this_ways i_this, cl_X4 h_this_now h_this_now_day h_this_now_second h_this_now_months h_this_now_days h_this_now_seconds, (h_this_now_day, .inl (cI, 8, .inl f_this_now_day_22)), (h_this_now_second, .inl (cI, 8, .inl f_this_now_second_23)), cl_X3 h_this_told h_this_told_numbers i_this_told, (h_this_told_numbers, .inl (cJ, 8, .inr (.inl f_this_told_numbers)))] := hD
    refine lv_i2l hx hb dX9_part_107 rfl ?_
    obtain ⟨i_this_told_27, f_this_told_numbers_28, hc29, h⟩ := bd2_at h
    refine kjV (kV (own := "DateSpans") (C := "DateSpans$Row") (b := h_this_told) (As := [.long r25.toInt64]) (rest := []) ⟨hx, hb, hml, hown, hts⟩ (kX3_tell l dC dI cI cJ cB h_this_told h_this_told_numbers N r25.toInt64 i_this_told f_this_told_numbers i_this_told_27 f_this_told_numbers_28 hc29 _) (kgV (kq q_520 rfl) (kq q_450 rfl) (kq q_451 rfl) (kq q_59 rfl) (kq q_452 rfl)) yd_X3_tell ⟨Nat.le_of_ble_eq_true rfl, Nat.le_of_ble_eq_true rfl⟩ hN hK hP hD [4, 5] rfl rfl (ci := 2) rfl rfl rfl rfl rfl hl.1 rfl (lv_room (Nat.le_of_ble_eq_true rfl)) dX9_part_108) hP hD hS hA [4, 5] rfl rfl (fun H locs hP hD hS => ?_)
    have hP : va_P (dC, dI) vwCl [cl_X9 h_this h_this_now h_this_kept h_this_told h_this_text h_this_script h_this_momentReader h_this_spanReader h_this_adder h_this_other h_this_trial h_this_ways i_this, cl_X4 h_this_now h_this_now_day h_this_now_second h_this_now_months h_this_now_days h_this_now_seconds, (h_this_now_day, .inl (cI, 8, .inl f_this_now_day_22)), (h_this_now_second, .inl (cI, 8, .inl f_this_now_second_23)), cl_X3 h_this_told h_this_told_numbers i_this_told_27, (h_this_told_numbers, .inl (cJ, 8, .inr (.inl f_this_told_numbers_28)))] H := hP
    have hD : va_D A [cl_X9 h_this h_this_now h_this_kept h_this_told h_this_text h_this_script h_this_momentReader h_this_spanReader h_this_adder h_this_other h_this_trial h_this_ways i_this, cl_X4 h_this_now h_this_now_day h_this_now_second h_this_now_months h_this_now_days h_this_now_seconds, (h_this_now_day, .inl (cI, 8, .inl f_this_now_day_22)), (h_this_now_second, .inl (cI, 8, .inl f_this_now_second_23)), cl_X3 h_this_told h_this_told_numbers i_this_told_27, (h_this_told_numbers, .inl (cJ, 8, .inr (.inl f_this_told_numbers_28)))] := hD
    refine lv_aload_n hx hb dX9_part_111 rfl (lv_at hl 1 rfl) ?_
    refine va_get (D := (dC, dI)) (ci := 8) (v := .ref h_this_now) (C := RX9) (T := TX9) (N := 12) hx hb hts inX9 hown hK hP 0 rfl rfl 0 (by decide) (hts _ (kq q_292 rfl)) (fun _ h9 => h9) rfl dX9_part_112 ?_
    refine lv_iload hx hb dX9_part_115 (lv_at hl 6 rfl) ?_
    obtain ⟨r30, hc31, h⟩ := bd1_at h
    refine kjI (kV (own := "DateSpans") (C := "DateSpans$Slots") (b := h_this_now) (As := [.int p5]) (rest := []) ⟨hx, hb, hml, hown, hts⟩ (kX4_dayAt l dC dI cI cJ cB h_this_now h_this_now_day h_this_now_second h_this_now_months h_this_now_days h_this_now_seconds N p5 f_this_now_day_22 r30 hc31 _) (kgV (kq q_404 rfl) (kq q_405 rfl) (kq q_406 rfl) (kq q_58 rfl) (kq q_407 rfl)) yd_X4_dayAt ⟨Nat.le_of_ble_eq_true rfl, Nat.le_of_ble_eq_true rfl⟩ hN hK hP hD [1, 2] rfl rfl (ci := 3) rfl rfl rfl rfl rfl hl.1 rfl (lv_room (Nat.le_of_ble_eq_true rfl)) dX9_part_117) hP hD hS hA [1, 2] rfl rfl (fun H locs hP hD hS => ?_)
    have hP : va_P (dC, dI) vwCl [cl_X9 h_this h_this_now h_this_kept h_this_told h_this_text h_this_script h_this_momentReader h_this_spanReader h_this_adder h_this_other h_this_trial h_this_ways i_this, cl_X4 h_this_now h_this_now_day h_this_now_second h_this_now_months h_this_now_days h_this_now_seconds, (h_this_now_day, .inl (cI, 8, .inl f_this_now_day_22)), (h_this_now_second, .inl (cI, 8, .inl f_this_now_second_23)), cl_X3 h_this_told h_this_told_numbers i_this_told_27, (h_this_told_numbers, .inl (cJ, 8, .inr (.inl f_this_told_numbers_28)))] H := hP
    have hD : va_D A [cl_X9 h_this h_this_now h_this_kept h_this_told h_this_text h_this_script h_this_momentReader h_this_spanReader h_this_adder h_this_other h_this_trial h_this_ways i_this, cl_X4 h_this_now h_this_now_day h_this_now_second h_this_now_months h_this_now_days h_this_now_seconds, (h_this_now_day, .inl (cI, 8, .inl f_this_now_day_22)), (h_this_now_second, .inl (cI, 8, .inl f_this_now_second_23)), cl_X3 h_this_told h_this_told_numbers i_this_told_27, (h_this_told_numbers, .inl (cJ, 8, .inr (.inl f_this_told_numbers_28)))] := hD
    obtain ⟨rfl, rfl, rfl, rfl, rfl⟩ := pj5 h
    exact hEnd _ _ _ _ hP hS dX9_part_120 rfl
  have h := ite_t c13 h
  refine lv_iconst (v := (-1 : Int32)) hx hb dX9_part_46 (by decide) ?_
  obtain ⟨rfl, rfl, rfl, rfl, rfl⟩ := pj5 h
  exact hEnd _ _ _ _ hP hS dX9_part_47 rfl
noncomputable def fX9_mean_j143 (N : Nat) (i_this : Int32) (f_this_now_day : Nat → Int32) (f_this_now_second : Nat → Int32) (v5 : Int32) (v6 : Int32) (t0 : Int64) (i_this_told : Int32) (f_this_told_numbers : Nat → Int64) : Option (Int32 × Int32 × (Nat → Int64)) := (bd2 (fX3_tell__ N (t0 - t0 / (86400 : Int64) * (86400 : Int64)) v5.toInt64 v6.toInt64 i_this_told f_this_told_numbers) fun i_this_told_1 f_this_told_numbers_2 => (some ((t0 / (86400 : Int64)).toInt32, i_this_told_1, f_this_told_numbers_2)))
noncomputable def fX9_mean_j91 (N : Nat) (i_this : Int32) (f_this_now_day : Nat → Int32) (f_this_now_second : Nat → Int32) (K_28 : Int32 → Int64 → Int32 → Int32 → Int32 → Int32 → Int32 → (Nat → Int64) → Option (Int32 × Int32 × (Nat → Int64))) (v1 : Int32) (v2 : Int64) (v4 : Int32) (v5 : Int32) (v6 : Int32) (v7 : Int32) (i_this_told : Int32) (f_this_told_numbers : Nat → Int64) : Option (Int32 × Int32 × (Nat → Int64)) := (if v6 = (-1 : Int32) then (nm (v7 + (1 : Int32)) fun z5 => (K_28 v1 v2 v4 v5 v7 z5 i_this_told f_this_told_numbers)) else (bd1 (fX4_instantAt N v7 f_this_now_day f_this_now_second) fun r6 => (bd1 (fX4_instantAt N v6 f_this_now_day f_this_now_second) fun r8 => (if (lg_cmp r6 r8) ≤ (0 : Int32) then (nm (v7 + (1 : Int32)) fun z11 => (K_28 v1 v2 v4 v5 v6 z11 i_this_told f_this_told_numbers)) else (nm (v7 + (1 : Int32)) fun z12 => (K_28 v1 v2 v4 v5 v7 z12 i_this_told f_this_told_numbers))))))
noncomputable def fX9_mean_l28 (N : Nat) (i_this : Int32) (f_this_now_day : Nat → Int32) (f_this_now_second : Nat → Int32) (n : Nat) : Int32 → Int64 → Int32 → Int32 → Int32 → Int32 → Int32 → (Nat → Int64) → Option (Int32 × Int32 × (Nat → Int64)) := Nat.rec (motive := fun _ => Int32 → Int64 → Int32 → Int32 → Int32 → Int32 → Int32 → (Nat → Int64) → Option (Int32 × Int32 × (Nat → Int64))) (fun _ _ _ _ _ _ _ _ => none) (fun _ K_28 v1 v2 v4 v5 v6 v7 i_this_told f_this_told_numbers => (if (8 : Int32) ≤ v7 then (if v4 ≤ (0 : Int32) then (fX9_mean_j143 N i_this f_this_now_day f_this_now_second v5 v6 (0 : Int64) i_this_told f_this_told_numbers) else (gnl v4.toInt64 (fX9_mean_j143 N i_this f_this_now_day f_this_now_second v5 v6 (v2 / v4.toInt64) i_this_told f_this_told_numbers))) else (if (v1 &&& ((1 : Int32) <<< (v7 &&& 31))) = (0 : Int32) then (nm (v7 + (1 : Int32)) fun z17 => (K_28 v1 v2 v4 v5 v6 z17 i_this_told f_this_told_numbers)) else (bd1 (fX4_instantAt N v7 f_this_now_day f_this_now_second) fun r18 => (nm (v2 + r18) fun z20 => (nm (v4 + (1 : Int32)) fun z21 => (if v5 = (-1 : Int32) then (fX9_mean_j91 N i_this f_this_now_day f_this_now_second K_28 v1 z20 z21 v7 v6 v7 i_this_told f_this_told_numbers) else (bd1 (fX4_instantAt N v7 f_this_now_day f_this_now_second) fun r23 => (bd1 (fX4_instantAt N v5 f_this_now_day f_this_now_second) fun r25 => (if (0 : Int32) ≤ (lg_cmp r23 r25) then (fX9_mean_j91 N i_this f_this_now_day f_this_now_second K_28 v1 z20 z21 v5 v6 v7 i_this_told f_this_told_numbers) else (fX9_mean_j91 N i_this f_this_now_day f_this_now_second K_28 v1 z20 z21 v7 v6 v7 i_this_told f_this_told_numbers))))))))))) n
theorem fX9_mean_l28_s (N : Nat) (i_this : Int32) (f_this_now_day : Nat → Int32) (f_this_now_second : Nat → Int32) (n : Nat) (v1 : Int32) (v2 : Int64) (v4 : Int32) (v5 : Int32) (v6 : Int32) (v7 : Int32) (i_this_told : Int32) (f_this_told_numbers : Nat → Int64) : fX9_mean_l28 N i_this f_this_now_day f_this_now_second (n + 1) v1 v2 v4 v5 v6 v7 i_this_told f_this_told_numbers = (if (8 : Int32) ≤ v7 then (if v4 ≤ (0 : Int32) then (fX9_mean_j143 N i_this f_this_now_day f_this_now_second v5 v6 (0 : Int64) i_this_told f_this_told_numbers) else (gnl v4.toInt64 (fX9_mean_j143 N i_this f_this_now_day f_this_now_second v5 v6 (v2 / v4.toInt64) i_this_told f_this_told_numbers))) else (if (v1 &&& ((1 : Int32) <<< (v7 &&& 31))) = (0 : Int32) then (nm (v7 + (1 : Int32)) fun z17 => ((fX9_mean_l28 N i_this f_this_now_day f_this_now_second n) v1 v2 v4 v5 v6 z17 i_this_told f_this_told_numbers)) else (bd1 (fX4_instantAt N v7 f_this_now_day f_this_now_second) fun r18 => (nm (v2 + r18) fun z20 => (nm (v4 + (1 : Int32)) fun z21 => (if v5 = (-1 : Int32) then (fX9_mean_j91 N i_this f_this_now_day f_this_now_second (fX9_mean_l28 N i_this f_this_now_day f_this_now_second n) v1 z20 z21 v7 v6 v7 i_this_told f_this_told_numbers) else (bd1 (fX4_instantAt N v7 f_this_now_day f_this_now_second) fun r23 => (bd1 (fX4_instantAt N v5 f_this_now_day f_this_now_second) fun r25 => (if (0 : Int32) ≤ (lg_cmp r23 r25) then (fX9_mean_j91 N i_this f_this_now_day f_this_now_second (fX9_mean_l28 N i_this f_this_now_day f_this_now_second n) v1 z20 z21 v5 v6 v7 i_this_told f_this_told_numbers) else (fX9_mean_j91 N i_this f_this_now_day f_this_now_second (fX9_mean_l28 N i_this f_this_now_day f_this_now_second n) v1 z20 z21 v7 v6 v7 i_this_told f_this_told_numbers)))))))))) := rfl
theorem fX9_mean_l28_0 (N : Nat) (i_this : Int32) (f_this_now_day : Nat → Int32) (f_this_now_second : Nat → Int32) (v1 : Int32) (v2 : Int64) (v4 : Int32) (v5 : Int32) (v6 : Int32) (v7 : Int32) (i_this_told : Int32) (f_this_told_numbers : Nat → Int64) : fX9_mean_l28 N i_this f_this_now_day f_this_now_second 0 v1 v2 v4 v5 v6 v7 i_this_told f_this_told_numbers = none := rfl
noncomputable def fX9_mean (N : Nat) (p1 : Int32) (i_this : Int32) (f_this_now_day : Nat → Int32) (f_this_now_second : Nat → Int32) (i_this_told : Int32) (f_this_told_numbers : Nat → Int64) : Option (Int32 × Int32 × (Nat → Int64)) := (if p1 < (1 : Int32) then (some ((-1 : Int32), i_this_told, f_this_told_numbers)) else (if p1 ≤ (255 : Int32) then (fX9_mean_l28 N i_this f_this_now_day f_this_now_second N p1 (0 : Int64) (0 : Int32) (-1 : Int32) (-1 : Int32) (0 : Int32) i_this_told f_this_told_numbers) else (some ((-1 : Int32), i_this_told, f_this_told_numbers))))
set_option maxHeartbeats 4000000 in
set_option maxRecDepth 100000 in
theorem kX9_mean (l : Launch) (dC : Nat → ClassId) (dI : Nat → Nat → Nat) (cI cJ cB : ClassId) (h_this h_this_now h_this_kept h_this_told h_this_text h_this_script h_this_momentReader h_this_spanReader h_this_adder h_this_other h_this_trial h_this_ways h_this_now_day h_this_now_second h_this_now_months h_this_now_days h_this_now_seconds h_this_told_numbers : Nat) (N : Nat) (p1 : Int32) (i_this : Int32) (f_this_now_day : Nat → Int32) (f_this_now_second : Nat → Int32) (i_this_told : Int32) (f_this_told_numbers : Nat → Int64) (r : Int32) (o_i_this_told : Int32) (o_f_this_told_numbers : Nat → Int64) (hf : fX9_mean N p1 i_this f_this_now_day f_this_now_second i_this_told f_this_told_numbers = some (r, o_i_this_told, o_f_this_told_numbers)) : MI l yX9_mean (kws yX9_mean cX9_mean 9 (some .int)) (kR 4 94) (dC, dI) (kT cI cJ cB) [.ref h_this, .int p1] [cl_X9 h_this h_this_now h_this_kept h_this_told h_this_text h_this_script h_this_momentReader h_this_spanReader h_this_adder h_this_other h_this_trial h_this_ways i_this, cl_X4 h_this_now h_this_now_day h_this_now_second h_this_now_months h_this_now_days h_this_now_seconds, (h_this_now_day, .inl (cI, 8, .inl f_this_now_day)), (h_this_now_second, .inl (cI, 8, .inl f_this_now_second)), cl_X3 h_this_told h_this_told_numbers i_this_told, (h_this_told_numbers, .inl (cJ, 8, .inr (.inl f_this_told_numbers)))] [cl_X9 h_this h_this_now h_this_kept h_this_told h_this_text h_this_script h_this_momentReader h_this_spanReader h_this_adder h_this_other h_this_trial h_this_ways i_this, cl_X4 h_this_now h_this_now_day h_this_now_second h_this_now_months h_this_now_days h_this_now_seconds, (h_this_now_day, .inl (cI, 8, .inl f_this_now_day)), (h_this_now_second, .inl (cI, 8, .inl f_this_now_second)), cl_X3 h_this_told h_this_told_numbers o_i_this_told, (h_this_told_numbers, .inl (cJ, 8, .inr (.inl o_f_this_told_numbers)))] r := by
  refine MI.of (cc := cX9_mean) (maxL := 9) (by decide) (Nat.le_of_ble_eq_true rfl) (fun p e s m args below meth c A Q ls KC hN hK hP hD hA hl hEnd => ?_)
  obtain ⟨hx, hb, hml, hown, hts⟩ := KC
  have hown : s.vm.findClass "DateSpans" = some m.cls := hown
  have hl : lv_has ls 9 [(0, .ref h_this), (1, .int p1)] := hl
  have hS : va_S A s.heap s.heap [] := va_S.rf
  have JN_143 : ∀ (v5 : Int32) (v6 : Int32) (t0 : Int64) (i_this_told : Int32) (f_this_told_numbers : Nat → Int64) (ls : Array Slot) (H : Heap) (locs : List Loc), (fX9_mean_j143 N i_this f_this_now_day f_this_now_second) v5 v6 t0 i_this_told f_this_told_numbers = some (r, o_i_this_told, o_f_this_told_numbers) → lv_has ls 9 [(0, .ref h_this), (5, .int v5), (6, .int v6)] → va_P (dC, dI) vwCl [cl_X9 h_this h_this_now h_this_kept h_this_told h_this_text h_this_script h_this_momentReader h_this_spanReader h_this_adder h_this_other h_this_trial h_this_ways i_this, cl_X4 h_this_now h_this_now_day h_this_now_second h_this_now_months h_this_now_days h_this_now_seconds, (h_this_now_day, .inl (cI, 8, .inl f_this_now_day)), (h_this_now_second, .inl (cI, 8, .inl f_this_now_second)), cl_X3 h_this_told h_this_told_numbers i_this_told, (h_this_told_numbers, .inl (cJ, 8, .inr (.inl f_this_told_numbers)))] H → va_D A [cl_X9 h_this h_this_now h_this_kept h_this_told h_this_text h_this_script h_this_momentReader h_this_spanReader h_this_adder h_this_other h_this_trial h_this_ways i_this, cl_X4 h_this_now h_this_now_day h_this_now_second h_this_now_months h_this_now_days h_this_now_seconds, (h_this_now_day, .inl (cI, 8, .inl f_this_now_day)), (h_this_now_second, .inl (cI, 8, .inl f_this_now_second)), cl_X3 h_this_told h_this_told_numbers i_this_told, (h_this_told_numbers, .inl (cJ, 8, .inr (.inl f_this_told_numbers)))] → va_S A s.heap H locs → W p l e (kR 4 94) s m args below meth c H locs 0 0 Q (F0 m 143 ls [.long t0]) := by
    intro v5 v6 t0 i_this_told f_this_told_numbers ls H locs h hl hP hD hS
    unfold fX9_mean_j143 at h
    refine lv_lstore (lv' := [(7, .long t0), (0, .ref h_this), (5, .int v5), (6, .int v6)]) hx hb dX9_mean_143 hl (by decide) rfl (fun ls hl => ?_)
    refine lv_aload_n hx hb dX9_mean_145 rfl (lv_at hl 1 rfl) ?_
    refine va_get (D := (dC, dI)) (ci := 8) (v := .ref h_this_told) (C := RX9) (T := TX9) (N := 12) hx hb hts inX9 hown hK hP 0 rfl rfl 3 (by decide) (hts _ (kq q_295 rfl)) (fun _ h9 => h9) rfl dX9_mean_146 ?_
    refine lv_lload hx hb dX9_mean_149 (lv_at hl 0 rfl) ?_
    refine lv_ldc2 (v := (86400 : Int64)) hx hb hown (hts _ (kq q_587 rfl)) dX9_mean_151 ?_
    refine lv_lrem hx hb dX9_mean_154 (by decide) ?_
    refine lv_iload hx hb dX9_mean_155 (lv_at hl 2 rfl) ?_
    refine lv_i2l hx hb dX9_mean_157 rfl ?_
    refine lv_iload hx hb dX9_mean_158 (lv_at hl 3 rfl) ?_
    refine lv_i2l hx hb dX9_mean_160 rfl ?_
    obtain ⟨i_this_told_1, f_this_told_numbers_2, hc3, h⟩ := bd2_at h
    refine kjV (kV (own := "DateSpans") (C := "DateSpans$Row") (b := h_this_told) (As := [.long (t0 - t0 / (86400 : Int64) * (86400 : Int64)), .long v5.toInt64, .long v6.toInt64]) (rest := []) ⟨hx, hb, hml, hown, hts⟩ (kX3_tell__ l dC dI cI cJ cB h_this_told h_this_told_numbers N (t0 - t0 / (86400 : Int64) * (86400 : Int64)) v5.toInt64 v6.toInt64 i_this_told f_this_told_numbers i_this_told_1 f_this_told_numbers_2 hc3 _) (kgV (kq q_441 rfl) (kq q_442 rfl) (kq q_443 rfl) (kq q_59 rfl) (kq q_444 rfl)) yd_X3_tell__ ⟨Nat.le_of_ble_eq_true rfl, Nat.le_of_ble_eq_true rfl⟩ hN hK hP hD [4, 5] rfl rfl (ci := 2) rfl rfl rfl rfl rfl hl.1 rfl (lv_room (Nat.le_of_ble_eq_true rfl)) dX9_mean_161) hP hD hS hA [4, 5] rfl rfl (fun H locs hP hD hS => ?_)
    have hP : va_P (dC, dI) vwCl [cl_X9 h_this h_this_now h_this_kept h_this_told h_this_text h_this_script h_this_momentReader h_this_spanReader h_this_adder h_this_other h_this_trial h_this_ways i_this, cl_X4 h_this_now h_this_now_day h_this_now_second h_this_now_months h_this_now_days h_this_now_seconds, (h_this_now_day, .inl (cI, 8, .inl f_this_now_day)), (h_this_now_second, .inl (cI, 8, .inl f_this_now_second)), cl_X3 h_this_told h_this_told_numbers i_this_told_1, (h_this_told_numbers, .inl (cJ, 8, .inr (.inl f_this_told_numbers_2)))] H := hP
    have hD : va_D A [cl_X9 h_this h_this_now h_this_kept h_this_told h_this_text h_this_script h_this_momentReader h_this_spanReader h_this_adder h_this_other h_this_trial h_this_ways i_this, cl_X4 h_this_now h_this_now_day h_this_now_second h_this_now_months h_this_now_days h_this_now_seconds, (h_this_now_day, .inl (cI, 8, .inl f_this_now_day)), (h_this_now_second, .inl (cI, 8, .inl f_this_now_second)), cl_X3 h_this_told h_this_told_numbers i_this_told_1, (h_this_told_numbers, .inl (cJ, 8, .inr (.inl f_this_told_numbers_2)))] := hD
    refine lv_lload hx hb dX9_mean_164 (lv_at hl 0 rfl) ?_
    refine lv_ldc2 (v := (86400 : Int64)) hx hb hown (hts _ (kq q_587 rfl)) dX9_mean_166 ?_
    refine lv_ldiv hx hb dX9_mean_169 (by decide) ?_
    refine lv_l2i hx hb dX9_mean_170 rfl ?_
    obtain ⟨rfl, rfl, rfl⟩ := pj3 h
    exact hEnd _ _ _ _ hP hS dX9_mean_171 rfl
  have LP_28 : ∀ n_28 : Nat, ∀ (v1 : Int32) (v2 : Int64) (v4 : Int32) (v5 : Int32) (v6 : Int32) (v7 : Int32) (i_this_told : Int32) (f_this_told_numbers : Nat → Int64) (ls : Array Slot) (H : Heap) (locs : List Loc), fX9_mean_l28 N i_this f_this_now_day f_this_now_second n_28 v1 v2 v4 v5 v6 v7 i_this_told f_this_told_numbers = some (r, o_i_this_told, o_f_this_told_numbers) → lv_has ls 9 [(0, .ref h_this), (1, .int v1), (2, .long v2), (4, .int v4), (5, .int v5), (6, .int v6), (7, .int v7)] → va_P (dC, dI) vwCl [cl_X9 h_this h_this_now h_this_kept h_this_told h_this_text h_this_script h_this_momentReader h_this_spanReader h_this_adder h_this_other h_this_trial h_this_ways i_this, cl_X4 h_this_now h_this_now_day h_this_now_second h_this_now_months h_this_now_days h_this_now_seconds, (h_this_now_day, .inl (cI, 8, .inl f_this_now_day)), (h_this_now_second, .inl (cI, 8, .inl f_this_now_second)), cl_X3 h_this_told h_this_told_numbers i_this_told, (h_this_told_numbers, .inl (cJ, 8, .inr (.inl f_this_told_numbers)))] H → va_D A [cl_X9 h_this h_this_now h_this_kept h_this_told h_this_text h_this_script h_this_momentReader h_this_spanReader h_this_adder h_this_other h_this_trial h_this_ways i_this, cl_X4 h_this_now h_this_now_day h_this_now_second h_this_now_months h_this_now_days h_this_now_seconds, (h_this_now_day, .inl (cI, 8, .inl f_this_now_day)), (h_this_now_second, .inl (cI, 8, .inl f_this_now_second)), cl_X3 h_this_told h_this_told_numbers i_this_told, (h_this_told_numbers, .inl (cJ, 8, .inr (.inl f_this_told_numbers)))] → va_S A s.heap H locs → W p l e (kR 4 94) s m args below meth c H locs 0 0 Q (F0 m 28 ls []) := by
    intro n_28
    induction n_28 with
    | zero =>
      intro v1 v2 v4 v5 v6 v7 i_this_told f_this_told_numbers ls H locs h hl hP hD hS
      rw [fX9_mean_l28_0] at h; cases h
    | succ n_28 ih_28 =>
      have JN_91 : ∀ (v1 : Int32) (v2 : Int64) (v4 : Int32) (v5 : Int32) (v6 : Int32) (v7 : Int32) (i_this_told : Int32) (f_this_told_numbers : Nat → Int64) (ls : Array Slot) (H : Heap) (locs : List Loc), (fX9_mean_j91 N i_this f_this_now_day f_this_now_second (fX9_mean_l28 N i_this f_this_now_day f_this_now_second n_28)) v1 v2 v4 v5 v6 v7 i_this_told f_this_told_numbers = some (r, o_i_this_told, o_f_this_told_numbers) → lv_has ls 9 [(0, .ref h_this), (1, .int v1), (2, .long v2), (4, .int v4), (5, .int v5), (6, .int v6), (7, .int v7)] → va_P (dC, dI) vwCl [cl_X9 h_this h_this_now h_this_kept h_this_told h_this_text h_this_script h_this_momentReader h_this_spanReader h_this_adder h_this_other h_this_trial h_this_ways i_this, cl_X4 h_this_now h_this_now_day h_this_now_second h_this_now_months h_this_now_days h_this_now_seconds, (h_this_now_day, .inl (cI, 8, .inl f_this_now_day)), (h_this_now_second, .inl (cI, 8, .inl f_this_now_second)), cl_X3 h_this_told h_this_told_numbers i_this_told, (h_this_told_numbers, .inl (cJ, 8, .inr (.inl f_this_told_numbers)))] H → va_D A [cl_X9 h_this h_this_now h_this_kept h_this_told h_this_text h_this_script h_this_momentReader h_this_spanReader h_this_adder h_this_other h_this_trial h_this_ways i_this, cl_X4 h_this_now h_this_now_day h_this_now_second h_this_now_months h_this_now_days h_this_now_seconds, (h_this_now_day, .inl (cI, 8, .inl f_this_now_day)), (h_this_now_second, .inl (cI, 8, .inl f_this_now_second)), cl_X3 h_this_told h_this_told_numbers i_this_told, (h_this_told_numbers, .inl (cJ, 8, .inr (.inl f_this_told_numbers)))] → va_S A s.heap H locs → W p l e (kR 4 94) s m args below meth c H locs 0 0 Q (F0 m 91 ls []) := by
        intro v1 v2 v4 v5 v6 v7 i_this_told f_this_told_numbers ls H locs h hl hP hD hS
        unfold fX9_mean_j91 at h
        refine lv_iload hx hb dX9_mean_91 (lv_at hl 5 rfl) ?_
        refine lv_iconst (v := (-1 : Int32)) hx hb dX9_mean_93 (by decide) ?_
        refine lv_icmp_eq (tgt := 119) hx hb dX9_mean_94 (by decide) (fun c4 => ?_) (fun c4 => ?_)
        · have h := ite_t c4 h
          refine lv_iload hx hb dX9_mean_119 (lv_at hl 6 rfl) ?_
          refine lv_istore (lv' := [(6, .int v7), (0, .ref h_this), (1, .int v1), (2, .long v2), (4, .int v4), (5, .int v5), (7, .int v7)]) hx hb dX9_mean_121 hl (by decide) rfl (fun ls hl => ?_)
          obtain ⟨z5, ez5⟩ : ∃ y : Int32, y = (v7 + (1 : Int32)) := ⟨_, rfl⟩
          have h := nm_at ez5 h
          refine lv_iinc (v := z5) (lv' := [(7, .int z5), (6, .int v7), (0, .ref h_this), (1, .int v1), (2, .long v2), (4, .int v4), (5, .int v5)]) hx hb dX9_mean_123 hl (k := 6) rfl (by rw [ez5]; rfl) (by decide) rfl (fun ls hl => ?_)
          refine lv_goto (tgt := 28) hx hb dX9_mean_126 (by decide) ?_
          exact ih_28 _ _ _ _ _ _ _ _ _ _ _ h (lv_sub hl [2, 3, 4, 5, 6, 1, 0] rfl) hP hD hS
        have h := ite_f c4 h
        refine lv_aload_n hx hb dX9_mean_97 rfl (lv_at hl 0 rfl) ?_
        refine va_get (D := (dC, dI)) (ci := 8) (v := .ref h_this_now) (C := RX9) (T := TX9) (N := 12) hx hb hts inX9 hown hK hP 0 rfl rfl 0 (by decide) (hts _ (kq q_292 rfl)) (fun _ h9 => h9) rfl dX9_mean_98 ?_
        refine lv_iload hx hb dX9_mean_101 (lv_at hl 6 rfl) ?_
        obtain ⟨r6, hc7, h⟩ := bd1_at h
        refine kjL (kV (own := "DateSpans") (C := "DateSpans$Slots") (b := h_this_now) (As := [.int v7]) (rest := []) ⟨hx, hb, hml, hown, hts⟩ (kX4_instantAt l dC dI cI cJ cB h_this_now h_this_now_day h_this_now_second h_this_now_months h_this_now_days h_this_now_seconds N v7 f_this_now_day f_this_now_second r6 hc7 _) (kgV (kq q_618 rfl) (kq q_619 rfl) (kq q_620 rfl) (kq q_58 rfl) (kq q_621 rfl)) yd_X4_instantAt ⟨Nat.le_of_ble_eq_true rfl, Nat.le_of_ble_eq_true rfl⟩ hN hK hP hD [1, 2, 3] rfl rfl (ci := 3) rfl rfl rfl rfl rfl hl.1 rfl (lv_room (Nat.le_of_ble_eq_true rfl)) dX9_mean_103) hP hD hS hA [1, 2, 3] rfl rfl (fun H locs hP hD hS => ?_)
        have hP : va_P (dC, dI) vwCl [cl_X9 h_this h_this_now h_this_kept h_this_told h_this_text h_this_script h_this_momentReader h_this_spanReader h_this_adder h_this_other h_this_trial h_this_ways i_this, cl_X4 h_this_now h_this_now_day h_this_now_second h_this_now_months h_this_now_days h_this_now_seconds, (h_this_now_day, .inl (cI, 8, .inl f_this_now_day)), (h_this_now_second, .inl (cI, 8, .inl f_this_now_second)), cl_X3 h_this_told h_this_told_numbers i_this_told, (h_this_told_numbers, .inl (cJ, 8, .inr (.inl f_this_told_numbers)))] H := hP
        have hD : va_D A [cl_X9 h_this h_this_now h_this_kept h_this_told h_this_text h_this_script h_this_momentReader h_this_spanReader h_this_adder h_this_other h_this_trial h_this_ways i_this, cl_X4 h_this_now h_this_now_day h_this_now_second h_this_now_months h_this_now_days h_this_now_seconds, (h_this_now_day, .inl (cI, 8, .inl f_this_now_day)), (h_this_now_second, .inl (cI, 8, .inl f_this_now_second)), cl_X3 h_this_told h_this_told_numbers i_this_told, (h_this_told_numbers, .inl (cJ, 8, .inr (.inl f_this_told_numbers)))] := hD
        refine lv_aload_n hx hb dX9_mean_106 rfl (lv_at hl 0 rfl) ?_
        refine va_get (D := (dC, dI)) (ci := 8) (v := .ref h_this_now) (C := RX9) (T := TX9) (N := 12) hx hb hts inX9 hown hK hP 0 rfl rfl 0 (by decide) (hts _ (kq q_292 rfl)) (fun _ h9 => h9) rfl dX9_mean_107 ?_
        refine lv_iload hx hb dX9_mean_110 (lv_at hl 5 rfl) ?_
        obtain ⟨r8, hc9, h⟩ := bd1_at h
        refine kjL (kV (own := "DateSpans") (C := "DateSpans$Slots") (b := h_this_now) (As := [.int v6]) (rest := [.long r6]) ⟨hx, hb, hml, hown, hts⟩ (kX4_instantAt l dC dI cI cJ cB h_this_now h_this_now_day h_this_now_second h_this_now_months h_this_now_days h_this_now_seconds N v6 f_this_now_day f_this_now_second r8 hc9 _) (kgV (kq q_618 rfl) (kq q_619 rfl) (kq q_620 rfl) (kq q_58 rfl) (kq q_621 rfl)) yd_X4_instantAt ⟨Nat.le_of_ble_eq_true rfl, Nat.le_of_ble_eq_true rfl⟩ hN hK hP hD [1, 2, 3] rfl rfl (ci := 3) rfl rfl rfl rfl rfl hl.1 rfl (lv_room (Nat.le_of_ble_eq_true rfl)) dX9_mean_112) hP hD hS hA [1, 2, 3] rfl rfl (fun H locs hP hD hS => ?_)
        have hP : va_P (dC, dI) vwCl [cl_X9 h_this h_this_now h_this_kept h_this_told h_this_text h_this_script h_this_momentReader h_this_spanReader h_this_adder h_this_other h_this_trial h_this_ways i_this, cl_X4 h_this_now h_this_now_day h_this_now_second h_this_now_months h_this_now_days h_this_now_seconds, (h_this_now_day, .inl (cI, 8, .inl f_this_now_day)), (h_this_now_second, .inl (cI, 8, .inl f_this_now_second)), cl_X3 h_this_told h_this_told_numbers i_this_told, (h_this_told_numbers, .inl (cJ, 8, .inr (.inl f_this_told_numbers)))] H := hP
        have hD : va_D A [cl_X9 h_this h_this_now h_this_kept h_this_told h_this_text h_this_script h_this_momentReader h_this_spanReader h_this_adder h_this_other h_this_trial h_this_ways i_this, cl_X4 h_this_now h_this_now_day h_this_now_second h_this_now_months h_this_now_days h_this_now_seconds, (h_this_now_day, .inl (cI, 8, .inl f_this_now_day)), (h_this_now_second, .inl (cI, 8, .inl f_this_now_second)), cl_X3 h_this_told h_this_told_numbers i_this_told, (h_this_told_numbers, .inl (cJ, 8, .inr (.inl f_this_told_numbers)))] := hD
        refine W.lcmp hx hb dX9_mean_115 ?_
        refine lv_if_le (tgt := 123) hx hb dX9_mean_116 (by decide) (fun c10 => ?_) (fun c10 => ?_)
        · have h := ite_t c10 h
          obtain ⟨z11, ez11⟩ : ∃ y : Int32, y = (v7 + (1 : Int32)) := ⟨_, rfl⟩
          have h := nm_at ez11 h
          refine lv_iinc (v := z11) (lv' := [(7, .int z11), (0, .ref h_this), (1, .int v1), (2, .long v2), (4, .int v4), (5, .int v5), (6, .int v6)]) hx hb dX9_mean_123 hl (k := 6) rfl (by rw [ez11]; rfl) (by decide) rfl (fun ls hl => ?_)
          refine lv_goto (tgt := 28) hx hb dX9_mean_126 (by decide) ?_
          exact ih_28 _ _ _ _ _ _ _ _ _ _ _ h (lv_sub hl [1, 2, 3, 4, 5, 6, 0] rfl) hP hD hS
        have h := ite_f c10 h
        refine lv_iload hx hb dX9_mean_119 (lv_at hl 6 rfl) ?_
        refine lv_istore (lv' := [(6, .int v7), (0, .ref h_this), (1, .int v1), (2, .long v2), (4, .int v4), (5, .int v5), (7, .int v7)]) hx hb dX9_mean_121 hl (by decide) rfl (fun ls hl => ?_)
        obtain ⟨z12, ez12⟩ : ∃ y : Int32, y = (v7 + (1 : Int32)) := ⟨_, rfl⟩
        have h := nm_at ez12 h
        refine lv_iinc (v := z12) (lv' := [(7, .int z12), (6, .int v7), (0, .ref h_this), (1, .int v1), (2, .long v2), (4, .int v4), (5, .int v5)]) hx hb dX9_mean_123 hl (k := 6) rfl (by rw [ez12]; rfl) (by decide) rfl (fun ls hl => ?_)
        refine lv_goto (tgt := 28) hx hb dX9_mean_126 (by decide) ?_
        exact ih_28 _ _ _ _ _ _ _ _ _ _ _ h (lv_sub hl [2, 3, 4, 5, 6, 1, 0] rfl) hP hD hS
      intro v1 v2 v4 v5 v6 v7 i_this_told f_this_told_numbers ls H locs h hl hP hD hS
      rw [fX9_mean_l28_s] at h
      refine lv_iload hx hb dX9_mean_28 (lv_at hl 6 rfl) ?_
      refine lv_bipush (v := (8 : Int32)) hx hb dX9_mean_30 (by decide) ?_
      refine lv_icmp_ge (tgt := 129) hx hb dX9_mean_32 (by decide) (fun c13 => ?_) (fun c13 => ?_)
      · have h := ite_t c13 h
        refine lv_iload hx hb dX9_mean_129 (lv_at hl 3 rfl) ?_
        refine lv_if_le (tgt := 142) hx hb dX9_mean_131 (by decide) (fun c14 => ?_) (fun c14 => ?_)
        · have h := ite_t c14 h
          refine lv_lconst (v := (0 : Int64)) hx hb dX9_mean_142 (by decide) ?_
          exact JN_143 _ _ _ _ _ _ _ _ h (lv_sub hl [0, 4, 5] rfl) hP hD hS
        have h := ite_f c14 h
        refine lv_lload_n hx hb dX9_mean_134 rfl (lv_at hl 2 rfl) ?_
        refine lv_iload hx hb dX9_mean_135 (lv_at hl 3 rfl) ?_
        refine lv_i2l hx hb dX9_mean_137 rfl ?_
        obtain ⟨hn15, h⟩ := gnl_at h
        refine lv_ldiv hx hb dX9_mean_138 hn15 ?_
        refine lv_goto (tgt := 143) hx hb dX9_mean_139 (by decide) ?_
        exact JN_143 _ _ _ _ _ _ _ _ h (lv_sub hl [0, 4, 5] rfl) hP hD hS
      have h := ite_f c13 h
      refine lv_iload_n hx hb dX9_mean_35 rfl (lv_at hl 1 rfl) ?_
      refine lv_iconst (v := (1 : Int32)) hx hb dX9_mean_36 (by decide) ?_
      refine lv_iload hx hb dX9_mean_37 (lv_at hl 6 rfl) ?_
      refine lv_ishl hx hb dX9_mean_39 ?_
      refine lv_iand hx hb dX9_mean_40 ?_
      refine lv_if_eq (tgt := 123) hx hb dX9_mean_41 (by decide) (fun c16 => ?_) (fun c16 => ?_)
      · have h := ite_t c16 h
        obtain ⟨z17, ez17⟩ : ∃ y : Int32, y = (v7 + (1 : Int32)) := ⟨_, rfl⟩
        have h := nm_at ez17 h
        refine lv_iinc (v := z17) (lv' := [(7, .int z17), (0, .ref h_this), (1, .int v1), (2, .long v2), (4, .int v4), (5, .int v5), (6, .int v6)]) hx hb dX9_mean_123 hl (k := 6) rfl (by rw [ez17]; rfl) (by decide) rfl (fun ls hl => ?_)
        refine lv_goto (tgt := 28) hx hb dX9_mean_126 (by decide) ?_
        exact ih_28 _ _ _ _ _ _ _ _ _ _ _ h (lv_sub hl [1, 2, 3, 4, 5, 6, 0] rfl) hP hD hS
      have h := ite_f c16 h
      refine lv_lload_n hx hb dX9_mean_44 rfl (lv_at hl 2 rfl) ?_
      refine lv_aload_n hx hb dX9_mean_45 rfl (lv_at hl 0 rfl) ?_
      refine va_get (D := (dC, dI)) (ci := 8) (v := .ref h_this_now) (C := RX9) (T := TX9) (N := 12) hx hb hts inX9 hown hK hP 0 rfl rfl 0 (by decide) (hts _ (kq q_292 rfl)) (fun _ h9 => h9) rfl dX9_mean_46 ?_
      refine lv_iload hx hb dX9_mean_49 (lv_at hl 6 rfl) ?_
      obtain ⟨r18, hc19, h⟩ := bd1_at h
      refine kjL (kV (own := "DateSpans") (C := "DateSpans$Slots") (b := h_this_now) (As := [.int v7]) (rest := [.long v2]) ⟨hx, hb, hml, hown, hts⟩ (kX4_instantAt l dC dI cI cJ cB h_this_now h_this_now_day h_this_now_second h_this_now_months h_this_now_days h_this_now_seconds N v7 f_this_now_day f_this_now_second r18 hc19 _) (kgV (kq q_618 rfl) (kq q_619 rfl) (kq q_620 rfl) (kq q_58 rfl) (kq q_621 rfl)) yd_X4_instantAt ⟨Nat.le_of_ble_eq_true rfl, Nat.le_of_ble_eq_true rfl⟩ hN hK hP hD [1, 2, 3] rfl rfl (ci := 3) rfl rfl rfl rfl rfl hl.1 rfl (lv_room (Nat.le_of_ble_eq_true rfl)) dX9_mean_51) hP hD hS hA [1, 2, 3] rfl rfl (fun H locs hP hD hS => ?_)
      have hP : va_P (dC, dI) vwCl [cl_X9 h_this h_this_now h_this_kept h_this_told h_this_text h_this_script h_this_momentReader h_this_spanReader h_this_adder h_this_other h_this_trial h_this_ways i_this, cl_X4 h_this_now h_this_now_day h_this_now_second h_this_now_months h_this_now_days h_this_now_seconds, (h_this_now_day, .inl (cI, 8, .inl f_this_now_day)), (h_this_now_second, .inl (cI, 8, .inl f_this_now_second)), cl_X3 h_this_told h_this_told_numbers i_this_told, (h_this_told_numbers, .inl (cJ, 8, .inr (.inl f_this_told_numbers)))] H := hP
      have hD : va_D A [cl_X9 h_this h_this_now h_this_kept h_this_told h_this_text h_this_script h_this_momentReader h_this_spanReader h_this_adder h_this_other h_this_trial h_this_ways i_this, cl_X4 h_this_now h_this_now_day h_this_now_second h_this_now_months h_this_now_days h_this_now_seconds, (h_this_now_day, .inl (cI, 8, .inl f_this_now_day)), (h_this_now_second, .inl (cI, 8, .inl f_this_now_second)), cl_X3 h_this_told h_this_told_numbers i_this_told, (h_this_told_numbers, .inl (cJ, 8, .inr (.inl f_this_told_numbers)))] := hD
      refine lv_ladd hx hb dX9_mean_54 ?_
      refine lv_topl (fun z20 ez20 => ?_)
      have h := nm_at ez20 h
      refine lv_lstore_n (lv' := [(2, .long z20), (0, .ref h_this), (1, .int v1), (4, .int v4), (5, .int v5), (6, .int v6), (7, .int v7)]) hx hb dX9_mean_55 rfl hl (by decide) rfl (fun ls hl => ?_)
      obtain ⟨z21, ez21⟩ : ∃ y : Int32, y = (v4 + (1 : Int32)) := ⟨_, rfl⟩
      have h := nm_at ez21 h
      refine lv_iinc (v := z21) (lv' := [(4, .int z21), (2, .long z20), (0, .ref h_this), (1, .int v1), (5, .int v5), (6, .int v6), (7, .int v7)]) hx hb dX9_mean_56 hl (k := 3) rfl (by rw [ez21]; rfl) (by decide) rfl (fun ls hl => ?_)
      refine lv_iload hx hb dX9_mean_59 (lv_at hl 4 rfl) ?_
      refine lv_iconst (v := (-1 : Int32)) hx hb dX9_mean_61 (by decide) ?_
      refine lv_icmp_eq (tgt := 87) hx hb dX9_mean_62 (by decide) (fun c22 => ?_) (fun c22 => ?_)
      · have h := ite_t c22 h
        refine lv_iload hx hb dX9_mean_87 (lv_at hl 6 rfl) ?_
        refine lv_istore (lv' := [(5, .int v7), (4, .int z21), (2, .long z20), (0, .ref h_this), (1, .int v1), (6, .int v6), (7, .int v7)]) hx hb dX9_mean_89 hl (by decide) rfl (fun ls hl => ?_)
        exact JN_91 _ _ _ _ _ _ _ _ _ _ _ h (lv_sub hl [3, 4, 2, 1, 0, 5, 6] rfl) hP hD hS
      have h := ite_f c22 h
      refine lv_aload_n hx hb dX9_mean_65 rfl (lv_at hl 2 rfl) ?_
      refine va_get (D := (dC, dI)) (ci := 8) (v := .ref h_this_now) (C := RX9) (T := TX9) (N := 12) hx hb hts inX9 hown hK hP 0 rfl rfl 0 (by decide) (hts _ (kq q_292 rfl)) (fun _ h9 => h9) rfl dX9_mean_66 ?_
      refine lv_iload hx hb dX9_mean_69 (lv_at hl 6 rfl) ?_
      obtain ⟨r23, hc24, h⟩ := bd1_at h
      refine kjL (kV (own := "DateSpans") (C := "DateSpans$Slots") (b := h_this_now) (As := [.int v7]) (rest := []) ⟨hx, hb, hml, hown, hts⟩ (kX4_instantAt l dC dI cI cJ cB h_this_now h_this_now_day h_this_now_second h_this_now_months h_this_now_days h_this_now_seconds N v7 f_this_now_day f_this_now_second r23 hc24 _) (kgV (kq q_618 rfl) (kq q_619 rfl) (kq q_620 rfl) (kq q_58 rfl) (kq q_621 rfl)) yd_X4_instantAt ⟨Nat.le_of_ble_eq_true rfl, Nat.le_of_ble_eq_true rfl⟩ hN hK hP hD [1, 2, 3] rfl rfl (ci := 3) rfl rfl rfl rfl rfl hl.1 rfl (lv_room (Nat.le_of_ble_eq_true rfl)) dX9_mean_71) hP hD hS hA [1, 2, 3] rfl rfl (fun H locs hP hD hS => ?_)
      have hP : va_P (dC, dI) vwCl [cl_X9 h_this h_this_now h_this_kept h_this_told h_this_text h_this_script h_this_momentReader h_this_spanReader h_this_adder h_this_other h_this_trial h_this_ways i_this, cl_X4 h_this_now h_this_now_day h_this_now_second h_this_now_months h_this_now_days h_this_now_seconds, (h_this_now_day, .inl (cI, 8, .inl f_this_now_day)), (h_this_now_second, .inl (cI, 8, .inl f_this_now_second)), cl_X3 h_this_told h_this_told_numbers i_this_told, (h_this_told_numbers, .inl (cJ, 8, .inr (.inl f_this_told_numbers)))] H := hP
      have hD : va_D A [cl_X9 h_this h_this_now h_this_kept h_this_told h_this_text h_this_script h_this_momentReader h_this_spanReader h_this_adder h_this_other h_this_trial h_this_ways i_this, cl_X4 h_this_now h_this_now_day h_this_now_second h_this_now_months h_this_now_days h_this_now_seconds, (h_this_now_day, .inl (cI, 8, .inl f_this_now_day)), (h_this_now_second, .inl (cI, 8, .inl f_this_now_second)), cl_X3 h_this_told h_this_told_numbers i_this_told, (h_this_told_numbers, .inl (cJ, 8, .inr (.inl f_this_told_numbers)))] := hD
      refine lv_aload_n hx hb dX9_mean_74 rfl (lv_at hl 2 rfl) ?_
      refine va_get (D := (dC, dI)) (ci := 8) (v := .ref h_this_now) (C := RX9) (T := TX9) (N := 12) hx hb hts inX9 hown hK hP 0 rfl rfl 0 (by decide) (hts _ (kq q_292 rfl)) (fun _ h9 => h9) rfl dX9_mean_75 ?_
      refine lv_iload hx hb dX9_mean_78 (lv_at hl 4 rfl) ?_
      obtain ⟨r25, hc26, h⟩ := bd1_at h
      refine kjL (kV (own := "DateSpans") (C := "DateSpans$Slots") (b := h_this_now) (As := [.int v5]) (rest := [.long r23]) ⟨hx, hb, hml, hown, hts⟩ (kX4_instantAt l dC dI cI cJ cB h_this_now h_this_now_day h_this_now_second h_this_now_months h_this_now_days h_this_now_seconds N v5 f_this_now_day f_this_now_second r25 hc26 _) (kgV (kq q_618 rfl) (kq q_619 rfl) (kq q_620 rfl) (kq q_58 rfl) (kq q_621 rfl)) yd_X4_instantAt ⟨Nat.le_of_ble_eq_true rfl, Nat.le_of_ble_eq_true rfl⟩ hN hK hP hD [1, 2, 3] rfl rfl (ci := 3) rfl rfl rfl rfl rfl hl.1 rfl (lv_room (Nat.le_of_ble_eq_true rfl)) dX9_mean_80) hP hD hS hA [1, 2, 3] rfl rfl (fun H locs hP hD hS => ?_)
      have hP : va_P (dC, dI) vwCl [cl_X9 h_this h_this_now h_this_kept h_this_told h_this_text h_this_script h_this_momentReader h_this_spanReader h_this_adder h_this_other h_this_trial h_this_ways i_this, cl_X4 h_this_now h_this_now_day h_this_now_second h_this_now_months h_this_now_days h_this_now_seconds, (h_this_now_day, .inl (cI, 8, .inl f_this_now_day)), (h_this_now_second, .inl (cI, 8, .inl f_this_now_second)), cl_X3 h_this_told h_this_told_numbers i_this_told, (h_this_told_numbers, .inl (cJ, 8, .inr (.inl f_this_told_numbers)))] H := hP
      have hD : va_D A [cl_X9 h_this h_this_now h_this_kept h_this_told h_this_text h_this_script h_this_momentReader h_this_spanReader h_this_adder h_this_other h_this_trial h_this_ways i_this, cl_X4 h_this_now h_this_now_day h_this_now_second h_this_now_months h_this_now_days h_this_now_seconds, (h_this_now_day, .inl (cI, 8, .inl f_this_now_day)), (h_this_now_second, .inl (cI, 8, .inl f_this_now_second)), cl_X3 h_this_told h_this_told_numbers i_this_told, (h_this_told_numbers, .inl (cJ, 8, .inr (.inl f_this_told_numbers)))] := hD
      refine W.lcmp hx hb dX9_mean_83 ?_
      refine lv_if_ge (tgt := 91) hx hb dX9_mean_84 (by decide) (fun c27 => ?_) (fun c27 => ?_)
      · have h := ite_t c27 h
        exact JN_91 _ _ _ _ _ _ _ _ _ _ _ h (lv_sub hl [2, 3, 1, 0, 4, 5, 6] rfl) hP hD hS
      have h := ite_f c27 h
      refine lv_iload hx hb dX9_mean_87 (lv_at hl 6 rfl) ?_
      refine lv_istore (lv' := [(5, .int v7), (4, .int z21), (2, .long z20), (0, .ref h_this), (1, .int v1), (6, .int v6), (7, .int v7)]) hx hb dX9_mean_89 hl (by decide) rfl (fun ls hl => ?_)
      exact JN_91 _ _ _ _ _ _ _ _ _ _ _ h (lv_sub hl [3, 4, 2, 1, 0, 5, 6] rfl) hP hD hS
  have h := hf
  unfold fX9_mean at h
  refine lv_iload_n hx hb dX9_mean_0 rfl (lv_at hl 1 rfl) ?_
  refine lv_iconst (v := (1 : Int32)) hx hb dX9_mean_1 (by decide) ?_
  refine lv_icmp_lt (tgt := 12) hx hb dX9_mean_2 (by decide) (fun c28 => ?_) (fun c28 => ?_)
  · have h := ite_t c28 h
    refine lv_iconst (v := (-1 : Int32)) hx hb dX9_mean_12 (by decide) ?_
    obtain ⟨rfl, rfl, rfl⟩ := pj3 h
    exact hEnd _ _ _ _ hP hS dX9_mean_13 rfl
  have h := ite_f c28 h
  refine lv_iload_n hx hb dX9_mean_5 rfl (lv_at hl 1 rfl) ?_
  refine lv_sipush (v := (255 : Int32)) hx hb dX9_mean_6 (by decide) ?_
  refine lv_icmp_le (tgt := 14) hx hb dX9_mean_9 (by decide) (fun c29 => ?_) (fun c29 => ?_)
  · have h := ite_t c29 h
    refine lv_lconst (v := (0 : Int64)) hx hb dX9_mean_14 (by decide) ?_
    refine lv_lstore_n (lv' := [(2, .long (0 : Int64)), (0, .ref h_this), (1, .int p1)]) hx hb dX9_mean_15 rfl hl (by decide) rfl (fun ls hl => ?_)
    refine lv_iconst (v := (0 : Int32)) hx hb dX9_mean_16 (by decide) ?_
    refine lv_istore (lv' := [(4, .int (0 : Int32)), (2, .long (0 : Int64)), (0, .ref h_this), (1, .int p1)]) hx hb dX9_mean_17 hl (by decide) rfl (fun ls hl => ?_)
    refine lv_iconst (v := (-1 : Int32)) hx hb dX9_mean_19 (by decide) ?_
    refine lv_istore (lv' := [(5, .int (-1 : Int32)), (4, .int (0 : Int32)), (2, .long (0 : Int64)), (0, .ref h_this), (1, .int p1)]) hx hb dX9_mean_20 hl (by decide) rfl (fun ls hl => ?_)
    refine lv_iconst (v := (-1 : Int32)) hx hb dX9_mean_22 (by decide) ?_
    refine lv_istore (lv' := [(6, .int (-1 : Int32)), (5, .int (-1 : Int32)), (4, .int (0 : Int32)), (2, .long (0 : Int64)), (0, .ref h_this), (1, .int p1)]) hx hb dX9_mean_23 hl (by decide) rfl (fun ls hl => ?_)
    refine lv_iconst (v := (0 : Int32)) hx hb dX9_mean_25 (by decide) ?_
    refine lv_istore (lv' := [(7, .int (0 : Int32)), (6, .int (-1 : Int32)), (5, .int (-1 : Int32)), (4, .int (0 : Int32)), (2, .long (0 : Int64)), (0, .ref h_this), (1, .int p1)]) hx hb dX9_mean_26 hl (by decide) rfl (fun ls hl => ?_)
    exact LP_28 N _ _ _ _ _ _ _ _ _ _ _ h (lv_sub hl [5, 6, 4, 3, 2, 1, 0] rfl) hP hD hS
  have h := ite_f c29 h
  refine lv_iconst (v := (-1 : Int32)) hx hb dX9_mean_12 (by decide) ?_
  obtain ⟨rfl, rfl, rfl⟩ := pj3 h
  exact hEnd _ _ _ _ hP hS dX9_mean_13 rfl
noncomputable def fX9_lengthOf (N : Nat) (p1 : Int32) (i_this : Int32) (f_this_now_months : Nat → Int32) (f_this_now_days : Nat → Int32) (f_this_now_seconds : Nat → Int32) : Option (Int64) := (bd1 (fX4_monthsAt N p1 f_this_now_months) fun r1 => (bd1 (fX4_daysAt N p1 f_this_now_days) fun r3 => (bd1 (fX4_secondsAt N p1 f_this_now_seconds) fun r5 => (some ((((2629746 : Int64) * r1.toInt64) + ((86400 : Int64) * r3.toInt64)) + r5.toInt64)))))
set_option maxHeartbeats 4000000 in
set_option maxRecDepth 100000 in
theorem kX9_lengthOf (l : Launch) (dC : Nat → ClassId) (dI : Nat → Nat → Nat) (cI cJ cB : ClassId) (h_this h_this_now h_this_kept h_this_told h_this_text h_this_script h_this_momentReader h_this_spanReader h_this_adder h_this_other h_this_trial h_this_ways h_this_now_day h_this_now_second h_this_now_months h_this_now_days h_this_now_seconds : Nat) (N : Nat) (p1 : Int32) (i_this : Int32) (f_this_now_months : Nat → Int32) (f_this_now_days : Nat → Int32) (f_this_now_seconds : Nat → Int32) (r : Int64) (hf : fX9_lengthOf N p1 i_this f_this_now_months f_this_now_days f_this_now_seconds = some r) : ML l yX9_lengthOf (kws yX9_lengthOf cX9_lengthOf 2 (some .long)) (kR 2 41) (dC, dI) (kT cI cJ cB) [.ref h_this, .int p1] [cl_X9 h_this h_this_now h_this_kept h_this_told h_this_text h_this_script h_this_momentReader h_this_spanReader h_this_adder h_this_other h_this_trial h_this_ways i_this, cl_X4 h_this_now h_this_now_day h_this_now_second h_this_now_months h_this_now_days h_this_now_seconds, (h_this_now_months, .inl (cI, 8, .inl f_this_now_months)), (h_this_now_days, .inl (cI, 8, .inl f_this_now_days)), (h_this_now_seconds, .inl (cI, 8, .inl f_this_now_seconds))] [cl_X9 h_this h_this_now h_this_kept h_this_told h_this_text h_this_script h_this_momentReader h_this_spanReader h_this_adder h_this_other h_this_trial h_this_ways i_this, cl_X4 h_this_now h_this_now_day h_this_now_second h_this_now_months h_this_now_days h_this_now_seconds, (h_this_now_months, .inl (cI, 8, .inl f_this_now_months)), (h_this_now_days, .inl (cI, 8, .inl f_this_now_days)), (h_this_now_seconds, .inl (cI, 8, .inl f_this_now_seconds))] r := by
  refine ML.of (cc := cX9_lengthOf) (maxL := 2) (by decide) (Nat.le_of_ble_eq_true rfl) (fun p e s m args below meth c A Q ls KC hN hK hP hD hA hl hEnd => ?_)
  obtain ⟨hx, hb, hml, hown, hts⟩ := KC
  have hown : s.vm.findClass "DateSpans" = some m.cls := hown
  have hl : lv_has ls 2 [(0, .ref h_this), (1, .int p1)] := hl
  have hS : va_S A s.heap s.heap [] := va_S.rf
  have h := hf
  unfold fX9_lengthOf at h
  refine lv_ldc2 (v := (2629746 : Int64)) hx hb hown (hts _ (kq q_814 rfl)) dX9_lengthOf_0 ?_
  refine lv_aload_n hx hb dX9_lengthOf_3 rfl (lv_at hl 0 rfl) ?_
  refine va_get (D := (dC, dI)) (ci := 8) (v := .ref h_this_now) (C := RX9) (T := TX9) (N := 12) hx hb hts inX9 hown hK hP 0 rfl rfl 0 (by decide) (hts _ (kq q_292 rfl)) (fun _ h9 => h9) rfl dX9_lengthOf_4 ?_
  refine lv_iload_n hx hb dX9_lengthOf_7 rfl (lv_at hl 1 rfl) ?_
  obtain ⟨r1, hc2, h⟩ := bd1_at h
  refine kjI (kV (own := "DateSpans") (C := "DateSpans$Slots") (b := h_this_now) (As := [.int p1]) (rest := [.long (2629746 : Int64)]) ⟨hx, hb, hml, hown, hts⟩ (kX4_monthsAt l dC dI cI cJ cB h_this_now h_this_now_day h_this_now_second h_this_now_months h_this_now_days h_this_now_seconds N p1 f_this_now_months r1 hc2 _) (kgV (kq q_490 rfl) (kq q_491 rfl) (kq q_492 rfl) (kq q_58 rfl) (kq q_493 rfl)) yd_X4_monthsAt ⟨Nat.le_of_ble_eq_true rfl, Nat.le_of_ble_eq_true rfl⟩ hN hK hP hD [1, 2] rfl rfl (ci := 3) rfl rfl rfl rfl rfl hl.1 rfl (lv_room (Nat.le_of_ble_eq_true rfl)) dX9_lengthOf_8) hP hD hS hA [1, 2] rfl rfl (fun H locs hP hD hS => ?_)
  have hP : va_P (dC, dI) vwCl [cl_X9 h_this h_this_now h_this_kept h_this_told h_this_text h_this_script h_this_momentReader h_this_spanReader h_this_adder h_this_other h_this_trial h_this_ways i_this, cl_X4 h_this_now h_this_now_day h_this_now_second h_this_now_months h_this_now_days h_this_now_seconds, (h_this_now_months, .inl (cI, 8, .inl f_this_now_months)), (h_this_now_days, .inl (cI, 8, .inl f_this_now_days)), (h_this_now_seconds, .inl (cI, 8, .inl f_this_now_seconds))] H := hP
  have hD : va_D A [cl_X9 h_this h_this_now h_this_kept h_this_told h_this_text h_this_script h_this_momentReader h_this_spanReader h_this_adder h_this_other h_this_trial h_this_ways i_this, cl_X4 h_this_now h_this_now_day h_this_now_second h_this_now_months h_this_now_days h_this_now_seconds, (h_this_now_months, .inl (cI, 8, .inl f_this_now_months)), (h_this_now_days, .inl (cI, 8, .inl f_this_now_days)), (h_this_now_seconds, .inl (cI, 8, .inl f_this_now_seconds))] := hD
  refine lv_i2l hx hb dX9_lengthOf_11 rfl ?_
  refine lv_lmul hx hb dX9_lengthOf_12 ?_
  refine lv_ldc2 (v := (86400 : Int64)) hx hb hown (hts _ (kq q_587 rfl)) dX9_lengthOf_13 ?_
  refine lv_aload_n hx hb dX9_lengthOf_16 rfl (lv_at hl 0 rfl) ?_
  refine va_get (D := (dC, dI)) (ci := 8) (v := .ref h_this_now) (C := RX9) (T := TX9) (N := 12) hx hb hts inX9 hown hK hP 0 rfl rfl 0 (by decide) (hts _ (kq q_292 rfl)) (fun _ h9 => h9) rfl dX9_lengthOf_17 ?_
  refine lv_iload_n hx hb dX9_lengthOf_20 rfl (lv_at hl 1 rfl) ?_
  obtain ⟨r3, hc4, h⟩ := bd1_at h
  refine kjI (kV (own := "DateSpans") (C := "DateSpans$Slots") (b := h_this_now) (As := [.int p1]) (rest := [.long (86400 : Int64), .long ((2629746 : Int64) * r1.toInt64)]) ⟨hx, hb, hml, hown, hts⟩ (kX4_daysAt l dC dI cI cJ cB h_this_now h_this_now_day h_this_now_second h_this_now_months h_this_now_days h_this_now_seconds N p1 f_this_now_days r3 hc4 _) (kgV (kq q_494 rfl) (kq q_495 rfl) (kq q_496 rfl) (kq q_58 rfl) (kq q_497 rfl)) yd_X4_daysAt ⟨Nat.le_of_ble_eq_true rfl, Nat.le_of_ble_eq_true rfl⟩ hN hK hP hD [1, 3] rfl rfl (ci := 3) rfl rfl rfl rfl rfl hl.1 rfl (lv_room (Nat.le_of_ble_eq_true rfl)) dX9_lengthOf_21) hP hD hS hA [1, 3] rfl rfl (fun H locs hP hD hS => ?_)
  have hP : va_P (dC, dI) vwCl [cl_X9 h_this h_this_now h_this_kept h_this_told h_this_text h_this_script h_this_momentReader h_this_spanReader h_this_adder h_this_other h_this_trial h_this_ways i_this, cl_X4 h_this_now h_this_now_day h_this_now_second h_this_now_months h_this_now_days h_this_now_seconds, (h_this_now_months, .inl (cI, 8, .inl f_this_now_months)), (h_this_now_days, .inl (cI, 8, .inl f_this_now_days)), (h_this_now_seconds, .inl (cI, 8, .inl f_this_now_seconds))] H := hP
  have hD : va_D A [cl_X9 h_this h_this_now h_this_kept h_this_told h_this_text h_this_script h_this_momentReader h_this_spanReader h_this_adder h_this_other h_this_trial h_this_ways i_this, cl_X4 h_this_now h_this_now_day h_this_now_second h_this_now_months h_this_now_days h_this_now_seconds, (h_this_now_months, .inl (cI, 8, .inl f_this_now_months)), (h_this_now_days, .inl (cI, 8, .inl f_this_now_days)), (h_this_now_seconds, .inl (cI, 8, .inl f_this_now_seconds))] := hD
  refine lv_i2l hx hb dX9_lengthOf_24 rfl ?_
  refine lv_lmul hx hb dX9_lengthOf_25 ?_
  refine lv_ladd hx hb dX9_lengthOf_26 ?_
  refine lv_aload_n hx hb dX9_lengthOf_27 rfl (lv_at hl 0 rfl) ?_
  refine va_get (D := (dC, dI)) (ci := 8) (v := .ref h_this_now) (C := RX9) (T := TX9) (N := 12) hx hb hts inX9 hown hK hP 0 rfl rfl 0 (by decide) (hts _ (kq q_292 rfl)) (fun _ h9 => h9) rfl dX9_lengthOf_28 ?_
  refine lv_iload_n hx hb dX9_lengthOf_31 rfl (lv_at hl 1 rfl) ?_
  obtain ⟨r5, hc6, h⟩ := bd1_at h
  refine kjI (kV (own := "DateSpans") (C := "DateSpans$Slots") (b := h_this_now) (As := [.int p1]) (rest := [.long (((2629746 : Int64) * r1.toInt64) + ((86400 : Int64) * r3.toInt64))]) ⟨hx, hb, hml, hown, hts⟩ (kX4_secondsAt l dC dI cI cJ cB h_this_now h_this_now_day h_this_now_second h_this_now_months h_this_now_days h_this_now_seconds N p1 f_this_now_seconds r5 hc6 _) (kgV (kq q_498 rfl) (kq q_499 rfl) (kq q_500 rfl) (kq q_58 rfl) (kq q_501 rfl)) yd_X4_secondsAt ⟨Nat.le_of_ble_eq_true rfl, Nat.le_of_ble_eq_true rfl⟩ hN hK hP hD [1, 4] rfl rfl (ci := 3) rfl rfl rfl rfl rfl hl.1 rfl (lv_room (Nat.le_of_ble_eq_true rfl)) dX9_lengthOf_32) hP hD hS hA [1, 4] rfl rfl (fun H locs hP hD hS => ?_)
  have hP : va_P (dC, dI) vwCl [cl_X9 h_this h_this_now h_this_kept h_this_told h_this_text h_this_script h_this_momentReader h_this_spanReader h_this_adder h_this_other h_this_trial h_this_ways i_this, cl_X4 h_this_now h_this_now_day h_this_now_second h_this_now_months h_this_now_days h_this_now_seconds, (h_this_now_months, .inl (cI, 8, .inl f_this_now_months)), (h_this_now_days, .inl (cI, 8, .inl f_this_now_days)), (h_this_now_seconds, .inl (cI, 8, .inl f_this_now_seconds))] H := hP
  have hD : va_D A [cl_X9 h_this h_this_now h_this_kept h_this_told h_this_text h_this_script h_this_momentReader h_this_spanReader h_this_adder h_this_other h_this_trial h_this_ways i_this, cl_X4 h_this_now h_this_now_day h_this_now_second h_this_now_months h_this_now_days h_this_now_seconds, (h_this_now_months, .inl (cI, 8, .inl f_this_now_months)), (h_this_now_days, .inl (cI, 8, .inl f_this_now_days)), (h_this_now_seconds, .inl (cI, 8, .inl f_this_now_seconds))] := hD
  refine lv_i2l hx hb dX9_lengthOf_35 rfl ?_
  refine lv_ladd hx hb dX9_lengthOf_36 ?_
  obtain rfl := pj1 h
  exact hEnd _ _ _ _ hP hS dX9_lengthOf_37
noncomputable def fX9_ranked_j87 (N : Nat) (i_this : Int32) (f_this_now_day : Nat → Int32) (f_this_now_second : Nat → Int32) (f_this_now_months : Nat → Int32) (f_this_now_days : Nat → Int32) (f_this_now_seconds : Nat → Int32) (K_32 : Int32 → Int32 → Int32 → (Nat → Int64) → Option (Int32 × Int32 × (Nat → Int64))) (K_43 : Int32 → Int32 → Int32 → Int32 → Int32 → (Nat → Int64) → Option (Int32 × Int32 × (Nat → Int64))) (v1 : Int32) (v2 : Int32) (v3 : Int32) (v4 : Int32) (t0 : Int64) (i_this_told : Int32) (f_this_told_numbers : Nat → Int64) : Option (Int32 × Int32 × (Nat → Int64)) := (if (lg_cmp t0 (0 : Int64)) < (0 : Int32) then (nm (v3 + (1 : Int32)) fun z2 => (nm (v4 + (1 : Int32)) fun z3 => (K_43 v1 v2 z2 z3 i_this_told f_this_told_numbers))) else (if (lg_cmp t0 (0 : Int64)) = (0 : Int32) then (if v2 ≤ v4 then (nm (v4 + (1 : Int32)) fun z7 => (K_43 v1 v2 v3 z7 i_this_told f_this_told_numbers)) else (nm (v3 + (1 : Int32)) fun z8 => (nm (v4 + (1 : Int32)) fun z9 => (K_43 v1 v2 z8 z9 i_this_told f_this_told_numbers)))) else (nm (v4 + (1 : Int32)) fun z5 => (K_43 v1 v2 v3 z5 i_this_told f_this_told_numbers))))
noncomputable def fX9_ranked_l43 (N : Nat) (i_this : Int32) (f_this_now_day : Nat → Int32) (f_this_now_second : Nat → Int32) (f_this_now_months : Nat → Int32) (f_this_now_days : Nat → Int32) (f_this_now_seconds : Nat → Int32) (K_32 : Int32 → Int32 → Int32 → (Nat → Int64) → Option (Int32 × Int32 × (Nat → Int64))) (n : Nat) : Int32 → Int32 → Int32 → Int32 → Int32 → (Nat → Int64) → Option (Int32 × Int32 × (Nat → Int64)) := Nat.rec (motive := fun _ => Int32 → Int32 → Int32 → Int32 → Int32 → (Nat → Int64) → Option (Int32 × Int32 × (Nat → Int64))) (fun _ _ _ _ _ _ => none) (fun _ K_43 v1 v2 v3 v4 i_this_told f_this_told_numbers => (if (8 : Int32) ≤ v4 then (bd1 (fX3_put N v3 v2.toInt64 i_this_told f_this_told_numbers) fun f_this_told_numbers_11 => (nm (v2 + (1 : Int32)) fun z13 => (K_32 v1 z13 i_this_told f_this_told_numbers_11))) else (if v1 = (0 : Int32) then (bd1 (fX4_instantAt N v4 f_this_now_day f_this_now_second) fun r15 => (bd1 (fX4_instantAt N v2 f_this_now_day f_this_now_second) fun r17 => (fX9_ranked_j87 N i_this f_this_now_day f_this_now_second f_this_now_months f_this_now_days f_this_now_seconds K_32 K_43 v1 v2 v3 v4 (r15 - r17) i_this_told f_this_told_numbers))) else (bd1 (fX9_lengthOf N v4 i_this f_this_now_months f_this_now_days f_this_now_seconds) fun r19 => (bd1 (fX9_lengthOf N v2 i_this f_this_now_months f_this_now_days f_this_now_seconds) fun r21 => (fX9_ranked_j87 N i_this f_this_now_day f_this_now_second f_this_now_months f_this_now_days f_this_now_seconds K_32 K_43 v1 v2 v3 v4 (r19 - r21) i_this_told f_this_told_numbers)))))) n
theorem fX9_ranked_l43_s (N : Nat) (i_this : Int32) (f_this_now_day : Nat → Int32) (f_this_now_second : Nat → Int32) (f_this_now_months : Nat → Int32) (f_this_now_days : Nat → Int32) (f_this_now_seconds : Nat → Int32) (K_32 : Int32 → Int32 → Int32 → (Nat → Int64) → Option (Int32 × Int32 × (Nat → Int64))) (n : Nat) (v1 : Int32) (v2 : Int32) (v3 : Int32) (v4 : Int32) (i_this_told : Int32) (f_this_told_numbers : Nat → Int64) : fX9_ranked_l43 N i_this f_this_now_day f_this_now_second f_this_now_months f_this_now_days f_this_now_seconds K_32 (n + 1) v1 v2 v3 v4 i_this_told f_this_told_numbers = (if (8 : Int32) ≤ v4 then (bd1 (fX3_put N v3 v2.toInt64 i_this_told f_this_told_numbers) fun f_this_told_numbers_11 => (nm (v2 + (1 : Int32)) fun z13 => (K_32 v1 z13 i_this_told f_this_told_numbers_11))) else (if v1 = (0 : Int32) then (bd1 (fX4_instantAt N v4 f_this_now_day f_this_now_second) fun r15 => (bd1 (fX4_instantAt N v2 f_this_now_day f_this_now_second) fun r17 => (fX9_ranked_j87 N i_this f_this_now_day f_this_now_second f_this_now_months f_this_now_days f_this_now_seconds K_32 (fX9_ranked_l43 N i_this f_this_now_day f_this_now_second f_this_now_months f_this_now_days f_this_now_seconds K_32 n) v1 v2 v3 v4 (r15 - r17) i_this_told f_this_told_numbers))) else (bd1 (fX9_lengthOf N v4 i_this f_this_now_months f_this_now_days f_this_now_seconds) fun r19 => (bd1 (fX9_lengthOf N v2 i_this f_this_now_months f_this_now_days f_this_now_seconds) fun r21 => (fX9_ranked_j87 N i_this f_this_now_day f_this_now_second f_this_now_months f_this_now_days f_this_now_seconds K_32 (fX9_ranked_l43 N i_this f_this_now_day f_this_now_second f_this_now_months f_this_now_days f_this_now_seconds K_32 n) v1 v2 v3 v4 (r19 - r21) i_this_told f_this_told_numbers))))) := rfl
theorem fX9_ranked_l43_0 (N : Nat) (i_this : Int32) (f_this_now_day : Nat → Int32) (f_this_now_second : Nat → Int32) (f_this_now_months : Nat → Int32) (f_this_now_days : Nat → Int32) (f_this_now_seconds : Nat → Int32) (K_32 : Int32 → Int32 → Int32 → (Nat → Int64) → Option (Int32 × Int32 × (Nat → Int64))) (v1 : Int32) (v2 : Int32) (v3 : Int32) (v4 : Int32) (i_this_told : Int32) (f_this_told_numbers : Nat → Int64) : fX9_ranked_l43 N i_this f_this_now_day f_this_now_second f_this_now_months f_this_now_days f_this_now_seconds K_32 0 v1 v2 v3 v4 i_this_told f_this_told_numbers = none := rfl
noncomputable def fX9_ranked_l32 (N : Nat) (i_this : Int32) (f_this_now_day : Nat → Int32) (f_this_now_second : Nat → Int32) (f_this_now_months : Nat → Int32) (f_this_now_days : Nat → Int32) (f_this_now_seconds : Nat → Int32) (n : Nat) : Int32 → Int32 → Int32 → (Nat → Int64) → Option (Int32 × Int32 × (Nat → Int64)) := Nat.rec (motive := fun _ => Int32 → Int32 → Int32 → (Nat → Int64) → Option (Int32 × Int32 × (Nat → Int64))) (fun _ _ _ _ => none) (fun _ K_32 v1 v2 i_this_told f_this_told_numbers => (if (8 : Int32) ≤ v2 then (bd1 (fX3_at N (0 : Int32) i_this_told f_this_told_numbers) fun r24 => (some (r24.toInt32, i_this_told, f_this_told_numbers))) else (fX9_ranked_l43 N i_this f_this_now_day f_this_now_second f_this_now_months f_this_now_days f_this_now_seconds K_32 N v1 v2 (0 : Int32) (0 : Int32) i_this_told f_this_told_numbers))) n
theorem fX9_ranked_l32_s (N : Nat) (i_this : Int32) (f_this_now_day : Nat → Int32) (f_this_now_second : Nat → Int32) (f_this_now_months : Nat → Int32) (f_this_now_days : Nat → Int32) (f_this_now_seconds : Nat → Int32) (n : Nat) (v1 : Int32) (v2 : Int32) (i_this_told : Int32) (f_this_told_numbers : Nat → Int64) : fX9_ranked_l32 N i_this f_this_now_day f_this_now_second f_this_now_months f_this_now_days f_this_now_seconds (n + 1) v1 v2 i_this_told f_this_told_numbers = (if (8 : Int32) ≤ v2 then (bd1 (fX3_at N (0 : Int32) i_this_told f_this_told_numbers) fun r24 => (some (r24.toInt32, i_this_told, f_this_told_numbers))) else (fX9_ranked_l43 N i_this f_this_now_day f_this_now_second f_this_now_months f_this_now_days f_this_now_seconds (fX9_ranked_l32 N i_this f_this_now_day f_this_now_second f_this_now_months f_this_now_days f_this_now_seconds n) N v1 v2 (0 : Int32) (0 : Int32) i_this_told f_this_told_numbers)) := rfl
theorem fX9_ranked_l32_0 (N : Nat) (i_this : Int32) (f_this_now_day : Nat → Int32) (f_this_now_second : Nat → Int32) (f_this_now_months : Nat → Int32) (f_this_now_days : Nat → Int32) (f_this_now_seconds : Nat → Int32) (v1 : Int32) (v2 : Int32) (i_this_told : Int32) (f_this_told_numbers : Nat → Int64) : fX9_ranked_l32 N i_this f_this_now_day f_this_now_second f_this_now_months f_this_now_days f_this_now_seconds 0 v1 v2 i_this_told f_this_told_numbers = none := rfl
noncomputable def fX9_ranked_l9 (N : Nat) (i_this : Int32) (f_this_now_day : Nat → Int32) (f_this_now_second : Nat → Int32) (f_this_now_months : Nat → Int32) (f_this_now_days : Nat → Int32) (f_this_now_seconds : Nat → Int32) (n : Nat) : Int32 → Int32 → Int32 → (Nat → Int64) → Option (Int32 × Int32 × (Nat → Int64)) := Nat.rec (motive := fun _ => Int32 → Int32 → Int32 → (Nat → Int64) → Option (Int32 × Int32 × (Nat → Int64))) (fun _ _ _ _ => none) (fun _ K_9 v1 v2 i_this_told f_this_told_numbers => (if (8 : Int32) ≤ v2 then (fX9_ranked_l32 N i_this f_this_now_day f_this_now_second f_this_now_months f_this_now_days f_this_now_seconds N v1 (0 : Int32) i_this_told f_this_told_numbers) else (bd2 (fX3_push N v2.toInt64 i_this_told f_this_told_numbers) fun i_this_told_27 f_this_told_numbers_28 => (nm (v2 + (1 : Int32)) fun z30 => (K_9 v1 z30 i_this_told_27 f_this_told_numbers_28))))) n
theorem fX9_ranked_l9_s (N : Nat) (i_this : Int32) (f_this_now_day : Nat → Int32) (f_this_now_second : Nat → Int32) (f_this_now_months : Nat → Int32) (f_this_now_days : Nat → Int32) (f_this_now_seconds : Nat → Int32) (n : Nat) (v1 : Int32) (v2 : Int32) (i_this_told : Int32) (f_this_told_numbers : Nat → Int64) : fX9_ranked_l9 N i_this f_this_now_day f_this_now_second f_this_now_months f_this_now_days f_this_now_seconds (n + 1) v1 v2 i_this_told f_this_told_numbers = (if (8 : Int32) ≤ v2 then (fX9_ranked_l32 N i_this f_this_now_day f_this_now_second f_this_now_months f_this_now_days f_this_now_seconds N v1 (0 : Int32) i_this_told f_this_told_numbers) else (bd2 (fX3_push N v2.toInt64 i_this_told f_this_told_numbers) fun i_this_told_27 f_this_told_numbers_28 => (nm (v2 + (1 : Int32)) fun z30 => ((fX9_ranked_l9 N i_this f_this_now_day f_this_now_second f_this_now_months f_this_now_days f_this_now_seconds n) v1 z30 i_this_told_27 f_this_told_numbers_28)))) := rfl
theorem fX9_ranked_l9_0 (N : Nat) (i_this : Int32) (f_this_now_day : Nat → Int32) (f_this_now_second : Nat → Int32) (f_this_now_months : Nat → Int32) (f_this_now_days : Nat → Int32) (f_this_now_seconds : Nat → Int32) (v1 : Int32) (v2 : Int32) (i_this_told : Int32) (f_this_told_numbers : Nat → Int64) : fX9_ranked_l9 N i_this f_this_now_day f_this_now_second f_this_now_months f_this_now_days f_this_now_seconds 0 v1 v2 i_this_told f_this_told_numbers = none := rfl
noncomputable def fX9_ranked (N : Nat) (p1 : Int32) (i_this : Int32) (f_this_now_day : Nat → Int32) (f_this_now_second : Nat → Int32) (f_this_now_months : Nat → Int32) (f_this_now_days : Nat → Int32) (f_this_now_seconds : Nat → Int32) (i_this_told : Int32) (f_this_told_numbers : Nat → Int64) : Option (Int32 × Int32 × (Nat → Int64)) := (bd1 (fX3_begin N i_this_told) fun i_this_told_31 => (fX9_ranked_l9 N i_this f_this_now_day f_this_now_second f_this_now_months f_this_now_days f_this_now_seconds N p1 (0 : Int32) i_this_told_31 f_this_told_numbers))
set_option maxHeartbeats 4000000 in
set_option maxRecDepth 100000 in
theorem kX9_ranked (l : Launch) (dC : Nat → ClassId) (dI : Nat → Nat → Nat) (cI cJ cB : ClassId) (h_this h_this_now h_this_kept h_this_told h_this_text h_this_script h_this_momentReader h_this_spanReader h_this_adder h_this_other h_this_trial h_this_ways h_this_now_day h_this_now_second h_this_now_months h_this_now_days h_this_now_seconds h_this_told_numbers : Nat) (N : Nat) (p1 : Int32) (i_this : Int32) (f_this_now_day : Nat → Int32) (f_this_now_second : Nat → Int32) (f_this_now_months : Nat → Int32) (f_this_now_days : Nat → Int32) (f_this_now_seconds : Nat → Int32) (i_this_told : Int32) (f_this_told_numbers : Nat → Int64) (r : Int32) (o_i_this_told : Int32) (o_f_this_told_numbers : Nat → Int64) (hf : fX9_ranked N p1 i_this f_this_now_day f_this_now_second f_this_now_months f_this_now_days f_this_now_seconds i_this_told f_this_told_numbers = some (r, o_i_this_told, o_f_this_told_numbers)) : MI l yX9_ranked (kws yX9_ranked cX9_ranked 7 (some .int)) (kR 3 62) (dC, dI) (kT cI cJ cB) [.ref h_this, .int p1] [cl_X9 h_this h_this_now h_this_kept h_this_told h_this_text h_this_script h_this_momentReader h_this_spanReader h_this_adder h_this_other h_this_trial h_this_ways i_this, cl_X4 h_this_now h_this_now_day h_this_now_second h_this_now_months h_this_now_days h_this_now_seconds, (h_this_now_day, .inl (cI, 8, .inl f_this_now_day)), (h_this_now_second, .inl (cI, 8, .inl f_this_now_second)), (h_this_now_months, .inl (cI, 8, .inl f_this_now_months)), (h_this_now_days, .inl (cI, 8, .inl f_this_now_days)), (h_this_now_seconds, .inl (cI, 8, .inl f_this_now_seconds)), cl_X3 h_this_told h_this_told_numbers i_this_told, (h_this_told_numbers, .inl (cJ, 8, .inr (.inl f_this_told_numbers)))] [cl_X9 h_this h_this_now h_this_kept h_this_told h_this_text h_this_script h_this_momentReader h_this_spanReader h_this_adder h_this_other h_this_trial h_this_ways i_this, cl_X4 h_this_now h_this_now_day h_this_now_second h_this_now_months h_this_now_days h_this_now_seconds, (h_this_now_day, .inl (cI, 8, .inl f_this_now_day)), (h_this_now_second, .inl (cI, 8, .inl f_this_now_second)), (h_this_now_months, .inl (cI, 8, .inl f_this_now_months)), (h_this_now_days, .inl (cI, 8, .inl f_this_now_days)), (h_this_now_seconds, .inl (cI, 8, .inl f_this_now_seconds)), cl_X3 h_this_told h_this_told_numbers o_i_this_told, (h_this_told_numbers, .inl (cJ, 8, .inr (.inl o_f_this_told_numbers)))] r := by
  refine MI.of (cc := cX9_ranked) (maxL := 7) (by decide) (Nat.le_of_ble_eq_true rfl) (fun p e s m args below meth c A Q ls KC hN hK hP hD hA hl hEnd => ?_)
  obtain ⟨hx, hb, hml, hown, hts⟩ := KC
  have hown : s.vm.findClass "DateSpans" = some m.cls := hown
  have hl : lv_has ls 7 [(0, .ref h_this), (1, .int p1)] := hl
  have hS : va_S A s.heap s.heap [] := va_S.rf
  have LP_32 : ∀ n_32 : Nat, ∀ (v1 : Int32) (v2 : Int32) (i_this_told : Int32) (f_this_told_numbers : Nat → Int64) (ls : Array Slot) (H : Heap) (locs : List Loc), fX9_ranked_l32 N i_this f_this_now_day f_this_now_second f_this_now_months f_this_now_days f_this_now_seconds n_32 v1 v2 i_this_told f_this_told_numbers = some (r, o_i_this_told, o_f_this_told_numbers) → lv_has ls 7 [(0, .ref h_this), (1, .int v1), (2, .int v2)] → va_P (dC, dI) vwCl [cl_X9 h_this h_this_now h_this_kept h_this_told h_this_text h_this_script h_this_momentReader h_this_spanReader h_this_adder h_this_other h_this_trial h_this_ways i_this, cl_X4 h_this_now h_this_now_day h_this_now_second h_this_now_months h_this_now_days h_this_now_seconds, (h_this_now_day, .inl (cI, 8, .inl f_this_now_day)), (h_this_now_second, .inl (cI, 8, .inl f_this_now_second)), (h_this_now_months, .inl (cI, 8, .inl f_this_now_months)), (h_this_now_days, .inl (cI, 8, .inl f_this_now_days)), (h_this_now_seconds, .inl (cI, 8, .inl f_this_now_seconds)), cl_X3 h_this_told h_this_told_numbers i_this_told, (h_this_told_numbers, .inl (cJ, 8, .inr (.inl f_this_told_numbers)))] H → va_D A [cl_X9 h_this h_this_now h_this_kept h_this_told h_this_text h_this_script h_this_momentReader h_this_spanReader h_this_adder h_this_other h_this_trial h_this_ways i_this, cl_X4 h_this_now h_this_now_day h_this_now_second h_this_now_months h_this_now_days h_this_now_seconds, (h_this_now_day, .inl (cI, 8, .inl f_this_now_day)), (h_this_now_second, .inl (cI, 8, .inl f_this_now_second)), (h_this_now_months, .inl (cI, 8, .inl f_this_now_months)), (h_this_now_days, .inl (cI, 8, .inl f_this_now_days)), (h_this_now_seconds, .inl (cI, 8, .inl f_this_now_seconds)), cl_X3 h_this_told h_this_told_numbers i_this_told, (h_this_told_numbers, .inl (cJ, 8, .inr (.inl f_this_told_numbers)))] → va_S A s.heap H locs → W p l e (kR 3 62) s m args below meth c H locs 0 0 Q (F0 m 32 ls []) := by
    intro n_32
    induction n_32 with
    | zero =>
      intro v1 v2 i_this_told f_this_told_numbers ls H locs h hl hP hD hS
      rw [fX9_ranked_l32_0] at h; cases h
    | succ n_32 ih_32 =>
      have LP_43 : ∀ n_43 : Nat, ∀ (v1 : Int32) (v2 : Int32) (v3 : Int32) (v4 : Int32) (i_this_told : Int32) (f_this_told_numbers : Nat → Int64) (ls : Array Slot) (H : Heap) (locs : List Loc), fX9_ranked_l43 N i_this f_this_now_day f_this_now_second f_this_now_months f_this_now_days f_this_now_seconds (fX9_ranked_l32 N i_this f_this_now_day f_this_now_second f_this_now_months f_this_now_days f_this_now_seconds n_32) n_43 v1 v2 v3 v4 i_this_told f_this_told_numbers = some (r, o_i_this_told, o_f_this_told_numbers) → lv_has ls 7 [(0, .ref h_this), (1, .int v1), (2, .int v2), (3, .int v3), (4, .int v4)] → va_P (dC, dI) vwCl [cl_X9 h_this h_this_now h_this_kept h_this_told h_this_text h_this_script h_this_momentReader h_this_spanReader h_this_adder h_this_other h_this_trial h_this_ways i_this, cl_X4 h_this_now h_this_now_day h_this_now_second h_this_now_months h_this_now_days h_this_now_seconds, (h_this_now_day, .inl (cI, 8, .inl f_this_now_day)), (h_this_now_second, .inl (cI, 8, .inl f_this_now_second)), (h_this_now_months, .inl (cI, 8, .inl f_this_now_months)), (h_this_now_days, .inl (cI, 8, .inl f_this_now_days)), (h_this_now_seconds, .inl (cI, 8, .inl f_this_now_seconds)), cl_X3 h_this_told h_this_told_numbers i_this_told, (h_this_told_numbers, .inl (cJ, 8, .inr (.inl f_this_told_numbers)))] H → va_D A [cl_X9 h_this h_this_now h_this_kept h_this_told h_this_text h_this_script h_this_momentReader h_this_spanReader h_this_adder h_this_other h_this_trial h_this_ways i_this, cl_X4 h_this_now h_this_now_day h_this_now_second h_this_now_months h_this_now_days h_this_now_seconds, (h_this_now_day, .inl (cI, 8, .inl f_this_now_day)), (h_this_now_second, .inl (cI, 8, .inl f_this_now_second)), (h_this_now_months, .inl (cI, 8, .inl f_this_now_months)), (h_this_now_days, .inl (cI, 8, .inl f_this_now_days)), (h_this_now_seconds, .inl (cI, 8, .inl f_this_now_seconds)), cl_X3 h_this_told h_this_told_numbers i_this_told, (h_this_told_numbers, .inl (cJ, 8, .inr (.inl f_this_told_numbers)))] → va_S A s.heap H locs → W p l e (kR 3 62) s m args below meth c H locs 0 0 Q (F0 m 43 ls []) := by
        intro n_43
        induction n_43 with
        | zero =>
          intro v1 v2 v3 v4 i_this_told f_this_told_numbers ls H locs h hl hP hD hS
          rw [fX9_ranked_l43_0] at h; cases h
        | succ n_43 ih_43 =>
          have JN_87 : ∀ (v1 : Int32) (v2 : Int32) (v3 : Int32) (v4 : Int32) (t0 : Int64) (i_this_told : Int32) (f_this_told_numbers : Nat → Int64) (ls : Array Slot) (H : Heap) (locs : List Loc), (fX9_ranked_j87 N i_this f_this_now_day f_this_now_second f_this_now_months f_this_now_days f_this_now_seconds (fX9_ranked_l32 N i_this f_this_now_day f_this_now_second f_this_now_months f_this_now_days f_this_now_seconds n_32) (fX9_ranked_l43 N i_this f_this_now_day f_this_now_second f_this_now_months f_this_now_days f_this_now_seconds (fX9_ranked_l32 N i_this f_this_now_day f_this_now_second f_this_now_months f_this_now_days f_this_now_seconds n_32) n_43)) v1 v2 v3 v4 t0 i_this_told f_this_told_numbers = some (r, o_i_this_told, o_f_this_told_numbers) → lv_has ls 7 [(0, .ref h_this), (1, .int v1), (2, .int v2), (3, .int v3), (4, .int v4)] → va_P (dC, dI) vwCl [cl_X9 h_this h_this_now h_this_kept h_this_told h_this_text h_this_script h_this_momentReader h_this_spanReader h_this_adder h_this_other h_this_trial h_this_ways i_this, cl_X4 h_this_now h_this_now_day h_this_now_second h_this_now_months h_this_now_days h_this_now_seconds, (h_this_now_day, .inl (cI, 8, .inl f_this_now_day)), (h_this_now_second, .inl (cI, 8, .inl f_this_now_second)), (h_this_now_months, .inl (cI, 8, .inl f_this_now_months)), (h_this_now_days, .inl (cI, 8, .inl f_this_now_days)), (h_this_now_seconds, .inl (cI, 8, .inl f_this_now_seconds)), cl_X3 h_this_told h_this_told_numbers i_this_told, (h_this_told_numbers, .inl (cJ, 8, .inr (.inl f_this_told_numbers)))] H → va_D A [cl_X9 h_this h_this_now h_this_kept h_this_told h_this_text h_this_script h_this_momentReader h_this_spanReader h_this_adder h_this_other h_this_trial h_this_ways i_this, cl_X4 h_this_now h_this_now_day h_this_now_second h_this_now_months h_this_now_days h_this_now_seconds, (h_this_now_day, .inl (cI, 8, .inl f_this_now_day)), (h_this_now_second, .inl (cI, 8, .inl f_this_now_second)), (h_this_now_months, .inl (cI, 8, .inl f_this_now_months)), (h_this_now_days, .inl (cI, 8, .inl f_this_now_days)), (h_this_now_seconds, .inl (cI, 8, .inl f_this_now_seconds)), cl_X3 h_this_told h_this_told_numbers i_this_told, (h_this_told_numbers, .inl (cJ, 8, .inr (.inl f_this_told_numbers)))] → va_S A s.heap H locs → W p l e (kR 3 62) s m args below meth c H locs 0 0 Q (F0 m 87 ls [.long t0]) := by
            intro v1 v2 v3 v4 t0 i_this_told f_this_told_numbers ls H locs h hl hP hD hS
            unfold fX9_ranked_j87 at h
            refine lv_lstore (lv' := [(5, .long t0), (0, .ref h_this), (1, .int v1), (2, .int v2), (3, .int v3), (4, .int v4)]) hx hb dX9_ranked_87 hl (by decide) rfl (fun ls hl => ?_)
            refine lv_lload hx hb dX9_ranked_89 (lv_at hl 0 rfl) ?_
            refine lv_lconst (v := (0 : Int64)) hx hb dX9_ranked_91 (by decide) ?_
            refine W.lcmp hx hb dX9_ranked_92 ?_
            refine lv_if_lt (tgt := 109) hx hb dX9_ranked_93 (by decide) (fun c1 => ?_) (fun c1 => ?_)
            · have h := ite_t c1 h
              obtain ⟨z2, ez2⟩ : ∃ y : Int32, y = (v3 + (1 : Int32)) := ⟨_, rfl⟩
              have h := nm_at ez2 h
              refine lv_iinc (v := z2) (lv' := [(3, .int z2), (5, .long t0), (0, .ref h_this), (1, .int v1), (2, .int v2), (4, .int v4)]) hx hb dX9_ranked_109 hl (k := 4) rfl (by rw [ez2]; rfl) (by decide) rfl (fun ls hl => ?_)
              obtain ⟨z3, ez3⟩ : ∃ y : Int32, y = (v4 + (1 : Int32)) := ⟨_, rfl⟩
              have h := nm_at ez3 h
              refine lv_iinc (v := z3) (lv' := [(4, .int z3), (3, .int z2), (5, .long t0), (0, .ref h_this), (1, .int v1), (2, .int v2)]) hx hb dX9_ranked_112 hl (k := 5) rfl (by rw [ez3]; rfl) (by decide) rfl (fun ls hl => ?_)
              refine lv_goto (tgt := 43) hx hb dX9_ranked_115 (by decide) ?_
              exact ih_43 _ _ _ _ _ _ _ _ _ h (lv_sub hl [3, 4, 5, 1, 0] rfl) hP hD hS
            have h := ite_f c1 h
            refine lv_lload hx hb dX9_ranked_96 (lv_at hl 0 rfl) ?_
            refine lv_lconst (v := (0 : Int64)) hx hb dX9_ranked_98 (by decide) ?_
            refine W.lcmp hx hb dX9_ranked_99 ?_
            refine lv_if_ne (tgt := 112) hx hb dX9_ranked_100 (by decide) (fun c4 => ?_) (fun c4 => ?_)
            · have h := ite_f c4 h
              obtain ⟨z5, ez5⟩ : ∃ y : Int32, y = (v4 + (1 : Int32)) := ⟨_, rfl⟩
              have h := nm_at ez5 h
              refine lv_iinc (v := z5) (lv' := [(4, .int z5), (5, .long t0), (0, .ref h_this), (1, .int v1), (2, .int v2), (3, .int v3)]) hx hb dX9_ranked_112 hl (k := 5) rfl (by rw [ez5]; rfl) (by decide) rfl (fun ls hl => ?_)
              refine lv_goto (tgt := 43) hx hb dX9_ranked_115 (by decide) ?_
              exact ih_43 _ _ _ _ _ _ _ _ _ h (lv_sub hl [2, 3, 4, 5, 0] rfl) hP hD hS
            have h := ite_t c4 h
            refine lv_iload hx hb dX9_ranked_103 (lv_at hl 5 rfl) ?_
            refine lv_iload_n hx hb dX9_ranked_105 rfl (lv_at hl 3 rfl) ?_
            refine lv_icmp_ge (tgt := 112) hx hb dX9_ranked_106 (by decide) (fun c6 => ?_) (fun c6 => ?_)
            · have h := ite_t c6 h
              obtain ⟨z7, ez7⟩ : ∃ y : Int32, y = (v4 + (1 : Int32)) := ⟨_, rfl⟩
              have h := nm_at ez7 h
              refine lv_iinc (v := z7) (lv' := [(4, .int z7), (5, .long t0), (0, .ref h_this), (1, .int v1), (2, .int v2), (3, .int v3)]) hx hb dX9_ranked_112 hl (k := 5) rfl (by rw [ez7]; rfl) (by decide) rfl (fun ls hl => ?_)
              refine lv_goto (tgt := 43) hx hb dX9_ranked_115 (by decide) ?_
              exact ih_43 _ _ _ _ _ _ _ _ _ h (lv_sub hl [2, 3, 4, 5, 0] rfl) hP hD hS
            have h := ite_f c6 h
            obtain ⟨z8, ez8⟩ : ∃ y : Int32, y = (v3 + (1 : Int32)) := ⟨_, rfl⟩
            have h := nm_at ez8 h
            refine lv_iinc (v := z8) (lv' := [(3, .int z8), (5, .long t0), (0, .ref h_this), (1, .int v1), (2, .int v2), (4, .int v4)]) hx hb dX9_ranked_109 hl (k := 4) rfl (by rw [ez8]; rfl) (by decide) rfl (fun ls hl => ?_)
            obtain ⟨z9, ez9⟩ : ∃ y : Int32, y = (v4 + (1 : Int32)) := ⟨_, rfl⟩
            have h := nm_at ez9 h
            refine lv_iinc (v := z9) (lv' := [(4, .int z9), (3, .int z8), (5, .long t0), (0, .ref h_this), (1, .int v1), (2, .int v2)]) hx hb dX9_ranked_112 hl (k := 5) rfl (by rw [ez9]; rfl) (by decide) rfl (fun ls hl => ?_)
            refine lv_goto (tgt := 43) hx hb dX9_ranked_115 (by decide) ?_
            exact ih_43 _ _ _ _ _ _ _ _ _ h (lv_sub hl [3, 4, 5, 1, 0] rfl) hP hD hS
          intro v1 v2 v3 v4 i_this_told f_this_told_numbers ls H locs h hl hP hD hS
          rw [fX9_ranked_l43_s] at h
          refine lv_iload hx hb dX9_ranked_43 (lv_at hl 4 rfl) ?_
          refine lv_bipush (v := (8 : Int32)) hx hb dX9_ranked_45 (by decide) ?_
          refine lv_icmp_ge (tgt := 118) hx hb dX9_ranked_47 (by decide) (fun c10 => ?_) (fun c10 => ?_)
          · have h := ite_t c10 h
            refine lv_aload_n hx hb dX9_ranked_118 rfl (lv_at hl 0 rfl) ?_
            refine va_get (D := (dC, dI)) (ci := 8) (v := .ref h_this_told) (C := RX9) (T := TX9) (N := 12) hx hb hts inX9 hown hK hP 0 rfl rfl 3 (by decide) (hts _ (kq q_295 rfl)) (fun _ h9 => h9) rfl dX9_ranked_119 ?_
            refine lv_iload_n hx hb dX9_ranked_122 rfl (lv_at hl 3 rfl) ?_
            refine lv_iload_n hx hb dX9_ranked_123 rfl (lv_at hl 2 rfl) ?_
            refine lv_i2l hx hb dX9_ranked_124 rfl ?_
            obtain ⟨f_this_told_numbers_11, hc12, h⟩ := bd1_at h
            refine kjV (kV (own := "DateSpans") (C := "DateSpans$Row") (b := h_this_told) (As := [.int v3, .long v2.toInt64]) (rest := []) ⟨hx, hb, hml, hown, hts⟩ (kX3_put l dC dI cI cJ cB h_this_told h_this_told_numbers N v3 v2.toInt64 i_this_told f_this_told_numbers f_this_told_numbers_11 hc12 _) (kgV (kq q_667 rfl) (kq q_668 rfl) (kq q_669 rfl) (kq q_59 rfl) (kq q_670 rfl)) yd_X3_put ⟨Nat.le_of_ble_eq_true rfl, Nat.le_of_ble_eq_true rfl⟩ hN hK hP hD [7, 8] rfl rfl (ci := 2) rfl rfl rfl rfl rfl hl.1 rfl (lv_room (Nat.le_of_ble_eq_true rfl)) dX9_ranked_125) hP hD hS hA [7, 8] rfl rfl (fun H locs hP hD hS => ?_)
            have hP : va_P (dC, dI) vwCl [cl_X9 h_this h_this_now h_this_kept h_this_told h_this_text h_this_script h_this_momentReader h_this_spanReader h_this_adder h_this_other h_this_trial h_this_ways i_this, cl_X4 h_this_now h_this_now_day h_this_now_second h_this_now_months h_this_now_days h_this_now_seconds, (h_this_now_day, .inl (cI, 8, .inl f_this_now_day)), (h_this_now_second, .inl (cI, 8, .inl f_this_now_second)), (h_this_now_months, .inl (cI, 8, .inl f_this_now_months)), (h_this_now_days, .inl (cI, 8, .inl f_this_now_days)), (h_this_now_seconds, .inl (cI, 8, .inl f_this_now_seconds)), cl_X3 h_this_told h_this_told_numbers i_this_told, (h_this_told_numbers, .inl (cJ, 8, .inr (.inl f_this_told_numbers_11)))] H := hP
            have hD : va_D A [cl_X9 h_this h_this_now h_this_kept h_this_told h_this_text h_this_script h_this_momentReader h_this_spanReader h_this_adder h_this_other h_this_trial h_this_ways i_this, cl_X4 h_this_now h_this_now_day h_this_now_second h_this_now_months h_this_now_days h_this_now_seconds, (h_this_now_day, .inl (cI, 8, .inl f_this_now_day)), (h_this_now_second, .inl (cI, 8, .inl f_this_now_second)), (h_this_now_months, .inl (cI, 8, .inl f_this_now_months)), (h_this_now_days, .inl (cI, 8, .inl f_this_now_days)), (h_this_now_seconds, .inl (cI, 8, .inl f_this_now_seconds)), cl_X3 h_this_told h_this_told_numbers i_this_told, (h_this_told_numbers, .inl (cJ, 8, .inr (.inl f_this_told_numbers_11)))] := hD
            obtain ⟨z13, ez13⟩ : ∃ y : Int32, y = (v2 + (1 : Int32)) := ⟨_, rfl⟩
            have h := nm_at ez13 h
            refine lv_iinc (v := z13) (lv' := [(2, .int z13), (0, .ref h_this), (1, .int v1), (3, .int v3), (4, .int v4)]) hx hb dX9_ranked_128 hl (k := 2) rfl (by rw [ez13]; rfl) (by decide) rfl (fun ls hl => ?_)
            refine lv_goto (tgt := 32) hx hb dX9_ranked_131 (by decide) ?_
            exact ih_32 _ _ _ _ _ _ _ h (lv_sub hl [1, 2, 0] rfl) hP hD hS
          have h := ite_f c10 h
          refine lv_iload_n hx hb dX9_ranked_50 rfl (lv_at hl 1 rfl) ?_
          refine lv_if_eq (tgt := 69) hx hb dX9_ranked_51 (by decide) (fun c14 => ?_) (fun c14 => ?_)
          · have h := ite_t c14 h
            refine lv_aload_n hx hb dX9_ranked_69 rfl (lv_at hl 0 rfl) ?_
            refine va_get (D := (dC, dI)) (ci := 8) (v := .ref h_this_now) (C := RX9) (T := TX9) (N := 12) hx hb hts inX9 hown hK hP 0 rfl rfl 0 (by decide) (hts _ (kq q_292 rfl)) (fun _ h9 => h9) rfl dX9_ranked_70 ?_
            refine lv_iload hx hb dX9_ranked_73 (lv_at hl 4 rfl) ?_
            obtain ⟨r15, hc16, h⟩ := bd1_at h
            refine kjL (kV (own := "DateSpans") (C := "DateSpans$Slots") (b := h_this_now) (As := [.int v4]) (rest := []) ⟨hx, hb, hml, hown, hts⟩ (kX4_instantAt l dC dI cI cJ cB h_this_now h_this_now_day h_this_now_second h_this_now_months h_this_now_days h_this_now_seconds N v4 f_this_now_day f_this_now_second r15 hc16 _) (kgV (kq q_618 rfl) (kq q_619 rfl) (kq q_620 rfl) (kq q_58 rfl) (kq q_621 rfl)) yd_X4_instantAt ⟨Nat.le_of_ble_eq_true rfl, Nat.le_of_ble_eq_true rfl⟩ hN hK hP hD [1, 2, 3] rfl rfl (ci := 3) rfl rfl rfl rfl rfl hl.1 rfl (lv_room (Nat.le_of_ble_eq_true rfl)) dX9_ranked_75) hP hD hS hA [1, 2, 3] rfl rfl (fun H locs hP hD hS => ?_)
            have hP : va_P (dC, dI) vwCl [cl_X9 h_this h_this_now h_this_kept h_this_told h_this_text h_this_script h_this_momentReader h_this_spanReader h_this_adder h_this_other h_this_trial h_this_ways i_this, cl_X4 h_this_now h_this_now_day h_this_now_second h_this_now_months h_this_now_days h_this_now_seconds, (h_this_now_day, .inl (cI, 8, .inl f_this_now_day)), (h_this_now_second, .inl (cI, 8, .inl f_this_now_second)), (h_this_now_months, .inl (cI, 8, .inl f_this_now_months)), (h_this_now_days, .inl (cI, 8, .inl f_this_now_days)), (h_this_now_seconds, .inl (cI, 8, .inl f_this_now_seconds)), cl_X3 h_this_told h_this_told_numbers i_this_told, (h_this_told_numbers, .inl (cJ, 8, .inr (.inl f_this_told_numbers)))] H := hP
            have hD : va_D A [cl_X9 h_this h_this_now h_this_kept h_this_told h_this_text h_this_script h_this_momentReader h_this_spanReader h_this_adder h_this_other h_this_trial h_this_ways i_this, cl_X4 h_this_now h_this_now_day h_this_now_second h_this_now_months h_this_now_days h_this_now_seconds, (h_this_now_day, .inl (cI, 8, .inl f_this_now_day)), (h_this_now_second, .inl (cI, 8, .inl f_this_now_second)), (h_this_now_months, .inl (cI, 8, .inl f_this_now_months)), (h_this_now_days, .inl (cI, 8, .inl f_this_now_days)), (h_this_now_seconds, .inl (cI, 8, .inl f_this_now_seconds)), cl_X3 h_this_told h_this_told_numbers i_this_told, (h_this_told_numbers, .inl (cJ, 8, .inr (.inl f_this_told_numbers)))] := hD
            refine lv_aload_n hx hb dX9_ranked_78 rfl (lv_at hl 0 rfl) ?_
            refine va_get (D := (dC, dI)) (ci := 8) (v := .ref h_this_now) (C := RX9) (T := TX9) (N := 12) hx hb hts inX9 hown hK hP 0 rfl rfl 0 (by decide) (hts _ (kq q_292 rfl)) (fun _ h9 => h9) rfl dX9_ranked_79 ?_
            refine lv_iload_n hx hb dX9_ranked_82 rfl (lv_at hl 2 rfl) ?_
            obtain ⟨r17, hc18, h⟩ := bd1_at h
            refine kjL (kV (own := "DateSpans") (C := "DateSpans$Slots") (b := h_this_now) (As := [.int v2]) (rest := [.long r15]) ⟨hx, hb, hml, hown, hts⟩ (kX4_instantAt l dC dI cI cJ cB h_this_now h_this_now_day h_this_now_second h_this_now_months h_this_now_days h_this_now_seconds N v2 f_this_now_day f_this_now_second r17 hc18 _) (kgV (kq q_618 rfl) (kq q_619 rfl) (kq q_620 rfl) (kq q_58 rfl) (kq q_621 rfl)) yd_X4_instantAt ⟨Nat.le_of_ble_eq_true rfl, Nat.le_of_ble_eq_true rfl⟩ hN hK hP hD [1, 2, 3] rfl rfl (ci := 3) rfl rfl rfl rfl rfl hl.1 rfl (lv_room (Nat.le_of_ble_eq_true rfl)) dX9_ranked_83) hP hD hS hA [1, 2, 3] rfl rfl (fun H locs hP hD hS => ?_)
            have hP : va_P (dC, dI) vwCl [cl_X9 h_this h_this_now h_this_kept h_this_told h_this_text h_this_script h_this_momentReader h_this_spanReader h_this_adder h_this_other h_this_trial h_this_ways i_this, cl_X4 h_this_now h_this_now_day h_this_now_second h_this_now_months h_this_now_days h_this_now_seconds, (h_this_now_day, .inl (cI, 8, .inl f_this_now_day)), (h_this_now_second, .inl (cI, 8, .inl f_this_now_second)), (h_this_now_months, .inl (cI, 8, .inl f_this_now_months)), (h_this_now_days, .inl (cI, 8, .inl f_this_now_days)), (h_this_now_seconds, .inl (cI, 8, .inl f_this_now_seconds)), cl_X3 h_this_told h_this_told_numbers i_this_told, (h_this_told_numbers, .inl (cJ, 8, .inr (.inl f_this_told_numbers)))] H := hP
            have hD : va_D A [cl_X9 h_this h_this_now h_this_kept h_this_told h_this_text h_this_script h_this_momentReader h_this_spanReader h_this_adder h_this_other h_this_trial h_this_ways i_this, cl_X4 h_this_now h_this_now_day h_this_now_second h_this_now_months h_this_now_days h_this_now_seconds, (h_this_now_day, .inl (cI, 8, .inl f_this_now_day)), (h_this_now_second, .inl (cI, 8, .inl f_this_now_second)), (h_this_now_months, .inl (cI, 8, .inl f_this_now_months)), (h_this_now_days, .inl (cI, 8, .inl f_this_now_days)), (h_this_now_seconds, .inl (cI, 8, .inl f_this_now_seconds)), cl_X3 h_this_told h_this_told_numbers i_this_told, (h_this_told_numbers, .inl (cJ, 8, .inr (.inl f_this_told_numbers)))] := hD
            refine lv_lsub hx hb dX9_ranked_86 ?_
            exact JN_87 _ _ _ _ _ _ _ _ _ _ h (lv_sub hl [0, 1, 2, 3, 4] rfl) hP hD hS
          have h := ite_f c14 h
          refine lv_aload_n hx hb dX9_ranked_54 rfl (lv_at hl 0 rfl) ?_
          refine lv_iload hx hb dX9_ranked_55 (lv_at hl 4 rfl) ?_
          obtain ⟨r19, hc20, h⟩ := bd1_at h
          refine kjL (kV (own := "DateSpans") (C := "DateSpans") (b := h_this) (As := [.int v4]) (rest := []) ⟨hx, hb, hml, hown, hts⟩ (kX9_lengthOf l dC dI cI cJ cB h_this h_this_now h_this_kept h_this_told h_this_text h_this_script h_this_momentReader h_this_spanReader h_this_adder h_this_other h_this_trial h_this_ways h_this_now_day h_this_now_second h_this_now_months h_this_now_days h_this_now_seconds N v4 i_this f_this_now_months f_this_now_days f_this_now_seconds r19 hc20 _) (kgV (kq q_810 rfl) (kq q_812 rfl) (kq q_14 rfl) (kq q_57 rfl) (kq q_813 rfl)) yd_X9_lengthOf ⟨Nat.le_of_ble_eq_true rfl, Nat.le_of_ble_eq_true rfl⟩ hN hK hP hD [0, 1, 4, 5, 6] rfl rfl (ci := 8) rfl rfl rfl rfl rfl hl.1 rfl (lv_room (Nat.le_of_ble_eq_true rfl)) dX9_ranked_57) hP hD hS hA [0, 1, 4, 5, 6] rfl rfl (fun H locs hP hD hS => ?_)
          have hP : va_P (dC, dI) vwCl [cl_X9 h_this h_this_now h_this_kept h_this_told h_this_text h_this_script h_this_momentReader h_this_spanReader h_this_adder h_this_other h_this_trial h_this_ways i_this, cl_X4 h_this_now h_this_now_day h_this_now_second h_this_now_months h_this_now_days h_this_now_seconds, (h_this_now_day, .inl (cI, 8, .inl f_this_now_day)), (h_this_now_second, .inl (cI, 8, .inl f_this_now_second)), (h_this_now_months, .inl (cI, 8, .inl f_this_now_months)), (h_this_now_days, .inl (cI, 8, .inl f_this_now_days)), (h_this_now_seconds, .inl (cI, 8, .inl f_this_now_seconds)), cl_X3 h_this_told h_this_told_numbers i_this_told, (h_this_told_numbers, .inl (cJ, 8, .inr (.inl f_this_told_numbers)))] H := hP
          have hD : va_D A [cl_X9 h_this h_this_now h_this_kept h_this_told h_this_text h_this_script h_this_momentReader h_this_spanReader h_this_adder h_this_other h_this_trial h_this_ways i_this, cl_X4 h_this_now h_this_now_day h_this_now_second h_this_now_months h_this_now_days h_this_now_seconds, (h_this_now_day, .inl (cI, 8, .inl f_this_now_day)), (h_this_now_second, .inl (cI, 8, .inl f_this_now_second)), (h_this_now_months, .inl (cI, 8, .inl f_this_now_months)), (h_this_now_days, .inl (cI, 8, .inl f_this_now_days)), (h_this_now_seconds, .inl (cI, 8, .inl f_this_now_seconds)), cl_X3 h_this_told h_this_told_numbers i_this_told, (h_this_told_numbers, .inl (cJ, 8, .inr (.inl f_this_told_numbers)))] := hD
          refine lv_aload_n hx hb dX9_ranked_60 rfl (lv_at hl 0 rfl) ?_
          refine lv_iload_n hx hb dX9_ranked_61 rfl (lv_at hl 2 rfl) ?_
          obtain ⟨r21, hc22, h⟩ := bd1_at h
          refine kjL (kV (own := "DateSpans") (C := "DateSpans") (b := h_this) (As := [.int v2]) (rest := [.long r19]) ⟨hx, hb, hml, hown, hts⟩ (kX9_lengthOf l dC dI cI cJ cB h_this h_this_now h_this_kept h_this_told h_this_text h_this_script h_this_momentReader h_this_spanReader h_this_adder h_this_other h_this_trial h_this_ways h_this_now_day h_this_now_second h_this_now_months h_this_now_days h_this_now_seconds N v2 i_this f_this_now_months f_this_now_days f_this_now_seconds r21 hc22 _) (kgV (kq q_810 rfl) (kq q_812 rfl) (kq q_14 rfl) (kq q_57 rfl) (kq q_813 rfl)) yd_X9_lengthOf ⟨Nat.le_of_ble_eq_true rfl, Nat.le_of_ble_eq_true rfl⟩ hN hK hP hD [0, 1, 4, 5, 6] rfl rfl (ci := 8) rfl rfl rfl rfl rfl hl.1 rfl (lv_room (Nat.le_of_ble_eq_true rfl)) dX9_ranked_62) hP hD hS hA [0, 1, 4, 5, 6] rfl rfl (fun H locs hP hD hS => ?_)
          have hP : va_P (dC, dI) vwCl [cl_X9 h_this h_this_now h_this_kept h_this_told h_this_text h_this_script h_this_momentReader h_this_spanReader h_this_adder h_this_other h_this_trial h_this_ways i_this, cl_X4 h_this_now h_this_now_day h_this_now_second h_this_now_months h_this_now_days h_this_now_seconds, (h_this_now_day, .inl (cI, 8, .inl f_this_now_day)), (h_this_now_second, .inl (cI, 8, .inl f_this_now_second)), (h_this_now_months, .inl (cI, 8, .inl f_this_now_months)), (h_this_now_days, .inl (cI, 8, .inl f_this_now_days)), (h_this_now_seconds, .inl (cI, 8, .inl f_this_now_seconds)), cl_X3 h_this_told h_this_told_numbers i_this_told, (h_this_told_numbers, .inl (cJ, 8, .inr (.inl f_this_told_numbers)))] H := hP
          have hD : va_D A [cl_X9 h_this h_this_now h_this_kept h_this_told h_this_text h_this_script h_this_momentReader h_this_spanReader h_this_adder h_this_other h_this_trial h_this_ways i_this, cl_X4 h_this_now h_this_now_day h_this_now_second h_this_now_months h_this_now_days h_this_now_seconds, (h_this_now_day, .inl (cI, 8, .inl f_this_now_day)), (h_this_now_second, .inl (cI, 8, .inl f_this_now_second)), (h_this_now_months, .inl (cI, 8, .inl f_this_now_months)), (h_this_now_days, .inl (cI, 8, .inl f_this_now_days)), (h_this_now_seconds, .inl (cI, 8, .inl f_this_now_seconds)), cl_X3 h_this_told h_this_told_numbers i_this_told, (h_this_told_numbers, .inl (cJ, 8, .inr (.inl f_this_told_numbers)))] := hD
          refine lv_lsub hx hb dX9_ranked_65 ?_
          refine lv_goto (tgt := 87) hx hb dX9_ranked_66 (by decide) ?_
          exact JN_87 _ _ _ _ _ _ _ _ _ _ h (lv_sub hl [0, 1, 2, 3, 4] rfl) hP hD hS
      intro v1 v2 i_this_told f_this_told_numbers ls H locs h hl hP hD hS
      rw [fX9_ranked_l32_s] at h
      refine lv_iload_n hx hb dX9_ranked_32 rfl (lv_at hl 2 rfl) ?_
      refine lv_bipush (v := (8 : Int32)) hx hb dX9_ranked_33 (by decide) ?_
      refine lv_icmp_ge (tgt := 134) hx hb dX9_ranked_35 (by decide) (fun c23 => ?_) (fun c23 => ?_)
      · have h := ite_t c23 h
        refine lv_aload_n hx hb dX9_ranked_134 rfl (lv_at hl 0 rfl) ?_
        refine va_get (D := (dC, dI)) (ci := 8) (v := .ref h_this_told) (C := RX9) (T := TX9) (N := 12) hx hb hts inX9 hown hK hP 0 rfl rfl 3 (by decide) (hts _ (kq q_295 rfl)) (fun _ h9 => h9) rfl dX9_ranked_135 ?_
        refine lv_iconst (v := (0 : Int32)) hx hb dX9_ranked_138 (by decide) ?_
        obtain ⟨r24, hc25, h⟩ := bd1_at h
        refine kjL (kV (own := "DateSpans") (C := "DateSpans$Row") (b := h_this_told) (As := [.int (0 : Int32)]) (rest := []) ⟨hx, hb, hml, hown, hts⟩ (kX3_at l dC dI cI cJ cB h_this_told h_this_told_numbers N (0 : Int32) i_this_told f_this_told_numbers r24 hc25 _) (kgV (kq q_663 rfl) (kq q_664 rfl) (kq q_665 rfl) (kq q_59 rfl) (kq q_666 rfl)) yd_X3_at ⟨Nat.le_of_ble_eq_true rfl, Nat.le_of_ble_eq_true rfl⟩ hN hK hP hD [7, 8] rfl rfl (ci := 2) rfl rfl rfl rfl rfl hl.1 rfl (lv_room (Nat.le_of_ble_eq_true rfl)) dX9_ranked_139) hP hD hS hA [7, 8] rfl rfl (fun H locs hP hD hS => ?_)
        have hP : va_P (dC, dI) vwCl [cl_X9 h_this h_this_now h_this_kept h_this_told h_this_text h_this_script h_this_momentReader h_this_spanReader h_this_adder h_this_other h_this_trial h_this_ways i_this, cl_X4 h_this_now h_this_now_day h_this_now_second h_this_now_months h_this_now_days h_this_now_seconds, (h_this_now_day, .inl (cI, 8, .inl f_this_now_day)), (h_this_now_second, .inl (cI, 8, .inl f_this_now_second)), (h_this_now_months, .inl (cI, 8, .inl f_this_now_months)), (h_this_now_days, .inl (cI, 8, .inl f_this_now_days)), (h_this_now_seconds, .inl (cI, 8, .inl f_this_now_seconds)), cl_X3 h_this_told h_this_told_numbers i_this_told, (h_this_told_numbers, .inl (cJ, 8, .inr (.inl f_this_told_numbers)))] H := hP
        have hD : va_D A [cl_X9 h_this h_this_now h_this_kept h_this_told h_this_text h_this_script h_this_momentReader h_this_spanReader h_this_adder h_this_other h_this_trial h_this_ways i_this, cl_X4 h_this_now h_this_now_day h_this_now_second h_this_now_months h_this_now_days h_this_now_seconds, (h_this_now_day, .inl (cI, 8, .inl f_this_now_day)), (h_this_now_second, .inl (cI, 8, .inl f_this_now_second)), (h_this_now_months, .inl (cI, 8, .inl f_this_now_months)), (h_this_now_days, .inl (cI, 8, .inl f_this_now_days)), (h_this_now_seconds, .inl (cI, 8, .inl f_this_now_seconds)), cl_X3 h_this_told h_this_told_numbers i_this_told, (h_this_told_numbers, .inl (cJ, 8, .inr (.inl f_this_told_numbers)))] := hD
        refine lv_l2i hx hb dX9_ranked_142 rfl ?_
        obtain ⟨rfl, rfl, rfl⟩ := pj3 h
        exact hEnd _ _ _ _ hP hS dX9_ranked_143 rfl
      have h := ite_f c23 h
      refine lv_iconst (v := (0 : Int32)) hx hb dX9_ranked_38 (by decide) ?_
      refine lv_istore_n (lv' := [(3, .int (0 : Int32)), (0, .ref h_this), (1, .int v1), (2, .int v2)]) hx hb dX9_ranked_39 rfl hl (by decide) rfl (fun ls hl => ?_)
      refine lv_iconst (v := (0 : Int32)) hx hb dX9_ranked_40 (by decide) ?_
      refine lv_istore (lv' := [(4, .int (0 : Int32)), (3, .int (0 : Int32)), (0, .ref h_this), (1, .int v1), (2, .int v2)]) hx hb dX9_ranked_41 hl (by decide) rfl (fun ls hl => ?_)
      exact LP_43 N _ _ _ _ _ _ _ _ _ h (lv_sub hl [2, 3, 4, 1, 0] rfl) hP hD hS
  have LP_9 : ∀ n_9 : Nat, ∀ (v1 : Int32) (v2 : Int32) (i_this_told : Int32) (f_this_told_numbers : Nat → Int64) (ls : Array Slot) (H : Heap) (locs : List Loc), fX9_ranked_l9 N i_this f_this_now_day f_this_now_second f_this_now_months f_this_now_days f_this_now_seconds n_9 v1 v2 i_this_told f_this_told_numbers = some (r, o_i_this_told, o_f_this_told_numbers) → lv_has ls 7 [(0, .ref h_this), (1, .int v1), (2, .int v2)] → va_P (dC, dI) vwCl [cl_X9 h_this h_this_now h_this_kept h_this_told h_this_text h_this_script h_this_momentReader h_this_spanReader h_this_adder h_this_other h_this_trial h_this_ways i_this, cl_X4 h_this_now h_this_now_day h_this_now_second h_this_now_months h_this_now_days h_this_now_seconds, (h_this_now_day, .inl (cI, 8, .inl f_this_now_day)), (h_this_now_second, .inl (cI, 8, .inl f_this_now_second)), (h_this_now_months, .inl (cI, 8, .inl f_this_now_months)), (h_this_now_days, .inl (cI, 8, .inl f_this_now_days)), (h_this_now_seconds, .inl (cI, 8, .inl f_this_now_seconds)), cl_X3 h_this_told h_this_told_numbers i_this_told, (h_this_told_numbers, .inl (cJ, 8, .inr (.inl f_this_told_numbers)))] H → va_D A [cl_X9 h_this h_this_now h_this_kept h_this_told h_this_text h_this_script h_this_momentReader h_this_spanReader h_this_adder h_this_other h_this_trial h_this_ways i_this, cl_X4 h_this_now h_this_now_day h_this_now_second h_this_now_months h_this_now_days h_this_now_seconds, (h_this_now_day, .inl (cI, 8, .inl f_this_now_day)), (h_this_now_second, .inl (cI, 8, .inl f_this_now_second)), (h_this_now_months, .inl (cI, 8, .inl f_this_now_months)), (h_this_now_days, .inl (cI, 8, .inl f_this_now_days)), (h_this_now_seconds, .inl (cI, 8, .inl f_this_now_seconds)), cl_X3 h_this_told h_this_told_numbers i_this_told, (h_this_told_numbers, .inl (cJ, 8, .inr (.inl f_this_told_numbers)))] → va_S A s.heap H locs → W p l e (kR 3 62) s m args below meth c H locs 0 0 Q (F0 m 9 ls []) := by
    intro n_9
    induction n_9 with
    | zero =>
      intro v1 v2 i_this_told f_this_told_numbers ls H locs h hl hP hD hS
      rw [fX9_ranked_l9_0] at h; cases h
    | succ n_9 ih_9 =>
      intro v1 v2 i_this_told f_this_told_numbers ls H locs h hl hP hD hS
      rw [fX9_ranked_l9_s] at h
      refine lv_iload_n hx hb dX9_ranked_9 rfl (lv_at hl 2 rfl) ?_
      refine lv_bipush (v := (8 : Int32)) hx hb dX9_ranked_10 (by decide) ?_
      refine lv_icmp_ge (tgt := 30) hx hb dX9_ranked_12 (by decide) (fun c26 => ?_) (fun c26 => ?_)
      · have h := ite_t c26 h
        refine lv_iconst (v := (0 : Int32)) hx hb dX9_ranked_30 (by decide) ?_
        refine lv_istore_n (lv' := [(2, .int (0 : Int32)), (0, .ref h_this), (1, .int v1)]) hx hb dX9_ranked_31 rfl hl (by decide) rfl (fun ls hl => ?_)
        exact LP_32 N _ _ _ _ _ _ _ h (lv_sub hl [1, 2, 0] rfl) hP hD hS
      have h := ite_f c26 h
      refine lv_aload_n hx hb dX9_ranked_15 rfl (lv_at hl 0 rfl) ?_
      refine va_get (D := (dC, dI)) (ci := 8) (v := .ref h_this_told) (C := RX9) (T := TX9) (N := 12) hx hb hts inX9 hown hK hP 0 rfl rfl 3 (by decide) (hts _ (kq q_295 rfl)) (fun _ h9 => h9) rfl dX9_ranked_16 ?_
      refine lv_iload_n hx hb dX9_ranked_19 rfl (lv_at hl 2 rfl) ?_
      refine lv_i2l hx hb dX9_ranked_20 rfl ?_
      obtain ⟨i_this_told_27, f_this_told_numbers_28, hc29, h⟩ := bd2_at h
      refine kjV (kV (own := "DateSpans") (C := "DateSpans$Row") (b := h_this_told) (As := [.long v2.toInt64]) (rest := []) ⟨hx, hb, hml, hown, hts⟩ (kX3_push l dC dI cI cJ cB h_this_told h_this_told_numbers N v2.toInt64 i_this_told f_this_told_numbers i_this_told_27 f_this_told_numbers_28 hc29 _) (kgV (kq q_640 rfl) (kq q_458 rfl) (kq q_459 rfl) (kq q_59 rfl) (kq q_460 rfl)) yd_X3_push ⟨Nat.le_of_ble_eq_true rfl, Nat.le_of_ble_eq_true rfl⟩ hN hK hP hD [7, 8] rfl rfl (ci := 2) rfl rfl rfl rfl rfl hl.1 rfl (lv_room (Nat.le_of_ble_eq_true rfl)) dX9_ranked_21) hP hD hS hA [7, 8] rfl rfl (fun H locs hP hD hS => ?_)
      have hP : va_P (dC, dI) vwCl [cl_X9 h_this h_this_now h_this_kept h_this_told h_this_text h_this_script h_this_momentReader h_this_spanReader h_this_adder h_this_other h_this_trial h_this_ways i_this, cl_X4 h_this_now h_this_now_day h_this_now_second h_this_now_months h_this_now_days h_this_now_seconds, (h_this_now_day, .inl (cI, 8, .inl f_this_now_day)), (h_this_now_second, .inl (cI, 8, .inl f_this_now_second)), (h_this_now_months, .inl (cI, 8, .inl f_this_now_months)), (h_this_now_days, .inl (cI, 8, .inl f_this_now_days)), (h_this_now_seconds, .inl (cI, 8, .inl f_this_now_seconds)), cl_X3 h_this_told h_this_told_numbers i_this_told_27, (h_this_told_numbers, .inl (cJ, 8, .inr (.inl f_this_told_numbers_28)))] H := hP
      have hD : va_D A [cl_X9 h_this h_this_now h_this_kept h_this_told h_this_text h_this_script h_this_momentReader h_this_spanReader h_this_adder h_this_other h_this_trial h_this_ways i_this, cl_X4 h_this_now h_this_now_day h_this_now_second h_this_now_months h_this_now_days h_this_now_seconds, (h_this_now_day, .inl (cI, 8, .inl f_this_now_day)), (h_this_now_second, .inl (cI, 8, .inl f_this_now_second)), (h_this_now_months, .inl (cI, 8, .inl f_this_now_months)), (h_this_now_days, .inl (cI, 8, .inl f_this_now_days)), (h_this_now_seconds, .inl (cI, 8, .inl f_this_now_seconds)), cl_X3 h_this_told h_this_told_numbers i_this_told_27, (h_this_told_numbers, .inl (cJ, 8, .inr (.inl f_this_told_numbers_28)))] := hD
      obtain ⟨z30, ez30⟩ : ∃ y : Int32, y = (v2 + (1 : Int32)) := ⟨_, rfl⟩
      have h := nm_at ez30 h
      refine lv_iinc (v := z30) (lv' := [(2, .int z30), (0, .ref h_this), (1, .int v1)]) hx hb dX9_ranked_24 hl (k := 2) rfl (by rw [ez30]; rfl) (by decide) rfl (fun ls hl => ?_)
      refine lv_goto (tgt := 9) hx hb dX9_ranked_27 (by decide) ?_
      exact ih_9 _ _ _ _ _ _ _ h (lv_sub hl [1, 2, 0] rfl) hP hD hS
  have h := hf
  unfold fX9_ranked at h
  refine lv_aload_n hx hb dX9_ranked_0 rfl (lv_at hl 0 rfl) ?_
  refine va_get (D := (dC, dI)) (ci := 8) (v := .ref h_this_told) (C := RX9) (T := TX9) (N := 12) hx hb hts inX9 hown hK hP 0 rfl rfl 3 (by decide) (hts _ (kq q_295 rfl)) (fun _ h9 => h9) rfl dX9_ranked_1 ?_
  obtain ⟨i_this_told_31, hc32, h⟩ := bd1_at h
  refine kjV (kV (own := "DateSpans") (C := "DateSpans$Row") (b := h_this_told) (As := []) (rest := []) ⟨hx, hb, hml, hown, hts⟩ (kX3_begin l dC dI cI cJ cB h_this_told h_this_told_numbers N i_this_told i_this_told_31 hc32 _) (kgV (kq q_753 rfl) (kq q_454 rfl) (kq q_455 rfl) (kq q_59 rfl) (kq q_456 rfl)) yd_X3_begin ⟨Nat.le_of_ble_eq_true rfl, Nat.le_of_ble_eq_true rfl⟩ hN hK hP hD [7] rfl rfl (ci := 2) rfl rfl rfl rfl rfl hl.1 rfl (lv_room (Nat.le_of_ble_eq_true rfl)) dX9_ranked_4) hP hD hS hA [7] rfl rfl (fun H locs hP hD hS => ?_)
  have hP : va_P (dC, dI) vwCl [cl_X9 h_this h_this_now h_this_kept h_this_told h_this_text h_this_script h_this_momentReader h_this_spanReader h_this_adder h_this_other h_this_trial h_this_ways i_this, cl_X4 h_this_now h_this_now_day h_this_now_second h_this_now_months h_this_now_days h_this_now_seconds, (h_this_now_day, .inl (cI, 8, .inl f_this_now_day)), (h_this_now_second, .inl (cI, 8, .inl f_this_now_second)), (h_this_now_months, .inl (cI, 8, .inl f_this_now_months)), (h_this_now_days, .inl (cI, 8, .inl f_this_now_days)), (h_this_now_seconds, .inl (cI, 8, .inl f_this_now_seconds)), cl_X3 h_this_told h_this_told_numbers i_this_told_31, (h_this_told_numbers, .inl (cJ, 8, .inr (.inl f_this_told_numbers)))] H := hP
  have hD : va_D A [cl_X9 h_this h_this_now h_this_kept h_this_told h_this_text h_this_script h_this_momentReader h_this_spanReader h_this_adder h_this_other h_this_trial h_this_ways i_this, cl_X4 h_this_now h_this_now_day h_this_now_second h_this_now_months h_this_now_days h_this_now_seconds, (h_this_now_day, .inl (cI, 8, .inl f_this_now_day)), (h_this_now_second, .inl (cI, 8, .inl f_this_now_second)), (h_this_now_months, .inl (cI, 8, .inl f_this_now_months)), (h_this_now_days, .inl (cI, 8, .inl f_this_now_days)), (h_this_now_seconds, .inl (cI, 8, .inl f_this_now_seconds)), cl_X3 h_this_told h_this_told_numbers i_this_told_31, (h_this_told_numbers, .inl (cJ, 8, .inr (.inl f_this_told_numbers)))] := hD
  refine lv_iconst (v := (0 : Int32)) hx hb dX9_ranked_7 (by decide) ?_
  refine lv_istore_n (lv' := [(2, .int (0 : Int32)), (0, .ref h_this), (1, .int p1)]) hx hb dX9_ranked_8 rfl hl (by decide) rfl (fun ls hl => ?_)
  exact LP_9 N _ _ _ _ _ _ _ h (lv_sub hl [1, 2, 0] rfl) hP hD hS
noncomputable def fX9_sorts (N : Nat) (i_this : Int32) (f_this_now_day : Nat → Int32) (f_this_now_second : Nat → Int32) (f_this_now_months : Nat → Int32) (f_this_now_days : Nat → Int32) (f_this_now_seconds : Nat → Int32) (i_this_told : Int32) (f_this_told_numbers : Nat → Int64) : Option (Int32 × Int32 × (Nat → Int64)) := (bd3 (fX9_ranked N (0 : Int32) i_this f_this_now_day f_this_now_second f_this_now_months f_this_now_days f_this_now_seconds i_this_told f_this_told_numbers) fun r1 i_this_told_2 f_this_told_numbers_3 => (some (r1, i_this_told_2, f_this_told_numbers_3)))
set_option maxHeartbeats 4000000 in
set_option maxRecDepth 100000 in
theorem kX9_sorts (l : Launch) (dC : Nat → ClassId) (dI : Nat → Nat → Nat) (cI cJ cB : ClassId) (h_this h_this_now h_this_kept h_this_told h_this_text h_this_script h_this_momentReader h_this_spanReader h_this_adder h_this_other h_this_trial h_this_ways h_this_now_day h_this_now_second h_this_now_months h_this_now_days h_this_now_seconds h_this_told_numbers : Nat) (N : Nat) (i_this : Int32) (f_this_now_day : Nat → Int32) (f_this_now_second : Nat → Int32) (f_this_now_months : Nat → Int32) (f_this_now_days : Nat → Int32) (f_this_now_seconds : Nat → Int32) (i_this_told : Int32) (f_this_told_numbers : Nat → Int64) (r : Int32) (o_i_this_told : Int32) (o_f_this_told_numbers : Nat → Int64) (hf : fX9_sorts N i_this f_this_now_day f_this_now_second f_this_now_months f_this_now_days f_this_now_seconds i_this_told f_this_told_numbers = some (r, o_i_this_told, o_f_this_told_numbers)) : MI l yX9_sorts (kws yX9_sorts cX9_sorts 1 (some .int)) (kR 4 88) (dC, dI) (kT cI cJ cB) [.ref h_this] [cl_X9 h_this h_this_now h_this_kept h_this_told h_this_text h_this_script h_this_momentReader h_this_spanReader h_this_adder h_this_other h_this_trial h_this_ways i_this, cl_X4 h_this_now h_this_now_day h_this_now_second h_this_now_months h_this_now_days h_this_now_seconds, (h_this_now_day, .inl (cI, 8, .inl f_this_now_day)), (h_this_now_second, .inl (cI, 8, .inl f_this_now_second)), (h_this_now_months, .inl (cI, 8, .inl f_this_now_months)), (h_this_now_days, .inl (cI, 8, .inl f_this_now_days)), (h_this_now_seconds, .inl (cI, 8, .inl f_this_now_seconds)), cl_X3 h_this_told h_this_told_numbers i_this_told, (h_this_told_numbers, .inl (cJ, 8, .inr (.inl f_this_told_numbers)))] [cl_X9 h_this h_this_now h_this_kept h_this_told h_this_text h_this_script h_this_momentReader h_this_spanReader h_this_adder h_this_other h_this_trial h_this_ways i_this, cl_X4 h_this_now h_this_now_day h_this_now_second h_this_now_months h_this_now_days h_this_now_seconds, (h_this_now_day, .inl (cI, 8, .inl f_this_now_day)), (h_this_now_second, .inl (cI, 8, .inl f_this_now_second)), (h_this_now_months, .inl (cI, 8, .inl f_this_now_months)), (h_this_now_days, .inl (cI, 8, .inl f_this_now_days)), (h_this_now_seconds, .inl (cI, 8, .inl f_this_now_seconds)), cl_X3 h_this_told h_this_told_numbers o_i_this_told, (h_this_told_numbers, .inl (cJ, 8, .inr (.inl o_f_this_told_numbers)))] r := by
  refine MI.of (cc := cX9_sorts) (maxL := 1) (by decide) (Nat.le_of_ble_eq_true rfl) (fun p e s m args below meth c A Q ls KC hN hK hP hD hA hl hEnd => ?_)
  obtain ⟨hx, hb, hml, hown, hts⟩ := KC
  have hown : s.vm.findClass "DateSpans" = some m.cls := hown
  have hl : lv_has ls 1 [(0, .ref h_this)] := hl
  have hS : va_S A s.heap s.heap [] := va_S.rf
  have h := hf
  unfold fX9_sorts at h
  refine lv_aload_n hx hb dX9_sorts_0 rfl (lv_at hl 0 rfl) ?_
  refine lv_iconst (v := (0 : Int32)) hx hb dX9_sorts_1 (by decide) ?_
  obtain ⟨r1, i_this_told_2, f_this_told_numbers_3, hc4, h⟩ := bd3_at h
  refine kjI (kV (own := "DateSpans") (C := "DateSpans") (b := h_this) (As := [.int (0 : Int32)]) (rest := []) ⟨hx, hb, hml, hown, hts⟩ (kX9_ranked l dC dI cI cJ cB h_this h_this_now h_this_kept h_this_told h_this_text h_this_script h_this_momentReader h_this_spanReader h_this_adder h_this_other h_this_trial h_this_ways h_this_now_day h_this_now_second h_this_now_months h_this_now_days h_this_now_seconds h_this_told_numbers N (0 : Int32) i_this f_this_now_day f_this_now_second f_this_now_months f_this_now_days f_this_now_seconds i_this_told f_this_told_numbers r1 i_this_told_2 f_this_told_numbers_3 hc4 _) (kgV (kq q_806 rfl) (kq q_808 rfl) (kq q_13 rfl) (kq q_57 rfl) (kq q_809 rfl)) yd_X9_ranked ⟨Nat.le_of_ble_eq_true rfl, Nat.le_of_ble_eq_true rfl⟩ hN hK hP hD [0, 1, 2, 3, 4, 5, 6, 7, 8] rfl rfl (ci := 8) rfl rfl rfl rfl rfl hl.1 rfl (lv_room (Nat.le_of_ble_eq_true rfl)) dX9_sorts_2) hP hD hS hA [0, 1, 2, 3, 4, 5, 6, 7, 8] rfl rfl (fun H locs hP hD hS => ?_)
  have hP : va_P (dC, dI) vwCl [cl_X9 h_this h_this_now h_this_kept h_this_told h_this_text h_this_script h_this_momentReader h_this_spanReader h_this_adder h_this_other h_this_trial h_this_ways i_this, cl_X4 h_this_now h_this_now_day h_this_now_second h_this_now_months h_this_now_days h_this_now_seconds, (h_this_now_day, .inl (cI, 8, .inl f_this_now_day)), (h_this_now_second, .inl (cI, 8, .inl f_this_now_second)), (h_this_now_months, .inl (cI, 8, .inl f_this_now_months)), (h_this_now_days, .inl (cI, 8, .inl f_this_now_days)), (h_this_now_seconds, .inl (cI, 8, .inl f_this_now_seconds)), cl_X3 h_this_told h_this_told_numbers i_this_told_2, (h_this_told_numbers, .inl (cJ, 8, .inr (.inl f_this_told_numbers_3)))] H := hP
  have hD : va_D A [cl_X9 h_this h_this_now h_this_kept h_this_told h_this_text h_this_script h_this_momentReader h_this_spanReader h_this_adder h_this_other h_this_trial h_this_ways i_this, cl_X4 h_this_now h_this_now_day h_this_now_second h_this_now_months h_this_now_days h_this_now_seconds, (h_this_now_day, .inl (cI, 8, .inl f_this_now_day)), (h_this_now_second, .inl (cI, 8, .inl f_this_now_second)), (h_this_now_months, .inl (cI, 8, .inl f_this_now_months)), (h_this_now_days, .inl (cI, 8, .inl f_this_now_days)), (h_this_now_seconds, .inl (cI, 8, .inl f_this_now_seconds)), cl_X3 h_this_told h_this_told_numbers i_this_told_2, (h_this_told_numbers, .inl (cJ, 8, .inr (.inl f_this_told_numbers_3)))] := hD
  obtain ⟨rfl, rfl, rfl⟩ := pj3 h
  exact hEnd _ _ _ _ hP hS dX9_sorts_5 rfl
noncomputable def fX9_signBit (N : Nat) (p1 : Int64) : Option (Int64) := (if (0 : Int32) ≤ (lg_cmp p1 (0 : Int64)) then (some (0 : Int64)) else (some (-9223372036854775808 : Int64)))
set_option maxHeartbeats 4000000 in
set_option maxRecDepth 100000 in
theorem kX9_signBit (l : Launch) (N : Nat) (p1 : Int64) (r : Int64) (hf : fX9_signBit N p1 = some r) : SL l yX9_signBit (kws yX9_signBit cX9_signBit 2 (some .long)) (kR 0 0) [.long p1] r := by
  refine SL.of (cc := cX9_signBit) (maxL := 2) (by decide) (Nat.le_of_ble_eq_true rfl) (fun p e s m args below meth c Q ls KC hl hEnd => ?_)
  obtain ⟨hx, hb, hml, hown, hts⟩ := KC
  have hown : s.vm.findClass "DateSpans" = some m.cls := hown
  have hl : lv_has ls 2 [(0, .long p1)] := hl
  have h := hf
  unfold fX9_signBit at h
  refine lv_lload_n hx hb dX9_signBit_0 rfl (lv_at hl 0 rfl) ?_
  refine lv_lconst (v := (0 : Int64)) hx hb dX9_signBit_1 (by decide) ?_
  refine W.lcmp hx hb dX9_signBit_2 ?_
  refine lv_if_ge (tgt := 12) hx hb dX9_signBit_3 (by decide) (fun c1 => ?_) (fun c1 => ?_)
  · have h := ite_t c1 h
    refine lv_lconst (v := (0 : Int64)) hx hb dX9_signBit_12 (by decide) ?_
    obtain rfl := pj1 h
    exact hEnd _ _ dX9_signBit_13
  have h := ite_f c1 h
  refine lv_ldc2 (v := (-9223372036854775808 : Int64)) hx hb hown (hts _ (kq q_823 rfl)) dX9_signBit_6 ?_
  refine lv_goto (tgt := 13) hx hb dX9_signBit_9 (by decide) ?_
  obtain rfl := pj1 h
  exact hEnd _ _ dX9_signBit_13
noncomputable def fX9_powerOf_l42 (N : Nat)  (n : Nat) : UInt64 → Int32 → Int32 → Option (Int32) := Nat.rec (motive := fun _ => UInt64 → Int32 → Int32 → Option (Int32)) (fun _ _ _ => none) (fun _ K_42 v2 v4 v5 => (if (1100 : Int32) ≤ v5 then (some v4) else (if (0 : Int32) ≤ (Op.cmpValue (FP.dcmp v2 FP.dconst1) .g) then (some v4) else (g64 (FP.dmul v2 (4611686018427387904 : UInt64)) (nm (FP.dmul v2 (4611686018427387904 : UInt64)) fun z4 => (nm (v4 + (-1 : Int32)) fun z5 => (nm (v5 + (1 : Int32)) fun z6 => (K_42 z4 z5 z6)))))))) n
theorem fX9_powerOf_l42_s (N : Nat)  (n : Nat) (v2 : UInt64) (v4 : Int32) (v5 : Int32) : fX9_powerOf_l42 N (n + 1) v2 v4 v5 = (if (1100 : Int32) ≤ v5 then (some v4) else (if (0 : Int32) ≤ (Op.cmpValue (FP.dcmp v2 FP.dconst1) .g) then (some v4) else (g64 (FP.dmul v2 (4611686018427387904 : UInt64)) (nm (FP.dmul v2 (4611686018427387904 : UInt64)) fun z4 => (nm (v4 + (-1 : Int32)) fun z5 => (nm (v5 + (1 : Int32)) fun z6 => ((fX9_powerOf_l42 N n) z4 z5 z6))))))) := rfl
theorem fX9_powerOf_l42_0 (N : Nat)  (v2 : UInt64) (v4 : Int32) (v5 : Int32) : fX9_powerOf_l42 N 0 v2 v4 v5 = none := rfl
noncomputable def fX9_powerOf_l8 (N : Nat)  (n : Nat) : UInt64 → Int32 → Int32 → Option (Int32) := Nat.rec (motive := fun _ => UInt64 → Int32 → Int32 → Option (Int32)) (fun _ _ _ => none) (fun _ K_8 v2 v4 v5 => (if (1100 : Int32) ≤ v5 then (fX9_powerOf_l42 N N v2 v4 (0 : Int32)) else (if (Op.cmpValue (FP.dcmp v2 (4611686018427387904 : UInt64)) .l) < (0 : Int32) then (fX9_powerOf_l42 N N v2 v4 (0 : Int32)) else (g64 (FP.ddiv v2 (4611686018427387904 : UInt64)) (nm (FP.ddiv v2 (4611686018427387904 : UInt64)) fun z10 => (nm (v4 + (1 : Int32)) fun z11 => (nm (v5 + (1 : Int32)) fun z12 => (K_8 z10 z11 z12)))))))) n
theorem fX9_powerOf_l8_s (N : Nat)  (n : Nat) (v2 : UInt64) (v4 : Int32) (v5 : Int32) : fX9_powerOf_l8 N (n + 1) v2 v4 v5 = (if (1100 : Int32) ≤ v5 then (fX9_powerOf_l42 N N v2 v4 (0 : Int32)) else (if (Op.cmpValue (FP.dcmp v2 (4611686018427387904 : UInt64)) .l) < (0 : Int32) then (fX9_powerOf_l42 N N v2 v4 (0 : Int32)) else (g64 (FP.ddiv v2 (4611686018427387904 : UInt64)) (nm (FP.ddiv v2 (4611686018427387904 : UInt64)) fun z10 => (nm (v4 + (1 : Int32)) fun z11 => (nm (v5 + (1 : Int32)) fun z12 => ((fX9_powerOf_l8 N n) z10 z11 z12))))))) := rfl
theorem fX9_powerOf_l8_0 (N : Nat)  (v2 : UInt64) (v4 : Int32) (v5 : Int32) : fX9_powerOf_l8 N 0 v2 v4 v5 = none := rfl
noncomputable def fX9_powerOf (N : Nat) (p1 : UInt64) : Option (Int32) := (fX9_powerOf_l8 N N p1 (0 : Int32) (0 : Int32))
set_option maxHeartbeats 4000000 in
set_option maxRecDepth 100000 in
theorem kX9_powerOf (l : Launch) (N : Nat) (p1 : UInt64) (r : Int32) (hf : fX9_powerOf N p1 = some r) : SI l yX9_powerOf (kws yX9_powerOf cX9_powerOf 6 (some .int)) (kR 0 0) [.double p1] r := by
  refine SI.of (cc := cX9_powerOf) (maxL := 6) (by decide) (Nat.le_of_ble_eq_true rfl) (fun p e s m args below meth c Q ls KC hl hEnd => ?_)
  obtain ⟨hx, hb, hml, hown, hts⟩ := KC
  have hown : s.vm.findClass "DateSpans" = some m.cls := hown
  have hl : lv_has ls 6 [(0, .double p1)] := hl
  have LP_42 : ∀ n_42 : Nat, ∀ (v2 : UInt64) (v4 : Int32) (v5 : Int32) (ls : Array Slot), fX9_powerOf_l42 N n_42 v2 v4 v5 = some r → lv_has ls 6 [(2, .double v2), (4, .int v4), (5, .int v5)] → W p l e (kR 0 0) s m args below meth c s.heap [] 0 0 Q (F0 m 42 ls []) := by
    intro n_42
    induction n_42 with
    | zero =>
      intro v2 v4 v5 ls h hl
      rw [fX9_powerOf_l42_0] at h; cases h
    | succ n_42 ih_42 =>
      intro v2 v4 v5 ls h hl
      rw [fX9_powerOf_l42_s] at h
      refine lv_iload hx hb dX9_powerOf_42 (lv_at hl 2 rfl) ?_
      refine lv_sipush (v := (1100 : Int32)) hx hb dX9_powerOf_44 (by decide) ?_
      refine lv_icmp_ge (tgt := 71) hx hb dX9_powerOf_47 (by decide) (fun c1 => ?_) (fun c1 => ?_)
      · have h := ite_t c1 h
        refine lv_iload hx hb dX9_powerOf_71 (lv_at hl 1 rfl) ?_
        obtain rfl := pj1 h
        exact hEnd _ _ dX9_powerOf_73 rfl
      have h := ite_f c1 h
      refine lv_dload_n hx hb dX9_powerOf_50 rfl (lv_at hl 0 rfl) ?_
      refine lv_dconst1 hx hb dX9_powerOf_51 ?_
      refine lv_dcmp hx hb dX9_powerOf_52 ?_
      refine lv_if_ge (tgt := 71) hx hb dX9_powerOf_53 (by decide) (fun c2 => ?_) (fun c2 => ?_)
      · have h := ite_t c2 h
        refine lv_iload hx hb dX9_powerOf_71 (lv_at hl 1 rfl) ?_
        obtain rfl := pj1 h
        exact hEnd _ _ dX9_powerOf_73 rfl
      have h := ite_f c2 h
      refine lv_dload_n hx hb dX9_powerOf_56 rfl (lv_at hl 0 rfl) ?_
      refine lv_ldc2d (v := (4611686018427387904 : UInt64)) hx hb hown (hts _ (kq q_831 rfl)) dX9_powerOf_57 ?_
      obtain ⟨hn3, h⟩ := g64_at h
      refine lv_dmul hx hb dX9_powerOf_60 hn3 ?_
      refine lv_topd (fun z4 ez4 => ?_)
      have h := nm_at ez4 h
      refine lv_dstore_n (lv' := [(2, .double z4), (4, .int v4), (5, .int v5)]) hx hb dX9_powerOf_61 rfl hl (by decide) rfl (fun ls hl => ?_)
      obtain ⟨z5, ez5⟩ : ∃ y : Int32, y = (v4 + (-1 : Int32)) := ⟨_, rfl⟩
      have h := nm_at ez5 h
      refine lv_iinc (v := z5) (lv' := [(4, .int z5), (2, .double z4), (5, .int v5)]) hx hb dX9_powerOf_62 hl (k := 1) rfl (by rw [ez5]; rfl) (by decide) rfl (fun ls hl => ?_)
      obtain ⟨z6, ez6⟩ : ∃ y : Int32, y = (v5 + (1 : Int32)) := ⟨_, rfl⟩
      have h := nm_at ez6 h
      refine lv_iinc (v := z6) (lv' := [(5, .int z6), (4, .int z5), (2, .double z4)]) hx hb dX9_powerOf_65 hl (k := 2) rfl (by rw [ez6]; rfl) (by decide) rfl (fun ls hl => ?_)
      refine lv_goto (tgt := 42) hx hb dX9_powerOf_68 (by decide) ?_
      exact ih_42 _ _ _ _ h (lv_sub hl [2, 1, 0] rfl)
  have LP_8 : ∀ n_8 : Nat, ∀ (v2 : UInt64) (v4 : Int32) (v5 : Int32) (ls : Array Slot), fX9_powerOf_l8 N n_8 v2 v4 v5 = some r → lv_has ls 6 [(2, .double v2), (4, .int v4), (5, .int v5)] → W p l e (kR 0 0) s m args below meth c s.heap [] 0 0 Q (F0 m 8 ls []) := by
    intro n_8
    induction n_8 with
    | zero =>
      intro v2 v4 v5 ls h hl
      rw [fX9_powerOf_l8_0] at h; cases h
    | succ n_8 ih_8 =>
      intro v2 v4 v5 ls h hl
      rw [fX9_powerOf_l8_s] at h
      refine lv_iload hx hb dX9_powerOf_8 (lv_at hl 2 rfl) ?_
      refine lv_sipush (v := (1100 : Int32)) hx hb dX9_powerOf_10 (by decide) ?_
      refine lv_icmp_ge (tgt := 39) hx hb dX9_powerOf_13 (by decide) (fun c7 => ?_) (fun c7 => ?_)
      · have h := ite_t c7 h
        refine lv_iconst (v := (0 : Int32)) hx hb dX9_powerOf_39 (by decide) ?_
        refine lv_istore (lv' := [(5, .int (0 : Int32)), (2, .double v2), (4, .int v4)]) hx hb dX9_powerOf_40 hl (by decide) rfl (fun ls hl => ?_)
        exact LP_42 N _ _ _ _ h (lv_sub hl [1, 2, 0] rfl)
      have h := ite_f c7 h
      refine lv_dload_n hx hb dX9_powerOf_16 rfl (lv_at hl 0 rfl) ?_
      refine lv_ldc2d (v := (4611686018427387904 : UInt64)) hx hb hown (hts _ (kq q_831 rfl)) dX9_powerOf_17 ?_
      refine lv_dcmp hx hb dX9_powerOf_20 ?_
      refine lv_if_lt (tgt := 39) hx hb dX9_powerOf_21 (by decide) (fun c8 => ?_) (fun c8 => ?_)
      · have h := ite_t c8 h
        refine lv_iconst (v := (0 : Int32)) hx hb dX9_powerOf_39 (by decide) ?_
        refine lv_istore (lv' := [(5, .int (0 : Int32)), (2, .double v2), (4, .int v4)]) hx hb dX9_powerOf_40 hl (by decide) rfl (fun ls hl => ?_)
        exact LP_42 N _ _ _ _ h (lv_sub hl [1, 2, 0] rfl)
      have h := ite_f c8 h
      refine lv_dload_n hx hb dX9_powerOf_24 rfl (lv_at hl 0 rfl) ?_
      refine lv_ldc2d (v := (4611686018427387904 : UInt64)) hx hb hown (hts _ (kq q_831 rfl)) dX9_powerOf_25 ?_
      obtain ⟨hn9, h⟩ := g64_at h
      refine lv_ddiv hx hb dX9_powerOf_28 hn9 ?_
      refine lv_topd (fun z10 ez10 => ?_)
      have h := nm_at ez10 h
      refine lv_dstore_n (lv' := [(2, .double z10), (4, .int v4), (5, .int v5)]) hx hb dX9_powerOf_29 rfl hl (by decide) rfl (fun ls hl => ?_)
      obtain ⟨z11, ez11⟩ : ∃ y : Int32, y = (v4 + (1 : Int32)) := ⟨_, rfl⟩
      have h := nm_at ez11 h
      refine lv_iinc (v := z11) (lv' := [(4, .int z11), (2, .double z10), (5, .int v5)]) hx hb dX9_powerOf_30 hl (k := 1) rfl (by rw [ez11]; rfl) (by decide) rfl (fun ls hl => ?_)
      obtain ⟨z12, ez12⟩ : ∃ y : Int32, y = (v5 + (1 : Int32)) := ⟨_, rfl⟩
      have h := nm_at ez12 h
      refine lv_iinc (v := z12) (lv' := [(5, .int z12), (4, .int z11), (2, .double z10)]) hx hb dX9_powerOf_33 hl (k := 2) rfl (by rw [ez12]; rfl) (by decide) rfl (fun ls hl => ?_)
      refine lv_goto (tgt := 8) hx hb dX9_powerOf_36 (by decide) ?_
      exact ih_8 _ _ _ _ h (lv_sub hl [2, 1, 0] rfl)
  have h := hf
  unfold fX9_powerOf at h
  refine lv_dload_n hx hb dX9_powerOf_0 rfl (lv_at hl 0 rfl) ?_
  refine lv_dstore_n (lv' := [(2, .double p1), (0, .double p1)]) hx hb dX9_powerOf_1 rfl hl (by decide) rfl (fun ls hl => ?_)
  refine lv_iconst (v := (0 : Int32)) hx hb dX9_powerOf_2 (by decide) ?_
  refine lv_istore (lv' := [(4, .int (0 : Int32)), (2, .double p1), (0, .double p1)]) hx hb dX9_powerOf_3 hl (by decide) rfl (fun ls hl => ?_)
  refine lv_iconst (v := (0 : Int32)) hx hb dX9_powerOf_5 (by decide) ?_
  refine lv_istore (lv' := [(5, .int (0 : Int32)), (4, .int (0 : Int32)), (2, .double p1), (0, .double p1)]) hx hb dX9_powerOf_6 hl (by decide) rfl (fun ls hl => ?_)
  exact LP_8 N _ _ _ _ h (lv_sub hl [2, 1, 0] rfl)
noncomputable def fX9_fractionOf_l29 (N : Nat)  (n : Nat) : Int32 → UInt64 → Int32 → Option (Int64) := Nat.rec (motive := fun _ => Int32 → UInt64 → Int32 → Option (Int64)) (fun _ _ _ => none) (fun _ K_29 v3 v4 v6 => (if v6 ≤ v3 then (some ((FP.d2l v4) - ((1 : Int64) <<< (v3.toInt64 &&& 63)))) else (g64 (FP.ddiv v4 (4611686018427387904 : UInt64)) (nm (FP.ddiv v4 (4611686018427387904 : UInt64)) fun z3 => (nm (v6 + (-1 : Int32)) fun z4 => (K_29 v3 z3 z4)))))) n
theorem fX9_fractionOf_l29_s (N : Nat)  (n : Nat) (v3 : Int32) (v4 : UInt64) (v6 : Int32) : fX9_fractionOf_l29 N (n + 1) v3 v4 v6 = (if v6 ≤ v3 then (some ((FP.d2l v4) - ((1 : Int64) <<< (v3.toInt64 &&& 63)))) else (g64 (FP.ddiv v4 (4611686018427387904 : UInt64)) (nm (FP.ddiv v4 (4611686018427387904 : UInt64)) fun z3 => (nm (v6 + (-1 : Int32)) fun z4 => ((fX9_fractionOf_l29 N n) v3 z3 z4))))) := rfl
theorem fX9_fractionOf_l29_0 (N : Nat)  (v3 : Int32) (v4 : UInt64) (v6 : Int32) : fX9_fractionOf_l29 N 0 v3 v4 v6 = none := rfl
noncomputable def fX9_fractionOf_l6 (N : Nat)  (n : Nat) : Int32 → Int32 → UInt64 → Int32 → Option (Int64) := Nat.rec (motive := fun _ => Int32 → Int32 → UInt64 → Int32 → Option (Int64)) (fun _ _ _ _ => none) (fun _ K_6 v2 v3 v4 v6 => (if v3 ≤ v6 then (fX9_fractionOf_l29 N N v3 v4 v2) else (g64 (FP.dmul v4 (4611686018427387904 : UInt64)) (nm (FP.dmul v4 (4611686018427387904 : UInt64)) fun z7 => (nm (v6 + (1 : Int32)) fun z8 => (K_6 v2 v3 z7 z8)))))) n
theorem fX9_fractionOf_l6_s (N : Nat)  (n : Nat) (v2 : Int32) (v3 : Int32) (v4 : UInt64) (v6 : Int32) : fX9_fractionOf_l6 N (n + 1) v2 v3 v4 v6 = (if v3 ≤ v6 then (fX9_fractionOf_l29 N N v3 v4 v2) else (g64 (FP.dmul v4 (4611686018427387904 : UInt64)) (nm (FP.dmul v4 (4611686018427387904 : UInt64)) fun z7 => (nm (v6 + (1 : Int32)) fun z8 => ((fX9_fractionOf_l6 N n) v2 v3 z7 z8))))) := rfl
theorem fX9_fractionOf_l6_0 (N : Nat)  (v2 : Int32) (v3 : Int32) (v4 : UInt64) (v6 : Int32) : fX9_fractionOf_l6 N 0 v2 v3 v4 v6 = none := rfl
noncomputable def fX9_fractionOf (N : Nat) (p1 : UInt64) (p2 : Int32) (p3 : Int32) : Option (Int64) := (fX9_fractionOf_l6 N N p2 p3 p1 p2)
set_option maxHeartbeats 4000000 in
set_option maxRecDepth 100000 in
theorem kX9_fractionOf (l : Launch) (N : Nat) (p1 : UInt64) (p2 : Int32) (p3 : Int32) (r : Int64) (hf : fX9_fractionOf N p1 p2 p3 = some r) : SL l yX9_fractionOf (kws yX9_fractionOf cX9_fractionOf 7 (some .long)) (kR 0 0) [.double p1, .int p2, .int p3] r := by
  refine SL.of (cc := cX9_fractionOf) (maxL := 7) (by decide) (Nat.le_of_ble_eq_true rfl) (fun p e s m args below meth c Q ls KC hl hEnd => ?_)
  obtain ⟨hx, hb, hml, hown, hts⟩ := KC
  have hown : s.vm.findClass "DateSpans" = some m.cls := hown
  have hl : lv_has ls 7 [(0, .double p1), (2, .int p2), (3, .int p3)] := hl
  have LP_29 : ∀ n_29 : Nat, ∀ (v3 : Int32) (v4 : UInt64) (v6 : Int32) (ls : Array Slot), fX9_fractionOf_l29 N n_29 v3 v4 v6 = some r → lv_has ls 7 [(3, .int v3), (4, .double v4), (6, .int v6)] → W p l e (kR 0 0) s m args below meth c s.heap [] 0 0 Q (F0 m 29 ls []) := by
    intro n_29
    induction n_29 with
    | zero =>
      intro v3 v4 v6 ls h hl
      rw [fX9_fractionOf_l29_0] at h; cases h
    | succ n_29 ih_29 =>
      intro v3 v4 v6 ls h hl
      rw [fX9_fractionOf_l29_s] at h
      refine lv_iload hx hb dX9_fractionOf_29 (lv_at hl 2 rfl) ?_
      refine lv_iload_n hx hb dX9_fractionOf_31 rfl (lv_at hl 0 rfl) ?_
      refine lv_icmp_le (tgt := 49) hx hb dX9_fractionOf_32 (by decide) (fun c1 => ?_) (fun c1 => ?_)
      · have h := ite_t c1 h
        refine lv_dload hx hb dX9_fractionOf_49 (lv_at hl 1 rfl) ?_
        refine lv_d2l hx hb dX9_fractionOf_51 ?_
        refine lv_lconst (v := (1 : Int64)) hx hb dX9_fractionOf_52 (by decide) ?_
        refine lv_iload_n hx hb dX9_fractionOf_53 rfl (lv_at hl 0 rfl) ?_
        refine lv_lshl hx hb dX9_fractionOf_54 rfl ?_
        refine lv_lsub hx hb dX9_fractionOf_55 ?_
        obtain rfl := pj1 h
        exact hEnd _ _ dX9_fractionOf_56
      have h := ite_f c1 h
      refine lv_dload hx hb dX9_fractionOf_35 (lv_at hl 1 rfl) ?_
      refine lv_ldc2d (v := (4611686018427387904 : UInt64)) hx hb hown (hts _ (kq q_831 rfl)) dX9_fractionOf_37 ?_
      obtain ⟨hn2, h⟩ := g64_at h
      refine lv_ddiv hx hb dX9_fractionOf_40 hn2 ?_
      refine lv_topd (fun z3 ez3 => ?_)
      have h := nm_at ez3 h
      refine lv_dstore (lv' := [(4, .double z3), (3, .int v3), (6, .int v6)]) hx hb dX9_fractionOf_41 hl (by decide) rfl (fun ls hl => ?_)
      obtain ⟨z4, ez4⟩ : ∃ y : Int32, y = (v6 + (-1 : Int32)) := ⟨_, rfl⟩
      have h := nm_at ez4 h
      refine lv_iinc (v := z4) (lv' := [(6, .int z4), (4, .double z3), (3, .int v3)]) hx hb dX9_fractionOf_43 hl (k := 2) rfl (by rw [ez4]; rfl) (by decide) rfl (fun ls hl => ?_)
      refine lv_goto (tgt := 29) hx hb dX9_fractionOf_46 (by decide) ?_
      exact ih_29 _ _ _ _ h (lv_sub hl [2, 1, 0] rfl)
  have LP_6 : ∀ n_6 : Nat, ∀ (v2 : Int32) (v3 : Int32) (v4 : UInt64) (v6 : Int32) (ls : Array Slot), fX9_fractionOf_l6 N n_6 v2 v3 v4 v6 = some r → lv_has ls 7 [(2, .int v2), (3, .int v3), (4, .double v4), (6, .int v6)] → W p l e (kR 0 0) s m args below meth c s.heap [] 0 0 Q (F0 m 6 ls []) := by
    intro n_6
    induction n_6 with
    | zero =>
      intro v2 v3 v4 v6 ls h hl
      rw [fX9_fractionOf_l6_0] at h; cases h
    | succ n_6 ih_6 =>
      intro v2 v3 v4 v6 ls h hl
      rw [fX9_fractionOf_l6_s] at h
      refine lv_iload hx hb dX9_fractionOf_6 (lv_at hl 3 rfl) ?_
      refine lv_iload_n hx hb dX9_fractionOf_8 rfl (lv_at hl 1 rfl) ?_
      refine lv_icmp_ge (tgt := 26) hx hb dX9_fractionOf_9 (by decide) (fun c5 => ?_) (fun c5 => ?_)
      · have h := ite_t c5 h
        refine lv_iload_n hx hb dX9_fractionOf_26 rfl (lv_at hl 0 rfl) ?_
        refine lv_istore (lv' := [(6, .int v2), (2, .int v2), (3, .int v3), (4, .double v4)]) hx hb dX9_fractionOf_27 hl (by decide) rfl (fun ls hl => ?_)
        exact LP_29 N _ _ _ _ h (lv_sub hl [2, 3, 0] rfl)
      have h := ite_f c5 h
      refine lv_dload hx hb dX9_fractionOf_12 (lv_at hl 2 rfl) ?_
      refine lv_ldc2d (v := (4611686018427387904 : UInt64)) hx hb hown (hts _ (kq q_831 rfl)) dX9_fractionOf_14 ?_
      obtain ⟨hn6, h⟩ := g64_at h
      refine lv_dmul hx hb dX9_fractionOf_17 hn6 ?_
      refine lv_topd (fun z7 ez7 => ?_)
      have h := nm_at ez7 h
      refine lv_dstore (lv' := [(4, .double z7), (2, .int v2), (3, .int v3), (6, .int v6)]) hx hb dX9_fractionOf_18 hl (by decide) rfl (fun ls hl => ?_)
      obtain ⟨z8, ez8⟩ : ∃ y : Int32, y = (v6 + (1 : Int32)) := ⟨_, rfl⟩
      have h := nm_at ez8 h
      refine lv_iinc (v := z8) (lv' := [(6, .int z8), (4, .double z7), (2, .int v2), (3, .int v3)]) hx hb dX9_fractionOf_20 hl (k := 3) rfl (by rw [ez8]; rfl) (by decide) rfl (fun ls hl => ?_)
      refine lv_goto (tgt := 6) hx hb dX9_fractionOf_23 (by decide) ?_
      exact ih_6 _ _ _ _ _ h (lv_sub hl [2, 3, 1, 0] rfl)
  have h := hf
  unfold fX9_fractionOf at h
  refine lv_dload_n hx hb dX9_fractionOf_0 rfl (lv_at hl 0 rfl) ?_
  refine lv_dstore (lv' := [(4, .double p1), (0, .double p1), (2, .int p2), (3, .int p3)]) hx hb dX9_fractionOf_1 hl (by decide) rfl (fun ls hl => ?_)
  refine lv_iload_n hx hb dX9_fractionOf_3 rfl (lv_at hl 2 rfl) ?_
  refine lv_istore (lv' := [(6, .int p2), (4, .double p1), (0, .double p1), (2, .int p2), (3, .int p3)]) hx hb dX9_fractionOf_4 hl (by decide) rfl (fun ls hl => ?_)
  exact LP_6 N _ _ _ _ _ h (lv_sub hl [3, 4, 1, 0] rfl)
noncomputable def fX9_bitsOf_j12 (N : Nat)  (v0 : UInt64) (t0 : UInt64) : Option (Int64) := (bd1 (fX9_powerOf N t0) fun r1 => (bd1 (fX9_fractionOf N t0 r1 (52 : Int32)) fun r3 => (nm (((r1 + (1023 : Int32)).toInt64 <<< ((52 : Int32).toInt64 &&& 63)) ||| r3) fun z5 => (if (0 : Int32) ≤ (Op.cmpValue (FP.dcmp v0 FP.dconst0) .g) then (some z5) else (some (z5 ||| (-9223372036854775808 : Int64)))))))
noncomputable def fX9_bitsOf (N : Nat) (p1 : UInt64) : Option (Int64) := (if (0 : Int32) ≤ (Op.cmpValue (FP.dcmp p1 FP.dconst0) .g) then (fX9_bitsOf_j12 N p1 p1) else (fX9_bitsOf_j12 N p1 (FP.dneg p1)))
set_option maxHeartbeats 4000000 in
set_option maxRecDepth 100000 in
theorem kX9_bitsOf (l : Launch) (N : Nat) (p1 : UInt64) (r : Int64) (hf : fX9_bitsOf N p1 = some r) : SL l yX9_bitsOf (kws yX9_bitsOf cX9_bitsOf 7 (some .long)) (kR 1 26) [.double p1] r := by
  refine SL.of (cc := cX9_bitsOf) (maxL := 7) (by decide) (Nat.le_of_ble_eq_true rfl) (fun p e s m args below meth c Q ls KC hl hEnd => ?_)
  obtain ⟨hx, hb, hml, hown, hts⟩ := KC
  have hown : s.vm.findClass "DateSpans" = some m.cls := hown
  have hl : lv_has ls 7 [(0, .double p1)] := hl
  have JN_12 : ∀ (v0 : UInt64) (t0 : UInt64) (ls : Array Slot), (fX9_bitsOf_j12 N) v0 t0 = some r → lv_has ls 7 [(0, .double v0)] → W p l e (kR 1 26) s m args below meth c s.heap [] 0 0 Q (F0 m 12 ls [.double t0]) := by
    intro v0 t0 ls h hl
    unfold fX9_bitsOf_j12 at h
    refine lv_dstore_n (lv' := [(2, .double t0), (0, .double v0)]) hx hb dX9_bitsOf_12 rfl hl (by decide) rfl (fun ls hl => ?_)
    refine lv_dload_n hx hb dX9_bitsOf_13 rfl (lv_at hl 0 rfl) ?_
    obtain ⟨r1, hc2, h⟩ := bd1_at h
    refine kjSI (kS0 (own := "DateSpans") (As := [.double t0]) (rest := []) ⟨hx, hb, hml, hown, hts⟩ (kX9_powerOf l N t0 r1 hc2) (kgS (kq q_828 rfl) (kq q_829 rfl) (kq q_57 rfl) (kq q_830 rfl)) yd_X9_powerOf ⟨Nat.le_of_ble_eq_true rfl, Nat.le_of_ble_eq_true rfl⟩ rfl rfl hl.1 rfl (lv_room (Nat.le_of_ble_eq_true rfl)) dX9_bitsOf_14) ?_
    refine lv_istore (lv' := [(4, .int r1), (2, .double t0), (0, .double v0)]) hx hb dX9_bitsOf_17 hl (by decide) rfl (fun ls hl => ?_)
    refine lv_iload hx hb dX9_bitsOf_19 (lv_at hl 0 rfl) ?_
    refine lv_sipush (v := (1023 : Int32)) hx hb dX9_bitsOf_21 (by decide) ?_
    refine lv_iadd hx hb dX9_bitsOf_24 ?_
    refine lv_i2l hx hb dX9_bitsOf_25 rfl ?_
    refine lv_bipush (v := (52 : Int32)) hx hb dX9_bitsOf_26 (by decide) ?_
    refine lv_lshl hx hb dX9_bitsOf_28 rfl ?_
    refine lv_dload_n hx hb dX9_bitsOf_29 rfl (lv_at hl 1 rfl) ?_
    refine lv_iload hx hb dX9_bitsOf_30 (lv_at hl 0 rfl) ?_
    refine lv_bipush (v := (52 : Int32)) hx hb dX9_bitsOf_32 (by decide) ?_
    obtain ⟨r3, hc4, h⟩ := bd1_at h
    refine kjSL (kS0 (own := "DateSpans") (As := [.double t0, .int r1, .int (52 : Int32)]) (rest := [.long ((r1 + (1023 : Int32)).toInt64 <<< ((52 : Int32).toInt64 &&& 63))]) ⟨hx, hb, hml, hown, hts⟩ (kX9_fractionOf l N t0 r1 (52 : Int32) r3 hc4) (kgS (kq q_832 rfl) (kq q_833 rfl) (kq q_57 rfl) (kq q_834 rfl)) yd_X9_fractionOf ⟨Nat.le_of_ble_eq_true rfl, Nat.le_of_ble_eq_true rfl⟩ rfl rfl hl.1 rfl (lv_room (Nat.le_of_ble_eq_true rfl)) dX9_bitsOf_34) ?_
    refine lv_lor hx hb dX9_bitsOf_37 ?_
    refine lv_topl (fun z5 ez5 => ?_)
    have h := nm_at ez5 h
    refine lv_lstore (lv' := [(5, .long z5), (4, .int r1), (2, .double t0), (0, .double v0)]) hx hb dX9_bitsOf_38 hl (by decide) rfl (fun ls hl => ?_)
    refine lv_dload_n hx hb dX9_bitsOf_40 rfl (lv_at hl 3 rfl) ?_
    refine lv_dconst0 hx hb dX9_bitsOf_41 ?_
    refine lv_dcmp hx hb dX9_bitsOf_42 ?_
    refine lv_if_ge (tgt := 55) hx hb dX9_bitsOf_43 (by decide) (fun c6 => ?_) (fun c6 => ?_)
    · have h := ite_t c6 h
      refine lv_lload hx hb dX9_bitsOf_55 (lv_at hl 0 rfl) ?_
      obtain rfl := pj1 h
      exact hEnd _ _ dX9_bitsOf_57
    have h := ite_f c6 h
    refine lv_lload hx hb dX9_bitsOf_46 (lv_at hl 0 rfl) ?_
    refine lv_ldc2 (v := (-9223372036854775808 : Int64)) hx hb hown (hts _ (kq q_823 rfl)) dX9_bitsOf_48 ?_
    refine lv_lor hx hb dX9_bitsOf_51 ?_
    refine lv_goto (tgt := 57) hx hb dX9_bitsOf_52 (by decide) ?_
    obtain rfl := pj1 h
    exact hEnd _ _ dX9_bitsOf_57
  have h := hf
  unfold fX9_bitsOf at h
  refine lv_dload_n hx hb dX9_bitsOf_0 rfl (lv_at hl 0 rfl) ?_
  refine lv_dconst0 hx hb dX9_bitsOf_1 ?_
  refine lv_dcmp hx hb dX9_bitsOf_2 ?_
  refine lv_if_ge (tgt := 11) hx hb dX9_bitsOf_3 (by decide) (fun c7 => ?_) (fun c7 => ?_)
  · have h := ite_t c7 h
    refine lv_dload_n hx hb dX9_bitsOf_11 rfl (lv_at hl 0 rfl) ?_
    exact JN_12 _ _ _ h (lv_sub hl [0] rfl)
  have h := ite_f c7 h
  refine lv_dload_n hx hb dX9_bitsOf_6 rfl (lv_at hl 0 rfl) ?_
  refine lv_dneg hx hb dX9_bitsOf_7 ?_
  refine lv_goto (tgt := 12) hx hb dX9_bitsOf_8 (by decide) ?_
  exact JN_12 _ _ _ h (lv_sub hl [0] rfl)
noncomputable def fX9_share (N : Nat) (p1 : Int32) (p2 : Int32) (i_this : Int32) (f_this_now_months : Nat → Int32) (f_this_now_days : Nat → Int32) (f_this_now_seconds : Nat → Int32) : Option (Int64) := (bd1 (fX9_isSlot N p1) fun r1 => (if r1 = (0 : Int32) then (some (-1 : Int64)) else (bd1 (fX9_isSlot N p2) fun r4 => (if r4 = (0 : Int32) then (some (-1 : Int64)) else (bd1 (fX9_lengthOf N p1 i_this f_this_now_months f_this_now_days f_this_now_seconds) fun r7 => (bd1 (fX9_lengthOf N p2 i_this f_this_now_months f_this_now_days f_this_now_seconds) fun r9 => (if (lg_cmp r9 (0 : Int64)) = (0 : Int32) then (if (lg_cmp r7 (0 : Int64)) = (0 : Int32) then (some (9221120237041090560 : Int64)) else (bd1 (fX9_signBit N r7) fun r19 => (some (r19 ||| (9218868437227405312 : Int64))))) else (if (lg_cmp r7 (0 : Int64)) = (0 : Int32) then (bd1 (fX9_signBit N r9) fun r16 => (some r16)) else (g64 (FP.ddiv (FP.l2d r7) (FP.l2d r9)) (bd1 (fX9_bitsOf N (FP.ddiv (FP.l2d r7) (FP.l2d r9))) fun r14 => (some r14)))))))))))
set_option maxHeartbeats 4000000 in
set_option maxRecDepth 100000 in
theorem kX9_share (l : Launch) (dC : Nat → ClassId) (dI : Nat → Nat → Nat) (cI cJ cB : ClassId) (h_this h_this_now h_this_kept h_this_told h_this_text h_this_script h_this_momentReader h_this_spanReader h_this_adder h_this_other h_this_trial h_this_ways h_this_now_day h_this_now_second h_this_now_months h_this_now_days h_this_now_seconds : Nat) (N : Nat) (p1 : Int32) (p2 : Int32) (i_this : Int32) (f_this_now_months : Nat → Int32) (f_this_now_days : Nat → Int32) (f_this_now_seconds : Nat → Int32) (r : Int64) (hf : fX9_share N p1 p2 i_this f_this_now_months f_this_now_days f_this_now_seconds = some r) : ML l yX9_share (kws yX9_share cX9_share 7 (some .long)) (kR 3 62) (dC, dI) (kT cI cJ cB) [.ref h_this, .int p1, .int p2] [cl_X9 h_this h_this_now h_this_kept h_this_told h_this_text h_this_script h_this_momentReader h_this_spanReader h_this_adder h_this_other h_this_trial h_this_ways i_this, cl_X4 h_this_now h_this_now_day h_this_now_second h_this_now_months h_this_now_days h_this_now_seconds, (h_this_now_months, .inl (cI, 8, .inl f_this_now_months)), (h_this_now_days, .inl (cI, 8, .inl f_this_now_days)), (h_this_now_seconds, .inl (cI, 8, .inl f_this_now_seconds))] [cl_X9 h_this h_this_now h_this_kept h_this_told h_this_text h_this_script h_this_momentReader h_this_spanReader h_this_adder h_this_other h_this_trial h_this_ways i_this, cl_X4 h_this_now h_this_now_day h_this_now_second h_this_now_months h_this_now_days h_this_now_seconds, (h_this_now_months, .inl (cI, 8, .inl f_this_now_months)), (h_this_now_days, .inl (cI, 8, .inl f_this_now_days)), (h_this_now_seconds, .inl (cI, 8, .inl f_this_now_seconds))] r := by
  refine ML.of (cc := cX9_share) (maxL := 7) (by decide) (Nat.le_of_ble_eq_true rfl) (fun p e s m args below meth c A Q ls KC hN hK hP hD hA hl hEnd => ?_)
  obtain ⟨hx, hb, hml, hown, hts⟩ := KC
  have hown : s.vm.findClass "DateSpans" = some m.cls := hown
  have hl : lv_has ls 7 [(0, .ref h_this), (1, .int p1), (2, .int p2)] := hl
  have hS : va_S A s.heap s.heap [] := va_S.rf
  have h := hf
  unfold fX9_share at h
  refine lv_iload_n hx hb dX9_share_0 rfl (lv_at hl 1 rfl) ?_
  obtain ⟨r1, hc2, h⟩ := bd1_at h
  refine kjSI (kS0 (own := "DateSpans") (As := [.int p1]) (rest := []) ⟨hx, hb, hml, hown, hts⟩ (kX9_isSlot l N p1 r1 hc2) (kgS (kq q_387 rfl) (kq q_388 rfl) (kq q_57 rfl) (kq q_389 rfl)) yd_X9_isSlot ⟨Nat.le_of_ble_eq_true rfl, Nat.le_of_ble_eq_true rfl⟩ rfl rfl hl.1 rfl (lv_room (Nat.le_of_ble_eq_true rfl)) dX9_share_1) ?_
  refine lv_if_eq (tgt := 14) hx hb dX9_share_4 (by decide) (fun c3 => ?_) (fun c3 => ?_)
  · have h := ite_t c3 h
    refine lv_ldc2 (v := (-1 : Int64)) hx hb hown (hts _ (kq q_657 rfl)) dX9_share_14 ?_
    obtain rfl := pj1 h
    exact hEnd _ _ _ _ hP hS dX9_share_17
  have h := ite_f c3 h
  refine lv_iload_n hx hb dX9_share_7 rfl (lv_at hl 2 rfl) ?_
  obtain ⟨r4, hc5, h⟩ := bd1_at h
  refine kjSI (kS0 (own := "DateSpans") (As := [.int p2]) (rest := []) ⟨hx, hb, hml, hown, hts⟩ (kX9_isSlot l N p2 r4 hc5) (kgS (kq q_387 rfl) (kq q_388 rfl) (kq q_57 rfl) (kq q_389 rfl)) yd_X9_isSlot ⟨Nat.le_of_ble_eq_true rfl, Nat.le_of_ble_eq_true rfl⟩ rfl rfl hl.1 rfl (lv_room (Nat.le_of_ble_eq_true rfl)) dX9_share_8) ?_
  refine lv_if_ne (tgt := 18) hx hb dX9_share_11 (by decide) (fun c6 => ?_) (fun c6 => ?_)
  · have h := ite_f c6 h
    refine lv_aload_n hx hb dX9_share_18 rfl (lv_at hl 0 rfl) ?_
    refine lv_iload_n hx hb dX9_share_19 rfl (lv_at hl 1 rfl) ?_
    obtain ⟨r7, hc8, h⟩ := bd1_at h
    refine kjL (kV (own := "DateSpans") (C := "DateSpans") (b := h_this) (As := [.int p1]) (rest := []) ⟨hx, hb, hml, hown, hts⟩ (kX9_lengthOf l dC dI cI cJ cB h_this h_this_now h_this_kept h_this_told h_this_text h_this_script h_this_momentReader h_this_spanReader h_this_adder h_this_other h_this_trial h_this_ways h_this_now_day h_this_now_second h_this_now_months h_this_now_days h_this_now_seconds N p1 i_this f_this_now_months f_this_now_days f_this_now_seconds r7 hc8 _) (kgV (kq q_810 rfl) (kq q_812 rfl) (kq q_14 rfl) (kq q_57 rfl) (kq q_813 rfl)) yd_X9_lengthOf ⟨Nat.le_of_ble_eq_true rfl, Nat.le_of_ble_eq_true rfl⟩ hN hK hP hD [0, 1, 2, 3, 4] rfl rfl (ci := 8) rfl rfl rfl rfl rfl hl.1 rfl (lv_room (Nat.le_of_ble_eq_true rfl)) dX9_share_20) hP hD hS hA [0, 1, 2, 3, 4] rfl rfl (fun H locs hP hD hS => ?_)
    have hP : va_P (dC, dI) vwCl [cl_X9 h_this h_this_now h_this_kept h_this_told h_this_text h_this_script h_this_momentReader h_this_spanReader h_this_adder h_this_other h_this_trial h_this_ways i_this, cl_X4 h_this_now h_this_now_day h_this_now_second h_this_now_months h_this_now_days h_this_now_seconds, (h_this_now_months, .inl (cI, 8, .inl f_this_now_months)), (h_this_now_days, .inl (cI, 8, .inl f_this_now_days)), (h_this_now_seconds, .inl (cI, 8, .inl f_this_now_seconds))] H := hP
    have hD : va_D A [cl_X9 h_this h_this_now h_this_kept h_this_told h_this_text h_this_script h_this_momentReader h_this_spanReader h_this_adder h_this_other h_this_trial h_this_ways i_this, cl_X4 h_this_now h_this_now_day h_this_now_second h_this_now_months h_this_now_days h_this_now_seconds, (h_this_now_months, .inl (cI, 8, .inl f_this_now_months)), (h_this_now_days, .inl (cI, 8, .inl f_this_now_days)), (h_this_now_seconds, .inl (cI, 8, .inl f_this_now_seconds))] := hD
    refine lv_lstore_n (lv' := [(3, .long r7), (0, .ref h_this), (1, .int p1), (2, .int p2)]) hx hb dX9_share_23 rfl hl (by decide) rfl (fun ls hl => ?_)
    refine lv_aload_n hx hb dX9_share_24 rfl (lv_at hl 1 rfl) ?_
    refine lv_iload_n hx hb dX9_share_25 rfl (lv_at hl 3 rfl) ?_
    obtain ⟨r9, hc10, h⟩ := bd1_at h
    refine kjL (kV (own := "DateSpans") (C := "DateSpans") (b := h_this) (As := [.int p2]) (rest := []) ⟨hx, hb, hml, hown, hts⟩ (kX9_lengthOf l dC dI cI cJ cB h_this h_this_now h_this_kept h_this_told h_this_text h_this_script h_this_momentReader h_this_spanReader h_this_adder h_this_other h_this_trial h_this_ways h_this_now_day h_this_now_second h_this_now_months h_this_now_days h_this_now_seconds N p2 i_this f_this_now_months f_this_now_days f_this_now_seconds r9 hc10 _) (kgV (kq q_810 rfl) (kq q_812 rfl) (kq q_14 rfl) (kq q_57 rfl) (kq q_813 rfl)) yd_X9_lengthOf ⟨Nat.le_of_ble_eq_true rfl, Nat.le_of_ble_eq_true rfl⟩ hN hK hP hD [0, 1, 2, 3, 4] rfl rfl (ci := 8) rfl rfl rfl rfl rfl hl.1 rfl (lv_room (Nat.le_of_ble_eq_true rfl)) dX9_share_26) hP hD hS hA [0, 1, 2, 3, 4] rfl rfl (fun H locs hP hD hS => ?_)
    have hP : va_P (dC, dI) vwCl [cl_X9 h_this h_this_now h_this_kept h_this_told h_this_text h_this_script h_this_momentReader h_this_spanReader h_this_adder h_this_other h_this_trial h_this_ways i_this, cl_X4 h_this_now h_this_now_day h_this_now_second h_this_now_months h_this_now_days h_this_now_seconds, (h_this_now_months, .inl (cI, 8, .inl f_this_now_months)), (h_this_now_days, .inl (cI, 8, .inl f_this_now_days)), (h_this_now_seconds, .inl (cI, 8, .inl f_this_now_seconds))] H := hP
    have hD : va_D A [cl_X9 h_this h_this_now h_this_kept h_this_told h_this_text h_this_script h_this_momentReader h_this_spanReader h_this_adder h_this_other h_this_trial h_this_ways i_this, cl_X4 h_this_now h_this_now_day h_this_now_second h_this_now_months h_this_now_days h_this_now_seconds, (h_this_now_months, .inl (cI, 8, .inl f_this_now_months)), (h_this_now_days, .inl (cI, 8, .inl f_this_now_days)), (h_this_now_seconds, .inl (cI, 8, .inl f_this_now_seconds))] := hD
    refine lv_lstore (lv' := [(5, .long r9), (3, .long r7), (0, .ref h_this), (1, .int p1), (2, .int p2)]) hx hb dX9_share_29 hl (by decide) rfl (fun ls hl => ?_)
    refine lv_lload hx hb dX9_share_31 (lv_at hl 0 rfl) ?_
    refine lv_lconst (v := (0 : Int64)) hx hb dX9_share_33 (by decide) ?_
    refine W.lcmp hx hb dX9_share_34 ?_
    refine lv_if_ne (tgt := 59) hx hb dX9_share_35 (by decide) (fun c11 => ?_) (fun c11 => ?_)
    · have h := ite_f c11 h
      refine lv_lload_n hx hb dX9_share_59 rfl (lv_at hl 1 rfl) ?_
      refine lv_lconst (v := (0 : Int64)) hx hb dX9_share_60 (by decide) ?_
      refine W.lcmp hx hb dX9_share_61 ?_
      refine lv_if_ne (tgt := 71) hx hb dX9_share_62 (by decide) (fun c12 => ?_) (fun c12 => ?_)
      · have h := ite_f c12 h
        refine lv_lload_n hx hb dX9_share_71 rfl (lv_at hl 1 rfl) ?_
        refine lv_l2d hx hb dX9_share_72 ?_
        refine lv_lload hx hb dX9_share_73 (lv_at hl 0 rfl) ?_
        refine lv_l2d hx hb dX9_share_75 ?_
        obtain ⟨hn13, h⟩ := g64_at h
        refine lv_ddiv hx hb dX9_share_76 hn13 ?_
        obtain ⟨r14, hc15, h⟩ := bd1_at h
        refine kjSL (kS0 (own := "DateSpans") (As := [.double (FP.ddiv (FP.l2d r7) (FP.l2d r9))]) (rest := []) ⟨hx, hb, hml, hown, hts⟩ (kX9_bitsOf l N (FP.ddiv (FP.l2d r7) (FP.l2d r9)) r14 hc15) (kgS (kq q_825 rfl) (kq q_826 rfl) (kq q_57 rfl) (kq q_827 rfl)) yd_X9_bitsOf ⟨Nat.le_of_ble_eq_true rfl, Nat.le_of_ble_eq_true rfl⟩ rfl rfl hl.1 rfl (lv_room (Nat.le_of_ble_eq_true rfl)) dX9_share_77) ?_
        obtain rfl := pj1 h
        exact hEnd _ _ _ _ hP hS dX9_share_80
      have h := ite_t c12 h
      refine lv_lload hx hb dX9_share_65 (lv_at hl 0 rfl) ?_
      obtain ⟨r16, hc17, h⟩ := bd1_at h
      refine kjSL (kS0 (own := "DateSpans") (As := [.long r9]) (rest := []) ⟨hx, hb, hml, hown, hts⟩ (kX9_signBit l N r9 r16 hc17) (kgS (kq q_820 rfl) (kq q_821 rfl) (kq q_57 rfl) (kq q_822 rfl)) yd_X9_signBit ⟨Nat.le_of_ble_eq_true rfl, Nat.le_of_ble_eq_true rfl⟩ rfl rfl hl.1 rfl (lv_room (Nat.le_of_ble_eq_true rfl)) dX9_share_67) ?_
      obtain rfl := pj1 h
      exact hEnd _ _ _ _ hP hS dX9_share_70
    have h := ite_t c11 h
    refine lv_lload_n hx hb dX9_share_38 rfl (lv_at hl 1 rfl) ?_
    refine lv_lconst (v := (0 : Int64)) hx hb dX9_share_39 (by decide) ?_
    refine W.lcmp hx hb dX9_share_40 ?_
    refine lv_if_ne (tgt := 50) hx hb dX9_share_41 (by decide) (fun c18 => ?_) (fun c18 => ?_)
    · have h := ite_f c18 h
      refine lv_lload_n hx hb dX9_share_50 rfl (lv_at hl 1 rfl) ?_
      obtain ⟨r19, hc20, h⟩ := bd1_at h
      refine kjSL (kS0 (own := "DateSpans") (As := [.long r7]) (rest := []) ⟨hx, hb, hml, hown, hts⟩ (kX9_signBit l N r7 r19 hc20) (kgS (kq q_820 rfl) (kq q_821 rfl) (kq q_57 rfl) (kq q_822 rfl)) yd_X9_signBit ⟨Nat.le_of_ble_eq_true rfl, Nat.le_of_ble_eq_true rfl⟩ rfl rfl hl.1 rfl (lv_room (Nat.le_of_ble_eq_true rfl)) dX9_share_51) ?_
      refine lv_ldc2 (v := (9218868437227405312 : Int64)) hx hb hown (hts _ (kq q_824 rfl)) dX9_share_54 ?_
      refine lv_lor hx hb dX9_share_57 ?_
      obtain rfl := pj1 h
      exact hEnd _ _ _ _ hP hS dX9_share_58
    have h := ite_t c18 h
    refine lv_ldc2 (v := (9221120237041090560 : Int64)) hx hb hown (hts _ (kq q_819 rfl)) dX9_share_44 ?_
    refine lv_goto (tgt := 58) hx hb dX9_share_47 (by decide) ?_
    obtain rfl := pj1 h
    exact hEnd _ _ _ _ hP hS dX9_share_58
  have h := ite_t c6 h
  refine lv_ldc2 (v := (-1 : Int64)) hx hb hown (hts _ (kq q_657 rfl)) dX9_share_14 ?_
  obtain rfl := pj1 h
  exact hEnd _ _ _ _ hP hS dX9_share_17
noncomputable def fX9_ranks (N : Nat) (i_this : Int32) (f_this_now_day : Nat → Int32) (f_this_now_second : Nat → Int32) (f_this_now_months : Nat → Int32) (f_this_now_days : Nat → Int32) (f_this_now_seconds : Nat → Int32) (i_this_told : Int32) (f_this_told_numbers : Nat → Int64) : Option (Int32 × Int32 × (Nat → Int64)) := (bd3 (fX9_ranked N (1 : Int32) i_this f_this_now_day f_this_now_second f_this_now_months f_this_now_days f_this_now_seconds i_this_told f_this_told_numbers) fun r1 i_this_told_2 f_this_told_numbers_3 => (some (r1, i_this_told_2, f_this_told_numbers_3)))
set_option maxHeartbeats 4000000 in
set_option maxRecDepth 100000 in
theorem kX9_ranks (l : Launch) (dC : Nat → ClassId) (dI : Nat → Nat → Nat) (cI cJ cB : ClassId) (h_this h_this_now h_this_kept h_this_told h_this_text h_this_script h_this_momentReader h_this_spanReader h_this_adder h_this_other h_this_trial h_this_ways h_this_now_day h_this_now_second h_this_now_months h_this_now_days h_this_now_seconds h_this_told_numbers : Nat) (N : Nat) (i_this : Int32) (f_this_now_day : Nat → Int32) (f_this_now_second : Nat → Int32) (f_this_now_months : Nat → Int32) (f_this_now_days : Nat → Int32) (f_this_now_seconds : Nat → Int32) (i_this_told : Int32) (f_this_told_numbers : Nat → Int64) (r : Int32) (o_i_this_told : Int32) (o_f_this_told_numbers : Nat → Int64) (hf : fX9_ranks N i_this f_this_now_day f_this_now_second f_this_now_months f_this_now_days f_this_now_seconds i_this_told f_this_told_numbers = some (r, o_i_this_told, o_f_this_told_numbers)) : MI l yX9_ranks (kws yX9_ranks cX9_ranks 1 (some .int)) (kR 4 88) (dC, dI) (kT cI cJ cB) [.ref h_this] [cl_X9 h_this h_this_now h_this_kept h_this_told h_this_text h_this_script h_this_momentReader h_this_spanReader h_this_adder h_this_other h_this_trial h_this_ways i_this, cl_X4 h_this_now h_this_now_day h_this_now_second h_this_now_months h_this_now_days h_this_now_seconds, (h_this_now_day, .inl (cI, 8, .inl f_this_now_day)), (h_this_now_second, .inl (cI, 8, .inl f_this_now_second)), (h_this_now_months, .inl (cI, 8, .inl f_this_now_months)), (h_this_now_days, .inl (cI, 8, .inl f_this_now_days)), (h_this_now_seconds, .inl (cI, 8, .inl f_this_now_seconds)), cl_X3 h_this_told h_this_told_numbers i_this_told, (h_this_told_numbers, .inl (cJ, 8, .inr (.inl f_this_told_numbers)))] [cl_X9 h_this h_this_now h_this_kept h_this_told h_this_text h_this_script h_this_momentReader h_this_spanReader h_this_adder h_this_other h_this_trial h_this_ways i_this, cl_X4 h_this_now h_this_now_day h_this_now_second h_this_now_months h_this_now_days h_this_now_seconds, (h_this_now_day, .inl (cI, 8, .inl f_this_now_day)), (h_this_now_second, .inl (cI, 8, .inl f_this_now_second)), (h_this_now_months, .inl (cI, 8, .inl f_this_now_months)), (h_this_now_days, .inl (cI, 8, .inl f_this_now_days)), (h_this_now_seconds, .inl (cI, 8, .inl f_this_now_seconds)), cl_X3 h_this_told h_this_told_numbers o_i_this_told, (h_this_told_numbers, .inl (cJ, 8, .inr (.inl o_f_this_told_numbers)))] r := by
  refine MI.of (cc := cX9_ranks) (maxL := 1) (by decide) (Nat.le_of_ble_eq_true rfl) (fun p e s m args below meth c A Q ls KC hN hK hP hD hA hl hEnd => ?_)
  obtain ⟨hx, hb, hml, hown, hts⟩ := KC
  have hown : s.vm.findClass "DateSpans" = some m.cls := hown
  have hl : lv_has ls 1 [(0, .ref h_this)] := hl
  have hS : va_S A s.heap s.heap [] := va_S.rf
  have h := hf
  unfold fX9_ranks at h
  refine lv_aload_n hx hb dX9_ranks_0 rfl (lv_at hl 0 rfl) ?_
  refine lv_iconst (v := (1 : Int32)) hx hb dX9_ranks_1 (by decide) ?_
  obtain ⟨r1, i_this_told_2, f_this_told_numbers_3, hc4, h⟩ := bd3_at h
  refine kjI (kV (own := "DateSpans") (C := "DateSpans") (b := h_this) (As := [.int (1 : Int32)]) (rest := []) ⟨hx, hb, hml, hown, hts⟩ (kX9_ranked l dC dI cI cJ cB h_this h_this_now h_this_kept h_this_told h_this_text h_this_script h_this_momentReader h_this_spanReader h_this_adder h_this_other h_this_trial h_this_ways h_this_now_day h_this_now_second h_this_now_months h_this_now_days h_this_now_seconds h_this_told_numbers N (1 : Int32) i_this f_this_now_day f_this_now_second f_this_now_months f_this_now_days f_this_now_seconds i_this_told f_this_told_numbers r1 i_this_told_2 f_this_told_numbers_3 hc4 _) (kgV (kq q_806 rfl) (kq q_808 rfl) (kq q_13 rfl) (kq q_57 rfl) (kq q_809 rfl)) yd_X9_ranked ⟨Nat.le_of_ble_eq_true rfl, Nat.le_of_ble_eq_true rfl⟩ hN hK hP hD [0, 1, 2, 3, 4, 5, 6, 7, 8] rfl rfl (ci := 8) rfl rfl rfl rfl rfl hl.1 rfl (lv_room (Nat.le_of_ble_eq_true rfl)) dX9_ranks_2) hP hD hS hA [0, 1, 2, 3, 4, 5, 6, 7, 8] rfl rfl (fun H locs hP hD hS => ?_)
  have hP : va_P (dC, dI) vwCl [cl_X9 h_this h_this_now h_this_kept h_this_told h_this_text h_this_script h_this_momentReader h_this_spanReader h_this_adder h_this_other h_this_trial h_this_ways i_this, cl_X4 h_this_now h_this_now_day h_this_now_second h_this_now_months h_this_now_days h_this_now_seconds, (h_this_now_day, .inl (cI, 8, .inl f_this_now_day)), (h_this_now_second, .inl (cI, 8, .inl f_this_now_second)), (h_this_now_months, .inl (cI, 8, .inl f_this_now_months)), (h_this_now_days, .inl (cI, 8, .inl f_this_now_days)), (h_this_now_seconds, .inl (cI, 8, .inl f_this_now_seconds)), cl_X3 h_this_told h_this_told_numbers i_this_told_2, (h_this_told_numbers, .inl (cJ, 8, .inr (.inl f_this_told_numbers_3)))] H := hP
  have hD : va_D A [cl_X9 h_this h_this_now h_this_kept h_this_told h_this_text h_this_script h_this_momentReader h_this_spanReader h_this_adder h_this_other h_this_trial h_this_ways i_this, cl_X4 h_this_now h_this_now_day h_this_now_second h_this_now_months h_this_now_days h_this_now_seconds, (h_this_now_day, .inl (cI, 8, .inl f_this_now_day)), (h_this_now_second, .inl (cI, 8, .inl f_this_now_second)), (h_this_now_months, .inl (cI, 8, .inl f_this_now_months)), (h_this_now_days, .inl (cI, 8, .inl f_this_now_days)), (h_this_now_seconds, .inl (cI, 8, .inl f_this_now_seconds)), cl_X3 h_this_told h_this_told_numbers i_this_told_2, (h_this_told_numbers, .inl (cJ, 8, .inr (.inl f_this_told_numbers_3)))] := hD
  obtain ⟨rfl, rfl, rfl⟩ := pj3 h
  exact hEnd _ _ _ _ hP hS dX9_ranks_5 rfl
noncomputable def fX9_rest (N : Nat) (p1 : Int32) (p2 : Int32) (i_this : Int32) (f_this_now_months : Nat → Int32) (f_this_now_days : Nat → Int32) (f_this_now_seconds : Nat → Int32) : Option (Int64) := (bd1 (fX9_isSlot N p1) fun r1 => (if r1 = (0 : Int32) then (some (-1 : Int64)) else (bd1 (fX9_isSlot N p2) fun r4 => (if r4 = (0 : Int32) then (some (-1 : Int64)) else (bd1 (fX9_lengthOf N p1 i_this f_this_now_months f_this_now_days f_this_now_seconds) fun r7 => (bd1 (fX9_lengthOf N p2 i_this f_this_now_months f_this_now_days f_this_now_seconds) fun r9 => (if (lg_cmp r9 (0 : Int64)) = (0 : Int32) then (some (9221120237041090560 : Int64)) else (gnl r9 (nm (r7 - r7 / r9 * r9) fun z13 => (if (lg_cmp z13 (0 : Int64)) = (0 : Int32) then (bd1 (fX9_signBit N r7) fun r17 => (some r17)) else (bd1 (fX9_bitsOf N (FP.l2d z13)) fun r15 => (some r15))))))))))))
set_option maxHeartbeats 4000000 in
set_option maxRecDepth 100000 in
theorem kX9_rest (l : Launch) (dC : Nat → ClassId) (dI : Nat → Nat → Nat) (cI cJ cB : ClassId) (h_this h_this_now h_this_kept h_this_told h_this_text h_this_script h_this_momentReader h_this_spanReader h_this_adder h_this_other h_this_trial h_this_ways h_this_now_day h_this_now_second h_this_now_months h_this_now_days h_this_now_seconds : Nat) (N : Nat) (p1 : Int32) (p2 : Int32) (i_this : Int32) (f_this_now_months : Nat → Int32) (f_this_now_days : Nat → Int32) (f_this_now_seconds : Nat → Int32) (r : Int64) (hf : fX9_rest N p1 p2 i_this f_this_now_months f_this_now_days f_this_now_seconds = some r) : ML l yX9_rest (kws yX9_rest cX9_rest 9 (some .long)) (kR 3 62) (dC, dI) (kT cI cJ cB) [.ref h_this, .int p1, .int p2] [cl_X9 h_this h_this_now h_this_kept h_this_told h_this_text h_this_script h_this_momentReader h_this_spanReader h_this_adder h_this_other h_this_trial h_this_ways i_this, cl_X4 h_this_now h_this_now_day h_this_now_second h_this_now_months h_this_now_days h_this_now_seconds, (h_this_now_months, .inl (cI, 8, .inl f_this_now_months)), (h_this_now_days, .inl (cI, 8, .inl f_this_now_days)), (h_this_now_seconds, .inl (cI, 8, .inl f_this_now_seconds))] [cl_X9 h_this h_this_now h_this_kept h_this_told h_this_text h_this_script h_this_momentReader h_this_spanReader h_this_adder h_this_other h_this_trial h_this_ways i_this, cl_X4 h_this_now h_this_now_day h_this_now_second h_this_now_months h_this_now_days h_this_now_seconds, (h_this_now_months, .inl (cI, 8, .inl f_this_now_months)), (h_this_now_days, .inl (cI, 8, .inl f_this_now_days)), (h_this_now_seconds, .inl (cI, 8, .inl f_this_now_seconds))] r := by
  refine ML.of (cc := cX9_rest) (maxL := 9) (by decide) (Nat.le_of_ble_eq_true rfl) (fun p e s m args below meth c A Q ls KC hN hK hP hD hA hl hEnd => ?_)
  obtain ⟨hx, hb, hml, hown, hts⟩ := KC
  have hown : s.vm.findClass "DateSpans" = some m.cls := hown
  have hl : lv_has ls 9 [(0, .ref h_this), (1, .int p1), (2, .int p2)] := hl
  have hS : va_S A s.heap s.heap [] := va_S.rf
  have h := hf
  unfold fX9_rest at h
  refine lv_iload_n hx hb dX9_rest_0 rfl (lv_at hl 1 rfl) ?_
  obtain ⟨r1, hc2, h⟩ := bd1_at h
  refine kjSI (kS0 (own := "DateSpans") (As := [.int p1]) (rest := []) ⟨hx, hb, hml, hown, hts⟩ (kX9_isSlot l N p1 r1 hc2) (kgS (kq q_387 rfl) (kq q_388 rfl) (kq q_57 rfl) (kq q_389 rfl)) yd_X9_isSlot ⟨Nat.le_of_ble_eq_true rfl, Nat.le_of_ble_eq_true rfl⟩ rfl rfl hl.1 rfl (lv_room (Nat.le_of_ble_eq_true rfl)) dX9_rest_1) ?_
  refine lv_if_eq (tgt := 14) hx hb dX9_rest_4 (by decide) (fun c3 => ?_) (fun c3 => ?_)
  · have h := ite_t c3 h
    refine lv_ldc2 (v := (-1 : Int64)) hx hb hown (hts _ (kq q_657 rfl)) dX9_rest_14 ?_
    obtain rfl := pj1 h
    exact hEnd _ _ _ _ hP hS dX9_rest_17
  have h := ite_f c3 h
  refine lv_iload_n hx hb dX9_rest_7 rfl (lv_at hl 2 rfl) ?_
  obtain ⟨r4, hc5, h⟩ := bd1_at h
  refine kjSI (kS0 (own := "DateSpans") (As := [.int p2]) (rest := []) ⟨hx, hb, hml, hown, hts⟩ (kX9_isSlot l N p2 r4 hc5) (kgS (kq q_387 rfl) (kq q_388 rfl) (kq q_57 rfl) (kq q_389 rfl)) yd_X9_isSlot ⟨Nat.le_of_ble_eq_true rfl, Nat.le_of_ble_eq_true rfl⟩ rfl rfl hl.1 rfl (lv_room (Nat.le_of_ble_eq_true rfl)) dX9_rest_8) ?_
  refine lv_if_ne (tgt := 18) hx hb dX9_rest_11 (by decide) (fun c6 => ?_) (fun c6 => ?_)
  · have h := ite_f c6 h
    refine lv_aload_n hx hb dX9_rest_18 rfl (lv_at hl 0 rfl) ?_
    refine lv_iload_n hx hb dX9_rest_19 rfl (lv_at hl 1 rfl) ?_
    obtain ⟨r7, hc8, h⟩ := bd1_at h
    refine kjL (kV (own := "DateSpans") (C := "DateSpans") (b := h_this) (As := [.int p1]) (rest := []) ⟨hx, hb, hml, hown, hts⟩ (kX9_lengthOf l dC dI cI cJ cB h_this h_this_now h_this_kept h_this_told h_this_text h_this_script h_this_momentReader h_this_spanReader h_this_adder h_this_other h_this_trial h_this_ways h_this_now_day h_this_now_second h_this_now_months h_this_now_days h_this_now_seconds N p1 i_this f_this_now_months f_this_now_days f_this_now_seconds r7 hc8 _) (kgV (kq q_810 rfl) (kq q_812 rfl) (kq q_14 rfl) (kq q_57 rfl) (kq q_813 rfl)) yd_X9_lengthOf ⟨Nat.le_of_ble_eq_true rfl, Nat.le_of_ble_eq_true rfl⟩ hN hK hP hD [0, 1, 2, 3, 4] rfl rfl (ci := 8) rfl rfl rfl rfl rfl hl.1 rfl (lv_room (Nat.le_of_ble_eq_true rfl)) dX9_rest_20) hP hD hS hA [0, 1, 2, 3, 4] rfl rfl (fun H locs hP hD hS => ?_)
    have hP : va_P (dC, dI) vwCl [cl_X9 h_this h_this_now h_this_kept h_this_told h_this_text h_this_script h_this_momentReader h_this_spanReader h_this_adder h_this_other h_this_trial h_this_ways i_this, cl_X4 h_this_now h_this_now_day h_this_now_second h_this_now_months h_this_now_days h_this_now_seconds, (h_this_now_months, .inl (cI, 8, .inl f_this_now_months)), (h_this_now_days, .inl (cI, 8, .inl f_this_now_days)), (h_this_now_seconds, .inl (cI, 8, .inl f_this_now_seconds))] H := hP
    have hD : va_D A [cl_X9 h_this h_this_now h_this_kept h_this_told h_this_text h_this_script h_this_momentReader h_this_spanReader h_this_adder h_this_other h_this_trial h_this_ways i_this, cl_X4 h_this_now h_this_now_day h_this_now_second h_this_now_months h_this_now_days h_this_now_seconds, (h_this_now_months, .inl (cI, 8, .inl f_this_now_months)), (h_this_now_days, .inl (cI, 8, .inl f_this_now_days)), (h_this_now_seconds, .inl (cI, 8, .inl f_this_now_seconds))] := hD
    refine lv_lstore_n (lv' := [(3, .long r7), (0, .ref h_this), (1, .int p1), (2, .int p2)]) hx hb dX9_rest_23 rfl hl (by decide) rfl (fun ls hl => ?_)
    refine lv_aload_n hx hb dX9_rest_24 rfl (lv_at hl 1 rfl) ?_
    refine lv_iload_n hx hb dX9_rest_25 rfl (lv_at hl 3 rfl) ?_
    obtain ⟨r9, hc10, h⟩ := bd1_at h
    refine kjL (kV (own := "DateSpans") (C := "DateSpans") (b := h_this) (As := [.int p2]) (rest := []) ⟨hx, hb, hml, hown, hts⟩ (kX9_lengthOf l dC dI cI cJ cB h_this h_this_now h_this_kept h_this_told h_this_text h_this_script h_this_momentReader h_this_spanReader h_this_adder h_this_other h_this_trial h_this_ways h_this_now_day h_this_now_second h_this_now_months h_this_now_days h_this_now_seconds N p2 i_this f_this_now_months f_this_now_days f_this_now_seconds r9 hc10 _) (kgV (kq q_810 rfl) (kq q_812 rfl) (kq q_14 rfl) (kq q_57 rfl) (kq q_813 rfl)) yd_X9_lengthOf ⟨Nat.le_of_ble_eq_true rfl, Nat.le_of_ble_eq_true rfl⟩ hN hK hP hD [0, 1, 2, 3, 4] rfl rfl (ci := 8) rfl rfl rfl rfl rfl hl.1 rfl (lv_room (Nat.le_of_ble_eq_true rfl)) dX9_rest_26) hP hD hS hA [0, 1, 2, 3, 4] rfl rfl (fun H locs hP hD hS => ?_)
    have hP : va_P (dC, dI) vwCl [cl_X9 h_this h_this_now h_this_kept h_this_told h_this_text h_this_script h_this_momentReader h_this_spanReader h_this_adder h_this_other h_this_trial h_this_ways i_this, cl_X4 h_this_now h_this_now_day h_this_now_second h_this_now_months h_this_now_days h_this_now_seconds, (h_this_now_months, .inl (cI, 8, .inl f_this_now_months)), (h_this_now_days, .inl (cI, 8, .inl f_this_now_days)), (h_this_now_seconds, .inl (cI, 8, .inl f_this_now_seconds))] H := hP
    have hD : va_D A [cl_X9 h_this h_this_now h_this_kept h_this_told h_this_text h_this_script h_this_momentReader h_this_spanReader h_this_adder h_this_other h_this_trial h_this_ways i_this, cl_X4 h_this_now h_this_now_day h_this_now_second h_this_now_months h_this_now_days h_this_now_seconds, (h_this_now_months, .inl (cI, 8, .inl f_this_now_months)), (h_this_now_days, .inl (cI, 8, .inl f_this_now_days)), (h_this_now_seconds, .inl (cI, 8, .inl f_this_now_seconds))] := hD
    refine lv_lstore (lv' := [(5, .long r9), (3, .long r7), (0, .ref h_this), (1, .int p1), (2, .int p2)]) hx hb dX9_rest_29 hl (by decide) rfl (fun ls hl => ?_)
    refine lv_lload hx hb dX9_rest_31 (lv_at hl 0 rfl) ?_
    refine lv_lconst (v := (0 : Int64)) hx hb dX9_rest_33 (by decide) ?_
    refine W.lcmp hx hb dX9_rest_34 ?_
    refine lv_if_ne (tgt := 42) hx hb dX9_rest_35 (by decide) (fun c11 => ?_) (fun c11 => ?_)
    · have h := ite_f c11 h
      refine lv_lload_n hx hb dX9_rest_42 rfl (lv_at hl 1 rfl) ?_
      refine lv_lload hx hb dX9_rest_43 (lv_at hl 0 rfl) ?_
      obtain ⟨hn12, h⟩ := gnl_at h
      refine lv_lrem hx hb dX9_rest_45 hn12 ?_
      refine lv_topl (fun z13 ez13 => ?_)
      have h := nm_at ez13 h
      refine lv_lstore (lv' := [(7, .long z13), (5, .long r9), (3, .long r7), (0, .ref h_this), (1, .int p1), (2, .int p2)]) hx hb dX9_rest_46 hl (by decide) rfl (fun ls hl => ?_)
      refine lv_lload hx hb dX9_rest_48 (lv_at hl 0 rfl) ?_
      refine lv_lconst (v := (0 : Int64)) hx hb dX9_rest_50 (by decide) ?_
      refine W.lcmp hx hb dX9_rest_51 ?_
      refine lv_if_ne (tgt := 62) hx hb dX9_rest_52 (by decide) (fun c14 => ?_) (fun c14 => ?_)
      · have h := ite_f c14 h
        refine lv_lload hx hb dX9_rest_62 (lv_at hl 0 rfl) ?_
        refine lv_l2d hx hb dX9_rest_64 ?_
        obtain ⟨r15, hc16, h⟩ := bd1_at h
        refine kjSL (kS0 (own := "DateSpans") (As := [.double (FP.l2d z13)]) (rest := []) ⟨hx, hb, hml, hown, hts⟩ (kX9_bitsOf l N (FP.l2d z13) r15 hc16) (kgS (kq q_825 rfl) (kq q_826 rfl) (kq q_57 rfl) (kq q_827 rfl)) yd_X9_bitsOf ⟨Nat.le_of_ble_eq_true rfl, Nat.le_of_ble_eq_true rfl⟩ rfl rfl hl.1 rfl (lv_room (Nat.le_of_ble_eq_true rfl)) dX9_rest_65) ?_
        obtain rfl := pj1 h
        exact hEnd _ _ _ _ hP hS dX9_rest_68
      have h := ite_t c14 h
      refine lv_lload_n hx hb dX9_rest_55 rfl (lv_at hl 2 rfl) ?_
      obtain ⟨r17, hc18, h⟩ := bd1_at h
      refine kjSL (kS0 (own := "DateSpans") (As := [.long r7]) (rest := []) ⟨hx, hb, hml, hown, hts⟩ (kX9_signBit l N r7 r17 hc18) (kgS (kq q_820 rfl) (kq q_821 rfl) (kq q_57 rfl) (kq q_822 rfl)) yd_X9_signBit ⟨Nat.le_of_ble_eq_true rfl, Nat.le_of_ble_eq_true rfl⟩ rfl rfl hl.1 rfl (lv_room (Nat.le_of_ble_eq_true rfl)) dX9_rest_56) ?_
      refine lv_goto (tgt := 68) hx hb dX9_rest_59 (by decide) ?_
      obtain rfl := pj1 h
      exact hEnd _ _ _ _ hP hS dX9_rest_68
    have h := ite_t c11 h
    refine lv_ldc2 (v := (9221120237041090560 : Int64)) hx hb hown (hts _ (kq q_819 rfl)) dX9_rest_38 ?_
    obtain rfl := pj1 h
    exact hEnd _ _ _ _ hP hS dX9_rest_41
  have h := ite_t c6 h
  refine lv_ldc2 (v := (-1 : Int64)) hx hb hown (hts _ (kq q_657 rfl)) dX9_rest_14 ?_
  obtain rfl := pj1 h
  exact hEnd _ _ _ _ hP hS dX9_rest_17
noncomputable def fX9_years_j43 (N : Nat) (i_this : Int32) (f_this_now_months : Nat → Int32) (f_this_now_days : Nat → Int32) (f_this_now_seconds : Nat → Int32) (v2 : UInt32) (t0 : UInt64) : Option (Int32) := (bd1 (fX9_powerOf N t0) fun r1 => (bd1 (fX9_fractionOf N t0 r1 (23 : Int32)) fun r3 => (nm (((r1 + (127 : Int32)) <<< ((23 : Int32) &&& 31)) ||| r3.toInt32) fun z5 => (if (0 : Int32) ≤ (Op.cmpValue (FP.fcmp v2 FP.fconst0) .g) then (some z5) else (some (z5 ||| (-2147483648 : Int32)))))))
noncomputable def fX9_years (N : Nat) (p1 : Int32) (i_this : Int32) (f_this_now_months : Nat → Int32) (f_this_now_days : Nat → Int32) (f_this_now_seconds : Nat → Int32) : Option (Int32) := (bd1 (fX9_isSlot N p1) fun r7 => (if r7 = (0 : Int32) then (some (-1 : Int32)) else (bd1 (fX9_lengthOf N p1 i_this f_this_now_months f_this_now_days f_this_now_seconds) fun r10 => (g64 (FP.ddiv (FP.l2d r10) (4719236215029628928 : UInt64)) (g32 (FP.d2f (FP.ddiv (FP.l2d r10) (4719236215029628928 : UInt64))) (nm (FP.d2f (FP.ddiv (FP.l2d r10) (4719236215029628928 : UInt64))) fun z14 => (if (Op.cmpValue (FP.fcmp z14 FP.fconst0) .l) = (0 : Int32) then (some (0 : Int32)) else (if (0 : Int32) ≤ (Op.cmpValue (FP.fcmp z14 FP.fconst0) .g) then (g64 (FP.f2d z14) (fX9_years_j43 N i_this f_this_now_months f_this_now_days f_this_now_seconds z14 (FP.f2d z14))) else (g64 (FP.f2d (FP.fneg z14)) (fX9_years_j43 N i_this f_this_now_months f_this_now_days f_this_now_seconds z14 (FP.f2d (FP.fneg z14))))))))))))
set_option maxHeartbeats 4000000 in
set_option maxRecDepth 100000 in
theorem kX9_years (l : Launch) (dC : Nat → ClassId) (dI : Nat → Nat → Nat) (cI cJ cB : ClassId) (h_this h_this_now h_this_kept h_this_told h_this_text h_this_script h_this_momentReader h_this_spanReader h_this_adder h_this_other h_this_trial h_this_ways h_this_now_day h_this_now_second h_this_now_months h_this_now_days h_this_now_seconds : Nat) (N : Nat) (p1 : Int32) (i_this : Int32) (f_this_now_months : Nat → Int32) (f_this_now_days : Nat → Int32) (f_this_now_seconds : Nat → Int32) (r : Int32) (hf : fX9_years N p1 i_this f_this_now_months f_this_now_days f_this_now_seconds = some r) : MI l yX9_years (kws yX9_years cX9_years 7 (some .int)) (kR 3 62) (dC, dI) (kT cI cJ cB) [.ref h_this, .int p1] [cl_X9 h_this h_this_now h_this_kept h_this_told h_this_text h_this_script h_this_momentReader h_this_spanReader h_this_adder h_this_other h_this_trial h_this_ways i_this, cl_X4 h_this_now h_this_now_day h_this_now_second h_this_now_months h_this_now_days h_this_now_seconds, (h_this_now_months, .inl (cI, 8, .inl f_this_now_months)), (h_this_now_days, .inl (cI, 8, .inl f_this_now_days)), (h_this_now_seconds, .inl (cI, 8, .inl f_this_now_seconds))] [cl_X9 h_this h_this_now h_this_kept h_this_told h_this_text h_this_script h_this_momentReader h_this_spanReader h_this_adder h_this_other h_this_trial h_this_ways i_this, cl_X4 h_this_now h_this_now_day h_this_now_second h_this_now_months h_this_now_days h_this_now_seconds, (h_this_now_months, .inl (cI, 8, .inl f_this_now_months)), (h_this_now_days, .inl (cI, 8, .inl f_this_now_days)), (h_this_now_seconds, .inl (cI, 8, .inl f_this_now_seconds))] r := by
  refine MI.of (cc := cX9_years) (maxL := 7) (by decide) (Nat.le_of_ble_eq_true rfl) (fun p e s m args below meth c A Q ls KC hN hK hP hD hA hl hEnd => ?_)
  obtain ⟨hx, hb, hml, hown, hts⟩ := KC
  have hown : s.vm.findClass "DateSpans" = some m.cls := hown
  have hl : lv_has ls 7 [(0, .ref h_this), (1, .int p1)] := hl
  have hS : va_S A s.heap s.heap [] := va_S.rf
  have JN_43 : ∀ (v2 : UInt32) (t0 : UInt64) (ls : Array Slot) (H : Heap) (locs : List Loc), (fX9_years_j43 N i_this f_this_now_months f_this_now_days f_this_now_seconds) v2 t0 = some r → lv_has ls 7 [(2, .float v2)] → va_P (dC, dI) vwCl [cl_X9 h_this h_this_now h_this_kept h_this_told h_this_text h_this_script h_this_momentReader h_this_spanReader h_this_adder h_this_other h_this_trial h_this_ways i_this, cl_X4 h_this_now h_this_now_day h_this_now_second h_this_now_months h_this_now_days h_this_now_seconds, (h_this_now_months, .inl (cI, 8, .inl f_this_now_months)), (h_this_now_days, .inl (cI, 8, .inl f_this_now_days)), (h_this_now_seconds, .inl (cI, 8, .inl f_this_now_seconds))] H → va_D A [cl_X9 h_this h_this_now h_this_kept h_this_told h_this_text h_this_script h_this_momentReader h_this_spanReader h_this_adder h_this_other h_this_trial h_this_ways i_this, cl_X4 h_this_now h_this_now_day h_this_now_second h_this_now_months h_this_now_days h_this_now_seconds, (h_this_now_months, .inl (cI, 8, .inl f_this_now_months)), (h_this_now_days, .inl (cI, 8, .inl f_this_now_days)), (h_this_now_seconds, .inl (cI, 8, .inl f_this_now_seconds))] → va_S A s.heap H locs → W p l e (kR 3 62) s m args below meth c H locs 0 0 Q (F0 m 43 ls [.double t0]) := by
    intro v2 t0 ls H locs h hl hP hD hS
    unfold fX9_years_j43 at h
    refine lv_dstore_n (lv' := [(3, .double t0), (2, .float v2)]) hx hb dX9_years_43 rfl hl (by decide) rfl (fun ls hl => ?_)
    refine lv_dload_n hx hb dX9_years_44 rfl (lv_at hl 0 rfl) ?_
    obtain ⟨r1, hc2, h⟩ := bd1_at h
    refine kjSI (kS0 (own := "DateSpans") (As := [.double t0]) (rest := []) ⟨hx, hb, hml, hown, hts⟩ (kX9_powerOf l N t0 r1 hc2) (kgS (kq q_828 rfl) (kq q_829 rfl) (kq q_57 rfl) (kq q_830 rfl)) yd_X9_powerOf ⟨Nat.le_of_ble_eq_true rfl, Nat.le_of_ble_eq_true rfl⟩ rfl rfl hl.1 rfl (lv_room (Nat.le_of_ble_eq_true rfl)) dX9_years_45) ?_
    refine lv_istore (lv' := [(5, .int r1), (3, .double t0), (2, .float v2)]) hx hb dX9_years_48 hl (by decide) rfl (fun ls hl => ?_)
    refine lv_iload hx hb dX9_years_50 (lv_at hl 0 rfl) ?_
    refine lv_bipush (v := (127 : Int32)) hx hb dX9_years_52 (by decide) ?_
    refine lv_iadd hx hb dX9_years_54 ?_
    refine lv_bipush (v := (23 : Int32)) hx hb dX9_years_55 (by decide) ?_
    refine lv_ishl hx hb dX9_years_57 ?_
    refine lv_dload_n hx hb dX9_years_58 rfl (lv_at hl 1 rfl) ?_
    refine lv_iload hx hb dX9_years_59 (lv_at hl 0 rfl) ?_
    refine lv_bipush (v := (23 : Int32)) hx hb dX9_years_61 (by decide) ?_
    obtain ⟨r3, hc4, h⟩ := bd1_at h
    refine kjSL (kS0 (own := "DateSpans") (As := [.double t0, .int r1, .int (23 : Int32)]) (rest := [.int ((r1 + (127 : Int32)) <<< ((23 : Int32) &&& 31))]) ⟨hx, hb, hml, hown, hts⟩ (kX9_fractionOf l N t0 r1 (23 : Int32) r3 hc4) (kgS (kq q_832 rfl) (kq q_833 rfl) (kq q_57 rfl) (kq q_834 rfl)) yd_X9_fractionOf ⟨Nat.le_of_ble_eq_true rfl, Nat.le_of_ble_eq_true rfl⟩ rfl rfl hl.1 rfl (lv_room (Nat.le_of_ble_eq_true rfl)) dX9_years_63) ?_
    refine lv_l2i hx hb dX9_years_66 rfl ?_
    refine lv_ior hx hb dX9_years_67 ?_
    refine lv_topi (fun z5 ez5 => ?_)
    have h := nm_at ez5 h
    refine lv_istore (lv' := [(6, .int z5), (5, .int r1), (3, .double t0), (2, .float v2)]) hx hb dX9_years_68 hl (by decide) rfl (fun ls hl => ?_)
    refine lv_fload_n hx hb dX9_years_70 rfl (lv_at hl 3 rfl) ?_
    refine lv_fconst0 hx hb dX9_years_71 ?_
    refine lv_fcmp hx hb dX9_years_72 ?_
    refine lv_if_ge (tgt := 85) hx hb dX9_years_73 (by decide) (fun c6 => ?_) (fun c6 => ?_)
    · have h := ite_t c6 h
      refine lv_iload hx hb dX9_years_85 (lv_at hl 0 rfl) ?_
      obtain rfl := pj1 h
      exact hEnd _ _ _ _ hP hS dX9_years_87 rfl
    have h := ite_f c6 h
    refine lv_iload hx hb dX9_years_76 (lv_at hl 0 rfl) ?_
    refine lv_ldcw (v := (-2147483648 : Int32)) hx hb hown (hts _ (kq q_848 rfl)) dX9_years_78 ?_
    refine lv_ior hx hb dX9_years_81 ?_
    refine lv_goto (tgt := 87) hx hb dX9_years_82 (by decide) ?_
    obtain rfl := pj1 h
    exact hEnd _ _ _ _ hP hS dX9_years_87 rfl
  have h := hf
  unfold fX9_years at h
  refine lv_iload_n hx hb dX9_years_0 rfl (lv_at hl 1 rfl) ?_
  obtain ⟨r7, hc8, h⟩ := bd1_at h
  refine kjSI (kS0 (own := "DateSpans") (As := [.int p1]) (rest := []) ⟨hx, hb, hml, hown, hts⟩ (kX9_isSlot l N p1 r7 hc8) (kgS (kq q_387 rfl) (kq q_388 rfl) (kq q_57 rfl) (kq q_389 rfl)) yd_X9_isSlot ⟨Nat.le_of_ble_eq_true rfl, Nat.le_of_ble_eq_true rfl⟩ rfl rfl hl.1 rfl (lv_room (Nat.le_of_ble_eq_true rfl)) dX9_years_1) ?_
  refine lv_if_ne (tgt := 9) hx hb dX9_years_4 (by decide) (fun c9 => ?_) (fun c9 => ?_)
  · have h := ite_f c9 h
    refine lv_aload_n hx hb dX9_years_9 rfl (lv_at hl 0 rfl) ?_
    refine lv_iload_n hx hb dX9_years_10 rfl (lv_at hl 1 rfl) ?_
    obtain ⟨r10, hc11, h⟩ := bd1_at h
    refine kjL (kV (own := "DateSpans") (C := "DateSpans") (b := h_this) (As := [.int p1]) (rest := []) ⟨hx, hb, hml, hown, hts⟩ (kX9_lengthOf l dC dI cI cJ cB h_this h_this_now h_this_kept h_this_told h_this_text h_this_script h_this_momentReader h_this_spanReader h_this_adder h_this_other h_this_trial h_this_ways h_this_now_day h_this_now_second h_this_now_months h_this_now_days h_this_now_seconds N p1 i_this f_this_now_months f_this_now_days f_this_now_seconds r10 hc11 _) (kgV (kq q_810 rfl) (kq q_812 rfl) (kq q_14 rfl) (kq q_57 rfl) (kq q_813 rfl)) yd_X9_lengthOf ⟨Nat.le_of_ble_eq_true rfl, Nat.le_of_ble_eq_true rfl⟩ hN hK hP hD [0, 1, 2, 3, 4] rfl rfl (ci := 8) rfl rfl rfl rfl rfl hl.1 rfl (lv_room (Nat.le_of_ble_eq_true rfl)) dX9_years_11) hP hD hS hA [0, 1, 2, 3, 4] rfl rfl (fun H locs hP hD hS => ?_)
    have hP : va_P (dC, dI) vwCl [cl_X9 h_this h_this_now h_this_kept h_this_told h_this_text h_this_script h_this_momentReader h_this_spanReader h_this_adder h_this_other h_this_trial h_this_ways i_this, cl_X4 h_this_now h_this_now_day h_this_now_second h_this_now_months h_this_now_days h_this_now_seconds, (h_this_now_months, .inl (cI, 8, .inl f_this_now_months)), (h_this_now_days, .inl (cI, 8, .inl f_this_now_days)), (h_this_now_seconds, .inl (cI, 8, .inl f_this_now_seconds))] H := hP
    have hD : va_D A [cl_X9 h_this h_this_now h_this_kept h_this_told h_this_text h_this_script h_this_momentReader h_this_spanReader h_this_adder h_this_other h_this_trial h_this_ways i_this, cl_X4 h_this_now h_this_now_day h_this_now_second h_this_now_months h_this_now_days h_this_now_seconds, (h_this_now_months, .inl (cI, 8, .inl f_this_now_months)), (h_this_now_days, .inl (cI, 8, .inl f_this_now_days)), (h_this_now_seconds, .inl (cI, 8, .inl f_this_now_seconds))] := hD
    refine lv_l2d hx hb dX9_years_14 ?_
    refine lv_ldc2d (v := (4719236215029628928 : UInt64)) hx hb hown (hts _ (kq q_847 rfl)) dX9_years_15 ?_
    obtain ⟨hn12, h⟩ := g64_at h
    refine lv_ddiv hx hb dX9_years_18 hn12 ?_
    obtain ⟨hn13, h⟩ := g32_at h
    refine lv_d2f hx hb dX9_years_19 hn13 ?_
    refine lv_topf (fun z14 ez14 => ?_)
    have h := nm_at ez14 h
    refine lv_fstore_n (lv' := [(2, .float z14), (0, .ref h_this), (1, .int p1)]) hx hb dX9_years_20 rfl hl (by decide) rfl (fun ls hl => ?_)
    refine lv_fload_n hx hb dX9_years_21 rfl (lv_at hl 0 rfl) ?_
    refine lv_fconst0 hx hb dX9_years_22 ?_
    refine lv_fcmp hx hb dX9_years_23 ?_
    refine lv_if_ne (tgt := 29) hx hb dX9_years_24 (by decide) (fun c15 => ?_) (fun c15 => ?_)
    · have h := ite_f c15 h
      refine lv_fload_n hx hb dX9_years_29 rfl (lv_at hl 0 rfl) ?_
      refine lv_fconst0 hx hb dX9_years_30 ?_
      refine lv_fcmp hx hb dX9_years_31 ?_
      refine lv_if_ge (tgt := 41) hx hb dX9_years_32 (by decide) (fun c16 => ?_) (fun c16 => ?_)
      · have h := ite_t c16 h
        refine lv_fload_n hx hb dX9_years_41 rfl (lv_at hl 0 rfl) ?_
        obtain ⟨hn17, h⟩ := g64_at h
        refine lv_f2d hx hb dX9_years_42 hn17 ?_
        exact JN_43 _ _ _ _ _ h (lv_sub hl [0] rfl) hP hD hS
      have h := ite_f c16 h
      refine lv_fload_n hx hb dX9_years_35 rfl (lv_at hl 0 rfl) ?_
      refine lv_fneg hx hb dX9_years_36 ?_
      obtain ⟨hn18, h⟩ := g64_at h
      refine lv_f2d hx hb dX9_years_37 hn18 ?_
      refine lv_goto (tgt := 43) hx hb dX9_years_38 (by decide) ?_
      exact JN_43 _ _ _ _ _ h (lv_sub hl [0] rfl) hP hD hS
    have h := ite_t c15 h
    refine lv_iconst (v := (0 : Int32)) hx hb dX9_years_27 (by decide) ?_
    obtain rfl := pj1 h
    exact hEnd _ _ _ _ hP hS dX9_years_28 rfl
  have h := ite_t c9 h
  refine lv_iconst (v := (-1 : Int32)) hx hb dX9_years_7 (by decide) ?_
  obtain rfl := pj1 h
  exact hEnd _ _ _ _ hP hS dX9_years_8 rfl
noncomputable def fX6_putTwo (N : Nat) (p1 : Int32) (i_this : Int32) (f_this_signs : Nat → Int32) : Option (Int32 × (Nat → Int32)) := (bd2 (fX6_put N ((48 : Int32) + (p1 / (10 : Int32))) i_this f_this_signs) fun i_this_1 f_this_signs_2 => (bd2 (fX6_put N ((48 : Int32) + (p1 - p1 / (10 : Int32) * (10 : Int32))) i_this_1 f_this_signs_2) fun i_this_4 f_this_signs_5 => (some (i_this_4, f_this_signs_5))))
set_option maxHeartbeats 4000000 in
set_option maxRecDepth 100000 in
theorem kX6_putTwo (l : Launch) (dC : Nat → ClassId) (dI : Nat → Nat → Nat) (cI cJ cB : ClassId) (h_this h_this_signs : Nat) (N : Nat) (p1 : Int32) (i_this : Int32) (f_this_signs : Nat → Int32) (o_i_this : Int32) (o_f_this_signs : Nat → Int32) (hf : fX6_putTwo N p1 i_this f_this_signs = some (o_i_this, o_f_this_signs)) : MV l yX6_putTwo (kws yX6_putTwo cX6_putTwo 2 (none)) (kR 1 21) (dC, dI) (kT cI cJ cB) [.ref h_this, .int p1] [cl_X6 h_this h_this_signs i_this, (h_this_signs, .inl (cI, 100, .inl f_this_signs))] [cl_X6 h_this h_this_signs o_i_this, (h_this_signs, .inl (cI, 100, .inl o_f_this_signs))] := by
  refine MV.of (cc := cX6_putTwo) (maxL := 2) (by decide) (Nat.le_of_ble_eq_true rfl) (fun p e s m args below meth c A Q ls KC hN hK hP hD hA hl hEnd => ?_)
  obtain ⟨hx, hb, hml, hown, hts⟩ := KC
  have hown : s.vm.findClass "DateSpans$Text" = some m.cls := hown
  have hl : lv_has ls 2 [(0, .ref h_this), (1, .int p1)] := hl
  have hS : va_S A s.heap s.heap [] := va_S.rf
  have h := hf
  unfold fX6_putTwo at h
  refine lv_aload_n hx hb dX6_putTwo_0 rfl (lv_at hl 0 rfl) ?_
  refine lv_bipush (v := (48 : Int32)) hx hb dX6_putTwo_1 (by decide) ?_
  refine lv_iload_n hx hb dX6_putTwo_3 rfl (lv_at hl 1 rfl) ?_
  refine lv_bipush (v := (10 : Int32)) hx hb dX6_putTwo_4 (by decide) ?_
  refine lv_idiv hx hb dX6_putTwo_6 (by decide) ?_
  refine lv_iadd hx hb dX6_putTwo_7 ?_
  obtain ⟨i_this_1, f_this_signs_2, hc3, h⟩ := bd2_at h
  refine kjV (kV (own := "DateSpans$Text") (C := "DateSpans$Text") (b := h_this) (As := [.int ((48 : Int32) + (p1 / (10 : Int32)))]) (rest := []) ⟨hx, hb, hml, hown, hts⟩ (kX6_put l dC dI cI cJ cB h_this h_this_signs N ((48 : Int32) + (p1 / (10 : Int32))) i_this f_this_signs i_this_1 f_this_signs_2 hc3 _) (kgV (kq q_862 rfl) (kq q_338 rfl) (kq q_339 rfl) (kq q_60 rfl) (kq q_340 rfl)) yd_X6_put ⟨Nat.le_of_ble_eq_true rfl, Nat.le_of_ble_eq_true rfl⟩ hN hK hP hD [0, 1] rfl rfl (ci := 5) rfl rfl rfl rfl rfl hl.1 rfl (lv_room (Nat.le_of_ble_eq_true rfl)) dX6_putTwo_8) hP hD hS hA [0, 1] rfl rfl (fun H locs hP hD hS => ?_)
  have hP : va_P (dC, dI) vwCl [cl_X6 h_this h_this_signs i_this_1, (h_this_signs, .inl (cI, 100, .inl f_this_signs_2))] H := hP
  have hD : va_D A [cl_X6 h_this h_this_signs i_this_1, (h_this_signs, .inl (cI, 100, .inl f_this_signs_2))] := hD
  refine lv_aload_n hx hb dX6_putTwo_11 rfl (lv_at hl 0 rfl) ?_
  refine lv_bipush (v := (48 : Int32)) hx hb dX6_putTwo_12 (by decide) ?_
  refine lv_iload_n hx hb dX6_putTwo_14 rfl (lv_at hl 1 rfl) ?_
  refine lv_bipush (v := (10 : Int32)) hx hb dX6_putTwo_15 (by decide) ?_
  refine lv_irem hx hb dX6_putTwo_17 (by decide) ?_
  refine lv_iadd hx hb dX6_putTwo_18 ?_
  obtain ⟨i_this_4, f_this_signs_5, hc6, h⟩ := bd2_at h
  refine kjV (kV (own := "DateSpans$Text") (C := "DateSpans$Text") (b := h_this) (As := [.int ((48 : Int32) + (p1 - p1 / (10 : Int32) * (10 : Int32)))]) (rest := []) ⟨hx, hb, hml, hown, hts⟩ (kX6_put l dC dI cI cJ cB h_this h_this_signs N ((48 : Int32) + (p1 - p1 / (10 : Int32) * (10 : Int32))) i_this_1 f_this_signs_2 i_this_4 f_this_signs_5 hc6 _) (kgV (kq q_862 rfl) (kq q_338 rfl) (kq q_339 rfl) (kq q_60 rfl) (kq q_340 rfl)) yd_X6_put ⟨Nat.le_of_ble_eq_true rfl, Nat.le_of_ble_eq_true rfl⟩ hN hK hP hD [0, 1] rfl rfl (ci := 5) rfl rfl rfl rfl rfl hl.1 rfl (lv_room (Nat.le_of_ble_eq_true rfl)) dX6_putTwo_19) hP hD hS hA [0, 1] rfl rfl (fun H locs hP hD hS => ?_)
  have hP : va_P (dC, dI) vwCl [cl_X6 h_this h_this_signs i_this_4, (h_this_signs, .inl (cI, 100, .inl f_this_signs_5))] H := hP
  have hD : va_D A [cl_X6 h_this h_this_signs i_this_4, (h_this_signs, .inl (cI, 100, .inl f_this_signs_5))] := hD
  obtain ⟨rfl, rfl⟩ := pj2 h
  exact hEnd _ _ _ _ hP hS dX6_putTwo_22
noncomputable def fX9_writeMoment (N : Nat) (p1 : Int32) (p2 : Int32) (i_this : Int32) (i_this_script : Int32) (f_this_script_signs : Nat → Int32) : Option (Int32 × (Nat → Int32)) := (bd1 (fX1_dateOf N p1) fun r1 => (bd1 (fX6_cut N (0 : Int32) i_this_script) fun i_this_script_3 => (bd2 (fX6_putTwo N (r1 / (1000000 : Int32)) i_this_script_3 f_this_script_signs) fun i_this_script_5 f_this_script_signs_6 => (bd2 (fX6_putTwo N ((r1 / (10000 : Int32)) - (r1 / (10000 : Int32)) / (100 : Int32) * (100 : Int32)) i_this_script_5 f_this_script_signs_6) fun i_this_script_8 f_this_script_signs_9 => (bd2 (fX6_put N (45 : Int32) i_this_script_8 f_this_script_signs_9) fun i_this_script_11 f_this_script_signs_12 => (bd2 (fX6_putTwo N ((r1 / (100 : Int32)) - (r1 / (100 : Int32)) / (100 : Int32) * (100 : Int32)) i_this_script_11 f_this_script_signs_12) fun i_this_script_14 f_this_script_signs_15 => (bd2 (fX6_put N (45 : Int32) i_this_script_14 f_this_script_signs_15) fun i_this_script_17 f_this_script_signs_18 => (bd2 (fX6_putTwo N (r1 - r1 / (100 : Int32) * (100 : Int32)) i_this_script_17 f_this_script_signs_18) fun i_this_script_20 f_this_script_signs_21 => (if p2 = (0 : Int32) then (some (i_this_script_20, f_this_script_signs_21)) else (bd2 (fX6_put N (84 : Int32) i_this_script_20 f_this_script_signs_21) fun i_this_script_24 f_this_script_signs_25 => (bd2 (fX6_putTwo N (p2 / (3600 : Int32)) i_this_script_24 f_this_script_signs_25) fun i_this_script_27 f_this_script_signs_28 => (bd2 (fX6_put N (58 : Int32) i_this_script_27 f_this_script_signs_28) fun i_this_script_30 f_this_script_signs_31 => (bd2 (fX6_putTwo N ((p2 / (60 : Int32)) - (p2 / (60 : Int32)) / (60 : Int32) * (60 : Int32)) i_this_script_30 f_this_script_signs_31) fun i_this_script_33 f_this_script_signs_34 => (bd2 (fX6_put N (58 : Int32) i_this_script_33 f_this_script_signs_34) fun i_this_script_36 f_this_script_signs_37 => (bd2 (fX6_putTwo N (p2 - p2 / (60 : Int32) * (60 : Int32)) i_this_script_36 f_this_script_signs_37) fun i_this_script_39 f_this_script_signs_40 => (some (i_this_script_39, f_this_script_signs_40)))))))))))))))))
set_option maxHeartbeats 4000000 in
set_option maxRecDepth 100000 in
theorem kX9_writeMoment (l : Launch) (dC : Nat → ClassId) (dI : Nat → Nat → Nat) (cI cJ cB : ClassId) (h_this h_this_now h_this_kept h_this_told h_this_text h_this_script h_this_momentReader h_this_spanReader h_this_adder h_this_other h_this_trial h_this_ways h_this_script_signs : Nat) (N : Nat) (p1 : Int32) (p2 : Int32) (i_this : Int32) (i_this_script : Int32) (f_this_script_signs : Nat → Int32) (o_i_this_script : Int32) (o_f_this_script_signs : Nat → Int32) (hf : fX9_writeMoment N p1 p2 i_this i_this_script f_this_script_signs = some (o_i_this_script, o_f_this_script_signs)) : MV l yX9_writeMoment (kws yX9_writeMoment cX9_writeMoment 4 (none)) (kR 2 42) (dC, dI) (kT cI cJ cB) [.ref h_this, .int p1, .int p2] [cl_X9 h_this h_this_now h_this_kept h_this_told h_this_text h_this_script h_this_momentReader h_this_spanReader h_this_adder h_this_other h_this_trial h_this_ways i_this, cl_X6 h_this_script h_this_script_signs i_this_script, (h_this_script_signs, .inl (cI, 100, .inl f_this_script_signs))] [cl_X9 h_this h_this_now h_this_kept h_this_told h_this_text h_this_script h_this_momentReader h_this_spanReader h_this_adder h_this_other h_this_trial h_this_ways i_this, cl_X6 h_this_script h_this_script_signs o_i_this_script, (h_this_script_signs, .inl (cI, 100, .inl o_f_this_script_signs))] := by
  refine MV.of (cc := cX9_writeMoment) (maxL := 4) (by decide) (Nat.le_of_ble_eq_true rfl) (fun p e s m args below meth c A Q ls KC hN hK hP hD hA hl hEnd => ?_)
  obtain ⟨hx, hb, hml, hown, hts⟩ := KC
  have hown : s.vm.findClass "DateSpans" = some m.cls := hown
  have hl : lv_has ls 4 [(0, .ref h_this), (1, .int p1), (2, .int p2)] := hl
  have hS : va_S A s.heap s.heap [] := va_S.rf
  have h := hf
  unfold fX9_writeMoment at h
  refine lv_iload_n hx hb dX9_writeMoment_0 rfl (lv_at hl 1 rfl) ?_
  obtain ⟨r1, hc2, h⟩ := bd1_at h
  refine kjSI (kS0 (own := "DateSpans") (As := [.int p1]) (rest := []) ⟨hx, hb, hml, hown, hts⟩ (kX1_dateOf l N p1 r1 hc2) (kgS (kq q_469 rfl) (kq q_470 rfl) (kq q_67 rfl) (kq q_471 rfl)) yd_X1_dateOf ⟨Nat.le_of_ble_eq_true rfl, Nat.le_of_ble_eq_true rfl⟩ rfl rfl hl.1 rfl (lv_room (Nat.le_of_ble_eq_true rfl)) dX9_writeMoment_1) ?_
  refine lv_istore_n (lv' := [(3, .int r1), (0, .ref h_this), (1, .int p1), (2, .int p2)]) hx hb dX9_writeMoment_4 rfl hl (by decide) rfl (fun ls hl => ?_)
  refine lv_aload_n hx hb dX9_writeMoment_5 rfl (lv_at hl 1 rfl) ?_
  refine va_get (D := (dC, dI)) (ci := 8) (v := .ref h_this_script) (C := RX9) (T := TX9) (N := 12) hx hb hts inX9 hown hK hP 0 rfl rfl 5 (by decide) (hts _ (kq q_297 rfl)) (fun _ h9 => h9) rfl dX9_writeMoment_6 ?_
  refine lv_iconst (v := (0 : Int32)) hx hb dX9_writeMoment_9 (by decide) ?_
  obtain ⟨i_this_script_3, hc4, h⟩ := bd1_at h
  refine kjV (kV (own := "DateSpans") (C := "DateSpans$Text") (b := h_this_script) (As := [.int (0 : Int32)]) (rest := []) ⟨hx, hb, hml, hown, hts⟩ (kX6_cut l dC dI cI cJ cB h_this_script h_this_script_signs N (0 : Int32) i_this_script i_this_script_3 hc4 _) (kgV (kq q_345 rfl) (kq q_346 rfl) (kq q_347 rfl) (kq q_60 rfl) (kq q_348 rfl)) yd_X6_cut ⟨Nat.le_of_ble_eq_true rfl, Nat.le_of_ble_eq_true rfl⟩ hN hK hP hD [1] rfl rfl (ci := 5) rfl rfl rfl rfl rfl hl.1 rfl (lv_room (Nat.le_of_ble_eq_true rfl)) dX9_writeMoment_10) hP hD hS hA [1] rfl rfl (fun H locs hP hD hS => ?_)
  have hP : va_P (dC, dI) vwCl [cl_X9 h_this h_this_now h_this_kept h_this_told h_this_text h_this_script h_this_momentReader h_this_spanReader h_this_adder h_this_other h_this_trial h_this_ways i_this, cl_X6 h_this_script h_this_script_signs i_this_script_3, (h_this_script_signs, .inl (cI, 100, .inl f_this_script_signs))] H := hP
  have hD : va_D A [cl_X9 h_this h_this_now h_this_kept h_this_told h_this_text h_this_script h_this_momentReader h_this_spanReader h_this_adder h_this_other h_this_trial h_this_ways i_this, cl_X6 h_this_script h_this_script_signs i_this_script_3, (h_this_script_signs, .inl (cI, 100, .inl f_this_script_signs))] := hD
  refine lv_aload_n hx hb dX9_writeMoment_13 rfl (lv_at hl 1 rfl) ?_
  refine va_get (D := (dC, dI)) (ci := 8) (v := .ref h_this_script) (C := RX9) (T := TX9) (N := 12) hx hb hts inX9 hown hK hP 0 rfl rfl 5 (by decide) (hts _ (kq q_297 rfl)) (fun _ h9 => h9) rfl dX9_writeMoment_14 ?_
  refine lv_iload_n hx hb dX9_writeMoment_17 rfl (lv_at hl 0 rfl) ?_
  refine lv_ldcw (v := (1000000 : Int32)) hx hb hown (hts _ (kq q_857 rfl)) dX9_writeMoment_18 ?_
  refine lv_idiv hx hb dX9_writeMoment_21 (by decide) ?_
  obtain ⟨i_this_script_5, f_this_script_signs_6, hc7, h⟩ := bd2_at h
  refine kjV (kV (own := "DateSpans") (C := "DateSpans$Text") (b := h_this_script) (As := [.int (r1 / (1000000 : Int32))]) (rest := []) ⟨hx, hb, hml, hown, hts⟩ (kX6_putTwo l dC dI cI cJ cB h_this_script h_this_script_signs N (r1 / (1000000 : Int32)) i_this_script_3 f_this_script_signs i_this_script_5 f_this_script_signs_6 hc7 _) (kgV (kq q_858 rfl) (kq q_859 rfl) (kq q_860 rfl) (kq q_60 rfl) (kq q_861 rfl)) yd_X6_putTwo ⟨Nat.le_of_ble_eq_true rfl, Nat.le_of_ble_eq_true rfl⟩ hN hK hP hD [1, 2] rfl rfl (ci := 5) rfl rfl rfl rfl rfl hl.1 rfl (lv_room (Nat.le_of_ble_eq_true rfl)) dX9_writeMoment_22) hP hD hS hA [1, 2] rfl rfl (fun H locs hP hD hS => ?_)
  have hP : va_P (dC, dI) vwCl [cl_X9 h_this h_this_now h_this_kept h_this_told h_this_text h_this_script h_this_momentReader h_this_spanReader h_this_adder h_this_other h_this_trial h_this_ways i_this, cl_X6 h_this_script h_this_script_signs i_this_script_5, (h_this_script_signs, .inl (cI, 100, .inl f_this_script_signs_6))] H := hP
  have hD : va_D A [cl_X9 h_this h_this_now h_this_kept h_this_told h_this_text h_this_script h_this_momentReader h_this_spanReader h_this_adder h_this_other h_this_trial h_this_ways i_this, cl_X6 h_this_script h_this_script_signs i_this_script_5, (h_this_script_signs, .inl (cI, 100, .inl f_this_script_signs_6))] := hD
  refine lv_aload_n hx hb dX9_writeMoment_25 rfl (lv_at hl 1 rfl) ?_
  refine va_get (D := (dC, dI)) (ci := 8) (v := .ref h_this_script) (C := RX9) (T := TX9) (N := 12) hx hb hts inX9 hown hK hP 0 rfl rfl 5 (by decide) (hts _ (kq q_297 rfl)) (fun _ h9 => h9) rfl dX9_writeMoment_26 ?_
  refine lv_iload_n hx hb dX9_writeMoment_29 rfl (lv_at hl 0 rfl) ?_
  refine lv_sipush (v := (10000 : Int32)) hx hb dX9_writeMoment_30 (by decide) ?_
  refine lv_idiv hx hb dX9_writeMoment_33 (by decide) ?_
  refine lv_bipush (v := (100 : Int32)) hx hb dX9_writeMoment_34 (by decide) ?_
  refine lv_irem hx hb dX9_writeMoment_36 (by decide) ?_
  obtain ⟨i_this_script_8, f_this_script_signs_9, hc10, h⟩ := bd2_at h
  refine kjV (kV (own := "DateSpans") (C := "DateSpans$Text") (b := h_this_script) (As := [.int ((r1 / (10000 : Int32)) - (r1 / (10000 : Int32)) / (100 : Int32) * (100 : Int32))]) (rest := []) ⟨hx, hb, hml, hown, hts⟩ (kX6_putTwo l dC dI cI cJ cB h_this_script h_this_script_signs N ((r1 / (10000 : Int32)) - (r1 / (10000 : Int32)) / (100 : Int32) * (100 : Int32)) i_this_script_5 f_this_script_signs_6 i_this_script_8 f_this_script_signs_9 hc10 _) (kgV (kq q_858 rfl) (kq q_859 rfl) (kq q_860 rfl) (kq q_60 rfl) (kq q_861 rfl)) yd_X6_putTwo ⟨Nat.le_of_ble_eq_true rfl, Nat.le_of_ble_eq_true rfl⟩ hN hK hP hD [1, 2] rfl rfl (ci := 5) rfl rfl rfl rfl rfl hl.1 rfl (lv_room (Nat.le_of_ble_eq_true rfl)) dX9_writeMoment_37) hP hD hS hA [1, 2] rfl rfl (fun H locs hP hD hS => ?_)
  have hP : va_P (dC, dI) vwCl [cl_X9 h_this h_this_now h_this_kept h_this_told h_this_text h_this_script h_this_momentReader h_this_spanReader h_this_adder h_this_other h_this_trial h_this_ways i_this, cl_X6 h_this_script h_this_script_signs i_this_script_8, (h_this_script_signs, .inl (cI, 100, .inl f_this_script_signs_9))] H := hP
  have hD : va_D A [cl_X9 h_this h_this_now h_this_kept h_this_told h_this_text h_this_script h_this_momentReader h_this_spanReader h_this_adder h_this_other h_this_trial h_this_ways i_this, cl_X6 h_this_script h_this_script_signs i_this_script_8, (h_this_script_signs, .inl (cI, 100, .inl f_this_script_signs_9))] := hD
  refine lv_aload_n hx hb dX9_writeMoment_40 rfl (lv_at hl 1 rfl) ?_
  refine va_get (D := (dC, dI)) (ci := 8) (v := .ref h_this_script) (C := RX9) (T := TX9) (N := 12) hx hb hts inX9 hown hK hP 0 rfl rfl 5 (by decide) (hts _ (kq q_297 rfl)) (fun _ h9 => h9) rfl dX9_writeMoment_41 ?_
  refine lv_bipush (v := (45 : Int32)) hx hb dX9_writeMoment_44 (by decide) ?_
  obtain ⟨i_this_script_11, f_this_script_signs_12, hc13, h⟩ := bd2_at h
  refine kjV (kV (own := "DateSpans") (C := "DateSpans$Text") (b := h_this_script) (As := [.int (45 : Int32)]) (rest := []) ⟨hx, hb, hml, hown, hts⟩ (kX6_put l dC dI cI cJ cB h_this_script h_this_script_signs N (45 : Int32) i_this_script_8 f_this_script_signs_9 i_this_script_11 f_this_script_signs_12 hc13 _) (kgV (kq q_337 rfl) (kq q_338 rfl) (kq q_339 rfl) (kq q_60 rfl) (kq q_340 rfl)) yd_X6_put ⟨Nat.le_of_ble_eq_true rfl, Nat.le_of_ble_eq_true rfl⟩ hN hK hP hD [1, 2] rfl rfl (ci := 5) rfl rfl rfl rfl rfl hl.1 rfl (lv_room (Nat.le_of_ble_eq_true rfl)) dX9_writeMoment_46) hP hD hS hA [1, 2] rfl rfl (fun H locs hP hD hS => ?_)
  have hP : va_P (dC, dI) vwCl [cl_X9 h_this h_this_now h_this_kept h_this_told h_this_text h_this_script h_this_momentReader h_this_spanReader h_this_adder h_this_other h_this_trial h_this_ways i_this, cl_X6 h_this_script h_this_script_signs i_this_script_11, (h_this_script_signs, .inl (cI, 100, .inl f_this_script_signs_12))] H := hP
  have hD : va_D A [cl_X9 h_this h_this_now h_this_kept h_this_told h_this_text h_this_script h_this_momentReader h_this_spanReader h_this_adder h_this_other h_this_trial h_this_ways i_this, cl_X6 h_this_script h_this_script_signs i_this_script_11, (h_this_script_signs, .inl (cI, 100, .inl f_this_script_signs_12))] := hD
  refine lv_aload_n hx hb dX9_writeMoment_49 rfl (lv_at hl 1 rfl) ?_
  refine va_get (D := (dC, dI)) (ci := 8) (v := .ref h_this_script) (C := RX9) (T := TX9) (N := 12) hx hb hts inX9 hown hK hP 0 rfl rfl 5 (by decide) (hts _ (kq q_297 rfl)) (fun _ h9 => h9) rfl dX9_writeMoment_50 ?_
  refine lv_iload_n hx hb dX9_writeMoment_53 rfl (lv_at hl 0 rfl) ?_
  refine lv_bipush (v := (100 : Int32)) hx hb dX9_writeMoment_54 (by decide) ?_
  refine lv_idiv hx hb dX9_writeMoment_56 (by decide) ?_
  refine lv_bipush (v := (100 : Int32)) hx hb dX9_writeMoment_57 (by decide) ?_
  refine lv_irem hx hb dX9_writeMoment_59 (by decide) ?_
  obtain ⟨i_this_script_14, f_this_script_signs_15, hc16, h⟩ := bd2_at h
  refine kjV (kV (own := "DateSpans") (C := "DateSpans$Text") (b := h_this_script) (As := [.int ((r1 / (100 : Int32)) - (r1 / (100 : Int32)) / (100 : Int32) * (100 : Int32))]) (rest := []) ⟨hx, hb, hml, hown, hts⟩ (kX6_putTwo l dC dI cI cJ cB h_this_script h_this_script_signs N ((r1 / (100 : Int32)) - (r1 / (100 : Int32)) / (100 : Int32) * (100 : Int32)) i_this_script_11 f_this_script_signs_12 i_this_script_14 f_this_script_signs_15 hc16 _) (kgV (kq q_858 rfl) (kq q_859 rfl) (kq q_860 rfl) (kq q_60 rfl) (kq q_861 rfl)) yd_X6_putTwo ⟨Nat.le_of_ble_eq_true rfl, Nat.le_of_ble_eq_true rfl⟩ hN hK hP hD [1, 2] rfl rfl (ci := 5) rfl rfl rfl rfl rfl hl.1 rfl (lv_room (Nat.le_of_ble_eq_true rfl)) dX9_writeMoment_60) hP hD hS hA [1, 2] rfl rfl (fun H locs hP hD hS => ?_)
  have hP : va_P (dC, dI) vwCl [cl_X9 h_this h_this_now h_this_kept h_this_told h_this_text h_this_script h_this_momentReader h_this_spanReader h_this_adder h_this_other h_this_trial h_this_ways i_this, cl_X6 h_this_script h_this_script_signs i_this_script_14, (h_this_script_signs, .inl (cI, 100, .inl f_this_script_signs_15))] H := hP
  have hD : va_D A [cl_X9 h_this h_this_now h_this_kept h_this_told h_this_text h_this_script h_this_momentReader h_this_spanReader h_this_adder h_this_other h_this_trial h_this_ways i_this, cl_X6 h_this_script h_this_script_signs i_this_script_14, (h_this_script_signs, .inl (cI, 100, .inl f_this_script_signs_15))] := hD
  refine lv_aload_n hx hb dX9_writeMoment_63 rfl (lv_at hl 1 rfl) ?_
  refine va_get (D := (dC, dI)) (ci := 8) (v := .ref h_this_script) (C := RX9) (T := TX9) (N := 12) hx hb hts inX9 hown hK hP 0 rfl rfl 5 (by decide) (hts _ (kq q_297 rfl)) (fun _ h9 => h9) rfl dX9_writeMoment_64 ?_
  refine lv_bipush (v := (45 : Int32)) hx hb dX9_writeMoment_67 (by decide) ?_
  obtain ⟨i_this_script_17, f_this_script_signs_18, hc19, h⟩ := bd2_at h
  refine kjV (kV (own := "DateSpans") (C := "DateSpans$Text") (b := h_this_script) (As := [.int (45 : Int32)]) (rest := []) ⟨hx, hb, hml, hown, hts⟩ (kX6_put l dC dI cI cJ cB h_this_script h_this_script_signs N (45 : Int32) i_this_script_14 f_this_script_signs_15 i_this_script_17 f_this_script_signs_18 hc19 _) (kgV (kq q_337 rfl) (kq q_338 rfl) (kq q_339 rfl) (kq q_60 rfl) (kq q_340 rfl)) yd_X6_put ⟨Nat.le_of_ble_eq_true rfl, Nat.le_of_ble_eq_true rfl⟩ hN hK hP hD [1, 2] rfl rfl (ci := 5) rfl rfl rfl rfl rfl hl.1 rfl (lv_room (Nat.le_of_ble_eq_true rfl)) dX9_writeMoment_69) hP hD hS hA [1, 2] rfl rfl (fun H locs hP hD hS => ?_)
  have hP : va_P (dC, dI) vwCl [cl_X9 h_this h_this_now h_this_kept h_this_told h_this_text h_this_script h_this_momentReader h_this_spanReader h_this_adder h_this_other h_this_trial h_this_ways i_this, cl_X6 h_this_script h_this_script_signs i_this_script_17, (h_this_script_signs, .inl (cI, 100, .inl f_this_script_signs_18))] H := hP
  have hD : va_D A [cl_X9 h_this h_this_now h_this_kept h_this_told h_this_text h_this_script h_this_momentReader h_this_spanReader h_this_adder h_this_other h_this_trial h_this_ways i_this, cl_X6 h_this_script h_this_script_signs i_this_script_17, (h_this_script_signs, .inl (cI, 100, .inl f_this_script_signs_18))] := hD
  refine lv_aload_n hx hb dX9_writeMoment_72 rfl (lv_at hl 1 rfl) ?_
  refine va_get (D := (dC, dI)) (ci := 8) (v := .ref h_this_script) (C := RX9) (T := TX9) (N := 12) hx hb hts inX9 hown hK hP 0 rfl rfl 5 (by decide) (hts _ (kq q_297 rfl)) (fun _ h9 => h9) rfl dX9_writeMoment_73 ?_
  refine lv_iload_n hx hb dX9_writeMoment_76 rfl (lv_at hl 0 rfl) ?_
  refine lv_bipush (v := (100 : Int32)) hx hb dX9_writeMoment_77 (by decide) ?_
  refine lv_irem hx hb dX9_writeMoment_79 (by decide) ?_
  obtain ⟨i_this_script_20, f_this_script_signs_21, hc22, h⟩ := bd2_at h
  refine kjV (kV (own := "DateSpans") (C := "DateSpans$Text") (b := h_this_script) (As := [.int (r1 - r1 / (100 : Int32) * (100 : Int32))]) (rest := []) ⟨hx, hb, hml, hown, hts⟩ (kX6_putTwo l dC dI cI cJ cB h_this_script h_this_script_signs N (r1 - r1 / (100 : Int32) * (100 : Int32)) i_this_script_17 f_this_script_signs_18 i_this_script_20 f_this_script_signs_21 hc22 _) (kgV (kq q_858 rfl) (kq q_859 rfl) (kq q_860 rfl) (kq q_60 rfl) (kq q_861 rfl)) yd_X6_putTwo ⟨Nat.le_of_ble_eq_true rfl, Nat.le_of_ble_eq_true rfl⟩ hN hK hP hD [1, 2] rfl rfl (ci := 5) rfl rfl rfl rfl rfl hl.1 rfl (lv_room (Nat.le_of_ble_eq_true rfl)) dX9_writeMoment_80) hP hD hS hA [1, 2] rfl rfl (fun H locs hP hD hS => ?_)
  have hP : va_P (dC, dI) vwCl [cl_X9 h_this h_this_now h_this_kept h_this_told h_this_text h_this_script h_this_momentReader h_this_spanReader h_this_adder h_this_other h_this_trial h_this_ways i_this, cl_X6 h_this_script h_this_script_signs i_this_script_20, (h_this_script_signs, .inl (cI, 100, .inl f_this_script_signs_21))] H := hP
  have hD : va_D A [cl_X9 h_this h_this_now h_this_kept h_this_told h_this_text h_this_script h_this_momentReader h_this_spanReader h_this_adder h_this_other h_this_trial h_this_ways i_this, cl_X6 h_this_script h_this_script_signs i_this_script_20, (h_this_script_signs, .inl (cI, 100, .inl f_this_script_signs_21))] := hD
  refine lv_iload_n hx hb dX9_writeMoment_83 rfl (lv_at hl 3 rfl) ?_
  refine lv_if_eq (tgt := 151) hx hb dX9_writeMoment_84 (by decide) (fun c23 => ?_) (fun c23 => ?_)
  · have h := ite_t c23 h
    obtain ⟨rfl, rfl⟩ := pj2 h
    exact hEnd _ _ _ _ hP hS dX9_writeMoment_151
  have h := ite_f c23 h
  refine lv_aload_n hx hb dX9_writeMoment_87 rfl (lv_at hl 1 rfl) ?_
  refine va_get (D := (dC, dI)) (ci := 8) (v := .ref h_this_script) (C := RX9) (T := TX9) (N := 12) hx hb hts inX9 hown hK hP 0 rfl rfl 5 (by decide) (hts _ (kq q_297 rfl)) (fun _ h9 => h9) rfl dX9_writeMoment_88 ?_
  refine lv_bipush (v := (84 : Int32)) hx hb dX9_writeMoment_91 (by decide) ?_
  obtain ⟨i_this_script_24, f_this_script_signs_25, hc26, h⟩ := bd2_at h
  refine kjV (kV (own := "DateSpans") (C := "DateSpans$Text") (b := h_this_script) (As := [.int (84 : Int32)]) (rest := []) ⟨hx, hb, hml, hown, hts⟩ (kX6_put l dC dI cI cJ cB h_this_script h_this_script_signs N (84 : Int32) i_this_script_20 f_this_script_signs_21 i_this_script_24 f_this_script_signs_25 hc26 _) (kgV (kq q_337 rfl) (kq q_338 rfl) (kq q_339 rfl) (kq q_60 rfl) (kq q_340 rfl)) yd_X6_put ⟨Nat.le_of_ble_eq_true rfl, Nat.le_of_ble_eq_true rfl⟩ hN hK hP hD [1, 2] rfl rfl (ci := 5) rfl rfl rfl rfl rfl hl.1 rfl (lv_room (Nat.le_of_ble_eq_true rfl)) dX9_writeMoment_93) hP hD hS hA [1, 2] rfl rfl (fun H locs hP hD hS => ?_)
  have hP : va_P (dC, dI) vwCl [cl_X9 h_this h_this_now h_this_kept h_this_told h_this_text h_this_script h_this_momentReader h_this_spanReader h_this_adder h_this_other h_this_trial h_this_ways i_this, cl_X6 h_this_script h_this_script_signs i_this_script_24, (h_this_script_signs, .inl (cI, 100, .inl f_this_script_signs_25))] H := hP
  have hD : va_D A [cl_X9 h_this h_this_now h_this_kept h_this_told h_this_text h_this_script h_this_momentReader h_this_spanReader h_this_adder h_this_other h_this_trial h_this_ways i_this, cl_X6 h_this_script h_this_script_signs i_this_script_24, (h_this_script_signs, .inl (cI, 100, .inl f_this_script_signs_25))] := hD
  refine lv_aload_n hx hb dX9_writeMoment_96 rfl (lv_at hl 1 rfl) ?_
  refine va_get (D := (dC, dI)) (ci := 8) (v := .ref h_this_script) (C := RX9) (T := TX9) (N := 12) hx hb hts inX9 hown hK hP 0 rfl rfl 5 (by decide) (hts _ (kq q_297 rfl)) (fun _ h9 => h9) rfl dX9_writeMoment_97 ?_
  refine lv_iload_n hx hb dX9_writeMoment_100 rfl (lv_at hl 3 rfl) ?_
  refine lv_sipush (v := (3600 : Int32)) hx hb dX9_writeMoment_101 (by decide) ?_
  refine lv_idiv hx hb dX9_writeMoment_104 (by decide) ?_
  obtain ⟨i_this_script_27, f_this_script_signs_28, hc29, h⟩ := bd2_at h
  refine kjV (kV (own := "DateSpans") (C := "DateSpans$Text") (b := h_this_script) (As := [.int (p2 / (3600 : Int32))]) (rest := []) ⟨hx, hb, hml, hown, hts⟩ (kX6_putTwo l dC dI cI cJ cB h_this_script h_this_script_signs N (p2 / (3600 : Int32)) i_this_script_24 f_this_script_signs_25 i_this_script_27 f_this_script_signs_28 hc29 _) (kgV (kq q_858 rfl) (kq q_859 rfl) (kq q_860 rfl) (kq q_60 rfl) (kq q_861 rfl)) yd_X6_putTwo ⟨Nat.le_of_ble_eq_true rfl, Nat.le_of_ble_eq_true rfl⟩ hN hK hP hD [1, 2] rfl rfl (ci := 5) rfl rfl rfl rfl rfl hl.1 rfl (lv_room (Nat.le_of_ble_eq_true rfl)) dX9_writeMoment_105) hP hD hS hA [1, 2] rfl rfl (fun H locs hP hD hS => ?_)
  have hP : va_P (dC, dI) vwCl [cl_X9 h_this h_this_now h_this_kept h_this_told h_this_text h_this_script h_this_momentReader h_this_spanReader h_this_adder h_this_other h_this_trial h_this_ways i_this, cl_X6 h_this_script h_this_script_signs i_this_script_27, (h_this_script_signs, .inl (cI, 100, .inl f_this_script_signs_28))] H := hP
  have hD : va_D A [cl_X9 h_this h_this_now h_this_kept h_this_told h_this_text h_this_script h_this_momentReader h_this_spanReader h_this_adder h_this_other h_this_trial h_this_ways i_this, cl_X6 h_this_script h_this_script_signs i_this_script_27, (h_this_script_signs, .inl (cI, 100, .inl f_this_script_signs_28))] := hD
  refine lv_aload_n hx hb dX9_writeMoment_108 rfl (lv_at hl 1 rfl) ?_
  refine va_get (D := (dC, dI)) (ci := 8) (v := .ref h_this_script) (C := RX9) (T := TX9) (N := 12) hx hb hts inX9 hown hK hP 0 rfl rfl 5 (by decide) (hts _ (kq q_297 rfl)) (fun _ h9 => h9) rfl dX9_writeMoment_109 ?_
  refine lv_bipush (v := (58 : Int32)) hx hb dX9_writeMoment_112 (by decide) ?_
  obtain ⟨i_this_script_30, f_this_script_signs_31, hc32, h⟩ := bd2_at h
  refine kjV (kV (own := "DateSpans") (C := "DateSpans$Text") (b := h_this_script) (As := [.int (58 : Int32)]) (rest := []) ⟨hx, hb, hml, hown, hts⟩ (kX6_put l dC dI cI cJ cB h_this_script h_this_script_signs N (58 : Int32) i_this_script_27 f_this_script_signs_28 i_this_script_30 f_this_script_signs_31 hc32 _) (kgV (kq q_337 rfl) (kq q_338 rfl) (kq q_339 rfl) (kq q_60 rfl) (kq q_340 rfl)) yd_X6_put ⟨Nat.le_of_ble_eq_true rfl, Nat.le_of_ble_eq_true rfl⟩ hN hK hP hD [1, 2] rfl rfl (ci := 5) rfl rfl rfl rfl rfl hl.1 rfl (lv_room (Nat.le_of_ble_eq_true rfl)) dX9_writeMoment_114) hP hD hS hA [1, 2] rfl rfl (fun H locs hP hD hS => ?_)
  have hP : va_P (dC, dI) vwCl [cl_X9 h_this h_this_now h_this_kept h_this_told h_this_text h_this_script h_this_momentReader h_this_spanReader h_this_adder h_this_other h_this_trial h_this_ways i_this, cl_X6 h_this_script h_this_script_signs i_this_script_30, (h_this_script_signs, .inl (cI, 100, .inl f_this_script_signs_31))] H := hP
  have hD : va_D A [cl_X9 h_this h_this_now h_this_kept h_this_told h_this_text h_this_script h_this_momentReader h_this_spanReader h_this_adder h_this_other h_this_trial h_this_ways i_this, cl_X6 h_this_script h_this_script_signs i_this_script_30, (h_this_script_signs, .inl (cI, 100, .inl f_this_script_signs_31))] := hD
  refine lv_aload_n hx hb dX9_writeMoment_117 rfl (lv_at hl 1 rfl) ?_
  refine va_get (D := (dC, dI)) (ci := 8) (v := .ref h_this_script) (C := RX9) (T := TX9) (N := 12) hx hb hts inX9 hown hK hP 0 rfl rfl 5 (by decide) (hts _ (kq q_297 rfl)) (fun _ h9 => h9) rfl dX9_writeMoment_118 ?_
  refine lv_iload_n hx hb dX9_writeMoment_121 rfl (lv_at hl 3 rfl) ?_
  refine lv_bipush (v := (60 : Int32)) hx hb dX9_writeMoment_122 (by decide) ?_
  refine lv_idiv hx hb dX9_writeMoment_124 (by decide) ?_
  refine lv_bipush (v := (60 : Int32)) hx hb dX9_writeMoment_125 (by decide) ?_
  refine lv_irem hx hb dX9_writeMoment_127 (by decide) ?_
  obtain ⟨i_this_script_33, f_this_script_signs_34, hc35, h⟩ := bd2_at h
  refine kjV (kV (own := "DateSpans") (C := "DateSpans$Text") (b := h_this_script) (As := [.int ((p2 / (60 : Int32)) - (p2 / (60 : Int32)) / (60 : Int32) * (60 : Int32))]) (rest := []) ⟨hx, hb, hml, hown, hts⟩ (kX6_putTwo l dC dI cI cJ cB h_this_script h_this_script_signs N ((p2 / (60 : Int32)) - (p2 / (60 : Int32)) / (60 : Int32) * (60 : Int32)) i_this_script_30 f_this_script_signs_31 i_this_script_33 f_this_script_signs_34 hc35 _) (kgV (kq q_858 rfl) (kq q_859 rfl) (kq q_860 rfl) (kq q_60 rfl) (kq q_861 rfl)) yd_X6_putTwo ⟨Nat.le_of_ble_eq_true rfl, Nat.le_of_ble_eq_true rfl⟩ hN hK hP hD [1, 2] rfl rfl (ci := 5) rfl rfl rfl rfl rfl hl.1 rfl (lv_room (Nat.le_of_ble_eq_true rfl)) dX9_writeMoment_128) hP hD hS hA [1, 2] rfl rfl (fun H locs hP hD hS => ?_)
  have hP : va_P (dC, dI) vwCl [cl_X9 h_this h_this_now h_this_kept h_this_told h_this_text h_this_script h_this_momentReader h_this_spanReader h_this_adder h_this_other h_this_trial h_this_ways i_this, cl_X6 h_this_script h_this_script_signs i_this_script_33, (h_this_script_signs, .inl (cI, 100, .inl f_this_script_signs_34))] H := hP
  have hD : va_D A [cl_X9 h_this h_this_now h_this_kept h_this_told h_this_text h_this_script h_this_momentReader h_this_spanReader h_this_adder h_this_other h_this_trial h_this_ways i_this, cl_X6 h_this_script h_this_script_signs i_this_script_33, (h_this_script_signs, .inl (cI, 100, .inl f_this_script_signs_34))] := hD
  refine lv_aload_n hx hb dX9_writeMoment_131 rfl (lv_at hl 1 rfl) ?_
  refine va_get (D := (dC, dI)) (ci := 8) (v := .ref h_this_script) (C := RX9) (T := TX9) (N := 12) hx hb hts inX9 hown hK hP 0 rfl rfl 5 (by decide) (hts _ (kq q_297 rfl)) (fun _ h9 => h9) rfl dX9_writeMoment_132 ?_
  refine lv_bipush (v := (58 : Int32)) hx hb dX9_writeMoment_135 (by decide) ?_
  obtain ⟨i_this_script_36, f_this_script_signs_37, hc38, h⟩ := bd2_at h
  refine kjV (kV (own := "DateSpans") (C := "DateSpans$Text") (b := h_this_script) (As := [.int (58 : Int32)]) (rest := []) ⟨hx, hb, hml, hown, hts⟩ (kX6_put l dC dI cI cJ cB h_this_script h_this_script_signs N (58 : Int32) i_this_script_33 f_this_script_signs_34 i_this_script_36 f_this_script_signs_37 hc38 _) (kgV (kq q_337 rfl) (kq q_338 rfl) (kq q_339 rfl) (kq q_60 rfl) (kq q_340 rfl)) yd_X6_put ⟨Nat.le_of_ble_eq_true rfl, Nat.le_of_ble_eq_true rfl⟩ hN hK hP hD [1, 2] rfl rfl (ci := 5) rfl rfl rfl rfl rfl hl.1 rfl (lv_room (Nat.le_of_ble_eq_true rfl)) dX9_writeMoment_137) hP hD hS hA [1, 2] rfl rfl (fun H locs hP hD hS => ?_)
  have hP : va_P (dC, dI) vwCl [cl_X9 h_this h_this_now h_this_kept h_this_told h_this_text h_this_script h_this_momentReader h_this_spanReader h_this_adder h_this_other h_this_trial h_this_ways i_this, cl_X6 h_this_script h_this_script_signs i_this_script_36, (h_this_script_signs, .inl (cI, 100, .inl f_this_script_signs_37))] H := hP
  have hD : va_D A [cl_X9 h_this h_this_now h_this_kept h_this_told h_this_text h_this_script h_this_momentReader h_this_spanReader h_this_adder h_this_other h_this_trial h_this_ways i_this, cl_X6 h_this_script h_this_script_signs i_this_script_36, (h_this_script_signs, .inl (cI, 100, .inl f_this_script_signs_37))] := hD
  refine lv_aload_n hx hb dX9_writeMoment_140 rfl (lv_at hl 1 rfl) ?_
  refine va_get (D := (dC, dI)) (ci := 8) (v := .ref h_this_script) (C := RX9) (T := TX9) (N := 12) hx hb hts inX9 hown hK hP 0 rfl rfl 5 (by decide) (hts _ (kq q_297 rfl)) (fun _ h9 => h9) rfl dX9_writeMoment_141 ?_
  refine lv_iload_n hx hb dX9_writeMoment_144 rfl (lv_at hl 3 rfl) ?_
  refine lv_bipush (v := (60 : Int32)) hx hb dX9_writeMoment_145 (by decide) ?_
  refine lv_irem hx hb dX9_writeMoment_147 (by decide) ?_
  obtain ⟨i_this_script_39, f_this_script_signs_40, hc41, h⟩ := bd2_at h
  refine kjV (kV (own := "DateSpans") (C := "DateSpans$Text") (b := h_this_script) (As := [.int (p2 - p2 / (60 : Int32) * (60 : Int32))]) (rest := []) ⟨hx, hb, hml, hown, hts⟩ (kX6_putTwo l dC dI cI cJ cB h_this_script h_this_script_signs N (p2 - p2 / (60 : Int32) * (60 : Int32)) i_this_script_36 f_this_script_signs_37 i_this_script_39 f_this_script_signs_40 hc41 _) (kgV (kq q_858 rfl) (kq q_859 rfl) (kq q_860 rfl) (kq q_60 rfl) (kq q_861 rfl)) yd_X6_putTwo ⟨Nat.le_of_ble_eq_true rfl, Nat.le_of_ble_eq_true rfl⟩ hN hK hP hD [1, 2] rfl rfl (ci := 5) rfl rfl rfl rfl rfl hl.1 rfl (lv_room (Nat.le_of_ble_eq_true rfl)) dX9_writeMoment_148) hP hD hS hA [1, 2] rfl rfl (fun H locs hP hD hS => ?_)
  have hP : va_P (dC, dI) vwCl [cl_X9 h_this h_this_now h_this_kept h_this_told h_this_text h_this_script h_this_momentReader h_this_spanReader h_this_adder h_this_other h_this_trial h_this_ways i_this, cl_X6 h_this_script h_this_script_signs i_this_script_39, (h_this_script_signs, .inl (cI, 100, .inl f_this_script_signs_40))] H := hP
  have hD : va_D A [cl_X9 h_this h_this_now h_this_kept h_this_told h_this_text h_this_script h_this_momentReader h_this_spanReader h_this_adder h_this_other h_this_trial h_this_ways i_this, cl_X6 h_this_script h_this_script_signs i_this_script_39, (h_this_script_signs, .inl (cI, 100, .inl f_this_script_signs_40))] := hD
  obtain ⟨rfl, rfl⟩ := pj2 h
  exact hEnd _ _ _ _ hP hS dX9_writeMoment_151
noncomputable def fX9_written (N : Nat) (p1 : Int32) (p2 : Int32) (i_this : Int32) (f_this_now_day : Nat → Int32) (f_this_now_second : Nat → Int32) (i_this_script : Int32) (f_this_script_signs : Nat → Int32) : Option (Int32 × Int32 × (Nat → Int32)) := (bd1 (fX9_isSlot N p1) fun r1 => (if r1 = (0 : Int32) then (some ((-1 : Int32), i_this_script, f_this_script_signs)) else (bd1 (fX4_dayAt N p1 f_this_now_day) fun r4 => (bd1 (fX4_secondAt N p1 f_this_now_second) fun r6 => (bd2 (fX9_writeMoment N r4 r6 i_this i_this_script f_this_script_signs) fun i_this_script_8 f_this_script_signs_9 => (if p2 = (-1 : Int32) then (bd1 (fX6_length N i_this_script_8) fun r14 => (some (r14, i_this_script_8, f_this_script_signs_9))) else (bd1 (fX6_at N p2 i_this_script_8 f_this_script_signs_9) fun r12 => (some (r12, i_this_script_8, f_this_script_signs_9)))))))))
set_option maxHeartbeats 4000000 in
set_option maxRecDepth 100000 in
theorem kX9_written (l : Launch) (dC : Nat → ClassId) (dI : Nat → Nat → Nat) (cI cJ cB : ClassId) (h_this h_this_now h_this_kept h_this_told h_this_text h_this_script h_this_momentReader h_this_spanReader h_this_adder h_this_other h_this_trial h_this_ways h_this_now_day h_this_now_second h_this_now_months h_this_now_days h_this_now_seconds h_this_script_signs : Nat) (N : Nat) (p1 : Int32) (p2 : Int32) (i_this : Int32) (f_this_now_day : Nat → Int32) (f_this_now_second : Nat → Int32) (i_this_script : Int32) (f_this_script_signs : Nat → Int32) (r : Int32) (o_i_this_script : Int32) (o_f_this_script_signs : Nat → Int32) (hf : fX9_written N p1 p2 i_this f_this_now_day f_this_now_second i_this_script f_this_script_signs = some (r, o_i_this_script, o_f_this_script_signs)) : MI l yX9_written (kws yX9_written cX9_written 3 (some .int)) (kR 3 65) (dC, dI) (kT cI cJ cB) [.ref h_this, .int p1, .int p2] [cl_X9 h_this h_this_now h_this_kept h_this_told h_this_text h_this_script h_this_momentReader h_this_spanReader h_this_adder h_this_other h_this_trial h_this_ways i_this, cl_X4 h_this_now h_this_now_day h_this_now_second h_this_now_months h_this_now_days h_this_now_seconds, (h_this_now_day, .inl (cI, 8, .inl f_this_now_day)), (h_this_now_second, .inl (cI, 8, .inl f_this_now_second)), cl_X6 h_this_script h_this_script_signs i_this_script, (h_this_script_signs, .inl (cI, 100, .inl f_this_script_signs))] [cl_X9 h_this h_this_now h_this_kept h_this_told h_this_text h_this_script h_this_momentReader h_this_spanReader h_this_adder h_this_other h_this_trial h_this_ways i_this, cl_X4 h_this_now h_this_now_day h_this_now_second h_this_now_months h_this_now_days h_this_now_seconds, (h_this_now_day, .inl (cI, 8, .inl f_this_now_day)), (h_this_now_second, .inl (cI, 8, .inl f_this_now_second)), cl_X6 h_this_script h_this_script_signs o_i_this_script, (h_this_script_signs, .inl (cI, 100, .inl o_f_this_script_signs))] r := by
  refine MI.of (cc := cX9_written) (maxL := 3) (by decide) (Nat.le_of_ble_eq_true rfl) (fun p e s m args below meth c A Q ls KC hN hK hP hD hA hl hEnd => ?_)
  obtain ⟨hx, hb, hml, hown, hts⟩ := KC
  have hown : s.vm.findClass "DateSpans" = some m.cls := hown
  have hl : lv_has ls 3 [(0, .ref h_this), (1, .int p1), (2, .int p2)] := hl
  have hS : va_S A s.heap s.heap [] := va_S.rf
  have h := hf
  unfold fX9_written at h
  refine lv_iload_n hx hb dX9_written_0 rfl (lv_at hl 1 rfl) ?_
  obtain ⟨r1, hc2, h⟩ := bd1_at h
  refine kjSI (kS0 (own := "DateSpans") (As := [.int p1]) (rest := []) ⟨hx, hb, hml, hown, hts⟩ (kX9_isSlot l N p1 r1 hc2) (kgS (kq q_387 rfl) (kq q_388 rfl) (kq q_57 rfl) (kq q_389 rfl)) yd_X9_isSlot ⟨Nat.le_of_ble_eq_true rfl, Nat.le_of_ble_eq_true rfl⟩ rfl rfl hl.1 rfl (lv_room (Nat.le_of_ble_eq_true rfl)) dX9_written_1) ?_
  refine lv_if_ne (tgt := 9) hx hb dX9_written_4 (by decide) (fun c3 => ?_) (fun c3 => ?_)
  · have h := ite_f c3 h
    refine lv_aload_n hx hb dX9_written_9 rfl (lv_at hl 0 rfl) ?_
    refine lv_aload_n hx hb dX9_written_10 rfl (lv_at hl 0 rfl) ?_
    refine va_get (D := (dC, dI)) (ci := 8) (v := .ref h_this_now) (C := RX9) (T := TX9) (N := 12) hx hb hts inX9 hown hK hP 0 rfl rfl 0 (by decide) (hts _ (kq q_292 rfl)) (fun _ h9 => h9) rfl dX9_written_11 ?_
    refine lv_iload_n hx hb dX9_written_14 rfl (lv_at hl 1 rfl) ?_
    obtain ⟨r4, hc5, h⟩ := bd1_at h
    refine kjI (kV (own := "DateSpans") (C := "DateSpans$Slots") (b := h_this_now) (As := [.int p1]) (rest := [.ref h_this]) ⟨hx, hb, hml, hown, hts⟩ (kX4_dayAt l dC dI cI cJ cB h_this_now h_this_now_day h_this_now_second h_this_now_months h_this_now_days h_this_now_seconds N p1 f_this_now_day r4 hc5 _) (kgV (kq q_404 rfl) (kq q_405 rfl) (kq q_406 rfl) (kq q_58 rfl) (kq q_407 rfl)) yd_X4_dayAt ⟨Nat.le_of_ble_eq_true rfl, Nat.le_of_ble_eq_true rfl⟩ hN hK hP hD [1, 2] rfl rfl (ci := 3) rfl rfl rfl rfl rfl hl.1 rfl (lv_room (Nat.le_of_ble_eq_true rfl)) dX9_written_15) hP hD hS hA [1, 2] rfl rfl (fun H locs hP hD hS => ?_)
    have hP : va_P (dC, dI) vwCl [cl_X9 h_this h_this_now h_this_kept h_this_told h_this_text h_this_script h_this_momentReader h_this_spanReader h_this_adder h_this_other h_this_trial h_this_ways i_this, cl_X4 h_this_now h_this_now_day h_this_now_second h_this_now_months h_this_now_days h_this_now_seconds, (h_this_now_day, .inl (cI, 8, .inl f_this_now_day)), (h_this_now_second, .inl (cI, 8, .inl f_this_now_second)), cl_X6 h_this_script h_this_script_signs i_this_script, (h_this_script_signs, .inl (cI, 100, .inl f_this_script_signs))] H := hP
    have hD : va_D A [cl_X9 h_this h_this_now h_this_kept h_this_told h_this_text h_this_script h_this_momentReader h_this_spanReader h_this_adder h_this_other h_this_trial h_this_ways i_this, cl_X4 h_this_now h_this_now_day h_this_now_second h_this_now_months h_this_now_days h_this_now_seconds, (h_this_now_day, .inl (cI, 8, .inl f_this_now_day)), (h_this_now_second, .inl (cI, 8, .inl f_this_now_second)), cl_X6 h_this_script h_this_script_signs i_this_script, (h_this_script_signs, .inl (cI, 100, .inl f_this_script_signs))] := hD
    refine lv_aload_n hx hb dX9_written_18 rfl (lv_at hl 0 rfl) ?_
    refine va_get (D := (dC, dI)) (ci := 8) (v := .ref h_this_now) (C := RX9) (T := TX9) (N := 12) hx hb hts inX9 hown hK hP 0 rfl rfl 0 (by decide) (hts _ (kq q_292 rfl)) (fun _ h9 => h9) rfl dX9_written_19 ?_
    refine lv_iload_n hx hb dX9_written_22 rfl (lv_at hl 1 rfl) ?_
    obtain ⟨r6, hc7, h⟩ := bd1_at h
    refine kjI (kV (own := "DateSpans") (C := "DateSpans$Slots") (b := h_this_now) (As := [.int p1]) (rest := [.int r4, .ref h_this]) ⟨hx, hb, hml, hown, hts⟩ (kX4_secondAt l dC dI cI cJ cB h_this_now h_this_now_day h_this_now_second h_this_now_months h_this_now_days h_this_now_seconds N p1 f_this_now_second r6 hc7 _) (kgV (kq q_475 rfl) (kq q_476 rfl) (kq q_477 rfl) (kq q_58 rfl) (kq q_478 rfl)) yd_X4_secondAt ⟨Nat.le_of_ble_eq_true rfl, Nat.le_of_ble_eq_true rfl⟩ hN hK hP hD [1, 3] rfl rfl (ci := 3) rfl rfl rfl rfl rfl hl.1 rfl (lv_room (Nat.le_of_ble_eq_true rfl)) dX9_written_23) hP hD hS hA [1, 3] rfl rfl (fun H locs hP hD hS => ?_)
    have hP : va_P (dC, dI) vwCl [cl_X9 h_this h_this_now h_this_kept h_this_told h_this_text h_this_script h_this_momentReader h_this_spanReader h_this_adder h_this_other h_this_trial h_this_ways i_this, cl_X4 h_this_now h_this_now_day h_this_now_second h_this_now_months h_this_now_days h_this_now_seconds, (h_this_now_day, .inl (cI, 8, .inl f_this_now_day)), (h_this_now_second, .inl (cI, 8, .inl f_this_now_second)), cl_X6 h_this_script h_this_script_signs i_this_script, (h_this_script_signs, .inl (cI, 100, .inl f_this_script_signs))] H := hP
    have hD : va_D A [cl_X9 h_this h_this_now h_this_kept h_this_told h_this_text h_this_script h_this_momentReader h_this_spanReader h_this_adder h_this_other h_this_trial h_this_ways i_this, cl_X4 h_this_now h_this_now_day h_this_now_second h_this_now_months h_this_now_days h_this_now_seconds, (h_this_now_day, .inl (cI, 8, .inl f_this_now_day)), (h_this_now_second, .inl (cI, 8, .inl f_this_now_second)), cl_X6 h_this_script h_this_script_signs i_this_script, (h_this_script_signs, .inl (cI, 100, .inl f_this_script_signs))] := hD
    obtain ⟨i_this_script_8, f_this_script_signs_9, hc10, h⟩ := bd2_at h
    refine kjV (kV (own := "DateSpans") (C := "DateSpans") (b := h_this) (As := [.int r4, .int r6]) (rest := []) ⟨hx, hb, hml, hown, hts⟩ (kX9_writeMoment l dC dI cI cJ cB h_this h_this_now h_this_kept h_this_told h_this_text h_this_script h_this_momentReader h_this_spanReader h_this_adder h_this_other h_this_trial h_this_ways h_this_script_signs N r4 r6 i_this i_this_script f_this_script_signs i_this_script_8 f_this_script_signs_9 hc10 _) (kgV (kq q_853 rfl) (kq q_855 rfl) (kq q_15 rfl) (kq q_57 rfl) (kq q_856 rfl)) yd_X9_writeMoment ⟨Nat.le_of_ble_eq_true rfl, Nat.le_of_ble_eq_true rfl⟩ hN hK hP hD [0, 4, 5] rfl rfl (ci := 8) rfl rfl rfl rfl rfl hl.1 rfl (lv_room (Nat.le_of_ble_eq_true rfl)) dX9_written_26) hP hD hS hA [0, 4, 5] rfl rfl (fun H locs hP hD hS => ?_)
    have hP : va_P (dC, dI) vwCl [cl_X9 h_this h_this_now h_this_kept h_this_told h_this_text h_this_script h_this_momentReader h_this_spanReader h_this_adder h_this_other h_this_trial h_this_ways i_this, cl_X4 h_this_now h_this_now_day h_this_now_second h_this_now_months h_this_now_days h_this_now_seconds, (h_this_now_day, .inl (cI, 8, .inl f_this_now_day)), (h_this_now_second, .inl (cI, 8, .inl f_this_now_second)), cl_X6 h_this_script h_this_script_signs i_this_script_8, (h_this_script_signs, .inl (cI, 100, .inl f_this_script_signs_9))] H := hP
    have hD : va_D A [cl_X9 h_this h_this_now h_this_kept h_this_told h_this_text h_this_script h_this_momentReader h_this_spanReader h_this_adder h_this_other h_this_trial h_this_ways i_this, cl_X4 h_this_now h_this_now_day h_this_now_second h_this_now_months h_this_now_days h_this_now_seconds, (h_this_now_day, .inl (cI, 8, .inl f_this_now_day)), (h_this_now_second, .inl (cI, 8, .inl f_this_now_second)), cl_X6 h_this_script h_this_script_signs i_this_script_8, (h_this_script_signs, .inl (cI, 100, .inl f_this_script_signs_9))] := hD
    refine lv_iload_n hx hb dX9_written_29 rfl (lv_at hl 2 rfl) ?_
    refine lv_iconst (v := (-1 : Int32)) hx hb dX9_written_30 (by decide) ?_
    refine lv_icmp_ne (tgt := 44) hx hb dX9_written_31 (by decide) (fun c11 => ?_) (fun c11 => ?_)
    · have h := ite_f c11 h
      refine lv_aload_n hx hb dX9_written_44 rfl (lv_at hl 0 rfl) ?_
      refine va_get (D := (dC, dI)) (ci := 8) (v := .ref h_this_script) (C := RX9) (T := TX9) (N := 12) hx hb hts inX9 hown hK hP 0 rfl rfl 5 (by decide) (hts _ (kq q_297 rfl)) (fun _ h9 => h9) rfl dX9_written_45 ?_
      refine lv_iload_n hx hb dX9_written_48 rfl (lv_at hl 2 rfl) ?_
      obtain ⟨r12, hc13, h⟩ := bd1_at h
      refine kjI (kV (own := "DateSpans") (C := "DateSpans$Text") (b := h_this_script) (As := [.int p2]) (rest := []) ⟨hx, hb, hml, hown, hts⟩ (kX6_at l dC dI cI cJ cB h_this_script h_this_script_signs N p2 i_this_script_8 f_this_script_signs_9 r12 hc13 _) (kgV (kq q_863 rfl) (kq q_359 rfl) (kq q_360 rfl) (kq q_60 rfl) (kq q_361 rfl)) yd_X6_at ⟨Nat.le_of_ble_eq_true rfl, Nat.le_of_ble_eq_true rfl⟩ hN hK hP hD [4, 5] rfl rfl (ci := 5) rfl rfl rfl rfl rfl hl.1 rfl (lv_room (Nat.le_of_ble_eq_true rfl)) dX9_written_49) hP hD hS hA [4, 5] rfl rfl (fun H locs hP hD hS => ?_)
      have hP : va_P (dC, dI) vwCl [cl_X9 h_this h_this_now h_this_kept h_this_told h_this_text h_this_script h_this_momentReader h_this_spanReader h_this_adder h_this_other h_this_trial h_this_ways i_this, cl_X4 h_this_now h_this_now_day h_this_now_second h_this_now_months h_this_now_days h_this_now_seconds, (h_this_now_day, .inl (cI, 8, .inl f_this_now_day)), (h_this_now_second, .inl (cI, 8, .inl f_this_now_second)), cl_X6 h_this_script h_this_script_signs i_this_script_8, (h_this_script_signs, .inl (cI, 100, .inl f_this_script_signs_9))] H := hP
      have hD : va_D A [cl_X9 h_this h_this_now h_this_kept h_this_told h_this_text h_this_script h_this_momentReader h_this_spanReader h_this_adder h_this_other h_this_trial h_this_ways i_this, cl_X4 h_this_now h_this_now_day h_this_now_second h_this_now_months h_this_now_days h_this_now_seconds, (h_this_now_day, .inl (cI, 8, .inl f_this_now_day)), (h_this_now_second, .inl (cI, 8, .inl f_this_now_second)), cl_X6 h_this_script h_this_script_signs i_this_script_8, (h_this_script_signs, .inl (cI, 100, .inl f_this_script_signs_9))] := hD
      obtain ⟨rfl, rfl, rfl⟩ := pj3 h
      exact hEnd _ _ _ _ hP hS dX9_written_52 rfl
    have h := ite_t c11 h
    refine lv_aload_n hx hb dX9_written_34 rfl (lv_at hl 0 rfl) ?_
    refine va_get (D := (dC, dI)) (ci := 8) (v := .ref h_this_script) (C := RX9) (T := TX9) (N := 12) hx hb hts inX9 hown hK hP 0 rfl rfl 5 (by decide) (hts _ (kq q_297 rfl)) (fun _ h9 => h9) rfl dX9_written_35 ?_
    obtain ⟨r14, hc15, h⟩ := bd1_at h
    refine kjI (kV (own := "DateSpans") (C := "DateSpans$Text") (b := h_this_script) (As := []) (rest := []) ⟨hx, hb, hml, hown, hts⟩ (kX6_length l dC dI cI cJ cB h_this_script h_this_script_signs N i_this_script_8 r14 hc15 _) (kgV (kq q_333 rfl) (kq q_334 rfl) (kq q_335 rfl) (kq q_60 rfl) (kq q_336 rfl)) yd_X6_length ⟨Nat.le_of_ble_eq_true rfl, Nat.le_of_ble_eq_true rfl⟩ hN hK hP hD [4] rfl rfl (ci := 5) rfl rfl rfl rfl rfl hl.1 rfl (lv_room (Nat.le_of_ble_eq_true rfl)) dX9_written_38) hP hD hS hA [4] rfl rfl (fun H locs hP hD hS => ?_)
    have hP : va_P (dC, dI) vwCl [cl_X9 h_this h_this_now h_this_kept h_this_told h_this_text h_this_script h_this_momentReader h_this_spanReader h_this_adder h_this_other h_this_trial h_this_ways i_this, cl_X4 h_this_now h_this_now_day h_this_now_second h_this_now_months h_this_now_days h_this_now_seconds, (h_this_now_day, .inl (cI, 8, .inl f_this_now_day)), (h_this_now_second, .inl (cI, 8, .inl f_this_now_second)), cl_X6 h_this_script h_this_script_signs i_this_script_8, (h_this_script_signs, .inl (cI, 100, .inl f_this_script_signs_9))] H := hP
    have hD : va_D A [cl_X9 h_this h_this_now h_this_kept h_this_told h_this_text h_this_script h_this_momentReader h_this_spanReader h_this_adder h_this_other h_this_trial h_this_ways i_this, cl_X4 h_this_now h_this_now_day h_this_now_second h_this_now_months h_this_now_days h_this_now_seconds, (h_this_now_day, .inl (cI, 8, .inl f_this_now_day)), (h_this_now_second, .inl (cI, 8, .inl f_this_now_second)), cl_X6 h_this_script h_this_script_signs i_this_script_8, (h_this_script_signs, .inl (cI, 100, .inl f_this_script_signs_9))] := hD
    refine lv_goto (tgt := 52) hx hb dX9_written_41 (by decide) ?_
    obtain ⟨rfl, rfl, rfl⟩ := pj3 h
    exact hEnd _ _ _ _ hP hS dX9_written_52 rfl
  have h := ite_t c3 h
  refine lv_iconst (v := (-1 : Int32)) hx hb dX9_written_7 (by decide) ?_
  obtain ⟨rfl, rfl, rfl⟩ := pj3 h
  exact hEnd _ _ _ _ hP hS dX9_written_8 rfl
noncomputable def fX9_isShort (N : Nat) (p1 : Int32) : Option (Int32) := (if p1 < (-99999 : Int32) then (some (0 : Int32)) else (if (99999 : Int32) < p1 then (some (0 : Int32)) else (some (1 : Int32))))
set_option maxHeartbeats 4000000 in
set_option maxRecDepth 100000 in
theorem kX9_isShort (l : Launch) (N : Nat) (p1 : Int32) (r : Int32) (hf : fX9_isShort N p1 = some r) : SI l yX9_isShort (kws yX9_isShort cX9_isShort 1 (some .boolean)) (kR 0 0) [.int p1] r := by
  refine SI.of (cc := cX9_isShort) (maxL := 1) (by decide) (Nat.le_of_ble_eq_true rfl) (fun p e s m args below meth c Q ls KC hl hEnd => ?_)
  obtain ⟨hx, hb, hml, hown, hts⟩ := KC
  have hown : s.vm.findClass "DateSpans" = some m.cls := hown
  have hl : lv_has ls 1 [(0, .int p1)] := hl
  have h := hf
  unfold fX9_isShort at h
  refine lv_iload_n hx hb dX9_isShort_0 rfl (lv_at hl 0 rfl) ?_
  refine lv_ldcw (v := (-99999 : Int32)) hx hb hown (hts _ (kq q_871 rfl)) dX9_isShort_1 ?_
  refine lv_icmp_lt (tgt := 18) hx hb dX9_isShort_4 (by decide) (fun c1 => ?_) (fun c1 => ?_)
  · have h := ite_t c1 h
    refine lv_iconst (v := (0 : Int32)) hx hb dX9_isShort_18 (by decide) ?_
    obtain rfl := pj1 h
    exact hEnd _ _ dX9_isShort_19 rfl
  have h := ite_f c1 h
  refine lv_iload_n hx hb dX9_isShort_7 rfl (lv_at hl 0 rfl) ?_
  refine lv_ldcw (v := (99999 : Int32)) hx hb hown (hts _ (kq q_872 rfl)) dX9_isShort_8 ?_
  refine lv_icmp_gt (tgt := 18) hx hb dX9_isShort_11 (by decide) (fun c2 => ?_) (fun c2 => ?_)
  · have h := ite_t c2 h
    refine lv_iconst (v := (0 : Int32)) hx hb dX9_isShort_18 (by decide) ?_
    obtain rfl := pj1 h
    exact hEnd _ _ dX9_isShort_19 rfl
  have h := ite_f c2 h
  refine lv_iconst (v := (1 : Int32)) hx hb dX9_isShort_14 (by decide) ?_
  refine lv_goto (tgt := 19) hx hb dX9_isShort_15 (by decide) ?_
  obtain rfl := pj1 h
  exact hEnd _ _ dX9_isShort_19 rfl
noncomputable def fX6_putPart_l25 (N : Nat)  (n : Nat) : Int32 → Int32 → Int32 → Int32 → (Nat → Int32) → Option (Int32 × (Nat → Int32)) := Nat.rec (motive := fun _ => Int32 → Int32 → Int32 → Int32 → (Nat → Int32) → Option (Int32 × (Nat → Int32))) (fun _ _ _ _ _ => none) (fun _ K_25 v2 v3 v4 i_this f_this_signs => (if v4 ≤ (0 : Int32) then (bd2 (fX6_put N v2 i_this f_this_signs) fun i_this_2 f_this_signs_3 => (some (i_this_2, f_this_signs_3))) else (if v3 < v4 then (nm (v4 / (10 : Int32)) fun z6 => (K_25 v2 v3 z6 i_this f_this_signs)) else (gn v4 (bd2 (fX6_put N ((48 : Int32) + ((v3 / v4) - (v3 / v4) / (10 : Int32) * (10 : Int32))) i_this f_this_signs) fun i_this_8 f_this_signs_9 => (nm (v4 / (10 : Int32)) fun z11 => (K_25 v2 v3 z11 i_this_8 f_this_signs_9))))))) n
theorem fX6_putPart_l25_s (N : Nat)  (n : Nat) (v2 : Int32) (v3 : Int32) (v4 : Int32) (i_this : Int32) (f_this_signs : Nat → Int32) : fX6_putPart_l25 N (n + 1) v2 v3 v4 i_this f_this_signs = (if v4 ≤ (0 : Int32) then (bd2 (fX6_put N v2 i_this f_this_signs) fun i_this_2 f_this_signs_3 => (some (i_this_2, f_this_signs_3))) else (if v3 < v4 then (nm (v4 / (10 : Int32)) fun z6 => ((fX6_putPart_l25 N n) v2 v3 z6 i_this f_this_signs)) else (gn v4 (bd2 (fX6_put N ((48 : Int32) + ((v3 / v4) - (v3 / v4) / (10 : Int32) * (10 : Int32))) i_this f_this_signs) fun i_this_8 f_this_signs_9 => (nm (v4 / (10 : Int32)) fun z11 => ((fX6_putPart_l25 N n) v2 v3 z11 i_this_8 f_this_signs_9)))))) := rfl
theorem fX6_putPart_l25_0 (N : Nat)  (v2 : Int32) (v3 : Int32) (v4 : Int32) (i_this : Int32) (f_this_signs : Nat → Int32) : fX6_putPart_l25 N 0 v2 v3 v4 i_this f_this_signs = none := rfl
noncomputable def fX6_putPart (N : Nat) (p1 : Int32) (p2 : Int32) (i_this : Int32) (f_this_signs : Nat → Int32) : Option (Int32 × (Nat → Int32)) := (if p1 = (0 : Int32) then (some (i_this, f_this_signs)) else (if (0 : Int32) ≤ p1 then (nm (if 0 ≤ p1 then p1 else 0 - p1) fun z14 => (fX6_putPart_l25 N N p2 z14 (10000 : Int32) i_this f_this_signs)) else (bd2 (fX6_put N (45 : Int32) i_this f_this_signs) fun i_this_15 f_this_signs_16 => (nm (if 0 ≤ p1 then p1 else 0 - p1) fun z18 => (fX6_putPart_l25 N N p2 z18 (10000 : Int32) i_this_15 f_this_signs_16)))))
set_option maxHeartbeats 4000000 in
set_option maxRecDepth 100000 in
theorem kX6_putPart (l : Launch) (dC : Nat → ClassId) (dI : Nat → Nat → Nat) (cI cJ cB : ClassId) (h_this h_this_signs : Nat) (N : Nat) (p1 : Int32) (p2 : Int32) (i_this : Int32) (f_this_signs : Nat → Int32) (o_i_this : Int32) (o_f_this_signs : Nat → Int32) (hf : fX6_putPart N p1 p2 i_this f_this_signs = some (o_i_this, o_f_this_signs)) : MV l yX6_putPart (kws yX6_putPart cX6_putPart 5 (none)) (kR 1 23) (dC, dI) (kT cI cJ cB) [.ref h_this, .int p1, .int p2] [cl_X6 h_this h_this_signs i_this, (h_this_signs, .inl (cI, 100, .inl f_this_signs))] [cl_X6 h_this h_this_signs o_i_this, (h_this_signs, .inl (cI, 100, .inl o_f_this_signs))] := by
  refine MV.of (cc := cX6_putPart) (maxL := 5) (by decide) (Nat.le_of_ble_eq_true rfl) (fun p e s m args below meth c A Q ls KC hN hK hP hD hA hl hEnd => ?_)
  obtain ⟨hx, hb, hml, hown, hts⟩ := KC
  have hown : s.vm.findClass "DateSpans$Text" = some m.cls := hown
  have hl : lv_has ls 5 [(0, .ref h_this), (1, .int p1), (2, .int p2)] := hl
  have hS : va_S A s.heap s.heap [] := va_S.rf
  have LP_25 : ∀ n_25 : Nat, ∀ (v2 : Int32) (v3 : Int32) (v4 : Int32) (i_this : Int32) (f_this_signs : Nat → Int32) (ls : Array Slot) (H : Heap) (locs : List Loc), fX6_putPart_l25 N n_25 v2 v3 v4 i_this f_this_signs = some (o_i_this, o_f_this_signs) → lv_has ls 5 [(0, .ref h_this), (2, .int v2), (3, .int v3), (4, .int v4)] → va_P (dC, dI) vwCl [cl_X6 h_this h_this_signs i_this, (h_this_signs, .inl (cI, 100, .inl f_this_signs))] H → va_D A [cl_X6 h_this h_this_signs i_this, (h_this_signs, .inl (cI, 100, .inl f_this_signs))] → va_S A s.heap H locs → W p l e (kR 1 23) s m args below meth c H locs 0 0 Q (F0 m 25 ls []) := by
    intro n_25
    induction n_25 with
    | zero =>
      intro v2 v3 v4 i_this f_this_signs ls H locs h hl hP hD hS
      rw [fX6_putPart_l25_0] at h; cases h
    | succ n_25 ih_25 =>
      intro v2 v3 v4 i_this f_this_signs ls H locs h hl hP hD hS
      rw [fX6_putPart_l25_s] at h
      refine lv_iload hx hb dX6_putPart_25 (lv_at hl 3 rfl) ?_
      refine lv_if_le (tgt := 60) hx hb dX6_putPart_27 (by decide) (fun c1 => ?_) (fun c1 => ?_)
      · have h := ite_t c1 h
        refine lv_aload_n hx hb dX6_putPart_60 rfl (lv_at hl 0 rfl) ?_
        refine lv_iload_n hx hb dX6_putPart_61 rfl (lv_at hl 1 rfl) ?_
        obtain ⟨i_this_2, f_this_signs_3, hc4, h⟩ := bd2_at h
        refine kjV (kV (own := "DateSpans$Text") (C := "DateSpans$Text") (b := h_this) (As := [.int v2]) (rest := []) ⟨hx, hb, hml, hown, hts⟩ (kX6_put l dC dI cI cJ cB h_this h_this_signs N v2 i_this f_this_signs i_this_2 f_this_signs_3 hc4 _) (kgV (kq q_862 rfl) (kq q_338 rfl) (kq q_339 rfl) (kq q_60 rfl) (kq q_340 rfl)) yd_X6_put ⟨Nat.le_of_ble_eq_true rfl, Nat.le_of_ble_eq_true rfl⟩ hN hK hP hD [0, 1] rfl rfl (ci := 5) rfl rfl rfl rfl rfl hl.1 rfl (lv_room (Nat.le_of_ble_eq_true rfl)) dX6_putPart_62) hP hD hS hA [0, 1] rfl rfl (fun H locs hP hD hS => ?_)
        have hP : va_P (dC, dI) vwCl [cl_X6 h_this h_this_signs i_this_2, (h_this_signs, .inl (cI, 100, .inl f_this_signs_3))] H := hP
        have hD : va_D A [cl_X6 h_this h_this_signs i_this_2, (h_this_signs, .inl (cI, 100, .inl f_this_signs_3))] := hD
        obtain ⟨rfl, rfl⟩ := pj2 h
        exact hEnd _ _ _ _ hP hS dX6_putPart_65
      have h := ite_f c1 h
      refine lv_iload_n hx hb dX6_putPart_30 rfl (lv_at hl 2 rfl) ?_
      refine lv_iload hx hb dX6_putPart_31 (lv_at hl 3 rfl) ?_
      refine lv_icmp_lt (tgt := 50) hx hb dX6_putPart_33 (by decide) (fun c5 => ?_) (fun c5 => ?_)
      · have h := ite_t c5 h
        refine lv_iload hx hb dX6_putPart_50 (lv_at hl 3 rfl) ?_
        refine lv_bipush (v := (10 : Int32)) hx hb dX6_putPart_52 (by decide) ?_
        refine lv_idiv hx hb dX6_putPart_54 (by decide) ?_
        refine lv_topi (fun z6 ez6 => ?_)
        have h := nm_at ez6 h
        refine lv_istore (lv' := [(4, .int z6), (0, .ref h_this), (2, .int v2), (3, .int v3)]) hx hb dX6_putPart_55 hl (by decide) rfl (fun ls hl => ?_)
        refine lv_goto (tgt := 25) hx hb dX6_putPart_57 (by decide) ?_
        exact ih_25 _ _ _ _ _ _ _ _ h (lv_sub hl [1, 2, 3, 0] rfl) hP hD hS
      have h := ite_f c5 h
      refine lv_aload_n hx hb dX6_putPart_36 rfl (lv_at hl 0 rfl) ?_
      refine lv_bipush (v := (48 : Int32)) hx hb dX6_putPart_37 (by decide) ?_
      refine lv_iload_n hx hb dX6_putPart_39 rfl (lv_at hl 2 rfl) ?_
      refine lv_iload hx hb dX6_putPart_40 (lv_at hl 3 rfl) ?_
      obtain ⟨hn7, h⟩ := gn_at h
      refine lv_idiv hx hb dX6_putPart_42 hn7 ?_
      refine lv_bipush (v := (10 : Int32)) hx hb dX6_putPart_43 (by decide) ?_
      refine lv_irem hx hb dX6_putPart_45 (by decide) ?_
      refine lv_iadd hx hb dX6_putPart_46 ?_
      obtain ⟨i_this_8, f_this_signs_9, hc10, h⟩ := bd2_at h
      refine kjV (kV (own := "DateSpans$Text") (C := "DateSpans$Text") (b := h_this) (As := [.int ((48 : Int32) + ((v3 / v4) - (v3 / v4) / (10 : Int32) * (10 : Int32)))]) (rest := []) ⟨hx, hb, hml, hown, hts⟩ (kX6_put l dC dI cI cJ cB h_this h_this_signs N ((48 : Int32) + ((v3 / v4) - (v3 / v4) / (10 : Int32) * (10 : Int32))) i_this f_this_signs i_this_8 f_this_signs_9 hc10 _) (kgV (kq q_862 rfl) (kq q_338 rfl) (kq q_339 rfl) (kq q_60 rfl) (kq q_340 rfl)) yd_X6_put ⟨Nat.le_of_ble_eq_true rfl, Nat.le_of_ble_eq_true rfl⟩ hN hK hP hD [0, 1] rfl rfl (ci := 5) rfl rfl rfl rfl rfl hl.1 rfl (lv_room (Nat.le_of_ble_eq_true rfl)) dX6_putPart_47) hP hD hS hA [0, 1] rfl rfl (fun H locs hP hD hS => ?_)
      have hP : va_P (dC, dI) vwCl [cl_X6 h_this h_this_signs i_this_8, (h_this_signs, .inl (cI, 100, .inl f_this_signs_9))] H := hP
      have hD : va_D A [cl_X6 h_this h_this_signs i_this_8, (h_this_signs, .inl (cI, 100, .inl f_this_signs_9))] := hD
      refine lv_iload hx hb dX6_putPart_50 (lv_at hl 3 rfl) ?_
      refine lv_bipush (v := (10 : Int32)) hx hb dX6_putPart_52 (by decide) ?_
      refine lv_idiv hx hb dX6_putPart_54 (by decide) ?_
      refine lv_topi (fun z11 ez11 => ?_)
      have h := nm_at ez11 h
      refine lv_istore (lv' := [(4, .int z11), (0, .ref h_this), (2, .int v2), (3, .int v3)]) hx hb dX6_putPart_55 hl (by decide) rfl (fun ls hl => ?_)
      refine lv_goto (tgt := 25) hx hb dX6_putPart_57 (by decide) ?_
      exact ih_25 _ _ _ _ _ _ _ _ h (lv_sub hl [1, 2, 3, 0] rfl) hP hD hS
  have h := hf
  unfold fX6_putPart at h
  refine lv_iload_n hx hb dX6_putPart_0 rfl (lv_at hl 1 rfl) ?_
  refine lv_if_ne (tgt := 5) hx hb dX6_putPart_1 (by decide) (fun c12 => ?_) (fun c12 => ?_)
  · have h := ite_f c12 h
    refine lv_iload_n hx hb dX6_putPart_5 rfl (lv_at hl 1 rfl) ?_
    refine lv_if_ge (tgt := 15) hx hb dX6_putPart_6 (by decide) (fun c13 => ?_) (fun c13 => ?_)
    · have h := ite_t c13 h
      refine lv_iload_n hx hb dX6_putPart_15 rfl (lv_at hl 1 rfl) ?_
      refine va_mabs (rest := []) hx hb (hml.trans hl.1.symm) hown (hts _ (kq q_877 rfl)) (hts _ (kq q_632 rfl)) (hts _ (kq q_72 rfl)) (hts _ (kq q_633 rfl)) (Nat.le_of_ble_eq_true rfl) (Nat.le_of_ble_eq_true rfl) (Nat.zero_le _) (Nat.zero_le _) dX6_putPart_16 ?_
      refine lv_topi (fun z14 ez14 => ?_)
      have h := nm_at ez14 h
      refine lv_istore_n (lv' := [(3, .int z14), (0, .ref h_this), (1, .int p1), (2, .int p2)]) hx hb dX6_putPart_19 rfl hl (by decide) rfl (fun ls hl => ?_)
      refine lv_sipush (v := (10000 : Int32)) hx hb dX6_putPart_20 (by decide) ?_
      refine lv_istore (lv' := [(4, .int (10000 : Int32)), (3, .int z14), (0, .ref h_this), (1, .int p1), (2, .int p2)]) hx hb dX6_putPart_23 hl (by decide) rfl (fun ls hl => ?_)
      exact LP_25 N _ _ _ _ _ _ _ _ h (lv_sub hl [2, 4, 1, 0] rfl) hP hD hS
    have h := ite_f c13 h
    refine lv_aload_n hx hb dX6_putPart_9 rfl (lv_at hl 0 rfl) ?_
    refine lv_bipush (v := (45 : Int32)) hx hb dX6_putPart_10 (by decide) ?_
    obtain ⟨i_this_15, f_this_signs_16, hc17, h⟩ := bd2_at h
    refine kjV (kV (own := "DateSpans$Text") (C := "DateSpans$Text") (b := h_this) (As := [.int (45 : Int32)]) (rest := []) ⟨hx, hb, hml, hown, hts⟩ (kX6_put l dC dI cI cJ cB h_this h_this_signs N (45 : Int32) i_this f_this_signs i_this_15 f_this_signs_16 hc17 _) (kgV (kq q_862 rfl) (kq q_338 rfl) (kq q_339 rfl) (kq q_60 rfl) (kq q_340 rfl)) yd_X6_put ⟨Nat.le_of_ble_eq_true rfl, Nat.le_of_ble_eq_true rfl⟩ hN hK hP hD [0, 1] rfl rfl (ci := 5) rfl rfl rfl rfl rfl hl.1 rfl (lv_room (Nat.le_of_ble_eq_true rfl)) dX6_putPart_12) hP hD hS hA [0, 1] rfl rfl (fun H locs hP hD hS => ?_)
    have hP : va_P (dC, dI) vwCl [cl_X6 h_this h_this_signs i_this_15, (h_this_signs, .inl (cI, 100, .inl f_this_signs_16))] H := hP
    have hD : va_D A [cl_X6 h_this h_this_signs i_this_15, (h_this_signs, .inl (cI, 100, .inl f_this_signs_16))] := hD
    refine lv_iload_n hx hb dX6_putPart_15 rfl (lv_at hl 1 rfl) ?_
    refine va_mabs (rest := []) hx hb (hml.trans hl.1.symm) hown (hts _ (kq q_877 rfl)) (hts _ (kq q_632 rfl)) (hts _ (kq q_72 rfl)) (hts _ (kq q_633 rfl)) (Nat.le_of_ble_eq_true rfl) (Nat.le_of_ble_eq_true rfl) (Nat.zero_le _) (Nat.zero_le _) dX6_putPart_16 ?_
    refine lv_topi (fun z18 ez18 => ?_)
    have h := nm_at ez18 h
    refine lv_istore_n (lv' := [(3, .int z18), (0, .ref h_this), (1, .int p1), (2, .int p2)]) hx hb dX6_putPart_19 rfl hl (by decide) rfl (fun ls hl => ?_)
    refine lv_sipush (v := (10000 : Int32)) hx hb dX6_putPart_20 (by decide) ?_
    refine lv_istore (lv' := [(4, .int (10000 : Int32)), (3, .int z18), (0, .ref h_this), (1, .int p1), (2, .int p2)]) hx hb dX6_putPart_23 hl (by decide) rfl (fun ls hl => ?_)
    exact LP_25 N _ _ _ _ _ _ _ _ h (lv_sub hl [2, 4, 1, 0] rfl) hP hD hS
  have h := ite_t c12 h
  obtain ⟨rfl, rfl⟩ := pj2 h
  exact hEnd _ _ _ _ hP hS dX6_putPart_4
noncomputable def fX9_phrase_j215 (N : Nat) (i_this : Int32) (f_this_now_months : Nat → Int32) (f_this_now_days : Nat → Int32) (f_this_now_seconds : Nat → Int32) (v2 : Int32) (i_this_script : Int32) (f_this_script_signs : Nat → Int32) : Option (Int32 × Int32 × (Nat → Int32)) := (if v2 = (-1 : Int32) then (bd1 (fX6_length N i_this_script) fun r4 => (some (r4, i_this_script, f_this_script_signs))) else (bd1 (fX6_at N v2 i_this_script f_this_script_signs) fun r2 => (some (r2, i_this_script, f_this_script_signs))))
noncomputable def fX9_phrase (N : Nat) (p1 : Int32) (p2 : Int32) (i_this : Int32) (f_this_now_months : Nat → Int32) (f_this_now_days : Nat → Int32) (f_this_now_seconds : Nat → Int32) (i_this_script : Int32) (f_this_script_signs : Nat → Int32) : Option (Int32 × Int32 × (Nat → Int32)) := (bd1 (fX9_isSlot N p1) fun r6 => (if r6 = (0 : Int32) then (some ((-1 : Int32), i_this_script, f_this_script_signs)) else (if (-1 : Int32) ≤ p2 then (bd1 (fX4_monthsAt N p1 f_this_now_months) fun r10 => (bd1 (fX4_daysAt N p1 f_this_now_days) fun r12 => (bd1 (fX4_secondsAt N p1 f_this_now_seconds) fun r14 => (bd1 (fX9_isShort N (r10 / (12 : Int32))) fun r16 => (if r16 = (0 : Int32) then (some ((-2 : Int32), i_this_script, f_this_script_signs)) else (bd1 (fX9_isShort N (r12 / (7 : Int32))) fun r19 => (if r19 = (0 : Int32) then (some ((-2 : Int32), i_this_script, f_this_script_signs)) else (bd1 (fX9_isShort N (r14 / (3600 : Int32))) fun r22 => (if r22 = (0 : Int32) then (some ((-2 : Int32), i_this_script, f_this_script_signs)) else (bd1 (fX6_cut N (0 : Int32) i_this_script) fun i_this_script_25 => (bd2 (fX6_putPart N (r10 / (12 : Int32)) (121 : Int32) i_this_script_25 f_this_script_signs) fun i_this_script_27 f_this_script_signs_28 => (bd2 (fX6_putPart N (r10 - r10 / (12 : Int32) * (12 : Int32)) (109 : Int32) i_this_script_27 f_this_script_signs_28) fun i_this_script_30 f_this_script_signs_31 => (bd2 (fX6_putPart N (r12 / (7 : Int32)) (119 : Int32) i_this_script_30 f_this_script_signs_31) fun i_this_script_33 f_this_script_signs_34 => (bd2 (fX6_putPart N (r12 - r12 / (7 : Int32) * (7 : Int32)) (100 : Int32) i_this_script_33 f_this_script_signs_34) fun i_this_script_36 f_this_script_signs_37 => (bd2 (fX6_putPart N (r14 / (3600 : Int32)) (104 : Int32) i_this_script_36 f_this_script_signs_37) fun i_this_script_39 f_this_script_signs_40 => (bd2 (fX6_putPart N ((r14 / (60 : Int32)) - (r14 / (60 : Int32)) / (60 : Int32) * (60 : Int32)) (105 : Int32) i_this_script_39 f_this_script_signs_40) fun i_this_script_42 f_this_script_signs_43 => (bd2 (fX6_putPart N (r14 - r14 / (60 : Int32) * (60 : Int32)) (115 : Int32) i_this_script_42 f_this_script_signs_43) fun i_this_script_45 f_this_script_signs_46 => (bd1 (fX6_length N i_this_script_45) fun r48 => (if r48 = (0 : Int32) then (bd2 (fX6_put N (48 : Int32) i_this_script_45 f_this_script_signs_46) fun i_this_script_51 f_this_script_signs_52 => (bd2 (fX6_put N (115 : Int32) i_this_script_51 f_this_script_signs_52) fun i_this_script_54 f_this_script_signs_55 => (fX9_phrase_j215 N i_this f_this_now_months f_this_now_days f_this_now_seconds p2 i_this_script_54 f_this_script_signs_55))) else (fX9_phrase_j215 N i_this f_this_now_months f_this_now_days f_this_now_seconds p2 i_this_script_45 f_this_script_signs_46)))))))))))))))))))) else (some ((-1 : Int32), i_this_script, f_this_script_signs)))))
set_option maxHeartbeats 4000000 in
set_option maxRecDepth 100000 in
theorem kX9_phrase (l : Launch) (dC : Nat → ClassId) (dI : Nat → Nat → Nat) (cI cJ cB : ClassId) (h_this h_this_now h_this_kept h_this_told h_this_text h_this_script h_this_momentReader h_this_spanReader h_this_adder h_this_other h_this_trial h_this_ways h_this_now_day h_this_now_second h_this_now_months h_this_now_days h_this_now_seconds h_this_script_signs : Nat) (N : Nat) (p1 : Int32) (p2 : Int32) (i_this : Int32) (f_this_now_months : Nat → Int32) (f_this_now_days : Nat → Int32) (f_this_now_seconds : Nat → Int32) (i_this_script : Int32) (f_this_script_signs : Nat → Int32) (r : Int32) (o_i_this_script : Int32) (o_f_this_script_signs : Nat → Int32) (hf : fX9_phrase N p1 p2 i_this f_this_now_months f_this_now_days f_this_now_seconds i_this_script f_this_script_signs = some (r, o_i_this_script, o_f_this_script_signs)) : MI l yX9_phrase (kws yX9_phrase cX9_phrase 6 (some .int)) (kR 2 47) (dC, dI) (kT cI cJ cB) [.ref h_this, .int p1, .int p2] [cl_X9 h_this h_this_now h_this_kept h_this_told h_this_text h_this_script h_this_momentReader h_this_spanReader h_this_adder h_this_other h_this_trial h_this_ways i_this, cl_X4 h_this_now h_this_now_day h_this_now_second h_this_now_months h_this_now_days h_this_now_seconds, (h_this_now_months, .inl (cI, 8, .inl f_this_now_months)), (h_this_now_days, .inl (cI, 8, .inl f_this_now_days)), (h_this_now_seconds, .inl (cI, 8, .inl f_this_now_seconds)), cl_X6 h_this_script h_this_script_signs i_this_script, (h_this_script_signs, .inl (cI, 100, .inl f_this_script_signs))] [cl_X9 h_this h_this_now h_this_kept h_this_told h_this_text h_this_script h_this_momentReader h_this_spanReader h_this_adder h_this_other h_this_trial h_this_ways i_this, cl_X4 h_this_now h_this_now_day h_this_now_second h_this_now_months h_this_now_days h_this_now_seconds, (h_this_now_months, .inl (cI, 8, .inl f_this_now_months)), (h_this_now_days, .inl (cI, 8, .inl f_this_now_days)), (h_this_now_seconds, .inl (cI, 8, .inl f_this_now_seconds)), cl_X6 h_this_script h_this_script_signs o_i_this_script, (h_this_script_signs, .inl (cI, 100, .inl o_f_this_script_signs))] r := by
  refine MI.of (cc := cX9_phrase) (maxL := 6) (by decide) (Nat.le_of_ble_eq_true rfl) (fun p e s m args below meth c A Q ls KC hN hK hP hD hA hl hEnd => ?_)
  obtain ⟨hx, hb, hml, hown, hts⟩ := KC
  have hown : s.vm.findClass "DateSpans" = some m.cls := hown
  have hl : lv_has ls 6 [(0, .ref h_this), (1, .int p1), (2, .int p2)] := hl
  have hS : va_S A s.heap s.heap [] := va_S.rf
  have JN_215 : ∀ (v2 : Int32) (i_this_script : Int32) (f_this_script_signs : Nat → Int32) (ls : Array Slot) (H : Heap) (locs : List Loc), (fX9_phrase_j215 N i_this f_this_now_months f_this_now_days f_this_now_seconds) v2 i_this_script f_this_script_signs = some (r, o_i_this_script, o_f_this_script_signs) → lv_has ls 6 [(0, .ref h_this), (2, .int v2)] → va_P (dC, dI) vwCl [cl_X9 h_this h_this_now h_this_kept h_this_told h_this_text h_this_script h_this_momentReader h_this_spanReader h_this_adder h_this_other h_this_trial h_this_ways i_this, cl_X4 h_this_now h_this_now_day h_this_now_second h_this_now_months h_this_now_days h_this_now_seconds, (h_this_now_months, .inl (cI, 8, .inl f_this_now_months)), (h_this_now_days, .inl (cI, 8, .inl f_this_now_days)), (h_this_now_seconds, .inl (cI, 8, .inl f_this_now_seconds)), cl_X6 h_this_script h_this_script_signs i_this_script, (h_this_script_signs, .inl (cI, 100, .inl f_this_script_signs))] H → va_D A [cl_X9 h_this h_this_now h_this_kept h_this_told h_this_text h_this_script h_this_momentReader h_this_spanReader h_this_adder h_this_other h_this_trial h_this_ways i_this, cl_X4 h_this_now h_this_now_day h_this_now_second h_this_now_months h_this_now_days h_this_now_seconds, (h_this_now_months, .inl (cI, 8, .inl f_this_now_months)), (h_this_now_days, .inl (cI, 8, .inl f_this_now_days)), (h_this_now_seconds, .inl (cI, 8, .inl f_this_now_seconds)), cl_X6 h_this_script h_this_script_signs i_this_script, (h_this_script_signs, .inl (cI, 100, .inl f_this_script_signs))] → va_S A s.heap H locs → W p l e (kR 2 47) s m args below meth c H locs 0 0 Q (F0 m 215 ls []) := by
    intro v2 i_this_script f_this_script_signs ls H locs h hl hP hD hS
    unfold fX9_phrase_j215 at h
    refine lv_iload_n hx hb dX9_phrase_215 rfl (lv_at hl 1 rfl) ?_
    refine lv_iconst (v := (-1 : Int32)) hx hb dX9_phrase_216 (by decide) ?_
    refine lv_icmp_ne (tgt := 230) hx hb dX9_phrase_217 (by decide) (fun c1 => ?_) (fun c1 => ?_)
    · have h := ite_f c1 h
      refine lv_aload_n hx hb dX9_phrase_230 rfl (lv_at hl 0 rfl) ?_
      refine va_get (D := (dC, dI)) (ci := 8) (v := .ref h_this_script) (C := RX9) (T := TX9) (N := 12) hx hb hts inX9 hown hK hP 0 rfl rfl 5 (by decide) (hts _ (kq q_297 rfl)) (fun _ h9 => h9) rfl dX9_phrase_231 ?_
      refine lv_iload_n hx hb dX9_phrase_234 rfl (lv_at hl 1 rfl) ?_
      obtain ⟨r2, hc3, h⟩ := bd1_at h
      refine kjI (kV (own := "DateSpans") (C := "DateSpans$Text") (b := h_this_script) (As := [.int v2]) (rest := []) ⟨hx, hb, hml, hown, hts⟩ (kX6_at l dC dI cI cJ cB h_this_script h_this_script_signs N v2 i_this_script f_this_script_signs r2 hc3 _) (kgV (kq q_863 rfl) (kq q_359 rfl) (kq q_360 rfl) (kq q_60 rfl) (kq q_361 rfl)) yd_X6_at ⟨Nat.le_of_ble_eq_true rfl, Nat.le_of_ble_eq_true rfl⟩ hN hK hP hD [5, 6] rfl rfl (ci := 5) rfl rfl rfl rfl rfl hl.1 rfl (lv_room (Nat.le_of_ble_eq_true rfl)) dX9_phrase_235) hP hD hS hA [5, 6] rfl rfl (fun H locs hP hD hS => ?_)
      have hP : va_P (dC, dI) vwCl [cl_X9 h_this h_this_now h_this_kept h_this_told h_this_text h_this_script h_this_momentReader h_this_spanReader h_this_adder h_this_other h_this_trial h_this_ways i_this, cl_X4 h_this_now h_this_now_day h_this_now_second h_this_now_months h_this_now_days h_this_now_seconds, (h_this_now_months, .inl (cI, 8, .inl f_this_now_months)), (h_this_now_days, .inl (cI, 8, .inl f_this_now_days)), (h_this_now_seconds, .inl (cI, 8, .inl f_this_now_seconds)), cl_X6 h_this_script h_this_script_signs i_this_script, (h_this_script_signs, .inl (cI, 100, .inl f_this_script_signs))] H := hP
      have hD : va_D A [cl_X9 h_this h_this_now h_this_kept h_this_told h_this_text h_this_script h_this_momentReader h_this_spanReader h_this_adder h_this_other h_this_trial h_this_ways i_this, cl_X4 h_this_now h_this_now_day h_this_now_second h_this_now_months h_this_now_days h_this_now_seconds, (h_this_now_months, .inl (cI, 8, .inl f_this_now_months)), (h_this_now_days, .inl (cI, 8, .inl f_this_now_days)), (h_this_now_seconds, .inl (cI, 8, .inl f_this_now_seconds)), cl_X6 h_this_script h_this_script_signs i_this_script, (h_this_script_signs, .inl (cI, 100, .inl f_this_script_signs))] := hD
      obtain ⟨rfl, rfl, rfl⟩ := pj3 h
      exact hEnd _ _ _ _ hP hS dX9_phrase_238 rfl
    have h := ite_t c1 h
    refine lv_aload_n hx hb dX9_phrase_220 rfl (lv_at hl 0 rfl) ?_
    refine va_get (D := (dC, dI)) (ci := 8) (v := .ref h_this_script) (C := RX9) (T := TX9) (N := 12) hx hb hts inX9 hown hK hP 0 rfl rfl 5 (by decide) (hts _ (kq q_297 rfl)) (fun _ h9 => h9) rfl dX9_phrase_221 ?_
    obtain ⟨r4, hc5, h⟩ := bd1_at h
    refine kjI (kV (own := "DateSpans") (C := "DateSpans$Text") (b := h_this_script) (As := []) (rest := []) ⟨hx, hb, hml, hown, hts⟩ (kX6_length l dC dI cI cJ cB h_this_script h_this_script_signs N i_this_script r4 hc5 _) (kgV (kq q_333 rfl) (kq q_334 rfl) (kq q_335 rfl) (kq q_60 rfl) (kq q_336 rfl)) yd_X6_length ⟨Nat.le_of_ble_eq_true rfl, Nat.le_of_ble_eq_true rfl⟩ hN hK hP hD [5] rfl rfl (ci := 5) rfl rfl rfl rfl rfl hl.1 rfl (lv_room (Nat.le_of_ble_eq_true rfl)) dX9_phrase_224) hP hD hS hA [5] rfl rfl (fun H locs hP hD hS => ?_)
    have hP : va_P (dC, dI) vwCl [cl_X9 h_this h_this_now h_this_kept h_this_told h_this_text h_this_script h_this_momentReader h_this_spanReader h_this_adder h_this_other h_this_trial h_this_ways i_this, cl_X4 h_this_now h_this_now_day h_this_now_second h_this_now_months h_this_now_days h_this_now_seconds, (h_this_now_months, .inl (cI, 8, .inl f_this_now_months)), (h_this_now_days, .inl (cI, 8, .inl f_this_now_days)), (h_this_now_seconds, .inl (cI, 8, .inl f_this_now_seconds)), cl_X6 h_this_script h_this_script_signs i_this_script, (h_this_script_signs, .inl (cI, 100, .inl f_this_script_signs))] H := hP
    have hD : va_D A [cl_X9 h_this h_this_now h_this_kept h_this_told h_this_text h_this_script h_this_momentReader h_this_spanReader h_this_adder h_this_other h_this_trial h_this_ways i_this, cl_X4 h_this_now h_this_now_day h_this_now_second h_this_now_months h_this_now_days h_this_now_seconds, (h_this_now_months, .inl (cI, 8, .inl f_this_now_months)), (h_this_now_days, .inl (cI, 8, .inl f_this_now_days)), (h_this_now_seconds, .inl (cI, 8, .inl f_this_now_seconds)), cl_X6 h_this_script h_this_script_signs i_this_script, (h_this_script_signs, .inl (cI, 100, .inl f_this_script_signs))] := hD
    refine lv_goto (tgt := 238) hx hb dX9_phrase_227 (by decide) ?_
    obtain ⟨rfl, rfl, rfl⟩ := pj3 h
    exact hEnd _ _ _ _ hP hS dX9_phrase_238 rfl
  have h := hf
  unfold fX9_phrase at h
  refine lv_iload_n hx hb dX9_phrase_0 rfl (lv_at hl 1 rfl) ?_
  obtain ⟨r6, hc7, h⟩ := bd1_at h
  refine kjSI (kS0 (own := "DateSpans") (As := [.int p1]) (rest := []) ⟨hx, hb, hml, hown, hts⟩ (kX9_isSlot l N p1 r6 hc7) (kgS (kq q_387 rfl) (kq q_388 rfl) (kq q_57 rfl) (kq q_389 rfl)) yd_X9_isSlot ⟨Nat.le_of_ble_eq_true rfl, Nat.le_of_ble_eq_true rfl⟩ rfl rfl hl.1 rfl (lv_room (Nat.le_of_ble_eq_true rfl)) dX9_phrase_1) ?_
  refine lv_if_eq (tgt := 12) hx hb dX9_phrase_4 (by decide) (fun c8 => ?_) (fun c8 => ?_)
  · have h := ite_t c8 h
    refine lv_iconst (v := (-1 : Int32)) hx hb dX9_phrase_12 (by decide) ?_
    obtain ⟨rfl, rfl, rfl⟩ := pj3 h
    exact hEnd _ _ _ _ hP hS dX9_phrase_13 rfl
  have h := ite_f c8 h
  refine lv_iload_n hx hb dX9_phrase_7 rfl (lv_at hl 2 rfl) ?_
  refine lv_iconst (v := (-1 : Int32)) hx hb dX9_phrase_8 (by decide) ?_
  refine lv_icmp_ge (tgt := 14) hx hb dX9_phrase_9 (by decide) (fun c9 => ?_) (fun c9 => ?_)
  · have h := ite_t c9 h
    refine lv_aload_n hx hb dX9_phrase_14 rfl (lv_at hl 0 rfl) ?_
    refine va_get (D := (dC, dI)) (ci := 8) (v := .ref h_this_now) (C := RX9) (T := TX9) (N := 12) hx hb hts inX9 hown hK hP 0 rfl rfl 0 (by decide) (hts _ (kq q_292 rfl)) (fun _ h9 => h9) rfl dX9_phrase_15 ?_
    refine lv_iload_n hx hb dX9_phrase_18 rfl (lv_at hl 1 rfl) ?_
    obtain ⟨r10, hc11, h⟩ := bd1_at h
    refine kjI (kV (own := "DateSpans") (C := "DateSpans$Slots") (b := h_this_now) (As := [.int p1]) (rest := []) ⟨hx, hb, hml, hown, hts⟩ (kX4_monthsAt l dC dI cI cJ cB h_this_now h_this_now_day h_this_now_second h_this_now_months h_this_now_days h_this_now_seconds N p1 f_this_now_months r10 hc11 _) (kgV (kq q_490 rfl) (kq q_491 rfl) (kq q_492 rfl) (kq q_58 rfl) (kq q_493 rfl)) yd_X4_monthsAt ⟨Nat.le_of_ble_eq_true rfl, Nat.le_of_ble_eq_true rfl⟩ hN hK hP hD [1, 2] rfl rfl (ci := 3) rfl rfl rfl rfl rfl hl.1 rfl (lv_room (Nat.le_of_ble_eq_true rfl)) dX9_phrase_19) hP hD hS hA [1, 2] rfl rfl (fun H locs hP hD hS => ?_)
    have hP : va_P (dC, dI) vwCl [cl_X9 h_this h_this_now h_this_kept h_this_told h_this_text h_this_script h_this_momentReader h_this_spanReader h_this_adder h_this_other h_this_trial h_this_ways i_this, cl_X4 h_this_now h_this_now_day h_this_now_second h_this_now_months h_this_now_days h_this_now_seconds, (h_this_now_months, .inl (cI, 8, .inl f_this_now_months)), (h_this_now_days, .inl (cI, 8, .inl f_this_now_days)), (h_this_now_seconds, .inl (cI, 8, .inl f_this_now_seconds)), cl_X6 h_this_script h_this_script_signs i_this_script, (h_this_script_signs, .inl (cI, 100, .inl f_this_script_signs))] H := hP
    have hD : va_D A [cl_X9 h_this h_this_now h_this_kept h_this_told h_this_text h_this_script h_this_momentReader h_this_spanReader h_this_adder h_this_other h_this_trial h_this_ways i_this, cl_X4 h_this_now h_this_now_day h_this_now_second h_this_now_months h_this_now_days h_this_now_seconds, (h_this_now_months, .inl (cI, 8, .inl f_this_now_months)), (h_this_now_days, .inl (cI, 8, .inl f_this_now_days)), (h_this_now_seconds, .inl (cI, 8, .inl f_this_now_seconds)), cl_X6 h_this_script h_this_script_signs i_this_script, (h_this_script_signs, .inl (cI, 100, .inl f_this_script_signs))] := hD
    refine lv_istore_n (lv' := [(3, .int r10), (0, .ref h_this), (1, .int p1), (2, .int p2)]) hx hb dX9_phrase_22 rfl hl (by decide) rfl (fun ls hl => ?_)
    refine lv_aload_n hx hb dX9_phrase_23 rfl (lv_at hl 1 rfl) ?_
    refine va_get (D := (dC, dI)) (ci := 8) (v := .ref h_this_now) (C := RX9) (T := TX9) (N := 12) hx hb hts inX9 hown hK hP 0 rfl rfl 0 (by decide) (hts _ (kq q_292 rfl)) (fun _ h9 => h9) rfl dX9_phrase_24 ?_
    refine lv_iload_n hx hb dX9_phrase_27 rfl (lv_at hl 2 rfl) ?_
    obtain ⟨r12, hc13, h⟩ := bd1_at h
    refine kjI (kV (own := "DateSpans") (C := "DateSpans$Slots") (b := h_this_now) (As := [.int p1]) (rest := []) ⟨hx, hb, hml, hown, hts⟩ (kX4_daysAt l dC dI cI cJ cB h_this_now h_this_now_day h_this_now_second h_this_now_months h_this_now_days h_this_now_seconds N p1 f_this_now_days r12 hc13 _) (kgV (kq q_494 rfl) (kq q_495 rfl) (kq q_496 rfl) (kq q_58 rfl) (kq q_497 rfl)) yd_X4_daysAt ⟨Nat.le_of_ble_eq_true rfl, Nat.le_of_ble_eq_true rfl⟩ hN hK hP hD [1, 3] rfl rfl (ci := 3) rfl rfl rfl rfl rfl hl.1 rfl (lv_room (Nat.le_of_ble_eq_true rfl)) dX9_phrase_28) hP hD hS hA [1, 3] rfl rfl (fun H locs hP hD hS => ?_)
    have hP : va_P (dC, dI) vwCl [cl_X9 h_this h_this_now h_this_kept h_this_told h_this_text h_this_script h_this_momentReader h_this_spanReader h_this_adder h_this_other h_this_trial h_this_ways i_this, cl_X4 h_this_now h_this_now_day h_this_now_second h_this_now_months h_this_now_days h_this_now_seconds, (h_this_now_months, .inl (cI, 8, .inl f_this_now_months)), (h_this_now_days, .inl (cI, 8, .inl f_this_now_days)), (h_this_now_seconds, .inl (cI, 8, .inl f_this_now_seconds)), cl_X6 h_this_script h_this_script_signs i_this_script, (h_this_script_signs, .inl (cI, 100, .inl f_this_script_signs))] H := hP
    have hD : va_D A [cl_X9 h_this h_this_now h_this_kept h_this_told h_this_text h_this_script h_this_momentReader h_this_spanReader h_this_adder h_this_other h_this_trial h_this_ways i_this, cl_X4 h_this_now h_this_now_day h_this_now_second h_this_now_months h_this_now_days h_this_now_seconds, (h_this_now_months, .inl (cI, 8, .inl f_this_now_months)), (h_this_now_days, .inl (cI, 8, .inl f_this_now_days)), (h_this_now_seconds, .inl (cI, 8, .inl f_this_now_seconds)), cl_X6 h_this_script h_this_script_signs i_this_script, (h_this_script_signs, .inl (cI, 100, .inl f_this_script_signs))] := hD
    refine lv_istore (lv' := [(4, .int r12), (3, .int r10), (0, .ref h_this), (1, .int p1), (2, .int p2)]) hx hb dX9_phrase_31 hl (by decide) rfl (fun ls hl => ?_)
    refine lv_aload_n hx hb dX9_phrase_33 rfl (lv_at hl 2 rfl) ?_
    refine va_get (D := (dC, dI)) (ci := 8) (v := .ref h_this_now) (C := RX9) (T := TX9) (N := 12) hx hb hts inX9 hown hK hP 0 rfl rfl 0 (by decide) (hts _ (kq q_292 rfl)) (fun _ h9 => h9) rfl dX9_phrase_34 ?_
    refine lv_iload_n hx hb dX9_phrase_37 rfl (lv_at hl 3 rfl) ?_
    obtain ⟨r14, hc15, h⟩ := bd1_at h
    refine kjI (kV (own := "DateSpans") (C := "DateSpans$Slots") (b := h_this_now) (As := [.int p1]) (rest := []) ⟨hx, hb, hml, hown, hts⟩ (kX4_secondsAt l dC dI cI cJ cB h_this_now h_this_now_day h_this_now_second h_this_now_months h_this_now_days h_this_now_seconds N p1 f_this_now_seconds r14 hc15 _) (kgV (kq q_498 rfl) (kq q_499 rfl) (kq q_500 rfl) (kq q_58 rfl) (kq q_501 rfl)) yd_X4_secondsAt ⟨Nat.le_of_ble_eq_true rfl, Nat.le_of_ble_eq_true rfl⟩ hN hK hP hD [1, 4] rfl rfl (ci := 3) rfl rfl rfl rfl rfl hl.1 rfl (lv_room (Nat.le_of_ble_eq_true rfl)) dX9_phrase_38) hP hD hS hA [1, 4] rfl rfl (fun H locs hP hD hS => ?_)
    have hP : va_P (dC, dI) vwCl [cl_X9 h_this h_this_now h_this_kept h_this_told h_this_text h_this_script h_this_momentReader h_this_spanReader h_this_adder h_this_other h_this_trial h_this_ways i_this, cl_X4 h_this_now h_this_now_day h_this_now_second h_this_now_months h_this_now_days h_this_now_seconds, (h_this_now_months, .inl (cI, 8, .inl f_this_now_months)), (h_this_now_days, .inl (cI, 8, .inl f_this_now_days)), (h_this_now_seconds, .inl (cI, 8, .inl f_this_now_seconds)), cl_X6 h_this_script h_this_script_signs i_this_script, (h_this_script_signs, .inl (cI, 100, .inl f_this_script_signs))] H := hP
    have hD : va_D A [cl_X9 h_this h_this_now h_this_kept h_this_told h_this_text h_this_script h_this_momentReader h_this_spanReader h_this_adder h_this_other h_this_trial h_this_ways i_this, cl_X4 h_this_now h_this_now_day h_this_now_second h_this_now_months h_this_now_days h_this_now_seconds, (h_this_now_months, .inl (cI, 8, .inl f_this_now_months)), (h_this_now_days, .inl (cI, 8, .inl f_this_now_days)), (h_this_now_seconds, .inl (cI, 8, .inl f_this_now_seconds)), cl_X6 h_this_script h_this_script_signs i_this_script, (h_this_script_signs, .inl (cI, 100, .inl f_this_script_signs))] := hD
    refine lv_istore (lv' := [(5, .int r14), (4, .int r12), (3, .int r10), (0, .ref h_this), (1, .int p1), (2, .int p2)]) hx hb dX9_phrase_41 hl (by decide) rfl (fun ls hl => ?_)
    refine lv_iload_n hx hb dX9_phrase_43 rfl (lv_at hl 2 rfl) ?_
    refine lv_bipush (v := (12 : Int32)) hx hb dX9_phrase_44 (by decide) ?_
    refine lv_idiv hx hb dX9_phrase_46 (by decide) ?_
    obtain ⟨r16, hc17, h⟩ := bd1_at h
    refine kjSI (kS0 (own := "DateSpans") (As := [.int (r10 / (12 : Int32))]) (rest := []) ⟨hx, hb, hml, hown, hts⟩ (kX9_isShort l N (r10 / (12 : Int32)) r16 hc17) (kgS (kq q_868 rfl) (kq q_869 rfl) (kq q_57 rfl) (kq q_870 rfl)) yd_X9_isShort ⟨Nat.le_of_ble_eq_true rfl, Nat.le_of_ble_eq_true rfl⟩ rfl rfl hl.1 rfl (lv_room (Nat.le_of_ble_eq_true rfl)) dX9_phrase_47) ?_
    refine lv_if_eq (tgt := 76) hx hb dX9_phrase_50 (by decide) (fun c18 => ?_) (fun c18 => ?_)
    · have h := ite_t c18 h
      refine lv_bipush (v := (-2 : Int32)) hx hb dX9_phrase_76 (by decide) ?_
      obtain ⟨rfl, rfl, rfl⟩ := pj3 h
      exact hEnd _ _ _ _ hP hS dX9_phrase_78 rfl
    have h := ite_f c18 h
    refine lv_iload hx hb dX9_phrase_53 (lv_at hl 1 rfl) ?_
    refine lv_bipush (v := (7 : Int32)) hx hb dX9_phrase_55 (by decide) ?_
    refine lv_idiv hx hb dX9_phrase_57 (by decide) ?_
    obtain ⟨r19, hc20, h⟩ := bd1_at h
    refine kjSI (kS0 (own := "DateSpans") (As := [.int (r12 / (7 : Int32))]) (rest := []) ⟨hx, hb, hml, hown, hts⟩ (kX9_isShort l N (r12 / (7 : Int32)) r19 hc20) (kgS (kq q_868 rfl) (kq q_869 rfl) (kq q_57 rfl) (kq q_870 rfl)) yd_X9_isShort ⟨Nat.le_of_ble_eq_true rfl, Nat.le_of_ble_eq_true rfl⟩ rfl rfl hl.1 rfl (lv_room (Nat.le_of_ble_eq_true rfl)) dX9_phrase_58) ?_
    refine lv_if_eq (tgt := 76) hx hb dX9_phrase_61 (by decide) (fun c21 => ?_) (fun c21 => ?_)
    · have h := ite_t c21 h
      refine lv_bipush (v := (-2 : Int32)) hx hb dX9_phrase_76 (by decide) ?_
      obtain ⟨rfl, rfl, rfl⟩ := pj3 h
      exact hEnd _ _ _ _ hP hS dX9_phrase_78 rfl
    have h := ite_f c21 h
    refine lv_iload hx hb dX9_phrase_64 (lv_at hl 0 rfl) ?_
    refine lv_sipush (v := (3600 : Int32)) hx hb dX9_phrase_66 (by decide) ?_
    refine lv_idiv hx hb dX9_phrase_69 (by decide) ?_
    obtain ⟨r22, hc23, h⟩ := bd1_at h
    refine kjSI (kS0 (own := "DateSpans") (As := [.int (r14 / (3600 : Int32))]) (rest := []) ⟨hx, hb, hml, hown, hts⟩ (kX9_isShort l N (r14 / (3600 : Int32)) r22 hc23) (kgS (kq q_868 rfl) (kq q_869 rfl) (kq q_57 rfl) (kq q_870 rfl)) yd_X9_isShort ⟨Nat.le_of_ble_eq_true rfl, Nat.le_of_ble_eq_true rfl⟩ rfl rfl hl.1 rfl (lv_room (Nat.le_of_ble_eq_true rfl)) dX9_phrase_70) ?_
    refine lv_if_ne (tgt := 79) hx hb dX9_phrase_73 (by decide) (fun c24 => ?_) (fun c24 => ?_)
    · have h := ite_f c24 h
      refine lv_aload_n hx hb dX9_phrase_79 rfl (lv_at hl 3 rfl) ?_
      refine va_get (D := (dC, dI)) (ci := 8) (v := .ref h_this_script) (C := RX9) (T := TX9) (N := 12) hx hb hts inX9 hown hK hP 0 rfl rfl 5 (by decide) (hts _ (kq q_297 rfl)) (fun _ h9 => h9) rfl dX9_phrase_80 ?_
      refine lv_iconst (v := (0 : Int32)) hx hb dX9_phrase_83 (by decide) ?_
      obtain ⟨i_this_script_25, hc26, h⟩ := bd1_at h
      refine kjV (kV (own := "DateSpans") (C := "DateSpans$Text") (b := h_this_script) (As := [.int (0 : Int32)]) (rest := []) ⟨hx, hb, hml, hown, hts⟩ (kX6_cut l dC dI cI cJ cB h_this_script h_this_script_signs N (0 : Int32) i_this_script i_this_script_25 hc26 _) (kgV (kq q_345 rfl) (kq q_346 rfl) (kq q_347 rfl) (kq q_60 rfl) (kq q_348 rfl)) yd_X6_cut ⟨Nat.le_of_ble_eq_true rfl, Nat.le_of_ble_eq_true rfl⟩ hN hK hP hD [5] rfl rfl (ci := 5) rfl rfl rfl rfl rfl hl.1 rfl (lv_room (Nat.le_of_ble_eq_true rfl)) dX9_phrase_84) hP hD hS hA [5] rfl rfl (fun H locs hP hD hS => ?_)
      have hP : va_P (dC, dI) vwCl [cl_X9 h_this h_this_now h_this_kept h_this_told h_this_text h_this_script h_this_momentReader h_this_spanReader h_this_adder h_this_other h_this_trial h_this_ways i_this, cl_X4 h_this_now h_this_now_day h_this_now_second h_this_now_months h_this_now_days h_this_now_seconds, (h_this_now_months, .inl (cI, 8, .inl f_this_now_months)), (h_this_now_days, .inl (cI, 8, .inl f_this_now_days)), (h_this_now_seconds, .inl (cI, 8, .inl f_this_now_seconds)), cl_X6 h_this_script h_this_script_signs i_this_script_25, (h_this_script_signs, .inl (cI, 100, .inl f_this_script_signs))] H := hP
      have hD : va_D A [cl_X9 h_this h_this_now h_this_kept h_this_told h_this_text h_this_script h_this_momentReader h_this_spanReader h_this_adder h_this_other h_this_trial h_this_ways i_this, cl_X4 h_this_now h_this_now_day h_this_now_second h_this_now_months h_this_now_days h_this_now_seconds, (h_this_now_months, .inl (cI, 8, .inl f_this_now_months)), (h_this_now_days, .inl (cI, 8, .inl f_this_now_days)), (h_this_now_seconds, .inl (cI, 8, .inl f_this_now_seconds)), cl_X6 h_this_script h_this_script_signs i_this_script_25, (h_this_script_signs, .inl (cI, 100, .inl f_this_script_signs))] := hD
      refine lv_aload_n hx hb dX9_phrase_87 rfl (lv_at hl 3 rfl) ?_
      refine va_get (D := (dC, dI)) (ci := 8) (v := .ref h_this_script) (C := RX9) (T := TX9) (N := 12) hx hb hts inX9 hown hK hP 0 rfl rfl 5 (by decide) (hts _ (kq q_297 rfl)) (fun _ h9 => h9) rfl dX9_phrase_88 ?_
      refine lv_iload_n hx hb dX9_phrase_91 rfl (lv_at hl 2 rfl) ?_
      refine lv_bipush (v := (12 : Int32)) hx hb dX9_phrase_92 (by decide) ?_
      refine lv_idiv hx hb dX9_phrase_94 (by decide) ?_
      refine lv_bipush (v := (121 : Int32)) hx hb dX9_phrase_95 (by decide) ?_
      obtain ⟨i_this_script_27, f_this_script_signs_28, hc29, h⟩ := bd2_at h
      refine kjV (kV (own := "DateSpans") (C := "DateSpans$Text") (b := h_this_script) (As := [.int (r10 / (12 : Int32)), .int (121 : Int32)]) (rest := []) ⟨hx, hb, hml, hown, hts⟩ (kX6_putPart l dC dI cI cJ cB h_this_script h_this_script_signs N (r10 / (12 : Int32)) (121 : Int32) i_this_script_25 f_this_script_signs i_this_script_27 f_this_script_signs_28 hc29 _) (kgV (kq q_873 rfl) (kq q_874 rfl) (kq q_875 rfl) (kq q_60 rfl) (kq q_876 rfl)) yd_X6_putPart ⟨Nat.le_of_ble_eq_true rfl, Nat.le_of_ble_eq_true rfl⟩ hN hK hP hD [5, 6] rfl rfl (ci := 5) rfl rfl rfl rfl rfl hl.1 rfl (lv_room (Nat.le_of_ble_eq_true rfl)) dX9_phrase_97) hP hD hS hA [5, 6] rfl rfl (fun H locs hP hD hS => ?_)
      have hP : va_P (dC, dI) vwCl [cl_X9 h_this h_this_now h_this_kept h_this_told h_this_text h_this_script h_this_momentReader h_this_spanReader h_this_adder h_this_other h_this_trial h_this_ways i_this, cl_X4 h_this_now h_this_now_day h_this_now_second h_this_now_months h_this_now_days h_this_now_seconds, (h_this_now_months, .inl (cI, 8, .inl f_this_now_months)), (h_this_now_days, .inl (cI, 8, .inl f_this_now_days)), (h_this_now_seconds, .inl (cI, 8, .inl f_this_now_seconds)), cl_X6 h_this_script h_this_script_signs i_this_script_27, (h_this_script_signs, .inl (cI, 100, .inl f_this_script_signs_28))] H := hP
      have hD : va_D A [cl_X9 h_this h_this_now h_this_kept h_this_told h_this_text h_this_script h_this_momentReader h_this_spanReader h_this_adder h_this_other h_this_trial h_this_ways i_this, cl_X4 h_this_now h_this_now_day h_this_now_second h_this_now_months h_this_now_days h_this_now_seconds, (h_this_now_months, .inl (cI, 8, .inl f_this_now_months)), (h_this_now_days, .inl (cI, 8, .inl f_this_now_days)), (h_this_now_seconds, .inl (cI, 8, .inl f_this_now_seconds)), cl_X6 h_this_script h_this_script_signs i_this_script_27, (h_this_script_signs, .inl (cI, 100, .inl f_this_script_signs_28))] := hD
      refine lv_aload_n hx hb dX9_phrase_100 rfl (lv_at hl 3 rfl) ?_
      refine va_get (D := (dC, dI)) (ci := 8) (v := .ref h_this_script) (C := RX9) (T := TX9) (N := 12) hx hb hts inX9 hown hK hP 0 rfl rfl 5 (by decide) (hts _ (kq q_297 rfl)) (fun _ h9 => h9) rfl dX9_phrase_101 ?_
      refine lv_iload_n hx hb dX9_phrase_104 rfl (lv_at hl 2 rfl) ?_
      refine lv_bipush (v := (12 : Int32)) hx hb dX9_phrase_105 (by decide) ?_
      refine lv_irem hx hb dX9_phrase_107 (by decide) ?_
      refine lv_bipush (v := (109 : Int32)) hx hb dX9_phrase_108 (by decide) ?_
      obtain ⟨i_this_script_30, f_this_script_signs_31, hc32, h⟩ := bd2_at h
      refine kjV (kV (own := "DateSpans") (C := "DateSpans$Text") (b := h_this_script) (As := [.int (r10 - r10 / (12 : Int32) * (12 : Int32)), .int (109 : Int32)]) (rest := []) ⟨hx, hb, hml, hown, hts⟩ (kX6_putPart l dC dI cI cJ cB h_this_script h_this_script_signs N (r10 - r10 / (12 : Int32) * (12 : Int32)) (109 : Int32) i_this_script_27 f_this_script_signs_28 i_this_script_30 f_this_script_signs_31 hc32 _) (kgV (kq q_873 rfl) (kq q_874 rfl) (kq q_875 rfl) (kq q_60 rfl) (kq q_876 rfl)) yd_X6_putPart ⟨Nat.le_of_ble_eq_true rfl, Nat.le_of_ble_eq_true rfl⟩ hN hK hP hD [5, 6] rfl rfl (ci := 5) rfl rfl rfl rfl rfl hl.1 rfl (lv_room (Nat.le_of_ble_eq_true rfl)) dX9_phrase_110) hP hD hS hA [5, 6] rfl rfl (fun H locs hP hD hS => ?_)
      have hP : va_P (dC, dI) vwCl [cl_X9 h_this h_this_now h_this_kept h_this_told h_this_text h_this_script h_this_momentReader h_this_spanReader h_this_adder h_this_other h_this_trial h_this_ways i_this, cl_X4 h_this_now h_this_now_day h_this_now_second h_this_now_months h_this_now_days h_this_now_seconds, (h_this_now_months, .inl (cI, 8, .inl f_this_now_months)), (h_this_now_days, .inl (cI, 8, .inl f_this_now_days)), (h_this_now_seconds, .inl (cI, 8, .inl f_this_now_seconds)), cl_X6 h_this_script h_this_script_signs i_this_script_30, (h_this_script_signs, .inl (cI, 100, .inl f_this_script_signs_31))] H := hP
      have hD : va_D A [cl_X9 h_this h_this_now h_this_kept h_this_told h_this_text h_this_script h_this_momentReader h_this_spanReader h_this_adder h_this_other h_this_trial h_this_ways i_this, cl_X4 h_this_now h_this_now_day h_this_now_second h_this_now_months h_this_now_days h_this_now_seconds, (h_this_now_months, .inl (cI, 8, .inl f_this_now_months)), (h_this_now_days, .inl (cI, 8, .inl f_this_now_days)), (h_this_now_seconds, .inl (cI, 8, .inl f_this_now_seconds)), cl_X6 h_this_script h_this_script_signs i_this_script_30, (h_this_script_signs, .inl (cI, 100, .inl f_this_script_signs_31))] := hD
      refine lv_aload_n hx hb dX9_phrase_113 rfl (lv_at hl 3 rfl) ?_
      refine va_get (D := (dC, dI)) (ci := 8) (v := .ref h_this_script) (C := RX9) (T := TX9) (N := 12) hx hb hts inX9 hown hK hP 0 rfl rfl 5 (by decide) (hts _ (kq q_297 rfl)) (fun _ h9 => h9) rfl dX9_phrase_114 ?_
      refine lv_iload hx hb dX9_phrase_117 (lv_at hl 1 rfl) ?_
      refine lv_bipush (v := (7 : Int32)) hx hb dX9_phrase_119 (by decide) ?_
      refine lv_idiv hx hb dX9_phrase_121 (by decide) ?_
      refine lv_bipush (v := (119 : Int32)) hx hb dX9_phrase_122 (by decide) ?_
      obtain ⟨i_this_script_33, f_this_script_signs_34, hc35, h⟩ := bd2_at h
      refine kjV (kV (own := "DateSpans") (C := "DateSpans$Text") (b := h_this_script) (As := [.int (r12 / (7 : Int32)), .int (119 : Int32)]) (rest := []) ⟨hx, hb, hml, hown, hts⟩ (kX6_putPart l dC dI cI cJ cB h_this_script h_this_script_signs N (r12 / (7 : Int32)) (119 : Int32) i_this_script_30 f_this_script_signs_31 i_this_script_33 f_this_script_signs_34 hc35 _) (kgV (kq q_873 rfl) (kq q_874 rfl) (kq q_875 rfl) (kq q_60 rfl) (kq q_876 rfl)) yd_X6_putPart ⟨Nat.le_of_ble_eq_true rfl, Nat.le_of_ble_eq_true rfl⟩ hN hK hP hD [5, 6] rfl rfl (ci := 5) rfl rfl rfl rfl rfl hl.1 rfl (lv_room (Nat.le_of_ble_eq_true rfl)) dX9_phrase_124) hP hD hS hA [5, 6] rfl rfl (fun H locs hP hD hS => ?_)
      have hP : va_P (dC, dI) vwCl [cl_X9 h_this h_this_now h_this_kept h_this_told h_this_text h_this_script h_this_momentReader h_this_spanReader h_this_adder h_this_other h_this_trial h_this_ways i_this, cl_X4 h_this_now h_this_now_day h_this_now_second h_this_now_months h_this_now_days h_this_now_seconds, (h_this_now_months, .inl (cI, 8, .inl f_this_now_months)), (h_this_now_days, .inl (cI, 8, .inl f_this_now_days)), (h_this_now_seconds, .inl (cI, 8, .inl f_this_now_seconds)), cl_X6 h_this_script h_this_script_signs i_this_script_33, (h_this_script_signs, .inl (cI, 100, .inl f_this_script_signs_34))] H := hP
      have hD : va_D A [cl_X9 h_this h_this_now h_this_kept h_this_told h_this_text h_this_script h_this_momentReader h_this_spanReader h_this_adder h_this_other h_this_trial h_this_ways i_this, cl_X4 h_this_now h_this_now_day h_this_now_second h_this_now_months h_this_now_days h_this_now_seconds, (h_this_now_months, .inl (cI, 8, .inl f_this_now_months)), (h_this_now_days, .inl (cI, 8, .inl f_this_now_days)), (h_this_now_seconds, .inl (cI, 8, .inl f_this_now_seconds)), cl_X6 h_this_script h_this_script_signs i_this_script_33, (h_this_script_signs, .inl (cI, 100, .inl f_this_script_signs_34))] := hD
      refine lv_aload_n hx hb dX9_phrase_127 rfl (lv_at hl 3 rfl) ?_
      refine va_get (D := (dC, dI)) (ci := 8) (v := .ref h_this_script) (C := RX9) (T := TX9) (N := 12) hx hb hts inX9 hown hK hP 0 rfl rfl 5 (by decide) (hts _ (kq q_297 rfl)) (fun _ h9 => h9) rfl dX9_phrase_128 ?_
      refine lv_iload hx hb dX9_phrase_131 (lv_at hl 1 rfl) ?_
      refine lv_bipush (v := (7 : Int32)) hx hb dX9_phrase_133 (by decide) ?_
      refine lv_irem hx hb dX9_phrase_135 (by decide) ?_
      refine lv_bipush (v := (100 : Int32)) hx hb dX9_phrase_136 (by decide) ?_
      obtain ⟨i_this_script_36, f_this_script_signs_37, hc38, h⟩ := bd2_at h
      refine kjV (kV (own := "DateSpans") (C := "DateSpans$Text") (b := h_this_script) (As := [.int (r12 - r12 / (7 : Int32) * (7 : Int32)), .int (100 : Int32)]) (rest := []) ⟨hx, hb, hml, hown, hts⟩ (kX6_putPart l dC dI cI cJ cB h_this_script h_this_script_signs N (r12 - r12 / (7 : Int32) * (7 : Int32)) (100 : Int32) i_this_script_33 f_this_script_signs_34 i_this_script_36 f_this_script_signs_37 hc38 _) (kgV (kq q_873 rfl) (kq q_874 rfl) (kq q_875 rfl) (kq q_60 rfl) (kq q_876 rfl)) yd_X6_putPart ⟨Nat.le_of_ble_eq_true rfl, Nat.le_of_ble_eq_true rfl⟩ hN hK hP hD [5, 6] rfl rfl (ci := 5) rfl rfl rfl rfl rfl hl.1 rfl (lv_room (Nat.le_of_ble_eq_true rfl)) dX9_phrase_138) hP hD hS hA [5, 6] rfl rfl (fun H locs hP hD hS => ?_)
      have hP : va_P (dC, dI) vwCl [cl_X9 h_this h_this_now h_this_kept h_this_told h_this_text h_this_script h_this_momentReader h_this_spanReader h_this_adder h_this_other h_this_trial h_this_ways i_this, cl_X4 h_this_now h_this_now_day h_this_now_second h_this_now_months h_this_now_days h_this_now_seconds, (h_this_now_months, .inl (cI, 8, .inl f_this_now_months)), (h_this_now_days, .inl (cI, 8, .inl f_this_now_days)), (h_this_now_seconds, .inl (cI, 8, .inl f_this_now_seconds)), cl_X6 h_this_script h_this_script_signs i_this_script_36, (h_this_script_signs, .inl (cI, 100, .inl f_this_script_signs_37))] H := hP
      have hD : va_D A [cl_X9 h_this h_this_now h_this_kept h_this_told h_this_text h_this_script h_this_momentReader h_this_spanReader h_this_adder h_this_other h_this_trial h_this_ways i_this, cl_X4 h_this_now h_this_now_day h_this_now_second h_this_now_months h_this_now_days h_this_now_seconds, (h_this_now_months, .inl (cI, 8, .inl f_this_now_months)), (h_this_now_days, .inl (cI, 8, .inl f_this_now_days)), (h_this_now_seconds, .inl (cI, 8, .inl f_this_now_seconds)), cl_X6 h_this_script h_this_script_signs i_this_script_36, (h_this_script_signs, .inl (cI, 100, .inl f_this_script_signs_37))] := hD
      refine lv_aload_n hx hb dX9_phrase_141 rfl (lv_at hl 3 rfl) ?_
      refine va_get (D := (dC, dI)) (ci := 8) (v := .ref h_this_script) (C := RX9) (T := TX9) (N := 12) hx hb hts inX9 hown hK hP 0 rfl rfl 5 (by decide) (hts _ (kq q_297 rfl)) (fun _ h9 => h9) rfl dX9_phrase_142 ?_
      refine lv_iload hx hb dX9_phrase_145 (lv_at hl 0 rfl) ?_
      refine lv_sipush (v := (3600 : Int32)) hx hb dX9_phrase_147 (by decide) ?_
      refine lv_idiv hx hb dX9_phrase_150 (by decide) ?_
      refine lv_bipush (v := (104 : Int32)) hx hb dX9_phrase_151 (by decide) ?_
      obtain ⟨i_this_script_39, f_this_script_signs_40, hc41, h⟩ := bd2_at h
      refine kjV (kV (own := "DateSpans") (C := "DateSpans$Text") (b := h_this_script) (As := [.int (r14 / (3600 : Int32)), .int (104 : Int32)]) (rest := []) ⟨hx, hb, hml, hown, hts⟩ (kX6_putPart l dC dI cI cJ cB h_this_script h_this_script_signs N (r14 / (3600 : Int32)) (104 : Int32) i_this_script_36 f_this_script_signs_37 i_this_script_39 f_this_script_signs_40 hc41 _) (kgV (kq q_873 rfl) (kq q_874 rfl) (kq q_875 rfl) (kq q_60 rfl) (kq q_876 rfl)) yd_X6_putPart ⟨Nat.le_of_ble_eq_true rfl, Nat.le_of_ble_eq_true rfl⟩ hN hK hP hD [5, 6] rfl rfl (ci := 5) rfl rfl rfl rfl rfl hl.1 rfl (lv_room (Nat.le_of_ble_eq_true rfl)) dX9_phrase_153) hP hD hS hA [5, 6] rfl rfl (fun H locs hP hD hS => ?_)
      have hP : va_P (dC, dI) vwCl [cl_X9 h_this h_this_now h_this_kept h_this_told h_this_text h_this_script h_this_momentReader h_this_spanReader h_this_adder h_this_other h_this_trial h_this_ways i_this, cl_X4 h_this_now h_this_now_day h_this_now_second h_this_now_months h_this_now_days h_this_now_seconds, (h_this_now_months, .inl (cI, 8, .inl f_this_now_months)), (h_this_now_days, .inl (cI, 8, .inl f_this_now_days)), (h_this_now_seconds, .inl (cI, 8, .inl f_this_now_seconds)), cl_X6 h_this_script h_this_script_signs i_this_script_39, (h_this_script_signs, .inl (cI, 100, .inl f_this_script_signs_40))] H := hP
      have hD : va_D A [cl_X9 h_this h_this_now h_this_kept h_this_told h_this_text h_this_script h_this_momentReader h_this_spanReader h_this_adder h_this_other h_this_trial h_this_ways i_this, cl_X4 h_this_now h_this_now_day h_this_now_second h_this_now_months h_this_now_days h_this_now_seconds, (h_this_now_months, .inl (cI, 8, .inl f_this_now_months)), (h_this_now_days, .inl (cI, 8, .inl f_this_now_days)), (h_this_now_seconds, .inl (cI, 8, .inl f_this_now_seconds)), cl_X6 h_this_script h_this_script_signs i_this_script_39, (h_this_script_signs, .inl (cI, 100, .inl f_this_script_signs_40))] := hD
      refine lv_aload_n hx hb dX9_phrase_156 rfl (lv_at hl 3 rfl) ?_
      refine va_get (D := (dC, dI)) (ci := 8) (v := .ref h_this_script) (C := RX9) (T := TX9) (N := 12) hx hb hts inX9 hown hK hP 0 rfl rfl 5 (by decide) (hts _ (kq q_297 rfl)) (fun _ h9 => h9) rfl dX9_phrase_157 ?_
      refine lv_iload hx hb dX9_phrase_160 (lv_at hl 0 rfl) ?_
      refine lv_bipush (v := (60 : Int32)) hx hb dX9_phrase_162 (by decide) ?_
      refine lv_idiv hx hb dX9_phrase_164 (by decide) ?_
      refine lv_bipush (v := (60 : Int32)) hx hb dX9_phrase_165 (by decide) ?_
      refine lv_irem hx hb dX9_phrase_167 (by decide) ?_
      refine lv_bipush (v := (105 : Int32)) hx hb dX9_phrase_168 (by decide) ?_
      obtain ⟨i_this_script_42, f_this_script_signs_43, hc44, h⟩ := bd2_at h
      refine kjV (kV (own := "DateSpans") (C := "DateSpans$Text") (b := h_this_script) (As := [.int ((r14 / (60 : Int32)) - (r14 / (60 : Int32)) / (60 : Int32) * (60 : Int32)), .int (105 : Int32)]) (rest := []) ⟨hx, hb, hml, hown, hts⟩ (kX6_putPart l dC dI cI cJ cB h_this_script h_this_script_signs N ((r14 / (60 : Int32)) - (r14 / (60 : Int32)) / (60 : Int32) * (60 : Int32)) (105 : Int32) i_this_script_39 f_this_script_signs_40 i_this_script_42 f_this_script_signs_43 hc44 _) (kgV (kq q_873 rfl) (kq q_874 rfl) (kq q_875 rfl) (kq q_60 rfl) (kq q_876 rfl)) yd_X6_putPart ⟨Nat.le_of_ble_eq_true rfl, Nat.le_of_ble_eq_true rfl⟩ hN hK hP hD [5, 6] rfl rfl (ci := 5) rfl rfl rfl rfl rfl hl.1 rfl (lv_room (Nat.le_of_ble_eq_true rfl)) dX9_phrase_170) hP hD hS hA [5, 6] rfl rfl (fun H locs hP hD hS => ?_)
      have hP : va_P (dC, dI) vwCl [cl_X9 h_this h_this_now h_this_kept h_this_told h_this_text h_this_script h_this_momentReader h_this_spanReader h_this_adder h_this_other h_this_trial h_this_ways i_this, cl_X4 h_this_now h_this_now_day h_this_now_second h_this_now_months h_this_now_days h_this_now_seconds, (h_this_now_months, .inl (cI, 8, .inl f_this_now_months)), (h_this_now_days, .inl (cI, 8, .inl f_this_now_days)), (h_this_now_seconds, .inl (cI, 8, .inl f_this_now_seconds)), cl_X6 h_this_script h_this_script_signs i_this_script_42, (h_this_script_signs, .inl (cI, 100, .inl f_this_script_signs_43))] H := hP
      have hD : va_D A [cl_X9 h_this h_this_now h_this_kept h_this_told h_this_text h_this_script h_this_momentReader h_this_spanReader h_this_adder h_this_other h_this_trial h_this_ways i_this, cl_X4 h_this_now h_this_now_day h_this_now_second h_this_now_months h_this_now_days h_this_now_seconds, (h_this_now_months, .inl (cI, 8, .inl f_this_now_months)), (h_this_now_days, .inl (cI, 8, .inl f_this_now_days)), (h_this_now_seconds, .inl (cI, 8, .inl f_this_now_seconds)), cl_X6 h_this_script h_this_script_signs i_this_script_42, (h_this_script_signs, .inl (cI, 100, .inl f_this_script_signs_43))] := hD
      refine lv_aload_n hx hb dX9_phrase_173 rfl (lv_at hl 3 rfl) ?_
      refine va_get (D := (dC, dI)) (ci := 8) (v := .ref h_this_script) (C := RX9) (T := TX9) (N := 12) hx hb hts inX9 hown hK hP 0 rfl rfl 5 (by decide) (hts _ (kq q_297 rfl)) (fun _ h9 => h9) rfl dX9_phrase_174 ?_
      refine lv_iload hx hb dX9_phrase_177 (lv_at hl 0 rfl) ?_
      refine lv_bipush (v := (60 : Int32)) hx hb dX9_phrase_179 (by decide) ?_
      refine lv_irem hx hb dX9_phrase_181 (by decide) ?_
      refine lv_bipush (v := (115 : Int32)) hx hb dX9_phrase_182 (by decide) ?_
      obtain ⟨i_this_script_45, f_this_script_signs_46, hc47, h⟩ := bd2_at h
      refine kjV (kV (own := "DateSpans") (C := "DateSpans$Text") (b := h_this_script) (As := [.int (r14 - r14 / (60 : Int32) * (60 : Int32)), .int (115 : Int32)]) (rest := []) ⟨hx, hb, hml, hown, hts⟩ (kX6_putPart l dC dI cI cJ cB h_this_script h_this_script_signs N (r14 - r14 / (60 : Int32) * (60 : Int32)) (115 : Int32) i_this_script_42 f_this_script_signs_43 i_this_script_45 f_this_script_signs_46 hc47 _) (kgV (kq q_873 rfl) (kq q_874 rfl) (kq q_875 rfl) (kq q_60 rfl) (kq q_876 rfl)) yd_X6_putPart ⟨Nat.le_of_ble_eq_true rfl, Nat.le_of_ble_eq_true rfl⟩ hN hK hP hD [5, 6] rfl rfl (ci := 5) rfl rfl rfl rfl rfl hl.1 rfl (lv_room (Nat.le_of_ble_eq_true rfl)) dX9_phrase_184) hP hD hS hA [5, 6] rfl rfl (fun H locs hP hD hS => ?_)
      have hP : va_P (dC, dI) vwCl [cl_X9 h_this h_this_now h_this_kept h_this_told h_this_text h_this_script h_this_momentReader h_this_spanReader h_this_adder h_this_other h_this_trial h_this_ways i_this, cl_X4 h_this_now h_this_now_day h_this_now_second h_this_now_months h_this_now_days h_this_now_seconds, (h_this_now_months, .inl (cI, 8, .inl f_this_now_months)), (h_this_now_days, .inl (cI, 8, .inl f_this_now_days)), (h_this_now_seconds, .inl (cI, 8, .inl f_this_now_seconds)), cl_X6 h_this_script h_this_script_signs i_this_script_45, (h_this_script_signs, .inl (cI, 100, .inl f_this_script_signs_46))] H := hP
      have hD : va_D A [cl_X9 h_this h_this_now h_this_kept h_this_told h_this_text h_this_script h_this_momentReader h_this_spanReader h_this_adder h_this_other h_this_trial h_this_ways i_this, cl_X4 h_this_now h_this_now_day h_this_now_second h_this_now_months h_this_now_days h_this_now_seconds, (h_this_now_months, .inl (cI, 8, .inl f_this_now_months)), (h_this_now_days, .inl (cI, 8, .inl f_this_now_days)), (h_this_now_seconds, .inl (cI, 8, .inl f_this_now_seconds)), cl_X6 h_this_script h_this_script_signs i_this_script_45, (h_this_script_signs, .inl (cI, 100, .inl f_this_script_signs_46))] := hD
      refine lv_aload_n hx hb dX9_phrase_187 rfl (lv_at hl 3 rfl) ?_
      refine va_get (D := (dC, dI)) (ci := 8) (v := .ref h_this_script) (C := RX9) (T := TX9) (N := 12) hx hb hts inX9 hown hK hP 0 rfl rfl 5 (by decide) (hts _ (kq q_297 rfl)) (fun _ h9 => h9) rfl dX9_phrase_188 ?_
      obtain ⟨r48, hc49, h⟩ := bd1_at h
      refine kjI (kV (own := "DateSpans") (C := "DateSpans$Text") (b := h_this_script) (As := []) (rest := []) ⟨hx, hb, hml, hown, hts⟩ (kX6_length l dC dI cI cJ cB h_this_script h_this_script_signs N i_this_script_45 r48 hc49 _) (kgV (kq q_333 rfl) (kq q_334 rfl) (kq q_335 rfl) (kq q_60 rfl) (kq q_336 rfl)) yd_X6_length ⟨Nat.le_of_ble_eq_true rfl, Nat.le_of_ble_eq_true rfl⟩ hN hK hP hD [5] rfl rfl (ci := 5) rfl rfl rfl rfl rfl hl.1 rfl (lv_room (Nat.le_of_ble_eq_true rfl)) dX9_phrase_191) hP hD hS hA [5] rfl rfl (fun H locs hP hD hS => ?_)
      have hP : va_P (dC, dI) vwCl [cl_X9 h_this h_this_now h_this_kept h_this_told h_this_text h_this_script h_this_momentReader h_this_spanReader h_this_adder h_this_other h_this_trial h_this_ways i_this, cl_X4 h_this_now h_this_now_day h_this_now_second h_this_now_months h_this_now_days h_this_now_seconds, (h_this_now_months, .inl (cI, 8, .inl f_this_now_months)), (h_this_now_days, .inl (cI, 8, .inl f_this_now_days)), (h_this_now_seconds, .inl (cI, 8, .inl f_this_now_seconds)), cl_X6 h_this_script h_this_script_signs i_this_script_45, (h_this_script_signs, .inl (cI, 100, .inl f_this_script_signs_46))] H := hP
      have hD : va_D A [cl_X9 h_this h_this_now h_this_kept h_this_told h_this_text h_this_script h_this_momentReader h_this_spanReader h_this_adder h_this_other h_this_trial h_this_ways i_this, cl_X4 h_this_now h_this_now_day h_this_now_second h_this_now_months h_this_now_days h_this_now_seconds, (h_this_now_months, .inl (cI, 8, .inl f_this_now_months)), (h_this_now_days, .inl (cI, 8, .inl f_this_now_days)), (h_this_now_seconds, .inl (cI, 8, .inl f_this_now_seconds)), cl_X6 h_this_script h_this_script_signs i_this_script_45, (h_this_script_signs, .inl (cI, 100, .inl f_this_script_signs_46))] := hD
      refine lv_if_ne (tgt := 215) hx hb dX9_phrase_194 (by decide) (fun c50 => ?_) (fun c50 => ?_)
      · have h := ite_f c50 h
        exact JN_215 _ _ _ _ _ _ h (lv_sub hl [3, 5] rfl) hP hD hS
      have h := ite_t c50 h
      refine lv_aload_n hx hb dX9_phrase_197 rfl (lv_at hl 3 rfl) ?_
      refine va_get (D := (dC, dI)) (ci := 8) (v := .ref h_this_script) (C := RX9) (T := TX9) (N := 12) hx hb hts inX9 hown hK hP 0 rfl rfl 5 (by decide) (hts _ (kq q_297 rfl)) (fun _ h9 => h9) rfl dX9_phrase_198 ?_
      refine lv_bipush (v := (48 : Int32)) hx hb dX9_phrase_201 (by decide) ?_
      obtain ⟨i_this_script_51, f_this_script_signs_52, hc53, h⟩ := bd2_at h
      refine kjV (kV (own := "DateSpans") (C := "DateSpans$Text") (b := h_this_script) (As := [.int (48 : Int32)]) (rest := []) ⟨hx, hb, hml, hown, hts⟩ (kX6_put l dC dI cI cJ cB h_this_script h_this_script_signs N (48 : Int32) i_this_script_45 f_this_script_signs_46 i_this_script_51 f_this_script_signs_52 hc53 _) (kgV (kq q_337 rfl) (kq q_338 rfl) (kq q_339 rfl) (kq q_60 rfl) (kq q_340 rfl)) yd_X6_put ⟨Nat.le_of_ble_eq_true rfl, Nat.le_of_ble_eq_true rfl⟩ hN hK hP hD [5, 6] rfl rfl (ci := 5) rfl rfl rfl rfl rfl hl.1 rfl (lv_room (Nat.le_of_ble_eq_true rfl)) dX9_phrase_203) hP hD hS hA [5, 6] rfl rfl (fun H locs hP hD hS => ?_)
      have hP : va_P (dC, dI) vwCl [cl_X9 h_this h_this_now h_this_kept h_this_told h_this_text h_this_script h_this_momentReader h_this_spanReader h_this_adder h_this_other h_this_trial h_this_ways i_this, cl_X4 h_this_now h_this_now_day h_this_now_second h_this_now_months h_this_now_days h_this_now_seconds, (h_this_now_months, .inl (cI, 8, .inl f_this_now_months)), (h_this_now_days, .inl (cI, 8, .inl f_this_now_days)), (h_this_now_seconds, .inl (cI, 8, .inl f_this_now_seconds)), cl_X6 h_this_script h_this_script_signs i_this_script_51, (h_this_script_signs, .inl (cI, 100, .inl f_this_script_signs_52))] H := hP
      have hD : va_D A [cl_X9 h_this h_this_now h_this_kept h_this_told h_this_text h_this_script h_this_momentReader h_this_spanReader h_this_adder h_this_other h_this_trial h_this_ways i_this, cl_X4 h_this_now h_this_now_day h_this_now_second h_this_now_months h_this_now_days h_this_now_seconds, (h_this_now_months, .inl (cI, 8, .inl f_this_now_months)), (h_this_now_days, .inl (cI, 8, .inl f_this_now_days)), (h_this_now_seconds, .inl (cI, 8, .inl f_this_now_seconds)), cl_X6 h_this_script h_this_script_signs i_this_script_51, (h_this_script_signs, .inl (cI, 100, .inl f_this_script_signs_52))] := hD
      refine lv_aload_n hx hb dX9_phrase_206 rfl (lv_at hl 3 rfl) ?_
      refine va_get (D := (dC, dI)) (ci := 8) (v := .ref h_this_script) (C := RX9) (T := TX9) (N := 12) hx hb hts inX9 hown hK hP 0 rfl rfl 5 (by decide) (hts _ (kq q_297 rfl)) (fun _ h9 => h9) rfl dX9_phrase_207 ?_
      refine lv_bipush (v := (115 : Int32)) hx hb dX9_phrase_210 (by decide) ?_
      obtain ⟨i_this_script_54, f_this_script_signs_55, hc56, h⟩ := bd2_at h
      refine kjV (kV (own := "DateSpans") (C := "DateSpans$Text") (b := h_this_script) (As := [.int (115 : Int32)]) (rest := []) ⟨hx, hb, hml, hown, hts⟩ (kX6_put l dC dI cI cJ cB h_this_script h_this_script_signs N (115 : Int32) i_this_script_51 f_this_script_signs_52 i_this_script_54 f_this_script_signs_55 hc56 _) (kgV (kq q_337 rfl) (kq q_338 rfl) (kq q_339 rfl) (kq q_60 rfl) (kq q_340 rfl)) yd_X6_put ⟨Nat.le_of_ble_eq_true rfl, Nat.le_of_ble_eq_true rfl⟩ hN hK hP hD [5, 6] rfl rfl (ci := 5) rfl rfl rfl rfl rfl hl.1 rfl (lv_room (Nat.le_of_ble_eq_true rfl)) dX9_phrase_212) hP hD hS hA [5, 6] rfl rfl (fun H locs hP hD hS => ?_)
      have hP : va_P (dC, dI) vwCl [cl_X9 h_this h_this_now h_this_kept h_this_told h_this_text h_this_script h_this_momentReader h_this_spanReader h_this_adder h_this_other h_this_trial h_this_ways i_this, cl_X4 h_this_now h_this_now_day h_this_now_second h_this_now_months h_this_now_days h_this_now_seconds, (h_this_now_months, .inl (cI, 8, .inl f_this_now_months)), (h_this_now_days, .inl (cI, 8, .inl f_this_now_days)), (h_this_now_seconds, .inl (cI, 8, .inl f_this_now_seconds)), cl_X6 h_this_script h_this_script_signs i_this_script_54, (h_this_script_signs, .inl (cI, 100, .inl f_this_script_signs_55))] H := hP
      have hD : va_D A [cl_X9 h_this h_this_now h_this_kept h_this_told h_this_text h_this_script h_this_momentReader h_this_spanReader h_this_adder h_this_other h_this_trial h_this_ways i_this, cl_X4 h_this_now h_this_now_day h_this_now_second h_this_now_months h_this_now_days h_this_now_seconds, (h_this_now_months, .inl (cI, 8, .inl f_this_now_months)), (h_this_now_days, .inl (cI, 8, .inl f_this_now_days)), (h_this_now_seconds, .inl (cI, 8, .inl f_this_now_seconds)), cl_X6 h_this_script h_this_script_signs i_this_script_54, (h_this_script_signs, .inl (cI, 100, .inl f_this_script_signs_55))] := hD
      exact JN_215 _ _ _ _ _ _ h (lv_sub hl [3, 5] rfl) hP hD hS
    have h := ite_t c24 h
    refine lv_bipush (v := (-2 : Int32)) hx hb dX9_phrase_76 (by decide) ?_
    obtain ⟨rfl, rfl, rfl⟩ := pj3 h
    exact hEnd _ _ _ _ hP hS dX9_phrase_78 rfl
  have h := ite_f c9 h
  refine lv_iconst (v := (-1 : Int32)) hx hb dX9_phrase_12 (by decide) ?_
  obtain ⟨rfl, rfl, rfl⟩ := pj3 h
  exact hEnd _ _ _ _ hP hS dX9_phrase_13 rfl
