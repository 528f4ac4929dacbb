noncomputable def fX10_momentIs (N : Nat) (p1 : Int32) (p2 : Int32) (i_this : Nat → Int32) (j_this : Nat → Int64) (f_this_dayAt : Nat → Int32) (f_this_secondAt : Nat → Int32) : Option (Int32 × (Nat → Int32)) := (bd1 (fX10_isSlot N p1) fun r1 => (if r1 = (0 : Int32) then (some ((-1 : Int32), (upd i_this 9 (0 : Int32)))) else (gi p1 8 (bd1 (fX10_dates N (f_this_dayAt p1.toNatClampNeg) (upd i_this 9 (0 : Int32)) j_this) fun i_this_5 => (if p2 = (0 : Int32) then (gi p1 8 (some ((f_this_dayAt p1.toNatClampNeg), i_this_5))) else (if p2 = (1 : Int32) then (gi p1 8 (some ((f_this_secondAt p1.toNatClampNeg), i_this_5))) else (if p2 = (2 : Int32) then (some (((((10000 : Int32) * (i_this_5 10)) + ((100 : Int32) * (i_this_5 11))) + (i_this_5 12)), i_this_5)) else (if p2 = (3 : Int32) then (gi p1 8 (some (((f_this_dayAt p1.toNatClampNeg) - (f_this_dayAt p1.toNatClampNeg) / (7 : Int32) * (7 : Int32)), i_this_5))) else (if p2 = (4 : Int32) then (gi p1 8 (bd1 (fX10_yearBegins N (i_this_5 10)) fun r16 => (some ((((f_this_dayAt p1.toNatClampNeg) - r16) + (1 : Int32)), i_this_5)))) else (if p2 = (5 : Int32) then (bd1 (fX10_monthDays N (i_this_5 10) (i_this_5 11)) fun r19 => (some (r19, i_this_5))) else (if p2 = (6 : Int32) then (bd1 (fX10_isLeap N (i_this_5 10)) fun r22 => (if r22 = (0 : Int32) then (some ((0 : Int32), i_this_5)) else (some ((1 : Int32), i_this_5)))) else (some ((-1 : Int32), i_this_5)))))))))))))
set_option maxHeartbeats 4000000 in
set_option maxRecDepth 100000 in
theorem kX10_momentIs (l : Launch) (dC : Nat → ClassId) (dI : Nat → Nat → Nat) (cI cJ cB : ClassId) (h_this h_this_dayAt h_this_secondAt h_this_spans h_this_kept h_this_text h_this_row h_this_read h_this_many h_this_first h_this_lengths h_this_page : Nat) (N : Nat) (p1 : Int32) (p2 : Int32) (i_this : Nat → Int32) (j_this : Nat → Int64) (f_this_dayAt : Nat → Int32) (f_this_secondAt : Nat → Int32) (r : Int32) (o_i_this : Nat → Int32) (hf : fX10_momentIs N p1 p2 i_this j_this f_this_dayAt f_this_secondAt = some (r, o_i_this)) : MI l yX10_momentIs (kws yX10_momentIs cX10_momentIs 3 (some .int)) (kR 3 66) (dC, dI) (kT cI cJ cB) [.ref h_this, .int p1, .int p2] [cl_X10 h_this h_this_dayAt h_this_secondAt h_this_spans h_this_kept h_this_text h_this_row h_this_read h_this_many h_this_first h_this_lengths h_this_page i_this j_this, (h_this_dayAt, .inl (cI, 8, .inl f_this_dayAt)), (h_this_secondAt, .inl (cI, 8, .inl f_this_secondAt))] [cl_X10 h_this h_this_dayAt h_this_secondAt h_this_spans h_this_kept h_this_text h_this_row h_this_read h_this_many h_this_first h_this_lengths h_this_page o_i_this j_this, (h_this_dayAt, .inl (cI, 8, .inl f_this_dayAt)), (h_this_secondAt, .inl (cI, 8, .inl f_this_secondAt))] r := by
  refine MI.of (cc := cX10_momentIs) (maxL := 3) (by decide) (Nat.le_of_ble_eq_true rfl) (fun p e s m args below meth c A Q ls KC hN hK hP hD hA hl hEnd => ?_)
  obtain ⟨hx, hb, hml, hown, hts⟩ := KC
  have hown : s.vm.findClass "DateSpansModel" = some m.cls := hown
  have hl : lv_has ls 3 [(0, .ref h_this), (1, .int p1), (2, .int p2)] := hl
  have hS : va_S A s.heap s.heap [] := va_S.rf
  have h := hf
  unfold fX10_momentIs at h
  refine lv_aload_n hx hb dX10_momentIs_0 rfl (lv_at hl 0 rfl) ?_
  refine lv_iconst (v := (0 : Int32)) hx hb dX10_momentIs_1 (by decide) ?_
  refine va_put (D := (dC, dI)) (ci := 9) (v := .int (0 : Int32)) (ty := .int) (C := RX10) (T := TX10) (N := 29) hx hb hts inX10 tyX10 tyX10_ok nmX10 hown hK hP hD hS 0 rfl rfl 9 (by decide) (hts _ (kq q_995 rfl)) (fun _ h9 => h9) rfl (by decide +kernel) rfl rfl (Nat.le_of_ble_eq_true rfl) dX10_momentIs_2 (fun H locs hP hD hS => ?_)
  have hP : va_P (dC, dI) vwCl [(h_this, .inr (9, [.ref h_this_dayAt, .ref h_this_secondAt, .ref h_this_spans, .ref h_this_kept, .int (i_this 4), .ref h_this_text, .int (i_this 6), .ref h_this_row, .int (i_this 8), .int (0 : Int32), .int (i_this 10), .int (i_this 11), .int (i_this 12), .int (i_this 13), .int (i_this 14), .int (i_this 15), .int (i_this 16), .int (i_this 17), .int (i_this 18), .ref h_this_read, .long (j_this 20), .ref h_this_many, .ref h_this_first, .ref h_this_lengths, .int (i_this 24), .long (j_this 25), .long (j_this 26), .ref h_this_page, .int (i_this 28)])), (h_this_dayAt, .inl (cI, 8, .inl f_this_dayAt)), (h_this_secondAt, .inl (cI, 8, .inl f_this_secondAt))] H := hP
  have hD : va_D A [(h_this, .inr (9, [.ref h_this_dayAt, .ref h_this_secondAt, .ref h_this_spans, .ref h_this_kept, .int (i_this 4), .ref h_this_text, .int (i_this 6), .ref h_this_row, .int (i_this 8), .int (0 : Int32), .int (i_this 10), .int (i_this 11), .int (i_this 12), .int (i_this 13), .int (i_this 14), .int (i_this 15), .int (i_this 16), .int (i_this 17), .int (i_this 18), .ref h_this_read, .long (j_this 20), .ref h_this_many, .ref h_this_first, .ref h_this_lengths, .int (i_this 24), .long (j_this 25), .long (j_this 26), .ref h_this_page, .int (i_this 28)])), (h_this_dayAt, .inl (cI, 8, .inl f_this_dayAt)), (h_this_secondAt, .inl (cI, 8, .inl f_this_secondAt))] := hD
  refine lv_iload_n hx hb dX10_momentIs_5 rfl (lv_at hl 1 rfl) ?_
  have hP : va_P (dC, dI) vwCl [cl_X10 h_this h_this_dayAt h_this_secondAt h_this_spans h_this_kept h_this_text h_this_row h_this_read h_this_many h_this_first h_this_lengths h_this_page (upd i_this 9 (0 : Int32)) j_this, (h_this_dayAt, .inl (cI, 8, .inl f_this_dayAt)), (h_this_secondAt, .inl (cI, 8, .inl f_this_secondAt))] H := hP
  have hD : va_D A [cl_X10 h_this h_this_dayAt h_this_secondAt h_this_spans h_this_kept h_this_text h_this_row h_this_read h_this_many h_this_first h_this_lengths h_this_page (upd i_this 9 (0 : Int32)) j_this, (h_this_dayAt, .inl (cI, 8, .inl f_this_dayAt)), (h_this_secondAt, .inl (cI, 8, .inl f_this_secondAt))] := hD
  obtain ⟨r1, hc2, h⟩ := bd1_at h
  refine kjSI (kS0 (own := "DateSpansModel") (As := [.int p1]) (rest := []) ⟨hx, hb, hml, hown, hts⟩ (kX10_isSlot l N p1 r1 hc2) (kgS (kq q_1123 rfl) (kq q_1124 rfl) (kq q_66 rfl) (kq q_1125 rfl)) yd_X10_isSlot ⟨Nat.le_of_ble_eq_true rfl, Nat.le_of_ble_eq_true rfl⟩ rfl rfl hl.1 rfl (lv_room (Nat.le_of_ble_eq_true rfl)) dX10_momentIs_6) ?_
  refine lv_if_ne (tgt := 14) hx hb dX10_momentIs_9 (by decide) (fun c3 => ?_) (fun c3 => ?_)
  · have h := ite_f c3 h
    refine lv_aload_n hx hb dX10_momentIs_14 rfl (lv_at hl 0 rfl) ?_
    refine lv_aload_n hx hb dX10_momentIs_15 rfl (lv_at hl 0 rfl) ?_
    refine va_get (D := (dC, dI)) (ci := 9) (v := .ref h_this_dayAt) (C := RX10) (T := TX10) (N := 29) hx hb hts inX10 hown hK hP 0 rfl rfl 0 (by decide) (hts _ (kq q_986 rfl)) (fun _ h9 => h9) rfl dX10_momentIs_16 ?_
    refine lv_iload_n hx hb dX10_momentIs_19 rfl (lv_at hl 1 rfl) ?_
    obtain ⟨hi4, h⟩ := gi_at h
    refine va_iald hx hb hK hP 1 0 rfl rfl hi4 dX10_momentIs_20 ?_
    obtain ⟨i_this_5, hc6, h⟩ := bd1_at h
    refine kjV (kV (own := "DateSpansModel") (C := "DateSpansModel") (b := h_this) (As := [.int (f_this_dayAt p1.toNatClampNeg)]) (rest := []) ⟨hx, hb, hml, hown, hts⟩ (kX10_dates l dC dI cI cJ cB h_this h_this_dayAt h_this_secondAt h_this_spans h_this_kept h_this_text h_this_row h_this_read h_this_many h_this_first h_this_lengths h_this_page N (f_this_dayAt p1.toNatClampNeg) (upd i_this 9 (0 : Int32)) j_this i_this_5 hc6 _) (kgV (kq q_1238 rfl) (kq q_1240 rfl) (kq q_30 rfl) (kq q_66 rfl) (kq q_1241 rfl)) yd_X10_dates ⟨Nat.le_of_ble_eq_true rfl, Nat.le_of_ble_eq_true rfl⟩ hN hK hP hD [0] rfl rfl (ci := 9) rfl rfl rfl rfl rfl hl.1 rfl (lv_room (Nat.le_of_ble_eq_true rfl)) dX10_momentIs_21) hP hD hS hA [0] rfl rfl (fun H locs hP hD hS => ?_)
    have hP : va_P (dC, dI) vwCl [cl_X10 h_this h_this_dayAt h_this_secondAt h_this_spans h_this_kept h_this_text h_this_row h_this_read h_this_many h_this_first h_this_lengths h_this_page i_this_5 j_this, (h_this_dayAt, .inl (cI, 8, .inl f_this_dayAt)), (h_this_secondAt, .inl (cI, 8, .inl f_this_secondAt))] H := hP
    have hD : va_D A [cl_X10 h_this h_this_dayAt h_this_secondAt h_this_spans h_this_kept h_this_text h_this_row h_this_read h_this_many h_this_first h_this_lengths h_this_page i_this_5 j_this, (h_this_dayAt, .inl (cI, 8, .inl f_this_dayAt)), (h_this_secondAt, .inl (cI, 8, .inl f_this_secondAt))] := hD
    refine lv_iload_n hx hb dX10_momentIs_24 rfl (lv_at hl 2 rfl) ?_
    by_cases c7 : p2 = (0 : Int32)
    · have h := ite_t c7 h
      refine lv_tableIn (x := p2) (tgt := 68) hx hb dX10_momentIs_25 (by rw [c7]; decide) (by rw [c7]; decide) (by rw [c7]; rfl) (by decide) ?_
      refine lv_aload_n hx hb dX10_momentIs_68 rfl (lv_at hl 0 rfl) ?_
      refine va_get (D := (dC, dI)) (ci := 9) (v := .ref h_this_dayAt) (C := RX10) (T := TX10) (N := 29) hx hb hts inX10 hown hK hP 0 rfl rfl 0 (by decide) (hts _ (kq q_986 rfl)) (fun _ h9 => h9) rfl dX10_momentIs_69 ?_
      refine lv_iload_n hx hb dX10_momentIs_72 rfl (lv_at hl 1 rfl) ?_
      obtain ⟨hi8, h⟩ := gi_at h
      refine va_iald hx hb hK hP 1 0 rfl rfl hi8 dX10_momentIs_73 ?_
      obtain ⟨rfl, rfl⟩ := pj2 h
      exact hEnd _ _ _ _ hP hS dX10_momentIs_74 rfl
    have h := ite_f c7 h
    by_cases c9 : p2 = (1 : Int32)
    · have h := ite_t c9 h
      refine lv_tableIn (x := p2) (tgt := 75) hx hb dX10_momentIs_25 (by rw [c9]; decide) (by rw [c9]; decide) (by rw [c9]; rfl) (by decide) ?_
      refine lv_aload_n hx hb dX10_momentIs_75 rfl (lv_at hl 0 rfl) ?_
      refine va_get (D := (dC, dI)) (ci := 9) (v := .ref h_this_secondAt) (C := RX10) (T := TX10) (N := 29) hx hb hts inX10 hown hK hP 0 rfl rfl 1 (by decide) (hts _ (kq q_987 rfl)) (fun _ h9 => h9) rfl dX10_momentIs_76 ?_
      refine lv_iload_n hx hb dX10_momentIs_79 rfl (lv_at hl 1 rfl) ?_
      obtain ⟨hi10, h⟩ := gi_at h
      refine va_iald hx hb hK hP 2 0 rfl rfl hi10 dX10_momentIs_80 ?_
      obtain ⟨rfl, rfl⟩ := pj2 h
      exact hEnd _ _ _ _ hP hS dX10_momentIs_81 rfl
    have h := ite_f c9 h
    by_cases c11 : p2 = (2 : Int32)
    · have h := ite_t c11 h
      refine lv_tableIn (x := p2) (tgt := 82) hx hb dX10_momentIs_25 (by rw [c11]; decide) (by rw [c11]; decide) (by rw [c11]; rfl) (by decide) ?_
      refine lv_sipush (v := (10000 : Int32)) hx hb dX10_momentIs_82 (by decide) ?_
      refine lv_aload_n hx hb dX10_momentIs_85 rfl (lv_at hl 0 rfl) ?_
      refine va_get (D := (dC, dI)) (ci := 9) (v := .int (i_this_5 10)) (C := RX10) (T := TX10) (N := 29) hx hb hts inX10 hown hK hP 0 rfl rfl 10 (by decide) (hts _ (kq q_996 rfl)) (fun _ h9 => h9) rfl dX10_momentIs_86 ?_
      refine lv_imul hx hb dX10_momentIs_89 ?_
      refine lv_bipush (v := (100 : Int32)) hx hb dX10_momentIs_90 (by decide) ?_
      refine lv_aload_n hx hb dX10_momentIs_92 rfl (lv_at hl 0 rfl) ?_
      refine va_get (D := (dC, dI)) (ci := 9) (v := .int (i_this_5 11)) (C := RX10) (T := TX10) (N := 29) hx hb hts inX10 hown hK hP 0 rfl rfl 11 (by decide) (hts _ (kq q_997 rfl)) (fun _ h9 => h9) rfl dX10_momentIs_93 ?_
      refine lv_imul hx hb dX10_momentIs_96 ?_
      refine lv_iadd hx hb dX10_momentIs_97 ?_
      refine lv_aload_n hx hb dX10_momentIs_98 rfl (lv_at hl 0 rfl) ?_
      refine va_get (D := (dC, dI)) (ci := 9) (v := .int (i_this_5 12)) (C := RX10) (T := TX10) (N := 29) hx hb hts inX10 hown hK hP 0 rfl rfl 12 (by decide) (hts _ (kq q_998 rfl)) (fun _ h9 => h9) rfl dX10_momentIs_99 ?_
      refine lv_iadd hx hb dX10_momentIs_102 ?_
      obtain ⟨rfl, rfl⟩ := pj2 h
      exact hEnd _ _ _ _ hP hS dX10_momentIs_103 rfl
    have h := ite_f c11 h
    by_cases c12 : p2 = (3 : Int32)
    · have h := ite_t c12 h
      refine lv_tableIn (x := p2) (tgt := 104) hx hb dX10_momentIs_25 (by rw [c12]; decide) (by rw [c12]; decide) (by rw [c12]; rfl) (by decide) ?_
      refine lv_aload_n hx hb dX10_momentIs_104 rfl (lv_at hl 0 rfl) ?_
      refine va_get (D := (dC, dI)) (ci := 9) (v := .ref h_this_dayAt) (C := RX10) (T := TX10) (N := 29) hx hb hts inX10 hown hK hP 0 rfl rfl 0 (by decide) (hts _ (kq q_986 rfl)) (fun _ h9 => h9) rfl dX10_momentIs_105 ?_
      refine lv_iload_n hx hb dX10_momentIs_108 rfl (lv_at hl 1 rfl) ?_
      obtain ⟨hi13, h⟩ := gi_at h
      refine va_iald hx hb hK hP 1 0 rfl rfl hi13 dX10_momentIs_109 ?_
      refine lv_bipush (v := (7 : Int32)) hx hb dX10_momentIs_110 (by decide) ?_
      refine lv_irem hx hb dX10_momentIs_112 (by decide) ?_
      obtain ⟨rfl, rfl⟩ := pj2 h
      exact hEnd _ _ _ _ hP hS dX10_momentIs_113 rfl
    have h := ite_f c12 h
    by_cases c14 : p2 = (4 : Int32)
    · have h := ite_t c14 h
      refine lv_tableIn (x := p2) (tgt := 114) hx hb dX10_momentIs_25 (by rw [c14]; decide) (by rw [c14]; decide) (by rw [c14]; rfl) (by decide) ?_
      refine lv_aload_n hx hb dX10_momentIs_114 rfl (lv_at hl 0 rfl) ?_
      refine va_get (D := (dC, dI)) (ci := 9) (v := .ref h_this_dayAt) (C := RX10) (T := TX10) (N := 29) hx hb hts inX10 hown hK hP 0 rfl rfl 0 (by decide) (hts _ (kq q_986 rfl)) (fun _ h9 => h9) rfl dX10_momentIs_115 ?_
      refine lv_iload_n hx hb dX10_momentIs_118 rfl (lv_at hl 1 rfl) ?_
      obtain ⟨hi15, h⟩ := gi_at h
      refine va_iald hx hb hK hP 1 0 rfl rfl hi15 dX10_momentIs_119 ?_
      refine lv_aload_n hx hb dX10_momentIs_120 rfl (lv_at hl 0 rfl) ?_
      refine va_get (D := (dC, dI)) (ci := 9) (v := .int (i_this_5 10)) (C := RX10) (T := TX10) (N := 29) hx hb hts inX10 hown hK hP 0 rfl rfl 10 (by decide) (hts _ (kq q_996 rfl)) (fun _ h9 => h9) rfl dX10_momentIs_121 ?_
      obtain ⟨r16, hc17, h⟩ := bd1_at h
      refine kjSI (kS0 (own := "DateSpansModel") (As := [.int (i_this_5 10)]) (rest := [.int (f_this_dayAt p1.toNatClampNeg)]) ⟨hx, hb, hml, hown, hts⟩ (kX10_yearBegins l N (i_this_5 10) r16 hc17) (kgS (kq q_1130 rfl) (kq q_1131 rfl) (kq q_66 rfl) (kq q_1132 rfl)) yd_X10_yearBegins ⟨Nat.le_of_ble_eq_true rfl, Nat.le_of_ble_eq_true rfl⟩ rfl rfl hl.1 rfl (lv_room (Nat.le_of_ble_eq_true rfl)) dX10_momentIs_124) ?_
      refine lv_isub hx hb dX10_momentIs_127 ?_
      refine lv_iconst (v := (1 : Int32)) hx hb dX10_momentIs_128 (by decide) ?_
      refine lv_iadd hx hb dX10_momentIs_129 ?_
      obtain ⟨rfl, rfl⟩ := pj2 h
      exact hEnd _ _ _ _ hP hS dX10_momentIs_130 rfl
    have h := ite_f c14 h
    by_cases c18 : p2 = (5 : Int32)
    · have h := ite_t c18 h
      refine lv_tableIn (x := p2) (tgt := 131) hx hb dX10_momentIs_25 (by rw [c18]; decide) (by rw [c18]; decide) (by rw [c18]; rfl) (by decide) ?_
      refine lv_aload_n hx hb dX10_momentIs_131 rfl (lv_at hl 0 rfl) ?_
      refine va_get (D := (dC, dI)) (ci := 9) (v := .int (i_this_5 10)) (C := RX10) (T := TX10) (N := 29) hx hb hts inX10 hown hK hP 0 rfl rfl 10 (by decide) (hts _ (kq q_996 rfl)) (fun _ h9 => h9) rfl dX10_momentIs_132 ?_
      refine lv_aload_n hx hb dX10_momentIs_135 rfl (lv_at hl 0 rfl) ?_
      refine va_get (D := (dC, dI)) (ci := 9) (v := .int (i_this_5 11)) (C := RX10) (T := TX10) (N := 29) hx hb hts inX10 hown hK hP 0 rfl rfl 11 (by decide) (hts _ (kq q_997 rfl)) (fun _ h9 => h9) rfl dX10_momentIs_136 ?_
      obtain ⟨r19, hc20, h⟩ := bd1_at h
      refine kjSI (kS0 (own := "DateSpansModel") (As := [.int (i_this_5 10), .int (i_this_5 11)]) (rest := []) ⟨hx, hb, hml, hown, hts⟩ (kX10_monthDays l N (i_this_5 10) (i_this_5 11) r19 hc20) (kgS (kq q_1117 rfl) (kq q_1118 rfl) (kq q_66 rfl) (kq q_1119 rfl)) yd_X10_monthDays ⟨Nat.le_of_ble_eq_true rfl, Nat.le_of_ble_eq_true rfl⟩ rfl rfl hl.1 rfl (lv_room (Nat.le_of_ble_eq_true rfl)) dX10_momentIs_139) ?_
      obtain ⟨rfl, rfl⟩ := pj2 h
      exact hEnd _ _ _ _ hP hS dX10_momentIs_142 rfl
    have h := ite_f c18 h
    by_cases c21 : p2 = (6 : Int32)
    · have h := ite_t c21 h
      refine lv_tableIn (x := p2) (tgt := 143) hx hb dX10_momentIs_25 (by rw [c21]; decide) (by rw [c21]; decide) (by rw [c21]; rfl) (by decide) ?_
      refine lv_aload_n hx hb dX10_momentIs_143 rfl (lv_at hl 0 rfl) ?_
      refine va_get (D := (dC, dI)) (ci := 9) (v := .int (i_this_5 10)) (C := RX10) (T := TX10) (N := 29) hx hb hts inX10 hown hK hP 0 rfl rfl 10 (by decide) (hts _ (kq q_996 rfl)) (fun _ h9 => h9) rfl dX10_momentIs_144 ?_
      obtain ⟨r22, hc23, h⟩ := bd1_at h
      refine kjSI (kS0 (own := "DateSpansModel") (As := [.int (i_this_5 10)]) (rest := []) ⟨hx, hb, hml, hown, hts⟩ (kX10_isLeap l N (i_this_5 10) r22 hc23) (kgS (kq q_1120 rfl) (kq q_1121 rfl) (kq q_66 rfl) (kq q_1122 rfl)) yd_X10_isLeap ⟨Nat.le_of_ble_eq_true rfl, Nat.le_of_ble_eq_true rfl⟩ rfl rfl hl.1 rfl (lv_room (Nat.le_of_ble_eq_true rfl)) dX10_momentIs_147) ?_
      refine lv_if_eq (tgt := 157) hx hb dX10_momentIs_150 (by decide) (fun c24 => ?_) (fun c24 => ?_)
      · have h := ite_t c24 h
        refine lv_iconst (v := (0 : Int32)) hx hb dX10_momentIs_157 (by decide) ?_
        obtain ⟨rfl, rfl⟩ := pj2 h
        exact hEnd _ _ _ _ hP hS dX10_momentIs_158 rfl
      have h := ite_f c24 h
      refine lv_iconst (v := (1 : Int32)) hx hb dX10_momentIs_153 (by decide) ?_
      refine lv_goto (tgt := 158) hx hb dX10_momentIs_154 (by decide) ?_
      obtain ⟨rfl, rfl⟩ := pj2 h
      exact hEnd _ _ _ _ hP hS dX10_momentIs_158 rfl
    have h := ite_f c21 h
    have gc7 := kne (k := 0) (by decide) c7
    have gc9 := kne (k := 1) (by decide) c9
    have gc11 := kne (k := 2) (by decide) c11
    have gc12 := kne (k := 3) (by decide) c12
    have gc14 := kne (k := 4) (by decide) c14
    have gc18 := kne (k := 5) (by decide) c18
    have gc21 := kne (k := 6) (by decide) c21
    refine lv_tableOut (x := p2) (tgt := 159) hx hb dX10_momentIs_25 (by omega) (by decide) ?_
    refine lv_iconst (v := (-1 : Int32)) hx hb dX10_momentIs_159 (by decide) ?_
    obtain ⟨rfl, rfl⟩ := pj2 h
    exact hEnd _ _ _ _ hP hS dX10_momentIs_160 rfl
  have h := ite_t c3 h
  refine lv_iconst (v := (-1 : Int32)) hx hb dX10_momentIs_12 (by decide) ?_
  obtain ⟨rfl, rfl⟩ := pj2 h
  exact hEnd _ _ _ _ hP hS dX10_momentIs_13 rfl
noncomputable def fX10_spanIs (N : Nat) (p1 : Int32) (p2 : Int32) (i_this : Nat → Int32) (j_this : Nat → Int64) (f_this_spans : Nat → Int32) : Option (Int32 × (Nat → Int32)) := (bd1 (fX10_isSlot N p1) fun r1 => (if r1 = (0 : Int32) then (some ((-2000000000 : Int32), (upd i_this 9 (0 : Int32)))) else (bd1 (fX10_in N p2.toInt64 (0 : Int64) (2 : Int64)) fun r4 => (if r4 = (0 : Int32) then (some ((-2000000000 : Int32), (upd i_this 9 (0 : Int32)))) else (gi (((3 : Int32) * p1) + p2) 24 (some ((f_this_spans (((3 : Int32) * p1) + p2).toNatClampNeg), (upd i_this 9 (0 : Int32)))))))))
set_option maxHeartbeats 4000000 in
set_option maxRecDepth 100000 in
theorem kX10_spanIs (l : Launch) (dC : Nat → ClassId) (dI : Nat → Nat → Nat) (cI cJ cB : ClassId) (h_this h_this_dayAt h_this_secondAt h_this_spans h_this_kept h_this_text h_this_row h_this_read h_this_many h_this_first h_this_lengths h_this_page : Nat) (N : Nat) (p1 : Int32) (p2 : Int32) (i_this : Nat → Int32) (j_this : Nat → Int64) (f_this_spans : Nat → Int32) (r : Int32) (o_i_this : Nat → Int32) (hf : fX10_spanIs N p1 p2 i_this j_this f_this_spans = some (r, o_i_this)) : MI l yX10_spanIs (kws yX10_spanIs cX10_spanIs 3 (some .int)) (kR 2 45) (dC, dI) (kT cI cJ cB) [.ref h_this, .int p1, .int p2] [cl_X10 h_this h_this_dayAt h_this_secondAt h_this_spans h_this_kept h_this_text h_this_row h_this_read h_this_many h_this_first h_this_lengths h_this_page i_this j_this, (h_this_spans, .inl (cI, 24, .inl f_this_spans))] [cl_X10 h_this h_this_dayAt h_this_secondAt h_this_spans h_this_kept h_this_text h_this_row h_this_read h_this_many h_this_first h_this_lengths h_this_page o_i_this j_this, (h_this_spans, .inl (cI, 24, .inl f_this_spans))] r := by
  refine MI.of (cc := cX10_spanIs) (maxL := 3) (by decide) (Nat.le_of_ble_eq_true rfl) (fun p e s m args below meth c A Q ls KC hN hK hP hD hA hl hEnd => ?_)
  obtain ⟨hx, hb, hml, hown, hts⟩ := KC
  have hown : s.vm.findClass "DateSpansModel" = some m.cls := hown
  have hl : lv_has ls 3 [(0, .ref h_this), (1, .int p1), (2, .int p2)] := hl
  have hS : va_S A s.heap s.heap [] := va_S.rf
  have h := hf
  unfold fX10_spanIs at h
  refine lv_aload_n hx hb dX10_spanIs_0 rfl (lv_at hl 0 rfl) ?_
  refine lv_iconst (v := (0 : Int32)) hx hb dX10_spanIs_1 (by decide) ?_
  refine va_put (D := (dC, dI)) (ci := 9) (v := .int (0 : Int32)) (ty := .int) (C := RX10) (T := TX10) (N := 29) hx hb hts inX10 tyX10 tyX10_ok nmX10 hown hK hP hD hS 0 rfl rfl 9 (by decide) (hts _ (kq q_995 rfl)) (fun _ h9 => h9) rfl (by decide +kernel) rfl rfl (Nat.le_of_ble_eq_true rfl) dX10_spanIs_2 (fun H locs hP hD hS => ?_)
  have hP : va_P (dC, dI) vwCl [(h_this, .inr (9, [.ref h_this_dayAt, .ref h_this_secondAt, .ref h_this_spans, .ref h_this_kept, .int (i_this 4), .ref h_this_text, .int (i_this 6), .ref h_this_row, .int (i_this 8), .int (0 : Int32), .int (i_this 10), .int (i_this 11), .int (i_this 12), .int (i_this 13), .int (i_this 14), .int (i_this 15), .int (i_this 16), .int (i_this 17), .int (i_this 18), .ref h_this_read, .long (j_this 20), .ref h_this_many, .ref h_this_first, .ref h_this_lengths, .int (i_this 24), .long (j_this 25), .long (j_this 26), .ref h_this_page, .int (i_this 28)])), (h_this_spans, .inl (cI, 24, .inl f_this_spans))] H := hP
  have hD : va_D A [(h_this, .inr (9, [.ref h_this_dayAt, .ref h_this_secondAt, .ref h_this_spans, .ref h_this_kept, .int (i_this 4), .ref h_this_text, .int (i_this 6), .ref h_this_row, .int (i_this 8), .int (0 : Int32), .int (i_this 10), .int (i_this 11), .int (i_this 12), .int (i_this 13), .int (i_this 14), .int (i_this 15), .int (i_this 16), .int (i_this 17), .int (i_this 18), .ref h_this_read, .long (j_this 20), .ref h_this_many, .ref h_this_first, .ref h_this_lengths, .int (i_this 24), .long (j_this 25), .long (j_this 26), .ref h_this_page, .int (i_this 28)])), (h_this_spans, .inl (cI, 24, .inl f_this_spans))] := hD
  refine lv_iload_n hx hb dX10_spanIs_5 rfl (lv_at hl 1 rfl) ?_
  have hP : va_P (dC, dI) vwCl [cl_X10 h_this h_this_dayAt h_this_secondAt h_this_spans h_this_kept h_this_text h_this_row h_this_read h_this_many h_this_first h_this_lengths h_this_page (upd i_this 9 (0 : Int32)) j_this, (h_this_spans, .inl (cI, 24, .inl f_this_spans))] H := hP
  have hD : va_D A [cl_X10 h_this h_this_dayAt h_this_secondAt h_this_spans h_this_kept h_this_text h_this_row h_this_read h_this_many h_this_first h_this_lengths h_this_page (upd i_this 9 (0 : Int32)) j_this, (h_this_spans, .inl (cI, 24, .inl f_this_spans))] := hD
  obtain ⟨r1, hc2, h⟩ := bd1_at h
  refine kjSI (kS0 (own := "DateSpansModel") (As := [.int p1]) (rest := []) ⟨hx, hb, hml, hown, hts⟩ (kX10_isSlot l N p1 r1 hc2) (kgS (kq q_1123 rfl) (kq q_1124 rfl) (kq q_66 rfl) (kq q_1125 rfl)) yd_X10_isSlot ⟨Nat.le_of_ble_eq_true rfl, Nat.le_of_ble_eq_true rfl⟩ rfl rfl hl.1 rfl (lv_room (Nat.le_of_ble_eq_true rfl)) dX10_spanIs_6) ?_
  refine lv_if_eq (tgt := 37) hx hb dX10_spanIs_9 (by decide) (fun c3 => ?_) (fun c3 => ?_)
  · have h := ite_t c3 h
    refine lv_ldc (v := (-2000000000 : Int32)) hx hb hown (hts _ (kq q_1249 rfl)) dX10_spanIs_37 ?_
    obtain ⟨rfl, rfl⟩ := pj2 h
    exact hEnd _ _ _ _ hP hS dX10_spanIs_39 rfl
  have h := ite_f c3 h
  refine lv_iload_n hx hb dX10_spanIs_12 rfl (lv_at hl 2 rfl) ?_
  refine lv_i2l hx hb dX10_spanIs_13 rfl ?_
  refine lv_lconst (v := (0 : Int64)) hx hb dX10_spanIs_14 (by decide) ?_
  refine lv_ldc2 (v := (2 : Int64)) hx hb hown (hts _ (kq q_1248 rfl)) dX10_spanIs_15 ?_
  obtain ⟨r4, hc5, h⟩ := bd1_at h
  refine kjSI (kS0 (own := "DateSpansModel") (As := [.long p2.toInt64, .long (0 : Int64), .long (2 : Int64)]) (rest := []) ⟨hx, hb, hml, hown, hts⟩ (kX10_in l N p2.toInt64 (0 : Int64) (2 : Int64) r4 hc5) (kgS (kq q_1086 rfl) (kq q_1087 rfl) (kq q_66 rfl) (kq q_1088 rfl)) yd_X10_in ⟨Nat.le_of_ble_eq_true rfl, Nat.le_of_ble_eq_true rfl⟩ rfl rfl hl.1 rfl (lv_room (Nat.le_of_ble_eq_true rfl)) dX10_spanIs_18) ?_
  refine lv_if_eq (tgt := 37) hx hb dX10_spanIs_21 (by decide) (fun c6 => ?_) (fun c6 => ?_)
  · have h := ite_t c6 h
    refine lv_ldc (v := (-2000000000 : Int32)) hx hb hown (hts _ (kq q_1249 rfl)) dX10_spanIs_37 ?_
    obtain ⟨rfl, rfl⟩ := pj2 h
    exact hEnd _ _ _ _ hP hS dX10_spanIs_39 rfl
  have h := ite_f c6 h
  refine lv_aload_n hx hb dX10_spanIs_24 rfl (lv_at hl 0 rfl) ?_
  refine va_get (D := (dC, dI)) (ci := 9) (v := .ref h_this_spans) (C := RX10) (T := TX10) (N := 29) hx hb hts inX10 hown hK hP 0 rfl rfl 2 (by decide) (hts _ (kq q_988 rfl)) (fun _ h9 => h9) rfl dX10_spanIs_25 ?_
  refine lv_iconst (v := (3 : Int32)) hx hb dX10_spanIs_28 (by decide) ?_
  refine lv_iload_n hx hb dX10_spanIs_29 rfl (lv_at hl 1 rfl) ?_
  refine lv_imul hx hb dX10_spanIs_30 ?_
  refine lv_iload_n hx hb dX10_spanIs_31 rfl (lv_at hl 2 rfl) ?_
  refine lv_iadd hx hb dX10_spanIs_32 ?_
  obtain ⟨hi7, h⟩ := gi_at h
  refine va_iald hx hb hK hP 1 0 rfl rfl hi7 dX10_spanIs_33 ?_
  refine lv_goto (tgt := 39) hx hb dX10_spanIs_34 (by decide) ?_
  obtain ⟨rfl, rfl⟩ := pj2 h
  exact hEnd _ _ _ _ hP hS dX10_spanIs_39 rfl
noncomputable def fX10_dateOf (N : Nat) (p1 : Int32) (i_this : Nat → Int32) (j_this : Nat → Int64) : Option (Int32 × (Nat → Int32)) := (bd1 (fX10_dates N p1 i_this j_this) fun i_this_1 => (some (((((10000 : Int32) * (i_this_1 10)) + ((100 : Int32) * (i_this_1 11))) + (i_this_1 12)), i_this_1)))
set_option maxHeartbeats 4000000 in
set_option maxRecDepth 100000 in
theorem kX10_dateOf (l : Launch) (dC : Nat → ClassId) (dI : Nat → Nat → Nat) (cI cJ cB : ClassId) (h_this h_this_dayAt h_this_secondAt h_this_spans h_this_kept h_this_text h_this_row h_this_read h_this_many h_this_first h_this_lengths h_this_page : Nat) (N : Nat) (p1 : Int32) (i_this : Nat → Int32) (j_this : Nat → Int64) (r : Int32) (o_i_this : Nat → Int32) (hf : fX10_dateOf N p1 i_this j_this = some (r, o_i_this)) : MI l yX10_dateOf (kws yX10_dateOf cX10_dateOf 2 (some .int)) (kR 3 66) (dC, dI) (kT cI cJ cB) [.ref h_this, .int p1] [cl_X10 h_this h_this_dayAt h_this_secondAt h_this_spans h_this_kept h_this_text h_this_row h_this_read h_this_many h_this_first h_this_lengths h_this_page i_this j_this] [cl_X10 h_this h_this_dayAt h_this_secondAt h_this_spans h_this_kept h_this_text h_this_row h_this_read h_this_many h_this_first h_this_lengths h_this_page o_i_this j_this] r := by
  refine MI.of (cc := cX10_dateOf) (maxL := 2) (by decide) (Nat.le_of_ble_eq_true rfl) (fun p e s m args below meth c A Q ls KC hN hK hP hD hA hl hEnd => ?_)
  obtain ⟨hx, hb, hml, hown, hts⟩ := KC
  have hown : s.vm.findClass "DateSpansModel" = some m.cls := hown
  have hl : lv_has ls 2 [(0, .ref h_this), (1, .int p1)] := hl
  have hS : va_S A s.heap s.heap [] := va_S.rf
  have h := hf
  unfold fX10_dateOf at h
  refine lv_aload_n hx hb dX10_dateOf_0 rfl (lv_at hl 0 rfl) ?_
  refine lv_iload_n hx hb dX10_dateOf_1 rfl (lv_at hl 1 rfl) ?_
  obtain ⟨i_this_1, hc2, h⟩ := bd1_at h
  refine kjV (kV (own := "DateSpansModel") (C := "DateSpansModel") (b := h_this) (As := [.int p1]) (rest := []) ⟨hx, hb, hml, hown, hts⟩ (kX10_dates l dC dI cI cJ cB h_this h_this_dayAt h_this_secondAt h_this_spans h_this_kept h_this_text h_this_row h_this_read h_this_many h_this_first h_this_lengths h_this_page N p1 i_this j_this i_this_1 hc2 _) (kgV (kq q_1238 rfl) (kq q_1240 rfl) (kq q_30 rfl) (kq q_66 rfl) (kq q_1241 rfl)) yd_X10_dates ⟨Nat.le_of_ble_eq_true rfl, Nat.le_of_ble_eq_true rfl⟩ hN hK hP hD [0] rfl rfl (ci := 9) rfl rfl rfl rfl rfl hl.1 rfl (lv_room (Nat.le_of_ble_eq_true rfl)) dX10_dateOf_2) hP hD hS hA [0] rfl rfl (fun H locs hP hD hS => ?_)
  have hP : va_P (dC, dI) vwCl [cl_X10 h_this h_this_dayAt h_this_secondAt h_this_spans h_this_kept h_this_text h_this_row h_this_read h_this_many h_this_first h_this_lengths h_this_page i_this_1 j_this] H := hP
  have hD : va_D A [cl_X10 h_this h_this_dayAt h_this_secondAt h_this_spans h_this_kept h_this_text h_this_row h_this_read h_this_many h_this_first h_this_lengths h_this_page i_this_1 j_this] := hD
  refine lv_sipush (v := (10000 : Int32)) hx hb dX10_dateOf_5 (by decide) ?_
  refine lv_aload_n hx hb dX10_dateOf_8 rfl (lv_at hl 0 rfl) ?_
  refine va_get (D := (dC, dI)) (ci := 9) (v := .int (i_this_1 10)) (C := RX10) (T := TX10) (N := 29) hx hb hts inX10 hown hK hP 0 rfl rfl 10 (by decide) (hts _ (kq q_996 rfl)) (fun _ h9 => h9) rfl dX10_dateOf_9 ?_
  refine lv_imul hx hb dX10_dateOf_12 ?_
  refine lv_bipush (v := (100 : Int32)) hx hb dX10_dateOf_13 (by decide) ?_
  refine lv_aload_n hx hb dX10_dateOf_15 rfl (lv_at hl 0 rfl) ?_
  refine va_get (D := (dC, dI)) (ci := 9) (v := .int (i_this_1 11)) (C := RX10) (T := TX10) (N := 29) hx hb hts inX10 hown hK hP 0 rfl rfl 11 (by decide) (hts _ (kq q_997 rfl)) (fun _ h9 => h9) rfl dX10_dateOf_16 ?_
  refine lv_imul hx hb dX10_dateOf_19 ?_
  refine lv_iadd hx hb dX10_dateOf_20 ?_
  refine lv_aload_n hx hb dX10_dateOf_21 rfl (lv_at hl 0 rfl) ?_
  refine va_get (D := (dC, dI)) (ci := 9) (v := .int (i_this_1 12)) (C := RX10) (T := TX10) (N := 29) hx hb hts inX10 hown hK hP 0 rfl rfl 12 (by decide) (hts _ (kq q_998 rfl)) (fun _ h9 => h9) rfl dX10_dateOf_22 ?_
  refine lv_iadd hx hb dX10_dateOf_25 ?_
  obtain ⟨rfl, rfl⟩ := pj2 h
  exact hEnd _ _ _ _ hP hS dX10_dateOf_26 rfl
noncomputable def fX10_date (N : Nat) (p1 : Int32) (i_this : Nat → Int32) (j_this : Nat → Int64) : Option (Int32 × (Nat → Int32)) := (bd1 (fX10_isDay N p1.toInt64) fun r1 => (if r1 = (0 : Int32) then (some ((-1 : Int32), (upd i_this 9 (0 : Int32)))) else (bd2 (fX10_dateOf N p1 (upd i_this 9 (0 : Int32)) j_this) fun r4 i_this_5 => (some (r4, i_this_5)))))
set_option maxHeartbeats 4000000 in
set_option maxRecDepth 100000 in
theorem kX10_date (l : Launch) (dC : Nat → ClassId) (dI : Nat → Nat → Nat) (cI cJ cB : ClassId) (h_this h_this_dayAt h_this_secondAt h_this_spans h_this_kept h_this_text h_this_row h_this_read h_this_many h_this_first h_this_lengths h_this_page : Nat) (N : Nat) (p1 : Int32) (i_this : Nat → Int32) (j_this : Nat → Int64) (r : Int32) (o_i_this : Nat → Int32) (hf : fX10_date N p1 i_this j_this = some (r, o_i_this)) : MI l yX10_date (kws yX10_date cX10_date 2 (some .int)) (kR 4 87) (dC, dI) (kT cI cJ cB) [.ref h_this, .int p1] [cl_X10 h_this h_this_dayAt h_this_secondAt h_this_spans h_this_kept h_this_text h_this_row h_this_read h_this_many h_this_first h_this_lengths h_this_page i_this j_this] [cl_X10 h_this h_this_dayAt h_this_secondAt h_this_spans h_this_kept h_this_text h_this_row h_this_read h_this_many h_this_first h_this_lengths h_this_page o_i_this j_this] r := by
  refine MI.of (cc := cX10_date) (maxL := 2) (by decide) (Nat.le_of_ble_eq_true rfl) (fun p e s m args below meth c A Q ls KC hN hK hP hD hA hl hEnd => ?_)
  obtain ⟨hx, hb, hml, hown, hts⟩ := KC
  have hown : s.vm.findClass "DateSpansModel" = some m.cls := hown
  have hl : lv_has ls 2 [(0, .ref h_this), (1, .int p1)] := hl
  have hS : va_S A s.heap s.heap [] := va_S.rf
  have h := hf
  unfold fX10_date at h
  refine lv_aload_n hx hb dX10_date_0 rfl (lv_at hl 0 rfl) ?_
  refine lv_iconst (v := (0 : Int32)) hx hb dX10_date_1 (by decide) ?_
  refine va_put (D := (dC, dI)) (ci := 9) (v := .int (0 : Int32)) (ty := .int) (C := RX10) (T := TX10) (N := 29) hx hb hts inX10 tyX10 tyX10_ok nmX10 hown hK hP hD hS 0 rfl rfl 9 (by decide) (hts _ (kq q_995 rfl)) (fun _ h9 => h9) rfl (by decide +kernel) rfl rfl (Nat.le_of_ble_eq_true rfl) dX10_date_2 (fun H locs hP hD hS => ?_)
  have hP : va_P (dC, dI) vwCl [(h_this, .inr (9, [.ref h_this_dayAt, .ref h_this_secondAt, .ref h_this_spans, .ref h_this_kept, .int (i_this 4), .ref h_this_text, .int (i_this 6), .ref h_this_row, .int (i_this 8), .int (0 : Int32), .int (i_this 10), .int (i_this 11), .int (i_this 12), .int (i_this 13), .int (i_this 14), .int (i_this 15), .int (i_this 16), .int (i_this 17), .int (i_this 18), .ref h_this_read, .long (j_this 20), .ref h_this_many, .ref h_this_first, .ref h_this_lengths, .int (i_this 24), .long (j_this 25), .long (j_this 26), .ref h_this_page, .int (i_this 28)]))] H := hP
  have hD : va_D A [(h_this, .inr (9, [.ref h_this_dayAt, .ref h_this_secondAt, .ref h_this_spans, .ref h_this_kept, .int (i_this 4), .ref h_this_text, .int (i_this 6), .ref h_this_row, .int (i_this 8), .int (0 : Int32), .int (i_this 10), .int (i_this 11), .int (i_this 12), .int (i_this 13), .int (i_this 14), .int (i_this 15), .int (i_this 16), .int (i_this 17), .int (i_this 18), .ref h_this_read, .long (j_this 20), .ref h_this_many, .ref h_this_first, .ref h_this_lengths, .int (i_this 24), .long (j_this 25), .long (j_this 26), .ref h_this_page, .int (i_this 28)]))] := hD
  refine lv_iload_n hx hb dX10_date_5 rfl (lv_at hl 1 rfl) ?_
  refine lv_i2l hx hb dX10_date_6 rfl ?_
  have hP : va_P (dC, dI) vwCl [cl_X10 h_this h_this_dayAt h_this_secondAt h_this_spans h_this_kept h_this_text h_this_row h_this_read h_this_many h_this_first h_this_lengths h_this_page (upd i_this 9 (0 : Int32)) j_this] H := hP
  have hD : va_D A [cl_X10 h_this h_this_dayAt h_this_secondAt h_this_spans h_this_kept h_this_text h_this_row h_this_read h_this_many h_this_first h_this_lengths h_this_page (upd i_this 9 (0 : Int32)) j_this] := hD
  obtain ⟨r1, hc2, h⟩ := bd1_at h
  refine kjSI (kS0 (own := "DateSpansModel") (As := [.long p1.toInt64]) (rest := []) ⟨hx, hb, hml, hown, hts⟩ (kX10_isDay l N p1.toInt64 r1 hc2) (kgS (kq q_1148 rfl) (kq q_1149 rfl) (kq q_66 rfl) (kq q_1150 rfl)) yd_X10_isDay ⟨Nat.le_of_ble_eq_true rfl, Nat.le_of_ble_eq_true rfl⟩ rfl rfl hl.1 rfl (lv_room (Nat.le_of_ble_eq_true rfl)) dX10_date_7) ?_
  refine lv_if_eq (tgt := 21) hx hb dX10_date_10 (by decide) (fun c3 => ?_) (fun c3 => ?_)
  · have h := ite_t c3 h
    refine lv_iconst (v := (-1 : Int32)) hx hb dX10_date_21 (by decide) ?_
    obtain ⟨rfl, rfl⟩ := pj2 h
    exact hEnd _ _ _ _ hP hS dX10_date_22 rfl
  have h := ite_f c3 h
  refine lv_aload_n hx hb dX10_date_13 rfl (lv_at hl 0 rfl) ?_
  refine lv_iload_n hx hb dX10_date_14 rfl (lv_at hl 1 rfl) ?_
  obtain ⟨r4, i_this_5, hc6, h⟩ := bd2_at h
  refine kjI (kV (own := "DateSpansModel") (C := "DateSpansModel") (b := h_this) (As := [.int p1]) (rest := []) ⟨hx, hb, hml, hown, hts⟩ (kX10_dateOf l dC dI cI cJ cB h_this h_this_dayAt h_this_secondAt h_this_spans h_this_kept h_this_text h_this_row h_this_read h_this_many h_this_first h_this_lengths h_this_page N p1 (upd i_this 9 (0 : Int32)) j_this r4 i_this_5 hc6 _) (kgV (kq q_1254 rfl) (kq q_1256 rfl) (kq q_31 rfl) (kq q_66 rfl) (kq q_1257 rfl)) yd_X10_dateOf ⟨Nat.le_of_ble_eq_true rfl, Nat.le_of_ble_eq_true rfl⟩ hN hK hP hD [0] rfl rfl (ci := 9) rfl rfl rfl rfl rfl hl.1 rfl (lv_room (Nat.le_of_ble_eq_true rfl)) dX10_date_15) hP hD hS hA [0] rfl rfl (fun H locs hP hD hS => ?_)
  have hP : va_P (dC, dI) vwCl [cl_X10 h_this h_this_dayAt h_this_secondAt h_this_spans h_this_kept h_this_text h_this_row h_this_read h_this_many h_this_first h_this_lengths h_this_page i_this_5 j_this] H := hP
  have hD : va_D A [cl_X10 h_this h_this_dayAt h_this_secondAt h_this_spans h_this_kept h_this_text h_this_row h_this_read h_this_many h_this_first h_this_lengths h_this_page i_this_5 j_this] := hD
  refine lv_goto (tgt := 22) hx hb dX10_date_18 (by decide) ?_
  obtain ⟨rfl, rfl⟩ := pj2 h
  exact hEnd _ _ _ _ hP hS dX10_date_22 rfl
noncomputable def fX10_isDate (N : Nat) (p1 : Int32) : Option (Int32) := (nm (p1 / (10000 : Int32)) fun z1 => (nm ((p1 / (100 : Int32)) - (p1 / (100 : Int32)) / (100 : Int32) * (100 : Int32)) fun z2 => (if p1 ≤ (0 : Int32) then (some (0 : Int32)) else (bd1 (fX10_in N z1.toInt64 (1 : Int64) (9999 : Int64)) fun r4 => (if r4 = (0 : Int32) then (some (0 : Int32)) else (bd1 (fX10_in N z2.toInt64 (1 : Int64) (12 : Int64)) fun r7 => (if r7 = (0 : Int32) then (some (0 : Int32)) else (bd1 (fX10_monthDays N z1 z2) fun r10 => (bd1 (fX10_in N ((p1 - p1 / (100 : Int32) * (100 : Int32)).toInt64) (1 : Int64) r10.toInt64) fun r12 => (if r12 = (0 : Int32) then (some (0 : Int32)) else (some (1 : Int32))))))))))))
set_option maxHeartbeats 4000000 in
set_option maxRecDepth 100000 in
theorem kX10_isDate (l : Launch) (N : Nat) (p1 : Int32) (r : Int32) (hf : fX10_isDate N p1 = some r) : SI l yX10_isDate (kws yX10_isDate cX10_isDate 3 (some .boolean)) (kR 2 41) [.int p1] r := by
  refine SI.of (cc := cX10_isDate) (maxL := 3) (by decide) (Nat.le_of_ble_eq_true rfl) (fun p e s m args below meth c Q ls KC hl hEnd => ?_)
  obtain ⟨hx, hb, hml, hown, hts⟩ := KC
  have hown : s.vm.findClass "DateSpansModel" = some m.cls := hown
  have hl : lv_has ls 3 [(0, .int p1)] := hl
  have h := hf
  unfold fX10_isDate at h
  refine lv_iload_n hx hb dX10_isDate_0 rfl (lv_at hl 0 rfl) ?_
  refine lv_sipush (v := (10000 : Int32)) hx hb dX10_isDate_1 (by decide) ?_
  refine lv_idiv hx hb dX10_isDate_4 (by decide) ?_
  refine lv_topi (fun z1 ez1 => ?_)
  have h := nm_at ez1 h
  refine lv_istore_n (lv' := [(1, .int z1), (0, .int p1)]) hx hb dX10_isDate_5 rfl hl (by decide) rfl (fun ls hl => ?_)
  refine lv_iload_n hx hb dX10_isDate_6 rfl (lv_at hl 1 rfl) ?_
  refine lv_bipush (v := (100 : Int32)) hx hb dX10_isDate_7 (by decide) ?_
  refine lv_idiv hx hb dX10_isDate_9 (by decide) ?_
  refine lv_bipush (v := (100 : Int32)) hx hb dX10_isDate_10 (by decide) ?_
  refine lv_irem hx hb dX10_isDate_12 (by decide) ?_
  refine lv_topi (fun z2 ez2 => ?_)
  have h := nm_at ez2 h
  refine lv_istore_n (lv' := [(2, .int z2), (1, .int z1), (0, .int p1)]) hx hb dX10_isDate_13 rfl hl (by decide) rfl (fun ls hl => ?_)
  refine lv_iload_n hx hb dX10_isDate_14 rfl (lv_at hl 2 rfl) ?_
  refine lv_if_le (tgt := 64) hx hb dX10_isDate_15 (by decide) (fun c3 => ?_) (fun c3 => ?_)
  · have h := ite_t c3 h
    refine lv_iconst (v := (0 : Int32)) hx hb dX10_isDate_64 (by decide) ?_
    obtain rfl := pj1 h
    exact hEnd _ _ dX10_isDate_65 rfl
  have h := ite_f c3 h
  refine lv_iload_n hx hb dX10_isDate_18 rfl (lv_at hl 1 rfl) ?_
  refine lv_i2l hx hb dX10_isDate_19 rfl ?_
  refine lv_lconst (v := (1 : Int64)) hx hb dX10_isDate_20 (by decide) ?_
  refine lv_ldc2 (v := (9999 : Int64)) hx hb hown (hts _ (kq q_1265 rfl)) dX10_isDate_21 ?_
  obtain ⟨r4, hc5, h⟩ := bd1_at h
  refine kjSI (kS0 (own := "DateSpansModel") (As := [.long z1.toInt64, .long (1 : Int64), .long (9999 : Int64)]) (rest := []) ⟨hx, hb, hml, hown, hts⟩ (kX10_in l N z1.toInt64 (1 : Int64) (9999 : Int64) r4 hc5) (kgS (kq q_1086 rfl) (kq q_1087 rfl) (kq q_66 rfl) (kq q_1088 rfl)) yd_X10_in ⟨Nat.le_of_ble_eq_true rfl, Nat.le_of_ble_eq_true rfl⟩ rfl rfl hl.1 rfl (lv_room (Nat.le_of_ble_eq_true rfl)) dX10_isDate_24) ?_
  refine lv_if_eq (tgt := 64) hx hb dX10_isDate_27 (by decide) (fun c6 => ?_) (fun c6 => ?_)
  · have h := ite_t c6 h
    refine lv_iconst (v := (0 : Int32)) hx hb dX10_isDate_64 (by decide) ?_
    obtain rfl := pj1 h
    exact hEnd _ _ dX10_isDate_65 rfl
  have h := ite_f c6 h
  refine lv_iload_n hx hb dX10_isDate_30 rfl (lv_at hl 0 rfl) ?_
  refine lv_i2l hx hb dX10_isDate_31 rfl ?_
  refine lv_lconst (v := (1 : Int64)) hx hb dX10_isDate_32 (by decide) ?_
  refine lv_ldc2 (v := (12 : Int64)) hx hb hown (hts _ (kq q_1266 rfl)) dX10_isDate_33 ?_
  obtain ⟨r7, hc8, h⟩ := bd1_at h
  refine kjSI (kS0 (own := "DateSpansModel") (As := [.long z2.toInt64, .long (1 : Int64), .long (12 : Int64)]) (rest := []) ⟨hx, hb, hml, hown, hts⟩ (kX10_in l N z2.toInt64 (1 : Int64) (12 : Int64) r7 hc8) (kgS (kq q_1086 rfl) (kq q_1087 rfl) (kq q_66 rfl) (kq q_1088 rfl)) yd_X10_in ⟨Nat.le_of_ble_eq_true rfl, Nat.le_of_ble_eq_true rfl⟩ rfl rfl hl.1 rfl (lv_room (Nat.le_of_ble_eq_true rfl)) dX10_isDate_36) ?_
  refine lv_if_eq (tgt := 64) hx hb dX10_isDate_39 (by decide) (fun c9 => ?_) (fun c9 => ?_)
  · have h := ite_t c9 h
    refine lv_iconst (v := (0 : Int32)) hx hb dX10_isDate_64 (by decide) ?_
    obtain rfl := pj1 h
    exact hEnd _ _ dX10_isDate_65 rfl
  have h := ite_f c9 h
  refine lv_iload_n hx hb dX10_isDate_42 rfl (lv_at hl 2 rfl) ?_
  refine lv_bipush (v := (100 : Int32)) hx hb dX10_isDate_43 (by decide) ?_
  refine lv_irem hx hb dX10_isDate_45 (by decide) ?_
  refine lv_i2l hx hb dX10_isDate_46 rfl ?_
  refine lv_lconst (v := (1 : Int64)) hx hb dX10_isDate_47 (by decide) ?_
  refine lv_iload_n hx hb dX10_isDate_48 rfl (lv_at hl 1 rfl) ?_
  refine lv_iload_n hx hb dX10_isDate_49 rfl (lv_at hl 0 rfl) ?_
  obtain ⟨r10, hc11, h⟩ := bd1_at h
  refine kjSI (kS0 (own := "DateSpansModel") (As := [.int z1, .int z2]) (rest := [.long (1 : Int64), .long ((p1 - p1 / (100 : Int32) * (100 : Int32)).toInt64)]) ⟨hx, hb, hml, hown, hts⟩ (kX10_monthDays l N z1 z2 r10 hc11) (kgS (kq q_1117 rfl) (kq q_1118 rfl) (kq q_66 rfl) (kq q_1119 rfl)) yd_X10_monthDays ⟨Nat.le_of_ble_eq_true rfl, Nat.le_of_ble_eq_true rfl⟩ rfl rfl hl.1 rfl (lv_room (Nat.le_of_ble_eq_true rfl)) dX10_isDate_50) ?_
  refine lv_i2l hx hb dX10_isDate_53 rfl ?_
  obtain ⟨r12, hc13, h⟩ := bd1_at h
  refine kjSI (kS0 (own := "DateSpansModel") (As := [.long ((p1 - p1 / (100 : Int32) * (100 : Int32)).toInt64), .long (1 : Int64), .long r10.toInt64]) (rest := []) ⟨hx, hb, hml, hown, hts⟩ (kX10_in l N ((p1 - p1 / (100 : Int32) * (100 : Int32)).toInt64) (1 : Int64) r10.toInt64 r12 hc13) (kgS (kq q_1086 rfl) (kq q_1087 rfl) (kq q_66 rfl) (kq q_1088 rfl)) yd_X10_in ⟨Nat.le_of_ble_eq_true rfl, Nat.le_of_ble_eq_true rfl⟩ rfl rfl hl.1 rfl (lv_room (Nat.le_of_ble_eq_true rfl)) dX10_isDate_54) ?_
  refine lv_if_eq (tgt := 64) hx hb dX10_isDate_57 (by decide) (fun c14 => ?_) (fun c14 => ?_)
  · have h := ite_t c14 h
    refine lv_iconst (v := (0 : Int32)) hx hb dX10_isDate_64 (by decide) ?_
    obtain rfl := pj1 h
    exact hEnd _ _ dX10_isDate_65 rfl
  have h := ite_f c14 h
  refine lv_iconst (v := (1 : Int32)) hx hb dX10_isDate_60 (by decide) ?_
  refine lv_goto (tgt := 65) hx hb dX10_isDate_61 (by decide) ?_
  obtain rfl := pj1 h
  exact hEnd _ _ dX10_isDate_65 rfl
noncomputable def fX10_day (N : Nat) (p1 : Int32) (i_this : Nat → Int32) (j_this : Nat → Int64) : Option (Int32 × (Nat → Int32)) := (bd1 (fX10_isDate N p1) fun r1 => (if r1 = (0 : Int32) then (some ((-2 : Int32), (upd i_this 9 (0 : Int32)))) else (bd1 (fX10_dayOf N (p1 / (10000 : Int32)) ((p1 / (100 : Int32)) - (p1 / (100 : Int32)) / (100 : Int32) * (100 : Int32)) (p1 - p1 / (100 : Int32) * (100 : Int32))) fun r4 => (some (r4, (upd i_this 9 (0 : Int32)))))))
set_option maxHeartbeats 4000000 in
set_option maxRecDepth 100000 in
theorem kX10_day (l : Launch) (dC : Nat → ClassId) (dI : Nat → Nat → Nat) (cI cJ cB : ClassId) (h_this h_this_dayAt h_this_secondAt h_this_spans h_this_kept h_this_text h_this_row h_this_read h_this_many h_this_first h_this_lengths h_this_page : Nat) (N : Nat) (p1 : Int32) (i_this : Nat → Int32) (j_this : Nat → Int64) (r : Int32) (o_i_this : Nat → Int32) (hf : fX10_day N p1 i_this j_this = some (r, o_i_this)) : MI l yX10_day (kws yX10_day cX10_day 2 (some .int)) (kR 3 63) (dC, dI) (kT cI cJ cB) [.ref h_this, .int p1] [cl_X10 h_this h_this_dayAt h_this_secondAt h_this_spans h_this_kept h_this_text h_this_row h_this_read h_this_many h_this_first h_this_lengths h_this_page i_this j_this] [cl_X10 h_this h_this_dayAt h_this_secondAt h_this_spans h_this_kept h_this_text h_this_row h_this_read h_this_many h_this_first h_this_lengths h_this_page o_i_this j_this] r := by
  refine MI.of (cc := cX10_day) (maxL := 2) (by decide) (Nat.le_of_ble_eq_true rfl) (fun p e s m args below meth c A Q ls KC hN hK hP hD hA hl hEnd => ?_)
  obtain ⟨hx, hb, hml, hown, hts⟩ := KC
  have hown : s.vm.findClass "DateSpansModel" = some m.cls := hown
  have hl : lv_has ls 2 [(0, .ref h_this), (1, .int p1)] := hl
  have hS : va_S A s.heap s.heap [] := va_S.rf
  have h := hf
  unfold fX10_day at h
  refine lv_aload_n hx hb dX10_day_0 rfl (lv_at hl 0 rfl) ?_
  refine lv_iconst (v := (0 : Int32)) hx hb dX10_day_1 (by decide) ?_
  refine va_put (D := (dC, dI)) (ci := 9) (v := .int (0 : Int32)) (ty := .int) (C := RX10) (T := TX10) (N := 29) hx hb hts inX10 tyX10 tyX10_ok nmX10 hown hK hP hD hS 0 rfl rfl 9 (by decide) (hts _ (kq q_995 rfl)) (fun _ h9 => h9) rfl (by decide +kernel) rfl rfl (Nat.le_of_ble_eq_true rfl) dX10_day_2 (fun H locs hP hD hS => ?_)
  have hP : va_P (dC, dI) vwCl [(h_this, .inr (9, [.ref h_this_dayAt, .ref h_this_secondAt, .ref h_this_spans, .ref h_this_kept, .int (i_this 4), .ref h_this_text, .int (i_this 6), .ref h_this_row, .int (i_this 8), .int (0 : Int32), .int (i_this 10), .int (i_this 11), .int (i_this 12), .int (i_this 13), .int (i_this 14), .int (i_this 15), .int (i_this 16), .int (i_this 17), .int (i_this 18), .ref h_this_read, .long (j_this 20), .ref h_this_many, .ref h_this_first, .ref h_this_lengths, .int (i_this 24), .long (j_this 25), .long (j_this 26), .ref h_this_page, .int (i_this 28)]))] H := hP
  have hD : va_D A [(h_this, .inr (9, [.ref h_this_dayAt, .ref h_this_secondAt, .ref h_this_spans, .ref h_this_kept, .int (i_this 4), .ref h_this_text, .int (i_this 6), .ref h_this_row, .int (i_this 8), .int (0 : Int32), .int (i_this 10), .int (i_this 11), .int (i_this 12), .int (i_this 13), .int (i_this 14), .int (i_this 15), .int (i_this 16), .int (i_this 17), .int (i_this 18), .ref h_this_read, .long (j_this 20), .ref h_this_many, .ref h_this_first, .ref h_this_lengths, .int (i_this 24), .long (j_this 25), .long (j_this 26), .ref h_this_page, .int (i_this 28)]))] := hD
  refine lv_iload_n hx hb dX10_day_5 rfl (lv_at hl 1 rfl) ?_
  have hP : va_P (dC, dI) vwCl [cl_X10 h_this h_this_dayAt h_this_secondAt h_this_spans h_this_kept h_this_text h_this_row h_this_read h_this_many h_this_first h_this_lengths h_this_page (upd i_this 9 (0 : Int32)) j_this] H := hP
  have hD : va_D A [cl_X10 h_this h_this_dayAt h_this_secondAt h_this_spans h_this_kept h_this_text h_this_row h_this_read h_this_many h_this_first h_this_lengths h_this_page (upd i_this 9 (0 : Int32)) j_this] := hD
  obtain ⟨r1, hc2, h⟩ := bd1_at h
  refine kjSI (kS0 (own := "DateSpansModel") (As := [.int p1]) (rest := []) ⟨hx, hb, hml, hown, hts⟩ (kX10_isDate l N p1 r1 hc2) (kgS (kq q_1262 rfl) (kq q_1263 rfl) (kq q_66 rfl) (kq q_1264 rfl)) yd_X10_isDate ⟨Nat.le_of_ble_eq_true rfl, Nat.le_of_ble_eq_true rfl⟩ rfl rfl hl.1 rfl (lv_room (Nat.le_of_ble_eq_true rfl)) dX10_day_6) ?_
  refine lv_if_eq (tgt := 34) hx hb dX10_day_9 (by decide) (fun c3 => ?_) (fun c3 => ?_)
  · have h := ite_t c3 h
    refine lv_bipush (v := (-2 : Int32)) hx hb dX10_day_34 (by decide) ?_
    obtain ⟨rfl, rfl⟩ := pj2 h
    exact hEnd _ _ _ _ hP hS dX10_day_36 rfl
  have h := ite_f c3 h
  refine lv_iload_n hx hb dX10_day_12 rfl (lv_at hl 1 rfl) ?_
  refine lv_sipush (v := (10000 : Int32)) hx hb dX10_day_13 (by decide) ?_
  refine lv_idiv hx hb dX10_day_16 (by decide) ?_
  refine lv_iload_n hx hb dX10_day_17 rfl (lv_at hl 1 rfl) ?_
  refine lv_bipush (v := (100 : Int32)) hx hb dX10_day_18 (by decide) ?_
  refine lv_idiv hx hb dX10_day_20 (by decide) ?_
  refine lv_bipush (v := (100 : Int32)) hx hb dX10_day_21 (by decide) ?_
  refine lv_irem hx hb dX10_day_23 (by decide) ?_
  refine lv_iload_n hx hb dX10_day_24 rfl (lv_at hl 1 rfl) ?_
  refine lv_bipush (v := (100 : Int32)) hx hb dX10_day_25 (by decide) ?_
  refine lv_irem hx hb dX10_day_27 (by decide) ?_
  obtain ⟨r4, hc5, h⟩ := bd1_at h
  refine kjSI (kS0 (own := "DateSpansModel") (As := [.int (p1 / (10000 : Int32)), .int ((p1 / (100 : Int32)) - (p1 / (100 : Int32)) / (100 : Int32) * (100 : Int32)), .int (p1 - p1 / (100 : Int32) * (100 : Int32))]) (rest := []) ⟨hx, hb, hml, hown, hts⟩ (kX10_dayOf l N (p1 / (10000 : Int32)) ((p1 / (100 : Int32)) - (p1 / (100 : Int32)) / (100 : Int32) * (100 : Int32)) (p1 - p1 / (100 : Int32) * (100 : Int32)) r4 hc5) (kgS (kq q_1127 rfl) (kq q_1128 rfl) (kq q_66 rfl) (kq q_1129 rfl)) yd_X10_dayOf ⟨Nat.le_of_ble_eq_true rfl, Nat.le_of_ble_eq_true rfl⟩ rfl rfl hl.1 rfl (lv_room (Nat.le_of_ble_eq_true rfl)) dX10_day_28) ?_
  refine lv_goto (tgt := 36) hx hb dX10_day_31 (by decide) ?_
  obtain ⟨rfl, rfl⟩ := pj2 h
  exact hEnd _ _ _ _ hP hS dX10_day_36 rfl
noncomputable def fX10_week (N : Nat) (p1 : Int32) (i_this : Nat → Int32) (j_this : Nat → Int64) (f_this_row : Nat → Int64) : Option (Int32 × (Nat → Int32) × (Nat → Int64)) := (bd1 (fX10_isDay N p1.toInt64) fun r1 => (if r1 = (0 : Int32) then (some ((-1 : Int32), (upd i_this 9 (0 : Int32)), f_this_row)) else (nm ((p1 - (p1 - p1 / (7 : Int32) * (7 : Int32))) + (3 : Int32)) fun z4 => (bd1 (fX10_dates N z4 (upd i_this 9 (0 : Int32)) j_this) fun i_this_5 => (bd2 (fX10_tell N ((i_this_5 10).toInt64) (upd i_this_5 8 (0 : Int32)) j_this f_this_row) fun i_this_7 f_this_row_8 => (bd1 (fX10_yearBegins N (i_this_7 10)) fun r10 => (some ((((z4 - r10) / (7 : Int32)) + (1 : Int32)), i_this_7, f_this_row_8))))))))
set_option maxHeartbeats 4000000 in
set_option maxRecDepth 100000 in
theorem kX10_week (l : Launch) (dC : Nat → ClassId) (dI : Nat → Nat → Nat) (cI cJ cB : ClassId) (h_this h_this_dayAt h_this_secondAt h_this_spans h_this_kept h_this_text h_this_row h_this_read h_this_many h_this_first h_this_lengths h_this_page : Nat) (N : Nat) (p1 : Int32) (i_this : Nat → Int32) (j_this : Nat → Int64) (f_this_row : Nat → Int64) (r : Int32) (o_i_this : Nat → Int32) (o_f_this_row : Nat → Int64) (hf : fX10_week N p1 i_this j_this f_this_row = some (r, o_i_this, o_f_this_row)) : MI l yX10_week (kws yX10_week cX10_week 3 (some .int)) (kR 3 66) (dC, dI) (kT cI cJ cB) [.ref h_this, .int p1] [cl_X10 h_this h_this_dayAt h_this_secondAt h_this_spans h_this_kept h_this_text h_this_row h_this_read h_this_many h_this_first h_this_lengths h_this_page i_this j_this, (h_this_row, .inl (cJ, 16, .inr (.inl f_this_row)))] [cl_X10 h_this h_this_dayAt h_this_secondAt h_this_spans h_this_kept h_this_text h_this_row h_this_read h_this_many h_this_first h_this_lengths h_this_page o_i_this j_this, (h_this_row, .inl (cJ, 16, .inr (.inl o_f_this_row)))] r := by
  refine MI.of (cc := cX10_week) (maxL := 3) (by decide) (Nat.le_of_ble_eq_true rfl) (fun p e s m args below meth c A Q ls KC hN hK hP hD hA hl hEnd => ?_)
  obtain ⟨hx, hb, hml, hown, hts⟩ := KC
  have hown : s.vm.findClass "DateSpansModel" = some m.cls := hown
  have hl : lv_has ls 3 [(0, .ref h_this), (1, .int p1)] := hl
  have hS : va_S A s.heap s.heap [] := va_S.rf
  have h := hf
  unfold fX10_week at h
  refine lv_aload_n hx hb dX10_week_0 rfl (lv_at hl 0 rfl) ?_
  refine lv_iconst (v := (0 : Int32)) hx hb dX10_week_1 (by decide) ?_
  refine va_put (D := (dC, dI)) (ci := 9) (v := .int (0 : Int32)) (ty := .int) (C := RX10) (T := TX10) (N := 29) hx hb hts inX10 tyX10 tyX10_ok nmX10 hown hK hP hD hS 0 rfl rfl 9 (by decide) (hts _ (kq q_995 rfl)) (fun _ h9 => h9) rfl (by decide +kernel) rfl rfl (Nat.le_of_ble_eq_true rfl) dX10_week_2 (fun H locs hP hD hS => ?_)
  have hP : va_P (dC, dI) vwCl [(h_this, .inr (9, [.ref h_this_dayAt, .ref h_this_secondAt, .ref h_this_spans, .ref h_this_kept, .int (i_this 4), .ref h_this_text, .int (i_this 6), .ref h_this_row, .int (i_this 8), .int (0 : Int32), .int (i_this 10), .int (i_this 11), .int (i_this 12), .int (i_this 13), .int (i_this 14), .int (i_this 15), .int (i_this 16), .int (i_this 17), .int (i_this 18), .ref h_this_read, .long (j_this 20), .ref h_this_many, .ref h_this_first, .ref h_this_lengths, .int (i_this 24), .long (j_this 25), .long (j_this 26), .ref h_this_page, .int (i_this 28)])), (h_this_row, .inl (cJ, 16, .inr (.inl f_this_row)))] H := hP
  have hD : va_D A [(h_this, .inr (9, [.ref h_this_dayAt, .ref h_this_secondAt, .ref h_this_spans, .ref h_this_kept, .int (i_this 4), .ref h_this_text, .int (i_this 6), .ref h_this_row, .int (i_this 8), .int (0 : Int32), .int (i_this 10), .int (i_this 11), .int (i_this 12), .int (i_this 13), .int (i_this 14), .int (i_this 15), .int (i_this 16), .int (i_this 17), .int (i_this 18), .ref h_this_read, .long (j_this 20), .ref h_this_many, .ref h_this_first, .ref h_this_lengths, .int (i_this 24), .long (j_this 25), .long (j_this 26), .ref h_this_page, .int (i_this 28)])), (h_this_row, .inl (cJ, 16, .inr (.inl f_this_row)))] := hD
  refine lv_iload_n hx hb dX10_week_5 rfl (lv_at hl 1 rfl) ?_
  refine lv_i2l hx hb dX10_week_6 rfl ?_
  have hP : va_P (dC, dI) vwCl [cl_X10 h_this h_this_dayAt h_this_secondAt h_this_spans h_this_kept h_this_text h_this_row h_this_read h_this_many h_this_first h_this_lengths h_this_page (upd i_this 9 (0 : Int32)) j_this, (h_this_row, .inl (cJ, 16, .inr (.inl f_this_row)))] H := hP
  have hD : va_D A [cl_X10 h_this h_this_dayAt h_this_secondAt h_this_spans h_this_kept h_this_text h_this_row h_this_read h_this_many h_this_first h_this_lengths h_this_page (upd i_this 9 (0 : Int32)) j_this, (h_this_row, .inl (cJ, 16, .inr (.inl f_this_row)))] := hD
  obtain ⟨r1, hc2, h⟩ := bd1_at h
  refine kjSI (kS0 (own := "DateSpansModel") (As := [.long p1.toInt64]) (rest := []) ⟨hx, hb, hml, hown, hts⟩ (kX10_isDay l N p1.toInt64 r1 hc2) (kgS (kq q_1148 rfl) (kq q_1149 rfl) (kq q_66 rfl) (kq q_1150 rfl)) yd_X10_isDay ⟨Nat.le_of_ble_eq_true rfl, Nat.le_of_ble_eq_true rfl⟩ rfl rfl hl.1 rfl (lv_room (Nat.le_of_ble_eq_true rfl)) dX10_week_7) ?_
  refine lv_if_ne (tgt := 15) hx hb dX10_week_10 (by decide) (fun c3 => ?_) (fun c3 => ?_)
  · have h := ite_f c3 h
    refine lv_iload_n hx hb dX10_week_15 rfl (lv_at hl 1 rfl) ?_
    refine lv_iload_n hx hb dX10_week_16 rfl (lv_at hl 1 rfl) ?_
    refine lv_bipush (v := (7 : Int32)) hx hb dX10_week_17 (by decide) ?_
    refine lv_irem hx hb dX10_week_19 (by decide) ?_
    refine lv_isub hx hb dX10_week_20 ?_
    refine lv_iconst (v := (3 : Int32)) hx hb dX10_week_21 (by decide) ?_
    refine lv_iadd hx hb dX10_week_22 ?_
    refine lv_topi (fun z4 ez4 => ?_)
    have h := nm_at ez4 h
    refine lv_istore_n (lv' := [(2, .int z4), (0, .ref h_this), (1, .int p1)]) hx hb dX10_week_23 rfl hl (by decide) rfl (fun ls hl => ?_)
    refine lv_aload_n hx hb dX10_week_24 rfl (lv_at hl 1 rfl) ?_
    refine lv_iload_n hx hb dX10_week_25 rfl (lv_at hl 0 rfl) ?_
    obtain ⟨i_this_5, hc6, h⟩ := bd1_at h
    refine kjV (kV (own := "DateSpansModel") (C := "DateSpansModel") (b := h_this) (As := [.int z4]) (rest := []) ⟨hx, hb, hml, hown, hts⟩ (kX10_dates l dC dI cI cJ cB h_this h_this_dayAt h_this_secondAt h_this_spans h_this_kept h_this_text h_this_row h_this_read h_this_many h_this_first h_this_lengths h_this_page N z4 (upd i_this 9 (0 : Int32)) j_this i_this_5 hc6 _) (kgV (kq q_1238 rfl) (kq q_1240 rfl) (kq q_30 rfl) (kq q_66 rfl) (kq q_1241 rfl)) yd_X10_dates ⟨Nat.le_of_ble_eq_true rfl, Nat.le_of_ble_eq_true rfl⟩ hN hK hP hD [0] rfl rfl (ci := 9) rfl rfl rfl rfl rfl hl.1 rfl (lv_room (Nat.le_of_ble_eq_true rfl)) dX10_week_26) hP hD hS hA [0] rfl rfl (fun H locs hP hD hS => ?_)
    have hP : va_P (dC, dI) vwCl [cl_X10 h_this h_this_dayAt h_this_secondAt h_this_spans h_this_kept h_this_text h_this_row h_this_read h_this_many h_this_first h_this_lengths h_this_page i_this_5 j_this, (h_this_row, .inl (cJ, 16, .inr (.inl f_this_row)))] H := hP
    have hD : va_D A [cl_X10 h_this h_this_dayAt h_this_secondAt h_this_spans h_this_kept h_this_text h_this_row h_this_read h_this_many h_this_first h_this_lengths h_this_page i_this_5 j_this, (h_this_row, .inl (cJ, 16, .inr (.inl f_this_row)))] := hD
    refine lv_aload_n hx hb dX10_week_29 rfl (lv_at hl 1 rfl) ?_
    refine lv_iconst (v := (0 : Int32)) hx hb dX10_week_30 (by decide) ?_
    refine va_put (D := (dC, dI)) (ci := 9) (v := .int (0 : Int32)) (ty := .int) (C := RX10) (T := TX10) (N := 29) hx hb hts inX10 tyX10 tyX10_ok nmX10 hown hK hP hD hS 0 rfl rfl 8 (by decide) (hts _ (kq q_994 rfl)) (fun _ h9 => h9) rfl (by decide +kernel) rfl rfl (Nat.le_of_ble_eq_true rfl) dX10_week_31 (fun H locs hP hD hS => ?_)
    have hP : va_P (dC, dI) vwCl [(h_this, .inr (9, [.ref h_this_dayAt, .ref h_this_secondAt, .ref h_this_spans, .ref h_this_kept, .int (i_this_5 4), .ref h_this_text, .int (i_this_5 6), .ref h_this_row, .int (0 : Int32), .int (i_this_5 9), .int (i_this_5 10), .int (i_this_5 11), .int (i_this_5 12), .int (i_this_5 13), .int (i_this_5 14), .int (i_this_5 15), .int (i_this_5 16), .int (i_this_5 17), .int (i_this_5 18), .ref h_this_read, .long (j_this 20), .ref h_this_many, .ref h_this_first, .ref h_this_lengths, .int (i_this_5 24), .long (j_this 25), .long (j_this 26), .ref h_this_page, .int (i_this_5 28)])), (h_this_row, .inl (cJ, 16, .inr (.inl f_this_row)))] H := hP
    have hD : va_D A [(h_this, .inr (9, [.ref h_this_dayAt, .ref h_this_secondAt, .ref h_this_spans, .ref h_this_kept, .int (i_this_5 4), .ref h_this_text, .int (i_this_5 6), .ref h_this_row, .int (0 : Int32), .int (i_this_5 9), .int (i_this_5 10), .int (i_this_5 11), .int (i_this_5 12), .int (i_this_5 13), .int (i_this_5 14), .int (i_this_5 15), .int (i_this_5 16), .int (i_this_5 17), .int (i_this_5 18), .ref h_this_read, .long (j_this 20), .ref h_this_many, .ref h_this_first, .ref h_this_lengths, .int (i_this_5 24), .long (j_this 25), .long (j_this 26), .ref h_this_page, .int (i_this_5 28)])), (h_this_row, .inl (cJ, 16, .inr (.inl f_this_row)))] := hD
    refine lv_aload_n hx hb dX10_week_34 rfl (lv_at hl 1 rfl) ?_
    refine lv_aload_n hx hb dX10_week_35 rfl (lv_at hl 1 rfl) ?_
    refine va_get (D := (dC, dI)) (ci := 9) (v := .int (i_this_5 10)) (C := RX10) (T := TX10) (N := 29) hx hb hts inX10 hown hK hP 0 rfl rfl 10 (by decide) (hts _ (kq q_996 rfl)) (fun _ h9 => h9) rfl dX10_week_36 ?_
    refine lv_i2l hx hb dX10_week_39 rfl ?_
    have hP : va_P (dC, dI) vwCl [cl_X10 h_this h_this_dayAt h_this_secondAt h_this_spans h_this_kept h_this_text h_this_row h_this_read h_this_many h_this_first h_this_lengths h_this_page (upd i_this_5 8 (0 : Int32)) j_this, (h_this_row, .inl (cJ, 16, .inr (.inl f_this_row)))] H := hP
    have hD : va_D A [cl_X10 h_this h_this_dayAt h_this_secondAt h_this_spans h_this_kept h_this_text h_this_row h_this_read h_this_many h_this_first h_this_lengths h_this_page (upd i_this_5 8 (0 : Int32)) j_this, (h_this_row, .inl (cJ, 16, .inr (.inl f_this_row)))] := hD
    obtain ⟨i_this_7, f_this_row_8, hc9, h⟩ := bd2_at h
    refine kjV (kV (own := "DateSpansModel") (C := "DateSpansModel") (b := h_this) (As := [.long ((i_this_5 10).toInt64)]) (rest := []) ⟨hx, hb, hml, hown, hts⟩ (kX10_tell l dC dI cI cJ cB h_this h_this_dayAt h_this_secondAt h_this_spans h_this_kept h_this_text h_this_row h_this_read h_this_many h_this_first h_this_lengths h_this_page N ((i_this_5 10).toInt64) (upd i_this_5 8 (0 : Int32)) j_this f_this_row i_this_7 f_this_row_8 hc9 _) (kgV (kq q_1221 rfl) (kq q_1223 rfl) (kq q_29 rfl) (kq q_66 rfl) (kq q_1224 rfl)) yd_X10_tell ⟨Nat.le_of_ble_eq_true rfl, Nat.le_of_ble_eq_true rfl⟩ hN hK hP hD [0, 1] rfl rfl (ci := 9) rfl rfl rfl rfl rfl hl.1 rfl (lv_room (Nat.le_of_ble_eq_true rfl)) dX10_week_40) hP hD hS hA [0, 1] rfl rfl (fun H locs hP hD hS => ?_)
    have hP : va_P (dC, dI) vwCl [cl_X10 h_this h_this_dayAt h_this_secondAt h_this_spans h_this_kept h_this_text h_this_row h_this_read h_this_many h_this_first h_this_lengths h_this_page i_this_7 j_this, (h_this_row, .inl (cJ, 16, .inr (.inl f_this_row_8)))] H := hP
    have hD : va_D A [cl_X10 h_this h_this_dayAt h_this_secondAt h_this_spans h_this_kept h_this_text h_this_row h_this_read h_this_many h_this_first h_this_lengths h_this_page i_this_7 j_this, (h_this_row, .inl (cJ, 16, .inr (.inl f_this_row_8)))] := hD
    refine lv_iload_n hx hb dX10_week_43 rfl (lv_at hl 0 rfl) ?_
    refine lv_aload_n hx hb dX10_week_44 rfl (lv_at hl 1 rfl) ?_
    refine va_get (D := (dC, dI)) (ci := 9) (v := .int (i_this_7 10)) (C := RX10) (T := TX10) (N := 29) hx hb hts inX10 hown hK hP 0 rfl rfl 10 (by decide) (hts _ (kq q_996 rfl)) (fun _ h9 => h9) rfl dX10_week_45 ?_
    obtain ⟨r10, hc11, h⟩ := bd1_at h
    refine kjSI (kS0 (own := "DateSpansModel") (As := [.int (i_this_7 10)]) (rest := [.int z4]) ⟨hx, hb, hml, hown, hts⟩ (kX10_yearBegins l N (i_this_7 10) r10 hc11) (kgS (kq q_1130 rfl) (kq q_1131 rfl) (kq q_66 rfl) (kq q_1132 rfl)) yd_X10_yearBegins ⟨Nat.le_of_ble_eq_true rfl, Nat.le_of_ble_eq_true rfl⟩ rfl rfl hl.1 rfl (lv_room (Nat.le_of_ble_eq_true rfl)) dX10_week_48) ?_
    refine lv_isub hx hb dX10_week_51 ?_
    refine lv_bipush (v := (7 : Int32)) hx hb dX10_week_52 (by decide) ?_
    refine lv_idiv hx hb dX10_week_54 (by decide) ?_
    refine lv_iconst (v := (1 : Int32)) hx hb dX10_week_55 (by decide) ?_
    refine lv_iadd hx hb dX10_week_56 ?_
    obtain ⟨rfl, rfl, rfl⟩ := pj3 h
    exact hEnd _ _ _ _ hP hS dX10_week_57 rfl
  have h := ite_t c3 h
  refine lv_iconst (v := (-1 : Int32)) hx hb dX10_week_13 (by decide) ?_
  obtain ⟨rfl, rfl, rfl⟩ := pj3 h
  exact hEnd _ _ _ _ hP hS dX10_week_14 rfl
noncomputable def fX10_isLaw (N : Nat) (p1 : Int32) : Option (Int32) := (bd1 (fX10_in N p1.toInt64 (0 : Int64) (3 : Int64)) fun r1 => (gz r1 (some r1)))
set_option maxHeartbeats 4000000 in
set_option maxRecDepth 100000 in
theorem kX10_isLaw (l : Launch) (N : Nat) (p1 : Int32) (r : Int32) (hf : fX10_isLaw N p1 = some r) : SI l yX10_isLaw (kws yX10_isLaw cX10_isLaw 1 (some .boolean)) (kR 1 25) [.int p1] r := by
  refine SI.of (cc := cX10_isLaw) (maxL := 1) (by decide) (Nat.le_of_ble_eq_true rfl) (fun p e s m args below meth c Q ls KC hl hEnd => ?_)
  obtain ⟨hx, hb, hml, hown, hts⟩ := KC
  have hown : s.vm.findClass "DateSpansModel" = some m.cls := hown
  have hl : lv_has ls 1 [(0, .int p1)] := hl
  have h := hf
  unfold fX10_isLaw at h
  refine lv_iload_n hx hb dX10_isLaw_0 rfl (lv_at hl 0 rfl) ?_
  refine lv_i2l hx hb dX10_isLaw_1 rfl ?_
  refine lv_lconst (v := (0 : Int64)) hx hb dX10_isLaw_2 (by decide) ?_
  refine lv_ldc2 (v := (3 : Int64)) hx hb hown (hts _ (kq q_1278 rfl)) dX10_isLaw_3 ?_
  obtain ⟨r1, hc2, h⟩ := bd1_at h
  refine kjSI (kS0 (own := "DateSpansModel") (As := [.long p1.toInt64, .long (0 : Int64), .long (3 : Int64)]) (rest := []) ⟨hx, hb, hml, hown, hts⟩ (kX10_in l N p1.toInt64 (0 : Int64) (3 : Int64) r1 hc2) (kgS (kq q_1086 rfl) (kq q_1087 rfl) (kq q_66 rfl) (kq q_1088 rfl)) yd_X10_in ⟨Nat.le_of_ble_eq_true rfl, Nat.le_of_ble_eq_true rfl⟩ rfl rfl hl.1 rfl (lv_room (Nat.le_of_ble_eq_true rfl)) dX10_isLaw_6) ?_
  obtain ⟨hz3, h⟩ := gz_at h
  obtain rfl := pj1 h
  exact hEnd _ _ dX10_isLaw_9 hz3
noncomputable def fX10_isOrder (N : Nat) (p1 : Int32) : Option (Int32) := (bd1 (fX10_in N p1.toInt64 (0 : Int64) (1 : Int64)) fun r1 => (gz r1 (some r1)))
set_option maxHeartbeats 4000000 in
set_option maxRecDepth 100000 in
theorem kX10_isOrder (l : Launch) (N : Nat) (p1 : Int32) (r : Int32) (hf : fX10_isOrder N p1 = some r) : SI l yX10_isOrder (kws yX10_isOrder cX10_isOrder 1 (some .boolean)) (kR 1 25) [.int p1] r := by
  refine SI.of (cc := cX10_isOrder) (maxL := 1) (by decide) (Nat.le_of_ble_eq_true rfl) (fun p e s m args below meth c Q ls KC hl hEnd => ?_)
  obtain ⟨hx, hb, hml, hown, hts⟩ := KC
  have hown : s.vm.findClass "DateSpansModel" = some m.cls := hown
  have hl : lv_has ls 1 [(0, .int p1)] := hl
  have h := hf
  unfold fX10_isOrder at h
  refine lv_iload_n hx hb dX10_isOrder_0 rfl (lv_at hl 0 rfl) ?_
  refine lv_i2l hx hb dX10_isOrder_1 rfl ?_
  refine lv_lconst (v := (0 : Int64)) hx hb dX10_isOrder_2 (by decide) ?_
  refine lv_lconst (v := (1 : Int64)) hx hb dX10_isOrder_3 (by decide) ?_
  obtain ⟨r1, hc2, h⟩ := bd1_at h
  refine kjSI (kS0 (own := "DateSpansModel") (As := [.long p1.toInt64, .long (0 : Int64), .long (1 : Int64)]) (rest := []) ⟨hx, hb, hml, hown, hts⟩ (kX10_in l N p1.toInt64 (0 : Int64) (1 : Int64) r1 hc2) (kgS (kq q_1086 rfl) (kq q_1087 rfl) (kq q_66 rfl) (kq q_1088 rfl)) yd_X10_in ⟨Nat.le_of_ble_eq_true rfl, Nat.le_of_ble_eq_true rfl⟩ rfl rfl hl.1 rfl (lv_room (Nat.le_of_ble_eq_true rfl)) dX10_isOrder_4) ?_
  obtain ⟨hz3, h⟩ := gz_at h
  obtain rfl := pj1 h
  exact hEnd _ _ dX10_isOrder_7 hz3
noncomputable def fX10_standsAt (N : Nat) (p1 : Int32) (i_this : Nat → Int32) (j_this : Nat → Int64) (f_this_dayAt : Nat → Int32) (f_this_secondAt : Nat → Int32) : Option ((Nat → Int32)) := (gi p1 8 (gi p1 8 (bd1 (fX10_stands N (f_this_dayAt p1.toNatClampNeg) (f_this_secondAt p1.toNatClampNeg) i_this j_this) fun i_this_3 => (some i_this_3))))
set_option maxHeartbeats 4000000 in
set_option maxRecDepth 100000 in
theorem kX10_standsAt (l : Launch) (dC : Nat → ClassId) (dI : Nat → Nat → Nat) (cI cJ cB : ClassId) (h_this h_this_dayAt h_this_secondAt h_this_spans h_this_kept h_this_text h_this_row h_this_read h_this_many h_this_first h_this_lengths h_this_page : Nat) (N : Nat) (p1 : Int32) (i_this : Nat → Int32) (j_this : Nat → Int64) (f_this_dayAt : Nat → Int32) (f_this_secondAt : Nat → Int32) (o_i_this : Nat → Int32) (hf : fX10_standsAt N p1 i_this j_this f_this_dayAt f_this_secondAt = some o_i_this) : MV l yX10_standsAt (kws yX10_standsAt cX10_standsAt 2 (none)) (kR 1 22) (dC, dI) (kT cI cJ cB) [.ref h_this, .int p1] [cl_X10 h_this h_this_dayAt h_this_secondAt h_this_spans h_this_kept h_this_text h_this_row h_this_read h_this_many h_this_first h_this_lengths h_this_page i_this j_this, (h_this_dayAt, .inl (cI, 8, .inl f_this_dayAt)), (h_this_secondAt, .inl (cI, 8, .inl f_this_secondAt))] [cl_X10 h_this h_this_dayAt h_this_secondAt h_this_spans h_this_kept h_this_text h_this_row h_this_read h_this_many h_this_first h_this_lengths h_this_page o_i_this j_this, (h_this_dayAt, .inl (cI, 8, .inl f_this_dayAt)), (h_this_secondAt, .inl (cI, 8, .inl f_this_secondAt))] := by
  refine MV.of (cc := cX10_standsAt) (maxL := 2) (by decide) (Nat.le_of_ble_eq_true rfl) (fun p e s m args below meth c A Q ls KC hN hK hP hD hA hl hEnd => ?_)
  obtain ⟨hx, hb, hml, hown, hts⟩ := KC
  have hown : s.vm.findClass "DateSpansModel" = some m.cls := hown
  have hl : lv_has ls 2 [(0, .ref h_this), (1, .int p1)] := hl
  have hS : va_S A s.heap s.heap [] := va_S.rf
  have h := hf
  unfold fX10_standsAt at h
  refine lv_aload_n hx hb dX10_standsAt_0 rfl (lv_at hl 0 rfl) ?_
  refine lv_aload_n hx hb dX10_standsAt_1 rfl (lv_at hl 0 rfl) ?_
  refine va_get (D := (dC, dI)) (ci := 9) (v := .ref h_this_dayAt) (C := RX10) (T := TX10) (N := 29) hx hb hts inX10 hown hK hP 0 rfl rfl 0 (by decide) (hts _ (kq q_986 rfl)) (fun _ h9 => h9) rfl dX10_standsAt_2 ?_
  refine lv_iload_n hx hb dX10_standsAt_5 rfl (lv_at hl 1 rfl) ?_
  obtain ⟨hi1, h⟩ := gi_at h
  refine va_iald hx hb hK hP 1 0 rfl rfl hi1 dX10_standsAt_6 ?_
  refine lv_aload_n hx hb dX10_standsAt_7 rfl (lv_at hl 0 rfl) ?_
  refine va_get (D := (dC, dI)) (ci := 9) (v := .ref h_this_secondAt) (C := RX10) (T := TX10) (N := 29) hx hb hts inX10 hown hK hP 0 rfl rfl 1 (by decide) (hts _ (kq q_987 rfl)) (fun _ h9 => h9) rfl dX10_standsAt_8 ?_
  refine lv_iload_n hx hb dX10_standsAt_11 rfl (lv_at hl 1 rfl) ?_
  obtain ⟨hi2, h⟩ := gi_at h
  refine va_iald hx hb hK hP 2 0 rfl rfl hi2 dX10_standsAt_12 ?_
  obtain ⟨i_this_3, hc4, h⟩ := bd1_at h
  refine kjV (kV (own := "DateSpansModel") (C := "DateSpansModel") (b := h_this) (As := [.int (f_this_dayAt p1.toNatClampNeg), .int (f_this_secondAt p1.toNatClampNeg)]) (rest := []) ⟨hx, hb, hml, hown, hts⟩ (kX10_stands l dC dI cI cJ cB h_this h_this_dayAt h_this_secondAt h_this_spans h_this_kept h_this_text h_this_row h_this_read h_this_many h_this_first h_this_lengths h_this_page N (f_this_dayAt p1.toNatClampNeg) (f_this_secondAt p1.toNatClampNeg) i_this j_this i_this_3 hc4 _) (kgV (kq q_1136 rfl) (kq q_1138 rfl) (kq q_24 rfl) (kq q_66 rfl) (kq q_1139 rfl)) yd_X10_stands ⟨Nat.le_of_ble_eq_true rfl, Nat.le_of_ble_eq_true rfl⟩ hN hK hP hD [0] rfl rfl (ci := 9) rfl rfl rfl rfl rfl hl.1 rfl (lv_room (Nat.le_of_ble_eq_true rfl)) dX10_standsAt_13) hP hD hS hA [0] rfl rfl (fun H locs hP hD hS => ?_)
  have hP : va_P (dC, dI) vwCl [cl_X10 h_this h_this_dayAt h_this_secondAt h_this_spans h_this_kept h_this_text h_this_row h_this_read h_this_many h_this_first h_this_lengths h_this_page i_this_3 j_this, (h_this_dayAt, .inl (cI, 8, .inl f_this_dayAt)), (h_this_secondAt, .inl (cI, 8, .inl f_this_secondAt))] H := hP
  have hD : va_D A [cl_X10 h_this h_this_dayAt h_this_secondAt h_this_spans h_this_kept h_this_text h_this_row h_this_read h_this_many h_this_first h_this_lengths h_this_page i_this_3 j_this, (h_this_dayAt, .inl (cI, 8, .inl f_this_dayAt)), (h_this_secondAt, .inl (cI, 8, .inl f_this_secondAt))] := hD
  obtain rfl := pj1 h
  exact hEnd _ _ _ _ hP hS dX10_standsAt_16
noncomputable def fX10_addsMonths_j192 (N : Nat) (j_this : Nat → Int64) (t0 : Int32) (t1 : Int32) (i_this : Nat → Int32) : Option (Int32 × (Nat → Int32)) := (nm (t1 + t0) fun z1 => (bd1 (fX10_isDay N z1.toInt64) fun r2 => (if r2 = (0 : Int32) then (some ((0 : Int32), i_this)) else (some ((1 : Int32), (upd i_this 13 z1))))))
noncomputable def fX10_addsMonths_j170 (N : Nat) (j_this : Nat → Int64) (v3 : Int32) (v6 : Int32) (v7 : Int32) (v10 : Int32) (i_this : Nat → Int32) : Option (Int32 × (Nat → Int32)) := (bd1 (fX10_dayOf N v6 v7 v10) fun r5 => (if v3 = (1 : Int32) then (fX10_addsMonths_j192 N j_this (i_this 15) r5 i_this) else (fX10_addsMonths_j192 N j_this (0 : Int32) r5 i_this)))
noncomputable def fX10_addsMonths_j145 (N : Nat) (j_this : Nat → Int64) (v3 : Int32) (v6 : Int32) (v7 : Int32) (v8 : Int32) (v9 : Int32) (i_this : Nat → Int32) : Option (Int32 × (Nat → Int32)) := (nm (if v8 < (i_this 12) then v8 else (i_this 12)) fun z8 => (if v3 = (2 : Int32) then (if v9 = (0 : Int32) then (fX10_addsMonths_j170 N j_this v3 v6 v7 z8 i_this) else (fX10_addsMonths_j170 N j_this v3 v6 v7 v8 i_this)) else (fX10_addsMonths_j170 N j_this v3 v6 v7 z8 i_this)))
noncomputable def fX10_addsMonths_j114 (N : Nat) (j_this : Nat → Int64) (v3 : Int32) (v6 : Int32) (v7 : Int32) (v8 : Int32) (t0 : Int32) (i_this : Nat → Int32) : Option (Int32 × (Nat → Int32)) := (nm (if (0 : Int32) < ((i_this 12) - v8) then ((i_this 12) - v8) else (0 : Int32)) fun z11 => (if z11 ≤ (0 : Int32) then (fX10_addsMonths_j145 N j_this v3 v6 v7 v8 t0 (upd i_this 15 z11)) else (if v3 = (3 : Int32) then (some ((0 : Int32), (upd i_this 15 z11))) else (fX10_addsMonths_j145 N j_this v3 v6 v7 v8 t0 (upd i_this 15 z11)))))
noncomputable def fX10_addsMonths (N : Nat) (p1 : Int64) (p2 : Int32) (i_this : Nat → Int32) (j_this : Nat → Int64) : Option (Int32 × (Nat → Int32)) := (if (lg_cmp p1 (0 : Int64)) = (0 : Int32) then (some ((1 : Int32), (upd i_this 15 (0 : Int32)))) else (bd1 (fX10_dates N (i_this 13) (upd i_this 15 (0 : Int32)) j_this) fun i_this_15 => (nm (((((12 : Int64) * (i_this_15 10).toInt64) + (i_this_15 11).toInt64) - (1 : Int64)) + p1) fun z17 => (if (lg_cmp z17 (12 : Int64)) < (0 : Int32) then (some ((0 : Int32), i_this_15)) else (if (lg_cmp z17 (120000 : Int64)) < (0 : Int32) then (nm ((z17 / (12 : Int64)).toInt32) fun z20 => (nm ((z17 - z17 / (12 : Int64) * (12 : Int64)).toInt32 + (1 : Int32)) fun z21 => (bd1 (fX10_monthDays N z20 z21) fun r22 => (bd1 (fX10_monthDays N (i_this_15 10) (i_this_15 11)) fun r24 => (if (i_this_15 12) = r24 then (fX10_addsMonths_j114 N j_this p2 z20 z21 r22 (1 : Int32) i_this_15) else (fX10_addsMonths_j114 N j_this p2 z20 z21 r22 (0 : Int32) i_this_15)))))) else (some ((0 : Int32), i_this_15)))))))
set_option maxHeartbeats 4000000 in
set_option maxRecDepth 100000 in
theorem kX10_addsMonths (l : Launch) (dC : Nat → ClassId) (dI : Nat → Nat → Nat) (cI cJ cB : ClassId) (h_this h_this_dayAt h_this_secondAt h_this_spans h_this_kept h_this_text h_this_row h_this_read h_this_many h_this_first h_this_lengths h_this_page : Nat) (N : Nat) (p1 : Int64) (p2 : Int32) (i_this : Nat → Int32) (j_this : Nat → Int64) (r : Int32) (o_i_this : Nat → Int32) (hf : fX10_addsMonths N p1 p2 i_this j_this = some (r, o_i_this)) : MI l yX10_addsMonths (kws yX10_addsMonths cX10_addsMonths 12 (some .boolean)) (kR 3 66) (dC, dI) (kT cI cJ cB) [.ref h_this, .long p1, .int p2] [cl_X10 h_this h_this_dayAt h_this_secondAt h_this_spans h_this_kept h_this_text h_this_row h_this_read h_this_many h_this_first h_this_lengths h_this_page i_this j_this] [cl_X10 h_this h_this_dayAt h_this_secondAt h_this_spans h_this_kept h_this_text h_this_row h_this_read h_this_many h_this_first h_this_lengths h_this_page o_i_this j_this] r := by
  refine MI.of (cc := cX10_addsMonths) (maxL := 12) (by decide) (Nat.le_of_ble_eq_true rfl) (fun p e s m args below meth c A Q ls KC hN hK hP hD hA hl hEnd => ?_)
  obtain ⟨hx, hb, hml, hown, hts⟩ := KC
  have hown : s.vm.findClass "DateSpansModel" = some m.cls := hown
  have hl : lv_has ls 12 [(0, .ref h_this), (1, .long p1), (3, .int p2)] := hl
  have hS : va_S A s.heap s.heap [] := va_S.rf
  have JN_192 : ∀ (t0 : Int32) (t1 : Int32) (i_this : Nat → Int32) (ls : Array Slot) (H : Heap) (locs : List Loc), (fX10_addsMonths_j192 N j_this) t0 t1 i_this = some (r, o_i_this) → lv_has ls 12 [(0, .ref h_this)] → va_P (dC, dI) vwCl [cl_X10 h_this h_this_dayAt h_this_secondAt h_this_spans h_this_kept h_this_text h_this_row h_this_read h_this_many h_this_first h_this_lengths h_this_page i_this j_this] H → va_D A [cl_X10 h_this h_this_dayAt h_this_secondAt h_this_spans h_this_kept h_this_text h_this_row h_this_read h_this_many h_this_first h_this_lengths h_this_page i_this j_this] → va_S A s.heap H locs → W p l e (kR 3 66) s m args below meth c H locs 0 0 Q (F0 m 192 ls [.int t0, .int t1]) := by
    intro t0 t1 i_this ls H locs h hl hP hD hS
    unfold fX10_addsMonths_j192 at h
    refine lv_iadd hx hb dX10_addsMonths_192 ?_
    refine lv_topi (fun z1 ez1 => ?_)
    have h := nm_at ez1 h
    refine lv_istore (lv' := [(11, .int z1), (0, .ref h_this)]) hx hb dX10_addsMonths_193 hl (by decide) rfl (fun ls hl => ?_)
    refine lv_iload hx hb dX10_addsMonths_195 (lv_at hl 0 rfl) ?_
    refine lv_i2l hx hb dX10_addsMonths_197 rfl ?_
    obtain ⟨r2, hc3, h⟩ := bd1_at h
    refine kjSI (kS0 (own := "DateSpansModel") (As := [.long z1.toInt64]) (rest := []) ⟨hx, hb, hml, hown, hts⟩ (kX10_isDay l N z1.toInt64 r2 hc3) (kgS (kq q_1148 rfl) (kq q_1149 rfl) (kq q_66 rfl) (kq q_1150 rfl)) yd_X10_isDay ⟨Nat.le_of_ble_eq_true rfl, Nat.le_of_ble_eq_true rfl⟩ rfl rfl hl.1 rfl (lv_room (Nat.le_of_ble_eq_true rfl)) dX10_addsMonths_198) ?_
    refine lv_if_ne (tgt := 206) hx hb dX10_addsMonths_201 (by decide) (fun c4 => ?_) (fun c4 => ?_)
    · have h := ite_f c4 h
      refine lv_aload_n hx hb dX10_addsMonths_206 rfl (lv_at hl 1 rfl) ?_
      refine lv_iload hx hb dX10_addsMonths_207 (lv_at hl 0 rfl) ?_
      refine va_put (D := (dC, dI)) (ci := 9) (v := .int z1) (ty := .int) (C := RX10) (T := TX10) (N := 29) hx hb hts inX10 tyX10 tyX10_ok nmX10 hown hK hP hD hS 0 rfl rfl 13 (by decide) (hts _ (kq q_999 rfl)) (fun _ h9 => h9) rfl (by decide +kernel) rfl rfl (Nat.le_of_ble_eq_true rfl) dX10_addsMonths_209 (fun H locs hP hD hS => ?_)
      have hP : va_P (dC, dI) vwCl [(h_this, .inr (9, [.ref h_this_dayAt, .ref h_this_secondAt, .ref h_this_spans, .ref h_this_kept, .int (i_this 4), .ref h_this_text, .int (i_this 6), .ref h_this_row, .int (i_this 8), .int (i_this 9), .int (i_this 10), .int (i_this 11), .int (i_this 12), .int z1, .int (i_this 14), .int (i_this 15), .int (i_this 16), .int (i_this 17), .int (i_this 18), .ref h_this_read, .long (j_this 20), .ref h_this_many, .ref h_this_first, .ref h_this_lengths, .int (i_this 24), .long (j_this 25), .long (j_this 26), .ref h_this_page, .int (i_this 28)]))] H := hP
      have hD : va_D A [(h_this, .inr (9, [.ref h_this_dayAt, .ref h_this_secondAt, .ref h_this_spans, .ref h_this_kept, .int (i_this 4), .ref h_this_text, .int (i_this 6), .ref h_this_row, .int (i_this 8), .int (i_this 9), .int (i_this 10), .int (i_this 11), .int (i_this 12), .int z1, .int (i_this 14), .int (i_this 15), .int (i_this 16), .int (i_this 17), .int (i_this 18), .ref h_this_read, .long (j_this 20), .ref h_this_many, .ref h_this_first, .ref h_this_lengths, .int (i_this 24), .long (j_this 25), .long (j_this 26), .ref h_this_page, .int (i_this 28)]))] := hD
      refine lv_iconst (v := (1 : Int32)) hx hb dX10_addsMonths_212 (by decide) ?_
      have hP : va_P (dC, dI) vwCl [cl_X10 h_this h_this_dayAt h_this_secondAt h_this_spans h_this_kept h_this_text h_this_row h_this_read h_this_many h_this_first h_this_lengths h_this_page (upd i_this 13 z1) j_this] H := hP
      have hD : va_D A [cl_X10 h_this h_this_dayAt h_this_secondAt h_this_spans h_this_kept h_this_text h_this_row h_this_read h_this_many h_this_first h_this_lengths h_this_page (upd i_this 13 z1) j_this] := hD
      obtain ⟨rfl, rfl⟩ := pj2 h
      exact hEnd _ _ _ _ hP hS dX10_addsMonths_213 rfl
    have h := ite_t c4 h
    refine lv_iconst (v := (0 : Int32)) hx hb dX10_addsMonths_204 (by decide) ?_
    obtain ⟨rfl, rfl⟩ := pj2 h
    exact hEnd _ _ _ _ hP hS dX10_addsMonths_205 rfl
  have JN_170 : ∀ (v3 : Int32) (v6 : Int32) (v7 : Int32) (v10 : Int32) (i_this : Nat → Int32) (ls : Array Slot) (H : Heap) (locs : List Loc), (fX10_addsMonths_j170 N j_this) v3 v6 v7 v10 i_this = some (r, o_i_this) → lv_has ls 12 [(0, .ref h_this), (3, .int v3), (6, .int v6), (7, .int v7), (10, .int v10)] → va_P (dC, dI) vwCl [cl_X10 h_this h_this_dayAt h_this_secondAt h_this_spans h_this_kept h_this_text h_this_row h_this_read h_this_many h_this_first h_this_lengths h_this_page i_this j_this] H → va_D A [cl_X10 h_this h_this_dayAt h_this_secondAt h_this_spans h_this_kept h_this_text h_this_row h_this_read h_this_many h_this_first h_this_lengths h_this_page i_this j_this] → va_S A s.heap H locs → W p l e (kR 3 66) s m args below meth c H locs 0 0 Q (F0 m 170 ls []) := by
    intro v3 v6 v7 v10 i_this ls H locs h hl hP hD hS
    unfold fX10_addsMonths_j170 at h
    refine lv_iload hx hb dX10_addsMonths_170 (lv_at hl 2 rfl) ?_
    refine lv_iload hx hb dX10_addsMonths_172 (lv_at hl 3 rfl) ?_
    refine lv_iload hx hb dX10_addsMonths_174 (lv_at hl 4 rfl) ?_
    obtain ⟨r5, hc6, h⟩ := bd1_at h
    refine kjSI (kS0 (own := "DateSpansModel") (As := [.int v6, .int v7, .int v10]) (rest := []) ⟨hx, hb, hml, hown, hts⟩ (kX10_dayOf l N v6 v7 v10 r5 hc6) (kgS (kq q_1127 rfl) (kq q_1128 rfl) (kq q_66 rfl) (kq q_1129 rfl)) yd_X10_dayOf ⟨Nat.le_of_ble_eq_true rfl, Nat.le_of_ble_eq_true rfl⟩ rfl rfl hl.1 rfl (lv_room (Nat.le_of_ble_eq_true rfl)) dX10_addsMonths_176) ?_
    refine lv_iload_n hx hb dX10_addsMonths_179 rfl (lv_at hl 1 rfl) ?_
    refine lv_iconst (v := (1 : Int32)) hx hb dX10_addsMonths_180 (by decide) ?_
    refine lv_icmp_ne (tgt := 191) hx hb dX10_addsMonths_181 (by decide) (fun c7 => ?_) (fun c7 => ?_)
    · have h := ite_f c7 h
      refine lv_iconst (v := (0 : Int32)) hx hb dX10_addsMonths_191 (by decide) ?_
      exact JN_192 _ _ _ _ _ _ h (lv_sub hl [0] rfl) hP hD hS
    have h := ite_t c7 h
    refine lv_aload_n hx hb dX10_addsMonths_184 rfl (lv_at hl 0 rfl) ?_
    refine va_get (D := (dC, dI)) (ci := 9) (v := .int (i_this 15)) (C := RX10) (T := TX10) (N := 29) hx hb hts inX10 hown hK hP 0 rfl rfl 15 (by decide) (hts _ (kq q_1001 rfl)) (fun _ h9 => h9) rfl dX10_addsMonths_185 ?_
    refine lv_goto (tgt := 192) hx hb dX10_addsMonths_188 (by decide) ?_
    exact JN_192 _ _ _ _ _ _ h (lv_sub hl [0] rfl) hP hD hS
  have JN_145 : ∀ (v3 : Int32) (v6 : Int32) (v7 : Int32) (v8 : Int32) (v9 : Int32) (i_this : Nat → Int32) (ls : Array Slot) (H : Heap) (locs : List Loc), (fX10_addsMonths_j145 N j_this) v3 v6 v7 v8 v9 i_this = some (r, o_i_this) → lv_has ls 12 [(0, .ref h_this), (3, .int v3), (6, .int v6), (7, .int v7), (8, .int v8), (9, .int v9)] → va_P (dC, dI) vwCl [cl_X10 h_this h_this_dayAt h_this_secondAt h_this_spans h_this_kept h_this_text h_this_row h_this_read h_this_many h_this_first h_this_lengths h_this_page i_this j_this] H → va_D A [cl_X10 h_this h_this_dayAt h_this_secondAt h_this_spans h_this_kept h_this_text h_this_row h_this_read h_this_many h_this_first h_this_lengths h_this_page i_this j_this] → va_S A s.heap H locs → W p l e (kR 3 66) s m args below meth c H locs 0 0 Q (F0 m 145 ls []) := by
    intro v3 v6 v7 v8 v9 i_this ls H locs h hl hP hD hS
    unfold fX10_addsMonths_j145 at h
    refine lv_aload_n hx hb dX10_addsMonths_145 rfl (lv_at hl 0 rfl) ?_
    refine va_get (D := (dC, dI)) (ci := 9) (v := .int (i_this 12)) (C := RX10) (T := TX10) (N := 29) hx hb hts inX10 hown hK hP 0 rfl rfl 12 (by decide) (hts _ (kq q_998 rfl)) (fun _ h9 => h9) rfl dX10_addsMonths_146 ?_
    refine lv_iload hx hb dX10_addsMonths_149 (lv_at hl 4 rfl) ?_
    refine va_mmin (rest := []) hx hb (hml.trans hl.1.symm) hown (hts _ (kq q_1300 rfl)) (hts _ (kq q_701 rfl)) (hts _ (kq q_72 rfl)) (hts _ (kq q_702 rfl)) (Nat.le_of_ble_eq_true rfl) (Nat.le_of_ble_eq_true rfl) (Nat.zero_le _) (Nat.zero_le _) dX10_addsMonths_151 ?_
    refine lv_topi (fun z8 ez8 => ?_)
    have h := nm_at ez8 h
    refine lv_istore (lv' := [(10, .int z8), (0, .ref h_this), (3, .int v3), (6, .int v6), (7, .int v7), (8, .int v8), (9, .int v9)]) hx hb dX10_addsMonths_154 hl (by decide) rfl (fun ls hl => ?_)
    refine lv_iload_n hx hb dX10_addsMonths_156 rfl (lv_at hl 2 rfl) ?_
    refine lv_iconst (v := (2 : Int32)) hx hb dX10_addsMonths_157 (by decide) ?_
    refine lv_icmp_ne (tgt := 170) hx hb dX10_addsMonths_158 (by decide) (fun c9 => ?_) (fun c9 => ?_)
    · have h := ite_f c9 h
      exact JN_170 _ _ _ _ _ _ _ _ h (lv_sub hl [1, 2, 3, 4, 0] rfl) hP hD hS
    have h := ite_t c9 h
    refine lv_iload hx hb dX10_addsMonths_161 (lv_at hl 6 rfl) ?_
    refine lv_if_eq (tgt := 170) hx hb dX10_addsMonths_163 (by decide) (fun c10 => ?_) (fun c10 => ?_)
    · have h := ite_t c10 h
      exact JN_170 _ _ _ _ _ _ _ _ h (lv_sub hl [1, 2, 3, 4, 0] rfl) hP hD hS
    have h := ite_f c10 h
    refine lv_iload hx hb dX10_addsMonths_166 (lv_at hl 5 rfl) ?_
    refine lv_istore (lv' := [(10, .int v8), (0, .ref h_this), (3, .int v3), (6, .int v6), (7, .int v7), (8, .int v8), (9, .int v9)]) hx hb dX10_addsMonths_168 hl (by decide) rfl (fun ls hl => ?_)
    exact JN_170 _ _ _ _ _ _ _ _ h (lv_sub hl [1, 2, 3, 4, 0] rfl) hP hD hS
  have JN_114 : ∀ (v3 : Int32) (v6 : Int32) (v7 : Int32) (v8 : Int32) (t0 : Int32) (i_this : Nat → Int32) (ls : Array Slot) (H : Heap) (locs : List Loc), (fX10_addsMonths_j114 N j_this) v3 v6 v7 v8 t0 i_this = some (r, o_i_this) → lv_has ls 12 [(0, .ref h_this), (3, .int v3), (6, .int v6), (7, .int v7), (8, .int v8)] → va_P (dC, dI) vwCl [cl_X10 h_this h_this_dayAt h_this_secondAt h_this_spans h_this_kept h_this_text h_this_row h_this_read h_this_many h_this_first h_this_lengths h_this_page i_this j_this] H → va_D A [cl_X10 h_this h_this_dayAt h_this_secondAt h_this_spans h_this_kept h_this_text h_this_row h_this_read h_this_many h_this_first h_this_lengths h_this_page i_this j_this] → va_S A s.heap H locs → W p l e (kR 3 66) s m args below meth c H locs 0 0 Q (F0 m 114 ls [.int t0]) := by
    intro v3 v6 v7 v8 t0 i_this ls H locs h hl hP hD hS
    unfold fX10_addsMonths_j114 at h
    refine lv_istore (lv' := [(9, .int t0), (0, .ref h_this), (3, .int v3), (6, .int v6), (7, .int v7), (8, .int v8)]) hx hb dX10_addsMonths_114 hl (by decide) rfl (fun ls hl => ?_)
    refine lv_aload_n hx hb dX10_addsMonths_116 rfl (lv_at hl 1 rfl) ?_
    refine lv_iconst (v := (0 : Int32)) hx hb dX10_addsMonths_117 (by decide) ?_
    refine lv_aload_n hx hb dX10_addsMonths_118 rfl (lv_at hl 1 rfl) ?_
    refine va_get (D := (dC, dI)) (ci := 9) (v := .int (i_this 12)) (C := RX10) (T := TX10) (N := 29) hx hb hts inX10 hown hK hP 0 rfl rfl 12 (by decide) (hts _ (kq q_998 rfl)) (fun _ h9 => h9) rfl dX10_addsMonths_119 ?_
    refine lv_iload hx hb dX10_addsMonths_122 (lv_at hl 5 rfl) ?_
    refine lv_isub hx hb dX10_addsMonths_124 ?_
    refine va_mmax (rest := [.ref h_this]) hx hb (hml.trans hl.1.symm) hown (hts _ (kq q_1299 rfl)) (hts _ (kq q_569 rfl)) (hts _ (kq q_72 rfl)) (hts _ (kq q_570 rfl)) (Nat.le_of_ble_eq_true rfl) (Nat.le_of_ble_eq_true rfl) (Nat.zero_le _) (Nat.zero_le _) dX10_addsMonths_125 ?_
    refine lv_topi (fun z11 ez11 => ?_)
    have h := nm_at ez11 h
    refine va_put (D := (dC, dI)) (ci := 9) (v := .int z11) (ty := .int) (C := RX10) (T := TX10) (N := 29) hx hb hts inX10 tyX10 tyX10_ok nmX10 hown hK hP hD hS 0 rfl rfl 15 (by decide) (hts _ (kq q_1001 rfl)) (fun _ h9 => h9) rfl (by decide +kernel) rfl rfl (Nat.le_of_ble_eq_true rfl) dX10_addsMonths_128 (fun H locs hP hD hS => ?_)
    have hP : va_P (dC, dI) vwCl [(h_this, .inr (9, [.ref h_this_dayAt, .ref h_this_secondAt, .ref h_this_spans, .ref h_this_kept, .int (i_this 4), .ref h_this_text, .int (i_this 6), .ref h_this_row, .int (i_this 8), .int (i_this 9), .int (i_this 10), .int (i_this 11), .int (i_this 12), .int (i_this 13), .int (i_this 14), .int z11, .int (i_this 16), .int (i_this 17), .int (i_this 18), .ref h_this_read, .long (j_this 20), .ref h_this_many, .ref h_this_first, .ref h_this_lengths, .int (i_this 24), .long (j_this 25), .long (j_this 26), .ref h_this_page, .int (i_this 28)]))] H := hP
    have hD : va_D A [(h_this, .inr (9, [.ref h_this_dayAt, .ref h_this_secondAt, .ref h_this_spans, .ref h_this_kept, .int (i_this 4), .ref h_this_text, .int (i_this 6), .ref h_this_row, .int (i_this 8), .int (i_this 9), .int (i_this 10), .int (i_this 11), .int (i_this 12), .int (i_this 13), .int (i_this 14), .int z11, .int (i_this 16), .int (i_this 17), .int (i_this 18), .ref h_this_read, .long (j_this 20), .ref h_this_many, .ref h_this_first, .ref h_this_lengths, .int (i_this 24), .long (j_this 25), .long (j_this 26), .ref h_this_page, .int (i_this 28)]))] := hD
    refine lv_aload_n hx hb dX10_addsMonths_131 rfl (lv_at hl 1 rfl) ?_
    refine va_get (D := (dC, dI)) (ci := 9) (v := .int z11) (C := RX10) (T := TX10) (N := 29) hx hb hts inX10 hown hK hP 0 rfl rfl 15 (by decide) (hts _ (kq q_1001 rfl)) (fun _ h9 => h9) rfl dX10_addsMonths_132 ?_
    refine lv_if_le (tgt := 145) hx hb dX10_addsMonths_135 (by decide) (fun c12 => ?_) (fun c12 => ?_)
    · have h := ite_t c12 h
      have hP : va_P (dC, dI) vwCl [cl_X10 h_this h_this_dayAt h_this_secondAt h_this_spans h_this_kept h_this_text h_this_row h_this_read h_this_many h_this_first h_this_lengths h_this_page (upd i_this 15 z11) j_this] H := hP
      have hD : va_D A [cl_X10 h_this h_this_dayAt h_this_secondAt h_this_spans h_this_kept h_this_text h_this_row h_this_read h_this_many h_this_first h_this_lengths h_this_page (upd i_this 15 z11) j_this] := hD
      exact JN_145 _ _ _ _ _ _ _ _ _ h (lv_sub hl [1, 2, 3, 4, 5, 0] rfl) hP hD hS
    have h := ite_f c12 h
    refine lv_iload_n hx hb dX10_addsMonths_138 rfl (lv_at hl 2 rfl) ?_
    refine lv_iconst (v := (3 : Int32)) hx hb dX10_addsMonths_139 (by decide) ?_
    refine lv_icmp_ne (tgt := 145) hx hb dX10_addsMonths_140 (by decide) (fun c13 => ?_) (fun c13 => ?_)
    · have h := ite_f c13 h
      have hP : va_P (dC, dI) vwCl [cl_X10 h_this h_this_dayAt h_this_secondAt h_this_spans h_this_kept h_this_text h_this_row h_this_read h_this_many h_this_first h_this_lengths h_this_page (upd i_this 15 z11) j_this] H := hP
      have hD : va_D A [cl_X10 h_this h_this_dayAt h_this_secondAt h_this_spans h_this_kept h_this_text h_this_row h_this_read h_this_many h_this_first h_this_lengths h_this_page (upd i_this 15 z11) j_this] := hD
      exact JN_145 _ _ _ _ _ _ _ _ _ h (lv_sub hl [1, 2, 3, 4, 5, 0] rfl) hP hD hS
    have h := ite_t c13 h
    refine lv_iconst (v := (0 : Int32)) hx hb dX10_addsMonths_143 (by decide) ?_
    have hP : va_P (dC, dI) vwCl [cl_X10 h_this h_this_dayAt h_this_secondAt h_this_spans h_this_kept h_this_text h_this_row h_this_read h_this_many h_this_first h_this_lengths h_this_page (upd i_this 15 z11) j_this] H := hP
    have hD : va_D A [cl_X10 h_this h_this_dayAt h_this_secondAt h_this_spans h_this_kept h_this_text h_this_row h_this_read h_this_many h_this_first h_this_lengths h_this_page (upd i_this 15 z11) j_this] := hD
    obtain ⟨rfl, rfl⟩ := pj2 h
    exact hEnd _ _ _ _ hP hS dX10_addsMonths_144 rfl
  have h := hf
  unfold fX10_addsMonths at h
  refine lv_aload_n hx hb dX10_addsMonths_0 rfl (lv_at hl 0 rfl) ?_
  refine lv_iconst (v := (0 : Int32)) hx hb dX10_addsMonths_1 (by decide) ?_
  refine va_put (D := (dC, dI)) (ci := 9) (v := .int (0 : Int32)) (ty := .int) (C := RX10) (T := TX10) (N := 29) hx hb hts inX10 tyX10 tyX10_ok nmX10 hown hK hP hD hS 0 rfl rfl 15 (by decide) (hts _ (kq q_1001 rfl)) (fun _ h9 => h9) rfl (by decide +kernel) rfl rfl (Nat.le_of_ble_eq_true rfl) dX10_addsMonths_2 (fun H locs hP hD hS => ?_)
  have hP : va_P (dC, dI) vwCl [(h_this, .inr (9, [.ref h_this_dayAt, .ref h_this_secondAt, .ref h_this_spans, .ref h_this_kept, .int (i_this 4), .ref h_this_text, .int (i_this 6), .ref h_this_row, .int (i_this 8), .int (i_this 9), .int (i_this 10), .int (i_this 11), .int (i_this 12), .int (i_this 13), .int (i_this 14), .int (0 : Int32), .int (i_this 16), .int (i_this 17), .int (i_this 18), .ref h_this_read, .long (j_this 20), .ref h_this_many, .ref h_this_first, .ref h_this_lengths, .int (i_this 24), .long (j_this 25), .long (j_this 26), .ref h_this_page, .int (i_this 28)]))] H := hP
  have hD : va_D A [(h_this, .inr (9, [.ref h_this_dayAt, .ref h_this_secondAt, .ref h_this_spans, .ref h_this_kept, .int (i_this 4), .ref h_this_text, .int (i_this 6), .ref h_this_row, .int (i_this 8), .int (i_this 9), .int (i_this 10), .int (i_this 11), .int (i_this 12), .int (i_this 13), .int (i_this 14), .int (0 : Int32), .int (i_this 16), .int (i_this 17), .int (i_this 18), .ref h_this_read, .long (j_this 20), .ref h_this_many, .ref h_this_first, .ref h_this_lengths, .int (i_this 24), .long (j_this 25), .long (j_this 26), .ref h_this_page, .int (i_this 28)]))] := hD
  refine lv_lload_n hx hb dX10_addsMonths_5 rfl (lv_at hl 1 rfl) ?_
  refine lv_lconst (v := (0 : Int64)) hx hb dX10_addsMonths_6 (by decide) ?_
  refine W.lcmp hx hb dX10_addsMonths_7 ?_
  refine lv_if_ne (tgt := 13) hx hb dX10_addsMonths_8 (by decide) (fun c14 => ?_) (fun c14 => ?_)
  · have h := ite_f c14 h
    refine lv_aload_n hx hb dX10_addsMonths_13 rfl (lv_at hl 0 rfl) ?_
    refine lv_aload_n hx hb dX10_addsMonths_14 rfl (lv_at hl 0 rfl) ?_
    refine va_get (D := (dC, dI)) (ci := 9) (v := .int (i_this 13)) (C := RX10) (T := TX10) (N := 29) hx hb hts inX10 hown hK hP 0 rfl rfl 13 (by decide) (hts _ (kq q_999 rfl)) (fun _ h9 => h9) rfl dX10_addsMonths_15 ?_
    have hP : va_P (dC, dI) vwCl [cl_X10 h_this h_this_dayAt h_this_secondAt h_this_spans h_this_kept h_this_text h_this_row h_this_read h_this_many h_this_first h_this_lengths h_this_page (upd i_this 15 (0 : Int32)) j_this] H := hP
    have hD : va_D A [cl_X10 h_this h_this_dayAt h_this_secondAt h_this_spans h_this_kept h_this_text h_this_row h_this_read h_this_many h_this_first h_this_lengths h_this_page (upd i_this 15 (0 : Int32)) j_this] := hD
    obtain ⟨i_this_15, hc16, h⟩ := bd1_at h
    refine kjV (kV (own := "DateSpansModel") (C := "DateSpansModel") (b := h_this) (As := [.int (i_this 13)]) (rest := []) ⟨hx, hb, hml, hown, hts⟩ (kX10_dates l dC dI cI cJ cB h_this h_this_dayAt h_this_secondAt h_this_spans h_this_kept h_this_text h_this_row h_this_read h_this_many h_this_first h_this_lengths h_this_page N (i_this 13) (upd i_this 15 (0 : Int32)) j_this i_this_15 hc16 _) (kgV (kq q_1238 rfl) (kq q_1240 rfl) (kq q_30 rfl) (kq q_66 rfl) (kq q_1241 rfl)) yd_X10_dates ⟨Nat.le_of_ble_eq_true rfl, Nat.le_of_ble_eq_true rfl⟩ hN hK hP hD [0] rfl rfl (ci := 9) rfl rfl rfl rfl rfl hl.1 rfl (lv_room (Nat.le_of_ble_eq_true rfl)) dX10_addsMonths_18) hP hD hS hA [0] rfl rfl (fun H locs hP hD hS => ?_)
    have hP : va_P (dC, dI) vwCl [cl_X10 h_this h_this_dayAt h_this_secondAt h_this_spans h_this_kept h_this_text h_this_row h_this_read h_this_many h_this_first h_this_lengths h_this_page i_this_15 j_this] H := hP
    have hD : va_D A [cl_X10 h_this h_this_dayAt h_this_secondAt h_this_spans h_this_kept h_this_text h_this_row h_this_read h_this_many h_this_first h_this_lengths h_this_page i_this_15 j_this] := hD
    refine lv_ldc2 (v := (12 : Int64)) hx hb hown (hts _ (kq q_1266 rfl)) dX10_addsMonths_21 ?_
    refine lv_aload_n hx hb dX10_addsMonths_24 rfl (lv_at hl 0 rfl) ?_
    refine va_get (D := (dC, dI)) (ci := 9) (v := .int (i_this_15 10)) (C := RX10) (T := TX10) (N := 29) hx hb hts inX10 hown hK hP 0 rfl rfl 10 (by decide) (hts _ (kq q_996 rfl)) (fun _ h9 => h9) rfl dX10_addsMonths_25 ?_
    refine lv_i2l hx hb dX10_addsMonths_28 rfl ?_
    refine lv_lmul hx hb dX10_addsMonths_29 ?_
    refine lv_aload_n hx hb dX10_addsMonths_30 rfl (lv_at hl 0 rfl) ?_
    refine va_get (D := (dC, dI)) (ci := 9) (v := .int (i_this_15 11)) (C := RX10) (T := TX10) (N := 29) hx hb hts inX10 hown hK hP 0 rfl rfl 11 (by decide) (hts _ (kq q_997 rfl)) (fun _ h9 => h9) rfl dX10_addsMonths_31 ?_
    refine lv_i2l hx hb dX10_addsMonths_34 rfl ?_
    refine lv_ladd hx hb dX10_addsMonths_35 ?_
    refine lv_lconst (v := (1 : Int64)) hx hb dX10_addsMonths_36 (by decide) ?_
    refine lv_lsub hx hb dX10_addsMonths_37 ?_
    refine lv_lload_n hx hb dX10_addsMonths_38 rfl (lv_at hl 1 rfl) ?_
    refine lv_ladd hx hb dX10_addsMonths_39 ?_
    refine lv_topl (fun z17 ez17 => ?_)
    have h := nm_at ez17 h
    refine lv_lstore (lv' := [(4, .long z17), (0, .ref h_this), (1, .long p1), (3, .int p2)]) hx hb dX10_addsMonths_40 hl (by decide) rfl (fun ls hl => ?_)
    refine lv_lload hx hb dX10_addsMonths_42 (lv_at hl 0 rfl) ?_
    refine lv_ldc2 (v := (12 : Int64)) hx hb hown (hts _ (kq q_1266 rfl)) dX10_addsMonths_44 ?_
    refine W.lcmp hx hb dX10_addsMonths_47 ?_
    refine lv_if_lt (tgt := 60) hx hb dX10_addsMonths_48 (by decide) (fun c18 => ?_) (fun c18 => ?_)
    · have h := ite_t c18 h
      refine lv_iconst (v := (0 : Int32)) hx hb dX10_addsMonths_60 (by decide) ?_
      obtain ⟨rfl, rfl⟩ := pj2 h
      exact hEnd _ _ _ _ hP hS dX10_addsMonths_61 rfl
    have h := ite_f c18 h
    refine lv_lload hx hb dX10_addsMonths_51 (lv_at hl 0 rfl) ?_
    refine lv_ldc2 (v := (120000 : Int64)) hx hb hown (hts _ (kq q_1298 rfl)) dX10_addsMonths_53 ?_
    refine W.lcmp hx hb dX10_addsMonths_56 ?_
    refine lv_if_lt (tgt := 62) hx hb dX10_addsMonths_57 (by decide) (fun c19 => ?_) (fun c19 => ?_)
    · have h := ite_t c19 h
      refine lv_lload hx hb dX10_addsMonths_62 (lv_at hl 0 rfl) ?_
      refine lv_ldc2 (v := (12 : Int64)) hx hb hown (hts _ (kq q_1266 rfl)) dX10_addsMonths_64 ?_
      refine lv_ldiv hx hb dX10_addsMonths_67 (by decide) ?_
      refine lv_l2i hx hb dX10_addsMonths_68 rfl ?_
      refine lv_topi (fun z20 ez20 => ?_)
      have h := nm_at ez20 h
      refine lv_istore (lv' := [(6, .int z20), (4, .long z17), (0, .ref h_this), (1, .long p1), (3, .int p2)]) hx hb dX10_addsMonths_69 hl (by decide) rfl (fun ls hl => ?_)
      refine lv_lload hx hb dX10_addsMonths_71 (lv_at hl 1 rfl) ?_
      refine lv_ldc2 (v := (12 : Int64)) hx hb hown (hts _ (kq q_1266 rfl)) dX10_addsMonths_73 ?_
      refine lv_lrem hx hb dX10_addsMonths_76 (by decide) ?_
      refine lv_l2i hx hb dX10_addsMonths_77 rfl ?_
      refine lv_iconst (v := (1 : Int32)) hx hb dX10_addsMonths_78 (by decide) ?_
      refine lv_iadd hx hb dX10_addsMonths_79 ?_
      refine lv_topi (fun z21 ez21 => ?_)
      have h := nm_at ez21 h
      refine lv_istore (lv' := [(7, .int z21), (6, .int z20), (4, .long z17), (0, .ref h_this), (1, .long p1), (3, .int p2)]) hx hb dX10_addsMonths_80 hl (by decide) rfl (fun ls hl => ?_)
      refine lv_iload hx hb dX10_addsMonths_82 (lv_at hl 1 rfl) ?_
      refine lv_iload hx hb dX10_addsMonths_84 (lv_at hl 0 rfl) ?_
      obtain ⟨r22, hc23, h⟩ := bd1_at h
      refine kjSI (kS0 (own := "DateSpansModel") (As := [.int z20, .int z21]) (rest := []) ⟨hx, hb, hml, hown, hts⟩ (kX10_monthDays l N z20 z21 r22 hc23) (kgS (kq q_1117 rfl) (kq q_1118 rfl) (kq q_66 rfl) (kq q_1119 rfl)) yd_X10_monthDays ⟨Nat.le_of_ble_eq_true rfl, Nat.le_of_ble_eq_true rfl⟩ rfl rfl hl.1 rfl (lv_room (Nat.le_of_ble_eq_true rfl)) dX10_addsMonths_86) ?_
      refine lv_istore (lv' := [(8, .int r22), (7, .int z21), (6, .int z20), (4, .long z17), (0, .ref h_this), (1, .long p1), (3, .int p2)]) hx hb dX10_addsMonths_89 hl (by decide) rfl (fun ls hl => ?_)
      refine lv_aload_n hx hb dX10_addsMonths_91 rfl (lv_at hl 4 rfl) ?_
      refine va_get (D := (dC, dI)) (ci := 9) (v := .int (i_this_15 12)) (C := RX10) (T := TX10) (N := 29) hx hb hts inX10 hown hK hP 0 rfl rfl 12 (by decide) (hts _ (kq q_998 rfl)) (fun _ h9 => h9) rfl dX10_addsMonths_92 ?_
      refine lv_aload_n hx hb dX10_addsMonths_95 rfl (lv_at hl 4 rfl) ?_
      refine va_get (D := (dC, dI)) (ci := 9) (v := .int (i_this_15 10)) (C := RX10) (T := TX10) (N := 29) hx hb hts inX10 hown hK hP 0 rfl rfl 10 (by decide) (hts _ (kq q_996 rfl)) (fun _ h9 => h9) rfl dX10_addsMonths_96 ?_
      refine lv_aload_n hx hb dX10_addsMonths_99 rfl (lv_at hl 4 rfl) ?_
      refine va_get (D := (dC, dI)) (ci := 9) (v := .int (i_this_15 11)) (C := RX10) (T := TX10) (N := 29) hx hb hts inX10 hown hK hP 0 rfl rfl 11 (by decide) (hts _ (kq q_997 rfl)) (fun _ h9 => h9) rfl dX10_addsMonths_100 ?_
      obtain ⟨r24, hc25, h⟩ := bd1_at h
      refine kjSI (kS0 (own := "DateSpansModel") (As := [.int (i_this_15 10), .int (i_this_15 11)]) (rest := [.int (i_this_15 12)]) ⟨hx, hb, hml, hown, hts⟩ (kX10_monthDays l N (i_this_15 10) (i_this_15 11) r24 hc25) (kgS (kq q_1117 rfl) (kq q_1118 rfl) (kq q_66 rfl) (kq q_1119 rfl)) yd_X10_monthDays ⟨Nat.le_of_ble_eq_true rfl, Nat.le_of_ble_eq_true rfl⟩ rfl rfl hl.1 rfl (lv_room (Nat.le_of_ble_eq_true rfl)) dX10_addsMonths_103) ?_
      refine lv_icmp_ne (tgt := 113) hx hb dX10_addsMonths_106 (by decide) (fun c26 => ?_) (fun c26 => ?_)
      · have h := ite_f c26 h
        refine lv_iconst (v := (0 : Int32)) hx hb dX10_addsMonths_113 (by decide) ?_
        exact JN_114 _ _ _ _ _ _ _ _ _ h (lv_sub hl [4, 6, 2, 1, 0] rfl) hP hD hS
      have h := ite_t c26 h
      refine lv_iconst (v := (1 : Int32)) hx hb dX10_addsMonths_109 (by decide) ?_
      refine lv_goto (tgt := 114) hx hb dX10_addsMonths_110 (by decide) ?_
      exact JN_114 _ _ _ _ _ _ _ _ _ h (lv_sub hl [4, 6, 2, 1, 0] rfl) hP hD hS
    have h := ite_f c19 h
    refine lv_iconst (v := (0 : Int32)) hx hb dX10_addsMonths_60 (by decide) ?_
    obtain ⟨rfl, rfl⟩ := pj2 h
    exact hEnd _ _ _ _ hP hS dX10_addsMonths_61 rfl
  have h := ite_t c14 h
  refine lv_iconst (v := (1 : Int32)) hx hb dX10_addsMonths_11 (by decide) ?_
  have hP : va_P (dC, dI) vwCl [cl_X10 h_this h_this_dayAt h_this_secondAt h_this_spans h_this_kept h_this_text h_this_row h_this_read h_this_many h_this_first h_this_lengths h_this_page (upd i_this 15 (0 : Int32)) j_this] H := hP
  have hD : va_D A [cl_X10 h_this h_this_dayAt h_this_secondAt h_this_spans h_this_kept h_this_text h_this_row h_this_read h_this_many h_this_first h_this_lengths h_this_page (upd i_this 15 (0 : Int32)) j_this] := hD
  obtain ⟨rfl, rfl⟩ := pj2 h
  exact hEnd _ _ _ _ hP hS dX10_addsMonths_12 rfl
noncomputable def fX10_addsDays (N : Nat) (p1 : Int64) (i_this : Nat → Int32) (j_this : Nat → Int64) : Option (Int32 × (Nat → Int32)) := (bd1 (fX10_isDay N ((i_this 13).toInt64 + p1)) fun r1 => (if r1 = (0 : Int32) then (some ((0 : Int32), i_this)) else (some ((1 : Int32), (upd i_this 13 ((i_this 13) + p1.toInt32))))))
set_option maxHeartbeats 4000000 in
set_option maxRecDepth 100000 in
theorem kX10_addsDays (l : Launch) (dC : Nat → ClassId) (dI : Nat → Nat → Nat) (cI cJ cB : ClassId) (h_this h_this_dayAt h_this_secondAt h_this_spans h_this_kept h_this_text h_this_row h_this_read h_this_many h_this_first h_this_lengths h_this_page : Nat) (N : Nat) (p1 : Int64) (i_this : Nat → Int32) (j_this : Nat → Int64) (r : Int32) (o_i_this : Nat → Int32) (hf : fX10_addsDays N p1 i_this j_this = some (r, o_i_this)) : MI l yX10_addsDays (kws yX10_addsDays cX10_addsDays 3 (some .boolean)) (kR 2 46) (dC, dI) (kT cI cJ cB) [.ref h_this, .long p1] [cl_X10 h_this h_this_dayAt h_this_secondAt h_this_spans h_this_kept h_this_text h_this_row h_this_read h_this_many h_this_first h_this_lengths h_this_page i_this j_this] [cl_X10 h_this h_this_dayAt h_this_secondAt h_this_spans h_this_kept h_this_text h_this_row h_this_read h_this_many h_this_first h_this_lengths h_this_page o_i_this j_this] r := by
  refine MI.of (cc := cX10_addsDays) (maxL := 3) (by decide) (Nat.le_of_ble_eq_true rfl) (fun p e s m args below meth c A Q ls KC hN hK hP hD hA hl hEnd => ?_)
  obtain ⟨hx, hb, hml, hown, hts⟩ := KC
  have hown : s.vm.findClass "DateSpansModel" = some m.cls := hown
  have hl : lv_has ls 3 [(0, .ref h_this), (1, .long p1)] := hl
  have hS : va_S A s.heap s.heap [] := va_S.rf
  have h := hf
  unfold fX10_addsDays at h
  refine lv_aload_n hx hb dX10_addsDays_0 rfl (lv_at hl 0 rfl) ?_
  refine va_get (D := (dC, dI)) (ci := 9) (v := .int (i_this 13)) (C := RX10) (T := TX10) (N := 29) hx hb hts inX10 hown hK hP 0 rfl rfl 13 (by decide) (hts _ (kq q_999 rfl)) (fun _ h9 => h9) rfl dX10_addsDays_1 ?_
  refine lv_i2l hx hb dX10_addsDays_4 rfl ?_
  refine lv_lload_n hx hb dX10_addsDays_5 rfl (lv_at hl 1 rfl) ?_
  refine lv_ladd hx hb dX10_addsDays_6 ?_
  obtain ⟨r1, hc2, h⟩ := bd1_at h
  refine kjSI (kS0 (own := "DateSpansModel") (As := [.long ((i_this 13).toInt64 + p1)]) (rest := []) ⟨hx, hb, hml, hown, hts⟩ (kX10_isDay l N ((i_this 13).toInt64 + p1) r1 hc2) (kgS (kq q_1148 rfl) (kq q_1149 rfl) (kq q_66 rfl) (kq q_1150 rfl)) yd_X10_isDay ⟨Nat.le_of_ble_eq_true rfl, Nat.le_of_ble_eq_true rfl⟩ rfl rfl hl.1 rfl (lv_room (Nat.le_of_ble_eq_true rfl)) dX10_addsDays_7) ?_
  refine lv_if_ne (tgt := 15) hx hb dX10_addsDays_10 (by decide) (fun c3 => ?_) (fun c3 => ?_)
  · have h := ite_f c3 h
    refine lv_aload_n hx hb dX10_addsDays_15 rfl (lv_at hl 0 rfl) ?_
    refine lv_dup hx hb dX10_addsDays_16 rfl ?_
    refine va_get (D := (dC, dI)) (ci := 9) (v := .int (i_this 13)) (C := RX10) (T := TX10) (N := 29) hx hb hts inX10 hown hK hP 0 rfl rfl 13 (by decide) (hts _ (kq q_999 rfl)) (fun _ h9 => h9) rfl dX10_addsDays_17 ?_
    refine lv_lload_n hx hb dX10_addsDays_20 rfl (lv_at hl 1 rfl) ?_
    refine lv_l2i hx hb dX10_addsDays_21 rfl ?_
    refine lv_iadd hx hb dX10_addsDays_22 ?_
    refine va_put (D := (dC, dI)) (ci := 9) (v := .int ((i_this 13) + p1.toInt32)) (ty := .int) (C := RX10) (T := TX10) (N := 29) hx hb hts inX10 tyX10 tyX10_ok nmX10 hown hK hP hD hS 0 rfl rfl 13 (by decide) (hts _ (kq q_999 rfl)) (fun _ h9 => h9) rfl (by decide +kernel) rfl rfl (Nat.le_of_ble_eq_true rfl) dX10_addsDays_23 (fun H locs hP hD hS => ?_)
    have hP : va_P (dC, dI) vwCl [(h_this, .inr (9, [.ref h_this_dayAt, .ref h_this_secondAt, .ref h_this_spans, .ref h_this_kept, .int (i_this 4), .ref h_this_text, .int (i_this 6), .ref h_this_row, .int (i_this 8), .int (i_this 9), .int (i_this 10), .int (i_this 11), .int (i_this 12), .int ((i_this 13) + p1.toInt32), .int (i_this 14), .int (i_this 15), .int (i_this 16), .int (i_this 17), .int (i_this 18), .ref h_this_read, .long (j_this 20), .ref h_this_many, .ref h_this_first, .ref h_this_lengths, .int (i_this 24), .long (j_this 25), .long (j_this 26), .ref h_this_page, .int (i_this 28)]))] H := hP
    have hD : va_D A [(h_this, .inr (9, [.ref h_this_dayAt, .ref h_this_secondAt, .ref h_this_spans, .ref h_this_kept, .int (i_this 4), .ref h_this_text, .int (i_this 6), .ref h_this_row, .int (i_this 8), .int (i_this 9), .int (i_this 10), .int (i_this 11), .int (i_this 12), .int ((i_this 13) + p1.toInt32), .int (i_this 14), .int (i_this 15), .int (i_this 16), .int (i_this 17), .int (i_this 18), .ref h_this_read, .long (j_this 20), .ref h_this_many, .ref h_this_first, .ref h_this_lengths, .int (i_this 24), .long (j_this 25), .long (j_this 26), .ref h_this_page, .int (i_this 28)]))] := hD
    refine lv_iconst (v := (1 : Int32)) hx hb dX10_addsDays_26 (by decide) ?_
    have hP : va_P (dC, dI) vwCl [cl_X10 h_this h_this_dayAt h_this_secondAt h_this_spans h_this_kept h_this_text h_this_row h_this_read h_this_many h_this_first h_this_lengths h_this_page (upd i_this 13 ((i_this 13) + p1.toInt32)) j_this] H := hP
    have hD : va_D A [cl_X10 h_this h_this_dayAt h_this_secondAt h_this_spans h_this_kept h_this_text h_this_row h_this_read h_this_many h_this_first h_this_lengths h_this_page (upd i_this 13 ((i_this 13) + p1.toInt32)) j_this] := hD
    obtain ⟨rfl, rfl⟩ := pj2 h
    exact hEnd _ _ _ _ hP hS dX10_addsDays_27 rfl
  have h := ite_t c3 h
  refine lv_iconst (v := (0 : Int32)) hx hb dX10_addsDays_13 (by decide) ?_
  obtain ⟨rfl, rfl⟩ := pj2 h
  exact hEnd _ _ _ _ hP hS dX10_addsDays_14 rfl
noncomputable def fX10_addsSeconds (N : Nat) (p1 : Int64) (i_this : Nat → Int32) (j_this : Nat → Int64) : Option (Int32 × (Nat → Int32)) := (nm ((((i_this 13).toInt64 * (86400 : Int64)) + (i_this 14).toInt64) + p1) fun z1 => (if (lg_cmp z1 (0 : Int64)) < (0 : Int32) then (some ((0 : Int32), i_this)) else (bd1 (fX10_isDay N (z1 / (86400 : Int64))) fun r3 => (if r3 = (0 : Int32) then (some ((0 : Int32), i_this)) else (some ((1 : Int32), (upd (upd i_this 13 ((z1 / (86400 : Int64)).toInt32)) 14 ((z1 - z1 / (86400 : Int64) * (86400 : Int64)).toInt32))))))))
set_option maxHeartbeats 4000000 in
set_option maxRecDepth 100000 in
theorem kX10_addsSeconds (l : Launch) (dC : Nat → ClassId) (dI : Nat → Nat → Nat) (cI cJ cB : ClassId) (h_this h_this_dayAt h_this_secondAt h_this_spans h_this_kept h_this_text h_this_row h_this_read h_this_many h_this_first h_this_lengths h_this_page : Nat) (N : Nat) (p1 : Int64) (i_this : Nat → Int32) (j_this : Nat → Int64) (r : Int32) (o_i_this : Nat → Int32) (hf : fX10_addsSeconds N p1 i_this j_this = some (r, o_i_this)) : MI l yX10_addsSeconds (kws yX10_addsSeconds cX10_addsSeconds 5 (some .boolean)) (kR 2 46) (dC, dI) (kT cI cJ cB) [.ref h_this, .long p1] [cl_X10 h_this h_this_dayAt h_this_secondAt h_this_spans h_this_kept h_this_text h_this_row h_this_read h_this_many h_this_first h_this_lengths h_this_page i_this j_this] [cl_X10 h_this h_this_dayAt h_this_secondAt h_this_spans h_this_kept h_this_text h_this_row h_this_read h_this_many h_this_first h_this_lengths h_this_page o_i_this j_this] r := by
  refine MI.of (cc := cX10_addsSeconds) (maxL := 5) (by decide) (Nat.le_of_ble_eq_true rfl) (fun p e s m args below meth c A Q ls KC hN hK hP hD hA hl hEnd => ?_)
  obtain ⟨hx, hb, hml, hown, hts⟩ := KC
  have hown : s.vm.findClass "DateSpansModel" = some m.cls := hown
  have hl : lv_has ls 5 [(0, .ref h_this), (1, .long p1)] := hl
  have hS : va_S A s.heap s.heap [] := va_S.rf
  have h := hf
  unfold fX10_addsSeconds at h
  refine lv_aload_n hx hb dX10_addsSeconds_0 rfl (lv_at hl 0 rfl) ?_
  refine va_get (D := (dC, dI)) (ci := 9) (v := .int (i_this 13)) (C := RX10) (T := TX10) (N := 29) hx hb hts inX10 hown hK hP 0 rfl rfl 13 (by decide) (hts _ (kq q_999 rfl)) (fun _ h9 => h9) rfl dX10_addsSeconds_1 ?_
  refine lv_i2l hx hb dX10_addsSeconds_4 rfl ?_
  refine lv_ldc2 (v := (86400 : Int64)) hx hb hown (hts _ (kq q_1309 rfl)) dX10_addsSeconds_5 ?_
  refine lv_lmul hx hb dX10_addsSeconds_8 ?_
  refine lv_aload_n hx hb dX10_addsSeconds_9 rfl (lv_at hl 0 rfl) ?_
  refine va_get (D := (dC, dI)) (ci := 9) (v := .int (i_this 14)) (C := RX10) (T := TX10) (N := 29) hx hb hts inX10 hown hK hP 0 rfl rfl 14 (by decide) (hts _ (kq q_1000 rfl)) (fun _ h9 => h9) rfl dX10_addsSeconds_10 ?_
  refine lv_i2l hx hb dX10_addsSeconds_13 rfl ?_
  refine lv_ladd hx hb dX10_addsSeconds_14 ?_
  refine lv_lload_n hx hb dX10_addsSeconds_15 rfl (lv_at hl 1 rfl) ?_
  refine lv_ladd hx hb dX10_addsSeconds_16 ?_
  refine lv_topl (fun z1 ez1 => ?_)
  have h := nm_at ez1 h
  refine lv_lstore_n (lv' := [(3, .long z1), (0, .ref h_this), (1, .long p1)]) hx hb dX10_addsSeconds_17 rfl hl (by decide) rfl (fun ls hl => ?_)
  refine lv_lload_n hx hb dX10_addsSeconds_18 rfl (lv_at hl 0 rfl) ?_
  refine lv_lconst (v := (0 : Int64)) hx hb dX10_addsSeconds_19 (by decide) ?_
  refine W.lcmp hx hb dX10_addsSeconds_20 ?_
  refine lv_if_lt (tgt := 35) hx hb dX10_addsSeconds_21 (by decide) (fun c2 => ?_) (fun c2 => ?_)
  · have h := ite_t c2 h
    refine lv_iconst (v := (0 : Int32)) hx hb dX10_addsSeconds_35 (by decide) ?_
    obtain ⟨rfl, rfl⟩ := pj2 h
    exact hEnd _ _ _ _ hP hS dX10_addsSeconds_36 rfl
  have h := ite_f c2 h
  refine lv_lload_n hx hb dX10_addsSeconds_24 rfl (lv_at hl 0 rfl) ?_
  refine lv_ldc2 (v := (86400 : Int64)) hx hb hown (hts _ (kq q_1309 rfl)) dX10_addsSeconds_25 ?_
  refine lv_ldiv hx hb dX10_addsSeconds_28 (by decide) ?_
  obtain ⟨r3, hc4, h⟩ := bd1_at h
  refine kjSI (kS0 (own := "DateSpansModel") (As := [.long (z1 / (86400 : Int64))]) (rest := []) ⟨hx, hb, hml, hown, hts⟩ (kX10_isDay l N (z1 / (86400 : Int64)) r3 hc4) (kgS (kq q_1148 rfl) (kq q_1149 rfl) (kq q_66 rfl) (kq q_1150 rfl)) yd_X10_isDay ⟨Nat.le_of_ble_eq_true rfl, Nat.le_of_ble_eq_true rfl⟩ rfl rfl hl.1 rfl (lv_room (Nat.le_of_ble_eq_true rfl)) dX10_addsSeconds_29) ?_
  refine lv_if_ne (tgt := 37) hx hb dX10_addsSeconds_32 (by decide) (fun c5 => ?_) (fun c5 => ?_)
  · have h := ite_f c5 h
    refine lv_aload_n hx hb dX10_addsSeconds_37 rfl (lv_at hl 1 rfl) ?_
    refine lv_lload_n hx hb dX10_addsSeconds_38 rfl (lv_at hl 0 rfl) ?_
    refine lv_ldc2 (v := (86400 : Int64)) hx hb hown (hts _ (kq q_1309 rfl)) dX10_addsSeconds_39 ?_
    refine lv_ldiv hx hb dX10_addsSeconds_42 (by decide) ?_
    refine lv_l2i hx hb dX10_addsSeconds_43 rfl ?_
    refine va_put (D := (dC, dI)) (ci := 9) (v := .int ((z1 / (86400 : Int64)).toInt32)) (ty := .int) (C := RX10) (T := TX10) (N := 29) hx hb hts inX10 tyX10 tyX10_ok nmX10 hown hK hP hD hS 0 rfl rfl 13 (by decide) (hts _ (kq q_999 rfl)) (fun _ h9 => h9) rfl (by decide +kernel) rfl rfl (Nat.le_of_ble_eq_true rfl) dX10_addsSeconds_44 (fun H locs hP hD hS => ?_)
    have hP : va_P (dC, dI) vwCl [(h_this, .inr (9, [.ref h_this_dayAt, .ref h_this_secondAt, .ref h_this_spans, .ref h_this_kept, .int (i_this 4), .ref h_this_text, .int (i_this 6), .ref h_this_row, .int (i_this 8), .int (i_this 9), .int (i_this 10), .int (i_this 11), .int (i_this 12), .int ((z1 / (86400 : Int64)).toInt32), .int (i_this 14), .int (i_this 15), .int (i_this 16), .int (i_this 17), .int (i_this 18), .ref h_this_read, .long (j_this 20), .ref h_this_many, .ref h_this_first, .ref h_this_lengths, .int (i_this 24), .long (j_this 25), .long (j_this 26), .ref h_this_page, .int (i_this 28)]))] H := hP
    have hD : va_D A [(h_this, .inr (9, [.ref h_this_dayAt, .ref h_this_secondAt, .ref h_this_spans, .ref h_this_kept, .int (i_this 4), .ref h_this_text, .int (i_this 6), .ref h_this_row, .int (i_this 8), .int (i_this 9), .int (i_this 10), .int (i_this 11), .int (i_this 12), .int ((z1 / (86400 : Int64)).toInt32), .int (i_this 14), .int (i_this 15), .int (i_this 16), .int (i_this 17), .int (i_this 18), .ref h_this_read, .long (j_this 20), .ref h_this_many, .ref h_this_first, .ref h_this_lengths, .int (i_this 24), .long (j_this 25), .long (j_this 26), .ref h_this_page, .int (i_this 28)]))] := hD
    refine lv_aload_n hx hb dX10_addsSeconds_47 rfl (lv_at hl 1 rfl) ?_
    refine lv_lload_n hx hb dX10_addsSeconds_48 rfl (lv_at hl 0 rfl) ?_
    refine lv_ldc2 (v := (86400 : Int64)) hx hb hown (hts _ (kq q_1309 rfl)) dX10_addsSeconds_49 ?_
    refine lv_lrem hx hb dX10_addsSeconds_52 (by decide) ?_
    refine lv_l2i hx hb dX10_addsSeconds_53 rfl ?_
    refine va_put (D := (dC, dI)) (ci := 9) (v := .int ((z1 - z1 / (86400 : Int64) * (86400 : Int64)).toInt32)) (ty := .int) (C := RX10) (T := TX10) (N := 29) hx hb hts inX10 tyX10 tyX10_ok nmX10 hown hK hP hD hS 0 rfl rfl 14 (by decide) (hts _ (kq q_1000 rfl)) (fun _ h9 => h9) rfl (by decide +kernel) rfl rfl (Nat.le_of_ble_eq_true rfl) dX10_addsSeconds_54 (fun H locs hP hD hS => ?_)
    have hP : va_P (dC, dI) vwCl [(h_this, .inr (9, [.ref h_this_dayAt, .ref h_this_secondAt, .ref h_this_spans, .ref h_this_kept, .int (i_this 4), .ref h_this_text, .int (i_this 6), .ref h_this_row, .int (i_this 8), .int (i_this 9), .int (i_this 10), .int (i_this 11), .int (i_this 12), .int ((z1 / (86400 : Int64)).toInt32), .int ((z1 - z1 / (86400 : Int64) * (86400 : Int64)).toInt32), .int (i_this 15), .int (i_this 16), .int (i_this 17), .int (i_this 18), .ref h_this_read, .long (j_this 20), .ref h_this_many, .ref h_this_first, .ref h_this_lengths, .int (i_this 24), .long (j_this 25), .long (j_this 26), .ref h_this_page, .int (i_this 28)]))] H := hP
    have hD : va_D A [(h_this, .inr (9, [.ref h_this_dayAt, .ref h_this_secondAt, .ref h_this_spans, .ref h_this_kept, .int (i_this 4), .ref h_this_text, .int (i_this 6), .ref h_this_row, .int (i_this 8), .int (i_this 9), .int (i_this 10), .int (i_this 11), .int (i_this 12), .int ((z1 / (86400 : Int64)).toInt32), .int ((z1 - z1 / (86400 : Int64) * (86400 : Int64)).toInt32), .int (i_this 15), .int (i_this 16), .int (i_this 17), .int (i_this 18), .ref h_this_read, .long (j_this 20), .ref h_this_many, .ref h_this_first, .ref h_this_lengths, .int (i_this 24), .long (j_this 25), .long (j_this 26), .ref h_this_page, .int (i_this 28)]))] := hD
    refine lv_iconst (v := (1 : Int32)) hx hb dX10_addsSeconds_57 (by decide) ?_
    have hP : va_P (dC, dI) vwCl [cl_X10 h_this h_this_dayAt h_this_secondAt h_this_spans h_this_kept h_this_text h_this_row h_this_read h_this_many h_this_first h_this_lengths h_this_page (upd (upd i_this 13 ((z1 / (86400 : Int64)).toInt32)) 14 ((z1 - z1 / (86400 : Int64) * (86400 : Int64)).toInt32)) j_this] H := hP
    have hD : va_D A [cl_X10 h_this h_this_dayAt h_this_secondAt h_this_spans h_this_kept h_this_text h_this_row h_this_read h_this_many h_this_first h_this_lengths h_this_page (upd (upd i_this 13 ((z1 / (86400 : Int64)).toInt32)) 14 ((z1 - z1 / (86400 : Int64) * (86400 : Int64)).toInt32)) j_this] := hD
    obtain ⟨rfl, rfl⟩ := pj2 h
    exact hEnd _ _ _ _ hP hS dX10_addsSeconds_58 rfl
  have h := ite_t c5 h
  refine lv_iconst (v := (0 : Int32)) hx hb dX10_addsSeconds_35 (by decide) ?_
  obtain ⟨rfl, rfl⟩ := pj2 h
  exact hEnd _ _ _ _ hP hS dX10_addsSeconds_36 rfl
noncomputable def fX10_adds (N : Nat) (p1 : Int64) (p2 : Int64) (p3 : Int64) (p4 : Int32) (p5 : Int32) (i_this : Nat → Int32) (j_this : Nat → Int64) : Option (Int32 × (Nat → Int32)) := (if p5 = (0 : Int32) then (bd2 (fX10_addsMonths N p1 p4 (upd i_this 15 (0 : Int32)) j_this) fun r14 i_this_15 => (if r14 = (0 : Int32) then (some ((0 : Int32), i_this_15)) else (bd2 (fX10_addsDays N p2 i_this_15 j_this) fun r18 i_this_19 => (if r18 = (0 : Int32) then (some ((0 : Int32), i_this_19)) else (bd2 (fX10_addsSeconds N p3 i_this_19 j_this) fun r22 i_this_23 => (if r22 = (0 : Int32) then (some ((0 : Int32), i_this_23)) else (some ((1 : Int32), i_this_23)))))))) else (bd2 (fX10_addsSeconds N p3 (upd i_this 15 (0 : Int32)) j_this) fun r2 i_this_3 => (if r2 = (0 : Int32) then (some ((0 : Int32), i_this_3)) else (bd2 (fX10_addsDays N p2 i_this_3 j_this) fun r6 i_this_7 => (if r6 = (0 : Int32) then (some ((0 : Int32), i_this_7)) else (bd2 (fX10_addsMonths N p1 p4 i_this_7 j_this) fun r10 i_this_11 => (if r10 = (0 : Int32) then (some ((0 : Int32), i_this_11)) else (some ((1 : Int32), i_this_11)))))))))
set_option maxHeartbeats 4000000 in
set_option maxRecDepth 100000 in
theorem kX10_adds (l : Launch) (dC : Nat → ClassId) (dI : Nat → Nat → Nat) (cI cJ cB : ClassId) (h_this h_this_dayAt h_this_secondAt h_this_spans h_this_kept h_this_text h_this_row h_this_read h_this_many h_this_first h_this_lengths h_this_page : Nat) (N : Nat) (p1 : Int64) (p2 : Int64) (p3 : Int64) (p4 : Int32) (p5 : Int32) (i_this : Nat → Int32) (j_this : Nat → Int64) (r : Int32) (o_i_this : Nat → Int32) (hf : fX10_adds N p1 p2 p3 p4 p5 i_this j_this = some (r, o_i_this)) : MI l yX10_adds (kws yX10_adds cX10_adds 9 (some .boolean)) (kR 4 97) (dC, dI) (kT cI cJ cB) [.ref h_this, .long p1, .long p2, .long p3, .int p4, .int p5] [cl_X10 h_this h_this_dayAt h_this_secondAt h_this_spans h_this_kept h_this_text h_this_row h_this_read h_this_many h_this_first h_this_lengths h_this_page i_this j_this] [cl_X10 h_this h_this_dayAt h_this_secondAt h_this_spans h_this_kept h_this_text h_this_row h_this_read h_this_many h_this_first h_this_lengths h_this_page o_i_this j_this] r := by
  refine MI.of (cc := cX10_adds) (maxL := 9) (by decide) (Nat.le_of_ble_eq_true rfl) (fun p e s m args below meth c A Q ls KC hN hK hP hD hA hl hEnd => ?_)
  obtain ⟨hx, hb, hml, hown, hts⟩ := KC
  have hown : s.vm.findClass "DateSpansModel" = some m.cls := hown
  have hl : lv_has ls 9 [(0, .ref h_this), (1, .long p1), (3, .long p2), (5, .long p3), (7, .int p4), (8, .int p5)] := hl
  have hS : va_S A s.heap s.heap [] := va_S.rf
  have h := hf
  unfold fX10_adds at h
  refine lv_aload_n hx hb dX10_adds_0 rfl (lv_at hl 0 rfl) ?_
  refine lv_iconst (v := (0 : Int32)) hx hb dX10_adds_1 (by decide) ?_
  refine va_put (D := (dC, dI)) (ci := 9) (v := .int (0 : Int32)) (ty := .int) (C := RX10) (T := TX10) (N := 29) hx hb hts inX10 tyX10 tyX10_ok nmX10 hown hK hP hD hS 0 rfl rfl 15 (by decide) (hts _ (kq q_1001 rfl)) (fun _ h9 => h9) rfl (by decide +kernel) rfl rfl (Nat.le_of_ble_eq_true rfl) dX10_adds_2 (fun H locs hP hD hS => ?_)
  have hP : va_P (dC, dI) vwCl [(h_this, .inr (9, [.ref h_this_dayAt, .ref h_this_secondAt, .ref h_this_spans, .ref h_this_kept, .int (i_this 4), .ref h_this_text, .int (i_this 6), .ref h_this_row, .int (i_this 8), .int (i_this 9), .int (i_this 10), .int (i_this 11), .int (i_this 12), .int (i_this 13), .int (i_this 14), .int (0 : Int32), .int (i_this 16), .int (i_this 17), .int (i_this 18), .ref h_this_read, .long (j_this 20), .ref h_this_many, .ref h_this_first, .ref h_this_lengths, .int (i_this 24), .long (j_this 25), .long (j_this 26), .ref h_this_page, .int (i_this 28)]))] H := hP
  have hD : va_D A [(h_this, .inr (9, [.ref h_this_dayAt, .ref h_this_secondAt, .ref h_this_spans, .ref h_this_kept, .int (i_this 4), .ref h_this_text, .int (i_this 6), .ref h_this_row, .int (i_this 8), .int (i_this 9), .int (i_this 10), .int (i_this 11), .int (i_this 12), .int (i_this 13), .int (i_this 14), .int (0 : Int32), .int (i_this 16), .int (i_this 17), .int (i_this 18), .ref h_this_read, .long (j_this 20), .ref h_this_many, .ref h_this_first, .ref h_this_lengths, .int (i_this 24), .long (j_this 25), .long (j_this 26), .ref h_this_page, .int (i_this 28)]))] := hD
  refine lv_iload hx hb dX10_adds_5 (lv_at hl 5 rfl) ?_
  refine lv_if_ne (tgt := 43) hx hb dX10_adds_7 (by decide) (fun c1 => ?_) (fun c1 => ?_)
  · have h := ite_f c1 h
    refine lv_aload_n hx hb dX10_adds_43 rfl (lv_at hl 0 rfl) ?_
    refine lv_lload hx hb dX10_adds_44 (lv_at hl 3 rfl) ?_
    have hP : va_P (dC, dI) vwCl [cl_X10 h_this h_this_dayAt h_this_secondAt h_this_spans h_this_kept h_this_text h_this_row h_this_read h_this_many h_this_first h_this_lengths h_this_page (upd i_this 15 (0 : Int32)) j_this] H := hP
    have hD : va_D A [cl_X10 h_this h_this_dayAt h_this_secondAt h_this_spans h_this_kept h_this_text h_this_row h_this_read h_this_many h_this_first h_this_lengths h_this_page (upd i_this 15 (0 : Int32)) j_this] := hD
    obtain ⟨r2, i_this_3, hc4, h⟩ := bd2_at h
    refine kjI (kV (own := "DateSpansModel") (C := "DateSpansModel") (b := h_this) (As := [.long p3]) (rest := []) ⟨hx, hb, hml, hown, hts⟩ (kX10_addsSeconds l dC dI cI cJ cB h_this h_this_dayAt h_this_secondAt h_this_spans h_this_kept h_this_text h_this_row h_this_read h_this_many h_this_first h_this_lengths h_this_page N p3 (upd i_this 15 (0 : Int32)) j_this r2 i_this_3 hc4 _) (kgV (kq q_1305 rfl) (kq q_1307 rfl) (kq q_37 rfl) (kq q_66 rfl) (kq q_1308 rfl)) yd_X10_addsSeconds ⟨Nat.le_of_ble_eq_true rfl, Nat.le_of_ble_eq_true rfl⟩ hN hK hP hD [0] rfl rfl (ci := 9) rfl rfl rfl rfl rfl hl.1 rfl (lv_room (Nat.le_of_ble_eq_true rfl)) dX10_adds_46) hP hD hS hA [0] rfl rfl (fun H locs hP hD hS => ?_)
    have hP : va_P (dC, dI) vwCl [cl_X10 h_this h_this_dayAt h_this_secondAt h_this_spans h_this_kept h_this_text h_this_row h_this_read h_this_many h_this_first h_this_lengths h_this_page i_this_3 j_this] H := hP
    have hD : va_D A [cl_X10 h_this h_this_dayAt h_this_secondAt h_this_spans h_this_kept h_this_text h_this_row h_this_read h_this_many h_this_first h_this_lengths h_this_page i_this_3 j_this] := hD
    refine lv_if_eq (tgt := 74) hx hb dX10_adds_49 (by decide) (fun c5 => ?_) (fun c5 => ?_)
    · have h := ite_t c5 h
      refine lv_iconst (v := (0 : Int32)) hx hb dX10_adds_74 (by decide) ?_
      obtain ⟨rfl, rfl⟩ := pj2 h
      exact hEnd _ _ _ _ hP hS dX10_adds_75 rfl
    have h := ite_f c5 h
    refine lv_aload_n hx hb dX10_adds_52 rfl (lv_at hl 0 rfl) ?_
    refine lv_lload_n hx hb dX10_adds_53 rfl (lv_at hl 2 rfl) ?_
    obtain ⟨r6, i_this_7, hc8, h⟩ := bd2_at h
    refine kjI (kV (own := "DateSpansModel") (C := "DateSpansModel") (b := h_this) (As := [.long p2]) (rest := []) ⟨hx, hb, hml, hown, hts⟩ (kX10_addsDays l dC dI cI cJ cB h_this h_this_dayAt h_this_secondAt h_this_spans h_this_kept h_this_text h_this_row h_this_read h_this_many h_this_first h_this_lengths h_this_page N p2 i_this_3 j_this r6 i_this_7 hc8 _) (kgV (kq q_1301 rfl) (kq q_1303 rfl) (kq q_36 rfl) (kq q_66 rfl) (kq q_1304 rfl)) yd_X10_addsDays ⟨Nat.le_of_ble_eq_true rfl, Nat.le_of_ble_eq_true rfl⟩ hN hK hP hD [0] rfl rfl (ci := 9) rfl rfl rfl rfl rfl hl.1 rfl (lv_room (Nat.le_of_ble_eq_true rfl)) dX10_adds_54) hP hD hS hA [0] rfl rfl (fun H locs hP hD hS => ?_)
    have hP : va_P (dC, dI) vwCl [cl_X10 h_this h_this_dayAt h_this_secondAt h_this_spans h_this_kept h_this_text h_this_row h_this_read h_this_many h_this_first h_this_lengths h_this_page i_this_7 j_this] H := hP
    have hD : va_D A [cl_X10 h_this h_this_dayAt h_this_secondAt h_this_spans h_this_kept h_this_text h_this_row h_this_read h_this_many h_this_first h_this_lengths h_this_page i_this_7 j_this] := hD
    refine lv_if_eq (tgt := 74) hx hb dX10_adds_57 (by decide) (fun c9 => ?_) (fun c9 => ?_)
    · have h := ite_t c9 h
      refine lv_iconst (v := (0 : Int32)) hx hb dX10_adds_74 (by decide) ?_
      obtain ⟨rfl, rfl⟩ := pj2 h
      exact hEnd _ _ _ _ hP hS dX10_adds_75 rfl
    have h := ite_f c9 h
    refine lv_aload_n hx hb dX10_adds_60 rfl (lv_at hl 0 rfl) ?_
    refine lv_lload_n hx hb dX10_adds_61 rfl (lv_at hl 1 rfl) ?_
    refine lv_iload hx hb dX10_adds_62 (lv_at hl 4 rfl) ?_
    obtain ⟨r10, i_this_11, hc12, h⟩ := bd2_at h
    refine kjI (kV (own := "DateSpansModel") (C := "DateSpansModel") (b := h_this) (As := [.long p1, .int p4]) (rest := []) ⟨hx, hb, hml, hown, hts⟩ (kX10_addsMonths l dC dI cI cJ cB h_this h_this_dayAt h_this_secondAt h_this_spans h_this_kept h_this_text h_this_row h_this_read h_this_many h_this_first h_this_lengths h_this_page N p1 p4 i_this_7 j_this r10 i_this_11 hc12 _) (kgV (kq q_1294 rfl) (kq q_1296 rfl) (kq q_35 rfl) (kq q_66 rfl) (kq q_1297 rfl)) yd_X10_addsMonths ⟨Nat.le_of_ble_eq_true rfl, Nat.le_of_ble_eq_true rfl⟩ hN hK hP hD [0] rfl rfl (ci := 9) rfl rfl rfl rfl rfl hl.1 rfl (lv_room (Nat.le_of_ble_eq_true rfl)) dX10_adds_64) hP hD hS hA [0] rfl rfl (fun H locs hP hD hS => ?_)
    have hP : va_P (dC, dI) vwCl [cl_X10 h_this h_this_dayAt h_this_secondAt h_this_spans h_this_kept h_this_text h_this_row h_this_read h_this_many h_this_first h_this_lengths h_this_page i_this_11 j_this] H := hP
    have hD : va_D A [cl_X10 h_this h_this_dayAt h_this_secondAt h_this_spans h_this_kept h_this_text h_this_row h_this_read h_this_many h_this_first h_this_lengths h_this_page i_this_11 j_this] := hD
    refine lv_if_eq (tgt := 74) hx hb dX10_adds_67 (by decide) (fun c13 => ?_) (fun c13 => ?_)
    · have h := ite_t c13 h
      refine lv_iconst (v := (0 : Int32)) hx hb dX10_adds_74 (by decide) ?_
      obtain ⟨rfl, rfl⟩ := pj2 h
      exact hEnd _ _ _ _ hP hS dX10_adds_75 rfl
    have h := ite_f c13 h
    refine lv_iconst (v := (1 : Int32)) hx hb dX10_adds_70 (by decide) ?_
    refine lv_goto (tgt := 75) hx hb dX10_adds_71 (by decide) ?_
    obtain ⟨rfl, rfl⟩ := pj2 h
    exact hEnd _ _ _ _ hP hS dX10_adds_75 rfl
  have h := ite_t c1 h
  refine lv_aload_n hx hb dX10_adds_10 rfl (lv_at hl 0 rfl) ?_
  refine lv_lload_n hx hb dX10_adds_11 rfl (lv_at hl 1 rfl) ?_
  refine lv_iload hx hb dX10_adds_12 (lv_at hl 4 rfl) ?_
  have hP : va_P (dC, dI) vwCl [cl_X10 h_this h_this_dayAt h_this_secondAt h_this_spans h_this_kept h_this_text h_this_row h_this_read h_this_many h_this_first h_this_lengths h_this_page (upd i_this 15 (0 : Int32)) j_this] H := hP
  have hD : va_D A [cl_X10 h_this h_this_dayAt h_this_secondAt h_this_spans h_this_kept h_this_text h_this_row h_this_read h_this_many h_this_first h_this_lengths h_this_page (upd i_this 15 (0 : Int32)) j_this] := hD
  obtain ⟨r14, i_this_15, hc16, h⟩ := bd2_at h
  refine kjI (kV (own := "DateSpansModel") (C := "DateSpansModel") (b := h_this) (As := [.long p1, .int p4]) (rest := []) ⟨hx, hb, hml, hown, hts⟩ (kX10_addsMonths l dC dI cI cJ cB h_this h_this_dayAt h_this_secondAt h_this_spans h_this_kept h_this_text h_this_row h_this_read h_this_many h_this_first h_this_lengths h_this_page N p1 p4 (upd i_this 15 (0 : Int32)) j_this r14 i_this_15 hc16 _) (kgV (kq q_1294 rfl) (kq q_1296 rfl) (kq q_35 rfl) (kq q_66 rfl) (kq q_1297 rfl)) yd_X10_addsMonths ⟨Nat.le_of_ble_eq_true rfl, Nat.le_of_ble_eq_true rfl⟩ hN hK hP hD [0] rfl rfl (ci := 9) rfl rfl rfl rfl rfl hl.1 rfl (lv_room (Nat.le_of_ble_eq_true rfl)) dX10_adds_14) hP hD hS hA [0] rfl rfl (fun H locs hP hD hS => ?_)
  have hP : va_P (dC, dI) vwCl [cl_X10 h_this h_this_dayAt h_this_secondAt h_this_spans h_this_kept h_this_text h_this_row h_this_read h_this_many h_this_first h_this_lengths h_this_page i_this_15 j_this] H := hP
  have hD : va_D A [cl_X10 h_this h_this_dayAt h_this_secondAt h_this_spans h_this_kept h_this_text h_this_row h_this_read h_this_many h_this_first h_this_lengths h_this_page i_this_15 j_this] := hD
  refine lv_if_eq (tgt := 41) hx hb dX10_adds_17 (by decide) (fun c17 => ?_) (fun c17 => ?_)
  · have h := ite_t c17 h
    refine lv_iconst (v := (0 : Int32)) hx hb dX10_adds_41 (by decide) ?_
    obtain ⟨rfl, rfl⟩ := pj2 h
    exact hEnd _ _ _ _ hP hS dX10_adds_42 rfl
  have h := ite_f c17 h
  refine lv_aload_n hx hb dX10_adds_20 rfl (lv_at hl 0 rfl) ?_
  refine lv_lload_n hx hb dX10_adds_21 rfl (lv_at hl 2 rfl) ?_
  obtain ⟨r18, i_this_19, hc20, h⟩ := bd2_at h
  refine kjI (kV (own := "DateSpansModel") (C := "DateSpansModel") (b := h_this) (As := [.long p2]) (rest := []) ⟨hx, hb, hml, hown, hts⟩ (kX10_addsDays l dC dI cI cJ cB h_this h_this_dayAt h_this_secondAt h_this_spans h_this_kept h_this_text h_this_row h_this_read h_this_many h_this_first h_this_lengths h_this_page N p2 i_this_15 j_this r18 i_this_19 hc20 _) (kgV (kq q_1301 rfl) (kq q_1303 rfl) (kq q_36 rfl) (kq q_66 rfl) (kq q_1304 rfl)) yd_X10_addsDays ⟨Nat.le_of_ble_eq_true rfl, Nat.le_of_ble_eq_true rfl⟩ hN hK hP hD [0] rfl rfl (ci := 9) rfl rfl rfl rfl rfl hl.1 rfl (lv_room (Nat.le_of_ble_eq_true rfl)) dX10_adds_22) hP hD hS hA [0] rfl rfl (fun H locs hP hD hS => ?_)
  have hP : va_P (dC, dI) vwCl [cl_X10 h_this h_this_dayAt h_this_secondAt h_this_spans h_this_kept h_this_text h_this_row h_this_read h_this_many h_this_first h_this_lengths h_this_page i_this_19 j_this] H := hP
  have hD : va_D A [cl_X10 h_this h_this_dayAt h_this_secondAt h_this_spans h_this_kept h_this_text h_this_row h_this_read h_this_many h_this_first h_this_lengths h_this_page i_this_19 j_this] := hD
  refine lv_if_eq (tgt := 41) hx hb dX10_adds_25 (by decide) (fun c21 => ?_) (fun c21 => ?_)
  · have h := ite_t c21 h
    refine lv_iconst (v := (0 : Int32)) hx hb dX10_adds_41 (by decide) ?_
    obtain ⟨rfl, rfl⟩ := pj2 h
    exact hEnd _ _ _ _ hP hS dX10_adds_42 rfl
  have h := ite_f c21 h
  refine lv_aload_n hx hb dX10_adds_28 rfl (lv_at hl 0 rfl) ?_
  refine lv_lload hx hb dX10_adds_29 (lv_at hl 3 rfl) ?_
  obtain ⟨r22, i_this_23, hc24, h⟩ := bd2_at h
  refine kjI (kV (own := "DateSpansModel") (C := "DateSpansModel") (b := h_this) (As := [.long p3]) (rest := []) ⟨hx, hb, hml, hown, hts⟩ (kX10_addsSeconds l dC dI cI cJ cB h_this h_this_dayAt h_this_secondAt h_this_spans h_this_kept h_this_text h_this_row h_this_read h_this_many h_this_first h_this_lengths h_this_page N p3 i_this_19 j_this r22 i_this_23 hc24 _) (kgV (kq q_1305 rfl) (kq q_1307 rfl) (kq q_37 rfl) (kq q_66 rfl) (kq q_1308 rfl)) yd_X10_addsSeconds ⟨Nat.le_of_ble_eq_true rfl, Nat.le_of_ble_eq_true rfl⟩ hN hK hP hD [0] rfl rfl (ci := 9) rfl rfl rfl rfl rfl hl.1 rfl (lv_room (Nat.le_of_ble_eq_true rfl)) dX10_adds_31) hP hD hS hA [0] rfl rfl (fun H locs hP hD hS => ?_)
  have hP : va_P (dC, dI) vwCl [cl_X10 h_this h_this_dayAt h_this_secondAt h_this_spans h_this_kept h_this_text h_this_row h_this_read h_this_many h_this_first h_this_lengths h_this_page i_this_23 j_this] H := hP
  have hD : va_D A [cl_X10 h_this h_this_dayAt h_this_secondAt h_this_spans h_this_kept h_this_text h_this_row h_this_read h_this_many h_this_first h_this_lengths h_this_page i_this_23 j_this] := hD
  refine lv_if_eq (tgt := 41) hx hb dX10_adds_34 (by decide) (fun c25 => ?_) (fun c25 => ?_)
  · have h := ite_t c25 h
    refine lv_iconst (v := (0 : Int32)) hx hb dX10_adds_41 (by decide) ?_
    obtain ⟨rfl, rfl⟩ := pj2 h
    exact hEnd _ _ _ _ hP hS dX10_adds_42 rfl
  have h := ite_f c25 h
  refine lv_iconst (v := (1 : Int32)) hx hb dX10_adds_37 (by decide) ?_
  refine lv_goto (tgt := 42) hx hb dX10_adds_38 (by decide) ?_
  obtain ⟨rfl, rfl⟩ := pj2 h
  exact hEnd _ _ _ _ hP hS dX10_adds_42 rfl
noncomputable def fX10_addsSpan (N : Nat) (p1 : Int32) (p2 : Int64) (p3 : Int32) (p4 : Int32) (i_this : Nat → Int32) (j_this : Nat → Int64) (f_this_spans : Nat → Int32) : Option (Int32 × (Nat → Int32)) := (gi ((3 : Int32) * p1) 24 (gi (((3 : Int32) * p1) + (1 : Int32)) 24 (gi (((3 : Int32) * p1) + (2 : Int32)) 24 (bd2 (fX10_adds N (p2 * (f_this_spans ((3 : Int32) * p1).toNatClampNeg).toInt64) (p2 * (f_this_spans (((3 : Int32) * p1) + (1 : Int32)).toNatClampNeg).toInt64) (p2 * (f_this_spans (((3 : Int32) * p1) + (2 : Int32)).toNatClampNeg).toInt64) p3 p4 i_this j_this) fun r4 i_this_5 => (gz r4 (some (r4, i_this_5)))))))
set_option maxHeartbeats 4000000 in
set_option maxRecDepth 100000 in
theorem kX10_addsSpan (l : Launch) (dC : Nat → ClassId) (dI : Nat → Nat → Nat) (cI cJ cB : ClassId) (h_this h_this_dayAt h_this_secondAt h_this_spans h_this_kept h_this_text h_this_row h_this_read h_this_many h_this_first h_this_lengths h_this_page : Nat) (N : Nat) (p1 : Int32) (p2 : Int64) (p3 : Int32) (p4 : Int32) (i_this : Nat → Int32) (j_this : Nat → Int64) (f_this_spans : Nat → Int32) (r : Int32) (o_i_this : Nat → Int32) (hf : fX10_addsSpan N p1 p2 p3 p4 i_this j_this f_this_spans = some (r, o_i_this)) : MI l yX10_addsSpan (kws yX10_addsSpan cX10_addsSpan 6 (some .boolean)) (kR 5 125) (dC, dI) (kT cI cJ cB) [.ref h_this, .int p1, .long p2, .int p3, .int p4] [cl_X10 h_this h_this_dayAt h_this_secondAt h_this_spans h_this_kept h_this_text h_this_row h_this_read h_this_many h_this_first h_this_lengths h_this_page i_this j_this, (h_this_spans, .inl (cI, 24, .inl f_this_spans))] [cl_X10 h_this h_this_dayAt h_this_secondAt h_this_spans h_this_kept h_this_text h_this_row h_this_read h_this_many h_this_first h_this_lengths h_this_page o_i_this j_this, (h_this_spans, .inl (cI, 24, .inl f_this_spans))] r := by
  refine MI.of (cc := cX10_addsSpan) (maxL := 6) (by decide) (Nat.le_of_ble_eq_true rfl) (fun p e s m args below meth c A Q ls KC hN hK hP hD hA hl hEnd => ?_)
  obtain ⟨hx, hb, hml, hown, hts⟩ := KC
  have hown : s.vm.findClass "DateSpansModel" = some m.cls := hown
  have hl : lv_has ls 6 [(0, .ref h_this), (1, .int p1), (2, .long p2), (4, .int p3), (5, .int p4)] := hl
  have hS : va_S A s.heap s.heap [] := va_S.rf
  have h := hf
  unfold fX10_addsSpan at h
  refine lv_aload_n hx hb dX10_addsSpan_0 rfl (lv_at hl 0 rfl) ?_
  refine lv_lload_n hx hb dX10_addsSpan_1 rfl (lv_at hl 2 rfl) ?_
  refine lv_aload_n hx hb dX10_addsSpan_2 rfl (lv_at hl 0 rfl) ?_
  refine va_get (D := (dC, dI)) (ci := 9) (v := .ref h_this_spans) (C := RX10) (T := TX10) (N := 29) hx hb hts inX10 hown hK hP 0 rfl rfl 2 (by decide) (hts _ (kq q_988 rfl)) (fun _ h9 => h9) rfl dX10_addsSpan_3 ?_
  refine lv_iconst (v := (3 : Int32)) hx hb dX10_addsSpan_6 (by decide) ?_
  refine lv_iload_n hx hb dX10_addsSpan_7 rfl (lv_at hl 1 rfl) ?_
  refine lv_imul hx hb dX10_addsSpan_8 ?_
  obtain ⟨hi1, h⟩ := gi_at h
  refine va_iald hx hb hK hP 1 0 rfl rfl hi1 dX10_addsSpan_9 ?_
  refine lv_i2l hx hb dX10_addsSpan_10 rfl ?_
  refine lv_lmul hx hb dX10_addsSpan_11 ?_
  refine lv_lload_n hx hb dX10_addsSpan_12 rfl (lv_at hl 2 rfl) ?_
  refine lv_aload_n hx hb dX10_addsSpan_13 rfl (lv_at hl 0 rfl) ?_
  refine va_get (D := (dC, dI)) (ci := 9) (v := .ref h_this_spans) (C := RX10) (T := TX10) (N := 29) hx hb hts inX10 hown hK hP 0 rfl rfl 2 (by decide) (hts _ (kq q_988 rfl)) (fun _ h9 => h9) rfl dX10_addsSpan_14 ?_
  refine lv_iconst (v := (3 : Int32)) hx hb dX10_addsSpan_17 (by decide) ?_
  refine lv_iload_n hx hb dX10_addsSpan_18 rfl (lv_at hl 1 rfl) ?_
  refine lv_imul hx hb dX10_addsSpan_19 ?_
  refine lv_iconst (v := (1 : Int32)) hx hb dX10_addsSpan_20 (by decide) ?_
  refine lv_iadd hx hb dX10_addsSpan_21 ?_
  obtain ⟨hi2, h⟩ := gi_at h
  refine va_iald hx hb hK hP 1 0 rfl rfl hi2 dX10_addsSpan_22 ?_
  refine lv_i2l hx hb dX10_addsSpan_23 rfl ?_
  refine lv_lmul hx hb dX10_addsSpan_24 ?_
  refine lv_lload_n hx hb dX10_addsSpan_25 rfl (lv_at hl 2 rfl) ?_
  refine lv_aload_n hx hb dX10_addsSpan_26 rfl (lv_at hl 0 rfl) ?_
  refine va_get (D := (dC, dI)) (ci := 9) (v := .ref h_this_spans) (C := RX10) (T := TX10) (N := 29) hx hb hts inX10 hown hK hP 0 rfl rfl 2 (by decide) (hts _ (kq q_988 rfl)) (fun _ h9 => h9) rfl dX10_addsSpan_27 ?_
  refine lv_iconst (v := (3 : Int32)) hx hb dX10_addsSpan_30 (by decide) ?_
  refine lv_iload_n hx hb dX10_addsSpan_31 rfl (lv_at hl 1 rfl) ?_
  refine lv_imul hx hb dX10_addsSpan_32 ?_
  refine lv_iconst (v := (2 : Int32)) hx hb dX10_addsSpan_33 (by decide) ?_
  refine lv_iadd hx hb dX10_addsSpan_34 ?_
  obtain ⟨hi3, h⟩ := gi_at h
  refine va_iald hx hb hK hP 1 0 rfl rfl hi3 dX10_addsSpan_35 ?_
  refine lv_i2l hx hb dX10_addsSpan_36 rfl ?_
  refine lv_lmul hx hb dX10_addsSpan_37 ?_
  refine lv_iload hx hb dX10_addsSpan_38 (lv_at hl 3 rfl) ?_
  refine lv_iload hx hb dX10_addsSpan_40 (lv_at hl 4 rfl) ?_
  obtain ⟨r4, i_this_5, hc6, h⟩ := bd2_at h
  refine kjI (kV (own := "DateSpansModel") (C := "DateSpansModel") (b := h_this) (As := [.long (p2 * (f_this_spans ((3 : Int32) * p1).toNatClampNeg).toInt64), .long (p2 * (f_this_spans (((3 : Int32) * p1) + (1 : Int32)).toNatClampNeg).toInt64), .long (p2 * (f_this_spans (((3 : Int32) * p1) + (2 : Int32)).toNatClampNeg).toInt64), .int p3, .int p4]) (rest := []) ⟨hx, hb, hml, hown, hts⟩ (kX10_adds l dC dI cI cJ cB h_this h_this_dayAt h_this_secondAt h_this_spans h_this_kept h_this_text h_this_row h_this_read h_this_many h_this_first h_this_lengths h_this_page N (p2 * (f_this_spans ((3 : Int32) * p1).toNatClampNeg).toInt64) (p2 * (f_this_spans (((3 : Int32) * p1) + (1 : Int32)).toNatClampNeg).toInt64) (p2 * (f_this_spans (((3 : Int32) * p1) + (2 : Int32)).toNatClampNeg).toInt64) p3 p4 i_this j_this r4 i_this_5 hc6 _) (kgV (kq q_1290 rfl) (kq q_1292 rfl) (kq q_34 rfl) (kq q_66 rfl) (kq q_1293 rfl)) yd_X10_adds ⟨Nat.le_of_ble_eq_true rfl, Nat.le_of_ble_eq_true rfl⟩ hN hK hP hD [0] rfl rfl (ci := 9) rfl rfl rfl rfl rfl hl.1 rfl (lv_room (Nat.le_of_ble_eq_true rfl)) dX10_addsSpan_42) hP hD hS hA [0] rfl rfl (fun H locs hP hD hS => ?_)
  have hP : va_P (dC, dI) vwCl [cl_X10 h_this h_this_dayAt h_this_secondAt h_this_spans h_this_kept h_this_text h_this_row h_this_read h_this_many h_this_first h_this_lengths h_this_page i_this_5 j_this, (h_this_spans, .inl (cI, 24, .inl f_this_spans))] H := hP
  have hD : va_D A [cl_X10 h_this h_this_dayAt h_this_secondAt h_this_spans h_this_kept h_this_text h_this_row h_this_read h_this_many h_this_first h_this_lengths h_this_page i_this_5 j_this, (h_this_spans, .inl (cI, 24, .inl f_this_spans))] := hD
  obtain ⟨hz7, h⟩ := gz_at h
  obtain ⟨rfl, rfl⟩ := pj2 h
  exact hEnd _ _ _ _ hP hS dX10_addsSpan_45 hz7
noncomputable def fX10_add (N : Nat) (p1 : Int32) (p2 : Int32) (p3 : Int32) (p4 : Int32) (p5 : Int32) (i_this : Nat → Int32) (j_this : Nat → Int64) (f_this_dayAt : Nat → Int32) (f_this_secondAt : Nat → Int32) (f_this_spans : Nat → Int32) (f_this_row : Nat → Int64) : Option (Int32 × (Nat → Int32) × (Nat → Int32) × (Nat → Int32) × (Nat → Int64)) := (bd1 (fX10_isSlot N p1) fun r1 => (if r1 = (0 : Int32) then (some ((-1 : Int32), (upd i_this 9 (0 : Int32)), f_this_dayAt, f_this_secondAt, f_this_row)) else (bd1 (fX10_isSlot N p2) fun r4 => (if r4 = (0 : Int32) then (some ((-1 : Int32), (upd i_this 9 (0 : Int32)), f_this_dayAt, f_this_secondAt, f_this_row)) else (bd1 (fX10_isLaw N p3) fun r7 => (if r7 = (0 : Int32) then (some ((-1 : Int32), (upd i_this 9 (0 : Int32)), f_this_dayAt, f_this_secondAt, f_this_row)) else (bd1 (fX10_isOrder N p4) fun r10 => (if r10 = (0 : Int32) then (some ((-1 : Int32), (upd i_this 9 (0 : Int32)), f_this_dayAt, f_this_secondAt, f_this_row)) else (bd1 (fX10_isSlot N p5) fun r13 => (if r13 = (0 : Int32) then (some ((-1 : Int32), (upd i_this 9 (0 : Int32)), f_this_dayAt, f_this_secondAt, f_this_row)) else (bd1 (fX10_standsAt N p1 (upd i_this 9 (0 : Int32)) j_this f_this_dayAt f_this_secondAt) fun i_this_16 => (bd2 (fX10_addsSpan N p2 (1 : Int64) p3 p4 i_this_16 j_this f_this_spans) fun r18 i_this_19 => (if r18 = (0 : Int32) then (some ((-2 : Int32), i_this_19, f_this_dayAt, f_this_secondAt, f_this_row)) else (bd2 (fX10_comesTo N p5 i_this_19 j_this f_this_dayAt f_this_secondAt) fun f_this_dayAt_22 f_this_secondAt_23 => (bd2 (fX10_tell N ((i_this_19 14).toInt64) (upd i_this_19 8 (0 : Int32)) j_this f_this_row) fun i_this_25 f_this_row_26 => (bd2 (fX10_tell N ((i_this_25 15).toInt64) i_this_25 j_this f_this_row_26) fun i_this_28 f_this_row_29 => (some ((i_this_28 13), i_this_28, f_this_dayAt_22, f_this_secondAt_23, f_this_row_29))))))))))))))))))
set_option maxHeartbeats 4000000 in
set_option maxRecDepth 100000 in
theorem kX10_add (l : Launch) (dC : Nat → ClassId) (dI : Nat → Nat → Nat) (cI cJ cB : ClassId) (h_this h_this_dayAt h_this_secondAt h_this_spans h_this_kept h_this_text h_this_row h_this_read h_this_many h_this_first h_this_lengths h_this_page : Nat) (N : Nat) (p1 : Int32) (p2 : Int32) (p3 : Int32) (p4 : Int32) (p5 : Int32) (i_this : Nat → Int32) (j_this : Nat → Int64) (f_this_dayAt : Nat → Int32) (f_this_secondAt : Nat → Int32) (f_this_spans : Nat → Int32) (f_this_row : Nat → Int64) (r : Int32) (o_i_this : Nat → Int32) (o_f_this_dayAt : Nat → Int32) (o_f_this_secondAt : Nat → Int32) (o_f_this_row : Nat → Int64) (hf : fX10_add N p1 p2 p3 p4 p5 i_this j_this f_this_dayAt f_this_secondAt f_this_spans f_this_row = some (r, o_i_this, o_f_this_dayAt, o_f_this_secondAt, o_f_this_row)) : MI l yX10_add (kws yX10_add cX10_add 6 (some .int)) (kR 6 150) (dC, dI) (kT cI cJ cB) [.ref h_this, .int p1, .int p2, .int p3, .int p4, .int p5] [cl_X10 h_this h_this_dayAt h_this_secondAt h_this_spans h_this_kept h_this_text h_this_row h_this_read h_this_many h_this_first h_this_lengths h_this_page i_this j_this, (h_this_dayAt, .inl (cI, 8, .inl f_this_dayAt)), (h_this_secondAt, .inl (cI, 8, .inl f_this_secondAt)), (h_this_spans, .inl (cI, 24, .inl f_this_spans)), (h_this_row, .inl (cJ, 16, .inr (.inl f_this_row)))] [cl_X10 h_this h_this_dayAt h_this_secondAt h_this_spans h_this_kept h_this_text h_this_row h_this_read h_this_many h_this_first h_this_lengths h_this_page o_i_this j_this, (h_this_dayAt, .inl (cI, 8, .inl o_f_this_dayAt)), (h_this_secondAt, .inl (cI, 8, .inl o_f_this_secondAt)), (h_this_spans, .inl (cI, 24, .inl f_this_spans)), (h_this_row, .inl (cJ, 16, .inr (.inl o_f_this_row)))] r := by
  refine MI.of (cc := cX10_add) (maxL := 6) (by decide) (Nat.le_of_ble_eq_true rfl) (fun p e s m args below meth c A Q ls KC hN hK hP hD hA hl hEnd => ?_)
  obtain ⟨hx, hb, hml, hown, hts⟩ := KC
  have hown : s.vm.findClass "DateSpansModel" = some m.cls := hown
  have hl : lv_has ls 6 [(0, .ref h_this), (1, .int p1), (2, .int p2), (3, .int p3), (4, .int p4), (5, .int p5)] := hl
  have hS : va_S A s.heap s.heap [] := va_S.rf
  have h := hf
  unfold fX10_add at h
  refine lv_aload_n hx hb dX10_add_0 rfl (lv_at hl 0 rfl) ?_
  refine lv_iconst (v := (0 : Int32)) hx hb dX10_add_1 (by decide) ?_
  refine va_put (D := (dC, dI)) (ci := 9) (v := .int (0 : Int32)) (ty := .int) (C := RX10) (T := TX10) (N := 29) hx hb hts inX10 tyX10 tyX10_ok nmX10 hown hK hP hD hS 0 rfl rfl 9 (by decide) (hts _ (kq q_995 rfl)) (fun _ h9 => h9) rfl (by decide +kernel) rfl rfl (Nat.le_of_ble_eq_true rfl) dX10_add_2 (fun H locs hP hD hS => ?_)
  have hP : va_P (dC, dI) vwCl [(h_this, .inr (9, [.ref h_this_dayAt, .ref h_this_secondAt, .ref h_this_spans, .ref h_this_kept, .int (i_this 4), .ref h_this_text, .int (i_this 6), .ref h_this_row, .int (i_this 8), .int (0 : Int32), .int (i_this 10), .int (i_this 11), .int (i_this 12), .int (i_this 13), .int (i_this 14), .int (i_this 15), .int (i_this 16), .int (i_this 17), .int (i_this 18), .ref h_this_read, .long (j_this 20), .ref h_this_many, .ref h_this_first, .ref h_this_lengths, .int (i_this 24), .long (j_this 25), .long (j_this 26), .ref h_this_page, .int (i_this 28)])), (h_this_dayAt, .inl (cI, 8, .inl f_this_dayAt)), (h_this_secondAt, .inl (cI, 8, .inl f_this_secondAt)), (h_this_spans, .inl (cI, 24, .inl f_this_spans)), (h_this_row, .inl (cJ, 16, .inr (.inl f_this_row)))] H := hP
  have hD : va_D A [(h_this, .inr (9, [.ref h_this_dayAt, .ref h_this_secondAt, .ref h_this_spans, .ref h_this_kept, .int (i_this 4), .ref h_this_text, .int (i_this 6), .ref h_this_row, .int (i_this 8), .int (0 : Int32), .int (i_this 10), .int (i_this 11), .int (i_this 12), .int (i_this 13), .int (i_this 14), .int (i_this 15), .int (i_this 16), .int (i_this 17), .int (i_this 18), .ref h_this_read, .long (j_this 20), .ref h_this_many, .ref h_this_first, .ref h_this_lengths, .int (i_this 24), .long (j_this 25), .long (j_this 26), .ref h_this_page, .int (i_this 28)])), (h_this_dayAt, .inl (cI, 8, .inl f_this_dayAt)), (h_this_secondAt, .inl (cI, 8, .inl f_this_secondAt)), (h_this_spans, .inl (cI, 24, .inl f_this_spans)), (h_this_row, .inl (cJ, 16, .inr (.inl f_this_row)))] := hD
  refine lv_iload_n hx hb dX10_add_5 rfl (lv_at hl 1 rfl) ?_
  have hP : va_P (dC, dI) vwCl [cl_X10 h_this h_this_dayAt h_this_secondAt h_this_spans h_this_kept h_this_text h_this_row h_this_read h_this_many h_this_first h_this_lengths h_this_page (upd i_this 9 (0 : Int32)) j_this, (h_this_dayAt, .inl (cI, 8, .inl f_this_dayAt)), (h_this_secondAt, .inl (cI, 8, .inl f_this_secondAt)), (h_this_spans, .inl (cI, 24, .inl f_this_spans)), (h_this_row, .inl (cJ, 16, .inr (.inl f_this_row)))] H := hP
  have hD : va_D A [cl_X10 h_this h_this_dayAt h_this_secondAt h_this_spans h_this_kept h_this_text h_this_row h_this_read h_this_many h_this_first h_this_lengths h_this_page (upd i_this 9 (0 : Int32)) j_this, (h_this_dayAt, .inl (cI, 8, .inl f_this_dayAt)), (h_this_secondAt, .inl (cI, 8, .inl f_this_secondAt)), (h_this_spans, .inl (cI, 24, .inl f_this_spans)), (h_this_row, .inl (cJ, 16, .inr (.inl f_this_row)))] := hD
  obtain ⟨r1, hc2, h⟩ := bd1_at h
  refine kjSI (kS0 (own := "DateSpansModel") (As := [.int p1]) (rest := []) ⟨hx, hb, hml, hown, hts⟩ (kX10_isSlot l N p1 r1 hc2) (kgS (kq q_1123 rfl) (kq q_1124 rfl) (kq q_66 rfl) (kq q_1125 rfl)) yd_X10_isSlot ⟨Nat.le_of_ble_eq_true rfl, Nat.le_of_ble_eq_true rfl⟩ rfl rfl hl.1 rfl (lv_room (Nat.le_of_ble_eq_true rfl)) dX10_add_6) ?_
  refine lv_if_eq (tgt := 42) hx hb dX10_add_9 (by decide) (fun c3 => ?_) (fun c3 => ?_)
  · have h := ite_t c3 h
    refine lv_iconst (v := (-1 : Int32)) hx hb dX10_add_42 (by decide) ?_
    obtain ⟨rfl, rfl, rfl, rfl, rfl⟩ := pj5 h
    exact hEnd _ _ _ _ hP hS dX10_add_43 rfl
  have h := ite_f c3 h
  refine lv_iload_n hx hb dX10_add_12 rfl (lv_at hl 2 rfl) ?_
  obtain ⟨r4, hc5, h⟩ := bd1_at h
  refine kjSI (kS0 (own := "DateSpansModel") (As := [.int p2]) (rest := []) ⟨hx, hb, hml, hown, hts⟩ (kX10_isSlot l N p2 r4 hc5) (kgS (kq q_1123 rfl) (kq q_1124 rfl) (kq q_66 rfl) (kq q_1125 rfl)) yd_X10_isSlot ⟨Nat.le_of_ble_eq_true rfl, Nat.le_of_ble_eq_true rfl⟩ rfl rfl hl.1 rfl (lv_room (Nat.le_of_ble_eq_true rfl)) dX10_add_13) ?_
  refine lv_if_eq (tgt := 42) hx hb dX10_add_16 (by decide) (fun c6 => ?_) (fun c6 => ?_)
  · have h := ite_t c6 h
    refine lv_iconst (v := (-1 : Int32)) hx hb dX10_add_42 (by decide) ?_
    obtain ⟨rfl, rfl, rfl, rfl, rfl⟩ := pj5 h
    exact hEnd _ _ _ _ hP hS dX10_add_43 rfl
  have h := ite_f c6 h
  refine lv_iload_n hx hb dX10_add_19 rfl (lv_at hl 3 rfl) ?_
  obtain ⟨r7, hc8, h⟩ := bd1_at h
  refine kjSI (kS0 (own := "DateSpansModel") (As := [.int p3]) (rest := []) ⟨hx, hb, hml, hown, hts⟩ (kX10_isLaw l N p3 r7 hc8) (kgS (kq q_1275 rfl) (kq q_1276 rfl) (kq q_66 rfl) (kq q_1277 rfl)) yd_X10_isLaw ⟨Nat.le_of_ble_eq_true rfl, Nat.le_of_ble_eq_true rfl⟩ rfl rfl hl.1 rfl (lv_room (Nat.le_of_ble_eq_true rfl)) dX10_add_20) ?_
  refine lv_if_eq (tgt := 42) hx hb dX10_add_23 (by decide) (fun c9 => ?_) (fun c9 => ?_)
  · have h := ite_t c9 h
    refine lv_iconst (v := (-1 : Int32)) hx hb dX10_add_42 (by decide) ?_
    obtain ⟨rfl, rfl, rfl, rfl, rfl⟩ := pj5 h
    exact hEnd _ _ _ _ hP hS dX10_add_43 rfl
  have h := ite_f c9 h
  refine lv_iload hx hb dX10_add_26 (lv_at hl 4 rfl) ?_
  obtain ⟨r10, hc11, h⟩ := bd1_at h
  refine kjSI (kS0 (own := "DateSpansModel") (As := [.int p4]) (rest := []) ⟨hx, hb, hml, hown, hts⟩ (kX10_isOrder l N p4 r10 hc11) (kgS (kq q_1279 rfl) (kq q_1280 rfl) (kq q_66 rfl) (kq q_1281 rfl)) yd_X10_isOrder ⟨Nat.le_of_ble_eq_true rfl, Nat.le_of_ble_eq_true rfl⟩ rfl rfl hl.1 rfl (lv_room (Nat.le_of_ble_eq_true rfl)) dX10_add_28) ?_
  refine lv_if_eq (tgt := 42) hx hb dX10_add_31 (by decide) (fun c12 => ?_) (fun c12 => ?_)
  · have h := ite_t c12 h
    refine lv_iconst (v := (-1 : Int32)) hx hb dX10_add_42 (by decide) ?_
    obtain ⟨rfl, rfl, rfl, rfl, rfl⟩ := pj5 h
    exact hEnd _ _ _ _ hP hS dX10_add_43 rfl
  have h := ite_f c12 h
  refine lv_iload hx hb dX10_add_34 (lv_at hl 5 rfl) ?_
  obtain ⟨r13, hc14, h⟩ := bd1_at h
  refine kjSI (kS0 (own := "DateSpansModel") (As := [.int p5]) (rest := []) ⟨hx, hb, hml, hown, hts⟩ (kX10_isSlot l N p5 r13 hc14) (kgS (kq q_1123 rfl) (kq q_1124 rfl) (kq q_66 rfl) (kq q_1125 rfl)) yd_X10_isSlot ⟨Nat.le_of_ble_eq_true rfl, Nat.le_of_ble_eq_true rfl⟩ rfl rfl hl.1 rfl (lv_room (Nat.le_of_ble_eq_true rfl)) dX10_add_36) ?_
  refine lv_if_ne (tgt := 44) hx hb dX10_add_39 (by decide) (fun c15 => ?_) (fun c15 => ?_)
  · have h := ite_f c15 h
    refine lv_aload_n hx hb dX10_add_44 rfl (lv_at hl 0 rfl) ?_
    refine lv_iload_n hx hb dX10_add_45 rfl (lv_at hl 1 rfl) ?_
    obtain ⟨i_this_16, hc17, h⟩ := bd1_at h
    refine kjV (kV (own := "DateSpansModel") (C := "DateSpansModel") (b := h_this) (As := [.int p1]) (rest := []) ⟨hx, hb, hml, hown, hts⟩ (kX10_standsAt l dC dI cI cJ cB h_this h_this_dayAt h_this_secondAt h_this_spans h_this_kept h_this_text h_this_row h_this_read h_this_many h_this_first h_this_lengths h_this_page N p1 (upd i_this 9 (0 : Int32)) j_this f_this_dayAt f_this_secondAt i_this_16 hc17 _) (kgV (kq q_1282 rfl) (kq q_1284 rfl) (kq q_32 rfl) (kq q_66 rfl) (kq q_1285 rfl)) yd_X10_standsAt ⟨Nat.le_of_ble_eq_true rfl, Nat.le_of_ble_eq_true rfl⟩ hN hK hP hD [0, 1, 2] rfl rfl (ci := 9) rfl rfl rfl rfl rfl hl.1 rfl (lv_room (Nat.le_of_ble_eq_true rfl)) dX10_add_46) hP hD hS hA [0, 1, 2] rfl rfl (fun H locs hP hD hS => ?_)
    have hP : va_P (dC, dI) vwCl [cl_X10 h_this h_this_dayAt h_this_secondAt h_this_spans h_this_kept h_this_text h_this_row h_this_read h_this_many h_this_first h_this_lengths h_this_page i_this_16 j_this, (h_this_dayAt, .inl (cI, 8, .inl f_this_dayAt)), (h_this_secondAt, .inl (cI, 8, .inl f_this_secondAt)), (h_this_spans, .inl (cI, 24, .inl f_this_spans)), (h_this_row, .inl (cJ, 16, .inr (.inl f_this_row)))] H := hP
    have hD : va_D A [cl_X10 h_this h_this_dayAt h_this_secondAt h_this_spans h_this_kept h_this_text h_this_row h_this_read h_this_many h_this_first h_this_lengths h_this_page i_this_16 j_this, (h_this_dayAt, .inl (cI, 8, .inl f_this_dayAt)), (h_this_secondAt, .inl (cI, 8, .inl f_this_secondAt)), (h_this_spans, .inl (cI, 24, .inl f_this_spans)), (h_this_row, .inl (cJ, 16, .inr (.inl f_this_row)))] := hD
    refine lv_aload_n hx hb dX10_add_49 rfl (lv_at hl 0 rfl) ?_
    refine lv_iload_n hx hb dX10_add_50 rfl (lv_at hl 2 rfl) ?_
    refine lv_lconst (v := (1 : Int64)) hx hb dX10_add_51 (by decide) ?_
    refine lv_iload_n hx hb dX10_add_52 rfl (lv_at hl 3 rfl) ?_
    refine lv_iload hx hb dX10_add_53 (lv_at hl 4 rfl) ?_
    obtain ⟨r18, i_this_19, hc20, h⟩ := bd2_at h
    refine kjI (kV (own := "DateSpansModel") (C := "DateSpansModel") (b := h_this) (As := [.int p2, .long (1 : Int64), .int p3, .int p4]) (rest := []) ⟨hx, hb, hml, hown, hts⟩ (kX10_addsSpan l dC dI cI cJ cB h_this h_this_dayAt h_this_secondAt h_this_spans h_this_kept h_this_text h_this_row h_this_read h_this_many h_this_first h_this_lengths h_this_page N p2 (1 : Int64) p3 p4 i_this_16 j_this f_this_spans r18 i_this_19 hc20 _) (kgV (kq q_1286 rfl) (kq q_1288 rfl) (kq q_33 rfl) (kq q_66 rfl) (kq q_1289 rfl)) yd_X10_addsSpan ⟨Nat.le_of_ble_eq_true rfl, Nat.le_of_ble_eq_true rfl⟩ hN hK hP hD [0, 3] rfl rfl (ci := 9) rfl rfl rfl rfl rfl hl.1 rfl (lv_room (Nat.le_of_ble_eq_true rfl)) dX10_add_55) hP hD hS hA [0, 3] rfl rfl (fun H locs hP hD hS => ?_)
    have hP : va_P (dC, dI) vwCl [cl_X10 h_this h_this_dayAt h_this_secondAt h_this_spans h_this_kept h_this_text h_this_row h_this_read h_this_many h_this_first h_this_lengths h_this_page i_this_19 j_this, (h_this_dayAt, .inl (cI, 8, .inl f_this_dayAt)), (h_this_secondAt, .inl (cI, 8, .inl f_this_secondAt)), (h_this_spans, .inl (cI, 24, .inl f_this_spans)), (h_this_row, .inl (cJ, 16, .inr (.inl f_this_row)))] H := hP
    have hD : va_D A [cl_X10 h_this h_this_dayAt h_this_secondAt h_this_spans h_this_kept h_this_text h_this_row h_this_read h_this_many h_this_first h_this_lengths h_this_page i_this_19 j_this, (h_this_dayAt, .inl (cI, 8, .inl f_this_dayAt)), (h_this_secondAt, .inl (cI, 8, .inl f_this_secondAt)), (h_this_spans, .inl (cI, 24, .inl f_this_spans)), (h_this_row, .inl (cJ, 16, .inr (.inl f_this_row)))] := hD
    refine lv_if_ne (tgt := 64) hx hb dX10_add_58 (by decide) (fun c21 => ?_) (fun c21 => ?_)
    · have h := ite_f c21 h
      refine lv_aload_n hx hb dX10_add_64 rfl (lv_at hl 0 rfl) ?_
      refine lv_iload hx hb dX10_add_65 (lv_at hl 5 rfl) ?_
      obtain ⟨f_this_dayAt_22, f_this_secondAt_23, hc24, h⟩ := bd2_at h
      refine kjV (kV (own := "DateSpansModel") (C := "DateSpansModel") (b := h_this) (As := [.int p5]) (rest := []) ⟨hx, hb, hml, hown, hts⟩ (kX10_comesTo l dC dI cI cJ cB h_this h_this_dayAt h_this_secondAt h_this_spans h_this_kept h_this_text h_this_row h_this_read h_this_many h_this_first h_this_lengths h_this_page N p5 i_this_19 j_this f_this_dayAt f_this_secondAt f_this_dayAt_22 f_this_secondAt_23 hc24 _) (kgV (kq q_1140 rfl) (kq q_1142 rfl) (kq q_25 rfl) (kq q_66 rfl) (kq q_1143 rfl)) yd_X10_comesTo ⟨Nat.le_of_ble_eq_true rfl, Nat.le_of_ble_eq_true rfl⟩ hN hK hP hD [0, 1, 2] rfl rfl (ci := 9) rfl rfl rfl rfl rfl hl.1 rfl (lv_room (Nat.le_of_ble_eq_true rfl)) dX10_add_67) hP hD hS hA [0, 1, 2] rfl rfl (fun H locs hP hD hS => ?_)
      have hP : va_P (dC, dI) vwCl [cl_X10 h_this h_this_dayAt h_this_secondAt h_this_spans h_this_kept h_this_text h_this_row h_this_read h_this_many h_this_first h_this_lengths h_this_page i_this_19 j_this, (h_this_dayAt, .inl (cI, 8, .inl f_this_dayAt_22)), (h_this_secondAt, .inl (cI, 8, .inl f_this_secondAt_23)), (h_this_spans, .inl (cI, 24, .inl f_this_spans)), (h_this_row, .inl (cJ, 16, .inr (.inl f_this_row)))] H := hP
      have hD : va_D A [cl_X10 h_this h_this_dayAt h_this_secondAt h_this_spans h_this_kept h_this_text h_this_row h_this_read h_this_many h_this_first h_this_lengths h_this_page i_this_19 j_this, (h_this_dayAt, .inl (cI, 8, .inl f_this_dayAt_22)), (h_this_secondAt, .inl (cI, 8, .inl f_this_secondAt_23)), (h_this_spans, .inl (cI, 24, .inl f_this_spans)), (h_this_row, .inl (cJ, 16, .inr (.inl f_this_row)))] := hD
      refine lv_aload_n hx hb dX10_add_70 rfl (lv_at hl 0 rfl) ?_
      refine lv_iconst (v := (0 : Int32)) hx hb dX10_add_71 (by decide) ?_
      refine va_put (D := (dC, dI)) (ci := 9) (v := .int (0 : Int32)) (ty := .int) (C := RX10) (T := TX10) (N := 29) hx hb hts inX10 tyX10 tyX10_ok nmX10 hown hK hP hD hS 0 rfl rfl 8 (by decide) (hts _ (kq q_994 rfl)) (fun _ h9 => h9) rfl (by decide +kernel) rfl rfl (Nat.le_of_ble_eq_true rfl) dX10_add_72 (fun H locs hP hD hS => ?_)
      have hP : va_P (dC, dI) vwCl [(h_this, .inr (9, [.ref h_this_dayAt, .ref h_this_secondAt, .ref h_this_spans, .ref h_this_kept, .int (i_this_19 4), .ref h_this_text, .int (i_this_19 6), .ref h_this_row, .int (0 : Int32), .int (i_this_19 9), .int (i_this_19 10), .int (i_this_19 11), .int (i_this_19 12), .int (i_this_19 13), .int (i_this_19 14), .int (i_this_19 15), .int (i_this_19 16), .int (i_this_19 17), .int (i_this_19 18), .ref h_this_read, .long (j_this 20), .ref h_this_many, .ref h_this_first, .ref h_this_lengths, .int (i_this_19 24), .long (j_this 25), .long (j_this 26), .ref h_this_page, .int (i_this_19 28)])), (h_this_dayAt, .inl (cI, 8, .inl f_this_dayAt_22)), (h_this_secondAt, .inl (cI, 8, .inl f_this_secondAt_23)), (h_this_spans, .inl (cI, 24, .inl f_this_spans)), (h_this_row, .inl (cJ, 16, .inr (.inl f_this_row)))] H := hP
      have hD : va_D A [(h_this, .inr (9, [.ref h_this_dayAt, .ref h_this_secondAt, .ref h_this_spans, .ref h_this_kept, .int (i_this_19 4), .ref h_this_text, .int (i_this_19 6), .ref h_this_row, .int (0 : Int32), .int (i_this_19 9), .int (i_this_19 10), .int (i_this_19 11), .int (i_this_19 12), .int (i_this_19 13), .int (i_this_19 14), .int (i_this_19 15), .int (i_this_19 16), .int (i_this_19 17), .int (i_this_19 18), .ref h_this_read, .long (j_this 20), .ref h_this_many, .ref h_this_first, .ref h_this_lengths, .int (i_this_19 24), .long (j_this 25), .long (j_this 26), .ref h_this_page, .int (i_this_19 28)])), (h_this_dayAt, .inl (cI, 8, .inl f_this_dayAt_22)), (h_this_secondAt, .inl (cI, 8, .inl f_this_secondAt_23)), (h_this_spans, .inl (cI, 24, .inl f_this_spans)), (h_this_row, .inl (cJ, 16, .inr (.inl f_this_row)))] := hD
      refine lv_aload_n hx hb dX10_add_75 rfl (lv_at hl 0 rfl) ?_
      refine lv_aload_n hx hb dX10_add_76 rfl (lv_at hl 0 rfl) ?_
      refine va_get (D := (dC, dI)) (ci := 9) (v := .int (i_this_19 14)) (C := RX10) (T := TX10) (N := 29) hx hb hts inX10 hown hK hP 0 rfl rfl 14 (by decide) (hts _ (kq q_1000 rfl)) (fun _ h9 => h9) rfl dX10_add_77 ?_
      refine lv_i2l hx hb dX10_add_80 rfl ?_
      have hP : va_P (dC, dI) vwCl [cl_X10 h_this h_this_dayAt h_this_secondAt h_this_spans h_this_kept h_this_text h_this_row h_this_read h_this_many h_this_first h_this_lengths h_this_page (upd i_this_19 8 (0 : Int32)) j_this, (h_this_dayAt, .inl (cI, 8, .inl f_this_dayAt_22)), (h_this_secondAt, .inl (cI, 8, .inl f_this_secondAt_23)), (h_this_spans, .inl (cI, 24, .inl f_this_spans)), (h_this_row, .inl (cJ, 16, .inr (.inl f_this_row)))] H := hP
      have hD : va_D A [cl_X10 h_this h_this_dayAt h_this_secondAt h_this_spans h_this_kept h_this_text h_this_row h_this_read h_this_many h_this_first h_this_lengths h_this_page (upd i_this_19 8 (0 : Int32)) j_this, (h_this_dayAt, .inl (cI, 8, .inl f_this_dayAt_22)), (h_this_secondAt, .inl (cI, 8, .inl f_this_secondAt_23)), (h_this_spans, .inl (cI, 24, .inl f_this_spans)), (h_this_row, .inl (cJ, 16, .inr (.inl f_this_row)))] := hD
      obtain ⟨i_this_25, f_this_row_26, hc27, h⟩ := bd2_at h
      refine kjV (kV (own := "DateSpansModel") (C := "DateSpansModel") (b := h_this) (As := [.long ((i_this_19 14).toInt64)]) (rest := []) ⟨hx, hb, hml, hown, hts⟩ (kX10_tell l dC dI cI cJ cB h_this h_this_dayAt h_this_secondAt h_this_spans h_this_kept h_this_text h_this_row h_this_read h_this_many h_this_first h_this_lengths h_this_page N ((i_this_19 14).toInt64) (upd i_this_19 8 (0 : Int32)) j_this f_this_row i_this_25 f_this_row_26 hc27 _) (kgV (kq q_1221 rfl) (kq q_1223 rfl) (kq q_29 rfl) (kq q_66 rfl) (kq q_1224 rfl)) yd_X10_tell ⟨Nat.le_of_ble_eq_true rfl, Nat.le_of_ble_eq_true rfl⟩ hN hK hP hD [0, 4] rfl rfl (ci := 9) rfl rfl rfl rfl rfl hl.1 rfl (lv_room (Nat.le_of_ble_eq_true rfl)) dX10_add_81) hP hD hS hA [0, 4] rfl rfl (fun H locs hP hD hS => ?_)
      have hP : va_P (dC, dI) vwCl [cl_X10 h_this h_this_dayAt h_this_secondAt h_this_spans h_this_kept h_this_text h_this_row h_this_read h_this_many h_this_first h_this_lengths h_this_page i_this_25 j_this, (h_this_dayAt, .inl (cI, 8, .inl f_this_dayAt_22)), (h_this_secondAt, .inl (cI, 8, .inl f_this_secondAt_23)), (h_this_spans, .inl (cI, 24, .inl f_this_spans)), (h_this_row, .inl (cJ, 16, .inr (.inl f_this_row_26)))] H := hP
      have hD : va_D A [cl_X10 h_this h_this_dayAt h_this_secondAt h_this_spans h_this_kept h_this_text h_this_row h_this_read h_this_many h_this_first h_this_lengths h_this_page i_this_25 j_this, (h_this_dayAt, .inl (cI, 8, .inl f_this_dayAt_22)), (h_this_secondAt, .inl (cI, 8, .inl f_this_secondAt_23)), (h_this_spans, .inl (cI, 24, .inl f_this_spans)), (h_this_row, .inl (cJ, 16, .inr (.inl f_this_row_26)))] := hD
      refine lv_aload_n hx hb dX10_add_84 rfl (lv_at hl 0 rfl) ?_
      refine lv_aload_n hx hb dX10_add_85 rfl (lv_at hl 0 rfl) ?_
      refine va_get (D := (dC, dI)) (ci := 9) (v := .int (i_this_25 15)) (C := RX10) (T := TX10) (N := 29) hx hb hts inX10 hown hK hP 0 rfl rfl 15 (by decide) (hts _ (kq q_1001 rfl)) (fun _ h9 => h9) rfl dX10_add_86 ?_
      refine lv_i2l hx hb dX10_add_89 rfl ?_
      obtain ⟨i_this_28, f_this_row_29, hc30, h⟩ := bd2_at h
      refine kjV (kV (own := "DateSpansModel") (C := "DateSpansModel") (b := h_this) (As := [.long ((i_this_25 15).toInt64)]) (rest := []) ⟨hx, hb, hml, hown, hts⟩ (kX10_tell l dC dI cI cJ cB h_this h_this_dayAt h_this_secondAt h_this_spans h_this_kept h_this_text h_this_row h_this_read h_this_many h_this_first h_this_lengths h_this_page N ((i_this_25 15).toInt64) i_this_25 j_this f_this_row_26 i_this_28 f_this_row_29 hc30 _) (kgV (kq q_1221 rfl) (kq q_1223 rfl) (kq q_29 rfl) (kq q_66 rfl) (kq q_1224 rfl)) yd_X10_tell ⟨Nat.le_of_ble_eq_true rfl, Nat.le_of_ble_eq_true rfl⟩ hN hK hP hD [0, 4] rfl rfl (ci := 9) rfl rfl rfl rfl rfl hl.1 rfl (lv_room (Nat.le_of_ble_eq_true rfl)) dX10_add_90) hP hD hS hA [0, 4] rfl rfl (fun H locs hP hD hS => ?_)
      have hP : va_P (dC, dI) vwCl [cl_X10 h_this h_this_dayAt h_this_secondAt h_this_spans h_this_kept h_this_text h_this_row h_this_read h_this_many h_this_first h_this_lengths h_this_page i_this_28 j_this, (h_this_dayAt, .inl (cI, 8, .inl f_this_dayAt_22)), (h_this_secondAt, .inl (cI, 8, .inl f_this_secondAt_23)), (h_this_spans, .inl (cI, 24, .inl f_this_spans)), (h_this_row, .inl (cJ, 16, .inr (.inl f_this_row_29)))] H := hP
      have hD : va_D A [cl_X10 h_this h_this_dayAt h_this_secondAt h_this_spans h_this_kept h_this_text h_this_row h_this_read h_this_many h_this_first h_this_lengths h_this_page i_this_28 j_this, (h_this_dayAt, .inl (cI, 8, .inl f_this_dayAt_22)), (h_this_secondAt, .inl (cI, 8, .inl f_this_secondAt_23)), (h_this_spans, .inl (cI, 24, .inl f_this_spans)), (h_this_row, .inl (cJ, 16, .inr (.inl f_this_row_29)))] := hD
      refine lv_aload_n hx hb dX10_add_93 rfl (lv_at hl 0 rfl) ?_
      refine va_get (D := (dC, dI)) (ci := 9) (v := .int (i_this_28 13)) (C := RX10) (T := TX10) (N := 29) hx hb hts inX10 hown hK hP 0 rfl rfl 13 (by decide) (hts _ (kq q_999 rfl)) (fun _ h9 => h9) rfl dX10_add_94 ?_
      obtain ⟨rfl, rfl, rfl, rfl, rfl⟩ := pj5 h
      exact hEnd _ _ _ _ hP hS dX10_add_97 rfl
    have h := ite_t c21 h
    refine lv_bipush (v := (-2 : Int32)) hx hb dX10_add_61 (by decide) ?_
    obtain ⟨rfl, rfl, rfl, rfl, rfl⟩ := pj5 h
    exact hEnd _ _ _ _ hP hS dX10_add_63 rfl
  have h := ite_t c15 h
  refine lv_iconst (v := (-1 : Int32)) hx hb dX10_add_42 (by decide) ?_
  obtain ⟨rfl, rfl, rfl, rfl, rfl⟩ := pj5 h
  exact hEnd _ _ _ _ hP hS dX10_add_43 rfl
noncomputable def fX10_steps_l68 (N : Nat) (j_this : Nat → Int64) (f_this_spans : Nat → Int32) (n : Nat) : Int32 → Int32 → Int32 → Int32 → Int32 → Int32 → Int32 → (Nat → Int32) → (Nat → Int32) → (Nat → Int32) → (Nat → Int64) → Option (Int32 × (Nat → Int32) × (Nat → Int32) × (Nat → Int32) × (Nat → Int64)) := Nat.rec (motive := fun _ => Int32 → Int32 → Int32 → Int32 → Int32 → Int32 → Int32 → (Nat → Int32) → (Nat → Int32) → (Nat → Int32) → (Nat → Int64) → Option (Int32 × (Nat → Int32) × (Nat → Int32) × (Nat → Int32) × (Nat → Int64))) (fun _ _ _ _ _ _ _ _ _ _ _ => none) (fun _ K_68 v2 v3 v4 v5 v6 v7 v8 i_this f_this_dayAt f_this_secondAt f_this_row => (if v5 ≤ v8 then (bd2 (fX10_comesTo N v6 i_this j_this f_this_dayAt f_this_secondAt) fun f_this_dayAt_2 f_this_secondAt_3 => (bd2 (fX10_tell N ((i_this 14).toInt64) (upd i_this 8 (0 : Int32)) j_this f_this_row) fun i_this_5 f_this_row_6 => (bd2 (fX10_tell N v7.toInt64 i_this_5 j_this f_this_row_6) fun i_this_8 f_this_row_9 => (some ((i_this_8 13), i_this_8, f_this_dayAt_2, f_this_secondAt_3, f_this_row_9))))) else (bd2 (fX10_addsSpan N v2 (1 : Int64) v3 v4 i_this j_this f_this_spans) fun r11 i_this_12 => (if r11 = (0 : Int32) then (some ((-2 : Int32), i_this_12, f_this_dayAt, f_this_secondAt, f_this_row)) else (if (i_this_12 15) ≤ (0 : Int32) then (nm (v7 + (0 : Int32)) fun z16 => (nm (v8 + (1 : Int32)) fun z17 => (K_68 v2 v3 v4 v5 v6 z16 z17 i_this_12 f_this_dayAt f_this_secondAt f_this_row))) else (nm (v7 + (1 : Int32)) fun z18 => (nm (v8 + (1 : Int32)) fun z19 => (K_68 v2 v3 v4 v5 v6 z18 z19 i_this_12 f_this_dayAt f_this_secondAt f_this_row)))))))) n
theorem fX10_steps_l68_s (N : Nat) (j_this : Nat → Int64) (f_this_spans : Nat → Int32) (n : Nat) (v2 : Int32) (v3 : Int32) (v4 : Int32) (v5 : Int32) (v6 : Int32) (v7 : Int32) (v8 : Int32) (i_this : Nat → Int32) (f_this_dayAt : Nat → Int32) (f_this_secondAt : Nat → Int32) (f_this_row : Nat → Int64) : fX10_steps_l68 N j_this f_this_spans (n + 1) v2 v3 v4 v5 v6 v7 v8 i_this f_this_dayAt f_this_secondAt f_this_row = (if v5 ≤ v8 then (bd2 (fX10_comesTo N v6 i_this j_this f_this_dayAt f_this_secondAt) fun f_this_dayAt_2 f_this_secondAt_3 => (bd2 (fX10_tell N ((i_this 14).toInt64) (upd i_this 8 (0 : Int32)) j_this f_this_row) fun i_this_5 f_this_row_6 => (bd2 (fX10_tell N v7.toInt64 i_this_5 j_this f_this_row_6) fun i_this_8 f_this_row_9 => (some ((i_this_8 13), i_this_8, f_this_dayAt_2, f_this_secondAt_3, f_this_row_9))))) else (bd2 (fX10_addsSpan N v2 (1 : Int64) v3 v4 i_this j_this f_this_spans) fun r11 i_this_12 => (if r11 = (0 : Int32) then (some ((-2 : Int32), i_this_12, f_this_dayAt, f_this_secondAt, f_this_row)) else (if (i_this_12 15) ≤ (0 : Int32) then (nm (v7 + (0 : Int32)) fun z16 => (nm (v8 + (1 : Int32)) fun z17 => ((fX10_steps_l68 N j_this f_this_spans n) v2 v3 v4 v5 v6 z16 z17 i_this_12 f_this_dayAt f_this_secondAt f_this_row))) else (nm (v7 + (1 : Int32)) fun z18 => (nm (v8 + (1 : Int32)) fun z19 => ((fX10_steps_l68 N j_this f_this_spans n) v2 v3 v4 v5 v6 z18 z19 i_this_12 f_this_dayAt f_this_secondAt f_this_row))))))) := rfl
theorem fX10_steps_l68_0 (N : Nat) (j_this : Nat → Int64) (f_this_spans : Nat → Int32) (v2 : Int32) (v3 : Int32) (v4 : Int32) (v5 : Int32) (v6 : Int32) (v7 : Int32) (v8 : Int32) (i_this : Nat → Int32) (f_this_dayAt : Nat → Int32) (f_this_secondAt : Nat → Int32) (f_this_row : Nat → Int64) : fX10_steps_l68 N j_this f_this_spans 0 v2 v3 v4 v5 v6 v7 v8 i_this f_this_dayAt f_this_secondAt f_this_row = none := rfl
noncomputable def fX10_steps (N : Nat) (p1 : Int32) (p2 : Int32) (p3 : Int32) (p4 : Int32) (p5 : Int32) (p6 : Int32) (i_this : Nat → Int32) (j_this : Nat → Int64) (f_this_dayAt : Nat → Int32) (f_this_secondAt : Nat → Int32) (f_this_spans : Nat → Int32) (f_this_row : Nat → Int64) : Option (Int32 × (Nat → Int32) × (Nat → Int32) × (Nat → Int32) × (Nat → Int64)) := (bd1 (fX10_isSlot N p1) fun r20 => (if r20 = (0 : Int32) then (some ((-1 : Int32), (upd i_this 9 (0 : Int32)), f_this_dayAt, f_this_secondAt, f_this_row)) else (bd1 (fX10_isSlot N p2) fun r23 => (if r23 = (0 : Int32) then (some ((-1 : Int32), (upd i_this 9 (0 : Int32)), f_this_dayAt, f_this_secondAt, f_this_row)) else (bd1 (fX10_isLaw N p3) fun r26 => (if r26 = (0 : Int32) then (some ((-1 : Int32), (upd i_this 9 (0 : Int32)), f_this_dayAt, f_this_secondAt, f_this_row)) else (bd1 (fX10_isOrder N p4) fun r29 => (if r29 = (0 : Int32) then (some ((-1 : Int32), (upd i_this 9 (0 : Int32)), f_this_dayAt, f_this_secondAt, f_this_row)) else (bd1 (fX10_in N p5.toInt64 (0 : Int64) (10000 : Int64)) fun r32 => (if r32 = (0 : Int32) then (some ((-1 : Int32), (upd i_this 9 (0 : Int32)), f_this_dayAt, f_this_secondAt, f_this_row)) else (bd1 (fX10_isSlot N p6) fun r35 => (if r35 = (0 : Int32) then (some ((-1 : Int32), (upd i_this 9 (0 : Int32)), f_this_dayAt, f_this_secondAt, f_this_row)) else (bd1 (fX10_standsAt N p1 (upd i_this 9 (0 : Int32)) j_this f_this_dayAt f_this_secondAt) fun i_this_38 => (fX10_steps_l68 N j_this f_this_spans N p2 p3 p4 p5 p6 (0 : Int32) (0 : Int32) i_this_38 f_this_dayAt f_this_secondAt f_this_row))))))))))))))
set_option maxHeartbeats 4000000 in
set_option maxRecDepth 100000 in
theorem kX10_steps (l : Launch) (dC : Nat → ClassId) (dI : Nat → Nat → Nat) (cI cJ cB : ClassId) (h_this h_this_dayAt h_this_secondAt h_this_spans h_this_kept h_this_text h_this_row h_this_read h_this_many h_this_first h_this_lengths h_this_page : Nat) (N : Nat) (p1 : Int32) (p2 : Int32) (p3 : Int32) (p4 : Int32) (p5 : Int32) (p6 : Int32) (i_this : Nat → Int32) (j_this : Nat → Int64) (f_this_dayAt : Nat → Int32) (f_this_secondAt : Nat → Int32) (f_this_spans : Nat → Int32) (f_this_row : Nat → Int64) (r : Int32) (o_i_this : Nat → Int32) (o_f_this_dayAt : Nat → Int32) (o_f_this_secondAt : Nat → Int32) (o_f_this_row : Nat → Int64) (hf : fX10_steps N p1 p2 p3 p4 p5 p6 i_this j_this f_this_dayAt f_this_secondAt f_this_spans f_this_row = some (r, o_i_this, o_f_this_dayAt, o_f_this_secondAt, o_f_this_row)) : MI l yX10_steps (kws yX10_steps cX10_steps 9 (some .int)) (kR 6 150) (dC, dI) (kT cI cJ cB) [.ref h_this, .int p1, .int p2, .int p3, .int p4, .int p5, .int p6] [cl_X10 h_this h_this_dayAt h_this_secondAt h_this_spans h_this_kept h_this_text h_this_row h_this_read h_this_many h_this_first h_this_lengths h_this_page i_this j_this, (h_this_dayAt, .inl (cI, 8, .inl f_this_dayAt)), (h_this_secondAt, .inl (cI, 8, .inl f_this_secondAt)), (h_this_spans, .inl (cI, 24, .inl f_this_spans)), (h_this_row, .inl (cJ, 16, .inr (.inl f_this_row)))] [cl_X10 h_this h_this_dayAt h_this_secondAt h_this_spans h_this_kept h_this_text h_this_row h_this_read h_this_many h_this_first h_this_lengths h_this_page o_i_this j_this, (h_this_dayAt, .inl (cI, 8, .inl o_f_this_dayAt)), (h_this_secondAt, .inl (cI, 8, .inl o_f_this_secondAt)), (h_this_spans, .inl (cI, 24, .inl f_this_spans)), (h_this_row, .inl (cJ, 16, .inr (.inl o_f_this_row)))] r := by
  refine MI.of (cc := cX10_steps) (maxL := 9) (by decide) (Nat.le_of_ble_eq_true rfl) (fun p e s m args below meth c A Q ls KC hN hK hP hD hA hl hEnd => ?_)
  obtain ⟨hx, hb, hml, hown, hts⟩ := KC
  have hown : s.vm.findClass "DateSpansModel" = some m.cls := hown
  have hl : lv_has ls 9 [(0, .ref h_this), (1, .int p1), (2, .int p2), (3, .int p3), (4, .int p4), (5, .int p5), (6, .int p6)] := hl
  have hS : va_S A s.heap s.heap [] := va_S.rf
  have LP_68 : ∀ n_68 : Nat, ∀ (v2 : Int32) (v3 : Int32) (v4 : Int32) (v5 : Int32) (v6 : Int32) (v7 : Int32) (v8 : Int32) (i_this : Nat → Int32) (f_this_dayAt : Nat → Int32) (f_this_secondAt : Nat → Int32) (f_this_row : Nat → Int64) (ls : Array Slot) (H : Heap) (locs : List Loc), fX10_steps_l68 N j_this f_this_spans n_68 v2 v3 v4 v5 v6 v7 v8 i_this f_this_dayAt f_this_secondAt f_this_row = some (r, o_i_this, o_f_this_dayAt, o_f_this_secondAt, o_f_this_row) → lv_has ls 9 [(0, .ref h_this), (2, .int v2), (3, .int v3), (4, .int v4), (5, .int v5), (6, .int v6), (7, .int v7), (8, .int v8)] → va_P (dC, dI) vwCl [cl_X10 h_this h_this_dayAt h_this_secondAt h_this_spans h_this_kept h_this_text h_this_row h_this_read h_this_many h_this_first h_this_lengths h_this_page i_this j_this, (h_this_dayAt, .inl (cI, 8, .inl f_this_dayAt)), (h_this_secondAt, .inl (cI, 8, .inl f_this_secondAt)), (h_this_spans, .inl (cI, 24, .inl f_this_spans)), (h_this_row, .inl (cJ, 16, .inr (.inl f_this_row)))] H → va_D A [cl_X10 h_this h_this_dayAt h_this_secondAt h_this_spans h_this_kept h_this_text h_this_row h_this_read h_this_many h_this_first h_this_lengths h_this_page i_this j_this, (h_this_dayAt, .inl (cI, 8, .inl f_this_dayAt)), (h_this_secondAt, .inl (cI, 8, .inl f_this_secondAt)), (h_this_spans, .inl (cI, 24, .inl f_this_spans)), (h_this_row, .inl (cJ, 16, .inr (.inl f_this_row)))] → va_S A s.heap H locs → W p l e (kR 6 150) s m args below meth c H locs 0 0 Q (F0 m 68 ls []) := by
    intro n_68
    induction n_68 with
    | zero =>
      intro v2 v3 v4 v5 v6 v7 v8 i_this f_this_dayAt f_this_secondAt f_this_row ls H locs h hl hP hD hS
      rw [fX10_steps_l68_0] at h; cases h
    | succ n_68 ih_68 =>
      intro v2 v3 v4 v5 v6 v7 v8 i_this f_this_dayAt f_this_secondAt f_this_row ls H locs h hl hP hD hS
      rw [fX10_steps_l68_s] at h
      refine lv_iload hx hb dX10_steps_68 (lv_at hl 7 rfl) ?_
      refine lv_iload hx hb dX10_steps_70 (lv_at hl 4 rfl) ?_
      refine lv_icmp_ge (tgt := 113) hx hb dX10_steps_72 (by decide) (fun c1 => ?_) (fun c1 => ?_)
      · have h := ite_t c1 h
        refine lv_aload_n hx hb dX10_steps_113 rfl (lv_at hl 0 rfl) ?_
        refine lv_iload hx hb dX10_steps_114 (lv_at hl 5 rfl) ?_
        obtain ⟨f_this_dayAt_2, f_this_secondAt_3, hc4, h⟩ := bd2_at h
        refine kjV (kV (own := "DateSpansModel") (C := "DateSpansModel") (b := h_this) (As := [.int v6]) (rest := []) ⟨hx, hb, hml, hown, hts⟩ (kX10_comesTo l dC dI cI cJ cB h_this h_this_dayAt h_this_secondAt h_this_spans h_this_kept h_this_text h_this_row h_this_read h_this_many h_this_first h_this_lengths h_this_page N v6 i_this j_this f_this_dayAt f_this_secondAt f_this_dayAt_2 f_this_secondAt_3 hc4 _) (kgV (kq q_1140 rfl) (kq q_1142 rfl) (kq q_25 rfl) (kq q_66 rfl) (kq q_1143 rfl)) yd_X10_comesTo ⟨Nat.le_of_ble_eq_true rfl, Nat.le_of_ble_eq_true rfl⟩ hN hK hP hD [0, 1, 2] rfl rfl (ci := 9) rfl rfl rfl rfl rfl hl.1 rfl (lv_room (Nat.le_of_ble_eq_true rfl)) dX10_steps_116) hP hD hS hA [0, 1, 2] rfl rfl (fun H locs hP hD hS => ?_)
        have hP : va_P (dC, dI) vwCl [cl_X10 h_this h_this_dayAt h_this_secondAt h_this_spans h_this_kept h_this_text h_this_row h_this_read h_this_many h_this_first h_this_lengths h_this_page i_this j_this, (h_this_dayAt, .inl (cI, 8, .inl f_this_dayAt_2)), (h_this_secondAt, .inl (cI, 8, .inl f_this_secondAt_3)), (h_this_spans, .inl (cI, 24, .inl f_this_spans)), (h_this_row, .inl (cJ, 16, .inr (.inl f_this_row)))] H := hP
        have hD : va_D A [cl_X10 h_this h_this_dayAt h_this_secondAt h_this_spans h_this_kept h_this_text h_this_row h_this_read h_this_many h_this_first h_this_lengths h_this_page i_this j_this, (h_this_dayAt, .inl (cI, 8, .inl f_this_dayAt_2)), (h_this_secondAt, .inl (cI, 8, .inl f_this_secondAt_3)), (h_this_spans, .inl (cI, 24, .inl f_this_spans)), (h_this_row, .inl (cJ, 16, .inr (.inl f_this_row)))] := hD
        refine lv_aload_n hx hb dX10_steps_119 rfl (lv_at hl 0 rfl) ?_
        refine lv_iconst (v := (0 : Int32)) hx hb dX10_steps_120 (by decide) ?_
        refine va_put (D := (dC, dI)) (ci := 9) (v := .int (0 : Int32)) (ty := .int) (C := RX10) (T := TX10) (N := 29) hx hb hts inX10 tyX10 tyX10_ok nmX10 hown hK hP hD hS 0 rfl rfl 8 (by decide) (hts _ (kq q_994 rfl)) (fun _ h9 => h9) rfl (by decide +kernel) rfl rfl (Nat.le_of_ble_eq_true rfl) dX10_steps_121 (fun H locs hP hD hS => ?_)
        have hP : va_P (dC, dI) vwCl [(h_this, .inr (9, [.ref h_this_dayAt, .ref h_this_secondAt, .ref h_this_spans, .ref h_this_kept, .int (i_this 4), .ref h_this_text, .int (i_this 6), .ref h_this_row, .int (0 : Int32), .int (i_this 9), .int (i_this 10), .int (i_this 11), .int (i_this 12), .int (i_this 13), .int (i_this 14), .int (i_this 15), .int (i_this 16), .int (i_this 17), .int (i_this 18), .ref h_this_read, .long (j_this 20), .ref h_this_many, .ref h_this_first, .ref h_this_lengths, .int (i_this 24), .long (j_this 25), .long (j_this 26), .ref h_this_page, .int (i_this 28)])), (h_this_dayAt, .inl (cI, 8, .inl f_this_dayAt_2)), (h_this_secondAt, .inl (cI, 8, .inl f_this_secondAt_3)), (h_this_spans, .inl (cI, 24, .inl f_this_spans)), (h_this_row, .inl (cJ, 16, .inr (.inl f_this_row)))] H := hP
        have hD : va_D A [(h_this, .inr (9, [.ref h_this_dayAt, .ref h_this_secondAt, .ref h_this_spans, .ref h_this_kept, .int (i_this 4), .ref h_this_text, .int (i_this 6), .ref h_this_row, .int (0 : Int32), .int (i_this 9), .int (i_this 10), .int (i_this 11), .int (i_this 12), .int (i_this 13), .int (i_this 14), .int (i_this 15), .int (i_this 16), .int (i_this 17), .int (i_this 18), .ref h_this_read, .long (j_this 20), .ref h_this_many, .ref h_this_first, .ref h_this_lengths, .int (i_this 24), .long (j_this 25), .long (j_this 26), .ref h_this_page, .int (i_this 28)])), (h_this_dayAt, .inl (cI, 8, .inl f_this_dayAt_2)), (h_this_secondAt, .inl (cI, 8, .inl f_this_secondAt_3)), (h_this_spans, .inl (cI, 24, .inl f_this_spans)), (h_this_row, .inl (cJ, 16, .inr (.inl f_this_row)))] := hD
        refine lv_aload_n hx hb dX10_steps_124 rfl (lv_at hl 0 rfl) ?_
        refine lv_aload_n hx hb dX10_steps_125 rfl (lv_at hl 0 rfl) ?_
        refine va_get (D := (dC, dI)) (ci := 9) (v := .int (i_this 14)) (C := RX10) (T := TX10) (N := 29) hx hb hts inX10 hown hK hP 0 rfl rfl 14 (by decide) (hts _ (kq q_1000 rfl)) (fun _ h9 => h9) rfl dX10_steps_126 ?_
        refine lv_i2l hx hb dX10_steps_129 rfl ?_
        have hP : va_P (dC, dI) vwCl [cl_X10 h_this h_this_dayAt h_this_secondAt h_this_spans h_this_kept h_this_text h_this_row h_this_read h_this_many h_this_first h_this_lengths h_this_page (upd i_this 8 (0 : Int32)) j_this, (h_this_dayAt, .inl (cI, 8, .inl f_this_dayAt_2)), (h_this_secondAt, .inl (cI, 8, .inl f_this_secondAt_3)), (h_this_spans, .inl (cI, 24, .inl f_this_spans)), (h_this_row, .inl (cJ, 16, .inr (.inl f_this_row)))] H := hP
        have hD : va_D A [cl_X10 h_this h_this_dayAt h_this_secondAt h_this_spans h_this_kept h_this_text h_this_row h_this_read h_this_many h_this_first h_this_lengths h_this_page (upd i_this 8 (0 : Int32)) j_this, (h_this_dayAt, .inl (cI, 8, .inl f_this_dayAt_2)), (h_this_secondAt, .inl (cI, 8, .inl f_this_secondAt_3)), (h_this_spans, .inl (cI, 24, .inl f_this_spans)), (h_this_row, .inl (cJ, 16, .inr (.inl f_this_row)))] := hD
        obtain ⟨i_this_5, f_this_row_6, hc7, h⟩ := bd2_at h
        refine kjV (kV (own := "DateSpansModel") (C := "DateSpansModel") (b := h_this) (As := [.long ((i_this 14).toInt64)]) (rest := []) ⟨hx, hb, hml, hown, hts⟩ (kX10_tell l dC dI cI cJ cB h_this h_this_dayAt h_this_secondAt h_this_spans h_this_kept h_this_text h_this_row h_this_read h_this_many h_this_first h_this_lengths h_this_page N ((i_this 14).toInt64) (upd i_this 8 (0 : Int32)) j_this f_this_row i_this_5 f_this_row_6 hc7 _) (kgV (kq q_1221 rfl) (kq q_1223 rfl) (kq q_29 rfl) (kq q_66 rfl) (kq q_1224 rfl)) yd_X10_tell ⟨Nat.le_of_ble_eq_true rfl, Nat.le_of_ble_eq_true rfl⟩ hN hK hP hD [0, 4] rfl rfl (ci := 9) rfl rfl rfl rfl rfl hl.1 rfl (lv_room (Nat.le_of_ble_eq_true rfl)) dX10_steps_130) hP hD hS hA [0, 4] rfl rfl (fun H locs hP hD hS => ?_)
        have hP : va_P (dC, dI) vwCl [cl_X10 h_this h_this_dayAt h_this_secondAt h_this_spans h_this_kept h_this_text h_this_row h_this_read h_this_many h_this_first h_this_lengths h_this_page i_this_5 j_this, (h_this_dayAt, .inl (cI, 8, .inl f_this_dayAt_2)), (h_this_secondAt, .inl (cI, 8, .inl f_this_secondAt_3)), (h_this_spans, .inl (cI, 24, .inl f_this_spans)), (h_this_row, .inl (cJ, 16, .inr (.inl f_this_row_6)))] H := hP
        have hD : va_D A [cl_X10 h_this h_this_dayAt h_this_secondAt h_this_spans h_this_kept h_this_text h_this_row h_this_read h_this_many h_this_first h_this_lengths h_this_page i_this_5 j_this, (h_this_dayAt, .inl (cI, 8, .inl f_this_dayAt_2)), (h_this_secondAt, .inl (cI, 8, .inl f_this_secondAt_3)), (h_this_spans, .inl (cI, 24, .inl f_this_spans)), (h_this_row, .inl (cJ, 16, .inr (.inl f_this_row_6)))] := hD
        refine lv_aload_n hx hb dX10_steps_133 rfl (lv_at hl 0 rfl) ?_
        refine lv_iload hx hb dX10_steps_134 (lv_at hl 6 rfl) ?_
        refine lv_i2l hx hb dX10_steps_136 rfl ?_
        obtain ⟨i_this_8, f_this_row_9, hc10, h⟩ := bd2_at h
        refine kjV (kV (own := "DateSpansModel") (C := "DateSpansModel") (b := h_this) (As := [.long v7.toInt64]) (rest := []) ⟨hx, hb, hml, hown, hts⟩ (kX10_tell l dC dI cI cJ cB h_this h_this_dayAt h_this_secondAt h_this_spans h_this_kept h_this_text h_this_row h_this_read h_this_many h_this_first h_this_lengths h_this_page N v7.toInt64 i_this_5 j_this f_this_row_6 i_this_8 f_this_row_9 hc10 _) (kgV (kq q_1221 rfl) (kq q_1223 rfl) (kq q_29 rfl) (kq q_66 rfl) (kq q_1224 rfl)) yd_X10_tell ⟨Nat.le_of_ble_eq_true rfl, Nat.le_of_ble_eq_true rfl⟩ hN hK hP hD [0, 4] rfl rfl (ci := 9) rfl rfl rfl rfl rfl hl.1 rfl (lv_room (Nat.le_of_ble_eq_true rfl)) dX10_steps_137) hP hD hS hA [0, 4] rfl rfl (fun H locs hP hD hS => ?_)
        have hP : va_P (dC, dI) vwCl [cl_X10 h_this h_this_dayAt h_this_secondAt h_this_spans h_this_kept h_this_text h_this_row h_this_read h_this_many h_this_first h_this_lengths h_this_page i_this_8 j_this, (h_this_dayAt, .inl (cI, 8, .inl f_this_dayAt_2)), (h_this_secondAt, .inl (cI, 8, .inl f_this_secondAt_3)), (h_this_spans, .inl (cI, 24, .inl f_this_spans)), (h_this_row, .inl (cJ, 16, .inr (.inl f_this_row_9)))] H := hP
        have hD : va_D A [cl_X10 h_this h_this_dayAt h_this_secondAt h_this_spans h_this_kept h_this_text h_this_row h_this_read h_this_many h_this_first h_this_lengths h_this_page i_this_8 j_this, (h_this_dayAt, .inl (cI, 8, .inl f_this_dayAt_2)), (h_this_secondAt, .inl (cI, 8, .inl f_this_secondAt_3)), (h_this_spans, .inl (cI, 24, .inl f_this_spans)), (h_this_row, .inl (cJ, 16, .inr (.inl f_this_row_9)))] := hD
        refine lv_aload_n hx hb dX10_steps_140 rfl (lv_at hl 0 rfl) ?_
        refine va_get (D := (dC, dI)) (ci := 9) (v := .int (i_this_8 13)) (C := RX10) (T := TX10) (N := 29) hx hb hts inX10 hown hK hP 0 rfl rfl 13 (by decide) (hts _ (kq q_999 rfl)) (fun _ h9 => h9) rfl dX10_steps_141 ?_
        obtain ⟨rfl, rfl, rfl, rfl, rfl⟩ := pj5 h
        exact hEnd _ _ _ _ hP hS dX10_steps_144 rfl
      have h := ite_f c1 h
      refine lv_aload_n hx hb dX10_steps_75 rfl (lv_at hl 0 rfl) ?_
      refine lv_iload_n hx hb dX10_steps_76 rfl (lv_at hl 1 rfl) ?_
      refine lv_lconst (v := (1 : Int64)) hx hb dX10_steps_77 (by decide) ?_
      refine lv_iload_n hx hb dX10_steps_78 rfl (lv_at hl 2 rfl) ?_
      refine lv_iload hx hb dX10_steps_79 (lv_at hl 3 rfl) ?_
      obtain ⟨r11, i_this_12, hc13, h⟩ := bd2_at h
      refine kjI (kV (own := "DateSpansModel") (C := "DateSpansModel") (b := h_this) (As := [.int v2, .long (1 : Int64), .int v3, .int v4]) (rest := []) ⟨hx, hb, hml, hown, hts⟩ (kX10_addsSpan l dC dI cI cJ cB h_this h_this_dayAt h_this_secondAt h_this_spans h_this_kept h_this_text h_this_row h_this_read h_this_many h_this_first h_this_lengths h_this_page N v2 (1 : Int64) v3 v4 i_this j_this f_this_spans r11 i_this_12 hc13 _) (kgV (kq q_1286 rfl) (kq q_1288 rfl) (kq q_33 rfl) (kq q_66 rfl) (kq q_1289 rfl)) yd_X10_addsSpan ⟨Nat.le_of_ble_eq_true rfl, Nat.le_of_ble_eq_true rfl⟩ hN hK hP hD [0, 3] rfl rfl (ci := 9) rfl rfl rfl rfl rfl hl.1 rfl (lv_room (Nat.le_of_ble_eq_true rfl)) dX10_steps_81) hP hD hS hA [0, 3] rfl rfl (fun H locs hP hD hS => ?_)
      have hP : va_P (dC, dI) vwCl [cl_X10 h_this h_this_dayAt h_this_secondAt h_this_spans h_this_kept h_this_text h_this_row h_this_read h_this_many h_this_first h_this_lengths h_this_page i_this_12 j_this, (h_this_dayAt, .inl (cI, 8, .inl f_this_dayAt)), (h_this_secondAt, .inl (cI, 8, .inl f_this_secondAt)), (h_this_spans, .inl (cI, 24, .inl f_this_spans)), (h_this_row, .inl (cJ, 16, .inr (.inl f_this_row)))] H := hP
      have hD : va_D A [cl_X10 h_this h_this_dayAt h_this_secondAt h_this_spans h_this_kept h_this_text h_this_row h_this_read h_this_many h_this_first h_this_lengths h_this_page i_this_12 j_this, (h_this_dayAt, .inl (cI, 8, .inl f_this_dayAt)), (h_this_secondAt, .inl (cI, 8, .inl f_this_secondAt)), (h_this_spans, .inl (cI, 24, .inl f_this_spans)), (h_this_row, .inl (cJ, 16, .inr (.inl f_this_row)))] := hD
      refine lv_if_ne (tgt := 90) hx hb dX10_steps_84 (by decide) (fun c14 => ?_) (fun c14 => ?_)
      · have h := ite_f c14 h
        refine lv_iload hx hb dX10_steps_90 (lv_at hl 6 rfl) ?_
        refine lv_aload_n hx hb dX10_steps_92 rfl (lv_at hl 0 rfl) ?_
        refine va_get (D := (dC, dI)) (ci := 9) (v := .int (i_this_12 15)) (C := RX10) (T := TX10) (N := 29) hx hb hts inX10 hown hK hP 0 rfl rfl 15 (by decide) (hts _ (kq q_1001 rfl)) (fun _ h9 => h9) rfl dX10_steps_93 ?_
        refine lv_if_le (tgt := 103) hx hb dX10_steps_96 (by decide) (fun c15 => ?_) (fun c15 => ?_)
        · have h := ite_t c15 h
          refine lv_iconst (v := (0 : Int32)) hx hb dX10_steps_103 (by decide) ?_
          refine lv_iadd hx hb dX10_steps_104 ?_
          refine lv_topi (fun z16 ez16 => ?_)
          have h := nm_at ez16 h
          refine lv_istore (lv' := [(7, .int z16), (0, .ref h_this), (2, .int v2), (3, .int v3), (4, .int v4), (5, .int v5), (6, .int v6), (8, .int v8)]) hx hb dX10_steps_105 hl (by decide) rfl (fun ls hl => ?_)
          obtain ⟨z17, ez17⟩ : ∃ y : Int32, y = (v8 + (1 : Int32)) := ⟨_, rfl⟩
          have h := nm_at ez17 h
          refine lv_iinc (v := z17) (lv' := [(8, .int z17), (7, .int z16), (0, .ref h_this), (2, .int v2), (3, .int v3), (4, .int v4), (5, .int v5), (6, .int v6)]) hx hb dX10_steps_107 hl (k := 7) rfl (by rw [ez17]; rfl) (by decide) rfl (fun ls hl => ?_)
          refine lv_goto (tgt := 68) hx hb dX10_steps_110 (by decide) ?_
          exact ih_68 _ _ _ _ _ _ _ _ _ _ _ _ _ _ h (lv_sub hl [2, 3, 4, 5, 6, 7, 1, 0] rfl) hP hD hS
        have h := ite_f c15 h
        refine lv_iconst (v := (1 : Int32)) hx hb dX10_steps_99 (by decide) ?_
        refine lv_goto (tgt := 104) hx hb dX10_steps_100 (by decide) ?_
        refine lv_iadd hx hb dX10_steps_104 ?_
        refine lv_topi (fun z18 ez18 => ?_)
        have h := nm_at ez18 h
        refine lv_istore (lv' := [(7, .int z18), (0, .ref h_this), (2, .int v2), (3, .int v3), (4, .int v4), (5, .int v5), (6, .int v6), (8, .int v8)]) hx hb dX10_steps_105 hl (by decide) rfl (fun ls hl => ?_)
        obtain ⟨z19, ez19⟩ : ∃ y : Int32, y = (v8 + (1 : Int32)) := ⟨_, rfl⟩
        have h := nm_at ez19 h
        refine lv_iinc (v := z19) (lv' := [(8, .int z19), (7, .int z18), (0, .ref h_this), (2, .int v2), (3, .int v3), (4, .int v4), (5, .int v5), (6, .int v6)]) hx hb dX10_steps_107 hl (k := 7) rfl (by rw [ez19]; rfl) (by decide) rfl (fun ls hl => ?_)
        refine lv_goto (tgt := 68) hx hb dX10_steps_110 (by decide) ?_
        exact ih_68 _ _ _ _ _ _ _ _ _ _ _ _ _ _ h (lv_sub hl [2, 3, 4, 5, 6, 7, 1, 0] rfl) hP hD hS
      have h := ite_t c14 h
      refine lv_bipush (v := (-2 : Int32)) hx hb dX10_steps_87 (by decide) ?_
      obtain ⟨rfl, rfl, rfl, rfl, rfl⟩ := pj5 h
      exact hEnd _ _ _ _ hP hS dX10_steps_89 rfl
  have h := hf
  unfold fX10_steps at h
  refine lv_aload_n hx hb dX10_steps_0 rfl (lv_at hl 0 rfl) ?_
  refine lv_iconst (v := (0 : Int32)) hx hb dX10_steps_1 (by decide) ?_
  refine va_put (D := (dC, dI)) (ci := 9) (v := .int (0 : Int32)) (ty := .int) (C := RX10) (T := TX10) (N := 29) hx hb hts inX10 tyX10 tyX10_ok nmX10 hown hK hP hD hS 0 rfl rfl 9 (by decide) (hts _ (kq q_995 rfl)) (fun _ h9 => h9) rfl (by decide +kernel) rfl rfl (Nat.le_of_ble_eq_true rfl) dX10_steps_2 (fun H locs hP hD hS => ?_)
  have hP : va_P (dC, dI) vwCl [(h_this, .inr (9, [.ref h_this_dayAt, .ref h_this_secondAt, .ref h_this_spans, .ref h_this_kept, .int (i_this 4), .ref h_this_text, .int (i_this 6), .ref h_this_row, .int (i_this 8), .int (0 : Int32), .int (i_this 10), .int (i_this 11), .int (i_this 12), .int (i_this 13), .int (i_this 14), .int (i_this 15), .int (i_this 16), .int (i_this 17), .int (i_this 18), .ref h_this_read, .long (j_this 20), .ref h_this_many, .ref h_this_first, .ref h_this_lengths, .int (i_this 24), .long (j_this 25), .long (j_this 26), .ref h_this_page, .int (i_this 28)])), (h_this_dayAt, .inl (cI, 8, .inl f_this_dayAt)), (h_this_secondAt, .inl (cI, 8, .inl f_this_secondAt)), (h_this_spans, .inl (cI, 24, .inl f_this_spans)), (h_this_row, .inl (cJ, 16, .inr (.inl f_this_row)))] H := hP
  have hD : va_D A [(h_this, .inr (9, [.ref h_this_dayAt, .ref h_this_secondAt, .ref h_this_spans, .ref h_this_kept, .int (i_this 4), .ref h_this_text, .int (i_this 6), .ref h_this_row, .int (i_this 8), .int (0 : Int32), .int (i_this 10), .int (i_this 11), .int (i_this 12), .int (i_this 13), .int (i_this 14), .int (i_this 15), .int (i_this 16), .int (i_this 17), .int (i_this 18), .ref h_this_read, .long (j_this 20), .ref h_this_many, .ref h_this_first, .ref h_this_lengths, .int (i_this 24), .long (j_this 25), .long (j_this 26), .ref h_this_page, .int (i_this 28)])), (h_this_dayAt, .inl (cI, 8, .inl f_this_dayAt)), (h_this_secondAt, .inl (cI, 8, .inl f_this_secondAt)), (h_this_spans, .inl (cI, 24, .inl f_this_spans)), (h_this_row, .inl (cJ, 16, .inr (.inl f_this_row)))] := hD
  refine lv_iload_n hx hb dX10_steps_5 rfl (lv_at hl 1 rfl) ?_
  have hP : va_P (dC, dI) vwCl [cl_X10 h_this h_this_dayAt h_this_secondAt h_this_spans h_this_kept h_this_text h_this_row h_this_read h_this_many h_this_first h_this_lengths h_this_page (upd i_this 9 (0 : Int32)) j_this, (h_this_dayAt, .inl (cI, 8, .inl f_this_dayAt)), (h_this_secondAt, .inl (cI, 8, .inl f_this_secondAt)), (h_this_spans, .inl (cI, 24, .inl f_this_spans)), (h_this_row, .inl (cJ, 16, .inr (.inl f_this_row)))] H := hP
  have hD : va_D A [cl_X10 h_this h_this_dayAt h_this_secondAt h_this_spans h_this_kept h_this_text h_this_row h_this_read h_this_many h_this_first h_this_lengths h_this_page (upd i_this 9 (0 : Int32)) j_this, (h_this_dayAt, .inl (cI, 8, .inl f_this_dayAt)), (h_this_secondAt, .inl (cI, 8, .inl f_this_secondAt)), (h_this_spans, .inl (cI, 24, .inl f_this_spans)), (h_this_row, .inl (cJ, 16, .inr (.inl f_this_row)))] := hD
  obtain ⟨r20, hc21, h⟩ := bd1_at h
  refine kjSI (kS0 (own := "DateSpansModel") (As := [.int p1]) (rest := []) ⟨hx, hb, hml, hown, hts⟩ (kX10_isSlot l N p1 r20 hc21) (kgS (kq q_1123 rfl) (kq q_1124 rfl) (kq q_66 rfl) (kq q_1125 rfl)) yd_X10_isSlot ⟨Nat.le_of_ble_eq_true rfl, Nat.le_of_ble_eq_true rfl⟩ rfl rfl hl.1 rfl (lv_room (Nat.le_of_ble_eq_true rfl)) dX10_steps_6) ?_
  refine lv_if_eq (tgt := 55) hx hb dX10_steps_9 (by decide) (fun c22 => ?_) (fun c22 => ?_)
  · have h := ite_t c22 h
    refine lv_iconst (v := (-1 : Int32)) hx hb dX10_steps_55 (by decide) ?_
    obtain ⟨rfl, rfl, rfl, rfl, rfl⟩ := pj5 h
    exact hEnd _ _ _ _ hP hS dX10_steps_56 rfl
  have h := ite_f c22 h
  refine lv_iload_n hx hb dX10_steps_12 rfl (lv_at hl 2 rfl) ?_
  obtain ⟨r23, hc24, h⟩ := bd1_at h
  refine kjSI (kS0 (own := "DateSpansModel") (As := [.int p2]) (rest := []) ⟨hx, hb, hml, hown, hts⟩ (kX10_isSlot l N p2 r23 hc24) (kgS (kq q_1123 rfl) (kq q_1124 rfl) (kq q_66 rfl) (kq q_1125 rfl)) yd_X10_isSlot ⟨Nat.le_of_ble_eq_true rfl, Nat.le_of_ble_eq_true rfl⟩ rfl rfl hl.1 rfl (lv_room (Nat.le_of_ble_eq_true rfl)) dX10_steps_13) ?_
  refine lv_if_eq (tgt := 55) hx hb dX10_steps_16 (by decide) (fun c25 => ?_) (fun c25 => ?_)
  · have h := ite_t c25 h
    refine lv_iconst (v := (-1 : Int32)) hx hb dX10_steps_55 (by decide) ?_
    obtain ⟨rfl, rfl, rfl, rfl, rfl⟩ := pj5 h
    exact hEnd _ _ _ _ hP hS dX10_steps_56 rfl
  have h := ite_f c25 h
  refine lv_iload_n hx hb dX10_steps_19 rfl (lv_at hl 3 rfl) ?_
  obtain ⟨r26, hc27, h⟩ := bd1_at h
  refine kjSI (kS0 (own := "DateSpansModel") (As := [.int p3]) (rest := []) ⟨hx, hb, hml, hown, hts⟩ (kX10_isLaw l N p3 r26 hc27) (kgS (kq q_1275 rfl) (kq q_1276 rfl) (kq q_66 rfl) (kq q_1277 rfl)) yd_X10_isLaw ⟨Nat.le_of_ble_eq_true rfl, Nat.le_of_ble_eq_true rfl⟩ rfl rfl hl.1 rfl (lv_room (Nat.le_of_ble_eq_true rfl)) dX10_steps_20) ?_
  refine lv_if_eq (tgt := 55) hx hb dX10_steps_23 (by decide) (fun c28 => ?_) (fun c28 => ?_)
  · have h := ite_t c28 h
    refine lv_iconst (v := (-1 : Int32)) hx hb dX10_steps_55 (by decide) ?_
    obtain ⟨rfl, rfl, rfl, rfl, rfl⟩ := pj5 h
    exact hEnd _ _ _ _ hP hS dX10_steps_56 rfl
  have h := ite_f c28 h
  refine lv_iload hx hb dX10_steps_26 (lv_at hl 4 rfl) ?_
  obtain ⟨r29, hc30, h⟩ := bd1_at h
  refine kjSI (kS0 (own := "DateSpansModel") (As := [.int p4]) (rest := []) ⟨hx, hb, hml, hown, hts⟩ (kX10_isOrder l N p4 r29 hc30) (kgS (kq q_1279 rfl) (kq q_1280 rfl) (kq q_66 rfl) (kq q_1281 rfl)) yd_X10_isOrder ⟨Nat.le_of_ble_eq_true rfl, Nat.le_of_ble_eq_true rfl⟩ rfl rfl hl.1 rfl (lv_room (Nat.le_of_ble_eq_true rfl)) dX10_steps_28) ?_
  refine lv_if_eq (tgt := 55) hx hb dX10_steps_31 (by decide) (fun c31 => ?_) (fun c31 => ?_)
  · have h := ite_t c31 h
    refine lv_iconst (v := (-1 : Int32)) hx hb dX10_steps_55 (by decide) ?_
    obtain ⟨rfl, rfl, rfl, rfl, rfl⟩ := pj5 h
    exact hEnd _ _ _ _ hP hS dX10_steps_56 rfl
  have h := ite_f c31 h
  refine lv_iload hx hb dX10_steps_34 (lv_at hl 5 rfl) ?_
  refine lv_i2l hx hb dX10_steps_36 rfl ?_
  refine lv_lconst (v := (0 : Int64)) hx hb dX10_steps_37 (by decide) ?_
  refine lv_ldc2 (v := (10000 : Int64)) hx hb hown (hts _ (kq q_1314 rfl)) dX10_steps_38 ?_
  obtain ⟨r32, hc33, h⟩ := bd1_at h
  refine kjSI (kS0 (own := "DateSpansModel") (As := [.long p5.toInt64, .long (0 : Int64), .long (10000 : Int64)]) (rest := []) ⟨hx, hb, hml, hown, hts⟩ (kX10_in l N p5.toInt64 (0 : Int64) (10000 : Int64) r32 hc33) (kgS (kq q_1086 rfl) (kq q_1087 rfl) (kq q_66 rfl) (kq q_1088 rfl)) yd_X10_in ⟨Nat.le_of_ble_eq_true rfl, Nat.le_of_ble_eq_true rfl⟩ rfl rfl hl.1 rfl (lv_room (Nat.le_of_ble_eq_true rfl)) dX10_steps_41) ?_
  refine lv_if_eq (tgt := 55) hx hb dX10_steps_44 (by decide) (fun c34 => ?_) (fun c34 => ?_)
  · have h := ite_t c34 h
    refine lv_iconst (v := (-1 : Int32)) hx hb dX10_steps_55 (by decide) ?_
    obtain ⟨rfl, rfl, rfl, rfl, rfl⟩ := pj5 h
    exact hEnd _ _ _ _ hP hS dX10_steps_56 rfl
  have h := ite_f c34 h
  refine lv_iload hx hb dX10_steps_47 (lv_at hl 6 rfl) ?_
  obtain ⟨r35, hc36, h⟩ := bd1_at h
  refine kjSI (kS0 (own := "DateSpansModel") (As := [.int p6]) (rest := []) ⟨hx, hb, hml, hown, hts⟩ (kX10_isSlot l N p6 r35 hc36) (kgS (kq q_1123 rfl) (kq q_1124 rfl) (kq q_66 rfl) (kq q_1125 rfl)) yd_X10_isSlot ⟨Nat.le_of_ble_eq_true rfl, Nat.le_of_ble_eq_true rfl⟩ rfl rfl hl.1 rfl (lv_room (Nat.le_of_ble_eq_true rfl)) dX10_steps_49) ?_
  refine lv_if_ne (tgt := 57) hx hb dX10_steps_52 (by decide) (fun c37 => ?_) (fun c37 => ?_)
  · have h := ite_f c37 h
    refine lv_aload_n hx hb dX10_steps_57 rfl (lv_at hl 0 rfl) ?_
    refine lv_iload_n hx hb dX10_steps_58 rfl (lv_at hl 1 rfl) ?_
    obtain ⟨i_this_38, hc39, h⟩ := bd1_at h
    refine kjV (kV (own := "DateSpansModel") (C := "DateSpansModel") (b := h_this) (As := [.int p1]) (rest := []) ⟨hx, hb, hml, hown, hts⟩ (kX10_standsAt l dC dI cI cJ cB h_this h_this_dayAt h_this_secondAt h_this_spans h_this_kept h_this_text h_this_row h_this_read h_this_many h_this_first h_this_lengths h_this_page N p1 (upd i_this 9 (0 : Int32)) j_this f_this_dayAt f_this_secondAt i_this_38 hc39 _) (kgV (kq q_1282 rfl) (kq q_1284 rfl) (kq q_32 rfl) (kq q_66 rfl) (kq q_1285 rfl)) yd_X10_standsAt ⟨Nat.le_of_ble_eq_true rfl, Nat.le_of_ble_eq_true rfl⟩ hN hK hP hD [0, 1, 2] rfl rfl (ci := 9) rfl rfl rfl rfl rfl hl.1 rfl (lv_room (Nat.le_of_ble_eq_true rfl)) dX10_steps_59) hP hD hS hA [0, 1, 2] rfl rfl (fun H locs hP hD hS => ?_)
    have hP : va_P (dC, dI) vwCl [cl_X10 h_this h_this_dayAt h_this_secondAt h_this_spans h_this_kept h_this_text h_this_row h_this_read h_this_many h_this_first h_this_lengths h_this_page i_this_38 j_this, (h_this_dayAt, .inl (cI, 8, .inl f_this_dayAt)), (h_this_secondAt, .inl (cI, 8, .inl f_this_secondAt)), (h_this_spans, .inl (cI, 24, .inl f_this_spans)), (h_this_row, .inl (cJ, 16, .inr (.inl f_this_row)))] H := hP
    have hD : va_D A [cl_X10 h_this h_this_dayAt h_this_secondAt h_this_spans h_this_kept h_this_text h_this_row h_this_read h_this_many h_this_first h_this_lengths h_this_page i_this_38 j_this, (h_this_dayAt, .inl (cI, 8, .inl f_this_dayAt)), (h_this_secondAt, .inl (cI, 8, .inl f_this_secondAt)), (h_this_spans, .inl (cI, 24, .inl f_this_spans)), (h_this_row, .inl (cJ, 16, .inr (.inl f_this_row)))] := hD
    refine lv_iconst (v := (0 : Int32)) hx hb dX10_steps_62 (by decide) ?_
    refine lv_istore (lv' := [(7, .int (0 : Int32)), (0, .ref h_this), (1, .int p1), (2, .int p2), (3, .int p3), (4, .int p4), (5, .int p5), (6, .int p6)]) hx hb dX10_steps_63 hl (by decide) rfl (fun ls hl => ?_)
    refine lv_iconst (v := (0 : Int32)) hx hb dX10_steps_65 (by decide) ?_
    refine lv_istore (lv' := [(8, .int (0 : Int32)), (7, .int (0 : Int32)), (0, .ref h_this), (1, .int p1), (2, .int p2), (3, .int p3), (4, .int p4), (5, .int p5), (6, .int p6)]) hx hb dX10_steps_66 hl (by decide) rfl (fun ls hl => ?_)
    exact LP_68 N _ _ _ _ _ _ _ _ _ _ _ _ _ _ h (lv_sub hl [2, 4, 5, 6, 7, 8, 1, 0] rfl) hP hD hS
  have h := ite_t c37 h
  refine lv_iconst (v := (-1 : Int32)) hx hb dX10_steps_55 (by decide) ?_
  obtain ⟨rfl, rfl, rfl, rfl, rfl⟩ := pj5 h
  exact hEnd _ _ _ _ hP hS dX10_steps_56 rfl
noncomputable def fX10_comesSpan (N : Nat) (p1 : Int32) (p2 : Int64) (p3 : Int64) (p4 : Int64) (i_this : Nat → Int32) (j_this : Nat → Int64) (f_this_spans : Nat → Int32) (f_this_row : Nat → Int64) : Option (Int32 × (Nat → Int32) × (Nat → Int32) × (Nat → Int64)) := (bd1 (fX10_isPart N p2) fun r1 => (if r1 = (0 : Int32) then (some ((-9 : Int32), i_this, f_this_spans, f_this_row)) else (bd1 (fX10_isPart N p3) fun r4 => (if r4 = (0 : Int32) then (some ((-9 : Int32), i_this, f_this_spans, f_this_row)) else (bd1 (fX10_isPart N p4) fun r7 => (if r7 = (0 : Int32) then (some ((-9 : Int32), i_this, f_this_spans, f_this_row)) else (bd1 (fX10_laysSpan N p1 p2 p3 p4 i_this j_this f_this_spans) fun f_this_spans_10 => (bd2 (fX10_tellsSpan N p1 i_this j_this f_this_spans_10 f_this_row) fun i_this_12 f_this_row_13 => (some (p2.toInt32, i_this_12, f_this_spans_10, f_this_row_13))))))))))
set_option maxHeartbeats 4000000 in
set_option maxRecDepth 100000 in
theorem kX10_comesSpan (l : Launch) (dC : Nat → ClassId) (dI : Nat → Nat → Nat) (cI cJ cB : ClassId) (h_this h_this_dayAt h_this_secondAt h_this_spans h_this_kept h_this_text h_this_row h_this_read h_this_many h_this_first h_this_lengths h_this_page : Nat) (N : Nat) (p1 : Int32) (p2 : Int64) (p3 : Int64) (p4 : Int64) (i_this : Nat → Int32) (j_this : Nat → Int64) (f_this_spans : Nat → Int32) (f_this_row : Nat → Int64) (r : Int32) (o_i_this : Nat → Int32) (o_f_this_spans : Nat → Int32) (o_f_this_row : Nat → Int64) (hf : fX10_comesSpan N p1 p2 p3 p4 i_this j_this f_this_spans f_this_row = some (r, o_i_this, o_f_this_spans, o_f_this_row)) : MI l yX10_comesSpan (kws yX10_comesSpan cX10_comesSpan 8 (some .int)) (kR 2 46) (dC, dI) (kT cI cJ cB) [.ref h_this, .int p1, .long p2, .long p3, .long p4] [cl_X10 h_this h_this_dayAt h_this_secondAt h_this_spans h_this_kept h_this_text h_this_row h_this_read h_this_many h_this_first h_this_lengths h_this_page i_this j_this, (h_this_spans, .inl (cI, 24, .inl f_this_spans)), (h_this_row, .inl (cJ, 16, .inr (.inl f_this_row)))] [cl_X10 h_this h_this_dayAt h_this_secondAt h_this_spans h_this_kept h_this_text h_this_row h_this_read h_this_many h_this_first h_this_lengths h_this_page o_i_this j_this, (h_this_spans, .inl (cI, 24, .inl o_f_this_spans)), (h_this_row, .inl (cJ, 16, .inr (.inl o_f_this_row)))] r := by
  refine MI.of (cc := cX10_comesSpan) (maxL := 8) (by decide) (Nat.le_of_ble_eq_true rfl) (fun p e s m args below meth c A Q ls KC hN hK hP hD hA hl hEnd => ?_)
  obtain ⟨hx, hb, hml, hown, hts⟩ := KC
  have hown : s.vm.findClass "DateSpansModel" = some m.cls := hown
  have hl : lv_has ls 8 [(0, .ref h_this), (1, .int p1), (2, .long p2), (4, .long p3), (6, .long p4)] := hl
  have hS : va_S A s.heap s.heap [] := va_S.rf
  have h := hf
  unfold fX10_comesSpan at h
  refine lv_lload_n hx hb dX10_comesSpan_0 rfl (lv_at hl 2 rfl) ?_
  obtain ⟨r1, hc2, h⟩ := bd1_at h
  refine kjSI (kS0 (own := "DateSpansModel") (As := [.long p2]) (rest := []) ⟨hx, hb, hml, hown, hts⟩ (kX10_isPart l N p2 r1 hc2) (kgS (kq q_1229 rfl) (kq q_1230 rfl) (kq q_66 rfl) (kq q_1231 rfl)) yd_X10_isPart ⟨Nat.le_of_ble_eq_true rfl, Nat.le_of_ble_eq_true rfl⟩ rfl rfl hl.1 rfl (lv_room (Nat.le_of_ble_eq_true rfl)) dX10_comesSpan_1) ?_
  refine lv_if_eq (tgt := 23) hx hb dX10_comesSpan_4 (by decide) (fun c3 => ?_) (fun c3 => ?_)
  · have h := ite_t c3 h
    refine lv_bipush (v := (-9 : Int32)) hx hb dX10_comesSpan_23 (by decide) ?_
    obtain ⟨rfl, rfl, rfl, rfl⟩ := pj4 h
    exact hEnd _ _ _ _ hP hS dX10_comesSpan_25 rfl
  have h := ite_f c3 h
  refine lv_lload hx hb dX10_comesSpan_7 (lv_at hl 3 rfl) ?_
  obtain ⟨r4, hc5, h⟩ := bd1_at h
  refine kjSI (kS0 (own := "DateSpansModel") (As := [.long p3]) (rest := []) ⟨hx, hb, hml, hown, hts⟩ (kX10_isPart l N p3 r4 hc5) (kgS (kq q_1229 rfl) (kq q_1230 rfl) (kq q_66 rfl) (kq q_1231 rfl)) yd_X10_isPart ⟨Nat.le_of_ble_eq_true rfl, Nat.le_of_ble_eq_true rfl⟩ rfl rfl hl.1 rfl (lv_room (Nat.le_of_ble_eq_true rfl)) dX10_comesSpan_9) ?_
  refine lv_if_eq (tgt := 23) hx hb dX10_comesSpan_12 (by decide) (fun c6 => ?_) (fun c6 => ?_)
  · have h := ite_t c6 h
    refine lv_bipush (v := (-9 : Int32)) hx hb dX10_comesSpan_23 (by decide) ?_
    obtain ⟨rfl, rfl, rfl, rfl⟩ := pj4 h
    exact hEnd _ _ _ _ hP hS dX10_comesSpan_25 rfl
  have h := ite_f c6 h
  refine lv_lload hx hb dX10_comesSpan_15 (lv_at hl 4 rfl) ?_
  obtain ⟨r7, hc8, h⟩ := bd1_at h
  refine kjSI (kS0 (own := "DateSpansModel") (As := [.long p4]) (rest := []) ⟨hx, hb, hml, hown, hts⟩ (kX10_isPart l N p4 r7 hc8) (kgS (kq q_1229 rfl) (kq q_1230 rfl) (kq q_66 rfl) (kq q_1231 rfl)) yd_X10_isPart ⟨Nat.le_of_ble_eq_true rfl, Nat.le_of_ble_eq_true rfl⟩ rfl rfl hl.1 rfl (lv_room (Nat.le_of_ble_eq_true rfl)) dX10_comesSpan_17) ?_
  refine lv_if_ne (tgt := 26) hx hb dX10_comesSpan_20 (by decide) (fun c9 => ?_) (fun c9 => ?_)
  · have h := ite_f c9 h
    refine lv_aload_n hx hb dX10_comesSpan_26 rfl (lv_at hl 0 rfl) ?_
    refine lv_iload_n hx hb dX10_comesSpan_27 rfl (lv_at hl 1 rfl) ?_
    refine lv_lload_n hx hb dX10_comesSpan_28 rfl (lv_at hl 2 rfl) ?_
    refine lv_lload hx hb dX10_comesSpan_29 (lv_at hl 3 rfl) ?_
    refine lv_lload hx hb dX10_comesSpan_31 (lv_at hl 4 rfl) ?_
    obtain ⟨f_this_spans_10, hc11, h⟩ := bd1_at h
    refine kjV (kV (own := "DateSpansModel") (C := "DateSpansModel") (b := h_this) (As := [.int p1, .long p2, .long p3, .long p4]) (rest := []) ⟨hx, hb, hml, hown, hts⟩ (kX10_laysSpan l dC dI cI cJ cB h_this h_this_dayAt h_this_secondAt h_this_spans h_this_kept h_this_text h_this_row h_this_read h_this_many h_this_first h_this_lengths h_this_page N p1 p2 p3 p4 i_this j_this f_this_spans f_this_spans_10 hc11 _) (kgV (kq q_1213 rfl) (kq q_1215 rfl) (kq q_27 rfl) (kq q_66 rfl) (kq q_1216 rfl)) yd_X10_laysSpan ⟨Nat.le_of_ble_eq_true rfl, Nat.le_of_ble_eq_true rfl⟩ hN hK hP hD [0, 1] rfl rfl (ci := 9) rfl rfl rfl rfl rfl hl.1 rfl (lv_room (Nat.le_of_ble_eq_true rfl)) dX10_comesSpan_33) hP hD hS hA [0, 1] rfl rfl (fun H locs hP hD hS => ?_)
    have hP : va_P (dC, dI) vwCl [cl_X10 h_this h_this_dayAt h_this_secondAt h_this_spans h_this_kept h_this_text h_this_row h_this_read h_this_many h_this_first h_this_lengths h_this_page i_this j_this, (h_this_spans, .inl (cI, 24, .inl f_this_spans_10)), (h_this_row, .inl (cJ, 16, .inr (.inl f_this_row)))] H := hP
    have hD : va_D A [cl_X10 h_this h_this_dayAt h_this_secondAt h_this_spans h_this_kept h_this_text h_this_row h_this_read h_this_many h_this_first h_this_lengths h_this_page i_this j_this, (h_this_spans, .inl (cI, 24, .inl f_this_spans_10)), (h_this_row, .inl (cJ, 16, .inr (.inl f_this_row)))] := hD
    refine lv_aload_n hx hb dX10_comesSpan_36 rfl (lv_at hl 0 rfl) ?_
    refine lv_iload_n hx hb dX10_comesSpan_37 rfl (lv_at hl 1 rfl) ?_
    obtain ⟨i_this_12, f_this_row_13, hc14, h⟩ := bd2_at h
    refine kjV (kV (own := "DateSpansModel") (C := "DateSpansModel") (b := h_this) (As := [.int p1]) (rest := []) ⟨hx, hb, hml, hown, hts⟩ (kX10_tellsSpan l dC dI cI cJ cB h_this h_this_dayAt h_this_secondAt h_this_spans h_this_kept h_this_text h_this_row h_this_read h_this_many h_this_first h_this_lengths h_this_page N p1 i_this j_this f_this_spans_10 f_this_row i_this_12 f_this_row_13 hc14 _) (kgV (kq q_1217 rfl) (kq q_1219 rfl) (kq q_28 rfl) (kq q_66 rfl) (kq q_1220 rfl)) yd_X10_tellsSpan ⟨Nat.le_of_ble_eq_true rfl, Nat.le_of_ble_eq_true rfl⟩ hN hK hP hD [0, 1, 2] rfl rfl (ci := 9) rfl rfl rfl rfl rfl hl.1 rfl (lv_room (Nat.le_of_ble_eq_true rfl)) dX10_comesSpan_38) hP hD hS hA [0, 1, 2] rfl rfl (fun H locs hP hD hS => ?_)
    have hP : va_P (dC, dI) vwCl [cl_X10 h_this h_this_dayAt h_this_secondAt h_this_spans h_this_kept h_this_text h_this_row h_this_read h_this_many h_this_first h_this_lengths h_this_page i_this_12 j_this, (h_this_spans, .inl (cI, 24, .inl f_this_spans_10)), (h_this_row, .inl (cJ, 16, .inr (.inl f_this_row_13)))] H := hP
    have hD : va_D A [cl_X10 h_this h_this_dayAt h_this_secondAt h_this_spans h_this_kept h_this_text h_this_row h_this_read h_this_many h_this_first h_this_lengths h_this_page i_this_12 j_this, (h_this_spans, .inl (cI, 24, .inl f_this_spans_10)), (h_this_row, .inl (cJ, 16, .inr (.inl f_this_row_13)))] := hD
    refine lv_lload_n hx hb dX10_comesSpan_41 rfl (lv_at hl 2 rfl) ?_
    refine lv_l2i hx hb dX10_comesSpan_42 rfl ?_
    obtain ⟨rfl, rfl, rfl, rfl⟩ := pj4 h
    exact hEnd _ _ _ _ hP hS dX10_comesSpan_43 rfl
  have h := ite_t c9 h
  refine lv_bipush (v := (-9 : Int32)) hx hb dX10_comesSpan_23 (by decide) ?_
  obtain ⟨rfl, rfl, rfl, rfl⟩ := pj4 h
  exact hEnd _ _ _ _ hP hS dX10_comesSpan_25 rfl
noncomputable def fX10_sum (N : Nat) (p1 : Int32) (p2 : Int32) (p3 : Int32) (i_this : Nat → Int32) (j_this : Nat → Int64) (f_this_spans : Nat → Int32) (f_this_row : Nat → Int64) : Option (Int32 × (Nat → Int32) × (Nat → Int32) × (Nat → Int64)) := (bd1 (fX10_isSlot N p1) fun r1 => (if r1 = (0 : Int32) then (some ((-1 : Int32), (upd i_this 9 (0 : Int32)), f_this_spans, f_this_row)) else (bd1 (fX10_isSlot N p2) fun r4 => (if r4 = (0 : Int32) then (some ((-1 : Int32), (upd i_this 9 (0 : Int32)), f_this_spans, f_this_row)) else (bd1 (fX10_isSlot N p3) fun r7 => (if r7 = (0 : Int32) then (some ((-1 : Int32), (upd i_this 9 (0 : Int32)), f_this_spans, f_this_row)) else (gi ((3 : Int32) * p1) 24 (gi ((3 : Int32) * p2) 24 (gi (((3 : Int32) * p1) + (1 : Int32)) 24 (gi (((3 : Int32) * p2) + (1 : Int32)) 24 (gi (((3 : Int32) * p1) + (2 : Int32)) 24 (gi (((3 : Int32) * p2) + (2 : Int32)) 24 (bd4 (fX10_comesSpan N p3 ((f_this_spans ((3 : Int32) * p1).toNatClampNeg).toInt64 + (f_this_spans ((3 : Int32) * p2).toNatClampNeg).toInt64) ((f_this_spans (((3 : Int32) * p1) + (1 : Int32)).toNatClampNeg).toInt64 + (f_this_spans (((3 : Int32) * p2) + (1 : Int32)).toNatClampNeg).toInt64) ((f_this_spans (((3 : Int32) * p1) + (2 : Int32)).toNatClampNeg).toInt64 + (f_this_spans (((3 : Int32) * p2) + (2 : Int32)).toNatClampNeg).toInt64) (upd i_this 9 (0 : Int32)) j_this f_this_spans f_this_row) fun r16 i_this_17 f_this_spans_18 f_this_row_19 => (some (r16, i_this_17, f_this_spans_18, f_this_row_19)))))))))))))))
set_option maxHeartbeats 4000000 in
set_option maxRecDepth 100000 in
theorem kX10_sum (l : Launch) (dC : Nat → ClassId) (dI : Nat → Nat → Nat) (cI cJ cB : ClassId) (h_this h_this_dayAt h_this_secondAt h_this_spans h_this_kept h_this_text h_this_row h_this_read h_this_many h_this_first h_this_lengths h_this_page : Nat) (N : Nat) (p1 : Int32) (p2 : Int32) (p3 : Int32) (i_this : Nat → Int32) (j_this : Nat → Int64) (f_this_spans : Nat → Int32) (f_this_row : Nat → Int64) (r : Int32) (o_i_this : Nat → Int32) (o_f_this_spans : Nat → Int32) (o_f_this_row : Nat → Int64) (hf : fX10_sum N p1 p2 p3 i_this j_this f_this_spans f_this_row = some (r, o_i_this, o_f_this_spans, o_f_this_row)) : MI l yX10_sum (kws yX10_sum cX10_sum 4 (some .int)) (kR 3 73) (dC, dI) (kT cI cJ cB) [.ref h_this, .int p1, .int p2, .int p3] [cl_X10 h_this h_this_dayAt h_this_secondAt h_this_spans h_this_kept h_this_text h_this_row h_this_read h_this_many h_this_first h_this_lengths h_this_page i_this j_this, (h_this_spans, .inl (cI, 24, .inl f_this_spans)), (h_this_row, .inl (cJ, 16, .inr (.inl f_this_row)))] [cl_X10 h_this h_this_dayAt h_this_secondAt h_this_spans h_this_kept h_this_text h_this_row h_this_read h_this_many h_this_first h_this_lengths h_this_page o_i_this j_this, (h_this_spans, .inl (cI, 24, .inl o_f_this_spans)), (h_this_row, .inl (cJ, 16, .inr (.inl o_f_this_row)))] r := by
  refine MI.of (cc := cX10_sum) (maxL := 4) (by decide) (Nat.le_of_ble_eq_true rfl) (fun p e s m args below meth c A Q ls KC hN hK hP hD hA hl hEnd => ?_)
  obtain ⟨hx, hb, hml, hown, hts⟩ := KC
  have hown : s.vm.findClass "DateSpansModel" = some m.cls := hown
  have hl : lv_has ls 4 [(0, .ref h_this), (1, .int p1), (2, .int p2), (3, .int p3)] := hl
  have hS : va_S A s.heap s.heap [] := va_S.rf
  have h := hf
  unfold fX10_sum at h
  refine lv_aload_n hx hb dX10_sum_0 rfl (lv_at hl 0 rfl) ?_
  refine lv_iconst (v := (0 : Int32)) hx hb dX10_sum_1 (by decide) ?_
  refine va_put (D := (dC, dI)) (ci := 9) (v := .int (0 : Int32)) (ty := .int) (C := RX10) (T := TX10) (N := 29) hx hb hts inX10 tyX10 tyX10_ok nmX10 hown hK hP hD hS 0 rfl rfl 9 (by decide) (hts _ (kq q_995 rfl)) (fun _ h9 => h9) rfl (by decide +kernel) rfl rfl (Nat.le_of_ble_eq_true rfl) dX10_sum_2 (fun H locs hP hD hS => ?_)
  have hP : va_P (dC, dI) vwCl [(h_this, .inr (9, [.ref h_this_dayAt, .ref h_this_secondAt, .ref h_this_spans, .ref h_this_kept, .int (i_this 4), .ref h_this_text, .int (i_this 6), .ref h_this_row, .int (i_this 8), .int (0 : Int32), .int (i_this 10), .int (i_this 11), .int (i_this 12), .int (i_this 13), .int (i_this 14), .int (i_this 15), .int (i_this 16), .int (i_this 17), .int (i_this 18), .ref h_this_read, .long (j_this 20), .ref h_this_many, .ref h_this_first, .ref h_this_lengths, .int (i_this 24), .long (j_this 25), .long (j_this 26), .ref h_this_page, .int (i_this 28)])), (h_this_spans, .inl (cI, 24, .inl f_this_spans)), (h_this_row, .inl (cJ, 16, .inr (.inl f_this_row)))] H := hP
  have hD : va_D A [(h_this, .inr (9, [.ref h_this_dayAt, .ref h_this_secondAt, .ref h_this_spans, .ref h_this_kept, .int (i_this 4), .ref h_this_text, .int (i_this 6), .ref h_this_row, .int (i_this 8), .int (0 : Int32), .int (i_this 10), .int (i_this 11), .int (i_this 12), .int (i_this 13), .int (i_this 14), .int (i_this 15), .int (i_this 16), .int (i_this 17), .int (i_this 18), .ref h_this_read, .long (j_this 20), .ref h_this_many, .ref h_this_first, .ref h_this_lengths, .int (i_this 24), .long (j_this 25), .long (j_this 26), .ref h_this_page, .int (i_this 28)])), (h_this_spans, .inl (cI, 24, .inl f_this_spans)), (h_this_row, .inl (cJ, 16, .inr (.inl f_this_row)))] := hD
  refine lv_iload_n hx hb dX10_sum_5 rfl (lv_at hl 1 rfl) ?_
  have hP : va_P (dC, dI) vwCl [cl_X10 h_this h_this_dayAt h_this_secondAt h_this_spans h_this_kept h_this_text h_this_row h_this_read h_this_many h_this_first h_this_lengths h_this_page (upd i_this 9 (0 : Int32)) j_this, (h_this_spans, .inl (cI, 24, .inl f_this_spans)), (h_this_row, .inl (cJ, 16, .inr (.inl f_this_row)))] H := hP
  have hD : va_D A [cl_X10 h_this h_this_dayAt h_this_secondAt h_this_spans h_this_kept h_this_text h_this_row h_this_read h_this_many h_this_first h_this_lengths h_this_page (upd i_this 9 (0 : Int32)) j_this, (h_this_spans, .inl (cI, 24, .inl f_this_spans)), (h_this_row, .inl (cJ, 16, .inr (.inl f_this_row)))] := hD
  obtain ⟨r1, hc2, h⟩ := bd1_at h
  refine kjSI (kS0 (own := "DateSpansModel") (As := [.int p1]) (rest := []) ⟨hx, hb, hml, hown, hts⟩ (kX10_isSlot l N p1 r1 hc2) (kgS (kq q_1123 rfl) (kq q_1124 rfl) (kq q_66 rfl) (kq q_1125 rfl)) yd_X10_isSlot ⟨Nat.le_of_ble_eq_true rfl, Nat.le_of_ble_eq_true rfl⟩ rfl rfl hl.1 rfl (lv_room (Nat.le_of_ble_eq_true rfl)) dX10_sum_6) ?_
  refine lv_if_eq (tgt := 26) hx hb dX10_sum_9 (by decide) (fun c3 => ?_) (fun c3 => ?_)
  · have h := ite_t c3 h
    refine lv_iconst (v := (-1 : Int32)) hx hb dX10_sum_26 (by decide) ?_
    obtain ⟨rfl, rfl, rfl, rfl⟩ := pj4 h
    exact hEnd _ _ _ _ hP hS dX10_sum_27 rfl
  have h := ite_f c3 h
  refine lv_iload_n hx hb dX10_sum_12 rfl (lv_at hl 2 rfl) ?_
  obtain ⟨r4, hc5, h⟩ := bd1_at h
  refine kjSI (kS0 (own := "DateSpansModel") (As := [.int p2]) (rest := []) ⟨hx, hb, hml, hown, hts⟩ (kX10_isSlot l N p2 r4 hc5) (kgS (kq q_1123 rfl) (kq q_1124 rfl) (kq q_66 rfl) (kq q_1125 rfl)) yd_X10_isSlot ⟨Nat.le_of_ble_eq_true rfl, Nat.le_of_ble_eq_true rfl⟩ rfl rfl hl.1 rfl (lv_room (Nat.le_of_ble_eq_true rfl)) dX10_sum_13) ?_
  refine lv_if_eq (tgt := 26) hx hb dX10_sum_16 (by decide) (fun c6 => ?_) (fun c6 => ?_)
  · have h := ite_t c6 h
    refine lv_iconst (v := (-1 : Int32)) hx hb dX10_sum_26 (by decide) ?_
    obtain ⟨rfl, rfl, rfl, rfl⟩ := pj4 h
    exact hEnd _ _ _ _ hP hS dX10_sum_27 rfl
  have h := ite_f c6 h
  refine lv_iload_n hx hb dX10_sum_19 rfl (lv_at hl 3 rfl) ?_
  obtain ⟨r7, hc8, h⟩ := bd1_at h
  refine kjSI (kS0 (own := "DateSpansModel") (As := [.int p3]) (rest := []) ⟨hx, hb, hml, hown, hts⟩ (kX10_isSlot l N p3 r7 hc8) (kgS (kq q_1123 rfl) (kq q_1124 rfl) (kq q_66 rfl) (kq q_1125 rfl)) yd_X10_isSlot ⟨Nat.le_of_ble_eq_true rfl, Nat.le_of_ble_eq_true rfl⟩ rfl rfl hl.1 rfl (lv_room (Nat.le_of_ble_eq_true rfl)) dX10_sum_20) ?_
  refine lv_if_ne (tgt := 28) hx hb dX10_sum_23 (by decide) (fun c9 => ?_) (fun c9 => ?_)
  · have h := ite_f c9 h
    refine lv_aload_n hx hb dX10_sum_28 rfl (lv_at hl 0 rfl) ?_
    refine lv_iload_n hx hb dX10_sum_29 rfl (lv_at hl 3 rfl) ?_
    refine lv_aload_n hx hb dX10_sum_30 rfl (lv_at hl 0 rfl) ?_
    refine va_get (D := (dC, dI)) (ci := 9) (v := .ref h_this_spans) (C := RX10) (T := TX10) (N := 29) hx hb hts inX10 hown hK hP 0 rfl rfl 2 (by decide) (hts _ (kq q_988 rfl)) (fun _ h9 => h9) rfl dX10_sum_31 ?_
    refine lv_iconst (v := (3 : Int32)) hx hb dX10_sum_34 (by decide) ?_
    refine lv_iload_n hx hb dX10_sum_35 rfl (lv_at hl 1 rfl) ?_
    refine lv_imul hx hb dX10_sum_36 ?_
    obtain ⟨hi10, h⟩ := gi_at h
    refine va_iald hx hb hK hP 1 0 rfl rfl hi10 dX10_sum_37 ?_
    refine lv_i2l hx hb dX10_sum_38 rfl ?_
    refine lv_aload_n hx hb dX10_sum_39 rfl (lv_at hl 0 rfl) ?_
    refine va_get (D := (dC, dI)) (ci := 9) (v := .ref h_this_spans) (C := RX10) (T := TX10) (N := 29) hx hb hts inX10 hown hK hP 0 rfl rfl 2 (by decide) (hts _ (kq q_988 rfl)) (fun _ h9 => h9) rfl dX10_sum_40 ?_
    refine lv_iconst (v := (3 : Int32)) hx hb dX10_sum_43 (by decide) ?_
    refine lv_iload_n hx hb dX10_sum_44 rfl (lv_at hl 2 rfl) ?_
    refine lv_imul hx hb dX10_sum_45 ?_
    obtain ⟨hi11, h⟩ := gi_at h
    refine va_iald hx hb hK hP 1 0 rfl rfl hi11 dX10_sum_46 ?_
    refine lv_i2l hx hb dX10_sum_47 rfl ?_
    refine lv_ladd hx hb dX10_sum_48 ?_
    refine lv_aload_n hx hb dX10_sum_49 rfl (lv_at hl 0 rfl) ?_
    refine va_get (D := (dC, dI)) (ci := 9) (v := .ref h_this_spans) (C := RX10) (T := TX10) (N := 29) hx hb hts inX10 hown hK hP 0 rfl rfl 2 (by decide) (hts _ (kq q_988 rfl)) (fun _ h9 => h9) rfl dX10_sum_50 ?_
    refine lv_iconst (v := (3 : Int32)) hx hb dX10_sum_53 (by decide) ?_
    refine lv_iload_n hx hb dX10_sum_54 rfl (lv_at hl 1 rfl) ?_
    refine lv_imul hx hb dX10_sum_55 ?_
    refine lv_iconst (v := (1 : Int32)) hx hb dX10_sum_56 (by decide) ?_
    refine lv_iadd hx hb dX10_sum_57 ?_
    obtain ⟨hi12, h⟩ := gi_at h
    refine va_iald hx hb hK hP 1 0 rfl rfl hi12 dX10_sum_58 ?_
    refine lv_i2l hx hb dX10_sum_59 rfl ?_
    refine lv_aload_n hx hb dX10_sum_60 rfl (lv_at hl 0 rfl) ?_
    refine va_get (D := (dC, dI)) (ci := 9) (v := .ref h_this_spans) (C := RX10) (T := TX10) (N := 29) hx hb hts inX10 hown hK hP 0 rfl rfl 2 (by decide) (hts _ (kq q_988 rfl)) (fun _ h9 => h9) rfl dX10_sum_61 ?_
    refine lv_iconst (v := (3 : Int32)) hx hb dX10_sum_64 (by decide) ?_
    refine lv_iload_n hx hb dX10_sum_65 rfl (lv_at hl 2 rfl) ?_
    refine lv_imul hx hb dX10_sum_66 ?_
    refine lv_iconst (v := (1 : Int32)) hx hb dX10_sum_67 (by decide) ?_
    refine lv_iadd hx hb dX10_sum_68 ?_
    obtain ⟨hi13, h⟩ := gi_at h
    refine va_iald hx hb hK hP 1 0 rfl rfl hi13 dX10_sum_69 ?_
    refine lv_i2l hx hb dX10_sum_70 rfl ?_
    refine lv_ladd hx hb dX10_sum_71 ?_
    refine lv_aload_n hx hb dX10_sum_72 rfl (lv_at hl 0 rfl) ?_
    refine va_get (D := (dC, dI)) (ci := 9) (v := .ref h_this_spans) (C := RX10) (T := TX10) (N := 29) hx hb hts inX10 hown hK hP 0 rfl rfl 2 (by decide) (hts _ (kq q_988 rfl)) (fun _ h9 => h9) rfl dX10_sum_73 ?_
    refine lv_iconst (v := (3 : Int32)) hx hb dX10_sum_76 (by decide) ?_
    refine lv_iload_n hx hb dX10_sum_77 rfl (lv_at hl 1 rfl) ?_
    refine lv_imul hx hb dX10_sum_78 ?_
    refine lv_iconst (v := (2 : Int32)) hx hb dX10_sum_79 (by decide) ?_
    refine lv_iadd hx hb dX10_sum_80 ?_
    obtain ⟨hi14, h⟩ := gi_at h
    refine va_iald hx hb hK hP 1 0 rfl rfl hi14 dX10_sum_81 ?_
    refine lv_i2l hx hb dX10_sum_82 rfl ?_
    refine lv_aload_n hx hb dX10_sum_83 rfl (lv_at hl 0 rfl) ?_
    refine va_get (D := (dC, dI)) (ci := 9) (v := .ref h_this_spans) (C := RX10) (T := TX10) (N := 29) hx hb hts inX10 hown hK hP 0 rfl rfl 2 (by decide) (hts _ (kq q_988 rfl)) (fun _ h9 => h9) rfl dX10_sum_84 ?_
    refine lv_iconst (v := (3 : Int32)) hx hb dX10_sum_87 (by decide) ?_
    refine lv_iload_n hx hb dX10_sum_88 rfl (lv_at hl 2 rfl) ?_
    refine lv_imul hx hb dX10_sum_89 ?_
    refine lv_iconst (v := (2 : Int32)) hx hb dX10_sum_90 (by decide) ?_
    refine lv_iadd hx hb dX10_sum_91 ?_
    obtain ⟨hi15, h⟩ := gi_at h
    refine va_iald hx hb hK hP 1 0 rfl rfl hi15 dX10_sum_92 ?_
    refine lv_i2l hx hb dX10_sum_93 rfl ?_
    refine lv_ladd hx hb dX10_sum_94 ?_
    obtain ⟨r16, i_this_17, f_this_spans_18, f_this_row_19, hc20, h⟩ := bd4_at h
    refine kjI (kV (own := "DateSpansModel") (C := "DateSpansModel") (b := h_this) (As := [.int p3, .long ((f_this_spans ((3 : Int32) * p1).toNatClampNeg).toInt64 + (f_this_spans ((3 : Int32) * p2).toNatClampNeg).toInt64), .long ((f_this_spans (((3 : Int32) * p1) + (1 : Int32)).toNatClampNeg).toInt64 + (f_this_spans (((3 : Int32) * p2) + (1 : Int32)).toNatClampNeg).toInt64), .long ((f_this_spans (((3 : Int32) * p1) + (2 : Int32)).toNatClampNeg).toInt64 + (f_this_spans (((3 : Int32) * p2) + (2 : Int32)).toNatClampNeg).toInt64)]) (rest := []) ⟨hx, hb, hml, hown, hts⟩ (kX10_comesSpan l dC dI cI cJ cB h_this h_this_dayAt h_this_secondAt h_this_spans h_this_kept h_this_text h_this_row h_this_read h_this_many h_this_first h_this_lengths h_this_page N p3 ((f_this_spans ((3 : Int32) * p1).toNatClampNeg).toInt64 + (f_this_spans ((3 : Int32) * p2).toNatClampNeg).toInt64) ((f_this_spans (((3 : Int32) * p1) + (1 : Int32)).toNatClampNeg).toInt64 + (f_this_spans (((3 : Int32) * p2) + (1 : Int32)).toNatClampNeg).toInt64) ((f_this_spans (((3 : Int32) * p1) + (2 : Int32)).toNatClampNeg).toInt64 + (f_this_spans (((3 : Int32) * p2) + (2 : Int32)).toNatClampNeg).toInt64) (upd i_this 9 (0 : Int32)) j_this f_this_spans f_this_row r16 i_this_17 f_this_spans_18 f_this_row_19 hc20 _) (kgV (kq q_1319 rfl) (kq q_1321 rfl) (kq q_38 rfl) (kq q_66 rfl) (kq q_1322 rfl)) yd_X10_comesSpan ⟨Nat.le_of_ble_eq_true rfl, Nat.le_of_ble_eq_true rfl⟩ hN hK hP hD [0, 1, 2] rfl rfl (ci := 9) rfl rfl rfl rfl rfl hl.1 rfl (lv_room (Nat.le_of_ble_eq_true rfl)) dX10_sum_95) hP hD hS hA [0, 1, 2] rfl rfl (fun H locs hP hD hS => ?_)
    have hP : va_P (dC, dI) vwCl [cl_X10 h_this h_this_dayAt h_this_secondAt h_this_spans h_this_kept h_this_text h_this_row h_this_read h_this_many h_this_first h_this_lengths h_this_page i_this_17 j_this, (h_this_spans, .inl (cI, 24, .inl f_this_spans_18)), (h_this_row, .inl (cJ, 16, .inr (.inl f_this_row_19)))] H := hP
    have hD : va_D A [cl_X10 h_this h_this_dayAt h_this_secondAt h_this_spans h_this_kept h_this_text h_this_row h_this_read h_this_many h_this_first h_this_lengths h_this_page i_this_17 j_this, (h_this_spans, .inl (cI, 24, .inl f_this_spans_18)), (h_this_row, .inl (cJ, 16, .inr (.inl f_this_row_19)))] := hD
    obtain ⟨rfl, rfl, rfl, rfl⟩ := pj4 h
    exact hEnd _ _ _ _ hP hS dX10_sum_98 rfl
  have h := ite_t c9 h
  refine lv_iconst (v := (-1 : Int32)) hx hb dX10_sum_26 (by decide) ?_
  obtain ⟨rfl, rfl, rfl, rfl⟩ := pj4 h
  exact hEnd _ _ _ _ hP hS dX10_sum_27 rfl
noncomputable def fX10_mult (N : Nat) (p1 : Int32) (p2 : Int32) (p3 : Int32) (i_this : Nat → Int32) (j_this : Nat → Int64) (f_this_spans : Nat → Int32) (f_this_row : Nat → Int64) : Option (Int32 × (Nat → Int32) × (Nat → Int32) × (Nat → Int64)) := (bd1 (fX10_isSlot N p1) fun r1 => (if r1 = (0 : Int32) then (some ((-1 : Int32), (upd i_this 9 (0 : Int32)), f_this_spans, f_this_row)) else (bd1 (fX10_isSlot N p3) fun r4 => (if r4 = (0 : Int32) then (some ((-1 : Int32), (upd i_this 9 (0 : Int32)), f_this_spans, f_this_row)) else (gi ((3 : Int32) * p1) 24 (gi (((3 : Int32) * p1) + (1 : Int32)) 24 (gi (((3 : Int32) * p1) + (2 : Int32)) 24 (bd4 (fX10_comesSpan N p3 (p2.toInt64 * (f_this_spans ((3 : Int32) * p1).toNatClampNeg).toInt64) (p2.toInt64 * (f_this_spans (((3 : Int32) * p1) + (1 : Int32)).toNatClampNeg).toInt64) (p2.toInt64 * (f_this_spans (((3 : Int32) * p1) + (2 : Int32)).toNatClampNeg).toInt64) (upd i_this 9 (0 : Int32)) j_this f_this_spans f_this_row) fun r10 i_this_11 f_this_spans_12 f_this_row_13 => (some (r10, i_this_11, f_this_spans_12, f_this_row_13))))))))))
set_option maxHeartbeats 4000000 in
set_option maxRecDepth 100000 in
theorem kX10_mult (l : Launch) (dC : Nat → ClassId) (dI : Nat → Nat → Nat) (cI cJ cB : ClassId) (h_this h_this_dayAt h_this_secondAt h_this_spans h_this_kept h_this_text h_this_row h_this_read h_this_many h_this_first h_this_lengths h_this_page : Nat) (N : Nat) (p1 : Int32) (p2 : Int32) (p3 : Int32) (i_this : Nat → Int32) (j_this : Nat → Int64) (f_this_spans : Nat → Int32) (f_this_row : Nat → Int64) (r : Int32) (o_i_this : Nat → Int32) (o_f_this_spans : Nat → Int32) (o_f_this_row : Nat → Int64) (hf : fX10_mult N p1 p2 p3 i_this j_this f_this_spans f_this_row = some (r, o_i_this, o_f_this_spans, o_f_this_row)) : MI l yX10_mult (kws yX10_mult cX10_mult 4 (some .int)) (kR 3 73) (dC, dI) (kT cI cJ cB) [.ref h_this, .int p1, .int p2, .int p3] [cl_X10 h_this h_this_dayAt h_this_secondAt h_this_spans h_this_kept h_this_text h_this_row h_this_read h_this_many h_this_first h_this_lengths h_this_page i_this j_this, (h_this_spans, .inl (cI, 24, .inl f_this_spans)), (h_this_row, .inl (cJ, 16, .inr (.inl f_this_row)))] [cl_X10 h_this h_this_dayAt h_this_secondAt h_this_spans h_this_kept h_this_text h_this_row h_this_read h_this_many h_this_first h_this_lengths h_this_page o_i_this j_this, (h_this_spans, .inl (cI, 24, .inl o_f_this_spans)), (h_this_row, .inl (cJ, 16, .inr (.inl o_f_this_row)))] r := by
  refine MI.of (cc := cX10_mult) (maxL := 4) (by decide) (Nat.le_of_ble_eq_true rfl) (fun p e s m args below meth c A Q ls KC hN hK hP hD hA hl hEnd => ?_)
  obtain ⟨hx, hb, hml, hown, hts⟩ := KC
  have hown : s.vm.findClass "DateSpansModel" = some m.cls := hown
  have hl : lv_has ls 4 [(0, .ref h_this), (1, .int p1), (2, .int p2), (3, .int p3)] := hl
  have hS : va_S A s.heap s.heap [] := va_S.rf
  have h := hf
  unfold fX10_mult at h
  refine lv_aload_n hx hb dX10_mult_0 rfl (lv_at hl 0 rfl) ?_
  refine lv_iconst (v := (0 : Int32)) hx hb dX10_mult_1 (by decide) ?_
  refine va_put (D := (dC, dI)) (ci := 9) (v := .int (0 : Int32)) (ty := .int) (C := RX10) (T := TX10) (N := 29) hx hb hts inX10 tyX10 tyX10_ok nmX10 hown hK hP hD hS 0 rfl rfl 9 (by decide) (hts _ (kq q_995 rfl)) (fun _ h9 => h9) rfl (by decide +kernel) rfl rfl (Nat.le_of_ble_eq_true rfl) dX10_mult_2 (fun H locs hP hD hS => ?_)
  have hP : va_P (dC, dI) vwCl [(h_this, .inr (9, [.ref h_this_dayAt, .ref h_this_secondAt, .ref h_this_spans, .ref h_this_kept, .int (i_this 4), .ref h_this_text, .int (i_this 6), .ref h_this_row, .int (i_this 8), .int (0 : Int32), .int (i_this 10), .int (i_this 11), .int (i_this 12), .int (i_this 13), .int (i_this 14), .int (i_this 15), .int (i_this 16), .int (i_this 17), .int (i_this 18), .ref h_this_read, .long (j_this 20), .ref h_this_many, .ref h_this_first, .ref h_this_lengths, .int (i_this 24), .long (j_this 25), .long (j_this 26), .ref h_this_page, .int (i_this 28)])), (h_this_spans, .inl (cI, 24, .inl f_this_spans)), (h_this_row, .inl (cJ, 16, .inr (.inl f_this_row)))] H := hP
  have hD : va_D A [(h_this, .inr (9, [.ref h_this_dayAt, .ref h_this_secondAt, .ref h_this_spans, .ref h_this_kept, .int (i_this 4), .ref h_this_text, .int (i_this 6), .ref h_this_row, .int (i_this 8), .int (0 : Int32), .int (i_this 10), .int (i_this 11), .int (i_this 12), .int (i_this 13), .int (i_this 14), .int (i_this 15), .int (i_this 16), .int (i_this 17), .int (i_this 18), .ref h_this_read, .long (j_this 20), .ref h_this_many, .ref h_this_first, .ref h_this_lengths, .int (i_this 24), .long (j_this 25), .long (j_this 26), .ref h_this_page, .int (i_this 28)])), (h_this_spans, .inl (cI, 24, .inl f_this_spans)), (h_this_row, .inl (cJ, 16, .inr (.inl f_this_row)))] := hD
  refine lv_iload_n hx hb dX10_mult_5 rfl (lv_at hl 1 rfl) ?_
  have hP : va_P (dC, dI) vwCl [cl_X10 h_this h_this_dayAt h_this_secondAt h_this_spans h_this_kept h_this_text h_this_row h_this_read h_this_many h_this_first h_this_lengths h_this_page (upd i_this 9 (0 : Int32)) j_this, (h_this_spans, .inl (cI, 24, .inl f_this_spans)), (h_this_row, .inl (cJ, 16, .inr (.inl f_this_row)))] H := hP
  have hD : va_D A [cl_X10 h_this h_this_dayAt h_this_secondAt h_this_spans h_this_kept h_this_text h_this_row h_this_read h_this_many h_this_first h_this_lengths h_this_page (upd i_this 9 (0 : Int32)) j_this, (h_this_spans, .inl (cI, 24, .inl f_this_spans)), (h_this_row, .inl (cJ, 16, .inr (.inl f_this_row)))] := hD
  obtain ⟨r1, hc2, h⟩ := bd1_at h
  refine kjSI (kS0 (own := "DateSpansModel") (As := [.int p1]) (rest := []) ⟨hx, hb, hml, hown, hts⟩ (kX10_isSlot l N p1 r1 hc2) (kgS (kq q_1123 rfl) (kq q_1124 rfl) (kq q_66 rfl) (kq q_1125 rfl)) yd_X10_isSlot ⟨Nat.le_of_ble_eq_true rfl, Nat.le_of_ble_eq_true rfl⟩ rfl rfl hl.1 rfl (lv_room (Nat.le_of_ble_eq_true rfl)) dX10_mult_6) ?_
  refine lv_if_eq (tgt := 19) hx hb dX10_mult_9 (by decide) (fun c3 => ?_) (fun c3 => ?_)
  · have h := ite_t c3 h
    refine lv_iconst (v := (-1 : Int32)) hx hb dX10_mult_19 (by decide) ?_
    obtain ⟨rfl, rfl, rfl, rfl⟩ := pj4 h
    exact hEnd _ _ _ _ hP hS dX10_mult_20 rfl
  have h := ite_f c3 h
  refine lv_iload_n hx hb dX10_mult_12 rfl (lv_at hl 3 rfl) ?_
  obtain ⟨r4, hc5, h⟩ := bd1_at h
  refine kjSI (kS0 (own := "DateSpansModel") (As := [.int p3]) (rest := []) ⟨hx, hb, hml, hown, hts⟩ (kX10_isSlot l N p3 r4 hc5) (kgS (kq q_1123 rfl) (kq q_1124 rfl) (kq q_66 rfl) (kq q_1125 rfl)) yd_X10_isSlot ⟨Nat.le_of_ble_eq_true rfl, Nat.le_of_ble_eq_true rfl⟩ rfl rfl hl.1 rfl (lv_room (Nat.le_of_ble_eq_true rfl)) dX10_mult_13) ?_
  refine lv_if_ne (tgt := 21) hx hb dX10_mult_16 (by decide) (fun c6 => ?_) (fun c6 => ?_)
  · have h := ite_f c6 h
    refine lv_aload_n hx hb dX10_mult_21 rfl (lv_at hl 0 rfl) ?_
    refine lv_iload_n hx hb dX10_mult_22 rfl (lv_at hl 3 rfl) ?_
    refine lv_iload_n hx hb dX10_mult_23 rfl (lv_at hl 2 rfl) ?_
    refine lv_i2l hx hb dX10_mult_24 rfl ?_
    refine lv_aload_n hx hb dX10_mult_25 rfl (lv_at hl 0 rfl) ?_
    refine va_get (D := (dC, dI)) (ci := 9) (v := .ref h_this_spans) (C := RX10) (T := TX10) (N := 29) hx hb hts inX10 hown hK hP 0 rfl rfl 2 (by decide) (hts _ (kq q_988 rfl)) (fun _ h9 => h9) rfl dX10_mult_26 ?_
    refine lv_iconst (v := (3 : Int32)) hx hb dX10_mult_29 (by decide) ?_
    refine lv_iload_n hx hb dX10_mult_30 rfl (lv_at hl 1 rfl) ?_
    refine lv_imul hx hb dX10_mult_31 ?_
    obtain ⟨hi7, h⟩ := gi_at h
    refine va_iald hx hb hK hP 1 0 rfl rfl hi7 dX10_mult_32 ?_
    refine lv_i2l hx hb dX10_mult_33 rfl ?_
    refine lv_lmul hx hb dX10_mult_34 ?_
    refine lv_iload_n hx hb dX10_mult_35 rfl (lv_at hl 2 rfl) ?_
    refine lv_i2l hx hb dX10_mult_36 rfl ?_
    refine lv_aload_n hx hb dX10_mult_37 rfl (lv_at hl 0 rfl) ?_
    refine va_get (D := (dC, dI)) (ci := 9) (v := .ref h_this_spans) (C := RX10) (T := TX10) (N := 29) hx hb hts inX10 hown hK hP 0 rfl rfl 2 (by decide) (hts _ (kq q_988 rfl)) (fun _ h9 => h9) rfl dX10_mult_38 ?_
    refine lv_iconst (v := (3 : Int32)) hx hb dX10_mult_41 (by decide) ?_
    refine lv_iload_n hx hb dX10_mult_42 rfl (lv_at hl 1 rfl) ?_
    refine lv_imul hx hb dX10_mult_43 ?_
    refine lv_iconst (v := (1 : Int32)) hx hb dX10_mult_44 (by decide) ?_
    refine lv_iadd hx hb dX10_mult_45 ?_
    obtain ⟨hi8, h⟩ := gi_at h
    refine va_iald hx hb hK hP 1 0 rfl rfl hi8 dX10_mult_46 ?_
    refine lv_i2l hx hb dX10_mult_47 rfl ?_
    refine lv_lmul hx hb dX10_mult_48 ?_
    refine lv_iload_n hx hb dX10_mult_49 rfl (lv_at hl 2 rfl) ?_
    refine lv_i2l hx hb dX10_mult_50 rfl ?_
    refine lv_aload_n hx hb dX10_mult_51 rfl (lv_at hl 0 rfl) ?_
    refine va_get (D := (dC, dI)) (ci := 9) (v := .ref h_this_spans) (C := RX10) (T := TX10) (N := 29) hx hb hts inX10 hown hK hP 0 rfl rfl 2 (by decide) (hts _ (kq q_988 rfl)) (fun _ h9 => h9) rfl dX10_mult_52 ?_
    refine lv_iconst (v := (3 : Int32)) hx hb dX10_mult_55 (by decide) ?_
    refine lv_iload_n hx hb dX10_mult_56 rfl (lv_at hl 1 rfl) ?_
    refine lv_imul hx hb dX10_mult_57 ?_
    refine lv_iconst (v := (2 : Int32)) hx hb dX10_mult_58 (by decide) ?_
    refine lv_iadd hx hb dX10_mult_59 ?_
    obtain ⟨hi9, h⟩ := gi_at h
    refine va_iald hx hb hK hP 1 0 rfl rfl hi9 dX10_mult_60 ?_
    refine lv_i2l hx hb dX10_mult_61 rfl ?_
    refine lv_lmul hx hb dX10_mult_62 ?_
    obtain ⟨r10, i_this_11, f_this_spans_12, f_this_row_13, hc14, h⟩ := bd4_at h
    refine kjI (kV (own := "DateSpansModel") (C := "DateSpansModel") (b := h_this) (As := [.int p3, .long (p2.toInt64 * (f_this_spans ((3 : Int32) * p1).toNatClampNeg).toInt64), .long (p2.toInt64 * (f_this_spans (((3 : Int32) * p1) + (1 : Int32)).toNatClampNeg).toInt64), .long (p2.toInt64 * (f_this_spans (((3 : Int32) * p1) + (2 : Int32)).toNatClampNeg).toInt64)]) (rest := []) ⟨hx, hb, hml, hown, hts⟩ (kX10_comesSpan l dC dI cI cJ cB h_this h_this_dayAt h_this_secondAt h_this_spans h_this_kept h_this_text h_this_row h_this_read h_this_many h_this_first h_this_lengths h_this_page N p3 (p2.toInt64 * (f_this_spans ((3 : Int32) * p1).toNatClampNeg).toInt64) (p2.toInt64 * (f_this_spans (((3 : Int32) * p1) + (1 : Int32)).toNatClampNeg).toInt64) (p2.toInt64 * (f_this_spans (((3 : Int32) * p1) + (2 : Int32)).toNatClampNeg).toInt64) (upd i_this 9 (0 : Int32)) j_this f_this_spans f_this_row r10 i_this_11 f_this_spans_12 f_this_row_13 hc14 _) (kgV (kq q_1319 rfl) (kq q_1321 rfl) (kq q_38 rfl) (kq q_66 rfl) (kq q_1322 rfl)) yd_X10_comesSpan ⟨Nat.le_of_ble_eq_true rfl, Nat.le_of_ble_eq_true rfl⟩ hN hK hP hD [0, 1, 2] rfl rfl (ci := 9) rfl rfl rfl rfl rfl hl.1 rfl (lv_room (Nat.le_of_ble_eq_true rfl)) dX10_mult_63) hP hD hS hA [0, 1, 2] rfl rfl (fun H locs hP hD hS => ?_)
    have hP : va_P (dC, dI) vwCl [cl_X10 h_this h_this_dayAt h_this_secondAt h_this_spans h_this_kept h_this_text h_this_row h_this_read h_this_many h_this_first h_this_lengths h_this_page i_this_11 j_this, (h_this_spans, .inl (cI, 24, .inl f_this_spans_12)), (h_this_row, .inl (cJ, 16, .inr (.inl f_this_row_13)))] H := hP
    have hD : va_D A [cl_X10 h_this h_this_dayAt h_this_secondAt h_this_spans h_this_kept h_this_text h_this_row h_this_read h_this_many h_this_first h_this_lengths h_this_page i_this_11 j_this, (h_this_spans, .inl (cI, 24, .inl f_this_spans_12)), (h_this_row, .inl (cJ, 16, .inr (.inl f_this_row_13)))] := hD
    obtain ⟨rfl, rfl, rfl, rfl⟩ := pj4 h
    exact hEnd _ _ _ _ hP hS dX10_mult_66 rfl
  have h := ite_t c6 h
  refine lv_iconst (v := (-1 : Int32)) hx hb dX10_mult_19 (by decide) ?_
  obtain ⟨rfl, rfl, rfl, rfl⟩ := pj4 h
  exact hEnd _ _ _ _ hP hS dX10_mult_20 rfl
noncomputable def fX10_turn (N : Nat) (p1 : Int32) (p2 : Int32) (i_this : Nat → Int32) (j_this : Nat → Int64) (f_this_spans : Nat → Int32) (f_this_row : Nat → Int64) : Option (Int32 × (Nat → Int32) × (Nat → Int32) × (Nat → Int64)) := (bd4 (fX10_mult N p1 (-1 : Int32) p2 i_this j_this f_this_spans f_this_row) fun r1 i_this_2 f_this_spans_3 f_this_row_4 => (some (r1, i_this_2, f_this_spans_3, f_this_row_4)))
set_option maxHeartbeats 4000000 in
set_option maxRecDepth 100000 in
theorem kX10_turn (l : Launch) (dC : Nat → ClassId) (dI : Nat → Nat → Nat) (cI cJ cB : ClassId) (h_this h_this_dayAt h_this_secondAt h_this_spans h_this_kept h_this_text h_this_row h_this_read h_this_many h_this_first h_this_lengths h_this_page : Nat) (N : Nat) (p1 : Int32) (p2 : Int32) (i_this : Nat → Int32) (j_this : Nat → Int64) (f_this_spans : Nat → Int32) (f_this_row : Nat → Int64) (r : Int32) (o_i_this : Nat → Int32) (o_f_this_spans : Nat → Int32) (o_f_this_row : Nat → Int64) (hf : fX10_turn N p1 p2 i_this j_this f_this_spans f_this_row = some (r, o_i_this, o_f_this_spans, o_f_this_row)) : MI l yX10_turn (kws yX10_turn cX10_turn 3 (some .int)) (kR 4 96) (dC, dI) (kT cI cJ cB) [.ref h_this, .int p1, .int p2] [cl_X10 h_this h_this_dayAt h_this_secondAt h_this_spans h_this_kept h_this_text h_this_row h_this_read h_this_many h_this_first h_this_lengths h_this_page i_this j_this, (h_this_spans, .inl (cI, 24, .inl f_this_spans)), (h_this_row, .inl (cJ, 16, .inr (.inl f_this_row)))] [cl_X10 h_this h_this_dayAt h_this_secondAt h_this_spans h_this_kept h_this_text h_this_row h_this_read h_this_many h_this_first h_this_lengths h_this_page o_i_this j_this, (h_this_spans, .inl (cI, 24, .inl o_f_this_spans)), (h_this_row, .inl (cJ, 16, .inr (.inl o_f_this_row)))] r := by
  refine MI.of (cc := cX10_turn) (maxL := 3) (by decide) (Nat.le_of_ble_eq_true rfl) (fun p e s m args below meth c A Q ls KC hN hK hP hD hA hl hEnd => ?_)
  obtain ⟨hx, hb, hml, hown, hts⟩ := KC
  have hown : s.vm.findClass "DateSpansModel" = some m.cls := hown
  have hl : lv_has ls 3 [(0, .ref h_this), (1, .int p1), (2, .int p2)] := hl
  have hS : va_S A s.heap s.heap [] := va_S.rf
  have h := hf
  unfold fX10_turn at h
  refine lv_aload_n hx hb dX10_turn_0 rfl (lv_at hl 0 rfl) ?_
  refine lv_iload_n hx hb dX10_turn_1 rfl (lv_at hl 1 rfl) ?_
  refine lv_iconst (v := (-1 : Int32)) hx hb dX10_turn_2 (by decide) ?_
  refine lv_iload_n hx hb dX10_turn_3 rfl (lv_at hl 2 rfl) ?_
  obtain ⟨r1, i_this_2, f_this_spans_3, f_this_row_4, hc5, h⟩ := bd4_at h
  refine kjI (kV (own := "DateSpansModel") (C := "DateSpansModel") (b := h_this) (As := [.int p1, .int (-1 : Int32), .int p2]) (rest := []) ⟨hx, hb, hml, hown, hts⟩ (kX10_mult l dC dI cI cJ cB h_this h_this_dayAt h_this_secondAt h_this_spans h_this_kept h_this_text h_this_row h_this_read h_this_many h_this_first h_this_lengths h_this_page N p1 (-1 : Int32) p2 i_this j_this f_this_spans f_this_row r1 i_this_2 f_this_spans_3 f_this_row_4 hc5 _) (kgV (kq q_1331 rfl) (kq q_1324 rfl) (kq q_1325 rfl) (kq q_66 rfl) (kq q_1326 rfl)) yd_X10_mult ⟨Nat.le_of_ble_eq_true rfl, Nat.le_of_ble_eq_true rfl⟩ hN hK hP hD [0, 1, 2] rfl rfl (ci := 9) rfl rfl rfl rfl rfl hl.1 rfl (lv_room (Nat.le_of_ble_eq_true rfl)) dX10_turn_4) hP hD hS hA [0, 1, 2] rfl rfl (fun H locs hP hD hS => ?_)
  have hP : va_P (dC, dI) vwCl [cl_X10 h_this h_this_dayAt h_this_secondAt h_this_spans h_this_kept h_this_text h_this_row h_this_read h_this_many h_this_first h_this_lengths h_this_page i_this_2 j_this, (h_this_spans, .inl (cI, 24, .inl f_this_spans_3)), (h_this_row, .inl (cJ, 16, .inr (.inl f_this_row_4)))] H := hP
  have hD : va_D A [cl_X10 h_this h_this_dayAt h_this_secondAt h_this_spans h_this_kept h_this_text h_this_row h_this_read h_this_many h_this_first h_this_lengths h_this_page i_this_2 j_this, (h_this_spans, .inl (cI, 24, .inl f_this_spans_3)), (h_this_row, .inl (cJ, 16, .inr (.inl f_this_row_4)))] := hD
  obtain ⟨rfl, rfl, rfl, rfl⟩ := pj4 h
  exact hEnd _ _ _ _ hP hS dX10_turn_7 rfl
noncomputable def fX10_even (N : Nat) (p1 : Int32) (p2 : Int32) (i_this : Nat → Int32) (j_this : Nat → Int64) (f_this_spans : Nat → Int32) (f_this_row : Nat → Int64) : Option (Int32 × (Nat → Int32) × (Nat → Int32) × (Nat → Int64)) := (bd1 (fX10_isSlot N p1) fun r1 => (if r1 = (0 : Int32) then (some ((-1 : Int32), (upd i_this 9 (0 : Int32)), f_this_spans, f_this_row)) else (bd1 (fX10_isSlot N p2) fun r4 => (if r4 = (0 : Int32) then (some ((-1 : Int32), (upd i_this 9 (0 : Int32)), f_this_spans, f_this_row)) else (gi (((3 : Int32) * p1) + (2 : Int32)) 24 (nm ((f_this_spans (((3 : Int32) * p1) + (2 : Int32)).toNatClampNeg).toInt64) fun z8 => (gi ((3 : Int32) * p1) 24 (gi (((3 : Int32) * p1) + (1 : Int32)) 24 (bd4 (fX10_comesSpan N p2 ((f_this_spans ((3 : Int32) * p1).toNatClampNeg).toInt64) ((f_this_spans (((3 : Int32) * p1) + (1 : Int32)).toNatClampNeg).toInt64 + (z8 / (86400 : Int64))) (z8 - z8 / (86400 : Int64) * (86400 : Int64)) (upd i_this 9 (0 : Int32)) j_this f_this_spans f_this_row) fun r11 i_this_12 f_this_spans_13 f_this_row_14 => (some (r11, i_this_12, f_this_spans_13, f_this_row_14)))))))))))
set_option maxHeartbeats 4000000 in
set_option maxRecDepth 100000 in
theorem kX10_even (l : Launch) (dC : Nat → ClassId) (dI : Nat → Nat → Nat) (cI cJ cB : ClassId) (h_this h_this_dayAt h_this_secondAt h_this_spans h_this_kept h_this_text h_this_row h_this_read h_this_many h_this_first h_this_lengths h_this_page : Nat) (N : Nat) (p1 : Int32) (p2 : Int32) (i_this : Nat → Int32) (j_this : Nat → Int64) (f_this_spans : Nat → Int32) (f_this_row : Nat → Int64) (r : Int32) (o_i_this : Nat → Int32) (o_f_this_spans : Nat → Int32) (o_f_this_row : Nat → Int64) (hf : fX10_even N p1 p2 i_this j_this f_this_spans f_this_row = some (r, o_i_this, o_f_this_spans, o_f_this_row)) : MI l yX10_even (kws yX10_even cX10_even 5 (some .int)) (kR 3 73) (dC, dI) (kT cI cJ cB) [.ref h_this, .int p1, .int p2] [cl_X10 h_this h_this_dayAt h_this_secondAt h_this_spans h_this_kept h_this_text h_this_row h_this_read h_this_many h_this_first h_this_lengths h_this_page i_this j_this, (h_this_spans, .inl (cI, 24, .inl f_this_spans)), (h_this_row, .inl (cJ, 16, .inr (.inl f_this_row)))] [cl_X10 h_this h_this_dayAt h_this_secondAt h_this_spans h_this_kept h_this_text h_this_row h_this_read h_this_many h_this_first h_this_lengths h_this_page o_i_this j_this, (h_this_spans, .inl (cI, 24, .inl o_f_this_spans)), (h_this_row, .inl (cJ, 16, .inr (.inl o_f_this_row)))] r := by
  refine MI.of (cc := cX10_even) (maxL := 5) (by decide) (Nat.le_of_ble_eq_true rfl) (fun p e s m args below meth c A Q ls KC hN hK hP hD hA hl hEnd => ?_)
  obtain ⟨hx, hb, hml, hown, hts⟩ := KC
  have hown : s.vm.findClass "DateSpansModel" = some m.cls := hown
  have hl : lv_has ls 5 [(0, .ref h_this), (1, .int p1), (2, .int p2)] := hl
  have hS : va_S A s.heap s.heap [] := va_S.rf
  have h := hf
  unfold fX10_even at h
  refine lv_aload_n hx hb dX10_even_0 rfl (lv_at hl 0 rfl) ?_
  refine lv_iconst (v := (0 : Int32)) hx hb dX10_even_1 (by decide) ?_
  refine va_put (D := (dC, dI)) (ci := 9) (v := .int (0 : Int32)) (ty := .int) (C := RX10) (T := TX10) (N := 29) hx hb hts inX10 tyX10 tyX10_ok nmX10 hown hK hP hD hS 0 rfl rfl 9 (by decide) (hts _ (kq q_995 rfl)) (fun _ h9 => h9) rfl (by decide +kernel) rfl rfl (Nat.le_of_ble_eq_true rfl) dX10_even_2 (fun H locs hP hD hS => ?_)
  have hP : va_P (dC, dI) vwCl [(h_this, .inr (9, [.ref h_this_dayAt, .ref h_this_secondAt, .ref h_this_spans, .ref h_this_kept, .int (i_this 4), .ref h_this_text, .int (i_this 6), .ref h_this_row, .int (i_this 8), .int (0 : Int32), .int (i_this 10), .int (i_this 11), .int (i_this 12), .int (i_this 13), .int (i_this 14), .int (i_this 15), .int (i_this 16), .int (i_this 17), .int (i_this 18), .ref h_this_read, .long (j_this 20), .ref h_this_many, .ref h_this_first, .ref h_this_lengths, .int (i_this 24), .long (j_this 25), .long (j_this 26), .ref h_this_page, .int (i_this 28)])), (h_this_spans, .inl (cI, 24, .inl f_this_spans)), (h_this_row, .inl (cJ, 16, .inr (.inl f_this_row)))] H := hP
  have hD : va_D A [(h_this, .inr (9, [.ref h_this_dayAt, .ref h_this_secondAt, .ref h_this_spans, .ref h_this_kept, .int (i_this 4), .ref h_this_text, .int (i_this 6), .ref h_this_row, .int (i_this 8), .int (0 : Int32), .int (i_this 10), .int (i_this 11), .int (i_this 12), .int (i_this 13), .int (i_this 14), .int (i_this 15), .int (i_this 16), .int (i_this 17), .int (i_this 18), .ref h_this_read, .long (j_this 20), .ref h_this_many, .ref h_this_first, .ref h_this_lengths, .int (i_this 24), .long (j_this 25), .long (j_this 26), .ref h_this_page, .int (i_this 28)])), (h_this_spans, .inl (cI, 24, .inl f_this_spans)), (h_this_row, .inl (cJ, 16, .inr (.inl f_this_row)))] := hD
  refine lv_iload_n hx hb dX10_even_5 rfl (lv_at hl 1 rfl) ?_
  have hP : va_P (dC, dI) vwCl [cl_X10 h_this h_this_dayAt h_this_secondAt h_this_spans h_this_kept h_this_text h_this_row h_this_read h_this_many h_this_first h_this_lengths h_this_page (upd i_this 9 (0 : Int32)) j_this, (h_this_spans, .inl (cI, 24, .inl f_this_spans)), (h_this_row, .inl (cJ, 16, .inr (.inl f_this_row)))] H := hP
  have hD : va_D A [cl_X10 h_this h_this_dayAt h_this_secondAt h_this_spans h_this_kept h_this_text h_this_row h_this_read h_this_many h_this_first h_this_lengths h_this_page (upd i_this 9 (0 : Int32)) j_this, (h_this_spans, .inl (cI, 24, .inl f_this_spans)), (h_this_row, .inl (cJ, 16, .inr (.inl f_this_row)))] := hD
  obtain ⟨r1, hc2, h⟩ := bd1_at h
  refine kjSI (kS0 (own := "DateSpansModel") (As := [.int p1]) (rest := []) ⟨hx, hb, hml, hown, hts⟩ (kX10_isSlot l N p1 r1 hc2) (kgS (kq q_1123 rfl) (kq q_1124 rfl) (kq q_66 rfl) (kq q_1125 rfl)) yd_X10_isSlot ⟨Nat.le_of_ble_eq_true rfl, Nat.le_of_ble_eq_true rfl⟩ rfl rfl hl.1 rfl (lv_room (Nat.le_of_ble_eq_true rfl)) dX10_even_6) ?_
  refine lv_if_eq (tgt := 19) hx hb dX10_even_9 (by decide) (fun c3 => ?_) (fun c3 => ?_)
  · have h := ite_t c3 h
    refine lv_iconst (v := (-1 : Int32)) hx hb dX10_even_19 (by decide) ?_
    obtain ⟨rfl, rfl, rfl, rfl⟩ := pj4 h
    exact hEnd _ _ _ _ hP hS dX10_even_20 rfl
  have h := ite_f c3 h
  refine lv_iload_n hx hb dX10_even_12 rfl (lv_at hl 2 rfl) ?_
  obtain ⟨r4, hc5, h⟩ := bd1_at h
  refine kjSI (kS0 (own := "DateSpansModel") (As := [.int p2]) (rest := []) ⟨hx, hb, hml, hown, hts⟩ (kX10_isSlot l N p2 r4 hc5) (kgS (kq q_1123 rfl) (kq q_1124 rfl) (kq q_66 rfl) (kq q_1125 rfl)) yd_X10_isSlot ⟨Nat.le_of_ble_eq_true rfl, Nat.le_of_ble_eq_true rfl⟩ rfl rfl hl.1 rfl (lv_room (Nat.le_of_ble_eq_true rfl)) dX10_even_13) ?_
  refine lv_if_ne (tgt := 21) hx hb dX10_even_16 (by decide) (fun c6 => ?_) (fun c6 => ?_)
  · have h := ite_f c6 h
    refine lv_aload_n hx hb dX10_even_21 rfl (lv_at hl 0 rfl) ?_
    refine va_get (D := (dC, dI)) (ci := 9) (v := .ref h_this_spans) (C := RX10) (T := TX10) (N := 29) hx hb hts inX10 hown hK hP 0 rfl rfl 2 (by decide) (hts _ (kq q_988 rfl)) (fun _ h9 => h9) rfl dX10_even_22 ?_
    refine lv_iconst (v := (3 : Int32)) hx hb dX10_even_25 (by decide) ?_
    refine lv_iload_n hx hb dX10_even_26 rfl (lv_at hl 1 rfl) ?_
    refine lv_imul hx hb dX10_even_27 ?_
    refine lv_iconst (v := (2 : Int32)) hx hb dX10_even_28 (by decide) ?_
    refine lv_iadd hx hb dX10_even_29 ?_
    obtain ⟨hi7, h⟩ := gi_at h
    refine va_iald hx hb hK hP 1 0 rfl rfl hi7 dX10_even_30 ?_
    refine lv_i2l hx hb dX10_even_31 rfl ?_
    refine lv_topl (fun z8 ez8 => ?_)
    have h := nm_at ez8 h
    refine lv_lstore_n (lv' := [(3, .long z8), (0, .ref h_this), (1, .int p1), (2, .int p2)]) hx hb dX10_even_32 rfl hl (by decide) rfl (fun ls hl => ?_)
    refine lv_aload_n hx hb dX10_even_33 rfl (lv_at hl 1 rfl) ?_
    refine lv_iload_n hx hb dX10_even_34 rfl (lv_at hl 3 rfl) ?_
    refine lv_aload_n hx hb dX10_even_35 rfl (lv_at hl 1 rfl) ?_
    refine va_get (D := (dC, dI)) (ci := 9) (v := .ref h_this_spans) (C := RX10) (T := TX10) (N := 29) hx hb hts inX10 hown hK hP 0 rfl rfl 2 (by decide) (hts _ (kq q_988 rfl)) (fun _ h9 => h9) rfl dX10_even_36 ?_
    refine lv_iconst (v := (3 : Int32)) hx hb dX10_even_39 (by decide) ?_
    refine lv_iload_n hx hb dX10_even_40 rfl (lv_at hl 2 rfl) ?_
    refine lv_imul hx hb dX10_even_41 ?_
    obtain ⟨hi9, h⟩ := gi_at h
    refine va_iald hx hb hK hP 1 0 rfl rfl hi9 dX10_even_42 ?_
    refine lv_i2l hx hb dX10_even_43 rfl ?_
    refine lv_aload_n hx hb dX10_even_44 rfl (lv_at hl 1 rfl) ?_
    refine va_get (D := (dC, dI)) (ci := 9) (v := .ref h_this_spans) (C := RX10) (T := TX10) (N := 29) hx hb hts inX10 hown hK hP 0 rfl rfl 2 (by decide) (hts _ (kq q_988 rfl)) (fun _ h9 => h9) rfl dX10_even_45 ?_
    refine lv_iconst (v := (3 : Int32)) hx hb dX10_even_48 (by decide) ?_
    refine lv_iload_n hx hb dX10_even_49 rfl (lv_at hl 2 rfl) ?_
    refine lv_imul hx hb dX10_even_50 ?_
    refine lv_iconst (v := (1 : Int32)) hx hb dX10_even_51 (by decide) ?_
    refine lv_iadd hx hb dX10_even_52 ?_
    obtain ⟨hi10, h⟩ := gi_at h
    refine va_iald hx hb hK hP 1 0 rfl rfl hi10 dX10_even_53 ?_
    refine lv_i2l hx hb dX10_even_54 rfl ?_
    refine lv_lload_n hx hb dX10_even_55 rfl (lv_at hl 0 rfl) ?_
    refine lv_ldc2 (v := (86400 : Int64)) hx hb hown (hts _ (kq q_1309 rfl)) dX10_even_56 ?_
    refine lv_ldiv hx hb dX10_even_59 (by decide) ?_
    refine lv_ladd hx hb dX10_even_60 ?_
    refine lv_lload_n hx hb dX10_even_61 rfl (lv_at hl 0 rfl) ?_
    refine lv_ldc2 (v := (86400 : Int64)) hx hb hown (hts _ (kq q_1309 rfl)) dX10_even_62 ?_
    refine lv_lrem hx hb dX10_even_65 (by decide) ?_
    obtain ⟨r11, i_this_12, f_this_spans_13, f_this_row_14, hc15, h⟩ := bd4_at h
    refine kjI (kV (own := "DateSpansModel") (C := "DateSpansModel") (b := h_this) (As := [.int p2, .long ((f_this_spans ((3 : Int32) * p1).toNatClampNeg).toInt64), .long ((f_this_spans (((3 : Int32) * p1) + (1 : Int32)).toNatClampNeg).toInt64 + (z8 / (86400 : Int64))), .long (z8 - z8 / (86400 : Int64) * (86400 : Int64))]) (rest := []) ⟨hx, hb, hml, hown, hts⟩ (kX10_comesSpan l dC dI cI cJ cB h_this h_this_dayAt h_this_secondAt h_this_spans h_this_kept h_this_text h_this_row h_this_read h_this_many h_this_first h_this_lengths h_this_page N p2 ((f_this_spans ((3 : Int32) * p1).toNatClampNeg).toInt64) ((f_this_spans (((3 : Int32) * p1) + (1 : Int32)).toNatClampNeg).toInt64 + (z8 / (86400 : Int64))) (z8 - z8 / (86400 : Int64) * (86400 : Int64)) (upd i_this 9 (0 : Int32)) j_this f_this_spans f_this_row r11 i_this_12 f_this_spans_13 f_this_row_14 hc15 _) (kgV (kq q_1319 rfl) (kq q_1321 rfl) (kq q_38 rfl) (kq q_66 rfl) (kq q_1322 rfl)) yd_X10_comesSpan ⟨Nat.le_of_ble_eq_true rfl, Nat.le_of_ble_eq_true rfl⟩ hN hK hP hD [0, 1, 2] rfl rfl (ci := 9) rfl rfl rfl rfl rfl hl.1 rfl (lv_room (Nat.le_of_ble_eq_true rfl)) dX10_even_66) hP hD hS hA [0, 1, 2] rfl rfl (fun H locs hP hD hS => ?_)
    have hP : va_P (dC, dI) vwCl [cl_X10 h_this h_this_dayAt h_this_secondAt h_this_spans h_this_kept h_this_text h_this_row h_this_read h_this_many h_this_first h_this_lengths h_this_page i_this_12 j_this, (h_this_spans, .inl (cI, 24, .inl f_this_spans_13)), (h_this_row, .inl (cJ, 16, .inr (.inl f_this_row_14)))] H := hP
    have hD : va_D A [cl_X10 h_this h_this_dayAt h_this_secondAt h_this_spans h_this_kept h_this_text h_this_row h_this_read h_this_many h_this_first h_this_lengths h_this_page i_this_12 j_this, (h_this_spans, .inl (cI, 24, .inl f_this_spans_13)), (h_this_row, .inl (cJ, 16, .inr (.inl f_this_row_14)))] := hD
    obtain ⟨rfl, rfl, rfl, rfl⟩ := pj4 h
    exact hEnd _ _ _ _ hP hS dX10_even_69 rfl
  have h := ite_t c6 h
  refine lv_iconst (v := (-1 : Int32)) hx hb dX10_even_19 (by decide) ?_
  obtain ⟨rfl, rfl, rfl, rfl⟩ := pj4 h
  exact hEnd _ _ _ _ hP hS dX10_even_20 rfl
noncomputable def fX10_instantOf (N : Nat) (p1 : Int32) (i_this : Nat → Int32) (j_this : Nat → Int64) (f_this_dayAt : Nat → Int32) (f_this_secondAt : Nat → Int32) : Option (Int64) := (gi p1 8 (gi p1 8 (some (((f_this_dayAt p1.toNatClampNeg).toInt64 * (86400 : Int64)) + (f_this_secondAt p1.toNatClampNeg).toInt64))))
set_option maxHeartbeats 4000000 in
set_option maxRecDepth 100000 in
theorem kX10_instantOf (l : Launch) (dC : Nat → ClassId) (dI : Nat → Nat → Nat) (cI cJ cB : ClassId) (h_this h_this_dayAt h_this_secondAt h_this_spans h_this_kept h_this_text h_this_row h_this_read h_this_many h_this_first h_this_lengths h_this_page : Nat) (N : Nat) (p1 : Int32) (i_this : Nat → Int32) (j_this : Nat → Int64) (f_this_dayAt : Nat → Int32) (f_this_secondAt : Nat → Int32) (r : Int64) (hf : fX10_instantOf N p1 i_this j_this f_this_dayAt f_this_secondAt = some r) : ML l yX10_instantOf (kws yX10_instantOf cX10_instantOf 2 (some .long)) (kR 0 0) (dC, dI) (kT cI cJ cB) [.ref h_this, .int p1] [cl_X10 h_this h_this_dayAt h_this_secondAt h_this_spans h_this_kept h_this_text h_this_row h_this_read h_this_many h_this_first h_this_lengths h_this_page i_this j_this, (h_this_dayAt, .inl (cI, 8, .inl f_this_dayAt)), (h_this_secondAt, .inl (cI, 8, .inl f_this_secondAt))] [cl_X10 h_this h_this_dayAt h_this_secondAt h_this_spans h_this_kept h_this_text h_this_row h_this_read h_this_many h_this_first h_this_lengths h_this_page i_this j_this, (h_this_dayAt, .inl (cI, 8, .inl f_this_dayAt)), (h_this_secondAt, .inl (cI, 8, .inl f_this_secondAt))] r := by
  refine ML.of (cc := cX10_instantOf) (maxL := 2) (by decide) (Nat.le_of_ble_eq_true rfl) (fun p e s m args below meth c A Q ls KC hN hK hP hD hA hl hEnd => ?_)
  obtain ⟨hx, hb, hml, hown, hts⟩ := KC
  have hown : s.vm.findClass "DateSpansModel" = some m.cls := hown
  have hl : lv_has ls 2 [(0, .ref h_this), (1, .int p1)] := hl
  have hS : va_S A s.heap s.heap [] := va_S.rf
  have h := hf
  unfold fX10_instantOf at h
  refine lv_aload_n hx hb dX10_instantOf_0 rfl (lv_at hl 0 rfl) ?_
  refine va_get (D := (dC, dI)) (ci := 9) (v := .ref h_this_dayAt) (C := RX10) (T := TX10) (N := 29) hx hb hts inX10 hown hK hP 0 rfl rfl 0 (by decide) (hts _ (kq q_986 rfl)) (fun _ h9 => h9) rfl dX10_instantOf_1 ?_
  refine lv_iload_n hx hb dX10_instantOf_4 rfl (lv_at hl 1 rfl) ?_
  obtain ⟨hi1, h⟩ := gi_at h
  refine va_iald hx hb hK hP 1 0 rfl rfl hi1 dX10_instantOf_5 ?_
  refine lv_i2l hx hb dX10_instantOf_6 rfl ?_
  refine lv_ldc2 (v := (86400 : Int64)) hx hb hown (hts _ (kq q_1309 rfl)) dX10_instantOf_7 ?_
  refine lv_lmul hx hb dX10_instantOf_10 ?_
  refine lv_aload_n hx hb dX10_instantOf_11 rfl (lv_at hl 0 rfl) ?_
  refine va_get (D := (dC, dI)) (ci := 9) (v := .ref h_this_secondAt) (C := RX10) (T := TX10) (N := 29) hx hb hts inX10 hown hK hP 0 rfl rfl 1 (by decide) (hts _ (kq q_987 rfl)) (fun _ h9 => h9) rfl dX10_instantOf_12 ?_
  refine lv_iload_n hx hb dX10_instantOf_15 rfl (lv_at hl 1 rfl) ?_
  obtain ⟨hi2, h⟩ := gi_at h
  refine va_iald hx hb hK hP 2 0 rfl rfl hi2 dX10_instantOf_16 ?_
  refine lv_i2l hx hb dX10_instantOf_17 rfl ?_
  refine lv_ladd hx hb dX10_instantOf_18 ?_
  obtain rfl := pj1 h
  exact hEnd _ _ _ _ hP hS dX10_instantOf_19
noncomputable def fX10_instant (N : Nat) (i_this : Nat → Int32) (j_this : Nat → Int64) : Option (Int64) := (some (((i_this 13).toInt64 * (86400 : Int64)) + (i_this 14).toInt64))
set_option maxHeartbeats 4000000 in
set_option maxRecDepth 100000 in
theorem kX10_instant (l : Launch) (dC : Nat → ClassId) (dI : Nat → Nat → Nat) (cI cJ cB : ClassId) (h_this h_this_dayAt h_this_secondAt h_this_spans h_this_kept h_this_text h_this_row h_this_read h_this_many h_this_first h_this_lengths h_this_page : Nat) (N : Nat) (i_this : Nat → Int32) (j_this : Nat → Int64) (r : Int64) (hf : fX10_instant N i_this j_this = some r) : ML l yX10_instant (kws yX10_instant cX10_instant 1 (some .long)) (kR 0 0) (dC, dI) (kT cI cJ cB) [.ref h_this] [cl_X10 h_this h_this_dayAt h_this_secondAt h_this_spans h_this_kept h_this_text h_this_row h_this_read h_this_many h_this_first h_this_lengths h_this_page i_this j_this] [cl_X10 h_this h_this_dayAt h_this_secondAt h_this_spans h_this_kept h_this_text h_this_row h_this_read h_this_many h_this_first h_this_lengths h_this_page i_this j_this] r := by
  refine ML.of (cc := cX10_instant) (maxL := 1) (by decide) (Nat.le_of_ble_eq_true rfl) (fun p e s m args below meth c A Q ls KC hN hK hP hD hA hl hEnd => ?_)
  obtain ⟨hx, hb, hml, hown, hts⟩ := KC
  have hown : s.vm.findClass "DateSpansModel" = some m.cls := hown
  have hl : lv_has ls 1 [(0, .ref h_this)] := hl
  have hS : va_S A s.heap s.heap [] := va_S.rf
  have h := hf
  unfold fX10_instant at h
  refine lv_aload_n hx hb dX10_instant_0 rfl (lv_at hl 0 rfl) ?_
  refine va_get (D := (dC, dI)) (ci := 9) (v := .int (i_this 13)) (C := RX10) (T := TX10) (N := 29) hx hb hts inX10 hown hK hP 0 rfl rfl 13 (by decide) (hts _ (kq q_999 rfl)) (fun _ h9 => h9) rfl dX10_instant_1 ?_
  refine lv_i2l hx hb dX10_instant_4 rfl ?_
  refine lv_ldc2 (v := (86400 : Int64)) hx hb hown (hts _ (kq q_1309 rfl)) dX10_instant_5 ?_
  refine lv_lmul hx hb dX10_instant_8 ?_
  refine lv_aload_n hx hb dX10_instant_9 rfl (lv_at hl 0 rfl) ?_
  refine va_get (D := (dC, dI)) (ci := 9) (v := .int (i_this 14)) (C := RX10) (T := TX10) (N := 29) hx hb hts inX10 hown hK hP 0 rfl rfl 14 (by decide) (hts _ (kq q_1000 rfl)) (fun _ h9 => h9) rfl dX10_instant_10 ?_
  refine lv_i2l hx hb dX10_instant_13 rfl ?_
  refine lv_ladd hx hb dX10_instant_14 ?_
  obtain rfl := pj1 h
  exact hEnd _ _ _ _ hP hS dX10_instant_15
noncomputable def fX10_findsMonths_j186 (N : Nat)  (K_101 : Int32 → Int32 → Int64 → Int32 → Int32 → Int32 → Int64 → Int32 → (Nat → Int32) → (Nat → Int64) → Option ((Nat → Int32) × (Nat → Int64))) (v1 : Int32) (v2 : Int32) (v3 : Int64) (v5 : Int32) (v6 : Int32) (v11 : Int32) (v12 : Int64) (t0 : Int32) (i_this : Nat → Int32) (j_this : Nat → Int64) : Option ((Nat → Int32) × (Nat → Int64)) := (if t0 = (0 : Int32) then (if v11 = (0 : Int32) then (nm (v12 + (-v6).toInt64) fun z3 => (K_101 v1 v2 v3 v5 v6 v11 z3 t0 i_this j_this)) else (nm (v12 + v6.toInt64) fun z4 => (K_101 v1 v2 v3 v5 v6 v11 z4 t0 i_this j_this))) else (K_101 v1 v2 v3 v5 v6 v11 v12 t0 i_this j_this))
noncomputable def fX10_findsMonths_j131 (N : Nat)  (K_101 : Int32 → Int32 → Int64 → Int32 → Int32 → Int32 → Int64 → Int32 → (Nat → Int32) → (Nat → Int64) → Option ((Nat → Int32) × (Nat → Int64))) (v1 : Int32) (v2 : Int32) (v3 : Int64) (v5 : Int32) (v6 : Int32) (v11 : Int32) (v12 : Int64) (i_this : Nat → Int32) (j_this : Nat → Int64) : Option ((Nat → Int32) × (Nat → Int64)) := (bd1 (fX10_stands N v1 v2 i_this j_this) fun i_this_5 => (if (lg_cmp v12 (0 : Int64)) = (0 : Int32) then (fX10_findsMonths_j186 N K_101 v1 v2 v3 v5 v6 v11 v12 (1 : Int32) i_this_5 j_this) else (bd2 (fX10_addsMonths N v12 v5 i_this_5 j_this) fun r8 i_this_9 => (if r8 = (0 : Int32) then (fX10_findsMonths_j186 N K_101 v1 v2 v3 v5 v6 v11 v12 (0 : Int32) i_this_9 j_this) else (if v11 = (0 : Int32) then (bd1 (fX10_instant N i_this_9 j_this) fun r13 => (if (0 : Int32) < (lg_cmp r13 v3) then (fX10_findsMonths_j186 N K_101 v1 v2 v3 v5 v6 v11 v12 (0 : Int32) i_this_9 j_this) else (fX10_findsMonths_j186 N K_101 v1 v2 v3 v5 v6 v11 v12 (1 : Int32) i_this_9 j_this))) else (bd1 (fX10_instant N i_this_9 j_this) fun r16 => (if (lg_cmp r16 v3) < (0 : Int32) then (fX10_findsMonths_j186 N K_101 v1 v2 v3 v5 v6 v11 v12 (0 : Int32) i_this_9 j_this) else (fX10_findsMonths_j186 N K_101 v1 v2 v3 v5 v6 v11 v12 (1 : Int32) i_this_9 j_this))))))))
noncomputable def fX10_findsMonths_l101 (N : Nat)  (n : Nat) : Int32 → Int32 → Int64 → Int32 → Int32 → Int32 → Int64 → Int32 → (Nat → Int32) → (Nat → Int64) → Option ((Nat → Int32) × (Nat → Int64)) := Nat.rec (motive := fun _ => Int32 → Int32 → Int64 → Int32 → Int32 → Int32 → Int64 → Int32 → (Nat → Int32) → (Nat → Int64) → Option ((Nat → Int32) × (Nat → Int64))) (fun _ _ _ _ _ _ _ _ _ _ => none) (fun _ K_101 v1 v2 v3 v5 v6 v11 v12 v14 i_this j_this => (if v14 = (0 : Int32) then (if v11 = (0 : Int32) then (if (0 : Int32) < (lg_cmp v12 (0 : Int64)) then (fX10_findsMonths_j131 N K_101 v1 v2 v3 v5 v6 v11 v12 i_this j_this) else (fX10_findsMonths_j131 N K_101 v1 v2 v3 v5 v6 v11 (0 : Int64) i_this j_this)) else (if (lg_cmp v12 (0 : Int64)) < (0 : Int32) then (fX10_findsMonths_j131 N K_101 v1 v2 v3 v5 v6 v11 v12 i_this j_this) else (fX10_findsMonths_j131 N K_101 v1 v2 v3 v5 v6 v11 (0 : Int64) i_this j_this))) else (some (i_this, (vp_updL j_this 20 v12))))) n
theorem fX10_findsMonths_l101_s (N : Nat)  (n : Nat) (v1 : Int32) (v2 : Int32) (v3 : Int64) (v5 : Int32) (v6 : Int32) (v11 : Int32) (v12 : Int64) (v14 : Int32) (i_this : Nat → Int32) (j_this : Nat → Int64) : fX10_findsMonths_l101 N (n + 1) v1 v2 v3 v5 v6 v11 v12 v14 i_this j_this = (if v14 = (0 : Int32) then (if v11 = (0 : Int32) then (if (0 : Int32) < (lg_cmp v12 (0 : Int64)) then (fX10_findsMonths_j131 N (fX10_findsMonths_l101 N n) v1 v2 v3 v5 v6 v11 v12 i_this j_this) else (fX10_findsMonths_j131 N (fX10_findsMonths_l101 N n) v1 v2 v3 v5 v6 v11 (0 : Int64) i_this j_this)) else (if (lg_cmp v12 (0 : Int64)) < (0 : Int32) then (fX10_findsMonths_j131 N (fX10_findsMonths_l101 N n) v1 v2 v3 v5 v6 v11 v12 i_this j_this) else (fX10_findsMonths_j131 N (fX10_findsMonths_l101 N n) v1 v2 v3 v5 v6 v11 (0 : Int64) i_this j_this))) else (some (i_this, (vp_updL j_this 20 v12)))) := rfl
theorem fX10_findsMonths_l101_0 (N : Nat)  (v1 : Int32) (v2 : Int32) (v3 : Int64) (v5 : Int32) (v6 : Int32) (v11 : Int32) (v12 : Int64) (v14 : Int32) (i_this : Nat → Int32) (j_this : Nat → Int64) : fX10_findsMonths_l101 N 0 v1 v2 v3 v5 v6 v11 v12 v14 i_this j_this = none := rfl
noncomputable def fX10_findsMonths_j71 (N : Nat)  (v1 : Int32) (v2 : Int32) (v3 : Int64) (v5 : Int32) (v6 : Int32) (v9 : Int64) (t0 : Int32) (i_this : Nat → Int32) (j_this : Nat → Int64) : Option ((Nat → Int32) × (Nat → Int64)) := (if t0 = (0 : Int32) then (gnl v6.toInt64 (nm (((v9 + (2 : Int32).toInt64) / v6.toInt64) * v6.toInt64) fun z25 => (fX10_findsMonths_l101 N N v1 v2 v3 v5 v6 t0 z25 (0 : Int32) i_this j_this))) else (gnl v6.toInt64 (nm (((v9 + (-2 : Int32).toInt64) / v6.toInt64) * v6.toInt64) fun z27 => (fX10_findsMonths_l101 N N v1 v2 v3 v5 v6 t0 z27 (0 : Int32) i_this j_this))))
noncomputable def fX10_findsMonths (N : Nat) (p1 : Int32) (p2 : Int32) (p3 : Int64) (p4 : Int32) (p5 : Int32) (i_this : Nat → Int32) (j_this : Nat → Int64) : Option ((Nat → Int32) × (Nat → Int64)) := (bd1 (fX10_dates N p1 i_this j_this) fun i_this_28 => (nm (((12 : Int64) * (i_this_28 10).toInt64) + (i_this_28 11).toInt64) fun z30 => (bd1 (fX10_dates N ((p3 / (86400 : Int64)).toInt32) i_this_28 j_this) fun i_this_31 => (nm ((((12 : Int64) * (i_this_31 10).toInt64) + (i_this_31 11).toInt64) - z30) fun z33 => (if (0 : Int32) ≤ (lg_cmp p3 ((p1.toInt64 * (86400 : Int64)) + p2.toInt64)) then (fX10_findsMonths_j71 N p1 p2 p3 p4 p5 z33 (0 : Int32) i_this_31 j_this) else (fX10_findsMonths_j71 N p1 p2 p3 p4 p5 z33 (1 : Int32) i_this_31 j_this))))))
set_option maxHeartbeats 4000000 in
set_option maxRecDepth 100000 in
theorem kX10_findsMonths (l : Launch) (dC : Nat → ClassId) (dI : Nat → Nat → Nat) (cI cJ cB : ClassId) (h_this h_this_dayAt h_this_secondAt h_this_spans h_this_kept h_this_text h_this_row h_this_read h_this_many h_this_first h_this_lengths h_this_page : Nat) (N : Nat) (p1 : Int32) (p2 : Int32) (p3 : Int64) (p4 : Int32) (p5 : Int32) (i_this : Nat → Int32) (j_this : Nat → Int64) (o_i_this : Nat → Int32) (o_j_this : Nat → Int64) (hf : fX10_findsMonths N p1 p2 p3 p4 p5 i_this j_this = some (o_i_this, o_j_this)) : MV l yX10_findsMonths (kws yX10_findsMonths cX10_findsMonths 15 (none)) (kR 4 97) (dC, dI) (kT cI cJ cB) [.ref h_this, .int p1, .int p2, .long p3, .int p4, .int p5] [cl_X10 h_this h_this_dayAt h_this_secondAt h_this_spans h_this_kept h_this_text h_this_row h_this_read h_this_many h_this_first h_this_lengths h_this_page i_this j_this] [cl_X10 h_this h_this_dayAt h_this_secondAt h_this_spans h_this_kept h_this_text h_this_row h_this_read h_this_many h_this_first h_this_lengths h_this_page o_i_this o_j_this] := by
  refine MV.of (cc := cX10_findsMonths) (maxL := 15) (by decide) (Nat.le_of_ble_eq_true rfl) (fun p e s m args below meth c A Q ls KC hN hK hP hD hA hl hEnd => ?_)
  obtain ⟨hx, hb, hml, hown, hts⟩ := KC
  have hown : s.vm.findClass "DateSpansModel" = some m.cls := hown
  have hl : lv_has ls 15 [(0, .ref h_this), (1, .int p1), (2, .int p2), (3, .long p3), (5, .int p4), (6, .int p5)] := hl
  have hS : va_S A s.heap s.heap [] := va_S.rf
  have LP_101 : ∀ n_101 : Nat, ∀ (v1 : Int32) (v2 : Int32) (v3 : Int64) (v5 : Int32) (v6 : Int32) (v11 : Int32) (v12 : Int64) (v14 : Int32) (i_this : Nat → Int32) (j_this : Nat → Int64) (ls : Array Slot) (H : Heap) (locs : List Loc), fX10_findsMonths_l101 N n_101 v1 v2 v3 v5 v6 v11 v12 v14 i_this j_this = some (o_i_this, o_j_this) → lv_has ls 15 [(0, .ref h_this), (1, .int v1), (2, .int v2), (3, .long v3), (5, .int v5), (6, .int v6), (11, .int v11), (12, .long v12), (14, .int v14)] → va_P (dC, dI) vwCl [cl_X10 h_this h_this_dayAt h_this_secondAt h_this_spans h_this_kept h_this_text h_this_row h_this_read h_this_many h_this_first h_this_lengths h_this_page i_this j_this] H → va_D A [cl_X10 h_this h_this_dayAt h_this_secondAt h_this_spans h_this_kept h_this_text h_this_row h_this_read h_this_many h_this_first h_this_lengths h_this_page i_this j_this] → va_S A s.heap H locs → W p l e (kR 4 97) s m args below meth c H locs 0 0 Q (F0 m 101 ls []) := by
    intro n_101
    induction n_101 with
    | zero =>
      intro v1 v2 v3 v5 v6 v11 v12 v14 i_this j_this ls H locs h hl hP hD hS
      rw [fX10_findsMonths_l101_0] at h; cases h
    | succ n_101 ih_101 =>
      have JN_186 : ∀ (v1 : Int32) (v2 : Int32) (v3 : Int64) (v5 : Int32) (v6 : Int32) (v11 : Int32) (v12 : Int64) (t0 : Int32) (i_this : Nat → Int32) (j_this : Nat → Int64) (ls : Array Slot) (H : Heap) (locs : List Loc), (fX10_findsMonths_j186 N (fX10_findsMonths_l101 N n_101)) v1 v2 v3 v5 v6 v11 v12 t0 i_this j_this = some (o_i_this, o_j_this) → lv_has ls 15 [(0, .ref h_this), (1, .int v1), (2, .int v2), (3, .long v3), (5, .int v5), (6, .int v6), (11, .int v11), (12, .long v12)] → va_P (dC, dI) vwCl [cl_X10 h_this h_this_dayAt h_this_secondAt h_this_spans h_this_kept h_this_text h_this_row h_this_read h_this_many h_this_first h_this_lengths h_this_page i_this j_this] H → va_D A [cl_X10 h_this h_this_dayAt h_this_secondAt h_this_spans h_this_kept h_this_text h_this_row h_this_read h_this_many h_this_first h_this_lengths h_this_page i_this j_this] → va_S A s.heap H locs → W p l e (kR 4 97) s m args below meth c H locs 0 0 Q (F0 m 186 ls [.int t0]) := by
        intro v1 v2 v3 v5 v6 v11 v12 t0 i_this j_this ls H locs h hl hP hD hS
        unfold fX10_findsMonths_j186 at h
        refine lv_istore (lv' := [(14, .int t0), (0, .ref h_this), (1, .int v1), (2, .int v2), (3, .long v3), (5, .int v5), (6, .int v6), (11, .int v11), (12, .long v12)]) hx hb dX10_findsMonths_186 hl (by decide) rfl (fun ls hl => ?_)
        refine lv_iload hx hb dX10_findsMonths_188 (lv_at hl 0 rfl) ?_
        refine lv_if_ne (tgt := 101) hx hb dX10_findsMonths_190 (by decide) (fun c1 => ?_) (fun c1 => ?_)
        · have h := ite_f c1 h
          exact ih_101 _ _ _ _ _ _ _ _ _ _ _ _ _ h (lv_sub hl [1, 2, 3, 4, 5, 6, 7, 8, 0] rfl) hP hD hS
        have h := ite_t c1 h
        refine lv_lload hx hb dX10_findsMonths_193 (lv_at hl 8 rfl) ?_
        refine lv_iload hx hb dX10_findsMonths_195 (lv_at hl 7 rfl) ?_
        refine lv_if_eq (tgt := 206) hx hb dX10_findsMonths_197 (by decide) (fun c2 => ?_) (fun c2 => ?_)
        · have h := ite_t c2 h
          refine lv_iload hx hb dX10_findsMonths_206 (lv_at hl 6 rfl) ?_
          refine lv_ineg hx hb dX10_findsMonths_208 ?_
          refine lv_i2l hx hb dX10_findsMonths_209 rfl ?_
          refine lv_ladd hx hb dX10_findsMonths_210 ?_
          refine lv_topl (fun z3 ez3 => ?_)
          have h := nm_at ez3 h
          refine lv_lstore (lv' := [(12, .long z3), (14, .int t0), (0, .ref h_this), (1, .int v1), (2, .int v2), (3, .long v3), (5, .int v5), (6, .int v6), (11, .int v11)]) hx hb dX10_findsMonths_211 hl (by decide) rfl (fun ls hl => ?_)
          refine lv_goto (tgt := 101) hx hb dX10_findsMonths_213 (by decide) ?_
          exact ih_101 _ _ _ _ _ _ _ _ _ _ _ _ _ h (lv_sub hl [2, 3, 4, 5, 6, 7, 8, 0, 1] rfl) hP hD hS
        have h := ite_f c2 h
        refine lv_iload hx hb dX10_findsMonths_200 (lv_at hl 6 rfl) ?_
        refine lv_i2l hx hb dX10_findsMonths_202 rfl ?_
        refine lv_goto (tgt := 210) hx hb dX10_findsMonths_203 (by decide) ?_
        refine lv_ladd hx hb dX10_findsMonths_210 ?_
        refine lv_topl (fun z4 ez4 => ?_)
        have h := nm_at ez4 h
        refine lv_lstore (lv' := [(12, .long z4), (14, .int t0), (0, .ref h_this), (1, .int v1), (2, .int v2), (3, .long v3), (5, .int v5), (6, .int v6), (11, .int v11)]) hx hb dX10_findsMonths_211 hl (by decide) rfl (fun ls hl => ?_)
        refine lv_goto (tgt := 101) hx hb dX10_findsMonths_213 (by decide) ?_
        exact ih_101 _ _ _ _ _ _ _ _ _ _ _ _ _ h (lv_sub hl [2, 3, 4, 5, 6, 7, 8, 0, 1] rfl) hP hD hS
      have JN_131 : ∀ (v1 : Int32) (v2 : Int32) (v3 : Int64) (v5 : Int32) (v6 : Int32) (v11 : Int32) (v12 : Int64) (i_this : Nat → Int32) (j_this : Nat → Int64) (ls : Array Slot) (H : Heap) (locs : List Loc), (fX10_findsMonths_j131 N (fX10_findsMonths_l101 N n_101)) v1 v2 v3 v5 v6 v11 v12 i_this j_this = some (o_i_this, o_j_this) → lv_has ls 15 [(0, .ref h_this), (1, .int v1), (2, .int v2), (3, .long v3), (5, .int v5), (6, .int v6), (11, .int v11), (12, .long v12)] → va_P (dC, dI) vwCl [cl_X10 h_this h_this_dayAt h_this_secondAt h_this_spans h_this_kept h_this_text h_this_row h_this_read h_this_many h_this_first h_this_lengths h_this_page i_this j_this] H → va_D A [cl_X10 h_this h_this_dayAt h_this_secondAt h_this_spans h_this_kept h_this_text h_this_row h_this_read h_this_many h_this_first h_this_lengths h_this_page i_this j_this] → va_S A s.heap H locs → W p l e (kR 4 97) s m args below meth c H locs 0 0 Q (F0 m 131 ls []) := by
        intro v1 v2 v3 v5 v6 v11 v12 i_this j_this ls H locs h hl hP hD hS
        unfold fX10_findsMonths_j131 at h
        refine lv_aload_n hx hb dX10_findsMonths_131 rfl (lv_at hl 0 rfl) ?_
        refine lv_iload_n hx hb dX10_findsMonths_132 rfl (lv_at hl 1 rfl) ?_
        refine lv_iload_n hx hb dX10_findsMonths_133 rfl (lv_at hl 2 rfl) ?_
        obtain ⟨i_this_5, hc6, h⟩ := bd1_at h
        refine kjV (kV (own := "DateSpansModel") (C := "DateSpansModel") (b := h_this) (As := [.int v1, .int v2]) (rest := []) ⟨hx, hb, hml, hown, hts⟩ (kX10_stands l dC dI cI cJ cB h_this h_this_dayAt h_this_secondAt h_this_spans h_this_kept h_this_text h_this_row h_this_read h_this_many h_this_first h_this_lengths h_this_page N v1 v2 i_this j_this i_this_5 hc6 _) (kgV (kq q_1136 rfl) (kq q_1138 rfl) (kq q_24 rfl) (kq q_66 rfl) (kq q_1139 rfl)) yd_X10_stands ⟨Nat.le_of_ble_eq_true rfl, Nat.le_of_ble_eq_true rfl⟩ hN hK hP hD [0] rfl rfl (ci := 9) rfl rfl rfl rfl rfl hl.1 rfl (lv_room (Nat.le_of_ble_eq_true rfl)) dX10_findsMonths_134) hP hD hS hA [0] rfl rfl (fun H locs hP hD hS => ?_)
        have hP : va_P (dC, dI) vwCl [cl_X10 h_this h_this_dayAt h_this_secondAt h_this_spans h_this_kept h_this_text h_this_row h_this_read h_this_many h_this_first h_this_lengths h_this_page i_this_5 j_this] H := hP
        have hD : va_D A [cl_X10 h_this h_this_dayAt h_this_secondAt h_this_spans h_this_kept h_this_text h_this_row h_this_read h_this_many h_this_first h_this_lengths h_this_page i_this_5 j_this] := hD
        refine lv_lload hx hb dX10_findsMonths_137 (lv_at hl 7 rfl) ?_
        refine lv_lconst (v := (0 : Int64)) hx hb dX10_findsMonths_139 (by decide) ?_
        refine W.lcmp hx hb dX10_findsMonths_140 ?_
        refine lv_if_eq (tgt := 181) hx hb dX10_findsMonths_141 (by decide) (fun c7 => ?_) (fun c7 => ?_)
        · have h := ite_t c7 h
          refine lv_iconst (v := (1 : Int32)) hx hb dX10_findsMonths_181 (by decide) ?_
          refine lv_goto (tgt := 186) hx hb dX10_findsMonths_182 (by decide) ?_
          exact JN_186 _ _ _ _ _ _ _ _ _ _ _ _ _ h (lv_sub hl [0, 1, 2, 3, 4, 5, 6, 7] rfl) hP hD hS
        have h := ite_f c7 h
        refine lv_aload_n hx hb dX10_findsMonths_144 rfl (lv_at hl 0 rfl) ?_
        refine lv_lload hx hb dX10_findsMonths_145 (lv_at hl 7 rfl) ?_
        refine lv_iload hx hb dX10_findsMonths_147 (lv_at hl 4 rfl) ?_
        obtain ⟨r8, i_this_9, hc10, h⟩ := bd2_at h
        refine kjI (kV (own := "DateSpansModel") (C := "DateSpansModel") (b := h_this) (As := [.long v12, .int v5]) (rest := []) ⟨hx, hb, hml, hown, hts⟩ (kX10_addsMonths l dC dI cI cJ cB h_this h_this_dayAt h_this_secondAt h_this_spans h_this_kept h_this_text h_this_row h_this_read h_this_many h_this_first h_this_lengths h_this_page N v12 v5 i_this_5 j_this r8 i_this_9 hc10 _) (kgV (kq q_1294 rfl) (kq q_1296 rfl) (kq q_35 rfl) (kq q_66 rfl) (kq q_1297 rfl)) yd_X10_addsMonths ⟨Nat.le_of_ble_eq_true rfl, Nat.le_of_ble_eq_true rfl⟩ hN hK hP hD [0] rfl rfl (ci := 9) rfl rfl rfl rfl rfl hl.1 rfl (lv_room (Nat.le_of_ble_eq_true rfl)) dX10_findsMonths_149) hP hD hS hA [0] rfl rfl (fun H locs hP hD hS => ?_)
        have hP : va_P (dC, dI) vwCl [cl_X10 h_this h_this_dayAt h_this_secondAt h_this_spans h_this_kept h_this_text h_this_row h_this_read h_this_many h_this_first h_this_lengths h_this_page i_this_9 j_this] H := hP
        have hD : va_D A [cl_X10 h_this h_this_dayAt h_this_secondAt h_this_spans h_this_kept h_this_text h_this_row h_this_read h_this_many h_this_first h_this_lengths h_this_page i_this_9 j_this] := hD
        refine lv_if_eq (tgt := 185) hx hb dX10_findsMonths_152 (by decide) (fun c11 => ?_) (fun c11 => ?_)
        · have h := ite_t c11 h
          refine lv_iconst (v := (0 : Int32)) hx hb dX10_findsMonths_185 (by decide) ?_
          exact JN_186 _ _ _ _ _ _ _ _ _ _ _ _ _ h (lv_sub hl [0, 1, 2, 3, 4, 5, 6, 7] rfl) hP hD hS
        have h := ite_f c11 h
        refine lv_iload hx hb dX10_findsMonths_155 (lv_at hl 6 rfl) ?_
        refine lv_if_eq (tgt := 172) hx hb dX10_findsMonths_157 (by decide) (fun c12 => ?_) (fun c12 => ?_)
        · have h := ite_t c12 h
          refine lv_aload_n hx hb dX10_findsMonths_172 rfl (lv_at hl 0 rfl) ?_
          obtain ⟨r13, hc14, h⟩ := bd1_at h
          refine kjL (kV (own := "DateSpansModel") (C := "DateSpansModel") (b := h_this) (As := []) (rest := []) ⟨hx, hb, hml, hown, hts⟩ (kX10_instant l dC dI cI cJ cB h_this h_this_dayAt h_this_secondAt h_this_spans h_this_kept h_this_text h_this_row h_this_read h_this_many h_this_first h_this_lengths h_this_page N i_this_9 j_this r13 hc14 _) (kgV (kq q_1352 rfl) (kq q_1354 rfl) (kq q_42 rfl) (kq q_66 rfl) (kq q_1355 rfl)) yd_X10_instant ⟨Nat.le_of_ble_eq_true rfl, Nat.le_of_ble_eq_true rfl⟩ hN hK hP hD [0] rfl rfl (ci := 9) rfl rfl rfl rfl rfl hl.1 rfl (lv_room (Nat.le_of_ble_eq_true rfl)) dX10_findsMonths_173) hP hD hS hA [0] rfl rfl (fun H locs hP hD hS => ?_)
          have hP : va_P (dC, dI) vwCl [cl_X10 h_this h_this_dayAt h_this_secondAt h_this_spans h_this_kept h_this_text h_this_row h_this_read h_this_many h_this_first h_this_lengths h_this_page i_this_9 j_this] H := hP
          have hD : va_D A [cl_X10 h_this h_this_dayAt h_this_secondAt h_this_spans h_this_kept h_this_text h_this_row h_this_read h_this_many h_this_first h_this_lengths h_this_page i_this_9 j_this] := hD
          refine lv_lload_n hx hb dX10_findsMonths_176 rfl (lv_at hl 3 rfl) ?_
          refine W.lcmp hx hb dX10_findsMonths_177 ?_
          refine lv_if_gt (tgt := 185) hx hb dX10_findsMonths_178 (by decide) (fun c15 => ?_) (fun c15 => ?_)
          · have h := ite_t c15 h
            refine lv_iconst (v := (0 : Int32)) hx hb dX10_findsMonths_185 (by decide) ?_
            exact JN_186 _ _ _ _ _ _ _ _ _ _ _ _ _ h (lv_sub hl [0, 1, 2, 3, 4, 5, 6, 7] rfl) hP hD hS
          have h := ite_f c15 h
          refine lv_iconst (v := (1 : Int32)) hx hb dX10_findsMonths_181 (by decide) ?_
          refine lv_goto (tgt := 186) hx hb dX10_findsMonths_182 (by decide) ?_
          exact JN_186 _ _ _ _ _ _ _ _ _ _ _ _ _ h (lv_sub hl [0, 1, 2, 3, 4, 5, 6, 7] rfl) hP hD hS
        have h := ite_f c12 h
        refine lv_aload_n hx hb dX10_findsMonths_160 rfl (lv_at hl 0 rfl) ?_
        obtain ⟨r16, hc17, h⟩ := bd1_at h
        refine kjL (kV (own := "DateSpansModel") (C := "DateSpansModel") (b := h_this) (As := []) (rest := []) ⟨hx, hb, hml, hown, hts⟩ (kX10_instant l dC dI cI cJ cB h_this h_this_dayAt h_this_secondAt h_this_spans h_this_kept h_this_text h_this_row h_this_read h_this_many h_this_first h_this_lengths h_this_page N i_this_9 j_this r16 hc17 _) (kgV (kq q_1352 rfl) (kq q_1354 rfl) (kq q_42 rfl) (kq q_66 rfl) (kq q_1355 rfl)) yd_X10_instant ⟨Nat.le_of_ble_eq_true rfl, Nat.le_of_ble_eq_true rfl⟩ hN hK hP hD [0] rfl rfl (ci := 9) rfl rfl rfl rfl rfl hl.1 rfl (lv_room (Nat.le_of_ble_eq_true rfl)) dX10_findsMonths_161) hP hD hS hA [0] rfl rfl (fun H locs hP hD hS => ?_)
        have hP : va_P (dC, dI) vwCl [cl_X10 h_this h_this_dayAt h_this_secondAt h_this_spans h_this_kept h_this_text h_this_row h_this_read h_this_many h_this_first h_this_lengths h_this_page i_this_9 j_this] H := hP
        have hD : va_D A [cl_X10 h_this h_this_dayAt h_this_secondAt h_this_spans h_this_kept h_this_text h_this_row h_this_read h_this_many h_this_first h_this_lengths h_this_page i_this_9 j_this] := hD
        refine lv_lload_n hx hb dX10_findsMonths_164 rfl (lv_at hl 3 rfl) ?_
        refine W.lcmp hx hb dX10_findsMonths_165 ?_
        refine lv_if_lt (tgt := 185) hx hb dX10_findsMonths_166 (by decide) (fun c18 => ?_) (fun c18 => ?_)
        · have h := ite_t c18 h
          refine lv_iconst (v := (0 : Int32)) hx hb dX10_findsMonths_185 (by decide) ?_
          exact JN_186 _ _ _ _ _ _ _ _ _ _ _ _ _ h (lv_sub hl [0, 1, 2, 3, 4, 5, 6, 7] rfl) hP hD hS
        have h := ite_f c18 h
        refine lv_goto (tgt := 181) hx hb dX10_findsMonths_169 (by decide) ?_
        refine lv_iconst (v := (1 : Int32)) hx hb dX10_findsMonths_181 (by decide) ?_
        refine lv_goto (tgt := 186) hx hb dX10_findsMonths_182 (by decide) ?_
        exact JN_186 _ _ _ _ _ _ _ _ _ _ _ _ _ h (lv_sub hl [0, 1, 2, 3, 4, 5, 6, 7] rfl) hP hD hS
      intro v1 v2 v3 v5 v6 v11 v12 v14 i_this j_this ls H locs h hl hP hD hS
      rw [fX10_findsMonths_l101_s] at h
      refine lv_iload hx hb dX10_findsMonths_101 (lv_at hl 8 rfl) ?_
      refine lv_if_ne (tgt := 216) hx hb dX10_findsMonths_103 (by decide) (fun c19 => ?_) (fun c19 => ?_)
      · have h := ite_f c19 h
        refine lv_aload_n hx hb dX10_findsMonths_216 rfl (lv_at hl 0 rfl) ?_
        refine lv_lload hx hb dX10_findsMonths_217 (lv_at hl 7 rfl) ?_
        refine va_put (D := (dC, dI)) (ci := 9) (v := .long v12) (ty := .long) (C := RX10) (T := TX10) (N := 29) hx hb hts inX10 tyX10 tyX10_ok nmX10 hown hK hP hD hS 0 rfl rfl 20 (by decide) (hts _ (kq q_1006 rfl)) (fun _ h9 => h9) rfl (by decide +kernel) rfl rfl (Nat.le_of_ble_eq_true rfl) dX10_findsMonths_219 (fun H locs hP hD hS => ?_)
        have hP : va_P (dC, dI) vwCl [(h_this, .inr (9, [.ref h_this_dayAt, .ref h_this_secondAt, .ref h_this_spans, .ref h_this_kept, .int (i_this 4), .ref h_this_text, .int (i_this 6), .ref h_this_row, .int (i_this 8), .int (i_this 9), .int (i_this 10), .int (i_this 11), .int (i_this 12), .int (i_this 13), .int (i_this 14), .int (i_this 15), .int (i_this 16), .int (i_this 17), .int (i_this 18), .ref h_this_read, .long v12, .ref h_this_many, .ref h_this_first, .ref h_this_lengths, .int (i_this 24), .long (j_this 25), .long (j_this 26), .ref h_this_page, .int (i_this 28)]))] H := hP
        have hD : va_D A [(h_this, .inr (9, [.ref h_this_dayAt, .ref h_this_secondAt, .ref h_this_spans, .ref h_this_kept, .int (i_this 4), .ref h_this_text, .int (i_this 6), .ref h_this_row, .int (i_this 8), .int (i_this 9), .int (i_this 10), .int (i_this 11), .int (i_this 12), .int (i_this 13), .int (i_this 14), .int (i_this 15), .int (i_this 16), .int (i_this 17), .int (i_this 18), .ref h_this_read, .long v12, .ref h_this_many, .ref h_this_first, .ref h_this_lengths, .int (i_this 24), .long (j_this 25), .long (j_this 26), .ref h_this_page, .int (i_this 28)]))] := hD
        have hP : va_P (dC, dI) vwCl [cl_X10 h_this h_this_dayAt h_this_secondAt h_this_spans h_this_kept h_this_text h_this_row h_this_read h_this_many h_this_first h_this_lengths h_this_page i_this (vp_updL j_this 20 v12)] H := hP
        have hD : va_D A [cl_X10 h_this h_this_dayAt h_this_secondAt h_this_spans h_this_kept h_this_text h_this_row h_this_read h_this_many h_this_first h_this_lengths h_this_page i_this (vp_updL j_this 20 v12)] := hD
        obtain ⟨rfl, rfl⟩ := pj2 h
        exact hEnd _ _ _ _ hP hS dX10_findsMonths_222
      have h := ite_t c19 h
      refine lv_iload hx hb dX10_findsMonths_106 (lv_at hl 6 rfl) ?_
      refine lv_if_eq (tgt := 121) hx hb dX10_findsMonths_108 (by decide) (fun c20 => ?_) (fun c20 => ?_)
      · have h := ite_t c20 h
        refine lv_lload hx hb dX10_findsMonths_121 (lv_at hl 7 rfl) ?_
        refine lv_lconst (v := (0 : Int64)) hx hb dX10_findsMonths_123 (by decide) ?_
        refine W.lcmp hx hb dX10_findsMonths_124 ?_
        refine lv_if_gt (tgt := 131) hx hb dX10_findsMonths_125 (by decide) (fun c21 => ?_) (fun c21 => ?_)
        · have h := ite_t c21 h
          exact JN_131 _ _ _ _ _ _ _ _ _ _ _ _ h (lv_sub hl [0, 1, 2, 3, 4, 5, 6, 7] rfl) hP hD hS
        have h := ite_f c21 h
        refine lv_lconst (v := (0 : Int64)) hx hb dX10_findsMonths_128 (by decide) ?_
        refine lv_lstore (lv' := [(12, .long (0 : Int64)), (0, .ref h_this), (1, .int v1), (2, .int v2), (3, .long v3), (5, .int v5), (6, .int v6), (11, .int v11), (14, .int v14)]) hx hb dX10_findsMonths_129 hl (by decide) rfl (fun ls hl => ?_)
        exact JN_131 _ _ _ _ _ _ _ _ _ _ _ _ h (lv_sub hl [1, 2, 3, 4, 5, 6, 7, 0] rfl) hP hD hS
      have h := ite_f c20 h
      refine lv_lload hx hb dX10_findsMonths_111 (lv_at hl 7 rfl) ?_
      refine lv_lconst (v := (0 : Int64)) hx hb dX10_findsMonths_113 (by decide) ?_
      refine W.lcmp hx hb dX10_findsMonths_114 ?_
      refine lv_if_lt (tgt := 131) hx hb dX10_findsMonths_115 (by decide) (fun c22 => ?_) (fun c22 => ?_)
      · have h := ite_t c22 h
        exact JN_131 _ _ _ _ _ _ _ _ _ _ _ _ h (lv_sub hl [0, 1, 2, 3, 4, 5, 6, 7] rfl) hP hD hS
      have h := ite_f c22 h
      refine lv_goto (tgt := 128) hx hb dX10_findsMonths_118 (by decide) ?_
      refine lv_lconst (v := (0 : Int64)) hx hb dX10_findsMonths_128 (by decide) ?_
      refine lv_lstore (lv' := [(12, .long (0 : Int64)), (0, .ref h_this), (1, .int v1), (2, .int v2), (3, .long v3), (5, .int v5), (6, .int v6), (11, .int v11), (14, .int v14)]) hx hb dX10_findsMonths_129 hl (by decide) rfl (fun ls hl => ?_)
      exact JN_131 _ _ _ _ _ _ _ _ _ _ _ _ h (lv_sub hl [1, 2, 3, 4, 5, 6, 7, 0] rfl) hP hD hS
  have JN_71 : ∀ (v1 : Int32) (v2 : Int32) (v3 : Int64) (v5 : Int32) (v6 : Int32) (v9 : Int64) (t0 : Int32) (i_this : Nat → Int32) (j_this : Nat → Int64) (ls : Array Slot) (H : Heap) (locs : List Loc), (fX10_findsMonths_j71 N) v1 v2 v3 v5 v6 v9 t0 i_this j_this = some (o_i_this, o_j_this) → lv_has ls 15 [(0, .ref h_this), (1, .int v1), (2, .int v2), (3, .long v3), (5, .int v5), (6, .int v6), (9, .long v9)] → va_P (dC, dI) vwCl [cl_X10 h_this h_this_dayAt h_this_secondAt h_this_spans h_this_kept h_this_text h_this_row h_this_read h_this_many h_this_first h_this_lengths h_this_page i_this j_this] H → va_D A [cl_X10 h_this h_this_dayAt h_this_secondAt h_this_spans h_this_kept h_this_text h_this_row h_this_read h_this_many h_this_first h_this_lengths h_this_page i_this j_this] → va_S A s.heap H locs → W p l e (kR 4 97) s m args below meth c H locs 0 0 Q (F0 m 71 ls [.int t0]) := by
    intro v1 v2 v3 v5 v6 v9 t0 i_this j_this ls H locs h hl hP hD hS
    unfold fX10_findsMonths_j71 at h
    refine lv_istore (lv' := [(11, .int t0), (0, .ref h_this), (1, .int v1), (2, .int v2), (3, .long v3), (5, .int v5), (6, .int v6), (9, .long v9)]) hx hb dX10_findsMonths_71 hl (by decide) rfl (fun ls hl => ?_)
    refine lv_lload hx hb dX10_findsMonths_73 (lv_at hl 7 rfl) ?_
    refine lv_iload hx hb dX10_findsMonths_75 (lv_at hl 0 rfl) ?_
    refine lv_if_eq (tgt := 85) hx hb dX10_findsMonths_77 (by decide) (fun c23 => ?_) (fun c23 => ?_)
    · have h := ite_t c23 h
      refine lv_iconst (v := (2 : Int32)) hx hb dX10_findsMonths_85 (by decide) ?_
      refine lv_i2l hx hb dX10_findsMonths_86 rfl ?_
      refine lv_ladd hx hb dX10_findsMonths_87 ?_
      refine lv_iload hx hb dX10_findsMonths_88 (lv_at hl 6 rfl) ?_
      refine lv_i2l hx hb dX10_findsMonths_90 rfl ?_
      obtain ⟨hn24, h⟩ := gnl_at h
      refine lv_ldiv hx hb dX10_findsMonths_91 hn24 ?_
      refine lv_iload hx hb dX10_findsMonths_92 (lv_at hl 6 rfl) ?_
      refine lv_i2l hx hb dX10_findsMonths_94 rfl ?_
      refine lv_lmul hx hb dX10_findsMonths_95 ?_
      refine lv_topl (fun z25 ez25 => ?_)
      have h := nm_at ez25 h
      refine lv_lstore (lv' := [(12, .long z25), (11, .int t0), (0, .ref h_this), (1, .int v1), (2, .int v2), (3, .long v3), (5, .int v5), (6, .int v6), (9, .long v9)]) hx hb dX10_findsMonths_96 hl (by decide) rfl (fun ls hl => ?_)
      refine lv_iconst (v := (0 : Int32)) hx hb dX10_findsMonths_98 (by decide) ?_
      refine lv_istore (lv' := [(14, .int (0 : Int32)), (12, .long z25), (11, .int t0), (0, .ref h_this), (1, .int v1), (2, .int v2), (3, .long v3), (5, .int v5), (6, .int v6), (9, .long v9)]) hx hb dX10_findsMonths_99 hl (by decide) rfl (fun ls hl => ?_)
      exact LP_101 N _ _ _ _ _ _ _ _ _ _ _ _ _ h (lv_sub hl [3, 4, 5, 6, 7, 8, 2, 1, 0] rfl) hP hD hS
    have h := ite_f c23 h
    refine lv_bipush (v := (-2 : Int32)) hx hb dX10_findsMonths_80 (by decide) ?_
    refine lv_goto (tgt := 86) hx hb dX10_findsMonths_82 (by decide) ?_
    refine lv_i2l hx hb dX10_findsMonths_86 rfl ?_
    refine lv_ladd hx hb dX10_findsMonths_87 ?_
    refine lv_iload hx hb dX10_findsMonths_88 (lv_at hl 6 rfl) ?_
    refine lv_i2l hx hb dX10_findsMonths_90 rfl ?_
    obtain ⟨hn26, h⟩ := gnl_at h
    refine lv_ldiv hx hb dX10_findsMonths_91 hn26 ?_
    refine lv_iload hx hb dX10_findsMonths_92 (lv_at hl 6 rfl) ?_
    refine lv_i2l hx hb dX10_findsMonths_94 rfl ?_
    refine lv_lmul hx hb dX10_findsMonths_95 ?_
    refine lv_topl (fun z27 ez27 => ?_)
    have h := nm_at ez27 h
    refine lv_lstore (lv' := [(12, .long z27), (11, .int t0), (0, .ref h_this), (1, .int v1), (2, .int v2), (3, .long v3), (5, .int v5), (6, .int v6), (9, .long v9)]) hx hb dX10_findsMonths_96 hl (by decide) rfl (fun ls hl => ?_)
    refine lv_iconst (v := (0 : Int32)) hx hb dX10_findsMonths_98 (by decide) ?_
    refine lv_istore (lv' := [(14, .int (0 : Int32)), (12, .long z27), (11, .int t0), (0, .ref h_this), (1, .int v1), (2, .int v2), (3, .long v3), (5, .int v5), (6, .int v6), (9, .long v9)]) hx hb dX10_findsMonths_99 hl (by decide) rfl (fun ls hl => ?_)
    exact LP_101 N _ _ _ _ _ _ _ _ _ _ _ _ _ h (lv_sub hl [3, 4, 5, 6, 7, 8, 2, 1, 0] rfl) hP hD hS
  have h := hf
  unfold fX10_findsMonths at h
  refine lv_aload_n hx hb dX10_findsMonths_0 rfl (lv_at hl 0 rfl) ?_
  refine lv_iload_n hx hb dX10_findsMonths_1 rfl (lv_at hl 1 rfl) ?_
  obtain ⟨i_this_28, hc29, h⟩ := bd1_at h
  refine kjV (kV (own := "DateSpansModel") (C := "DateSpansModel") (b := h_this) (As := [.int p1]) (rest := []) ⟨hx, hb, hml, hown, hts⟩ (kX10_dates l dC dI cI cJ cB h_this h_this_dayAt h_this_secondAt h_this_spans h_this_kept h_this_text h_this_row h_this_read h_this_many h_this_first h_this_lengths h_this_page N p1 i_this j_this i_this_28 hc29 _) (kgV (kq q_1238 rfl) (kq q_1240 rfl) (kq q_30 rfl) (kq q_66 rfl) (kq q_1241 rfl)) yd_X10_dates ⟨Nat.le_of_ble_eq_true rfl, Nat.le_of_ble_eq_true rfl⟩ hN hK hP hD [0] rfl rfl (ci := 9) rfl rfl rfl rfl rfl hl.1 rfl (lv_room (Nat.le_of_ble_eq_true rfl)) dX10_findsMonths_2) hP hD hS hA [0] rfl rfl (fun H locs hP hD hS => ?_)
  have hP : va_P (dC, dI) vwCl [cl_X10 h_this h_this_dayAt h_this_secondAt h_this_spans h_this_kept h_this_text h_this_row h_this_read h_this_many h_this_first h_this_lengths h_this_page i_this_28 j_this] H := hP
  have hD : va_D A [cl_X10 h_this h_this_dayAt h_this_secondAt h_this_spans h_this_kept h_this_text h_this_row h_this_read h_this_many h_this_first h_this_lengths h_this_page i_this_28 j_this] := hD
  refine lv_ldc2 (v := (12 : Int64)) hx hb hown (hts _ (kq q_1266 rfl)) dX10_findsMonths_5 ?_
  refine lv_aload_n hx hb dX10_findsMonths_8 rfl (lv_at hl 0 rfl) ?_
  refine va_get (D := (dC, dI)) (ci := 9) (v := .int (i_this_28 10)) (C := RX10) (T := TX10) (N := 29) hx hb hts inX10 hown hK hP 0 rfl rfl 10 (by decide) (hts _ (kq q_996 rfl)) (fun _ h9 => h9) rfl dX10_findsMonths_9 ?_
  refine lv_i2l hx hb dX10_findsMonths_12 rfl ?_
  refine lv_lmul hx hb dX10_findsMonths_13 ?_
  refine lv_aload_n hx hb dX10_findsMonths_14 rfl (lv_at hl 0 rfl) ?_
  refine va_get (D := (dC, dI)) (ci := 9) (v := .int (i_this_28 11)) (C := RX10) (T := TX10) (N := 29) hx hb hts inX10 hown hK hP 0 rfl rfl 11 (by decide) (hts _ (kq q_997 rfl)) (fun _ h9 => h9) rfl dX10_findsMonths_15 ?_
  refine lv_i2l hx hb dX10_findsMonths_18 rfl ?_
  refine lv_ladd hx hb dX10_findsMonths_19 ?_
  refine lv_topl (fun z30 ez30 => ?_)
  have h := nm_at ez30 h
  refine lv_lstore (lv' := [(7, .long z30), (0, .ref h_this), (1, .int p1), (2, .int p2), (3, .long p3), (5, .int p4), (6, .int p5)]) hx hb dX10_findsMonths_20 hl (by decide) rfl (fun ls hl => ?_)
  refine lv_aload_n hx hb dX10_findsMonths_22 rfl (lv_at hl 1 rfl) ?_
  refine lv_lload_n hx hb dX10_findsMonths_23 rfl (lv_at hl 4 rfl) ?_
  refine lv_ldc2 (v := (86400 : Int64)) hx hb hown (hts _ (kq q_1309 rfl)) dX10_findsMonths_24 ?_
  refine lv_ldiv hx hb dX10_findsMonths_27 (by decide) ?_
  refine lv_l2i hx hb dX10_findsMonths_28 rfl ?_
  obtain ⟨i_this_31, hc32, h⟩ := bd1_at h
  refine kjV (kV (own := "DateSpansModel") (C := "DateSpansModel") (b := h_this) (As := [.int ((p3 / (86400 : Int64)).toInt32)]) (rest := []) ⟨hx, hb, hml, hown, hts⟩ (kX10_dates l dC dI cI cJ cB h_this h_this_dayAt h_this_secondAt h_this_spans h_this_kept h_this_text h_this_row h_this_read h_this_many h_this_first h_this_lengths h_this_page N ((p3 / (86400 : Int64)).toInt32) i_this_28 j_this i_this_31 hc32 _) (kgV (kq q_1238 rfl) (kq q_1240 rfl) (kq q_30 rfl) (kq q_66 rfl) (kq q_1241 rfl)) yd_X10_dates ⟨Nat.le_of_ble_eq_true rfl, Nat.le_of_ble_eq_true rfl⟩ hN hK hP hD [0] rfl rfl (ci := 9) rfl rfl rfl rfl rfl hl.1 rfl (lv_room (Nat.le_of_ble_eq_true rfl)) dX10_findsMonths_29) hP hD hS hA [0] rfl rfl (fun H locs hP hD hS => ?_)
  have hP : va_P (dC, dI) vwCl [cl_X10 h_this h_this_dayAt h_this_secondAt h_this_spans h_this_kept h_this_text h_this_row h_this_read h_this_many h_this_first h_this_lengths h_this_page i_this_31 j_this] H := hP
  have hD : va_D A [cl_X10 h_this h_this_dayAt h_this_secondAt h_this_spans h_this_kept h_this_text h_this_row h_this_read h_this_many h_this_first h_this_lengths h_this_page i_this_31 j_this] := hD
  refine lv_ldc2 (v := (12 : Int64)) hx hb hown (hts _ (kq q_1266 rfl)) dX10_findsMonths_32 ?_
  refine lv_aload_n hx hb dX10_findsMonths_35 rfl (lv_at hl 1 rfl) ?_
  refine va_get (D := (dC, dI)) (ci := 9) (v := .int (i_this_31 10)) (C := RX10) (T := TX10) (N := 29) hx hb hts inX10 hown hK hP 0 rfl rfl 10 (by decide) (hts _ (kq q_996 rfl)) (fun _ h9 => h9) rfl dX10_findsMonths_36 ?_
  refine lv_i2l hx hb dX10_findsMonths_39 rfl ?_
  refine lv_lmul hx hb dX10_findsMonths_40 ?_
  refine lv_aload_n hx hb dX10_findsMonths_41 rfl (lv_at hl 1 rfl) ?_
  refine va_get (D := (dC, dI)) (ci := 9) (v := .int (i_this_31 11)) (C := RX10) (T := TX10) (N := 29) hx hb hts inX10 hown hK hP 0 rfl rfl 11 (by decide) (hts _ (kq q_997 rfl)) (fun _ h9 => h9) rfl dX10_findsMonths_42 ?_
  refine lv_i2l hx hb dX10_findsMonths_45 rfl ?_
  refine lv_ladd hx hb dX10_findsMonths_46 ?_
  refine lv_lload hx hb dX10_findsMonths_47 (lv_at hl 0 rfl) ?_
  refine lv_lsub hx hb dX10_findsMonths_49 ?_
  refine lv_topl (fun z33 ez33 => ?_)
  have h := nm_at ez33 h
  refine lv_lstore (lv' := [(9, .long z33), (7, .long z30), (0, .ref h_this), (1, .int p1), (2, .int p2), (3, .long p3), (5, .int p4), (6, .int p5)]) hx hb dX10_findsMonths_50 hl (by decide) rfl (fun ls hl => ?_)
  refine lv_lload_n hx hb dX10_findsMonths_52 rfl (lv_at hl 5 rfl) ?_
  refine lv_iload_n hx hb dX10_findsMonths_53 rfl (lv_at hl 3 rfl) ?_
  refine lv_i2l hx hb dX10_findsMonths_54 rfl ?_
  refine lv_ldc2 (v := (86400 : Int64)) hx hb hown (hts _ (kq q_1309 rfl)) dX10_findsMonths_55 ?_
  refine lv_lmul hx hb dX10_findsMonths_58 ?_
  refine lv_iload_n hx hb dX10_findsMonths_59 rfl (lv_at hl 4 rfl) ?_
  refine lv_i2l hx hb dX10_findsMonths_60 rfl ?_
  refine lv_ladd hx hb dX10_findsMonths_61 ?_
  refine W.lcmp hx hb dX10_findsMonths_62 ?_
  refine lv_if_ge (tgt := 70) hx hb dX10_findsMonths_63 (by decide) (fun c34 => ?_) (fun c34 => ?_)
  · have h := ite_t c34 h
    refine lv_iconst (v := (0 : Int32)) hx hb dX10_findsMonths_70 (by decide) ?_
    exact JN_71 _ _ _ _ _ _ _ _ _ _ _ _ h (lv_sub hl [2, 3, 4, 5, 6, 7, 0] rfl) hP hD hS
  have h := ite_f c34 h
  refine lv_iconst (v := (1 : Int32)) hx hb dX10_findsMonths_66 (by decide) ?_
  refine lv_goto (tgt := 71) hx hb dX10_findsMonths_67 (by decide) ?_
  exact JN_71 _ _ _ _ _ _ _ _ _ _ _ _ h (lv_sub hl [2, 3, 4, 5, 6, 7, 0] rfl) hP hD hS
noncomputable def fX10_differs_j26 (N : Nat)  (v1 : Int32) (v2 : Int32) (v3 : Int64) (v5 : Int32) (t0 : Int32) (i_this : Nat → Int32) (j_this : Nat → Int64) : Option ((Nat → Int32) × (Nat → Int64)) := (bd1 (fX10_stands N v1 v2 i_this (vp_updL j_this 20 (0 : Int64))) fun i_this_1 => (if t0 ≤ (0 : Int32) then (some (i_this_1, (vp_updL j_this 20 (0 : Int64)))) else (bd2 (fX10_findsMonths N v1 v2 v3 v5 t0 i_this_1 (vp_updL j_this 20 (0 : Int64))) fun i_this_4 j_this_5 => (some (i_this_4, j_this_5)))))
noncomputable def fX10_differs (N : Nat) (p1 : Int32) (p2 : Int32) (p3 : Int64) (p4 : Int32) (p5 : Int32) (i_this : Nat → Int32) (j_this : Nat → Int64) : Option ((Nat → Int32) × (Nat → Int64)) := (if (p5 &&& (2 : Int32)) = (2 : Int32) then (fX10_differs_j26 N p1 p2 p3 p4 (1 : Int32) i_this j_this) else (if (p5 &&& (1 : Int32)) = (1 : Int32) then (fX10_differs_j26 N p1 p2 p3 p4 (12 : Int32) i_this j_this) else (fX10_differs_j26 N p1 p2 p3 p4 (0 : Int32) i_this j_this)))
set_option maxHeartbeats 4000000 in
set_option maxRecDepth 100000 in
theorem kX10_differs (l : Launch) (dC : Nat → ClassId) (dI : Nat → Nat → Nat) (cI cJ cB : ClassId) (h_this h_this_dayAt h_this_secondAt h_this_spans h_this_kept h_this_text h_this_row h_this_read h_this_many h_this_first h_this_lengths h_this_page : Nat) (N : Nat) (p1 : Int32) (p2 : Int32) (p3 : Int64) (p4 : Int32) (p5 : Int32) (i_this : Nat → Int32) (j_this : Nat → Int64) (o_i_this : Nat → Int32) (o_j_this : Nat → Int64) (hf : fX10_differs N p1 p2 p3 p4 p5 i_this j_this = some (o_i_this, o_j_this)) : MV l yX10_differs (kws yX10_differs cX10_differs 8 (none)) (kR 5 131) (dC, dI) (kT cI cJ cB) [.ref h_this, .int p1, .int p2, .long p3, .int p4, .int p5] [cl_X10 h_this h_this_dayAt h_this_secondAt h_this_spans h_this_kept h_this_text h_this_row h_this_read h_this_many h_this_first h_this_lengths h_this_page i_this j_this] [cl_X10 h_this h_this_dayAt h_this_secondAt h_this_spans h_this_kept h_this_text h_this_row h_this_read h_this_many h_this_first h_this_lengths h_this_page o_i_this o_j_this] := by
  refine MV.of (cc := cX10_differs) (maxL := 8) (by decide) (Nat.le_of_ble_eq_true rfl) (fun p e s m args below meth c A Q ls KC hN hK hP hD hA hl hEnd => ?_)
  obtain ⟨hx, hb, hml, hown, hts⟩ := KC
  have hown : s.vm.findClass "DateSpansModel" = some m.cls := hown
  have hl : lv_has ls 8 [(0, .ref h_this), (1, .int p1), (2, .int p2), (3, .long p3), (5, .int p4), (6, .int p5)] := hl
  have hS : va_S A s.heap s.heap [] := va_S.rf
  have JN_26 : ∀ (v1 : Int32) (v2 : Int32) (v3 : Int64) (v5 : Int32) (t0 : Int32) (i_this : Nat → Int32) (j_this : Nat → Int64) (ls : Array Slot) (H : Heap) (locs : List Loc), (fX10_differs_j26 N) v1 v2 v3 v5 t0 i_this j_this = some (o_i_this, o_j_this) → lv_has ls 8 [(0, .ref h_this), (1, .int v1), (2, .int v2), (3, .long v3), (5, .int v5)] → va_P (dC, dI) vwCl [cl_X10 h_this h_this_dayAt h_this_secondAt h_this_spans h_this_kept h_this_text h_this_row h_this_read h_this_many h_this_first h_this_lengths h_this_page i_this j_this] H → va_D A [cl_X10 h_this h_this_dayAt h_this_secondAt h_this_spans h_this_kept h_this_text h_this_row h_this_read h_this_many h_this_first h_this_lengths h_this_page i_this j_this] → va_S A s.heap H locs → W p l e (kR 5 131) s m args below meth c H locs 0 0 Q (F0 m 26 ls [.int t0]) := by
    intro v1 v2 v3 v5 t0 i_this j_this ls H locs h hl hP hD hS
    unfold fX10_differs_j26 at h
    refine lv_istore (lv' := [(7, .int t0), (0, .ref h_this), (1, .int v1), (2, .int v2), (3, .long v3), (5, .int v5)]) hx hb dX10_differs_26 hl (by decide) rfl (fun ls hl => ?_)
    refine lv_aload_n hx hb dX10_differs_28 rfl (lv_at hl 1 rfl) ?_
    refine lv_lconst (v := (0 : Int64)) hx hb dX10_differs_29 (by decide) ?_
    refine va_put (D := (dC, dI)) (ci := 9) (v := .long (0 : Int64)) (ty := .long) (C := RX10) (T := TX10) (N := 29) hx hb hts inX10 tyX10 tyX10_ok nmX10 hown hK hP hD hS 0 rfl rfl 20 (by decide) (hts _ (kq q_1006 rfl)) (fun _ h9 => h9) rfl (by decide +kernel) rfl rfl (Nat.le_of_ble_eq_true rfl) dX10_differs_30 (fun H locs hP hD hS => ?_)
    have hP : va_P (dC, dI) vwCl [(h_this, .inr (9, [.ref h_this_dayAt, .ref h_this_secondAt, .ref h_this_spans, .ref h_this_kept, .int (i_this 4), .ref h_this_text, .int (i_this 6), .ref h_this_row, .int (i_this 8), .int (i_this 9), .int (i_this 10), .int (i_this 11), .int (i_this 12), .int (i_this 13), .int (i_this 14), .int (i_this 15), .int (i_this 16), .int (i_this 17), .int (i_this 18), .ref h_this_read, .long (0 : Int64), .ref h_this_many, .ref h_this_first, .ref h_this_lengths, .int (i_this 24), .long (j_this 25), .long (j_this 26), .ref h_this_page, .int (i_this 28)]))] H := hP
    have hD : va_D A [(h_this, .inr (9, [.ref h_this_dayAt, .ref h_this_secondAt, .ref h_this_spans, .ref h_this_kept, .int (i_this 4), .ref h_this_text, .int (i_this 6), .ref h_this_row, .int (i_this 8), .int (i_this 9), .int (i_this 10), .int (i_this 11), .int (i_this 12), .int (i_this 13), .int (i_this 14), .int (i_this 15), .int (i_this 16), .int (i_this 17), .int (i_this 18), .ref h_this_read, .long (0 : Int64), .ref h_this_many, .ref h_this_first, .ref h_this_lengths, .int (i_this 24), .long (j_this 25), .long (j_this 26), .ref h_this_page, .int (i_this 28)]))] := hD
    refine lv_aload_n hx hb dX10_differs_33 rfl (lv_at hl 1 rfl) ?_
    refine lv_iload_n hx hb dX10_differs_34 rfl (lv_at hl 2 rfl) ?_
    refine lv_iload_n hx hb dX10_differs_35 rfl (lv_at hl 3 rfl) ?_
    have hP : va_P (dC, dI) vwCl [cl_X10 h_this h_this_dayAt h_this_secondAt h_this_spans h_this_kept h_this_text h_this_row h_this_read h_this_many h_this_first h_this_lengths h_this_page i_this (vp_updL j_this 20 (0 : Int64))] H := hP
    have hD : va_D A [cl_X10 h_this h_this_dayAt h_this_secondAt h_this_spans h_this_kept h_this_text h_this_row h_this_read h_this_many h_this_first h_this_lengths h_this_page i_this (vp_updL j_this 20 (0 : Int64))] := hD
    obtain ⟨i_this_1, hc2, h⟩ := bd1_at h
    refine kjV (kV (own := "DateSpansModel") (C := "DateSpansModel") (b := h_this) (As := [.int v1, .int v2]) (rest := []) ⟨hx, hb, hml, hown, hts⟩ (kX10_stands l dC dI cI cJ cB h_this h_this_dayAt h_this_secondAt h_this_spans h_this_kept h_this_text h_this_row h_this_read h_this_many h_this_first h_this_lengths h_this_page N v1 v2 i_this (vp_updL j_this 20 (0 : Int64)) i_this_1 hc2 _) (kgV (kq q_1136 rfl) (kq q_1138 rfl) (kq q_24 rfl) (kq q_66 rfl) (kq q_1139 rfl)) yd_X10_stands ⟨Nat.le_of_ble_eq_true rfl, Nat.le_of_ble_eq_true rfl⟩ hN hK hP hD [0] rfl rfl (ci := 9) rfl rfl rfl rfl rfl hl.1 rfl (lv_room (Nat.le_of_ble_eq_true rfl)) dX10_differs_36) hP hD hS hA [0] rfl rfl (fun H locs hP hD hS => ?_)
    have hP : va_P (dC, dI) vwCl [cl_X10 h_this h_this_dayAt h_this_secondAt h_this_spans h_this_kept h_this_text h_this_row h_this_read h_this_many h_this_first h_this_lengths h_this_page i_this_1 (vp_updL j_this 20 (0 : Int64))] H := hP
    have hD : va_D A [cl_X10 h_this h_this_dayAt h_this_secondAt h_this_spans h_this_kept h_this_text h_this_row h_this_read h_this_many h_this_first h_this_lengths h_this_page i_this_1 (vp_updL j_this 20 (0 : Int64))] := hD
    refine lv_iload hx hb dX10_differs_39 (lv_at hl 0 rfl) ?_
    refine lv_if_le (tgt := 55) hx hb dX10_differs_41 (by decide) (fun c3 => ?_) (fun c3 => ?_)
    · have h := ite_t c3 h
      obtain ⟨rfl, rfl⟩ := pj2 h
      exact hEnd _ _ _ _ hP hS dX10_differs_55
    have h := ite_f c3 h
    refine lv_aload_n hx hb dX10_differs_44 rfl (lv_at hl 1 rfl) ?_
    refine lv_iload_n hx hb dX10_differs_45 rfl (lv_at hl 2 rfl) ?_
    refine lv_iload_n hx hb dX10_differs_46 rfl (lv_at hl 3 rfl) ?_
    refine lv_lload_n hx hb dX10_differs_47 rfl (lv_at hl 4 rfl) ?_
    refine lv_iload hx hb dX10_differs_48 (lv_at hl 5 rfl) ?_
    refine lv_iload hx hb dX10_differs_50 (lv_at hl 0 rfl) ?_
    obtain ⟨i_this_4, j_this_5, hc6, h⟩ := bd2_at h
    refine kjV (kV (own := "DateSpansModel") (C := "DateSpansModel") (b := h_this) (As := [.int v1, .int v2, .long v3, .int v5, .int t0]) (rest := []) ⟨hx, hb, hml, hown, hts⟩ (kX10_findsMonths l dC dI cI cJ cB h_this h_this_dayAt h_this_secondAt h_this_spans h_this_kept h_this_text h_this_row h_this_read h_this_many h_this_first h_this_lengths h_this_page N v1 v2 v3 v5 t0 i_this_1 (vp_updL j_this 20 (0 : Int64)) i_this_4 j_this_5 hc6 _) (kgV (kq q_1348 rfl) (kq q_1350 rfl) (kq q_41 rfl) (kq q_66 rfl) (kq q_1351 rfl)) yd_X10_findsMonths ⟨Nat.le_of_ble_eq_true rfl, Nat.le_of_ble_eq_true rfl⟩ hN hK hP hD [0] rfl rfl (ci := 9) rfl rfl rfl rfl rfl hl.1 rfl (lv_room (Nat.le_of_ble_eq_true rfl)) dX10_differs_52) hP hD hS hA [0] rfl rfl (fun H locs hP hD hS => ?_)
    have hP : va_P (dC, dI) vwCl [cl_X10 h_this h_this_dayAt h_this_secondAt h_this_spans h_this_kept h_this_text h_this_row h_this_read h_this_many h_this_first h_this_lengths h_this_page i_this_4 j_this_5] H := hP
    have hD : va_D A [cl_X10 h_this h_this_dayAt h_this_secondAt h_this_spans h_this_kept h_this_text h_this_row h_this_read h_this_many h_this_first h_this_lengths h_this_page i_this_4 j_this_5] := hD
    obtain ⟨rfl, rfl⟩ := pj2 h
    exact hEnd _ _ _ _ hP hS dX10_differs_55
  have h := hf
  unfold fX10_differs at h
  refine lv_iload hx hb dX10_differs_0 (lv_at hl 5 rfl) ?_
  refine lv_iconst (v := (2 : Int32)) hx hb dX10_differs_2 (by decide) ?_
  refine lv_iand hx hb dX10_differs_3 ?_
  refine lv_iconst (v := (2 : Int32)) hx hb dX10_differs_4 (by decide) ?_
  refine lv_icmp_ne (tgt := 12) hx hb dX10_differs_5 (by decide) (fun c7 => ?_) (fun c7 => ?_)
  · have h := ite_f c7 h
    refine lv_iload hx hb dX10_differs_12 (lv_at hl 5 rfl) ?_
    refine lv_iconst (v := (1 : Int32)) hx hb dX10_differs_14 (by decide) ?_
    refine lv_iand hx hb dX10_differs_15 ?_
    refine lv_iconst (v := (1 : Int32)) hx hb dX10_differs_16 (by decide) ?_
    refine lv_icmp_ne (tgt := 25) hx hb dX10_differs_17 (by decide) (fun c8 => ?_) (fun c8 => ?_)
    · have h := ite_f c8 h
      refine lv_iconst (v := (0 : Int32)) hx hb dX10_differs_25 (by decide) ?_
      exact JN_26 _ _ _ _ _ _ _ _ _ _ h (lv_sub hl [0, 1, 2, 3, 4] rfl) hP hD hS
    have h := ite_t c8 h
    refine lv_bipush (v := (12 : Int32)) hx hb dX10_differs_20 (by decide) ?_
    refine lv_goto (tgt := 26) hx hb dX10_differs_22 (by decide) ?_
    exact JN_26 _ _ _ _ _ _ _ _ _ _ h (lv_sub hl [0, 1, 2, 3, 4] rfl) hP hD hS
  have h := ite_t c7 h
  refine lv_iconst (v := (1 : Int32)) hx hb dX10_differs_8 (by decide) ?_
  refine lv_goto (tgt := 26) hx hb dX10_differs_9 (by decide) ?_
  exact JN_26 _ _ _ _ _ _ _ _ _ _ h (lv_sub hl [0, 1, 2, 3, 4] rfl) hP hD hS
noncomputable def fX10_between_j184 (N : Nat) (f_this_dayAt : Nat → Int32) (f_this_secondAt : Nat → Int32) (v5 : Int32) (v12 : Int64) (v14 : Int64) (t0 : Int32) (i_this : Nat → Int32) (j_this : Nat → Int64) (f_this_spans : Nat → Int32) (f_this_row : Nat → Int64) : Option (Int32 × (Nat → Int32) × (Nat → Int64) × (Nat → Int32) × (Nat → Int64)) := (bd1 (fX10_laysSpan N v5 (j_this 20) v12 v14 i_this j_this f_this_spans) fun f_this_spans_1 => (bd2 (fX10_tellsSpan N v5 i_this j_this f_this_spans_1 f_this_row) fun i_this_3 f_this_row_4 => (if t0 = (0 : Int32) then (bd2 (fX10_tell N (0 : Int64) i_this_3 j_this f_this_row_4) fun i_this_7 f_this_row_8 => (some ((j_this 20).toInt32, i_this_7, j_this, f_this_spans_1, f_this_row_8))) else (bd2 (fX10_tell N (1 : Int64) i_this_3 j_this f_this_row_4) fun i_this_10 f_this_row_11 => (some ((j_this 20).toInt32, i_this_10, j_this, f_this_spans_1, f_this_row_11))))))
noncomputable def fX10_between_j112 (N : Nat) (f_this_dayAt : Nat → Int32) (f_this_secondAt : Nat → Int32) (v2 : Int32) (v3 : Int32) (v5 : Int32) (v8 : Int32) (v9 : Int32) (v10 : Int64) (t0 : Int64) (i_this : Nat → Int32) (j_this : Nat → Int64) (f_this_spans : Nat → Int32) (f_this_row : Nat → Int64) : Option (Int32 × (Nat → Int32) × (Nat → Int64) × (Nat → Int32) × (Nat → Int64)) := (nm (v10 - ((86400 : Int64) * t0)) fun z13 => (bd1 (fX10_isPart N z13) fun r14 => (if r14 = (0 : Int32) then (some ((-9 : Int32), i_this, j_this, f_this_spans, f_this_row)) else (bd1 (fX10_standsAt N v2 i_this j_this f_this_dayAt f_this_secondAt) fun i_this_17 => (bd2 (fX10_adds N (-(j_this 20)) (-t0) (-z13) v3 (0 : Int32) i_this_17 j_this) fun r19 i_this_20 => (if r19 = (0 : Int32) then (fX10_between_j184 N f_this_dayAt f_this_secondAt v5 t0 z13 (0 : Int32) i_this_20 j_this f_this_spans f_this_row) else (if (i_this_20 13) = v8 then (if (i_this_20 14) = v9 then (fX10_between_j184 N f_this_dayAt f_this_secondAt v5 t0 z13 (1 : Int32) i_this_20 j_this f_this_spans f_this_row) else (fX10_between_j184 N f_this_dayAt f_this_secondAt v5 t0 z13 (0 : Int32) i_this_20 j_this f_this_spans f_this_row)) else (fX10_between_j184 N f_this_dayAt f_this_secondAt v5 t0 z13 (0 : Int32) i_this_20 j_this f_this_spans f_this_row))))))))
noncomputable def fX10_between (N : Nat) (p1 : Int32) (p2 : Int32) (p3 : Int32) (p4 : Int32) (p5 : Int32) (i_this : Nat → Int32) (j_this : Nat → Int64) (f_this_dayAt : Nat → Int32) (f_this_secondAt : Nat → Int32) (f_this_spans : Nat → Int32) (f_this_row : Nat → Int64) : Option (Int32 × (Nat → Int32) × (Nat → Int64) × (Nat → Int32) × (Nat → Int64)) := (bd1 (fX10_isSlot N p1) fun r25 => (if r25 = (0 : Int32) then (some ((-1 : Int32), (upd i_this 9 (0 : Int32)), j_this, f_this_spans, f_this_row)) else (bd1 (fX10_isSlot N p2) fun r28 => (if r28 = (0 : Int32) then (some ((-1 : Int32), (upd i_this 9 (0 : Int32)), j_this, f_this_spans, f_this_row)) else (bd1 (fX10_isLaw N p3) fun r31 => (if r31 = (0 : Int32) then (some ((-1 : Int32), (upd i_this 9 (0 : Int32)), j_this, f_this_spans, f_this_row)) else (bd1 (fX10_in N p4.toInt64 (1 : Int64) (7 : Int64)) fun r34 => (if r34 = (0 : Int32) then (some ((-1 : Int32), (upd i_this 9 (0 : Int32)), j_this, f_this_spans, f_this_row)) else (bd1 (fX10_isSlot N p5) fun r37 => (if r37 = (0 : Int32) then (some ((-1 : Int32), (upd i_this 9 (0 : Int32)), j_this, f_this_spans, f_this_row)) else (bd1 (fX10_instantOf N p2 (upd i_this 9 (0 : Int32)) j_this f_this_dayAt f_this_secondAt) fun r40 => (gi p1 8 (nm (f_this_dayAt p1.toNatClampNeg) fun z43 => (gi p1 8 (nm (f_this_secondAt p1.toNatClampNeg) fun z45 => (bd2 (fX10_differs N z43 z45 r40 p3 p4 (upd i_this 9 (0 : Int32)) j_this) fun i_this_46 j_this_47 => (bd1 (fX10_instant N i_this_46 j_this_47) fun r49 => (nm (r40 - r49) fun z51 => (if (p4 &&& (4 : Int32)) = (4 : Int32) then (fX10_between_j112 N f_this_dayAt f_this_secondAt p2 p3 p5 z43 z45 z51 (z51 / (86400 : Int64)) i_this_46 j_this_47 f_this_spans f_this_row) else (fX10_between_j112 N f_this_dayAt f_this_secondAt p2 p3 p5 z43 z45 z51 (0 : Int64) i_this_46 j_this_47 f_this_spans f_this_row))))))))))))))))))))
set_option maxHeartbeats 4000000 in
set_option maxRecDepth 100000 in
theorem kX10_between (l : Launch) (dC : Nat → ClassId) (dI : Nat → Nat → Nat) (cI cJ cB : ClassId) (h_this h_this_dayAt h_this_secondAt h_this_spans h_this_kept h_this_text h_this_row h_this_read h_this_many h_this_first h_this_lengths h_this_page : Nat) (N : Nat) (p1 : Int32) (p2 : Int32) (p3 : Int32) (p4 : Int32) (p5 : Int32) (i_this : Nat → Int32) (j_this : Nat → Int64) (f_this_dayAt : Nat → Int32) (f_this_secondAt : Nat → Int32) (f_this_spans : Nat → Int32) (f_this_row : Nat → Int64) (r : Int32) (o_i_this : Nat → Int32) (o_j_this : Nat → Int64) (o_f_this_spans : Nat → Int32) (o_f_this_row : Nat → Int64) (hf : fX10_between N p1 p2 p3 p4 p5 i_this j_this f_this_dayAt f_this_secondAt f_this_spans f_this_row = some (r, o_i_this, o_j_this, o_f_this_spans, o_f_this_row)) : MI l yX10_between (kws yX10_between cX10_between 17 (some .int)) (kR 6 158) (dC, dI) (kT cI cJ cB) [.ref h_this, .int p1, .int p2, .int p3, .int p4, .int p5] [cl_X10 h_this h_this_dayAt h_this_secondAt h_this_spans h_this_kept h_this_text h_this_row h_this_read h_this_many h_this_first h_this_lengths h_this_page i_this j_this, (h_this_dayAt, .inl (cI, 8, .inl f_this_dayAt)), (h_this_secondAt, .inl (cI, 8, .inl f_this_secondAt)), (h_this_spans, .inl (cI, 24, .inl f_this_spans)), (h_this_row, .inl (cJ, 16, .inr (.inl f_this_row)))] [cl_X10 h_this h_this_dayAt h_this_secondAt h_this_spans h_this_kept h_this_text h_this_row h_this_read h_this_many h_this_first h_this_lengths h_this_page o_i_this o_j_this, (h_this_dayAt, .inl (cI, 8, .inl f_this_dayAt)), (h_this_secondAt, .inl (cI, 8, .inl f_this_secondAt)), (h_this_spans, .inl (cI, 24, .inl o_f_this_spans)), (h_this_row, .inl (cJ, 16, .inr (.inl o_f_this_row)))] r := by
  refine MI.of (cc := cX10_between) (maxL := 17) (by decide) (Nat.le_of_ble_eq_true rfl) (fun p e s m args below meth c A Q ls KC hN hK hP hD hA hl hEnd => ?_)
  obtain ⟨hx, hb, hml, hown, hts⟩ := KC
  have hown : s.vm.findClass "DateSpansModel" = some m.cls := hown
  have hl : lv_has ls 17 [(0, .ref h_this), (1, .int p1), (2, .int p2), (3, .int p3), (4, .int p4), (5, .int p5)] := hl
  have hS : va_S A s.heap s.heap [] := va_S.rf
  have JN_184 : ∀ (v5 : Int32) (v12 : Int64) (v14 : Int64) (t0 : Int32) (i_this : Nat → Int32) (j_this : Nat → Int64) (f_this_spans : Nat → Int32) (f_this_row : Nat → Int64) (ls : Array Slot) (H : Heap) (locs : List Loc), (fX10_between_j184 N f_this_dayAt f_this_secondAt) v5 v12 v14 t0 i_this j_this f_this_spans f_this_row = some (r, o_i_this, o_j_this, o_f_this_spans, o_f_this_row) → lv_has ls 17 [(0, .ref h_this), (5, .int v5), (12, .long v12), (14, .long v14)] → va_P (dC, dI) vwCl [cl_X10 h_this h_this_dayAt h_this_secondAt h_this_spans h_this_kept h_this_text h_this_row h_this_read h_this_many h_this_first h_this_lengths h_this_page i_this j_this, (h_this_dayAt, .inl (cI, 8, .inl f_this_dayAt)), (h_this_secondAt, .inl (cI, 8, .inl f_this_secondAt)), (h_this_spans, .inl (cI, 24, .inl f_this_spans)), (h_this_row, .inl (cJ, 16, .inr (.inl f_this_row)))] H → va_D A [cl_X10 h_this h_this_dayAt h_this_secondAt h_this_spans h_this_kept h_this_text h_this_row h_this_read h_this_many h_this_first h_this_lengths h_this_page i_this j_this, (h_this_dayAt, .inl (cI, 8, .inl f_this_dayAt)), (h_this_secondAt, .inl (cI, 8, .inl f_this_secondAt)), (h_this_spans, .inl (cI, 24, .inl f_this_spans)), (h_this_row, .inl (cJ, 16, .inr (.inl f_this_row)))] → va_S A s.heap H locs → W p l e (kR 6 158) s m args below meth c H locs 0 0 Q (F0 m 184 ls [.int t0]) := by
    intro v5 v12 v14 t0 i_this j_this f_this_spans f_this_row ls H locs h hl hP hD hS
    unfold fX10_between_j184 at h
    refine lv_istore (lv' := [(16, .int t0), (0, .ref h_this), (5, .int v5), (12, .long v12), (14, .long v14)]) hx hb dX10_between_184 hl (by decide) rfl (fun ls hl => ?_)
    refine lv_aload_n hx hb dX10_between_186 rfl (lv_at hl 1 rfl) ?_
    refine lv_iload hx hb dX10_between_187 (lv_at hl 2 rfl) ?_
    refine lv_aload_n hx hb dX10_between_189 rfl (lv_at hl 1 rfl) ?_
    refine va_get (D := (dC, dI)) (ci := 9) (v := .long (j_this 20)) (C := RX10) (T := TX10) (N := 29) hx hb hts inX10 hown hK hP 0 rfl rfl 20 (by decide) (hts _ (kq q_1006 rfl)) (fun _ h9 => h9) rfl dX10_between_190 ?_
    refine lv_lload hx hb dX10_between_193 (lv_at hl 3 rfl) ?_
    refine lv_lload hx hb dX10_between_195 (lv_at hl 4 rfl) ?_
    obtain ⟨f_this_spans_1, hc2, h⟩ := bd1_at h
    refine kjV (kV (own := "DateSpansModel") (C := "DateSpansModel") (b := h_this) (As := [.int v5, .long (j_this 20), .long v12, .long v14]) (rest := []) ⟨hx, hb, hml, hown, hts⟩ (kX10_laysSpan l dC dI cI cJ cB h_this h_this_dayAt h_this_secondAt h_this_spans h_this_kept h_this_text h_this_row h_this_read h_this_many h_this_first h_this_lengths h_this_page N v5 (j_this 20) v12 v14 i_this j_this f_this_spans f_this_spans_1 hc2 _) (kgV (kq q_1213 rfl) (kq q_1215 rfl) (kq q_27 rfl) (kq q_66 rfl) (kq q_1216 rfl)) yd_X10_laysSpan ⟨Nat.le_of_ble_eq_true rfl, Nat.le_of_ble_eq_true rfl⟩ hN hK hP hD [0, 3] rfl rfl (ci := 9) rfl rfl rfl rfl rfl hl.1 rfl (lv_room (Nat.le_of_ble_eq_true rfl)) dX10_between_197) hP hD hS hA [0, 3] rfl rfl (fun H locs hP hD hS => ?_)
    have hP : va_P (dC, dI) vwCl [cl_X10 h_this h_this_dayAt h_this_secondAt h_this_spans h_this_kept h_this_text h_this_row h_this_read h_this_many h_this_first h_this_lengths h_this_page i_this j_this, (h_this_dayAt, .inl (cI, 8, .inl f_this_dayAt)), (h_this_secondAt, .inl (cI, 8, .inl f_this_secondAt)), (h_this_spans, .inl (cI, 24, .inl f_this_spans_1)), (h_this_row, .inl (cJ, 16, .inr (.inl f_this_row)))] H := hP
    have hD : va_D A [cl_X10 h_this h_this_dayAt h_this_secondAt h_this_spans h_this_kept h_this_text h_this_row h_this_read h_this_many h_this_first h_this_lengths h_this_page i_this j_this, (h_this_dayAt, .inl (cI, 8, .inl f_this_dayAt)), (h_this_secondAt, .inl (cI, 8, .inl f_this_secondAt)), (h_this_spans, .inl (cI, 24, .inl f_this_spans_1)), (h_this_row, .inl (cJ, 16, .inr (.inl f_this_row)))] := hD
    refine lv_aload_n hx hb dX10_between_200 rfl (lv_at hl 1 rfl) ?_
    refine lv_iload hx hb dX10_between_201 (lv_at hl 2 rfl) ?_
    obtain ⟨i_this_3, f_this_row_4, hc5, h⟩ := bd2_at h
    refine kjV (kV (own := "DateSpansModel") (C := "DateSpansModel") (b := h_this) (As := [.int v5]) (rest := []) ⟨hx, hb, hml, hown, hts⟩ (kX10_tellsSpan l dC dI cI cJ cB h_this h_this_dayAt h_this_secondAt h_this_spans h_this_kept h_this_text h_this_row h_this_read h_this_many h_this_first h_this_lengths h_this_page N v5 i_this j_this f_this_spans_1 f_this_row i_this_3 f_this_row_4 hc5 _) (kgV (kq q_1217 rfl) (kq q_1219 rfl) (kq q_28 rfl) (kq q_66 rfl) (kq q_1220 rfl)) yd_X10_tellsSpan ⟨Nat.le_of_ble_eq_true rfl, Nat.le_of_ble_eq_true rfl⟩ hN hK hP hD [0, 3, 4] rfl rfl (ci := 9) rfl rfl rfl rfl rfl hl.1 rfl (lv_room (Nat.le_of_ble_eq_true rfl)) dX10_between_203) hP hD hS hA [0, 3, 4] rfl rfl (fun H locs hP hD hS => ?_)
    have hP : va_P (dC, dI) vwCl [cl_X10 h_this h_this_dayAt h_this_secondAt h_this_spans h_this_kept h_this_text h_this_row h_this_read h_this_many h_this_first h_this_lengths h_this_page i_this_3 j_this, (h_this_dayAt, .inl (cI, 8, .inl f_this_dayAt)), (h_this_secondAt, .inl (cI, 8, .inl f_this_secondAt)), (h_this_spans, .inl (cI, 24, .inl f_this_spans_1)), (h_this_row, .inl (cJ, 16, .inr (.inl f_this_row_4)))] H := hP
    have hD : va_D A [cl_X10 h_this h_this_dayAt h_this_secondAt h_this_spans h_this_kept h_this_text h_this_row h_this_read h_this_many h_this_first h_this_lengths h_this_page i_this_3 j_this, (h_this_dayAt, .inl (cI, 8, .inl f_this_dayAt)), (h_this_secondAt, .inl (cI, 8, .inl f_this_secondAt)), (h_this_spans, .inl (cI, 24, .inl f_this_spans_1)), (h_this_row, .inl (cJ, 16, .inr (.inl f_this_row_4)))] := hD
    refine lv_aload_n hx hb dX10_between_206 rfl (lv_at hl 1 rfl) ?_
    refine lv_iload hx hb dX10_between_207 (lv_at hl 0 rfl) ?_
    refine lv_if_eq (tgt := 216) hx hb dX10_between_209 (by decide) (fun c6 => ?_) (fun c6 => ?_)
    · have h := ite_t c6 h
      refine lv_lconst (v := (0 : Int64)) hx hb dX10_between_216 (by decide) ?_
      obtain ⟨i_this_7, f_this_row_8, hc9, h⟩ := bd2_at h
      refine kjV (kV (own := "DateSpansModel") (C := "DateSpansModel") (b := h_this) (As := [.long (0 : Int64)]) (rest := []) ⟨hx, hb, hml, hown, hts⟩ (kX10_tell l dC dI cI cJ cB h_this h_this_dayAt h_this_secondAt h_this_spans h_this_kept h_this_text h_this_row h_this_read h_this_many h_this_first h_this_lengths h_this_page N (0 : Int64) i_this_3 j_this f_this_row_4 i_this_7 f_this_row_8 hc9 _) (kgV (kq q_1221 rfl) (kq q_1223 rfl) (kq q_29 rfl) (kq q_66 rfl) (kq q_1224 rfl)) yd_X10_tell ⟨Nat.le_of_ble_eq_true rfl, Nat.le_of_ble_eq_true rfl⟩ hN hK hP hD [0, 4] rfl rfl (ci := 9) rfl rfl rfl rfl rfl hl.1 rfl (lv_room (Nat.le_of_ble_eq_true rfl)) dX10_between_217) hP hD hS hA [0, 4] rfl rfl (fun H locs hP hD hS => ?_)
      have hP : va_P (dC, dI) vwCl [cl_X10 h_this h_this_dayAt h_this_secondAt h_this_spans h_this_kept h_this_text h_this_row h_this_read h_this_many h_this_first h_this_lengths h_this_page i_this_7 j_this, (h_this_dayAt, .inl (cI, 8, .inl f_this_dayAt)), (h_this_secondAt, .inl (cI, 8, .inl f_this_secondAt)), (h_this_spans, .inl (cI, 24, .inl f_this_spans_1)), (h_this_row, .inl (cJ, 16, .inr (.inl f_this_row_8)))] H := hP
      have hD : va_D A [cl_X10 h_this h_this_dayAt h_this_secondAt h_this_spans h_this_kept h_this_text h_this_row h_this_read h_this_many h_this_first h_this_lengths h_this_page i_this_7 j_this, (h_this_dayAt, .inl (cI, 8, .inl f_this_dayAt)), (h_this_secondAt, .inl (cI, 8, .inl f_this_secondAt)), (h_this_spans, .inl (cI, 24, .inl f_this_spans_1)), (h_this_row, .inl (cJ, 16, .inr (.inl f_this_row_8)))] := hD
      refine lv_aload_n hx hb dX10_between_220 rfl (lv_at hl 1 rfl) ?_
      refine va_get (D := (dC, dI)) (ci := 9) (v := .long (j_this 20)) (C := RX10) (T := TX10) (N := 29) hx hb hts inX10 hown hK hP 0 rfl rfl 20 (by decide) (hts _ (kq q_1006 rfl)) (fun _ h9 => h9) rfl dX10_between_221 ?_
      refine lv_l2i hx hb dX10_between_224 rfl ?_
      obtain ⟨rfl, rfl, rfl, rfl, rfl⟩ := pj5 h
      exact hEnd _ _ _ _ hP hS dX10_between_225 rfl
    have h := ite_f c6 h
    refine lv_lconst (v := (1 : Int64)) hx hb dX10_between_212 (by decide) ?_
    refine lv_goto (tgt := 217) hx hb dX10_between_213 (by decide) ?_
    obtain ⟨i_this_10, f_this_row_11, hc12, h⟩ := bd2_at h
    refine kjV (kV (own := "DateSpansModel") (C := "DateSpansModel") (b := h_this) (As := [.long (1 : Int64)]) (rest := []) ⟨hx, hb, hml, hown, hts⟩ (kX10_tell l dC dI cI cJ cB h_this h_this_dayAt h_this_secondAt h_this_spans h_this_kept h_this_text h_this_row h_this_read h_this_many h_this_first h_this_lengths h_this_page N (1 : Int64) i_this_3 j_this f_this_row_4 i_this_10 f_this_row_11 hc12 _) (kgV (kq q_1221 rfl) (kq q_1223 rfl) (kq q_29 rfl) (kq q_66 rfl) (kq q_1224 rfl)) yd_X10_tell ⟨Nat.le_of_ble_eq_true rfl, Nat.le_of_ble_eq_true rfl⟩ hN hK hP hD [0, 4] rfl rfl (ci := 9) rfl rfl rfl rfl rfl hl.1 rfl (lv_room (Nat.le_of_ble_eq_true rfl)) dX10_between_217) hP hD hS hA [0, 4] rfl rfl (fun H locs hP hD hS => ?_)
    have hP : va_P (dC, dI) vwCl [cl_X10 h_this h_this_dayAt h_this_secondAt h_this_spans h_this_kept h_this_text h_this_row h_this_read h_this_many h_this_first h_this_lengths h_this_page i_this_10 j_this, (h_this_dayAt, .inl (cI, 8, .inl f_this_dayAt)), (h_this_secondAt, .inl (cI, 8, .inl f_this_secondAt)), (h_this_spans, .inl (cI, 24, .inl f_this_spans_1)), (h_this_row, .inl (cJ, 16, .inr (.inl f_this_row_11)))] H := hP
    have hD : va_D A [cl_X10 h_this h_this_dayAt h_this_secondAt h_this_spans h_this_kept h_this_text h_this_row h_this_read h_this_many h_this_first h_this_lengths h_this_page i_this_10 j_this, (h_this_dayAt, .inl (cI, 8, .inl f_this_dayAt)), (h_this_secondAt, .inl (cI, 8, .inl f_this_secondAt)), (h_this_spans, .inl (cI, 24, .inl f_this_spans_1)), (h_this_row, .inl (cJ, 16, .inr (.inl f_this_row_11)))] := hD
    refine lv_aload_n hx hb dX10_between_220 rfl (lv_at hl 1 rfl) ?_
    refine va_get (D := (dC, dI)) (ci := 9) (v := .long (j_this 20)) (C := RX10) (T := TX10) (N := 29) hx hb hts inX10 hown hK hP 0 rfl rfl 20 (by decide) (hts _ (kq q_1006 rfl)) (fun _ h9 => h9) rfl dX10_between_221 ?_
    refine lv_l2i hx hb dX10_between_224 rfl ?_
    obtain ⟨rfl, rfl, rfl, rfl, rfl⟩ := pj5 h
    exact hEnd _ _ _ _ hP hS dX10_between_225 rfl
  have JN_112 : ∀ (v2 : Int32) (v3 : Int32) (v5 : Int32) (v8 : Int32) (v9 : Int32) (v10 : Int64) (t0 : Int64) (i_this : Nat → Int32) (j_this : Nat → Int64) (f_this_spans : Nat → Int32) (f_this_row : Nat → Int64) (ls : Array Slot) (H : Heap) (locs : List Loc), (fX10_between_j112 N f_this_dayAt f_this_secondAt) v2 v3 v5 v8 v9 v10 t0 i_this j_this f_this_spans f_this_row = some (r, o_i_this, o_j_this, o_f_this_spans, o_f_this_row) → lv_has ls 17 [(0, .ref h_this), (2, .int v2), (3, .int v3), (5, .int v5), (8, .int v8), (9, .int v9), (10, .long v10)] → va_P (dC, dI) vwCl [cl_X10 h_this h_this_dayAt h_this_secondAt h_this_spans h_this_kept h_this_text h_this_row h_this_read h_this_many h_this_first h_this_lengths h_this_page i_this j_this, (h_this_dayAt, .inl (cI, 8, .inl f_this_dayAt)), (h_this_secondAt, .inl (cI, 8, .inl f_this_secondAt)), (h_this_spans, .inl (cI, 24, .inl f_this_spans)), (h_this_row, .inl (cJ, 16, .inr (.inl f_this_row)))] H → va_D A [cl_X10 h_this h_this_dayAt h_this_secondAt h_this_spans h_this_kept h_this_text h_this_row h_this_read h_this_many h_this_first h_this_lengths h_this_page i_this j_this, (h_this_dayAt, .inl (cI, 8, .inl f_this_dayAt)), (h_this_secondAt, .inl (cI, 8, .inl f_this_secondAt)), (h_this_spans, .inl (cI, 24, .inl f_this_spans)), (h_this_row, .inl (cJ, 16, .inr (.inl f_this_row)))] → va_S A s.heap H locs → W p l e (kR 6 158) s m args below meth c H locs 0 0 Q (F0 m 112 ls [.long t0]) := by
    intro v2 v3 v5 v8 v9 v10 t0 i_this j_this f_this_spans f_this_row ls H locs h hl hP hD hS
    unfold fX10_between_j112 at h
    refine lv_lstore (lv' := [(12, .long t0), (0, .ref h_this), (2, .int v2), (3, .int v3), (5, .int v5), (8, .int v8), (9, .int v9), (10, .long v10)]) hx hb dX10_between_112 hl (by decide) rfl (fun ls hl => ?_)
    refine lv_lload hx hb dX10_between_114 (lv_at hl 7 rfl) ?_
    refine lv_ldc2 (v := (86400 : Int64)) hx hb hown (hts _ (kq q_1309 rfl)) dX10_between_116 ?_
    refine lv_lload hx hb dX10_between_119 (lv_at hl 0 rfl) ?_
    refine lv_lmul hx hb dX10_between_121 ?_
    refine lv_lsub hx hb dX10_between_122 ?_
    refine lv_topl (fun z13 ez13 => ?_)
    have h := nm_at ez13 h
    refine lv_lstore (lv' := [(14, .long z13), (12, .long t0), (0, .ref h_this), (2, .int v2), (3, .int v3), (5, .int v5), (8, .int v8), (9, .int v9), (10, .long v10)]) hx hb dX10_between_123 hl (by decide) rfl (fun ls hl => ?_)
    refine lv_lload hx hb dX10_between_125 (lv_at hl 0 rfl) ?_
    obtain ⟨r14, hc15, h⟩ := bd1_at h
    refine kjSI (kS0 (own := "DateSpansModel") (As := [.long z13]) (rest := []) ⟨hx, hb, hml, hown, hts⟩ (kX10_isPart l N z13 r14 hc15) (kgS (kq q_1229 rfl) (kq q_1230 rfl) (kq q_66 rfl) (kq q_1231 rfl)) yd_X10_isPart ⟨Nat.le_of_ble_eq_true rfl, Nat.le_of_ble_eq_true rfl⟩ rfl rfl hl.1 rfl (lv_room (Nat.le_of_ble_eq_true rfl)) dX10_between_127) ?_
    refine lv_if_ne (tgt := 136) hx hb dX10_between_130 (by decide) (fun c16 => ?_) (fun c16 => ?_)
    · have h := ite_f c16 h
      refine lv_aload_n hx hb dX10_between_136 rfl (lv_at hl 2 rfl) ?_
      refine lv_iload_n hx hb dX10_between_137 rfl (lv_at hl 3 rfl) ?_
      obtain ⟨i_this_17, hc18, h⟩ := bd1_at h
      refine kjV (kV (own := "DateSpansModel") (C := "DateSpansModel") (b := h_this) (As := [.int v2]) (rest := []) ⟨hx, hb, hml, hown, hts⟩ (kX10_standsAt l dC dI cI cJ cB h_this h_this_dayAt h_this_secondAt h_this_spans h_this_kept h_this_text h_this_row h_this_read h_this_many h_this_first h_this_lengths h_this_page N v2 i_this j_this f_this_dayAt f_this_secondAt i_this_17 hc18 _) (kgV (kq q_1282 rfl) (kq q_1284 rfl) (kq q_32 rfl) (kq q_66 rfl) (kq q_1285 rfl)) yd_X10_standsAt ⟨Nat.le_of_ble_eq_true rfl, Nat.le_of_ble_eq_true rfl⟩ hN hK hP hD [0, 1, 2] rfl rfl (ci := 9) rfl rfl rfl rfl rfl hl.1 rfl (lv_room (Nat.le_of_ble_eq_true rfl)) dX10_between_138) hP hD hS hA [0, 1, 2] rfl rfl (fun H locs hP hD hS => ?_)
      have hP : va_P (dC, dI) vwCl [cl_X10 h_this h_this_dayAt h_this_secondAt h_this_spans h_this_kept h_this_text h_this_row h_this_read h_this_many h_this_first h_this_lengths h_this_page i_this_17 j_this, (h_this_dayAt, .inl (cI, 8, .inl f_this_dayAt)), (h_this_secondAt, .inl (cI, 8, .inl f_this_secondAt)), (h_this_spans, .inl (cI, 24, .inl f_this_spans)), (h_this_row, .inl (cJ, 16, .inr (.inl f_this_row)))] H := hP
      have hD : va_D A [cl_X10 h_this h_this_dayAt h_this_secondAt h_this_spans h_this_kept h_this_text h_this_row h_this_read h_this_many h_this_first h_this_lengths h_this_page i_this_17 j_this, (h_this_dayAt, .inl (cI, 8, .inl f_this_dayAt)), (h_this_secondAt, .inl (cI, 8, .inl f_this_secondAt)), (h_this_spans, .inl (cI, 24, .inl f_this_spans)), (h_this_row, .inl (cJ, 16, .inr (.inl f_this_row)))] := hD
      refine lv_aload_n hx hb dX10_between_141 rfl (lv_at hl 2 rfl) ?_
      refine lv_aload_n hx hb dX10_between_142 rfl (lv_at hl 2 rfl) ?_
      refine va_get (D := (dC, dI)) (ci := 9) (v := .long (j_this 20)) (C := RX10) (T := TX10) (N := 29) hx hb hts inX10 hown hK hP 0 rfl rfl 20 (by decide) (hts _ (kq q_1006 rfl)) (fun _ h9 => h9) rfl dX10_between_143 ?_
      refine lv_lneg hx hb dX10_between_146 ?_
      refine lv_lload hx hb dX10_between_147 (lv_at hl 1 rfl) ?_
      refine lv_lneg hx hb dX10_between_149 ?_
      refine lv_lload hx hb dX10_between_150 (lv_at hl 0 rfl) ?_
      refine lv_lneg hx hb dX10_between_152 ?_
      refine lv_iload_n hx hb dX10_between_153 rfl (lv_at hl 4 rfl) ?_
      refine lv_iconst (v := (0 : Int32)) hx hb dX10_between_154 (by decide) ?_
      obtain ⟨r19, i_this_20, hc21, h⟩ := bd2_at h
      refine kjI (kV (own := "DateSpansModel") (C := "DateSpansModel") (b := h_this) (As := [.long (-(j_this 20)), .long (-t0), .long (-z13), .int v3, .int (0 : Int32)]) (rest := []) ⟨hx, hb, hml, hown, hts⟩ (kX10_adds l dC dI cI cJ cB h_this h_this_dayAt h_this_secondAt h_this_spans h_this_kept h_this_text h_this_row h_this_read h_this_many h_this_first h_this_lengths h_this_page N (-(j_this 20)) (-t0) (-z13) v3 (0 : Int32) i_this_17 j_this r19 i_this_20 hc21 _) (kgV (kq q_1290 rfl) (kq q_1292 rfl) (kq q_34 rfl) (kq q_66 rfl) (kq q_1293 rfl)) yd_X10_adds ⟨Nat.le_of_ble_eq_true rfl, Nat.le_of_ble_eq_true rfl⟩ hN hK hP hD [0] rfl rfl (ci := 9) rfl rfl rfl rfl rfl hl.1 rfl (lv_room (Nat.le_of_ble_eq_true rfl)) dX10_between_155) hP hD hS hA [0] rfl rfl (fun H locs hP hD hS => ?_)
      have hP : va_P (dC, dI) vwCl [cl_X10 h_this h_this_dayAt h_this_secondAt h_this_spans h_this_kept h_this_text h_this_row h_this_read h_this_many h_this_first h_this_lengths h_this_page i_this_20 j_this, (h_this_dayAt, .inl (cI, 8, .inl f_this_dayAt)), (h_this_secondAt, .inl (cI, 8, .inl f_this_secondAt)), (h_this_spans, .inl (cI, 24, .inl f_this_spans)), (h_this_row, .inl (cJ, 16, .inr (.inl f_this_row)))] H := hP
      have hD : va_D A [cl_X10 h_this h_this_dayAt h_this_secondAt h_this_spans h_this_kept h_this_text h_this_row h_this_read h_this_many h_this_first h_this_lengths h_this_page i_this_20 j_this, (h_this_dayAt, .inl (cI, 8, .inl f_this_dayAt)), (h_this_secondAt, .inl (cI, 8, .inl f_this_secondAt)), (h_this_spans, .inl (cI, 24, .inl f_this_spans)), (h_this_row, .inl (cJ, 16, .inr (.inl f_this_row)))] := hD
      refine lv_if_eq (tgt := 183) hx hb dX10_between_158 (by decide) (fun c22 => ?_) (fun c22 => ?_)
      · have h := ite_t c22 h
        refine lv_iconst (v := (0 : Int32)) hx hb dX10_between_183 (by decide) ?_
        exact JN_184 _ _ _ _ _ _ _ _ _ _ _ h (lv_sub hl [2, 5, 1, 0] rfl) hP hD hS
      have h := ite_f c22 h
      refine lv_aload_n hx hb dX10_between_161 rfl (lv_at hl 2 rfl) ?_
      refine va_get (D := (dC, dI)) (ci := 9) (v := .int (i_this_20 13)) (C := RX10) (T := TX10) (N := 29) hx hb hts inX10 hown hK hP 0 rfl rfl 13 (by decide) (hts _ (kq q_999 rfl)) (fun _ h9 => h9) rfl dX10_between_162 ?_
      refine lv_iload hx hb dX10_between_165 (lv_at hl 6 rfl) ?_
      refine lv_icmp_ne (tgt := 183) hx hb dX10_between_167 (by decide) (fun c23 => ?_) (fun c23 => ?_)
      · have h := ite_f c23 h
        refine lv_iconst (v := (0 : Int32)) hx hb dX10_between_183 (by decide) ?_
        exact JN_184 _ _ _ _ _ _ _ _ _ _ _ h (lv_sub hl [2, 5, 1, 0] rfl) hP hD hS
      have h := ite_t c23 h
      refine lv_aload_n hx hb dX10_between_170 rfl (lv_at hl 2 rfl) ?_
      refine va_get (D := (dC, dI)) (ci := 9) (v := .int (i_this_20 14)) (C := RX10) (T := TX10) (N := 29) hx hb hts inX10 hown hK hP 0 rfl rfl 14 (by decide) (hts _ (kq q_1000 rfl)) (fun _ h9 => h9) rfl dX10_between_171 ?_
      refine lv_iload hx hb dX10_between_174 (lv_at hl 7 rfl) ?_
      refine lv_icmp_ne (tgt := 183) hx hb dX10_between_176 (by decide) (fun c24 => ?_) (fun c24 => ?_)
      · have h := ite_f c24 h
        refine lv_iconst (v := (0 : Int32)) hx hb dX10_between_183 (by decide) ?_
        exact JN_184 _ _ _ _ _ _ _ _ _ _ _ h (lv_sub hl [2, 5, 1, 0] rfl) hP hD hS
      have h := ite_t c24 h
      refine lv_iconst (v := (1 : Int32)) hx hb dX10_between_179 (by decide) ?_
      refine lv_goto (tgt := 184) hx hb dX10_between_180 (by decide) ?_
      exact JN_184 _ _ _ _ _ _ _ _ _ _ _ h (lv_sub hl [2, 5, 1, 0] rfl) hP hD hS
    have h := ite_t c16 h
    refine lv_bipush (v := (-9 : Int32)) hx hb dX10_between_133 (by decide) ?_
    obtain ⟨rfl, rfl, rfl, rfl, rfl⟩ := pj5 h
    exact hEnd _ _ _ _ hP hS dX10_between_135 rfl
  have h := hf
  unfold fX10_between at h
  refine lv_aload_n hx hb dX10_between_0 rfl (lv_at hl 0 rfl) ?_
  refine lv_iconst (v := (0 : Int32)) hx hb dX10_between_1 (by decide) ?_
  refine va_put (D := (dC, dI)) (ci := 9) (v := .int (0 : Int32)) (ty := .int) (C := RX10) (T := TX10) (N := 29) hx hb hts inX10 tyX10 tyX10_ok nmX10 hown hK hP hD hS 0 rfl rfl 9 (by decide) (hts _ (kq q_995 rfl)) (fun _ h9 => h9) rfl (by decide +kernel) rfl rfl (Nat.le_of_ble_eq_true rfl) dX10_between_2 (fun H locs hP hD hS => ?_)
  have hP : va_P (dC, dI) vwCl [(h_this, .inr (9, [.ref h_this_dayAt, .ref h_this_secondAt, .ref h_this_spans, .ref h_this_kept, .int (i_this 4), .ref h_this_text, .int (i_this 6), .ref h_this_row, .int (i_this 8), .int (0 : Int32), .int (i_this 10), .int (i_this 11), .int (i_this 12), .int (i_this 13), .int (i_this 14), .int (i_this 15), .int (i_this 16), .int (i_this 17), .int (i_this 18), .ref h_this_read, .long (j_this 20), .ref h_this_many, .ref h_this_first, .ref h_this_lengths, .int (i_this 24), .long (j_this 25), .long (j_this 26), .ref h_this_page, .int (i_this 28)])), (h_this_dayAt, .inl (cI, 8, .inl f_this_dayAt)), (h_this_secondAt, .inl (cI, 8, .inl f_this_secondAt)), (h_this_spans, .inl (cI, 24, .inl f_this_spans)), (h_this_row, .inl (cJ, 16, .inr (.inl f_this_row)))] H := hP
  have hD : va_D A [(h_this, .inr (9, [.ref h_this_dayAt, .ref h_this_secondAt, .ref h_this_spans, .ref h_this_kept, .int (i_this 4), .ref h_this_text, .int (i_this 6), .ref h_this_row, .int (i_this 8), .int (0 : Int32), .int (i_this 10), .int (i_this 11), .int (i_this 12), .int (i_this 13), .int (i_this 14), .int (i_this 15), .int (i_this 16), .int (i_this 17), .int (i_this 18), .ref h_this_read, .long (j_this 20), .ref h_this_many, .ref h_this_first, .ref h_this_lengths, .int (i_this 24), .long (j_this 25), .long (j_this 26), .ref h_this_page, .int (i_this 28)])), (h_this_dayAt, .inl (cI, 8, .inl f_this_dayAt)), (h_this_secondAt, .inl (cI, 8, .inl f_this_secondAt)), (h_this_spans, .inl (cI, 24, .inl f_this_spans)), (h_this_row, .inl (cJ, 16, .inr (.inl f_this_row)))] := hD
  refine lv_iload_n hx hb dX10_between_5 rfl (lv_at hl 1 rfl) ?_
  have hP : va_P (dC, dI) vwCl [cl_X10 h_this h_this_dayAt h_this_secondAt h_this_spans h_this_kept h_this_text h_this_row h_this_read h_this_many h_this_first h_this_lengths h_this_page (upd i_this 9 (0 : Int32)) j_this, (h_this_dayAt, .inl (cI, 8, .inl f_this_dayAt)), (h_this_secondAt, .inl (cI, 8, .inl f_this_secondAt)), (h_this_spans, .inl (cI, 24, .inl f_this_spans)), (h_this_row, .inl (cJ, 16, .inr (.inl f_this_row)))] H := hP
  have hD : va_D A [cl_X10 h_this h_this_dayAt h_this_secondAt h_this_spans h_this_kept h_this_text h_this_row h_this_read h_this_many h_this_first h_this_lengths h_this_page (upd i_this 9 (0 : Int32)) j_this, (h_this_dayAt, .inl (cI, 8, .inl f_this_dayAt)), (h_this_secondAt, .inl (cI, 8, .inl f_this_secondAt)), (h_this_spans, .inl (cI, 24, .inl f_this_spans)), (h_this_row, .inl (cJ, 16, .inr (.inl f_this_row)))] := hD
  obtain ⟨r25, hc26, h⟩ := bd1_at h
  refine kjSI (kS0 (own := "DateSpansModel") (As := [.int p1]) (rest := []) ⟨hx, hb, hml, hown, hts⟩ (kX10_isSlot l N p1 r25 hc26) (kgS (kq q_1123 rfl) (kq q_1124 rfl) (kq q_66 rfl) (kq q_1125 rfl)) yd_X10_isSlot ⟨Nat.le_of_ble_eq_true rfl, Nat.le_of_ble_eq_true rfl⟩ rfl rfl hl.1 rfl (lv_room (Nat.le_of_ble_eq_true rfl)) dX10_between_6) ?_
  refine lv_if_eq (tgt := 47) hx hb dX10_between_9 (by decide) (fun c27 => ?_) (fun c27 => ?_)
  · have h := ite_t c27 h
    refine lv_iconst (v := (-1 : Int32)) hx hb dX10_between_47 (by decide) ?_
    obtain ⟨rfl, rfl, rfl, rfl, rfl⟩ := pj5 h
    exact hEnd _ _ _ _ hP hS dX10_between_48 rfl
  have h := ite_f c27 h
  refine lv_iload_n hx hb dX10_between_12 rfl (lv_at hl 2 rfl) ?_
  obtain ⟨r28, hc29, h⟩ := bd1_at h
  refine kjSI (kS0 (own := "DateSpansModel") (As := [.int p2]) (rest := []) ⟨hx, hb, hml, hown, hts⟩ (kX10_isSlot l N p2 r28 hc29) (kgS (kq q_1123 rfl) (kq q_1124 rfl) (kq q_66 rfl) (kq q_1125 rfl)) yd_X10_isSlot ⟨Nat.le_of_ble_eq_true rfl, Nat.le_of_ble_eq_true rfl⟩ rfl rfl hl.1 rfl (lv_room (Nat.le_of_ble_eq_true rfl)) dX10_between_13) ?_
  refine lv_if_eq (tgt := 47) hx hb dX10_between_16 (by decide) (fun c30 => ?_) (fun c30 => ?_)
  · have h := ite_t c30 h
    refine lv_iconst (v := (-1 : Int32)) hx hb dX10_between_47 (by decide) ?_
    obtain ⟨rfl, rfl, rfl, rfl, rfl⟩ := pj5 h
    exact hEnd _ _ _ _ hP hS dX10_between_48 rfl
  have h := ite_f c30 h
  refine lv_iload_n hx hb dX10_between_19 rfl (lv_at hl 3 rfl) ?_
  obtain ⟨r31, hc32, h⟩ := bd1_at h
  refine kjSI (kS0 (own := "DateSpansModel") (As := [.int p3]) (rest := []) ⟨hx, hb, hml, hown, hts⟩ (kX10_isLaw l N p3 r31 hc32) (kgS (kq q_1275 rfl) (kq q_1276 rfl) (kq q_66 rfl) (kq q_1277 rfl)) yd_X10_isLaw ⟨Nat.le_of_ble_eq_true rfl, Nat.le_of_ble_eq_true rfl⟩ rfl rfl hl.1 rfl (lv_room (Nat.le_of_ble_eq_true rfl)) dX10_between_20) ?_
  refine lv_if_eq (tgt := 47) hx hb dX10_between_23 (by decide) (fun c33 => ?_) (fun c33 => ?_)
  · have h := ite_t c33 h
    refine lv_iconst (v := (-1 : Int32)) hx hb dX10_between_47 (by decide) ?_
    obtain ⟨rfl, rfl, rfl, rfl, rfl⟩ := pj5 h
    exact hEnd _ _ _ _ hP hS dX10_between_48 rfl
  have h := ite_f c33 h
  refine lv_iload hx hb dX10_between_26 (lv_at hl 4 rfl) ?_
  refine lv_i2l hx hb dX10_between_28 rfl ?_
  refine lv_lconst (v := (1 : Int64)) hx hb dX10_between_29 (by decide) ?_
  refine lv_ldc2 (v := (7 : Int64)) hx hb hown (hts _ (kq q_1126 rfl)) dX10_between_30 ?_
  obtain ⟨r34, hc35, h⟩ := bd1_at h
  refine kjSI (kS0 (own := "DateSpansModel") (As := [.long p4.toInt64, .long (1 : Int64), .long (7 : Int64)]) (rest := []) ⟨hx, hb, hml, hown, hts⟩ (kX10_in l N p4.toInt64 (1 : Int64) (7 : Int64) r34 hc35) (kgS (kq q_1086 rfl) (kq q_1087 rfl) (kq q_66 rfl) (kq q_1088 rfl)) yd_X10_in ⟨Nat.le_of_ble_eq_true rfl, Nat.le_of_ble_eq_true rfl⟩ rfl rfl hl.1 rfl (lv_room (Nat.le_of_ble_eq_true rfl)) dX10_between_33) ?_
  refine lv_if_eq (tgt := 47) hx hb dX10_between_36 (by decide) (fun c36 => ?_) (fun c36 => ?_)
  · have h := ite_t c36 h
    refine lv_iconst (v := (-1 : Int32)) hx hb dX10_between_47 (by decide) ?_
    obtain ⟨rfl, rfl, rfl, rfl, rfl⟩ := pj5 h
    exact hEnd _ _ _ _ hP hS dX10_between_48 rfl
  have h := ite_f c36 h
  refine lv_iload hx hb dX10_between_39 (lv_at hl 5 rfl) ?_
  obtain ⟨r37, hc38, h⟩ := bd1_at h
  refine kjSI (kS0 (own := "DateSpansModel") (As := [.int p5]) (rest := []) ⟨hx, hb, hml, hown, hts⟩ (kX10_isSlot l N p5 r37 hc38) (kgS (kq q_1123 rfl) (kq q_1124 rfl) (kq q_66 rfl) (kq q_1125 rfl)) yd_X10_isSlot ⟨Nat.le_of_ble_eq_true rfl, Nat.le_of_ble_eq_true rfl⟩ rfl rfl hl.1 rfl (lv_room (Nat.le_of_ble_eq_true rfl)) dX10_between_41) ?_
  refine lv_if_ne (tgt := 49) hx hb dX10_between_44 (by decide) (fun c39 => ?_) (fun c39 => ?_)
  · have h := ite_f c39 h
    refine lv_aload_n hx hb dX10_between_49 rfl (lv_at hl 0 rfl) ?_
    refine lv_iload_n hx hb dX10_between_50 rfl (lv_at hl 2 rfl) ?_
    obtain ⟨r40, hc41, h⟩ := bd1_at h
    refine kjL (kV (own := "DateSpansModel") (C := "DateSpansModel") (b := h_this) (As := [.int p2]) (rest := []) ⟨hx, hb, hml, hown, hts⟩ (kX10_instantOf l dC dI cI cJ cB h_this h_this_dayAt h_this_secondAt h_this_spans h_this_kept h_this_text h_this_row h_this_read h_this_many h_this_first h_this_lengths h_this_page N p2 (upd i_this 9 (0 : Int32)) j_this f_this_dayAt f_this_secondAt r40 hc41 _) (kgV (kq q_1340 rfl) (kq q_1342 rfl) (kq q_39 rfl) (kq q_66 rfl) (kq q_1343 rfl)) yd_X10_instantOf ⟨Nat.le_of_ble_eq_true rfl, Nat.le_of_ble_eq_true rfl⟩ hN hK hP hD [0, 1, 2] rfl rfl (ci := 9) rfl rfl rfl rfl rfl hl.1 rfl (lv_room (Nat.le_of_ble_eq_true rfl)) dX10_between_51) hP hD hS hA [0, 1, 2] rfl rfl (fun H locs hP hD hS => ?_)
    have hP : va_P (dC, dI) vwCl [cl_X10 h_this h_this_dayAt h_this_secondAt h_this_spans h_this_kept h_this_text h_this_row h_this_read h_this_many h_this_first h_this_lengths h_this_page (upd i_this 9 (0 : Int32)) j_this, (h_this_dayAt, .inl (cI, 8, .inl f_this_dayAt)), (h_this_secondAt, .inl (cI, 8, .inl f_this_secondAt)), (h_this_spans, .inl (cI, 24, .inl f_this_spans)), (h_this_row, .inl (cJ, 16, .inr (.inl f_this_row)))] H := hP
    have hD : va_D A [cl_X10 h_this h_this_dayAt h_this_secondAt h_this_spans h_this_kept h_this_text h_this_row h_this_read h_this_many h_this_first h_this_lengths h_this_page (upd i_this 9 (0 : Int32)) j_this, (h_this_dayAt, .inl (cI, 8, .inl f_this_dayAt)), (h_this_secondAt, .inl (cI, 8, .inl f_this_secondAt)), (h_this_spans, .inl (cI, 24, .inl f_this_spans)), (h_this_row, .inl (cJ, 16, .inr (.inl f_this_row)))] := hD
    refine lv_lstore (lv' := [(6, .long r40), (0, .ref h_this), (1, .int p1), (2, .int p2), (3, .int p3), (4, .int p4), (5, .int p5)]) hx hb dX10_between_54 hl (by decide) rfl (fun ls hl => ?_)
    refine lv_aload_n hx hb dX10_between_56 rfl (lv_at hl 1 rfl) ?_
    refine va_get (D := (dC, dI)) (ci := 9) (v := .ref h_this_dayAt) (C := RX10) (T := TX10) (N := 29) hx hb hts inX10 hown hK hP 0 rfl rfl 0 (by decide) (hts _ (kq q_986 rfl)) (fun _ h9 => h9) rfl dX10_between_57 ?_
    refine lv_iload_n hx hb dX10_between_60 rfl (lv_at hl 2 rfl) ?_
    obtain ⟨hi42, h⟩ := gi_at h
    refine va_iald hx hb hK hP 1 0 rfl rfl hi42 dX10_between_61 ?_
    refine lv_topi (fun z43 ez43 => ?_)
    have h := nm_at ez43 h
    refine lv_istore (lv' := [(8, .int z43), (6, .long r40), (0, .ref h_this), (1, .int p1), (2, .int p2), (3, .int p3), (4, .int p4), (5, .int p5)]) hx hb dX10_between_62 hl (by decide) rfl (fun ls hl => ?_)
    refine lv_aload_n hx hb dX10_between_64 rfl (lv_at hl 2 rfl) ?_
    refine va_get (D := (dC, dI)) (ci := 9) (v := .ref h_this_secondAt) (C := RX10) (T := TX10) (N := 29) hx hb hts inX10 hown hK hP 0 rfl rfl 1 (by decide) (hts _ (kq q_987 rfl)) (fun _ h9 => h9) rfl dX10_between_65 ?_
    refine lv_iload_n hx hb dX10_between_68 rfl (lv_at hl 3 rfl) ?_
    obtain ⟨hi44, h⟩ := gi_at h
    refine va_iald hx hb hK hP 2 0 rfl rfl hi44 dX10_between_69 ?_
    refine lv_topi (fun z45 ez45 => ?_)
    have h := nm_at ez45 h
    refine lv_istore (lv' := [(9, .int z45), (8, .int z43), (6, .long r40), (0, .ref h_this), (1, .int p1), (2, .int p2), (3, .int p3), (4, .int p4), (5, .int p5)]) hx hb dX10_between_70 hl (by decide) rfl (fun ls hl => ?_)
    refine lv_aload_n hx hb dX10_between_72 rfl (lv_at hl 3 rfl) ?_
    refine lv_iload hx hb dX10_between_73 (lv_at hl 1 rfl) ?_
    refine lv_iload hx hb dX10_between_75 (lv_at hl 0 rfl) ?_
    refine lv_lload hx hb dX10_between_77 (lv_at hl 2 rfl) ?_
    refine lv_iload_n hx hb dX10_between_79 rfl (lv_at hl 6 rfl) ?_
    refine lv_iload hx hb dX10_between_80 (lv_at hl 7 rfl) ?_
    obtain ⟨i_this_46, j_this_47, hc48, h⟩ := bd2_at h
    refine kjV (kV (own := "DateSpansModel") (C := "DateSpansModel") (b := h_this) (As := [.int z43, .int z45, .long r40, .int p3, .int p4]) (rest := []) ⟨hx, hb, hml, hown, hts⟩ (kX10_differs l dC dI cI cJ cB h_this h_this_dayAt h_this_secondAt h_this_spans h_this_kept h_this_text h_this_row h_this_read h_this_many h_this_first h_this_lengths h_this_page N z43 z45 r40 p3 p4 (upd i_this 9 (0 : Int32)) j_this i_this_46 j_this_47 hc48 _) (kgV (kq q_1344 rfl) (kq q_1346 rfl) (kq q_40 rfl) (kq q_66 rfl) (kq q_1347 rfl)) yd_X10_differs ⟨Nat.le_of_ble_eq_true rfl, Nat.le_of_ble_eq_true rfl⟩ hN hK hP hD [0] rfl rfl (ci := 9) rfl rfl rfl rfl rfl hl.1 rfl (lv_room (Nat.le_of_ble_eq_true rfl)) dX10_between_82) hP hD hS hA [0] rfl rfl (fun H locs hP hD hS => ?_)
    have hP : va_P (dC, dI) vwCl [cl_X10 h_this h_this_dayAt h_this_secondAt h_this_spans h_this_kept h_this_text h_this_row h_this_read h_this_many h_this_first h_this_lengths h_this_page i_this_46 j_this_47, (h_this_dayAt, .inl (cI, 8, .inl f_this_dayAt)), (h_this_secondAt, .inl (cI, 8, .inl f_this_secondAt)), (h_this_spans, .inl (cI, 24, .inl f_this_spans)), (h_this_row, .inl (cJ, 16, .inr (.inl f_this_row)))] H := hP
    have hD : va_D A [cl_X10 h_this h_this_dayAt h_this_secondAt h_this_spans h_this_kept h_this_text h_this_row h_this_read h_this_many h_this_first h_this_lengths h_this_page i_this_46 j_this_47, (h_this_dayAt, .inl (cI, 8, .inl f_this_dayAt)), (h_this_secondAt, .inl (cI, 8, .inl f_this_secondAt)), (h_this_spans, .inl (cI, 24, .inl f_this_spans)), (h_this_row, .inl (cJ, 16, .inr (.inl f_this_row)))] := hD
    refine lv_lload hx hb dX10_between_85 (lv_at hl 2 rfl) ?_
    refine lv_aload_n hx hb dX10_between_87 rfl (lv_at hl 3 rfl) ?_
    obtain ⟨r49, hc50, h⟩ := bd1_at h
    refine kjL (kV (own := "DateSpansModel") (C := "DateSpansModel") (b := h_this) (As := []) (rest := [.long r40]) ⟨hx, hb, hml, hown, hts⟩ (kX10_instant l dC dI cI cJ cB h_this h_this_dayAt h_this_secondAt h_this_spans h_this_kept h_this_text h_this_row h_this_read h_this_many h_this_first h_this_lengths h_this_page N i_this_46 j_this_47 r49 hc50 _) (kgV (kq q_1352 rfl) (kq q_1354 rfl) (kq q_42 rfl) (kq q_66 rfl) (kq q_1355 rfl)) yd_X10_instant ⟨Nat.le_of_ble_eq_true rfl, Nat.le_of_ble_eq_true rfl⟩ hN hK hP hD [0] rfl rfl (ci := 9) rfl rfl rfl rfl rfl hl.1 rfl (lv_room (Nat.le_of_ble_eq_true rfl)) dX10_between_88) hP hD hS hA [0] rfl rfl (fun H locs hP hD hS => ?_)
    have hP : va_P (dC, dI) vwCl [cl_X10 h_this h_this_dayAt h_this_secondAt h_this_spans h_this_kept h_this_text h_this_row h_this_read h_this_many h_this_first h_this_lengths h_this_page i_this_46 j_this_47, (h_this_dayAt, .inl (cI, 8, .inl f_this_dayAt)), (h_this_secondAt, .inl (cI, 8, .inl f_this_secondAt)), (h_this_spans, .inl (cI, 24, .inl f_this_spans)), (h_this_row, .inl (cJ, 16, .inr (.inl f_this_row)))] H := hP
    have hD : va_D A [cl_X10 h_this h_this_dayAt h_this_secondAt h_this_spans h_this_kept h_this_text h_this_row h_this_read h_this_many h_this_first h_this_lengths h_this_page i_this_46 j_this_47, (h_this_dayAt, .inl (cI, 8, .inl f_this_dayAt)), (h_this_secondAt, .inl (cI, 8, .inl f_this_secondAt)), (h_this_spans, .inl (cI, 24, .inl f_this_spans)), (h_this_row, .inl (cJ, 16, .inr (.inl f_this_row)))] := hD
    refine lv_lsub hx hb dX10_between_91 ?_
    refine lv_topl (fun z51 ez51 => ?_)
    have h := nm_at ez51 h
    refine lv_lstore (lv' := [(10, .long z51), (9, .int z45), (8, .int z43), (6, .long r40), (0, .ref h_this), (1, .int p1), (2, .int p2), (3, .int p3), (4, .int p4), (5, .int p5)]) hx hb dX10_between_92 hl (by decide) rfl (fun ls hl => ?_)
    refine lv_iload hx hb dX10_between_94 (lv_at hl 8 rfl) ?_
    refine lv_iconst (v := (4 : Int32)) hx hb dX10_between_96 (by decide) ?_
    refine lv_iand hx hb dX10_between_97 ?_
    refine lv_iconst (v := (4 : Int32)) hx hb dX10_between_98 (by decide) ?_
    refine lv_icmp_ne (tgt := 111) hx hb dX10_between_99 (by decide) (fun c52 => ?_) (fun c52 => ?_)
    · have h := ite_f c52 h
      refine lv_lconst (v := (0 : Int64)) hx hb dX10_between_111 (by decide) ?_
      exact JN_112 _ _ _ _ _ _ _ _ _ _ _ _ _ _ h (lv_sub hl [4, 6, 7, 9, 2, 1, 0] rfl) hP hD hS
    have h := ite_t c52 h
    refine lv_lload hx hb dX10_between_102 (lv_at hl 0 rfl) ?_
    refine lv_ldc2 (v := (86400 : Int64)) hx hb hown (hts _ (kq q_1309 rfl)) dX10_between_104 ?_
    refine lv_ldiv hx hb dX10_between_107 (by decide) ?_
    refine lv_goto (tgt := 112) hx hb dX10_between_108 (by decide) ?_
    exact JN_112 _ _ _ _ _ _ _ _ _ _ _ _ _ _ h (lv_sub hl [4, 6, 7, 9, 2, 1, 0] rfl) hP hD hS
  have h := ite_t c39 h
  refine lv_iconst (v := (-1 : Int32)) hx hb dX10_between_47 (by decide) ?_
  obtain ⟨rfl, rfl, rfl, rfl, rfl⟩ := pj5 h
  exact hEnd _ _ _ _ hP hS dX10_between_48 rfl
